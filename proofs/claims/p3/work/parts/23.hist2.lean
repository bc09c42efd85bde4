theorem hi_neg : ∀ q : Nat, q < 8 → ¬ (0 : Int32) ≤ -1 - nI q := by decide +kernel
theorem hi_sub : ∀ q : Nat, q < 8 → (-1 : Int32) - (-1 - nI q) = nI q := by decide +kernel
theorem dX2_codeOfPlace_0 : decode cX2_codeOfPlace 0 = .ok (.iconst (-1), 1) := by decide +kernel
theorem dX2_codeOfPlace_1 : decode cX2_codeOfPlace 1 = .ok (.iload_n 0, 1) := by decide +kernel
theorem dX2_codeOfPlace_2 : decode cX2_codeOfPlace 2 = .ok (.isub, 1) := by decide +kernel
theorem dX2_codeOfPlace_3 : decode cX2_codeOfPlace 3 = .ok (.ireturn, 1) := by decide +kernel
def vs_X2_codeOfPlace : List Cond := .code yX2_codeOfPlace cX2_codeOfPlace 1 (some .int) :: ([])
set_option maxHeartbeats 4000000 in
set_option maxRecDepth 100000 in
theorem c_X2_codeOfPlace (l : Launch) (dC : Nat → ClassId) (dI : Nat → Nat → Nat) (sz : Nat) (q : Nat) : Met l yX2_codeOfPlace vs_X2_codeOfPlace ({ frames := 0, cells := 0, slots := 0, locals := 0 }) (va_Pc [.int (nI q)] (pu_B (dC, dI) [] [] sz)) (va_Qi (fun (r : Int32) (_ : Unit) => r = -1 - nI q) (fun _ _ => True) (va_A [] sz)) 0 0 (va_A [] sz) := by
  refine Met.ofW (cc := cX2_codeOfPlace) (maxL := 1) (ret := (some .int)) (by decide) rfl ?_
  intro p e s m args below meth c s₁ B hml hv
  obtain ⟨rfl, rfl, hP, hK, hD0⟩ := hv
  have hx := B.exec
  have hb := B.bytes
  have hr := B.returns
  have hts := atoms_spec (ws := vs_X2_codeOfPlace) B.pre
  have hown : s.vm.findClass RX2 = some m.cls := findClass_of_methodNamed B.named
  have hlocks := B.notSynchronized
  have hD := hD0
  have hA : ∀ q : Nat, s.heap.size ≤ q → va_A [] s.heap.size q := fun _ h => Or.inr h
  have hS : va_S (va_A [] s.heap.size) s.heap s.heap [] := va_S.rf
  have hl := lv_entry ([.int (nI q)]) (n := 1) (Nat.le_of_ble_eq_true rfl)
  rw [lg_entry_eq]
  generalize (lg_sl ([.int (nI q)]) ++ List.replicate (1 - (lg_sl ([.int (nI q)])).length) Slot.unset).toArray = ls at hl ⊢
  have hl : lv_has ls 1 [(0, .int (nI q))] := hl
  refine lv_iconst (v := (-1)) hx hb dX2_codeOfPlace_0 (by decide) ?_
  refine lv_iload_n hx hb dX2_codeOfPlace_1 rfl (lv_at hl 0 rfl) ?_
  refine lv_isub hx hb dX2_codeOfPlace_2 ?_
  exact W.iret (v := ((-1) - (nI q))) hx hb hr (fun t ht hW => ⟨⟨((-1) - (nI q)), (), rfl, rfl, trivial⟩, hS.F ht⟩) hS.2.2 dX2_codeOfPlace_3
theorem dX2_takesBack_0 : decode cX2_takesBack 0 = .ok (.aload_n 0, 1) := by decide +kernel
theorem dX2_takesBack_1 : decode cX2_takesBack 1 = .ok (.getfield 18, 3) := by decide +kernel
theorem dX2_takesBack_4 : decode cX2_takesBack 4 = .ok (.ifCond .ne 5, 3) := by decide +kernel
theorem dX2_takesBack_7 : decode cX2_takesBack 7 = .ok (.iconst 0, 1) := by decide +kernel
theorem dX2_takesBack_8 : decode cX2_takesBack 8 = .ok (.ireturn, 1) := by decide +kernel
theorem dX2_takesBack_9 : decode cX2_takesBack 9 = .ok (.aload_n 0, 1) := by decide +kernel
theorem dX2_takesBack_10 : decode cX2_takesBack 10 = .ok (.dup, 1) := by decide +kernel
theorem dX2_takesBack_11 : decode cX2_takesBack 11 = .ok (.getfield 18, 3) := by decide +kernel
theorem dX2_takesBack_14 : decode cX2_takesBack 14 = .ok (.iconst 1, 1) := by decide +kernel
theorem dX2_takesBack_15 : decode cX2_takesBack 15 = .ok (.isub, 1) := by decide +kernel
theorem dX2_takesBack_16 : decode cX2_takesBack 16 = .ok (.putfield 18, 3) := by decide +kernel
theorem dX2_takesBack_19 : decode cX2_takesBack 19 = .ok (.aload_n 0, 1) := by decide +kernel
theorem dX2_takesBack_20 : decode cX2_takesBack 20 = .ok (.getfield 9, 3) := by decide +kernel
theorem dX2_takesBack_23 : decode cX2_takesBack 23 = .ok (.aload_n 0, 1) := by decide +kernel
theorem dX2_takesBack_24 : decode cX2_takesBack 24 = .ok (.getfield 18, 3) := by decide +kernel
theorem dX2_takesBack_27 : decode cX2_takesBack 27 = .ok (.iaload, 1) := by decide +kernel
theorem dX2_takesBack_28 : decode cX2_takesBack 28 = .ok (.istore_n 2, 1) := by decide +kernel
theorem dX2_takesBack_29 : decode cX2_takesBack 29 = .ok (.iload_n 2, 1) := by decide +kernel
theorem dX2_takesBack_30 : decode cX2_takesBack 30 = .ok (.ifCond .ge 32, 3) := by decide +kernel
theorem dX2_takesBack_33 : decode cX2_takesBack 33 = .ok (.aload_n 1, 1) := by decide +kernel
theorem dX2_takesBack_34 : decode cX2_takesBack 34 = .ok (.getfield 22, 3) := by decide +kernel
theorem dX2_takesBack_37 : decode cX2_takesBack 37 = .ok (.iconst (-1), 1) := by decide +kernel
theorem dX2_takesBack_38 : decode cX2_takesBack 38 = .ok (.iload_n 2, 1) := by decide +kernel
theorem dX2_takesBack_39 : decode cX2_takesBack 39 = .ok (.isub, 1) := by decide +kernel
theorem dX2_takesBack_40 : decode cX2_takesBack 40 = .ok (.aload_n 0, 1) := by decide +kernel
theorem dX2_takesBack_41 : decode cX2_takesBack 41 = .ok (.getfield 15, 3) := by decide +kernel
theorem dX2_takesBack_44 : decode cX2_takesBack 44 = .ok (.aload_n 0, 1) := by decide +kernel
theorem dX2_takesBack_45 : decode cX2_takesBack 45 = .ok (.getfield 18, 3) := by decide +kernel
theorem dX2_takesBack_48 : decode cX2_takesBack 48 = .ok (.iaload, 1) := by decide +kernel
theorem dX2_takesBack_49 : decode cX2_takesBack 49 = .ok (.iconst 1, 1) := by decide +kernel
theorem dX2_takesBack_50 : decode cX2_takesBack 50 = .ok (.if_icmp .ne 7, 3) := by decide +kernel
theorem dX2_takesBack_53 : decode cX2_takesBack 53 = .ok (.iconst 1, 1) := by decide +kernel
theorem dX2_takesBack_54 : decode cX2_takesBack 54 = .ok (.goto 4, 3) := by decide +kernel
theorem dX2_takesBack_57 : decode cX2_takesBack 57 = .ok (.iconst 0, 1) := by decide +kernel
theorem dX2_takesBack_58 : decode cX2_takesBack 58 = .ok (.bastore, 1) := by decide +kernel
theorem dX2_takesBack_59 : decode cX2_takesBack 59 = .ok (.goto 17, 3) := by decide +kernel
theorem dX2_takesBack_62 : decode cX2_takesBack 62 = .ok (.aload_n 1, 1) := by decide +kernel
theorem dX2_takesBack_63 : decode cX2_takesBack 63 = .ok (.iload_n 2, 1) := by decide +kernel
theorem dX2_takesBack_64 : decode cX2_takesBack 64 = .ok (.aload_n 0, 1) := by decide +kernel
theorem dX2_takesBack_65 : decode cX2_takesBack 65 = .ok (.getfield 15, 3) := by decide +kernel
theorem dX2_takesBack_68 : decode cX2_takesBack 68 = .ok (.aload_n 0, 1) := by decide +kernel
theorem dX2_takesBack_69 : decode cX2_takesBack 69 = .ok (.getfield 18, 3) := by decide +kernel
theorem dX2_takesBack_72 : decode cX2_takesBack 72 = .ok (.iaload, 1) := by decide +kernel
theorem dX2_takesBack_73 : decode cX2_takesBack 73 = .ok (.invokevirtual 28, 3) := by decide +kernel
theorem dX2_takesBack_76 : decode cX2_takesBack 76 = .ok (.iconst 1, 1) := by decide +kernel
theorem dX2_takesBack_77 : decode cX2_takesBack 77 = .ok (.ireturn, 1) := by decide +kernel
def vs_X2_takesBack : List Cond := .code yX2_takesBack cX2_takesBack 3 (some .boolean) :: ([.fieldLink RX2 18 "ClockReach$History" "count" "I", .fieldLink RX2 9 "ClockReach$History" "codes" "[I", .fieldLink RX2 15 "ClockReach$History" "olds" "[I", .methodLink RX2 28 yX0_setNumber, .instanceMethod yX0_setNumber, .selects RX0 yX0_setNumber yX0_setNumber, .initialized RX0, .code yX0_setNumber cX0_setNumber 3 none, .fieldLink RX0 38 "ClockReach$Automaton" "numbers" "[I", .methodLink RX0 69 yX0_setBounds, .instanceMethod yX0_setBounds, .selects RX0 yX0_setBounds yX0_setBounds, .code yX0_setBounds cX0_setBounds 4 none, .fieldLink RX0 35 "ClockReach$Automaton" "hows" "[I", .fieldLink RX0 41 "ClockReach$Automaton" "ceilings" "[I", .fieldLink RX0 44 "ClockReach$Automaton" "floors" "[I", .constant RX0 75 (2147483647), .methodLink RX0 76 yX0_measure, .instanceMethod yX0_measure, .selects RX0 yX0_measure yX0_measure, .code yX0_measure cX0_measure 5 none, .fieldLink RX0 29 "ClockReach$Automaton" "counts" "[I", .methodLink RX0 65 yX0_slot, .static yX0_slot, .code yX0_slot cX0_slot 2 (some .int), .fieldLink RX0 32 "ClockReach$Automaton" "conditionClocks" "[I", .fieldLink RX0 47 "ClockReach$Automaton" "greatest" "[I", .methodLink RX0 79 Lib.Math.max.name, .static Lib.Math.max.name, .initialized "java/lang/Math", .code Lib.Math.max.name Lib.Math.max.code 2 (some .int), .fieldLink RX0 53 "ClockReach$Automaton" "upper" "[I", .fieldLink RX0 50 "ClockReach$Automaton" "lower" "[I", .fieldLink RX2 22 "ClockReach$Automaton" "hurried" "[Z"] ++ wsX20 ++ wsX00)
theorem g_X2_takesBack_X0_setNumber : GoodIn vs_X2_takesBack (wsV RX2 28 RX0 yX0_setNumber vs_X0_setNumber) := goodIn_r _ [4, 5, 6, 7, 8, 9, 10, 11, 12, 7, 13, 14, 15, 16, 17, 18, 19, 20, 21, 22, 23, 24, 25, 26, 27, 28, 29, 30, 31, 32, 33, 38, 39, 40, 41, 42, 43, 44, 45, 46, 47, 48, 49, 50, 51, 52, 53, 54] (by decide +kernel) (by decide +kernel)
set_option maxHeartbeats 4000000 in
set_option maxRecDepth 100000 in
theorem c_X2_takesBack (l : Launch) (dC : Nat → ClassId) (dI : Nat → Nat → Nat) (sz : Nat) (au q4 q5 q6 q7 q8 q9 q10 q11 q12 q13 q14 q15 q16 : Nat) (nc np ne : Nat) (st0 : Int32) (k4 k8 k9 k10 k11 k12 k13 k14 k15 k16 : ClassId) (f4 f8 f9 f10 f11 f12 f13 f14 f15 f16 : Nat → Int32) (hy : Nat) (co ol : Nat) (kco kol : ClassId) (hk : Nat) (fo fl : Nat → Int32) (hc : ao_c nc f8 f9) (hnc : nc ≤ 3) (hk20 : hk ≤ 20) (hok : hi_ok hk fo) : Met l yX2_takesBack vs_X2_takesBack ({ frames := 3, cells := 0, slots := 0, locals := 67 }) (va_Pc [.ref hy, .ref au] (pu_B (dC, dI) [(au, .inr (0, [.int (nI nc), .int (nI np), .int (nI ne), .int st0, .ref q4, .ref q5, .ref q6, .ref q7, .ref q8, .ref q9, .ref q10, .ref q11, .ref q12, .ref q13, .ref q14, .ref q15, .ref q16])), (q4, .inl (k4, 8, .inl f4)), (q8, .inl (k8, 22, .inl f8)), (q9, .inl (k9, 88, .inl f9)), (q10, .inl (k10, 88, .inl f10)), (q11, .inl (k11, 88, .inl f11)), (q12, .inl (k12, 88, .inl f12)), (q13, .inl (k13, 88, .inl f13)), (q14, .inl (k14, 4, .inl f14)), (q15, .inl (k15, 4, .inl f15)), (q16, .inl (k16, 4, .inl f16)), (hy, .inr (2, [.int (nI hk), .ref co, .ref ol])), (co, .inl (kco, 20, .inl fo)), (ol, .inl (kol, 20, .inl fl))] [(k4, .boolean), (k8, .int), (k9, .int), (k10, .int), (k11, .int), (k12, .int), (k13, .int), (k14, .int), (k15, .int), (k16, .int), (kco, .int), (kol, .int)] sz)) (va_Qi (fun (r : Int32) (_ : Unit) => r = 0 ∨ r = 1) (fun _ t => ∃ (g g0 g1 g2 g3 g4 g5 : Nat → Int32) (k1 : Nat), pu_E (dC, dI) [(au, .inr (0, [.int (nI nc), .int (nI np), .int (nI ne), .int st0, .ref q4, .ref q5, .ref q6, .ref q7, .ref q8, .ref q9, .ref q10, .ref q11, .ref q12, .ref q13, .ref q14, .ref q15, .ref q16])), (q4, .inl (k4, 8, .inl g)), (q8, .inl (k8, 22, .inl f8)), (q9, .inl (k9, 88, .inl f9)), (q10, .inl (k10, 88, .inl f10)), (q11, .inl (k11, 88, .inl g0)), (q12, .inl (k12, 88, .inl g1)), (q13, .inl (k13, 88, .inl g2)), (q14, .inl (k14, 4, .inl g3)), (q15, .inl (k15, 4, .inl g4)), (q16, .inl (k16, 4, .inl g5)), (hy, .inr (2, [.int (nI k1), .ref co, .ref ol])), (co, .inl (kco, 20, .inl fo)), (ol, .inl (kol, 20, .inl fl))] [(k4, .boolean), (k8, .int), (k9, .int), (k10, .int), (k11, .int), (k12, .int), (k13, .int), (k14, .int), (k15, .int), (k16, .int), (kco, .int), (kol, .int)] (va_A ([(au, .inr (0, [.int (nI nc), .int (nI np), .int (nI ne), .int st0, .ref q4, .ref q5, .ref q6, .ref q7, .ref q8, .ref q9, .ref q10, .ref q11, .ref q12, .ref q13, .ref q14, .ref q15, .ref q16])), (q4, .inl (k4, 8, .inl f4)), (q8, .inl (k8, 22, .inl f8)), (q9, .inl (k9, 88, .inl f9)), (q10, .inl (k10, 88, .inl f10)), (q11, .inl (k11, 88, .inl f11)), (q12, .inl (k12, 88, .inl f12)), (q13, .inl (k13, 88, .inl f13)), (q14, .inl (k14, 4, .inl f14)), (q15, .inl (k15, 4, .inl f15)), (q16, .inl (k16, 4, .inl f16)), (hy, .inr (2, [.int (nI hk), .ref co, .ref ol])), (co, .inl (kco, 20, .inl fo)), (ol, .inl (kol, 20, .inl fl))]) sz) t ∧ k1 ≤ hk) (va_A ([(au, .inr (0, [.int (nI nc), .int (nI np), .int (nI ne), .int st0, .ref q4, .ref q5, .ref q6, .ref q7, .ref q8, .ref q9, .ref q10, .ref q11, .ref q12, .ref q13, .ref q14, .ref q15, .ref q16])), (q4, .inl (k4, 8, .inl f4)), (q8, .inl (k8, 22, .inl f8)), (q9, .inl (k9, 88, .inl f9)), (q10, .inl (k10, 88, .inl f10)), (q11, .inl (k11, 88, .inl f11)), (q12, .inl (k12, 88, .inl f12)), (q13, .inl (k13, 88, .inl f13)), (q14, .inl (k14, 4, .inl f14)), (q15, .inl (k15, 4, .inl f15)), (q16, .inl (k16, 4, .inl f16)), (hy, .inr (2, [.int (nI hk), .ref co, .ref ol])), (co, .inl (kco, 20, .inl fo)), (ol, .inl (kol, 20, .inl fl))]) sz)) 0 0 (va_A ([(au, .inr (0, [.int (nI nc), .int (nI np), .int (nI ne), .int st0, .ref q4, .ref q5, .ref q6, .ref q7, .ref q8, .ref q9, .ref q10, .ref q11, .ref q12, .ref q13, .ref q14, .ref q15, .ref q16])), (q4, .inl (k4, 8, .inl f4)), (q8, .inl (k8, 22, .inl f8)), (q9, .inl (k9, 88, .inl f9)), (q10, .inl (k10, 88, .inl f10)), (q11, .inl (k11, 88, .inl f11)), (q12, .inl (k12, 88, .inl f12)), (q13, .inl (k13, 88, .inl f13)), (q14, .inl (k14, 4, .inl f14)), (q15, .inl (k15, 4, .inl f15)), (q16, .inl (k16, 4, .inl f16)), (hy, .inr (2, [.int (nI hk), .ref co, .ref ol])), (co, .inl (kco, 20, .inl fo)), (ol, .inl (kol, 20, .inl fl))]) sz) := by
  refine Met.ofW (cc := cX2_takesBack) (maxL := 3) (ret := (some .boolean)) (by decide) rfl ?_
  intro p e s m args below meth c s₁ B hml hv
  obtain ⟨rfl, rfl, hP, hK, hD0⟩ := hv
  have hx := B.exec
  have hb := B.bytes
  have hr := B.returns
  have hts := atoms_spec (ws := vs_X2_takesBack) B.pre
  have v_1 := hts (.fieldLink RX2 18 "ClockReach$History" "count" "I") (List.mem_of_getElem? (i := 1) rfl)
  have v_2 := hts (.fieldLink RX2 9 "ClockReach$History" "codes" "[I") (List.mem_of_getElem? (i := 2) rfl)
  have v_3 := hts (.fieldLink RX2 15 "ClockReach$History" "olds" "[I") (List.mem_of_getElem? (i := 3) rfl)
  have v_34 := hts (.fieldLink RX2 22 "ClockReach$Automaton" "hurried" "[Z") (List.mem_of_getElem? (i := 34) rfl)
  have hown : s.vm.findClass RX2 = some m.cls := findClass_of_methodNamed B.named
  have hlocks := B.notSynchronized
  have hiX0 : ∀ w ∈ wsX00, w ∈ vs_X2_takesBack := fun _ h => List.mem_cons_of_mem _ (List.mem_append_right _ h)
  have hiX2 : ∀ w ∈ wsX20, w ∈ vs_X2_takesBack := fun _ h => List.mem_cons_of_mem _ (List.mem_append_left _ (List.mem_append_right _ h))
  have hD := hD0.self (sz := s.heap.size)
  generalize hAe : va_A ([(au, .inr (0, [.int (nI nc), .int (nI np), .int (nI ne), .int st0, .ref q4, .ref q5, .ref q6, .ref q7, .ref q8, .ref q9, .ref q10, .ref q11, .ref q12, .ref q13, .ref q14, .ref q15, .ref q16])), (q4, .inl (k4, 8, .inl f4)), (q8, .inl (k8, 22, .inl f8)), (q9, .inl (k9, 88, .inl f9)), (q10, .inl (k10, 88, .inl f10)), (q11, .inl (k11, 88, .inl f11)), (q12, .inl (k12, 88, .inl f12)), (q13, .inl (k13, 88, .inl f13)), (q14, .inl (k14, 4, .inl f14)), (q15, .inl (k15, 4, .inl f15)), (q16, .inl (k16, 4, .inl f16)), (hy, .inr (2, [.int (nI hk), .ref co, .ref ol])), (co, .inl (kco, 20, .inl fo)), (ol, .inl (kol, 20, .inl fl))]) s.heap.size = A at hD ⊢
  have hA : ∀ q : Nat, s.heap.size ≤ q → A q := fun q h => by rw [← hAe]; exact Or.inr h
  have hS : va_S A s.heap s.heap [] := va_S.rf
  have hl := lv_entry ([.ref hy, .ref au]) (n := 3) (Nat.le_of_ble_eq_true rfl)
  rw [lg_entry_eq]
  generalize (lg_sl ([.ref hy, .ref au]) ++ List.replicate (3 - (lg_sl ([.ref hy, .ref au])).length) Slot.unset).toArray = ls at hl ⊢
  have hl : lv_has ls 3 [(0, .ref hy), (1, .ref au)] := hl
  refine lv_aload_n hx hb dX2_takesBack_0 rfl (lv_at hl 0 rfl) ?_
  refine va_get (D := (dC, dI)) (ci := 2) (v := .int (nI hk)) (C := RX2) (T := TX2) (N := 3) hx hb hts hiX2 hown hK hP 11 rfl rfl 0 (by decide) v_1 (fun _ h9 => h9) rfl dX2_takesBack_1 ?_
  refine lv_if_ne (tgt := 9) hx hb dX2_takesBack_4 (by decide) (fun c_1 => ?_) (fun c_1 => ?_)
  · have c_1 : ¬ hk = 0 := fun z => c_1 ((nI_eq (a := hk) (b := 0) (by omega) (by omega)).mpr z)
    refine lv_aload_n hx hb dX2_takesBack_9 rfl (lv_at hl 0 rfl) ?_
    refine lv_dup hx hb dX2_takesBack_10 rfl ?_
    refine va_get (D := (dC, dI)) (ci := 2) (v := .int (nI hk)) (C := RX2) (T := TX2) (N := 3) hx hb hts hiX2 hown hK hP 11 rfl rfl 0 (by decide) v_1 (fun _ h9 => h9) rfl dX2_takesBack_11 ?_
    refine lv_iconst (v := 1) hx hb dX2_takesBack_14 (by decide) ?_
    refine lv_isub hx hb dX2_takesBack_15 ?_
    refine lv_topi (fun y_2 ey_2 => ?_)
    obtain rfl : y_2 = (nI (hk - 1)) := ey_2.trans (pk_sub (a := hk) (b := 1) (by omega))
    refine va_put (D := (dC, dI)) (ci := 2) (v := .int (nI (hk - 1))) (ty := .int) (C := RX2) (T := TX2) (N := 3) hx hb hts hiX2 tyX2 tyX2_ok nmX2 hown hK hP hD hS 11 rfl rfl 0 (by decide) v_1 (fun _ h9 => h9) rfl (by decide +kernel) rfl rfl (Nat.le_of_ble_eq_true rfl) dX2_takesBack_16 (fun H locs hP hD hS => ?_)
    have hP : va_P (dC, dI) vwCl [(au, .inr (0, [.int (nI nc), .int (nI np), .int (nI ne), .int st0, .ref q4, .ref q5, .ref q6, .ref q7, .ref q8, .ref q9, .ref q10, .ref q11, .ref q12, .ref q13, .ref q14, .ref q15, .ref q16])), (q4, .inl (k4, 8, .inl f4)), (q8, .inl (k8, 22, .inl f8)), (q9, .inl (k9, 88, .inl f9)), (q10, .inl (k10, 88, .inl f10)), (q11, .inl (k11, 88, .inl f11)), (q12, .inl (k12, 88, .inl f12)), (q13, .inl (k13, 88, .inl f13)), (q14, .inl (k14, 4, .inl f14)), (q15, .inl (k15, 4, .inl f15)), (q16, .inl (k16, 4, .inl f16)), (hy, .inr (2, [.int (nI (hk - 1)), .ref co, .ref ol])), (co, .inl (kco, 20, .inl fo)), (ol, .inl (kol, 20, .inl fl))] H := hP
    have hD : va_D A [(au, .inr (0, [.int (nI nc), .int (nI np), .int (nI ne), .int st0, .ref q4, .ref q5, .ref q6, .ref q7, .ref q8, .ref q9, .ref q10, .ref q11, .ref q12, .ref q13, .ref q14, .ref q15, .ref q16])), (q4, .inl (k4, 8, .inl f4)), (q8, .inl (k8, 22, .inl f8)), (q9, .inl (k9, 88, .inl f9)), (q10, .inl (k10, 88, .inl f10)), (q11, .inl (k11, 88, .inl f11)), (q12, .inl (k12, 88, .inl f12)), (q13, .inl (k13, 88, .inl f13)), (q14, .inl (k14, 4, .inl f14)), (q15, .inl (k15, 4, .inl f15)), (q16, .inl (k16, 4, .inl f16)), (hy, .inr (2, [.int (nI (hk - 1)), .ref co, .ref ol])), (co, .inl (kco, 20, .inl fo)), (ol, .inl (kol, 20, .inl fl))] := hD
    refine lv_aload_n hx hb dX2_takesBack_19 rfl (lv_at hl 0 rfl) ?_
    refine va_get (D := (dC, dI)) (ci := 2) (v := .ref co) (C := RX2) (T := TX2) (N := 3) hx hb hts hiX2 hown hK hP 11 rfl rfl 1 (by decide) v_2 (fun _ h9 => h9) rfl dX2_takesBack_20 ?_
    refine lv_aload_n hx hb dX2_takesBack_23 rfl (lv_at hl 0 rfl) ?_
    refine va_get (D := (dC, dI)) (ci := 2) (v := .int (nI (hk - 1))) (C := RX2) (T := TX2) (N := 3) hx hb hts hiX2 hown hK hP 11 rfl rfl 0 (by decide) v_1 (fun _ h9 => h9) rfl dX2_takesBack_24 ?_
    refine va_iald hx hb hK hP 12 10 rfl rfl (vp_in_nI (n := (hk - 1)) (by first | omega | exact ix_lt (by omega) (by omega) hn | exact ix_lt0 (by omega) hn | exact ix_ltq (by omega) hn | exact ix_lt1 (by omega) hn) (by omega)) dX2_takesBack_27 ?_
    refine lv_topi (fun y_3 ey_3 => ?_)
    have ey_3 : y_3 = fo (hk - 1) := ey_3.trans (congrArg fo (nI_clamp (n := (hk - 1)) (by omega)))
    rcases hok (hk - 1) (by omega) with ⟨qk_4, hqk_5, ek_6⟩ | ⟨qk_4, hqk_5, ek_6⟩
    · obtain rfl : y_3 = (nI qk_4) := ey_3.trans ek_6
      refine lv_istore_n (lv' := [(2, .int (nI qk_4)), (0, .ref hy), (1, .ref au)]) hx hb dX2_takesBack_28 rfl hl (by decide) rfl (fun ls hl => ?_)
      refine lv_iload_n hx hb dX2_takesBack_29 rfl (lv_at hl 0 rfl) ?_
      refine lv_if_ge (tgt := 62) hx hb dX2_takesBack_30 (by decide) (fun c_7 => ?_) (fun c_7 => ?_)
      · have c_7 : 0 ≤ qk_4 := (nI_leI (a := 0) (b := qk_4) (by omega) (by omega)).mp c_7
        refine lv_aload_n hx hb dX2_takesBack_62 rfl (lv_at hl 2 rfl) ?_
        refine lv_iload_n hx hb dX2_takesBack_63 rfl (lv_at hl 0 rfl) ?_
        refine lv_aload_n hx hb dX2_takesBack_64 rfl (lv_at hl 1 rfl) ?_
        refine va_get (D := (dC, dI)) (ci := 2) (v := .ref ol) (C := RX2) (T := TX2) (N := 3) hx hb hts hiX2 hown hK hP 11 rfl rfl 2 (by decide) v_3 (fun _ h9 => h9) rfl dX2_takesBack_65 ?_
        refine lv_aload_n hx hb dX2_takesBack_68 rfl (lv_at hl 1 rfl) ?_
        refine va_get (D := (dC, dI)) (ci := 2) (v := .int (nI (hk - 1))) (C := RX2) (T := TX2) (N := 3) hx hb hts hiX2 hown hK hP 11 rfl rfl 0 (by decide) v_1 (fun _ h9 => h9) rfl dX2_takesBack_69 ?_
        refine va_iald hx hb hK hP 13 11 rfl rfl (vp_in_nI (n := (hk - 1)) (by first | omega | exact ix_lt (by omega) (by omega) hn | exact ix_lt0 (by omega) hn | exact ix_ltq (by omega) hn | exact ix_lt1 (by omega) hn) (by omega)) dX2_takesBack_72 ?_
        have hFc := va_free (wc := [(au, .inr (0, [.int (nI nc), .int (nI np), .int (nI ne), .int st0, .ref q4, .ref q5, .ref q6, .ref q7, .ref q8, .ref q9, .ref q10, .ref q11, .ref q12, .ref q13, .ref q14, .ref q15, .ref q16])), (q8, .inl (k8, 22, .inl f8)), (q9, .inl (k9, 88, .inl f9)), (q10, .inl (k10, 88, .inl f10)), (q11, .inl (k11, 88, .inl f11)), (q12, .inl (k12, 88, .inl f12)), (q13, .inl (k13, 88, .inl f13)), (q14, .inl (k14, 4, .inl f14)), (q15, .inl (k15, 4, .inl f15)), (q16, .inl (k16, 4, .inl f16))]) hD hS hA [0, 2, 3, 4, 5, 6, 7, 8, 9, 10] rfl
        refine va_callv (va_runV (As := [.int (nI qk_4), .int (fl ((nI (hk - 1))).toNatClampNeg)]) (rest := []) ⟨hx, hb, hml, hown, hts⟩ (c_X0_setNumber l dC dI _ au q4 q5 q6 q7 q8 q9 q10 q11 q12 q13 q14 q15 q16 nc np ne st0 k8 k9 k10 k11 k12 k13 k14 k15 k16 f8 f9 f10 f11 f12 f13 f14 f15 f16 hc hnc qk_4 (by omega) (fl ((nI (hk - 1))).toNatClampNeg)) (cwV 2 hts g_X2_takesBack_X0_setNumber rfl rfl rfl (by decide +kernel) ⟨Nat.le_of_ble_eq_true rfl, Nat.le_of_ble_eq_true rfl⟩) ⟨pu_bl, va_recv hK hP (ci := 0) (q0 := 0) rfl rfl, pu_in (hP.sub [0, 2, 3, 4, 5, 6, 7, 8, 9, 10] rfl) (hK.sub [1, 2, 3, 4, 5, 6, 7, 8, 9] rfl) (hD.sub [0, 2, 3, 4, 5, 6, 7, 8, 9, 10] (by decide) rfl)⟩ rfl rfl hl.1 rfl (lv_room (Nat.le_of_ble_eq_true rfl)) dX2_takesBack_73 ⟨Nat.le_of_ble_eq_true rfl, Nat.le_of_ble_eq_true rfl⟩) hS (fun q _ h => hFc q h) hFc (fun u t H1 locs ht hvm hw hB hz1 hk1 hS => ?_)
        obtain ⟨g0_9, g1_10, g2_11, g3_12, g4_13, g5_14, ⟨hP1, hK1, hD1⟩⟩ := hB
        rw [ht] at hP1
        have hK1 := va_K.moved hvm.symm hK1
        obtain ⟨hP, hD⟩ := va_join (wr := [(q4, .inl (k4, 8, .inl f4)), (hy, .inr (2, [.int (nI (hk - 1)), .ref co, .ref ol])), (co, .inl (kco, 20, .inl fo)), (ol, .inl (kol, 20, .inl fl))]) (w1 := [(au, .inr (0, [.int (nI nc), .int (nI np), .int (nI ne), .int st0, .ref q4, .ref q5, .ref q6, .ref q7, .ref q8, .ref q9, .ref q10, .ref q11, .ref q12, .ref q13, .ref q14, .ref q15, .ref q16])), (q8, .inl (k8, 22, .inl f8)), (q9, .inl (k9, 88, .inl f9)), (q10, .inl (k10, 88, .inl f10)), (q11, .inl (k11, 88, .inl g0_9)), (q12, .inl (k12, 88, .inl g1_10)), (q13, .inl (k13, 88, .inl g2_11)), (q14, .inl (k14, 4, .inl g3_12)), (q15, .inl (k15, 4, .inl g4_13)), (q16, .inl (k16, 4, .inl g5_14))]) hP hD [0, 2, 3, 4, 5, 6, 7, 8, 9, 10] [1, 11, 12, 13] rfl rfl (by decide) (by decide) hk1 hFc hP1 hD1
        have hK := hK.app hK1
        clear hk1 hz1 ht hvm
        generalize H1 = H at hP hS ⊢
        have hP : va_P (dC, dI) vwCl [(q4, .inl (k4, 8, .inl f4)), (hy, .inr (2, [.int (nI (hk - 1)), .ref co, .ref ol])), (co, .inl (kco, 20, .inl fo)), (ol, .inl (kol, 20, .inl fl)), (au, .inr (0, [.int (nI nc), .int (nI np), .int (nI ne), .int st0, .ref q4, .ref q5, .ref q6, .ref q7, .ref q8, .ref q9, .ref q10, .ref q11, .ref q12, .ref q13, .ref q14, .ref q15, .ref q16])), (q8, .inl (k8, 22, .inl f8)), (q9, .inl (k9, 88, .inl f9)), (q10, .inl (k10, 88, .inl f10)), (q11, .inl (k11, 88, .inl g0_9)), (q12, .inl (k12, 88, .inl g1_10)), (q13, .inl (k13, 88, .inl g2_11)), (q14, .inl (k14, 4, .inl g3_12)), (q15, .inl (k15, 4, .inl g4_13)), (q16, .inl (k16, 4, .inl g5_14))] H := hP
        have hD : va_D A [(q4, .inl (k4, 8, .inl f4)), (hy, .inr (2, [.int (nI (hk - 1)), .ref co, .ref ol])), (co, .inl (kco, 20, .inl fo)), (ol, .inl (kol, 20, .inl fl)), (au, .inr (0, [.int (nI nc), .int (nI np), .int (nI ne), .int st0, .ref q4, .ref q5, .ref q6, .ref q7, .ref q8, .ref q9, .ref q10, .ref q11, .ref q12, .ref q13, .ref q14, .ref q15, .ref q16])), (q8, .inl (k8, 22, .inl f8)), (q9, .inl (k9, 88, .inl f9)), (q10, .inl (k10, 88, .inl f10)), (q11, .inl (k11, 88, .inl g0_9)), (q12, .inl (k12, 88, .inl g1_10)), (q13, .inl (k13, 88, .inl g2_11)), (q14, .inl (k14, 4, .inl g3_12)), (q15, .inl (k15, 4, .inl g4_13)), (q16, .inl (k16, 4, .inl g5_14))] := hD
        have hK : va_K (dC, dI) vwCl [(k4, .boolean), (k8, .int), (k9, .int), (k10, .int), (k11, .int), (k12, .int), (k13, .int), (k14, .int), (k15, .int), (k16, .int), (kco, .int), (kol, .int), (k8, .int), (k9, .int), (k10, .int), (k11, .int), (k12, .int), (k13, .int), (k14, .int), (k15, .int), (k16, .int)] s := hK
        refine lv_iconst (v := 1) hx hb dX2_takesBack_76 (by decide) ?_
        have hP9 := hP.sub (ws' := [(au, .inr (0, [.int (nI nc), .int (nI np), .int (nI ne), .int st0, .ref q4, .ref q5, .ref q6, .ref q7, .ref q8, .ref q9, .ref q10, .ref q11, .ref q12, .ref q13, .ref q14, .ref q15, .ref q16])), (q4, .inl (k4, 8, .inl f4)), (q8, .inl (k8, 22, .inl f8)), (q9, .inl (k9, 88, .inl f9)), (q10, .inl (k10, 88, .inl f10)), (q11, .inl (k11, 88, .inl g0_9)), (q12, .inl (k12, 88, .inl g1_10)), (q13, .inl (k13, 88, .inl g2_11)), (q14, .inl (k14, 4, .inl g3_12)), (q15, .inl (k15, 4, .inl g4_13)), (q16, .inl (k16, 4, .inl g5_14)), (hy, .inr (2, [.int (nI (hk - 1)), .ref co, .ref ol])), (co, .inl (kco, 20, .inl fo)), (ol, .inl (kol, 20, .inl fl))]) [4, 0, 5, 6, 7, 8, 9, 10, 11, 12, 13, 1, 2, 3] rfl
        have hD9 := hD.sub (ws' := [(au, .inr (0, [.int (nI nc), .int (nI np), .int (nI ne), .int st0, .ref q4, .ref q5, .ref q6, .ref q7, .ref q8, .ref q9, .ref q10, .ref q11, .ref q12, .ref q13, .ref q14, .ref q15, .ref q16])), (q4, .inl (k4, 8, .inl f4)), (q8, .inl (k8, 22, .inl f8)), (q9, .inl (k9, 88, .inl f9)), (q10, .inl (k10, 88, .inl f10)), (q11, .inl (k11, 88, .inl g0_9)), (q12, .inl (k12, 88, .inl g1_10)), (q13, .inl (k13, 88, .inl g2_11)), (q14, .inl (k14, 4, .inl g3_12)), (q15, .inl (k15, 4, .inl g4_13)), (q16, .inl (k16, 4, .inl g5_14)), (hy, .inr (2, [.int (nI (hk - 1)), .ref co, .ref ol])), (co, .inl (kco, 20, .inl fo)), (ol, .inl (kol, 20, .inl fl))]) [4, 0, 5, 6, 7, 8, 9, 10, 11, 12, 13, 1, 2, 3] (by decide) rfl
        have hK9 := hK.sub (tys' := [(k4, .boolean), (k8, .int), (k9, .int), (k10, .int), (k11, .int), (k12, .int), (k13, .int), (k14, .int), (k15, .int), (k16, .int), (kco, .int), (kol, .int)]) [0, 1, 2, 3, 4, 5, 6, 7, 8, 9, 10, 11] rfl
        exact W.zret (v := 1) (ty := .boolean) hx hb hr rfl (fun t ht hW => ⟨⟨1, (), rfl, by first | rfl | decide | simp_all, ⟨f4, g0_9, g1_10, g2_11, g3_12, g4_13, g5_14, (hk - 1), ⟨by rw [ht]; exact hP9, va_K.moved hW.alike hK9, hD9⟩, (by omega)⟩⟩, hS.F ht⟩) hS.2.2 dX2_takesBack_77
      · have c_7 : ¬ 0 ≤ qk_4 := fun z => c_7 ((nI_leI (a := 0) (b := qk_4) (by omega) (by omega)).mpr z)
        exfalso
        omega
    · obtain rfl : y_3 = (-1 - nI qk_4) := ey_3.trans ek_6
      refine lv_istore_n (lv' := [(2, .int (-1 - nI qk_4)), (0, .ref hy), (1, .ref au)]) hx hb dX2_takesBack_28 rfl hl (by decide) rfl (fun ls hl => ?_)
      refine lv_iload_n hx hb dX2_takesBack_29 rfl (lv_at hl 0 rfl) ?_
      refine lv_if_ge (tgt := 62) hx hb dX2_takesBack_30 (by decide) (fun z => absurd z (hi_neg qk_4 hqk_5)) (fun _ => ?_)
      refine lv_aload_n hx hb dX2_takesBack_33 rfl (lv_at hl 2 rfl) ?_
      refine va_get (D := (dC, dI)) (ci := 0) (v := .ref q4) (C := RX0) (T := TX0) (N := 17) hx hb hts hiX0 hown hK hP 0 rfl rfl 4 (by decide) v_34 (fun _ h9 => h9) rfl dX2_takesBack_34 ?_
      refine lv_iconst (v := (-1)) hx hb dX2_takesBack_37 (by decide) ?_
      refine lv_iload_n hx hb dX2_takesBack_38 rfl (lv_at hl 0 rfl) ?_
      refine lv_isub hx hb dX2_takesBack_39 ?_
      refine lv_topi (fun y_15 ey_15 => ?_)
      obtain rfl : y_15 = nI qk_4 := ey_15.trans (hi_sub qk_4 hqk_5)
      refine lv_aload_n hx hb dX2_takesBack_40 rfl (lv_at hl 1 rfl) ?_
      refine va_get (D := (dC, dI)) (ci := 2) (v := .ref ol) (C := RX2) (T := TX2) (N := 3) hx hb hts hiX2 hown hK hP 11 rfl rfl 2 (by decide) v_3 (fun _ h9 => h9) rfl dX2_takesBack_41 ?_
      refine lv_aload_n hx hb dX2_takesBack_44 rfl (lv_at hl 1 rfl) ?_
      refine va_get (D := (dC, dI)) (ci := 2) (v := .int (nI (hk - 1))) (C := RX2) (T := TX2) (N := 3) hx hb hts hiX2 hown hK hP 11 rfl rfl 0 (by decide) v_1 (fun _ h9 => h9) rfl dX2_takesBack_45 ?_
      refine va_iald hx hb hK hP 13 11 rfl rfl (vp_in_nI (n := (hk - 1)) (by first | omega | exact ix_lt (by omega) (by omega) hn | exact ix_lt0 (by omega) hn | exact ix_ltq (by omega) hn | exact ix_lt1 (by omega) hn) (by omega)) dX2_takesBack_48 ?_
      refine lv_iconst (v := 1) hx hb dX2_takesBack_49 (by decide) ?_
      refine lv_icmp_ne (tgt := 57) hx hb dX2_takesBack_50 (by decide) (fun c_16 => ?_) (fun c_16 => ?_)
      · refine lv_iconst (v := 0) hx hb dX2_takesBack_57 (by decide) ?_
        refine va_zast hx hb hK hP hD hS 1 0 rfl rfl (vp_in_nI (n := qk_4) (by first | omega | exact ix_lt (by omega) (by omega) hn | exact ix_lt0 (by omega) hn | exact ix_ltq (by omega) hn | exact ix_lt1 (by omega) hn) (by omega)) dX2_takesBack_58 (fun H locs hP hD hS => ?_)
        have hP : va_P (dC, dI) vwCl [(au, .inr (0, [.int (nI nc), .int (nI np), .int (nI ne), .int st0, .ref q4, .ref q5, .ref q6, .ref q7, .ref q8, .ref q9, .ref q10, .ref q11, .ref q12, .ref q13, .ref q14, .ref q15, .ref q16])), (q4, .inl (k4, 8, .inl (upd f4 ((nI qk_4) : Int32).toNatClampNeg (vp_nar .boolean 0)))), (q8, .inl (k8, 22, .inl f8)), (q9, .inl (k9, 88, .inl f9)), (q10, .inl (k10, 88, .inl f10)), (q11, .inl (k11, 88, .inl f11)), (q12, .inl (k12, 88, .inl f12)), (q13, .inl (k13, 88, .inl f13)), (q14, .inl (k14, 4, .inl f14)), (q15, .inl (k15, 4, .inl f15)), (q16, .inl (k16, 4, .inl f16)), (hy, .inr (2, [.int (nI (hk - 1)), .ref co, .ref ol])), (co, .inl (kco, 20, .inl fo)), (ol, .inl (kol, 20, .inl fl))] H := hP
        have hD : va_D A [(au, .inr (0, [.int (nI nc), .int (nI np), .int (nI ne), .int st0, .ref q4, .ref q5, .ref q6, .ref q7, .ref q8, .ref q9, .ref q10, .ref q11, .ref q12, .ref q13, .ref q14, .ref q15, .ref q16])), (q4, .inl (k4, 8, .inl (upd f4 ((nI qk_4) : Int32).toNatClampNeg (vp_nar .boolean 0)))), (q8, .inl (k8, 22, .inl f8)), (q9, .inl (k9, 88, .inl f9)), (q10, .inl (k10, 88, .inl f10)), (q11, .inl (k11, 88, .inl f11)), (q12, .inl (k12, 88, .inl f12)), (q13, .inl (k13, 88, .inl f13)), (q14, .inl (k14, 4, .inl f14)), (q15, .inl (k15, 4, .inl f15)), (q16, .inl (k16, 4, .inl f16)), (hy, .inr (2, [.int (nI (hk - 1)), .ref co, .ref ol])), (co, .inl (kco, 20, .inl fo)), (ol, .inl (kol, 20, .inl fl))] := hD
        refine lv_goto (tgt := 76) hx hb dX2_takesBack_59 (by decide) ?_
        refine lv_iconst (v := 1) hx hb dX2_takesBack_76 (by decide) ?_
        have hP9 := hP.sub (ws' := [(au, .inr (0, [.int (nI nc), .int (nI np), .int (nI ne), .int st0, .ref q4, .ref q5, .ref q6, .ref q7, .ref q8, .ref q9, .ref q10, .ref q11, .ref q12, .ref q13, .ref q14, .ref q15, .ref q16])), (q4, .inl (k4, 8, .inl (upd f4 ((nI qk_4) : Int32).toNatClampNeg (vp_nar .boolean 0)))), (q8, .inl (k8, 22, .inl f8)), (q9, .inl (k9, 88, .inl f9)), (q10, .inl (k10, 88, .inl f10)), (q11, .inl (k11, 88, .inl f11)), (q12, .inl (k12, 88, .inl f12)), (q13, .inl (k13, 88, .inl f13)), (q14, .inl (k14, 4, .inl f14)), (q15, .inl (k15, 4, .inl f15)), (q16, .inl (k16, 4, .inl f16)), (hy, .inr (2, [.int (nI (hk - 1)), .ref co, .ref ol])), (co, .inl (kco, 20, .inl fo)), (ol, .inl (kol, 20, .inl fl))]) [0, 1, 2, 3, 4, 5, 6, 7, 8, 9, 10, 11, 12, 13] rfl
        have hD9 := hD.sub (ws' := [(au, .inr (0, [.int (nI nc), .int (nI np), .int (nI ne), .int st0, .ref q4, .ref q5, .ref q6, .ref q7, .ref q8, .ref q9, .ref q10, .ref q11, .ref q12, .ref q13, .ref q14, .ref q15, .ref q16])), (q4, .inl (k4, 8, .inl (upd f4 ((nI qk_4) : Int32).toNatClampNeg (vp_nar .boolean 0)))), (q8, .inl (k8, 22, .inl f8)), (q9, .inl (k9, 88, .inl f9)), (q10, .inl (k10, 88, .inl f10)), (q11, .inl (k11, 88, .inl f11)), (q12, .inl (k12, 88, .inl f12)), (q13, .inl (k13, 88, .inl f13)), (q14, .inl (k14, 4, .inl f14)), (q15, .inl (k15, 4, .inl f15)), (q16, .inl (k16, 4, .inl f16)), (hy, .inr (2, [.int (nI (hk - 1)), .ref co, .ref ol])), (co, .inl (kco, 20, .inl fo)), (ol, .inl (kol, 20, .inl fl))]) [0, 1, 2, 3, 4, 5, 6, 7, 8, 9, 10, 11, 12, 13] (by decide) rfl
        have hK9 := hK.sub (tys' := [(k4, .boolean), (k8, .int), (k9, .int), (k10, .int), (k11, .int), (k12, .int), (k13, .int), (k14, .int), (k15, .int), (k16, .int), (kco, .int), (kol, .int)]) [0, 1, 2, 3, 4, 5, 6, 7, 8, 9, 10, 11] rfl
        exact W.zret (v := 1) (ty := .boolean) hx hb hr rfl (fun t ht hW => ⟨⟨1, (), rfl, by first | rfl | decide | simp_all, ⟨upd f4 ((nI qk_4) : Int32).toNatClampNeg (vp_nar .boolean 0), f11, f12, f13, f14, f15, f16, (hk - 1), ⟨by rw [ht]; exact hP9, va_K.moved hW.alike hK9, hD9⟩, (by omega)⟩⟩, hS.F ht⟩) hS.2.2 dX2_takesBack_77
      · refine lv_iconst (v := 1) hx hb dX2_takesBack_53 (by decide) ?_
        refine lv_goto (tgt := 58) hx hb dX2_takesBack_54 (by decide) ?_
        refine va_zast hx hb hK hP hD hS 1 0 rfl rfl (vp_in_nI (n := qk_4) (by first | omega | exact ix_lt (by omega) (by omega) hn | exact ix_lt0 (by omega) hn | exact ix_ltq (by omega) hn | exact ix_lt1 (by omega) hn) (by omega)) dX2_takesBack_58 (fun H locs hP hD hS => ?_)
        have hP : va_P (dC, dI) vwCl [(au, .inr (0, [.int (nI nc), .int (nI np), .int (nI ne), .int st0, .ref q4, .ref q5, .ref q6, .ref q7, .ref q8, .ref q9, .ref q10, .ref q11, .ref q12, .ref q13, .ref q14, .ref q15, .ref q16])), (q4, .inl (k4, 8, .inl (upd f4 ((nI qk_4) : Int32).toNatClampNeg (vp_nar .boolean 1)))), (q8, .inl (k8, 22, .inl f8)), (q9, .inl (k9, 88, .inl f9)), (q10, .inl (k10, 88, .inl f10)), (q11, .inl (k11, 88, .inl f11)), (q12, .inl (k12, 88, .inl f12)), (q13, .inl (k13, 88, .inl f13)), (q14, .inl (k14, 4, .inl f14)), (q15, .inl (k15, 4, .inl f15)), (q16, .inl (k16, 4, .inl f16)), (hy, .inr (2, [.int (nI (hk - 1)), .ref co, .ref ol])), (co, .inl (kco, 20, .inl fo)), (ol, .inl (kol, 20, .inl fl))] H := hP
        have hD : va_D A [(au, .inr (0, [.int (nI nc), .int (nI np), .int (nI ne), .int st0, .ref q4, .ref q5, .ref q6, .ref q7, .ref q8, .ref q9, .ref q10, .ref q11, .ref q12, .ref q13, .ref q14, .ref q15, .ref q16])), (q4, .inl (k4, 8, .inl (upd f4 ((nI qk_4) : Int32).toNatClampNeg (vp_nar .boolean 1)))), (q8, .inl (k8, 22, .inl f8)), (q9, .inl (k9, 88, .inl f9)), (q10, .inl (k10, 88, .inl f10)), (q11, .inl (k11, 88, .inl f11)), (q12, .inl (k12, 88, .inl f12)), (q13, .inl (k13, 88, .inl f13)), (q14, .inl (k14, 4, .inl f14)), (q15, .inl (k15, 4, .inl f15)), (q16, .inl (k16, 4, .inl f16)), (hy, .inr (2, [.int (nI (hk - 1)), .ref co, .ref ol])), (co, .inl (kco, 20, .inl fo)), (ol, .inl (kol, 20, .inl fl))] := hD
        refine lv_goto (tgt := 76) hx hb dX2_takesBack_59 (by decide) ?_
        refine lv_iconst (v := 1) hx hb dX2_takesBack_76 (by decide) ?_
        have hP9 := hP.sub (ws' := [(au, .inr (0, [.int (nI nc), .int (nI np), .int (nI ne), .int st0, .ref q4, .ref q5, .ref q6, .ref q7, .ref q8, .ref q9, .ref q10, .ref q11, .ref q12, .ref q13, .ref q14, .ref q15, .ref q16])), (q4, .inl (k4, 8, .inl (upd f4 ((nI qk_4) : Int32).toNatClampNeg (vp_nar .boolean 1)))), (q8, .inl (k8, 22, .inl f8)), (q9, .inl (k9, 88, .inl f9)), (q10, .inl (k10, 88, .inl f10)), (q11, .inl (k11, 88, .inl f11)), (q12, .inl (k12, 88, .inl f12)), (q13, .inl (k13, 88, .inl f13)), (q14, .inl (k14, 4, .inl f14)), (q15, .inl (k15, 4, .inl f15)), (q16, .inl (k16, 4, .inl f16)), (hy, .inr (2, [.int (nI (hk - 1)), .ref co, .ref ol])), (co, .inl (kco, 20, .inl fo)), (ol, .inl (kol, 20, .inl fl))]) [0, 1, 2, 3, 4, 5, 6, 7, 8, 9, 10, 11, 12, 13] rfl
        have hD9 := hD.sub (ws' := [(au, .inr (0, [.int (nI nc), .int (nI np), .int (nI ne), .int st0, .ref q4, .ref q5, .ref q6, .ref q7, .ref q8, .ref q9, .ref q10, .ref q11, .ref q12, .ref q13, .ref q14, .ref q15, .ref q16])), (q4, .inl (k4, 8, .inl (upd f4 ((nI qk_4) : Int32).toNatClampNeg (vp_nar .boolean 1)))), (q8, .inl (k8, 22, .inl f8)), (q9, .inl (k9, 88, .inl f9)), (q10, .inl (k10, 88, .inl f10)), (q11, .inl (k11, 88, .inl f11)), (q12, .inl (k12, 88, .inl f12)), (q13, .inl (k13, 88, .inl f13)), (q14, .inl (k14, 4, .inl f14)), (q15, .inl (k15, 4, .inl f15)), (q16, .inl (k16, 4, .inl f16)), (hy, .inr (2, [.int (nI (hk - 1)), .ref co, .ref ol])), (co, .inl (kco, 20, .inl fo)), (ol, .inl (kol, 20, .inl fl))]) [0, 1, 2, 3, 4, 5, 6, 7, 8, 9, 10, 11, 12, 13] (by decide) rfl
        have hK9 := hK.sub (tys' := [(k4, .boolean), (k8, .int), (k9, .int), (k10, .int), (k11, .int), (k12, .int), (k13, .int), (k14, .int), (k15, .int), (k16, .int), (kco, .int), (kol, .int)]) [0, 1, 2, 3, 4, 5, 6, 7, 8, 9, 10, 11] rfl
        exact W.zret (v := 1) (ty := .boolean) hx hb hr rfl (fun t ht hW => ⟨⟨1, (), rfl, by first | rfl | decide | simp_all, ⟨upd f4 ((nI qk_4) : Int32).toNatClampNeg (vp_nar .boolean 1), f11, f12, f13, f14, f15, f16, (hk - 1), ⟨by rw [ht]; exact hP9, va_K.moved hW.alike hK9, hD9⟩, (by omega)⟩⟩, hS.F ht⟩) hS.2.2 dX2_takesBack_77
  · have c_1 : hk = 0 := (nI_eq (a := hk) (b := 0) (by omega) (by omega)).mp c_1
    refine lv_iconst (v := 0) hx hb dX2_takesBack_7 (by decide) ?_
    have hP9 := hP.sub (ws' := [(au, .inr (0, [.int (nI nc), .int (nI np), .int (nI ne), .int st0, .ref q4, .ref q5, .ref q6, .ref q7, .ref q8, .ref q9, .ref q10, .ref q11, .ref q12, .ref q13, .ref q14, .ref q15, .ref q16])), (q4, .inl (k4, 8, .inl f4)), (q8, .inl (k8, 22, .inl f8)), (q9, .inl (k9, 88, .inl f9)), (q10, .inl (k10, 88, .inl f10)), (q11, .inl (k11, 88, .inl f11)), (q12, .inl (k12, 88, .inl f12)), (q13, .inl (k13, 88, .inl f13)), (q14, .inl (k14, 4, .inl f14)), (q15, .inl (k15, 4, .inl f15)), (q16, .inl (k16, 4, .inl f16)), (hy, .inr (2, [.int (nI hk), .ref co, .ref ol])), (co, .inl (kco, 20, .inl fo)), (ol, .inl (kol, 20, .inl fl))]) [0, 1, 2, 3, 4, 5, 6, 7, 8, 9, 10, 11, 12, 13] rfl
    have hD9 := hD.sub (ws' := [(au, .inr (0, [.int (nI nc), .int (nI np), .int (nI ne), .int st0, .ref q4, .ref q5, .ref q6, .ref q7, .ref q8, .ref q9, .ref q10, .ref q11, .ref q12, .ref q13, .ref q14, .ref q15, .ref q16])), (q4, .inl (k4, 8, .inl f4)), (q8, .inl (k8, 22, .inl f8)), (q9, .inl (k9, 88, .inl f9)), (q10, .inl (k10, 88, .inl f10)), (q11, .inl (k11, 88, .inl f11)), (q12, .inl (k12, 88, .inl f12)), (q13, .inl (k13, 88, .inl f13)), (q14, .inl (k14, 4, .inl f14)), (q15, .inl (k15, 4, .inl f15)), (q16, .inl (k16, 4, .inl f16)), (hy, .inr (2, [.int (nI hk), .ref co, .ref ol])), (co, .inl (kco, 20, .inl fo)), (ol, .inl (kol, 20, .inl fl))]) [0, 1, 2, 3, 4, 5, 6, 7, 8, 9, 10, 11, 12, 13] (by decide) rfl
    have hK9 := hK.sub (tys' := [(k4, .boolean), (k8, .int), (k9, .int), (k10, .int), (k11, .int), (k12, .int), (k13, .int), (k14, .int), (k15, .int), (k16, .int), (kco, .int), (kol, .int)]) [0, 1, 2, 3, 4, 5, 6, 7, 8, 9, 10, 11] rfl
    exact W.zret (v := 0) (ty := .boolean) hx hb hr rfl (fun t ht hW => ⟨⟨0, (), rfl, by first | rfl | decide | simp_all, ⟨f4, f11, f12, f13, f14, f15, f16, hk, ⟨by rw [ht]; exact hP9, va_K.moved hW.alike hK9, hD9⟩, (by omega)⟩⟩, hS.F ht⟩) hS.2.2 dX2_takesBack_8
