theorem dX3_openEdges_0 : decode cX3_openEdges 0 = .ok (.iconst 0, 1) := by decide +kernel
theorem dX3_openEdges_1 : decode cX3_openEdges 1 = .ok (.istore_n 2, 1) := by decide +kernel
theorem dX3_openEdges_2 : decode cX3_openEdges 2 = .ok (.iconst 0, 1) := by decide +kernel
theorem dX3_openEdges_3 : decode cX3_openEdges 3 = .ok (.istore_n 3, 1) := by decide +kernel
theorem dX3_openEdges_4 : decode cX3_openEdges 4 = .ok (.iload_n 3, 1) := by decide +kernel
theorem dX3_openEdges_5 : decode cX3_openEdges 5 = .ok (.aload_n 1, 1) := by decide +kernel
theorem dX3_openEdges_6 : decode cX3_openEdges 6 = .ok (.getfield 84, 3) := by decide +kernel
theorem dX3_openEdges_9 : decode cX3_openEdges 9 = .ok (.if_icmp .ge 24, 3) := by decide +kernel
theorem dX3_openEdges_12 : decode cX3_openEdges 12 = .ok (.aload_n 0, 1) := by decide +kernel
theorem dX3_openEdges_13 : decode cX3_openEdges 13 = .ok (.aload_n 1, 1) := by decide +kernel
theorem dX3_openEdges_14 : decode cX3_openEdges 14 = .ok (.iload_n 3, 1) := by decide +kernel
theorem dX3_openEdges_15 : decode cX3_openEdges 15 = .ok (.invokevirtual 87, 3) := by decide +kernel
theorem dX3_openEdges_18 : decode cX3_openEdges 18 = .ok (.ifCond .eq 9, 3) := by decide +kernel
theorem dX3_openEdges_21 : decode cX3_openEdges 21 = .ok (.iload_n 2, 1) := by decide +kernel
theorem dX3_openEdges_22 : decode cX3_openEdges 22 = .ok (.iconst 1, 1) := by decide +kernel
theorem dX3_openEdges_23 : decode cX3_openEdges 23 = .ok (.iload_n 3, 1) := by decide +kernel
theorem dX3_openEdges_24 : decode cX3_openEdges 24 = .ok (.ishl, 1) := by decide +kernel
theorem dX3_openEdges_25 : decode cX3_openEdges 25 = .ok (.ior, 1) := by decide +kernel
theorem dX3_openEdges_26 : decode cX3_openEdges 26 = .ok (.istore_n 2, 1) := by decide +kernel
theorem dX3_openEdges_27 : decode cX3_openEdges 27 = .ok (.iinc 3 1, 3) := by decide +kernel
theorem dX3_openEdges_30 : decode cX3_openEdges 30 = .ok (.goto (-26), 3) := by decide +kernel
theorem dX3_openEdges_33 : decode cX3_openEdges 33 = .ok (.iload_n 2, 1) := by decide +kernel
theorem dX3_openEdges_34 : decode cX3_openEdges 34 = .ok (.ireturn, 1) := by decide +kernel
def vs_X3_openEdges : List Cond := .code yX3_openEdges cX3_openEdges 4 (some .int) :: ([.fieldLink RX3 84 "ClockReach$Automaton" "edges" "I", .methodLink RX3 87 yX3_opens, .instanceMethod yX3_opens, .selects RX3 yX3_opens yX3_opens, .initialized RX3, .code yX3_opens cX3_opens 4 (some .boolean), .fieldLink RX3 75 "ClockReach$Automaton" "sources" "[I", .fieldLink RX3 31 "ClockReach$Play" "site" "I", .fieldLink RX3 9 "ClockReach$Play" "times" "[I", .methodLink RX3 41 yX0_holdsAt, .instanceMethod yX0_holdsAt, .selects RX0 yX0_holdsAt yX0_holdsAt, .initialized RX0, .code yX0_holdsAt cX0_holdsAt 6 (some .boolean), .fieldLink RX0 29 "ClockReach$Automaton" "counts" "[I", .methodLink RX0 65 yX0_slot, .static yX0_slot, .code yX0_slot cX0_slot 2 (some .int), .fieldLink RX0 32 "ClockReach$Automaton" "conditionClocks" "[I", .fieldLink RX0 41 "ClockReach$Automaton" "ceilings" "[I", .methodLink RX0 102 yX7_ticks, .static yX7_ticks, .initialized RX7, .code yX7_ticks cX7_ticks 1 (some .int), .constant RX7 17 (2147483647), .fieldLink RX0 44 "ClockReach$Automaton" "floors" "[I", .fieldLink RX3 81 "ClockReach$Automaton" "targets" "[I", .methodLink RX3 37 yX0_hostOfPlace, .static yX0_hostOfPlace, .code yX0_hostOfPlace cX0_hostOfPlace 1 (some .int), .fieldLink RX3 15 "ClockReach$Play" "behind" "[I", .fieldLink RX3 78 "ClockReach$Automaton" "resets" "[I"] ++ wsX00 ++ wsX30)
theorem g_X3_openEdges_X3_opens : GoodIn vs_X3_openEdges (wsV RX3 87 RX3 yX3_opens vs_X3_opens) := goodIn_r _ [2, 3, 4, 5, 6, 7, 8, 9, 10, 11, 12, 13, 14, 15, 16, 17, 18, 19, 20, 21, 22, 23, 24, 25, 26, 27, 28, 29, 30, 31, 32, 33, 34, 35, 36, 37, 38, 39, 40, 41, 42, 43, 44, 45, 46, 47, 48, 49, 50, 51, 52, 53, 54] (by decide +kernel) (by decide +kernel)
set_option maxHeartbeats 4000000 in
set_option maxRecDepth 100000 in
theorem c_X3_openEdges (l : Launch) (dC : Nat → ClassId) (dI : Nat → Nat → Nat) (sz : Nat) (au q4 q5 q6 q7 q8 q9 q10 q11 q12 q13 q14 q15 q16 : Nat) (nc np ne : Nat) (st0 : Int32) (k5 k6 k7 k8 k9 k12 k13 : ClassId) (f5 f6 f7 f8 f9 f12 f13 : Nat → Int32) (py tm bh : Nat) (kt kb : ClassId) (on0 si0 ti0 : Int32) (ft fb : Nat → Int32) (hc : ao_c nc f8 f9) (hnc : nc ≤ 3) (hp : np ≤ 8) (he : ne ≤ 14) (h6 : ao_e np ne f6) : Met l yX3_openEdges vs_X3_openEdges ({ frames := 3, cells := 0, slots := 0, locals := 69 }) (va_Pc [.ref py, .ref au] (pu_B (dC, dI) [(au, .inr (0, [.int (nI nc), .int (nI np), .int (nI ne), .int st0, .ref q4, .ref q5, .ref q6, .ref q7, .ref q8, .ref q9, .ref q10, .ref q11, .ref q12, .ref q13, .ref q14, .ref q15, .ref q16])), (q5, .inl (k5, 14, .inl f5)), (q6, .inl (k6, 14, .inl f6)), (q7, .inl (k7, 14, .inl f7)), (q8, .inl (k8, 22, .inl f8)), (q9, .inl (k9, 88, .inl f9)), (q12, .inl (k12, 88, .inl f12)), (q13, .inl (k13, 88, .inl f13)), (py, .inr (3, [.int on0, .int si0, .int ti0, .ref tm, .ref bh])), (tm, .inl (kt, 3, .inl ft)), (bh, .inl (kb, 3, .inl fb))] [(k5, .int), (k6, .int), (k7, .int), (k8, .int), (k9, .int), (k12, .int), (k13, .int), (kt, .int), (kb, .int)] sz)) (va_Qi (fun (r : Int32) (_ : Unit) => True) (fun _ t => ∃ (g : Nat → Int32), pu_E (dC, dI) [(au, .inr (0, [.int (nI nc), .int (nI np), .int (nI ne), .int st0, .ref q4, .ref q5, .ref q6, .ref q7, .ref q8, .ref q9, .ref q10, .ref q11, .ref q12, .ref q13, .ref q14, .ref q15, .ref q16])), (q5, .inl (k5, 14, .inl f5)), (q6, .inl (k6, 14, .inl f6)), (q7, .inl (k7, 14, .inl f7)), (q8, .inl (k8, 22, .inl f8)), (q9, .inl (k9, 88, .inl f9)), (q12, .inl (k12, 88, .inl f12)), (q13, .inl (k13, 88, .inl f13)), (py, .inr (3, [.int on0, .int si0, .int ti0, .ref tm, .ref bh])), (tm, .inl (kt, 3, .inl ft)), (bh, .inl (kb, 3, .inl g))] [(k5, .int), (k6, .int), (k7, .int), (k8, .int), (k9, .int), (k12, .int), (k13, .int), (kt, .int), (kb, .int)] (va_A ([(au, .inr (0, [.int (nI nc), .int (nI np), .int (nI ne), .int st0, .ref q4, .ref q5, .ref q6, .ref q7, .ref q8, .ref q9, .ref q10, .ref q11, .ref q12, .ref q13, .ref q14, .ref q15, .ref q16])), (q5, .inl (k5, 14, .inl f5)), (q6, .inl (k6, 14, .inl f6)), (q7, .inl (k7, 14, .inl f7)), (q8, .inl (k8, 22, .inl f8)), (q9, .inl (k9, 88, .inl f9)), (q12, .inl (k12, 88, .inl f12)), (q13, .inl (k13, 88, .inl f13)), (py, .inr (3, [.int on0, .int si0, .int ti0, .ref tm, .ref bh])), (tm, .inl (kt, 3, .inl ft)), (bh, .inl (kb, 3, .inl fb))]) sz) t) (va_A ([(au, .inr (0, [.int (nI nc), .int (nI np), .int (nI ne), .int st0, .ref q4, .ref q5, .ref q6, .ref q7, .ref q8, .ref q9, .ref q10, .ref q11, .ref q12, .ref q13, .ref q14, .ref q15, .ref q16])), (q5, .inl (k5, 14, .inl f5)), (q6, .inl (k6, 14, .inl f6)), (q7, .inl (k7, 14, .inl f7)), (q8, .inl (k8, 22, .inl f8)), (q9, .inl (k9, 88, .inl f9)), (q12, .inl (k12, 88, .inl f12)), (q13, .inl (k13, 88, .inl f13)), (py, .inr (3, [.int on0, .int si0, .int ti0, .ref tm, .ref bh])), (tm, .inl (kt, 3, .inl ft)), (bh, .inl (kb, 3, .inl fb))]) sz)) 0 0 (va_A ([(au, .inr (0, [.int (nI nc), .int (nI np), .int (nI ne), .int st0, .ref q4, .ref q5, .ref q6, .ref q7, .ref q8, .ref q9, .ref q10, .ref q11, .ref q12, .ref q13, .ref q14, .ref q15, .ref q16])), (q5, .inl (k5, 14, .inl f5)), (q6, .inl (k6, 14, .inl f6)), (q7, .inl (k7, 14, .inl f7)), (q8, .inl (k8, 22, .inl f8)), (q9, .inl (k9, 88, .inl f9)), (q12, .inl (k12, 88, .inl f12)), (q13, .inl (k13, 88, .inl f13)), (py, .inr (3, [.int on0, .int si0, .int ti0, .ref tm, .ref bh])), (tm, .inl (kt, 3, .inl ft)), (bh, .inl (kb, 3, .inl fb))]) sz) := by
  refine Met.ofW (cc := cX3_openEdges) (maxL := 4) (ret := (some .int)) (by decide) rfl ?_
  intro p e s m args below meth c s₁ B hml hv
  obtain ⟨rfl, rfl, hP, hK, hD0⟩ := hv
  have hx := B.exec
  have hb := B.bytes
  have hr := B.returns
  have hts := atoms_spec (ws := vs_X3_openEdges) B.pre
  have v_1 := hts (.fieldLink RX3 84 "ClockReach$Automaton" "edges" "I") (List.mem_of_getElem? (i := 1) rfl)
  have hown : s.vm.findClass RX3 = some m.cls := findClass_of_methodNamed B.named
  have hlocks := B.notSynchronized
  have hiX0 : ∀ w ∈ wsX00, w ∈ vs_X3_openEdges := fun _ h => List.mem_cons_of_mem _ (List.mem_append_left _ (List.mem_append_right _ h))
  have hD := hD0.self (sz := s.heap.size)
  generalize hAe : va_A ([(au, .inr (0, [.int (nI nc), .int (nI np), .int (nI ne), .int st0, .ref q4, .ref q5, .ref q6, .ref q7, .ref q8, .ref q9, .ref q10, .ref q11, .ref q12, .ref q13, .ref q14, .ref q15, .ref q16])), (q5, .inl (k5, 14, .inl f5)), (q6, .inl (k6, 14, .inl f6)), (q7, .inl (k7, 14, .inl f7)), (q8, .inl (k8, 22, .inl f8)), (q9, .inl (k9, 88, .inl f9)), (q12, .inl (k12, 88, .inl f12)), (q13, .inl (k13, 88, .inl f13)), (py, .inr (3, [.int on0, .int si0, .int ti0, .ref tm, .ref bh])), (tm, .inl (kt, 3, .inl ft)), (bh, .inl (kb, 3, .inl fb))]) s.heap.size = A at hD ⊢
  have hA : ∀ q : Nat, s.heap.size ≤ q → A q := fun q h => by rw [← hAe]; exact Or.inr h
  have hS : va_S A s.heap s.heap [] := va_S.rf
  have hl := lv_entry ([.ref py, .ref au]) (n := 4) (Nat.le_of_ble_eq_true rfl)
  rw [lg_entry_eq]
  generalize (lg_sl ([.ref py, .ref au]) ++ List.replicate (4 - (lg_sl ([.ref py, .ref au])).length) Slot.unset).toArray = ls at hl ⊢
  have hl : lv_has ls 4 [(0, .ref py), (1, .ref au)] := hl
  refine lv_iconst (v := 0) hx hb dX3_openEdges_0 (by decide) ?_
  refine lv_istore_n (lv' := [(2, .int 0), (0, .ref py), (1, .ref au)]) hx hb dX3_openEdges_1 rfl hl (by decide) rfl (fun ls hl => ?_)
  refine lv_iconst (v := 0) hx hb dX3_openEdges_2 (by decide) ?_
  refine lv_istore_n (lv' := [(3, .int 0), (2, .int 0), (0, .ref py), (1, .ref au)]) hx hb dX3_openEdges_3 rfl hl (by decide) rfl (fun ls hl => ?_)
  refine pu_loop (ne) (fun ii H locs ls => ∃ f0 : Nat → Int32, ∃ v0 : Int32, va_P (dC, dI) vwCl [(au, .inr (0, [.int (nI nc), .int (nI np), .int (nI ne), .int st0, .ref q4, .ref q5, .ref q6, .ref q7, .ref q8, .ref q9, .ref q10, .ref q11, .ref q12, .ref q13, .ref q14, .ref q15, .ref q16])), (q5, .inl (k5, 14, .inl f5)), (q6, .inl (k6, 14, .inl f6)), (q7, .inl (k7, 14, .inl f7)), (q8, .inl (k8, 22, .inl f8)), (q9, .inl (k9, 88, .inl f9)), (q12, .inl (k12, 88, .inl f12)), (q13, .inl (k13, 88, .inl f13)), (py, .inr (3, [.int on0, .int si0, .int ti0, .ref tm, .ref bh])), (tm, .inl (kt, 3, .inl ft)), (bh, .inl (kb, 3, .inl f0))] H ∧ va_D A [(au, .inr (0, [.int (nI nc), .int (nI np), .int (nI ne), .int st0, .ref q4, .ref q5, .ref q6, .ref q7, .ref q8, .ref q9, .ref q10, .ref q11, .ref q12, .ref q13, .ref q14, .ref q15, .ref q16])), (q5, .inl (k5, 14, .inl f5)), (q6, .inl (k6, 14, .inl f6)), (q7, .inl (k7, 14, .inl f7)), (q8, .inl (k8, 22, .inl f8)), (q9, .inl (k9, 88, .inl f9)), (q12, .inl (k12, 88, .inl f12)), (q13, .inl (k13, 88, .inl f13)), (py, .inr (3, [.int on0, .int si0, .int ti0, .ref tm, .ref bh])), (tm, .inl (kt, 3, .inl ft)), (bh, .inl (kb, 3, .inl f0))] ∧ va_S A s.heap H locs ∧ lv_has ls 4 [(0, .ref py), (1, .ref au), (2, .int v0), (3, .int (nI ii))]) (fun _ => 0) (fun _ => 0) 4 [] ?_ ?_ _ _ _ ⟨_, _, hP, hD, hS, lv_sub hl [2, 3, 1, 0] rfl⟩
  · rintro H locs ls ⟨f_1, vl_2, hP, hD, hS, hl⟩
    refine lv_iload_n hx hb dX3_openEdges_4 rfl (lv_at hl 3 rfl) ?_
    refine lv_aload_n hx hb dX3_openEdges_5 rfl (lv_at hl 1 rfl) ?_
    refine va_get (D := (dC, dI)) (ci := 0) (v := .int (nI ne)) (C := RX0) (T := TX0) (N := 17) hx hb hts hiX0 hown hK hP 0 rfl rfl 2 (by decide) v_1 (fun _ h9 => h9) rfl dX3_openEdges_6 ?_
    refine lv_icmp_ge (tgt := 33) hx hb dX3_openEdges_9 (by decide) (fun _ => ?_) (fun z => absurd (nI_le (a := ne) (b := ne) (by omega) (by omega)) z)
    refine lv_iload_n hx hb dX3_openEdges_33 rfl (lv_at hl 2 rfl) ?_
    have hP9 := hP.sub (ws' := [(au, .inr (0, [.int (nI nc), .int (nI np), .int (nI ne), .int st0, .ref q4, .ref q5, .ref q6, .ref q7, .ref q8, .ref q9, .ref q10, .ref q11, .ref q12, .ref q13, .ref q14, .ref q15, .ref q16])), (q5, .inl (k5, 14, .inl f5)), (q6, .inl (k6, 14, .inl f6)), (q7, .inl (k7, 14, .inl f7)), (q8, .inl (k8, 22, .inl f8)), (q9, .inl (k9, 88, .inl f9)), (q12, .inl (k12, 88, .inl f12)), (q13, .inl (k13, 88, .inl f13)), (py, .inr (3, [.int on0, .int si0, .int ti0, .ref tm, .ref bh])), (tm, .inl (kt, 3, .inl ft)), (bh, .inl (kb, 3, .inl f_1))]) [0, 1, 2, 3, 4, 5, 6, 7, 8, 9, 10] rfl
    have hD9 := hD.sub (ws' := [(au, .inr (0, [.int (nI nc), .int (nI np), .int (nI ne), .int st0, .ref q4, .ref q5, .ref q6, .ref q7, .ref q8, .ref q9, .ref q10, .ref q11, .ref q12, .ref q13, .ref q14, .ref q15, .ref q16])), (q5, .inl (k5, 14, .inl f5)), (q6, .inl (k6, 14, .inl f6)), (q7, .inl (k7, 14, .inl f7)), (q8, .inl (k8, 22, .inl f8)), (q9, .inl (k9, 88, .inl f9)), (q12, .inl (k12, 88, .inl f12)), (q13, .inl (k13, 88, .inl f13)), (py, .inr (3, [.int on0, .int si0, .int ti0, .ref tm, .ref bh])), (tm, .inl (kt, 3, .inl ft)), (bh, .inl (kb, 3, .inl f_1))]) [0, 1, 2, 3, 4, 5, 6, 7, 8, 9, 10] (by decide) rfl
    have hK9 := hK.sub (tys' := [(k5, .int), (k6, .int), (k7, .int), (k8, .int), (k9, .int), (k12, .int), (k13, .int), (kt, .int), (kb, .int)]) [0, 1, 2, 3, 4, 5, 6, 7, 8] rfl
    exact W.iret (v := vl_2) hx hb hr (fun t ht hW => ⟨⟨vl_2, (), rfl, trivial, ⟨f_1, by rw [ht]; exact hP9, va_K.moved hW.alike hK9, hD9⟩⟩, hS.F ht⟩) hS.2.2 dX3_openEdges_34
  · rintro i_3 h_4 ih_5 H locs ls ⟨f_1, vl_2, hP, hD, hS, hl⟩
    refine lv_iload_n hx hb dX3_openEdges_4 rfl (lv_at hl 3 rfl) ?_
    refine lv_aload_n hx hb dX3_openEdges_5 rfl (lv_at hl 1 rfl) ?_
    refine va_get (D := (dC, dI)) (ci := 0) (v := .int (nI ne)) (C := RX0) (T := TX0) (N := 17) hx hb hts hiX0 hown hK hP 0 rfl rfl 2 (by decide) v_1 (fun _ h9 => h9) rfl dX3_openEdges_6 ?_
    refine lv_icmp_ge (tgt := 33) hx hb dX3_openEdges_9 (by decide) (fun z => absurd z (nI_ge (a := i_3) (b := ne) (by omega) (by omega))) (fun _ => ?_)
    refine lv_aload_n hx hb dX3_openEdges_12 rfl (lv_at hl 0 rfl) ?_
    refine lv_aload_n hx hb dX3_openEdges_13 rfl (lv_at hl 1 rfl) ?_
    refine lv_iload_n hx hb dX3_openEdges_14 rfl (lv_at hl 3 rfl) ?_
    have hFc := va_free (wc := [(au, .inr (0, [.int (nI nc), .int (nI np), .int (nI ne), .int st0, .ref q4, .ref q5, .ref q6, .ref q7, .ref q8, .ref q9, .ref q10, .ref q11, .ref q12, .ref q13, .ref q14, .ref q15, .ref q16])), (q5, .inl (k5, 14, .inl f5)), (q6, .inl (k6, 14, .inl f6)), (q7, .inl (k7, 14, .inl f7)), (q8, .inl (k8, 22, .inl f8)), (q9, .inl (k9, 88, .inl f9)), (q12, .inl (k12, 88, .inl f12)), (q13, .inl (k13, 88, .inl f13)), (py, .inr (3, [.int on0, .int si0, .int ti0, .ref tm, .ref bh])), (tm, .inl (kt, 3, .inl ft)), (bh, .inl (kb, 3, .inl f_1))]) hD hS hA [0, 1, 2, 3, 4, 5, 6, 7, 8, 9, 10] rfl
    refine va_calli (va_runV (As := [.ref au, .int (nI i_3)]) (rest := []) ⟨hx, hb, hml, hown, hts⟩ (c_X3_opens l dC dI _ au q4 q5 q6 q7 q8 q9 q10 q11 q12 q13 q14 q15 q16 nc np ne st0 k5 k6 k7 k8 k9 k12 k13 f5 f6 f7 f8 f9 f12 f13 py tm bh kt kb on0 si0 ti0 ft f_1 hc hnc hp he h6 i_3 (by omega)) (cwV 2 hts g_X3_openEdges_X3_opens rfl rfl rfl (by decide +kernel) ⟨Nat.le_of_ble_eq_true rfl, Nat.le_of_ble_eq_true rfl⟩) ⟨pu_bl, va_recv hK hP (ci := 3) (q0 := 8) rfl rfl, pu_in hP hK hD⟩ rfl rfl hl.1 rfl (lv_room (Nat.le_of_ble_eq_true rfl)) dX3_openEdges_15 ⟨Nat.le_of_ble_eq_true rfl, Nat.le_of_ble_eq_true rfl⟩) hS (fun q _ h => hFc q h) hFc (fun r_6 u t H1 locs ht hvm hw hB hz1 hk1 hS => ?_)
    obtain ⟨g_7, ⟨hP1, hK1, hD1⟩⟩ := hB
    rw [ht] at hP1
    have hK1 := va_K.moved hvm.symm hK1
    obtain ⟨hP, hD⟩ := va_join (wr := []) (w1 := [(au, .inr (0, [.int (nI nc), .int (nI np), .int (nI ne), .int st0, .ref q4, .ref q5, .ref q6, .ref q7, .ref q8, .ref q9, .ref q10, .ref q11, .ref q12, .ref q13, .ref q14, .ref q15, .ref q16])), (q5, .inl (k5, 14, .inl f5)), (q6, .inl (k6, 14, .inl f6)), (q7, .inl (k7, 14, .inl f7)), (q8, .inl (k8, 22, .inl f8)), (q9, .inl (k9, 88, .inl f9)), (q12, .inl (k12, 88, .inl f12)), (q13, .inl (k13, 88, .inl f13)), (py, .inr (3, [.int on0, .int si0, .int ti0, .ref tm, .ref bh])), (tm, .inl (kt, 3, .inl ft)), (bh, .inl (kb, 3, .inl g_7))]) hP hD [0, 1, 2, 3, 4, 5, 6, 7, 8, 9, 10] [] rfl rfl (by decide) (by decide) hk1 hFc hP1 hD1
    have hK := hK.app hK1
    clear hk1 hz1 ht hvm
    generalize H1 = H at hP hS ⊢
    have hP : va_P (dC, dI) vwCl [(au, .inr (0, [.int (nI nc), .int (nI np), .int (nI ne), .int st0, .ref q4, .ref q5, .ref q6, .ref q7, .ref q8, .ref q9, .ref q10, .ref q11, .ref q12, .ref q13, .ref q14, .ref q15, .ref q16])), (q5, .inl (k5, 14, .inl f5)), (q6, .inl (k6, 14, .inl f6)), (q7, .inl (k7, 14, .inl f7)), (q8, .inl (k8, 22, .inl f8)), (q9, .inl (k9, 88, .inl f9)), (q12, .inl (k12, 88, .inl f12)), (q13, .inl (k13, 88, .inl f13)), (py, .inr (3, [.int on0, .int si0, .int ti0, .ref tm, .ref bh])), (tm, .inl (kt, 3, .inl ft)), (bh, .inl (kb, 3, .inl g_7))] H := hP
    have hD : va_D A [(au, .inr (0, [.int (nI nc), .int (nI np), .int (nI ne), .int st0, .ref q4, .ref q5, .ref q6, .ref q7, .ref q8, .ref q9, .ref q10, .ref q11, .ref q12, .ref q13, .ref q14, .ref q15, .ref q16])), (q5, .inl (k5, 14, .inl f5)), (q6, .inl (k6, 14, .inl f6)), (q7, .inl (k7, 14, .inl f7)), (q8, .inl (k8, 22, .inl f8)), (q9, .inl (k9, 88, .inl f9)), (q12, .inl (k12, 88, .inl f12)), (q13, .inl (k13, 88, .inl f13)), (py, .inr (3, [.int on0, .int si0, .int ti0, .ref tm, .ref bh])), (tm, .inl (kt, 3, .inl ft)), (bh, .inl (kb, 3, .inl g_7))] := hD
    have hK : va_K (dC, dI) vwCl [(k5, .int), (k6, .int), (k7, .int), (k8, .int), (k9, .int), (k12, .int), (k13, .int), (kt, .int), (kb, .int), (k5, .int), (k6, .int), (k7, .int), (k8, .int), (k9, .int), (k12, .int), (k13, .int), (kt, .int), (kb, .int)] s := hK
    rcases hw with rfl | rfl
    · refine lv_if_eq (tgt := 27) hx hb dX3_openEdges_18 (by decide) (fun _ => ?_) (fun z => absurd z (by decide))
      refine lv_iinc (v := (nI (i_3 + 1))) (lv' := [(3, .int (nI (i_3 + 1))), (0, .ref py), (1, .ref au), (2, .int vl_2)]) hx hb dX3_openEdges_27 hl (k := 3) rfl (nI_1 _) (by decide) rfl (fun ls hl => ?_)
      refine lv_goto (tgt := 4) hx hb dX3_openEdges_30 (by decide) ?_
      exact ih_5 _ _ _ ⟨_, _, hP, hD, hS, lv_sub hl [1, 2, 3, 0] rfl⟩
    · refine lv_if_eq (tgt := 27) hx hb dX3_openEdges_18 (by decide) (fun z => absurd z (by decide)) (fun _ => ?_)
      refine lv_iload_n hx hb dX3_openEdges_21 rfl (lv_at hl 2 rfl) ?_
      refine lv_iconst (v := 1) hx hb dX3_openEdges_22 (by decide) ?_
      refine lv_iload_n hx hb dX3_openEdges_23 rfl (lv_at hl 3 rfl) ?_
      refine lv_ishl hx hb dX3_openEdges_24 ?_
      refine lv_ior hx hb dX3_openEdges_25 ?_
      refine lv_istore_n (lv' := [(2, .int (vl_2 ||| ((1 : Int32) <<< (((nI i_3) : Int32) &&& 31)))), (0, .ref py), (1, .ref au), (3, .int (nI i_3))]) hx hb dX3_openEdges_26 rfl hl (by decide) rfl (fun ls hl => ?_)
      refine lv_iinc (v := (nI (i_3 + 1))) (lv' := [(3, .int (nI (i_3 + 1))), (2, .int (vl_2 ||| ((1 : Int32) <<< (((nI i_3) : Int32) &&& 31)))), (0, .ref py), (1, .ref au)]) hx hb dX3_openEdges_27 hl (k := 3) rfl (nI_1 _) (by decide) rfl (fun ls hl => ?_)
      refine lv_goto (tgt := 4) hx hb dX3_openEdges_30 (by decide) ?_
      exact ih_5 _ _ _ ⟨_, _, hP, hD, hS, lv_sub hl [2, 3, 1, 0] rfl⟩
theorem dX2_keep_0 : decode cX2_keep 0 = .ok (.aload_n 0, 1) := by decide +kernel
theorem dX2_keep_1 : decode cX2_keep 1 = .ok (.getfield 18, 3) := by decide +kernel
theorem dX2_keep_4 : decode cX2_keep 4 = .ok (.bipush 20, 2) := by decide +kernel
theorem dX2_keep_6 : decode cX2_keep 6 = .ok (.if_icmp .ne 55, 3) := by decide +kernel
theorem dX2_keep_9 : decode cX2_keep 9 = .ok (.iconst 1, 1) := by decide +kernel
theorem dX2_keep_10 : decode cX2_keep 10 = .ok (.istore_n 3, 1) := by decide +kernel
theorem dX2_keep_11 : decode cX2_keep 11 = .ok (.iload_n 3, 1) := by decide +kernel
theorem dX2_keep_12 : decode cX2_keep 12 = .ok (.bipush 20, 2) := by decide +kernel
theorem dX2_keep_14 : decode cX2_keep 14 = .ok (.if_icmp .ge 37, 3) := by decide +kernel
theorem dX2_keep_17 : decode cX2_keep 17 = .ok (.aload_n 0, 1) := by decide +kernel
theorem dX2_keep_18 : decode cX2_keep 18 = .ok (.getfield 9, 3) := by decide +kernel
theorem dX2_keep_21 : decode cX2_keep 21 = .ok (.iload_n 3, 1) := by decide +kernel
theorem dX2_keep_22 : decode cX2_keep 22 = .ok (.iconst 1, 1) := by decide +kernel
theorem dX2_keep_23 : decode cX2_keep 23 = .ok (.isub, 1) := by decide +kernel
theorem dX2_keep_24 : decode cX2_keep 24 = .ok (.aload_n 0, 1) := by decide +kernel
theorem dX2_keep_25 : decode cX2_keep 25 = .ok (.getfield 9, 3) := by decide +kernel
theorem dX2_keep_28 : decode cX2_keep 28 = .ok (.iload_n 3, 1) := by decide +kernel
theorem dX2_keep_29 : decode cX2_keep 29 = .ok (.iaload, 1) := by decide +kernel
theorem dX2_keep_30 : decode cX2_keep 30 = .ok (.iastore, 1) := by decide +kernel
theorem dX2_keep_31 : decode cX2_keep 31 = .ok (.aload_n 0, 1) := by decide +kernel
theorem dX2_keep_32 : decode cX2_keep 32 = .ok (.getfield 15, 3) := by decide +kernel
theorem dX2_keep_35 : decode cX2_keep 35 = .ok (.iload_n 3, 1) := by decide +kernel
theorem dX2_keep_36 : decode cX2_keep 36 = .ok (.iconst 1, 1) := by decide +kernel
theorem dX2_keep_37 : decode cX2_keep 37 = .ok (.isub, 1) := by decide +kernel
theorem dX2_keep_38 : decode cX2_keep 38 = .ok (.aload_n 0, 1) := by decide +kernel
theorem dX2_keep_39 : decode cX2_keep 39 = .ok (.getfield 15, 3) := by decide +kernel
theorem dX2_keep_42 : decode cX2_keep 42 = .ok (.iload_n 3, 1) := by decide +kernel
theorem dX2_keep_43 : decode cX2_keep 43 = .ok (.iaload, 1) := by decide +kernel
theorem dX2_keep_44 : decode cX2_keep 44 = .ok (.iastore, 1) := by decide +kernel
theorem dX2_keep_45 : decode cX2_keep 45 = .ok (.iinc 3 1, 3) := by decide +kernel
theorem dX2_keep_48 : decode cX2_keep 48 = .ok (.goto (-37), 3) := by decide +kernel
theorem dX2_keep_51 : decode cX2_keep 51 = .ok (.aload_n 0, 1) := by decide +kernel
theorem dX2_keep_52 : decode cX2_keep 52 = .ok (.dup, 1) := by decide +kernel
theorem dX2_keep_53 : decode cX2_keep 53 = .ok (.getfield 18, 3) := by decide +kernel
theorem dX2_keep_56 : decode cX2_keep 56 = .ok (.iconst 1, 1) := by decide +kernel
theorem dX2_keep_57 : decode cX2_keep 57 = .ok (.isub, 1) := by decide +kernel
theorem dX2_keep_58 : decode cX2_keep 58 = .ok (.putfield 18, 3) := by decide +kernel
theorem dX2_keep_61 : decode cX2_keep 61 = .ok (.aload_n 0, 1) := by decide +kernel
theorem dX2_keep_62 : decode cX2_keep 62 = .ok (.getfield 9, 3) := by decide +kernel
theorem dX2_keep_65 : decode cX2_keep 65 = .ok (.aload_n 0, 1) := by decide +kernel
theorem dX2_keep_66 : decode cX2_keep 66 = .ok (.getfield 18, 3) := by decide +kernel
theorem dX2_keep_69 : decode cX2_keep 69 = .ok (.iload_n 1, 1) := by decide +kernel
theorem dX2_keep_70 : decode cX2_keep 70 = .ok (.iastore, 1) := by decide +kernel
theorem dX2_keep_71 : decode cX2_keep 71 = .ok (.aload_n 0, 1) := by decide +kernel
theorem dX2_keep_72 : decode cX2_keep 72 = .ok (.getfield 15, 3) := by decide +kernel
theorem dX2_keep_75 : decode cX2_keep 75 = .ok (.aload_n 0, 1) := by decide +kernel
theorem dX2_keep_76 : decode cX2_keep 76 = .ok (.getfield 18, 3) := by decide +kernel
theorem dX2_keep_79 : decode cX2_keep 79 = .ok (.iload_n 2, 1) := by decide +kernel
theorem dX2_keep_80 : decode cX2_keep 80 = .ok (.iastore, 1) := by decide +kernel
theorem dX2_keep_81 : decode cX2_keep 81 = .ok (.aload_n 0, 1) := by decide +kernel
theorem dX2_keep_82 : decode cX2_keep 82 = .ok (.dup, 1) := by decide +kernel
theorem dX2_keep_83 : decode cX2_keep 83 = .ok (.getfield 18, 3) := by decide +kernel
theorem dX2_keep_86 : decode cX2_keep 86 = .ok (.iconst 1, 1) := by decide +kernel
theorem dX2_keep_87 : decode cX2_keep 87 = .ok (.iadd, 1) := by decide +kernel
theorem dX2_keep_88 : decode cX2_keep 88 = .ok (.putfield 18, 3) := by decide +kernel
theorem dX2_keep_91 : decode cX2_keep 91 = .ok (.return_, 1) := by decide +kernel
def vs_X2_keep : List Cond := .code yX2_keep cX2_keep 4 none :: ([.fieldLink RX2 18 "ClockReach$History" "count" "I", .fieldLink RX2 9 "ClockReach$History" "codes" "[I", .fieldLink RX2 15 "ClockReach$History" "olds" "[I"] ++ wsX20)
set_option maxHeartbeats 4000000 in
set_option maxRecDepth 100000 in
theorem c_X2_keep (l : Launch) (dC : Nat → ClassId) (dI : Nat → Nat → Nat) (sz : Nat) (hy : Nat) (co ol : Nat) (kco kol : ClassId) (hk : Nat) (fo fl : Nat → Int32) (hk20 : hk ≤ 20) (p0 p1 : Int32) : Met l yX2_keep vs_X2_keep ({ frames := 0, cells := 0, slots := 0, locals := 0 }) (va_Pc [.ref hy, .int p0, .int p1] (pu_B (dC, dI) [(hy, .inr (2, [.int (nI hk), .ref co, .ref ol])), (co, .inl (kco, 20, .inl fo)), (ol, .inl (kol, 20, .inl fl))] [(kco, .int), (kol, .int)] sz)) (va_Qv (fun (_ : Unit) => True) (fun _ t => ∃ (k1 : Nat) (g1 g2 : Nat → Int32), pu_E (dC, dI) [(hy, .inr (2, [.int (nI k1), .ref co, .ref ol])), (co, .inl (kco, 20, .inl g1)), (ol, .inl (kol, 20, .inl g2))] [(kco, .int), (kol, .int)] (va_A ([(hy, .inr (2, [.int (nI hk), .ref co, .ref ol])), (co, .inl (kco, 20, .inl fo)), (ol, .inl (kol, 20, .inl fl))]) sz) t ∧ k1 ≤ 20) (va_A ([(hy, .inr (2, [.int (nI hk), .ref co, .ref ol])), (co, .inl (kco, 20, .inl fo)), (ol, .inl (kol, 20, .inl fl))]) sz)) 0 0 (va_A ([(hy, .inr (2, [.int (nI hk), .ref co, .ref ol])), (co, .inl (kco, 20, .inl fo)), (ol, .inl (kol, 20, .inl fl))]) sz) := by
  refine Met.ofW (cc := cX2_keep) (maxL := 4) (ret := none) (by decide) rfl ?_
  intro p e s m args below meth c s₁ B hml hv
  obtain ⟨rfl, rfl, hP, hK, hD0⟩ := hv
  have hx := B.exec
  have hb := B.bytes
  have hr := B.returns
  have hts := atoms_spec (ws := vs_X2_keep) B.pre
  have v_1 := hts (.fieldLink RX2 18 "ClockReach$History" "count" "I") (List.mem_of_getElem? (i := 1) rfl)
  have v_2 := hts (.fieldLink RX2 9 "ClockReach$History" "codes" "[I") (List.mem_of_getElem? (i := 2) rfl)
  have v_3 := hts (.fieldLink RX2 15 "ClockReach$History" "olds" "[I") (List.mem_of_getElem? (i := 3) rfl)
  have hown : s.vm.findClass RX2 = some m.cls := findClass_of_methodNamed B.named
  have hlocks := B.notSynchronized
  have hiX2 : ∀ w ∈ wsX20, w ∈ vs_X2_keep := fun _ h => List.mem_cons_of_mem _ (List.mem_append_right _ h)
  have hD := hD0.self (sz := s.heap.size)
  generalize hAe : va_A ([(hy, .inr (2, [.int (nI hk), .ref co, .ref ol])), (co, .inl (kco, 20, .inl fo)), (ol, .inl (kol, 20, .inl fl))]) s.heap.size = A at hD ⊢
  have hA : ∀ q : Nat, s.heap.size ≤ q → A q := fun q h => by rw [← hAe]; exact Or.inr h
  have hS : va_S A s.heap s.heap [] := va_S.rf
  have hl := lv_entry ([.ref hy, .int p0, .int p1]) (n := 4) (Nat.le_of_ble_eq_true rfl)
  rw [lg_entry_eq]
  generalize (lg_sl ([.ref hy, .int p0, .int p1]) ++ List.replicate (4 - (lg_sl ([.ref hy, .int p0, .int p1])).length) Slot.unset).toArray = ls at hl ⊢
  have hl : lv_has ls 4 [(0, .ref hy), (1, .int p0), (2, .int p1)] := hl
  refine lv_aload_n hx hb dX2_keep_0 rfl (lv_at hl 0 rfl) ?_
  refine va_get (D := (dC, dI)) (ci := 2) (v := .int (nI hk)) (C := RX2) (T := TX2) (N := 3) hx hb hts hiX2 hown hK hP 0 rfl rfl 0 (by decide) v_1 (fun _ h9 => h9) rfl dX2_keep_1 ?_
  refine lv_bipush (v := 20) hx hb dX2_keep_4 (by decide) ?_
  refine lv_icmp_ne (tgt := 61) hx hb dX2_keep_6 (by decide) (fun c_1 => ?_) (fun c_1 => ?_)
  · have c_1 : ¬ hk = 20 := fun z => c_1 ((nI_eq (a := hk) (b := 20) (by omega) (by omega)).mpr z)
    refine lv_aload_n hx hb dX2_keep_61 rfl (lv_at hl 0 rfl) ?_
    refine va_get (D := (dC, dI)) (ci := 2) (v := .ref co) (C := RX2) (T := TX2) (N := 3) hx hb hts hiX2 hown hK hP 0 rfl rfl 1 (by decide) v_2 (fun _ h9 => h9) rfl dX2_keep_62 ?_
    refine lv_aload_n hx hb dX2_keep_65 rfl (lv_at hl 0 rfl) ?_
    refine va_get (D := (dC, dI)) (ci := 2) (v := .int (nI hk)) (C := RX2) (T := TX2) (N := 3) hx hb hts hiX2 hown hK hP 0 rfl rfl 0 (by decide) v_1 (fun _ h9 => h9) rfl dX2_keep_66 ?_
    refine lv_iload_n hx hb dX2_keep_69 rfl (lv_at hl 1 rfl) ?_
    refine va_iast hx hb hK hP hD hS 1 0 rfl rfl (vp_in_nI (n := hk) (by first | omega | exact ix_lt (by omega) (by omega) hn | exact ix_lt0 (by omega) hn | exact ix_ltq (by omega) hn | exact ix_lt1 (by omega) hn) (by omega)) dX2_keep_70 (fun H locs hP hD hS => ?_)
    have hP : va_P (dC, dI) vwCl [(hy, .inr (2, [.int (nI hk), .ref co, .ref ol])), (co, .inl (kco, 20, .inl (upd fo ((nI hk) : Int32).toNatClampNeg p0))), (ol, .inl (kol, 20, .inl fl))] H := hP
    have hD : va_D A [(hy, .inr (2, [.int (nI hk), .ref co, .ref ol])), (co, .inl (kco, 20, .inl (upd fo ((nI hk) : Int32).toNatClampNeg p0))), (ol, .inl (kol, 20, .inl fl))] := hD
    refine lv_aload_n hx hb dX2_keep_71 rfl (lv_at hl 0 rfl) ?_
    refine va_get (D := (dC, dI)) (ci := 2) (v := .ref ol) (C := RX2) (T := TX2) (N := 3) hx hb hts hiX2 hown hK hP 0 rfl rfl 2 (by decide) v_3 (fun _ h9 => h9) rfl dX2_keep_72 ?_
    refine lv_aload_n hx hb dX2_keep_75 rfl (lv_at hl 0 rfl) ?_
    refine va_get (D := (dC, dI)) (ci := 2) (v := .int (nI hk)) (C := RX2) (T := TX2) (N := 3) hx hb hts hiX2 hown hK hP 0 rfl rfl 0 (by decide) v_1 (fun _ h9 => h9) rfl dX2_keep_76 ?_
    refine lv_iload_n hx hb dX2_keep_79 rfl (lv_at hl 2 rfl) ?_
    refine va_iast hx hb hK hP hD hS 2 1 rfl rfl (vp_in_nI (n := hk) (by first | omega | exact ix_lt (by omega) (by omega) hn | exact ix_lt0 (by omega) hn | exact ix_ltq (by omega) hn | exact ix_lt1 (by omega) hn) (by omega)) dX2_keep_80 (fun H locs hP hD hS => ?_)
    have hP : va_P (dC, dI) vwCl [(hy, .inr (2, [.int (nI hk), .ref co, .ref ol])), (co, .inl (kco, 20, .inl (upd fo ((nI hk) : Int32).toNatClampNeg p0))), (ol, .inl (kol, 20, .inl (upd fl ((nI hk) : Int32).toNatClampNeg p1)))] H := hP
    have hD : va_D A [(hy, .inr (2, [.int (nI hk), .ref co, .ref ol])), (co, .inl (kco, 20, .inl (upd fo ((nI hk) : Int32).toNatClampNeg p0))), (ol, .inl (kol, 20, .inl (upd fl ((nI hk) : Int32).toNatClampNeg p1)))] := hD
    refine lv_aload_n hx hb dX2_keep_81 rfl (lv_at hl 0 rfl) ?_
    refine lv_dup hx hb dX2_keep_82 rfl ?_
    refine va_get (D := (dC, dI)) (ci := 2) (v := .int (nI hk)) (C := RX2) (T := TX2) (N := 3) hx hb hts hiX2 hown hK hP 0 rfl rfl 0 (by decide) v_1 (fun _ h9 => h9) rfl dX2_keep_83 ?_
    refine lv_iconst (v := 1) hx hb dX2_keep_86 (by decide) ?_
    refine lv_iadd hx hb dX2_keep_87 ?_
    refine lv_topi (fun y_2 ey_2 => ?_)
    obtain rfl : y_2 = (nI (hk + 1)) := ey_2.trans (nI_add hk 1)
    refine va_put (D := (dC, dI)) (ci := 2) (v := .int (nI (hk + 1))) (ty := .int) (C := RX2) (T := TX2) (N := 3) hx hb hts hiX2 tyX2 tyX2_ok nmX2 hown hK hP hD hS 0 rfl rfl 0 (by decide) v_1 (fun _ h9 => h9) rfl (by decide +kernel) rfl rfl (Nat.le_of_ble_eq_true rfl) dX2_keep_88 (fun H locs hP hD hS => ?_)
    have hP : va_P (dC, dI) vwCl [(hy, .inr (2, [.int (nI (hk + 1)), .ref co, .ref ol])), (co, .inl (kco, 20, .inl (upd fo ((nI hk) : Int32).toNatClampNeg p0))), (ol, .inl (kol, 20, .inl (upd fl ((nI hk) : Int32).toNatClampNeg p1)))] H := hP
    have hD : va_D A [(hy, .inr (2, [.int (nI (hk + 1)), .ref co, .ref ol])), (co, .inl (kco, 20, .inl (upd fo ((nI hk) : Int32).toNatClampNeg p0))), (ol, .inl (kol, 20, .inl (upd fl ((nI hk) : Int32).toNatClampNeg p1)))] := hD
    have hP9 := hP.sub (ws' := [(hy, .inr (2, [.int (nI (hk + 1)), .ref co, .ref ol])), (co, .inl (kco, 20, .inl (upd fo ((nI hk) : Int32).toNatClampNeg p0))), (ol, .inl (kol, 20, .inl (upd fl ((nI hk) : Int32).toNatClampNeg p1)))]) [0, 1, 2] rfl
    have hD9 := hD.sub (ws' := [(hy, .inr (2, [.int (nI (hk + 1)), .ref co, .ref ol])), (co, .inl (kco, 20, .inl (upd fo ((nI hk) : Int32).toNatClampNeg p0))), (ol, .inl (kol, 20, .inl (upd fl ((nI hk) : Int32).toNatClampNeg p1)))]) [0, 1, 2] (by decide) rfl
    have hK9 := hK.sub (tys' := [(kco, .int), (kol, .int)]) [0, 1] rfl
    exact W.vret hx hb hr (fun t ht hW => ⟨⟨(), rfl, trivial, ⟨(hk + 1), upd fo ((nI hk) : Int32).toNatClampNeg p0, upd fl ((nI hk) : Int32).toNatClampNeg p1, ⟨by rw [ht]; exact hP9, va_K.moved hW.alike hK9, hD9⟩, (by omega)⟩⟩, hS.F ht⟩) hS.2.2 dX2_keep_91
  · have c_1 : hk = 20 := (nI_eq (a := hk) (b := 20) (by omega) (by omega)).mp c_1
    refine lv_iconst (v := 1) hx hb dX2_keep_9 (by decide) ?_
    refine lv_istore_n (lv' := [(3, .int 1), (0, .ref hy), (1, .int p0), (2, .int p1)]) hx hb dX2_keep_10 rfl hl (by decide) rfl (fun ls hl => ?_)
    refine pu_loop (19) (fun ii H locs ls => ∃ f0 : Nat → Int32, ∃ f1 : Nat → Int32, va_P (dC, dI) vwCl [(hy, .inr (2, [.int (nI hk), .ref co, .ref ol])), (co, .inl (kco, 20, .inl f0)), (ol, .inl (kol, 20, .inl f1))] H ∧ va_D A [(hy, .inr (2, [.int (nI hk), .ref co, .ref ol])), (co, .inl (kco, 20, .inl f0)), (ol, .inl (kol, 20, .inl f1))] ∧ va_S A s.heap H locs ∧ lv_has ls 4 [(0, .ref hy), (1, .int p0), (2, .int p1), (3, .int (nI (1 + ii)))]) (fun _ => 0) (fun _ => 0) 11 [] ?_ ?_ _ _ _ ⟨_, _, hP, hD, hS, lv_sub hl [1, 2, 3, 0] rfl⟩
    · rintro H locs ls ⟨f_3, f_4, hP, hD, hS, hl⟩
      refine lv_iload_n hx hb dX2_keep_11 rfl (lv_at hl 3 rfl) ?_
      refine lv_bipush (v := 20) hx hb dX2_keep_12 (by decide) ?_
      refine lv_icmp_ge (tgt := 51) hx hb dX2_keep_14 (by decide) (fun _ => ?_) (fun z => absurd (nI_le (a := 20) (b := (1 + 19)) (by omega) (by omega)) z)
      refine lv_aload_n hx hb dX2_keep_51 rfl (lv_at hl 0 rfl) ?_
      refine lv_dup hx hb dX2_keep_52 rfl ?_
      refine va_get (D := (dC, dI)) (ci := 2) (v := .int (nI hk)) (C := RX2) (T := TX2) (N := 3) hx hb hts hiX2 hown hK hP 0 rfl rfl 0 (by decide) v_1 (fun _ h9 => h9) rfl dX2_keep_53 ?_
      refine lv_iconst (v := 1) hx hb dX2_keep_56 (by decide) ?_
      refine lv_isub hx hb dX2_keep_57 ?_
      refine lv_topi (fun y_8 ey_8 => ?_)
      obtain rfl : y_8 = (nI (hk - 1)) := ey_8.trans (pk_sub (a := hk) (b := 1) (by omega))
      refine va_put (D := (dC, dI)) (ci := 2) (v := .int (nI (hk - 1))) (ty := .int) (C := RX2) (T := TX2) (N := 3) hx hb hts hiX2 tyX2 tyX2_ok nmX2 hown hK hP hD hS 0 rfl rfl 0 (by decide) v_1 (fun _ h9 => h9) rfl (by decide +kernel) rfl rfl (Nat.le_of_ble_eq_true rfl) dX2_keep_58 (fun H locs hP hD hS => ?_)
      have hP : va_P (dC, dI) vwCl [(hy, .inr (2, [.int (nI (hk - 1)), .ref co, .ref ol])), (co, .inl (kco, 20, .inl f_3)), (ol, .inl (kol, 20, .inl f_4))] H := hP
      have hD : va_D A [(hy, .inr (2, [.int (nI (hk - 1)), .ref co, .ref ol])), (co, .inl (kco, 20, .inl f_3)), (ol, .inl (kol, 20, .inl f_4))] := hD
      refine lv_aload_n hx hb dX2_keep_61 rfl (lv_at hl 0 rfl) ?_
      refine va_get (D := (dC, dI)) (ci := 2) (v := .ref co) (C := RX2) (T := TX2) (N := 3) hx hb hts hiX2 hown hK hP 0 rfl rfl 1 (by decide) v_2 (fun _ h9 => h9) rfl dX2_keep_62 ?_
      refine lv_aload_n hx hb dX2_keep_65 rfl (lv_at hl 0 rfl) ?_
      refine va_get (D := (dC, dI)) (ci := 2) (v := .int (nI (hk - 1))) (C := RX2) (T := TX2) (N := 3) hx hb hts hiX2 hown hK hP 0 rfl rfl 0 (by decide) v_1 (fun _ h9 => h9) rfl dX2_keep_66 ?_
      refine lv_iload_n hx hb dX2_keep_69 rfl (lv_at hl 1 rfl) ?_
      refine va_iast hx hb hK hP hD hS 1 0 rfl rfl (vp_in_nI (n := (hk - 1)) (by first | omega | exact ix_lt (by omega) (by omega) hn | exact ix_lt0 (by omega) hn | exact ix_ltq (by omega) hn | exact ix_lt1 (by omega) hn) (by omega)) dX2_keep_70 (fun H locs hP hD hS => ?_)
      have hP : va_P (dC, dI) vwCl [(hy, .inr (2, [.int (nI (hk - 1)), .ref co, .ref ol])), (co, .inl (kco, 20, .inl (upd f_3 ((nI (hk - 1)) : Int32).toNatClampNeg p0))), (ol, .inl (kol, 20, .inl f_4))] H := hP
      have hD : va_D A [(hy, .inr (2, [.int (nI (hk - 1)), .ref co, .ref ol])), (co, .inl (kco, 20, .inl (upd f_3 ((nI (hk - 1)) : Int32).toNatClampNeg p0))), (ol, .inl (kol, 20, .inl f_4))] := hD
      refine lv_aload_n hx hb dX2_keep_71 rfl (lv_at hl 0 rfl) ?_
      refine va_get (D := (dC, dI)) (ci := 2) (v := .ref ol) (C := RX2) (T := TX2) (N := 3) hx hb hts hiX2 hown hK hP 0 rfl rfl 2 (by decide) v_3 (fun _ h9 => h9) rfl dX2_keep_72 ?_
      refine lv_aload_n hx hb dX2_keep_75 rfl (lv_at hl 0 rfl) ?_
      refine va_get (D := (dC, dI)) (ci := 2) (v := .int (nI (hk - 1))) (C := RX2) (T := TX2) (N := 3) hx hb hts hiX2 hown hK hP 0 rfl rfl 0 (by decide) v_1 (fun _ h9 => h9) rfl dX2_keep_76 ?_
      refine lv_iload_n hx hb dX2_keep_79 rfl (lv_at hl 2 rfl) ?_
      refine va_iast hx hb hK hP hD hS 2 1 rfl rfl (vp_in_nI (n := (hk - 1)) (by first | omega | exact ix_lt (by omega) (by omega) hn | exact ix_lt0 (by omega) hn | exact ix_ltq (by omega) hn | exact ix_lt1 (by omega) hn) (by omega)) dX2_keep_80 (fun H locs hP hD hS => ?_)
      have hP : va_P (dC, dI) vwCl [(hy, .inr (2, [.int (nI (hk - 1)), .ref co, .ref ol])), (co, .inl (kco, 20, .inl (upd f_3 ((nI (hk - 1)) : Int32).toNatClampNeg p0))), (ol, .inl (kol, 20, .inl (upd f_4 ((nI (hk - 1)) : Int32).toNatClampNeg p1)))] H := hP
      have hD : va_D A [(hy, .inr (2, [.int (nI (hk - 1)), .ref co, .ref ol])), (co, .inl (kco, 20, .inl (upd f_3 ((nI (hk - 1)) : Int32).toNatClampNeg p0))), (ol, .inl (kol, 20, .inl (upd f_4 ((nI (hk - 1)) : Int32).toNatClampNeg p1)))] := hD
      refine lv_aload_n hx hb dX2_keep_81 rfl (lv_at hl 0 rfl) ?_
      refine lv_dup hx hb dX2_keep_82 rfl ?_
      refine va_get (D := (dC, dI)) (ci := 2) (v := .int (nI (hk - 1))) (C := RX2) (T := TX2) (N := 3) hx hb hts hiX2 hown hK hP 0 rfl rfl 0 (by decide) v_1 (fun _ h9 => h9) rfl dX2_keep_83 ?_
      refine lv_iconst (v := 1) hx hb dX2_keep_86 (by decide) ?_
      refine lv_iadd hx hb dX2_keep_87 ?_
      refine lv_topi (fun y_9 ey_9 => ?_)
      obtain rfl : y_9 = (nI ((hk - 1) + 1)) := ey_9.trans (nI_add (hk - 1) 1)
      refine va_put (D := (dC, dI)) (ci := 2) (v := .int (nI ((hk - 1) + 1))) (ty := .int) (C := RX2) (T := TX2) (N := 3) hx hb hts hiX2 tyX2 tyX2_ok nmX2 hown hK hP hD hS 0 rfl rfl 0 (by decide) v_1 (fun _ h9 => h9) rfl (by decide +kernel) rfl rfl (Nat.le_of_ble_eq_true rfl) dX2_keep_88 (fun H locs hP hD hS => ?_)
      have hP : va_P (dC, dI) vwCl [(hy, .inr (2, [.int (nI ((hk - 1) + 1)), .ref co, .ref ol])), (co, .inl (kco, 20, .inl (upd f_3 ((nI (hk - 1)) : Int32).toNatClampNeg p0))), (ol, .inl (kol, 20, .inl (upd f_4 ((nI (hk - 1)) : Int32).toNatClampNeg p1)))] H := hP
      have hD : va_D A [(hy, .inr (2, [.int (nI ((hk - 1) + 1)), .ref co, .ref ol])), (co, .inl (kco, 20, .inl (upd f_3 ((nI (hk - 1)) : Int32).toNatClampNeg p0))), (ol, .inl (kol, 20, .inl (upd f_4 ((nI (hk - 1)) : Int32).toNatClampNeg p1)))] := hD
      have hP9 := hP.sub (ws' := [(hy, .inr (2, [.int (nI ((hk - 1) + 1)), .ref co, .ref ol])), (co, .inl (kco, 20, .inl (upd f_3 ((nI (hk - 1)) : Int32).toNatClampNeg p0))), (ol, .inl (kol, 20, .inl (upd f_4 ((nI (hk - 1)) : Int32).toNatClampNeg p1)))]) [0, 1, 2] rfl
      have hD9 := hD.sub (ws' := [(hy, .inr (2, [.int (nI ((hk - 1) + 1)), .ref co, .ref ol])), (co, .inl (kco, 20, .inl (upd f_3 ((nI (hk - 1)) : Int32).toNatClampNeg p0))), (ol, .inl (kol, 20, .inl (upd f_4 ((nI (hk - 1)) : Int32).toNatClampNeg p1)))]) [0, 1, 2] (by decide) rfl
      have hK9 := hK.sub (tys' := [(kco, .int), (kol, .int)]) [0, 1] rfl
      exact W.vret hx hb hr (fun t ht hW => ⟨⟨(), rfl, trivial, ⟨((hk - 1) + 1), upd f_3 ((nI (hk - 1)) : Int32).toNatClampNeg p0, upd f_4 ((nI (hk - 1)) : Int32).toNatClampNeg p1, ⟨by rw [ht]; exact hP9, va_K.moved hW.alike hK9, hD9⟩, (by omega)⟩⟩, hS.F ht⟩) hS.2.2 dX2_keep_91
    · rintro i_5 h_6 ih_7 H locs ls ⟨f_3, f_4, hP, hD, hS, hl⟩
      refine lv_iload_n hx hb dX2_keep_11 rfl (lv_at hl 3 rfl) ?_
      refine lv_bipush (v := 20) hx hb dX2_keep_12 (by decide) ?_
      refine lv_icmp_ge (tgt := 51) hx hb dX2_keep_14 (by decide) (fun z => absurd z (nI_ge (a := (1 + i_5)) (b := 20) (by omega) (by omega))) (fun _ => ?_)
      refine lv_aload_n hx hb dX2_keep_17 rfl (lv_at hl 0 rfl) ?_
      refine va_get (D := (dC, dI)) (ci := 2) (v := .ref co) (C := RX2) (T := TX2) (N := 3) hx hb hts hiX2 hown hK hP 0 rfl rfl 1 (by decide) v_2 (fun _ h9 => h9) rfl dX2_keep_18 ?_
      refine lv_iload_n hx hb dX2_keep_21 rfl (lv_at hl 3 rfl) ?_
      refine lv_iconst (v := 1) hx hb dX2_keep_22 (by decide) ?_
      refine lv_isub hx hb dX2_keep_23 ?_
      refine lv_topi (fun y_10 ey_10 => ?_)
      obtain rfl : y_10 = (nI ((1 + i_5) - 1)) := ey_10.trans (pk_sub (a := (1 + i_5)) (b := 1) (by omega))
      refine lv_aload_n hx hb dX2_keep_24 rfl (lv_at hl 0 rfl) ?_
      refine va_get (D := (dC, dI)) (ci := 2) (v := .ref co) (C := RX2) (T := TX2) (N := 3) hx hb hts hiX2 hown hK hP 0 rfl rfl 1 (by decide) v_2 (fun _ h9 => h9) rfl dX2_keep_25 ?_
      refine lv_iload_n hx hb dX2_keep_28 rfl (lv_at hl 3 rfl) ?_
      refine va_iald hx hb hK hP 1 0 rfl rfl (vp_in_nI (n := (1 + i_5)) (by first | omega | exact ix_lt (by omega) (by omega) hn | exact ix_lt0 (by omega) hn | exact ix_ltq (by omega) hn | exact ix_lt1 (by omega) hn) (by omega)) dX2_keep_29 ?_
      refine va_iast hx hb hK hP hD hS 1 0 rfl rfl (vp_in_nI (n := ((1 + i_5) - 1)) (by first | omega | exact ix_lt (by omega) (by omega) hn | exact ix_lt0 (by omega) hn | exact ix_ltq (by omega) hn | exact ix_lt1 (by omega) hn) (by omega)) dX2_keep_30 (fun H locs hP hD hS => ?_)
      have hP : va_P (dC, dI) vwCl [(hy, .inr (2, [.int (nI hk), .ref co, .ref ol])), (co, .inl (kco, 20, .inl (upd f_3 ((nI ((1 + i_5) - 1)) : Int32).toNatClampNeg (f_3 ((nI (1 + i_5))).toNatClampNeg)))), (ol, .inl (kol, 20, .inl f_4))] H := hP
      have hD : va_D A [(hy, .inr (2, [.int (nI hk), .ref co, .ref ol])), (co, .inl (kco, 20, .inl (upd f_3 ((nI ((1 + i_5) - 1)) : Int32).toNatClampNeg (f_3 ((nI (1 + i_5))).toNatClampNeg)))), (ol, .inl (kol, 20, .inl f_4))] := hD
      refine lv_aload_n hx hb dX2_keep_31 rfl (lv_at hl 0 rfl) ?_
      refine va_get (D := (dC, dI)) (ci := 2) (v := .ref ol) (C := RX2) (T := TX2) (N := 3) hx hb hts hiX2 hown hK hP 0 rfl rfl 2 (by decide) v_3 (fun _ h9 => h9) rfl dX2_keep_32 ?_
      refine lv_iload_n hx hb dX2_keep_35 rfl (lv_at hl 3 rfl) ?_
      refine lv_iconst (v := 1) hx hb dX2_keep_36 (by decide) ?_
      refine lv_isub hx hb dX2_keep_37 ?_
      refine lv_topi (fun y_11 ey_11 => ?_)
      obtain rfl : y_11 = (nI ((1 + i_5) - 1)) := ey_11.trans (pk_sub (a := (1 + i_5)) (b := 1) (by omega))
      refine lv_aload_n hx hb dX2_keep_38 rfl (lv_at hl 0 rfl) ?_
      refine va_get (D := (dC, dI)) (ci := 2) (v := .ref ol) (C := RX2) (T := TX2) (N := 3) hx hb hts hiX2 hown hK hP 0 rfl rfl 2 (by decide) v_3 (fun _ h9 => h9) rfl dX2_keep_39 ?_
      refine lv_iload_n hx hb dX2_keep_42 rfl (lv_at hl 3 rfl) ?_
      refine va_iald hx hb hK hP 2 1 rfl rfl (vp_in_nI (n := (1 + i_5)) (by first | omega | exact ix_lt (by omega) (by omega) hn | exact ix_lt0 (by omega) hn | exact ix_ltq (by omega) hn | exact ix_lt1 (by omega) hn) (by omega)) dX2_keep_43 ?_
      refine va_iast hx hb hK hP hD hS 2 1 rfl rfl (vp_in_nI (n := ((1 + i_5) - 1)) (by first | omega | exact ix_lt (by omega) (by omega) hn | exact ix_lt0 (by omega) hn | exact ix_ltq (by omega) hn | exact ix_lt1 (by omega) hn) (by omega)) dX2_keep_44 (fun H locs hP hD hS => ?_)
      have hP : va_P (dC, dI) vwCl [(hy, .inr (2, [.int (nI hk), .ref co, .ref ol])), (co, .inl (kco, 20, .inl (upd f_3 ((nI ((1 + i_5) - 1)) : Int32).toNatClampNeg (f_3 ((nI (1 + i_5))).toNatClampNeg)))), (ol, .inl (kol, 20, .inl (upd f_4 ((nI ((1 + i_5) - 1)) : Int32).toNatClampNeg (f_4 ((nI (1 + i_5))).toNatClampNeg))))] H := hP
      have hD : va_D A [(hy, .inr (2, [.int (nI hk), .ref co, .ref ol])), (co, .inl (kco, 20, .inl (upd f_3 ((nI ((1 + i_5) - 1)) : Int32).toNatClampNeg (f_3 ((nI (1 + i_5))).toNatClampNeg)))), (ol, .inl (kol, 20, .inl (upd f_4 ((nI ((1 + i_5) - 1)) : Int32).toNatClampNeg (f_4 ((nI (1 + i_5))).toNatClampNeg))))] := hD
      refine lv_iinc (v := (nI ((1 + i_5) + 1))) (lv' := [(3, .int (nI ((1 + i_5) + 1))), (0, .ref hy), (1, .int p0), (2, .int p1)]) hx hb dX2_keep_45 hl (k := 3) rfl (nI_1 _) (by decide) rfl (fun ls hl => ?_)
      refine lv_goto (tgt := 11) hx hb dX2_keep_48 (by decide) ?_
      exact ih_7 _ _ _ ⟨_, _, hP, hD, hS, lv_sub hl [1, 2, 3, 0] rfl⟩
