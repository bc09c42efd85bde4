theorem dX3_pass_0 : decode cX3_pass 0 = .ok (.aload_n 0, 1) := by decide +kernel
theorem dX3_pass_1 : decode cX3_pass 1 = .ok (.dup, 1) := by decide +kernel
theorem dX3_pass_2 : decode cX3_pass 2 = .ok (.getfield 34, 3) := by decide +kernel
theorem dX3_pass_5 : decode cX3_pass 5 = .ok (.iload_n 1, 1) := by decide +kernel
theorem dX3_pass_6 : decode cX3_pass 6 = .ok (.iadd, 1) := by decide +kernel
theorem dX3_pass_7 : decode cX3_pass 7 = .ok (.putfield 34, 3) := by decide +kernel
theorem dX3_pass_10 : decode cX3_pass 10 = .ok (.iconst 0, 1) := by decide +kernel
theorem dX3_pass_11 : decode cX3_pass 11 = .ok (.istore_n 2, 1) := by decide +kernel
theorem dX3_pass_12 : decode cX3_pass 12 = .ok (.iload_n 2, 1) := by decide +kernel
theorem dX3_pass_13 : decode cX3_pass 13 = .ok (.iconst 3, 1) := by decide +kernel
theorem dX3_pass_14 : decode cX3_pass 14 = .ok (.if_icmp .ge 19, 3) := by decide +kernel
theorem dX3_pass_17 : decode cX3_pass 17 = .ok (.aload_n 0, 1) := by decide +kernel
theorem dX3_pass_18 : decode cX3_pass 18 = .ok (.getfield 9, 3) := by decide +kernel
theorem dX3_pass_21 : decode cX3_pass 21 = .ok (.iload_n 2, 1) := by decide +kernel
theorem dX3_pass_22 : decode cX3_pass 22 = .ok (.dup2, 1) := by decide +kernel
theorem dX3_pass_23 : decode cX3_pass 23 = .ok (.iaload, 1) := by decide +kernel
theorem dX3_pass_24 : decode cX3_pass 24 = .ok (.iload_n 1, 1) := by decide +kernel
theorem dX3_pass_25 : decode cX3_pass 25 = .ok (.iadd, 1) := by decide +kernel
theorem dX3_pass_26 : decode cX3_pass 26 = .ok (.iastore, 1) := by decide +kernel
theorem dX3_pass_27 : decode cX3_pass 27 = .ok (.iinc 2 1, 3) := by decide +kernel
theorem dX3_pass_30 : decode cX3_pass 30 = .ok (.goto (-18), 3) := by decide +kernel
theorem dX3_pass_33 : decode cX3_pass 33 = .ok (.return_, 1) := by decide +kernel
def vs_X3_pass : List Cond := .code yX3_pass cX3_pass 3 none :: ([.fieldLink RX3 34 "ClockReach$Play" "time" "I", .fieldLink RX3 9 "ClockReach$Play" "times" "[I"] ++ wsX30)
set_option maxHeartbeats 4000000 in
set_option maxRecDepth 100000 in
theorem c_X3_pass (l : Launch) (dC : Nat → ClassId) (dI : Nat → Nat → Nat) (sz : Nat) (py tm bh : Nat) (kt kb : ClassId) (on0 si0 ti0 : Int32) (ft fb : Nat → Int32) (p0 : Int32) : Met l yX3_pass vs_X3_pass ({ frames := 0, cells := 0, slots := 0, locals := 0 }) (va_Pc [.ref py, .int p0] (pu_B (dC, dI) [(py, .inr (3, [.int on0, .int si0, .int ti0, .ref tm, .ref bh])), (tm, .inl (kt, 3, .inl ft)), (bh, .inl (kb, 3, .inl fb))] [(kt, .int), (kb, .int)] sz)) (va_Qv (fun (_ : Unit) => True) (fun _ t => ∃ (t1 : Int32) (g : Nat → Int32), pu_E (dC, dI) [(py, .inr (3, [.int on0, .int si0, .int t1, .ref tm, .ref bh])), (tm, .inl (kt, 3, .inl g)), (bh, .inl (kb, 3, .inl fb))] [(kt, .int), (kb, .int)] (va_A ([(py, .inr (3, [.int on0, .int si0, .int ti0, .ref tm, .ref bh])), (tm, .inl (kt, 3, .inl ft)), (bh, .inl (kb, 3, .inl fb))]) sz) t) (va_A ([(py, .inr (3, [.int on0, .int si0, .int ti0, .ref tm, .ref bh])), (tm, .inl (kt, 3, .inl ft)), (bh, .inl (kb, 3, .inl fb))]) sz)) 0 0 (va_A ([(py, .inr (3, [.int on0, .int si0, .int ti0, .ref tm, .ref bh])), (tm, .inl (kt, 3, .inl ft)), (bh, .inl (kb, 3, .inl fb))]) sz) := by
  refine Met.ofW (cc := cX3_pass) (maxL := 3) (ret := none) (by decide) rfl ?_
  intro p e s m args below meth c s₁ B hml hv
  obtain ⟨rfl, rfl, hP, hK, hD0⟩ := hv
  have hx := B.exec
  have hb := B.bytes
  have hr := B.returns
  have hts := atoms_spec (ws := vs_X3_pass) B.pre
  have v_1 := hts (.fieldLink RX3 34 "ClockReach$Play" "time" "I") (List.mem_of_getElem? (i := 1) rfl)
  have v_2 := hts (.fieldLink RX3 9 "ClockReach$Play" "times" "[I") (List.mem_of_getElem? (i := 2) rfl)
  have hown : s.vm.findClass RX3 = some m.cls := findClass_of_methodNamed B.named
  have hlocks := B.notSynchronized
  have hiX3 : ∀ w ∈ wsX30, w ∈ vs_X3_pass := fun _ h => List.mem_cons_of_mem _ (List.mem_append_right _ h)
  have hD := hD0.self (sz := s.heap.size)
  generalize hAe : va_A ([(py, .inr (3, [.int on0, .int si0, .int ti0, .ref tm, .ref bh])), (tm, .inl (kt, 3, .inl ft)), (bh, .inl (kb, 3, .inl fb))]) s.heap.size = A at hD ⊢
  have hA : ∀ q : Nat, s.heap.size ≤ q → A q := fun q h => by rw [← hAe]; exact Or.inr h
  have hS : va_S A s.heap s.heap [] := va_S.rf
  have hl := lv_entry ([.ref py, .int p0]) (n := 3) (Nat.le_of_ble_eq_true rfl)
  rw [lg_entry_eq]
  generalize (lg_sl ([.ref py, .int p0]) ++ List.replicate (3 - (lg_sl ([.ref py, .int p0])).length) Slot.unset).toArray = ls at hl ⊢
  have hl : lv_has ls 3 [(0, .ref py), (1, .int p0)] := hl
  refine lv_aload_n hx hb dX3_pass_0 rfl (lv_at hl 0 rfl) ?_
  refine lv_dup hx hb dX3_pass_1 rfl ?_
  refine va_get (D := (dC, dI)) (ci := 3) (v := .int ti0) (C := RX3) (T := TX3) (N := 5) hx hb hts hiX3 hown hK hP 0 rfl rfl 2 (by decide) v_1 (fun _ h9 => h9) rfl dX3_pass_2 ?_
  refine lv_iload_n hx hb dX3_pass_5 rfl (lv_at hl 1 rfl) ?_
  refine lv_iadd hx hb dX3_pass_6 ?_
  refine va_put (D := (dC, dI)) (ci := 3) (v := .int (ti0 + p0)) (ty := .int) (C := RX3) (T := TX3) (N := 5) hx hb hts hiX3 tyX3 tyX3_ok nmX3 hown hK hP hD hS 0 rfl rfl 2 (by decide) v_1 (fun _ h9 => h9) rfl (by decide +kernel) rfl rfl (Nat.le_of_ble_eq_true rfl) dX3_pass_7 (fun H locs hP hD hS => ?_)
  have hP : va_P (dC, dI) vwCl [(py, .inr (3, [.int on0, .int si0, .int (ti0 + p0), .ref tm, .ref bh])), (tm, .inl (kt, 3, .inl ft)), (bh, .inl (kb, 3, .inl fb))] H := hP
  have hD : va_D A [(py, .inr (3, [.int on0, .int si0, .int (ti0 + p0), .ref tm, .ref bh])), (tm, .inl (kt, 3, .inl ft)), (bh, .inl (kb, 3, .inl fb))] := hD
  refine lv_iconst (v := 0) hx hb dX3_pass_10 (by decide) ?_
  refine lv_istore_n (lv' := [(2, .int 0), (0, .ref py), (1, .int p0)]) hx hb dX3_pass_11 rfl hl (by decide) rfl (fun ls hl => ?_)
  refine pu_loop (3) (fun ii H locs ls => ∃ f0 : Nat → Int32, va_P (dC, dI) vwCl [(py, .inr (3, [.int on0, .int si0, .int (ti0 + p0), .ref tm, .ref bh])), (tm, .inl (kt, 3, .inl f0)), (bh, .inl (kb, 3, .inl fb))] H ∧ va_D A [(py, .inr (3, [.int on0, .int si0, .int (ti0 + p0), .ref tm, .ref bh])), (tm, .inl (kt, 3, .inl f0)), (bh, .inl (kb, 3, .inl fb))] ∧ va_S A s.heap H locs ∧ lv_has ls 3 [(0, .ref py), (1, .int p0), (2, .int (nI ii))]) (fun _ => 0) (fun _ => 0) 12 [] ?_ ?_ _ _ _ ⟨_, hP, hD, hS, lv_sub hl [1, 2, 0] rfl⟩
  · rintro H locs ls ⟨f_1, hP, hD, hS, hl⟩
    refine lv_iload_n hx hb dX3_pass_12 rfl (lv_at hl 2 rfl) ?_
    refine lv_iconst (v := 3) hx hb dX3_pass_13 (by decide) ?_
    refine lv_icmp_ge (tgt := 33) hx hb dX3_pass_14 (by decide) (fun _ => ?_) (fun z => absurd (nI_le (a := 3) (b := 3) (by omega) (by omega)) z)
    have hP9 := hP.sub (ws' := [(py, .inr (3, [.int on0, .int si0, .int (ti0 + p0), .ref tm, .ref bh])), (tm, .inl (kt, 3, .inl f_1)), (bh, .inl (kb, 3, .inl fb))]) [0, 1, 2] rfl
    have hD9 := hD.sub (ws' := [(py, .inr (3, [.int on0, .int si0, .int (ti0 + p0), .ref tm, .ref bh])), (tm, .inl (kt, 3, .inl f_1)), (bh, .inl (kb, 3, .inl fb))]) [0, 1, 2] (by decide) rfl
    have hK9 := hK.sub (tys' := [(kt, .int), (kb, .int)]) [0, 1] rfl
    exact W.vret hx hb hr (fun t ht hW => ⟨⟨(), rfl, trivial, ⟨(ti0 + p0), f_1, by rw [ht]; exact hP9, va_K.moved hW.alike hK9, hD9⟩⟩, hS.F ht⟩) hS.2.2 dX3_pass_33
  · rintro i_2 h_3 ih_4 H locs ls ⟨f_1, hP, hD, hS, hl⟩
    refine lv_iload_n hx hb dX3_pass_12 rfl (lv_at hl 2 rfl) ?_
    refine lv_iconst (v := 3) hx hb dX3_pass_13 (by decide) ?_
    refine lv_icmp_ge (tgt := 33) hx hb dX3_pass_14 (by decide) (fun z => absurd z (nI_ge (a := i_2) (b := 3) (by omega) (by omega))) (fun _ => ?_)
    refine lv_aload_n hx hb dX3_pass_17 rfl (lv_at hl 0 rfl) ?_
    refine va_get (D := (dC, dI)) (ci := 3) (v := .ref tm) (C := RX3) (T := TX3) (N := 5) hx hb hts hiX3 hown hK hP 0 rfl rfl 3 (by decide) v_2 (fun _ h9 => h9) rfl dX3_pass_18 ?_
    refine lv_iload_n hx hb dX3_pass_21 rfl (lv_at hl 2 rfl) ?_
    refine lv_dup2_11 hx hb dX3_pass_22 rfl rfl ?_
    refine va_iald hx hb hK hP 1 0 rfl rfl (vp_in_nI (n := i_2) (by first | omega | exact ix_lt (by omega) (by omega) hn | exact ix_lt0 (by omega) hn | exact ix_ltq (by omega) hn | exact ix_lt1 (by omega) hn) (by omega)) dX3_pass_23 ?_
    refine lv_iload_n hx hb dX3_pass_24 rfl (lv_at hl 1 rfl) ?_
    refine lv_iadd hx hb dX3_pass_25 ?_
    refine va_iast hx hb hK hP hD hS 1 0 rfl rfl (vp_in_nI (n := i_2) (by first | omega | exact ix_lt (by omega) (by omega) hn | exact ix_lt0 (by omega) hn | exact ix_ltq (by omega) hn | exact ix_lt1 (by omega) hn) (by omega)) dX3_pass_26 (fun H locs hP hD hS => ?_)
    have hP : va_P (dC, dI) vwCl [(py, .inr (3, [.int on0, .int si0, .int (ti0 + p0), .ref tm, .ref bh])), (tm, .inl (kt, 3, .inl (upd f_1 ((nI i_2) : Int32).toNatClampNeg ((f_1 ((nI i_2)).toNatClampNeg) + p0)))), (bh, .inl (kb, 3, .inl fb))] H := hP
    have hD : va_D A [(py, .inr (3, [.int on0, .int si0, .int (ti0 + p0), .ref tm, .ref bh])), (tm, .inl (kt, 3, .inl (upd f_1 ((nI i_2) : Int32).toNatClampNeg ((f_1 ((nI i_2)).toNatClampNeg) + p0)))), (bh, .inl (kb, 3, .inl fb))] := hD
    refine lv_iinc (v := (nI (i_2 + 1))) (lv' := [(2, .int (nI (i_2 + 1))), (0, .ref py), (1, .int p0)]) hx hb dX3_pass_27 hl (k := 2) rfl (nI_1 _) (by decide) rfl (fun ls hl => ?_)
    refine lv_goto (tgt := 12) hx hb dX3_pass_30 (by decide) ?_
    exact ih_4 _ _ _ ⟨_, hP, hD, hS, lv_sub hl [1, 2, 0] rfl⟩
theorem dX3_startsIn_0 : decode cX3_startsIn 0 = .ok (.aload_n 0, 1) := by decide +kernel
theorem dX3_startsIn_1 : decode cX3_startsIn 1 = .ok (.iconst 0, 1) := by decide +kernel
theorem dX3_startsIn_2 : decode cX3_startsIn 2 = .ok (.putfield 18, 3) := by decide +kernel
theorem dX3_startsIn_5 : decode cX3_startsIn 5 = .ok (.aload_n 1, 1) := by decide +kernel
theorem dX3_startsIn_6 : decode cX3_startsIn 6 = .ok (.getfield 22, 3) := by decide +kernel
theorem dX3_startsIn_9 : decode cX3_startsIn 9 = .ok (.ifCond .ne 5, 3) := by decide +kernel
theorem dX3_startsIn_12 : decode cX3_startsIn 12 = .ok (.iconst 0, 1) := by decide +kernel
theorem dX3_startsIn_13 : decode cX3_startsIn 13 = .ok (.ireturn, 1) := by decide +kernel
def vs_X3_startsIn_0 : List Cond := .code yX3_startsIn cX3_startsIn 3 (some .boolean) :: ([.fieldLink RX3 18 "ClockReach$Play" "on" "Z", .fieldLink RX3 22 "ClockReach$Automaton" "places" "I"] ++ wsX30 ++ wsX00)
set_option maxHeartbeats 4000000 in
set_option maxRecDepth 100000 in
theorem c_X3_startsIn_0 (l : Launch) (dC : Nat → ClassId) (dI : Nat → Nat → Nat) (sz : Nat) (au q4 q5 q6 q7 q8 q9 q10 q11 q12 q13 q14 q15 q16 : Nat) (nc ne : Nat) (st0 : Int32) (py tm bh : Nat) (kt kb : ClassId) (on0 si0 ti0 : Int32) (ft fb : Nat → Int32) : Met l yX3_startsIn vs_X3_startsIn_0 ({ frames := 0, cells := 0, slots := 0, locals := 0 }) (va_Pc [.ref py, .ref au] (pu_B (dC, dI) [(au, .inr (0, [.int (nI nc), .int 0, .int (nI ne), .int st0, .ref q4, .ref q5, .ref q6, .ref q7, .ref q8, .ref q9, .ref q10, .ref q11, .ref q12, .ref q13, .ref q14, .ref q15, .ref q16])), (py, .inr (3, [.int on0, .int si0, .int ti0, .ref tm, .ref bh])), (tm, .inl (kt, 3, .inl ft)), (bh, .inl (kb, 3, .inl fb))] [(kt, .int), (kb, .int)] sz)) (va_Qi (fun (r : Int32) (_ : Unit) => r = 0) (fun _ t => pu_E (dC, dI) [(au, .inr (0, [.int (nI nc), .int 0, .int (nI ne), .int st0, .ref q4, .ref q5, .ref q6, .ref q7, .ref q8, .ref q9, .ref q10, .ref q11, .ref q12, .ref q13, .ref q14, .ref q15, .ref q16])), (py, .inr (3, [.int 0, .int si0, .int ti0, .ref tm, .ref bh])), (tm, .inl (kt, 3, .inl ft)), (bh, .inl (kb, 3, .inl fb))] [(kt, .int), (kb, .int)] (va_A ([(au, .inr (0, [.int (nI nc), .int 0, .int (nI ne), .int st0, .ref q4, .ref q5, .ref q6, .ref q7, .ref q8, .ref q9, .ref q10, .ref q11, .ref q12, .ref q13, .ref q14, .ref q15, .ref q16])), (py, .inr (3, [.int on0, .int si0, .int ti0, .ref tm, .ref bh])), (tm, .inl (kt, 3, .inl ft)), (bh, .inl (kb, 3, .inl fb))]) sz) t) (va_A ([(au, .inr (0, [.int (nI nc), .int 0, .int (nI ne), .int st0, .ref q4, .ref q5, .ref q6, .ref q7, .ref q8, .ref q9, .ref q10, .ref q11, .ref q12, .ref q13, .ref q14, .ref q15, .ref q16])), (py, .inr (3, [.int on0, .int si0, .int ti0, .ref tm, .ref bh])), (tm, .inl (kt, 3, .inl ft)), (bh, .inl (kb, 3, .inl fb))]) sz)) 0 0 (va_A ([(au, .inr (0, [.int (nI nc), .int 0, .int (nI ne), .int st0, .ref q4, .ref q5, .ref q6, .ref q7, .ref q8, .ref q9, .ref q10, .ref q11, .ref q12, .ref q13, .ref q14, .ref q15, .ref q16])), (py, .inr (3, [.int on0, .int si0, .int ti0, .ref tm, .ref bh])), (tm, .inl (kt, 3, .inl ft)), (bh, .inl (kb, 3, .inl fb))]) sz) := by
  refine Met.ofW (cc := cX3_startsIn) (maxL := 3) (ret := (some .boolean)) (by decide) rfl ?_
  intro p e s m args below meth c s₁ B hml hv
  obtain ⟨rfl, rfl, hP, hK, hD0⟩ := hv
  have hx := B.exec
  have hb := B.bytes
  have hr := B.returns
  have hts := atoms_spec (ws := vs_X3_startsIn_0) B.pre
  have v_1 := hts (.fieldLink RX3 18 "ClockReach$Play" "on" "Z") (List.mem_of_getElem? (i := 1) rfl)
  have v_2 := hts (.fieldLink RX3 22 "ClockReach$Automaton" "places" "I") (List.mem_of_getElem? (i := 2) rfl)
  have hown : s.vm.findClass RX3 = some m.cls := findClass_of_methodNamed B.named
  have hlocks := B.notSynchronized
  have hiX0 : ∀ w ∈ wsX00, w ∈ vs_X3_startsIn_0 := fun _ h => List.mem_cons_of_mem _ (List.mem_append_right _ h)
  have hiX3 : ∀ w ∈ wsX30, w ∈ vs_X3_startsIn_0 := fun _ h => List.mem_cons_of_mem _ (List.mem_append_left _ (List.mem_append_right _ h))
  have hD := hD0.self (sz := s.heap.size)
  generalize hAe : va_A ([(au, .inr (0, [.int (nI nc), .int 0, .int (nI ne), .int st0, .ref q4, .ref q5, .ref q6, .ref q7, .ref q8, .ref q9, .ref q10, .ref q11, .ref q12, .ref q13, .ref q14, .ref q15, .ref q16])), (py, .inr (3, [.int on0, .int si0, .int ti0, .ref tm, .ref bh])), (tm, .inl (kt, 3, .inl ft)), (bh, .inl (kb, 3, .inl fb))]) s.heap.size = A at hD ⊢
  have hA : ∀ q : Nat, s.heap.size ≤ q → A q := fun q h => by rw [← hAe]; exact Or.inr h
  have hS : va_S A s.heap s.heap [] := va_S.rf
  have hl := lv_entry ([.ref py, .ref au]) (n := 3) (Nat.le_of_ble_eq_true rfl)
  rw [lg_entry_eq]
  generalize (lg_sl ([.ref py, .ref au]) ++ List.replicate (3 - (lg_sl ([.ref py, .ref au])).length) Slot.unset).toArray = ls at hl ⊢
  have hl : lv_has ls 3 [(0, .ref py), (1, .ref au)] := hl
  refine lv_aload_n hx hb dX3_startsIn_0 rfl (lv_at hl 0 rfl) ?_
  refine lv_iconst (v := 0) hx hb dX3_startsIn_1 (by decide) ?_
  refine va_put (D := (dC, dI)) (ci := 3) (v := .int 0) (ty := .boolean) (C := RX3) (T := TX3) (N := 5) hx hb hts hiX3 tyX3 tyX3_ok nmX3 hown hK hP hD hS 1 rfl rfl 0 (by decide) v_1 (fun _ h9 => h9) rfl (by decide +kernel) rfl rfl (Nat.le_of_ble_eq_true rfl) dX3_startsIn_2 (fun H locs hP hD hS => ?_)
  have hP : va_P (dC, dI) vwCl [(au, .inr (0, [.int (nI nc), .int 0, .int (nI ne), .int st0, .ref q4, .ref q5, .ref q6, .ref q7, .ref q8, .ref q9, .ref q10, .ref q11, .ref q12, .ref q13, .ref q14, .ref q15, .ref q16])), (py, .inr (3, [.int 0, .int si0, .int ti0, .ref tm, .ref bh])), (tm, .inl (kt, 3, .inl ft)), (bh, .inl (kb, 3, .inl fb))] H := hP
  have hD : va_D A [(au, .inr (0, [.int (nI nc), .int 0, .int (nI ne), .int st0, .ref q4, .ref q5, .ref q6, .ref q7, .ref q8, .ref q9, .ref q10, .ref q11, .ref q12, .ref q13, .ref q14, .ref q15, .ref q16])), (py, .inr (3, [.int 0, .int si0, .int ti0, .ref tm, .ref bh])), (tm, .inl (kt, 3, .inl ft)), (bh, .inl (kb, 3, .inl fb))] := hD
  refine lv_aload_n hx hb dX3_startsIn_5 rfl (lv_at hl 1 rfl) ?_
  refine va_get (D := (dC, dI)) (ci := 0) (v := .int 0) (C := RX0) (T := TX0) (N := 17) hx hb hts hiX0 hown hK hP 0 rfl rfl 1 (by decide) v_2 (fun _ h9 => h9) rfl dX3_startsIn_6 ?_
  refine lv_if_ne (tgt := 14) hx hb dX3_startsIn_9 (by decide) (fun z => absurd z (by decide)) (fun _ => ?_)
  refine lv_iconst (v := 0) hx hb dX3_startsIn_12 (by decide) ?_
  have hP9 := hP.sub (ws' := [(au, .inr (0, [.int (nI nc), .int 0, .int (nI ne), .int st0, .ref q4, .ref q5, .ref q6, .ref q7, .ref q8, .ref q9, .ref q10, .ref q11, .ref q12, .ref q13, .ref q14, .ref q15, .ref q16])), (py, .inr (3, [.int 0, .int si0, .int ti0, .ref tm, .ref bh])), (tm, .inl (kt, 3, .inl ft)), (bh, .inl (kb, 3, .inl fb))]) [0, 1, 2, 3] rfl
  have hD9 := hD.sub (ws' := [(au, .inr (0, [.int (nI nc), .int 0, .int (nI ne), .int st0, .ref q4, .ref q5, .ref q6, .ref q7, .ref q8, .ref q9, .ref q10, .ref q11, .ref q12, .ref q13, .ref q14, .ref q15, .ref q16])), (py, .inr (3, [.int 0, .int si0, .int ti0, .ref tm, .ref bh])), (tm, .inl (kt, 3, .inl ft)), (bh, .inl (kb, 3, .inl fb))]) [0, 1, 2, 3] (by decide) rfl
  have hK9 := hK.sub (tys' := [(kt, .int), (kb, .int)]) [0, 1] rfl
  exact W.zret (v := 0) (ty := .boolean) hx hb hr rfl (fun t ht hW => ⟨⟨0, (), rfl, by first | rfl | decide | simp_all, ⟨by rw [ht]; exact hP9, va_K.moved hW.alike hK9, hD9⟩⟩, hS.F ht⟩) hS.2.2 dX3_startsIn_13
theorem dX3_startsIn_14 : decode cX3_startsIn 14 = .ok (.aload_n 0, 1) := by decide +kernel
theorem dX3_startsIn_15 : decode cX3_startsIn 15 = .ok (.aload_n 1, 1) := by decide +kernel
theorem dX3_startsIn_16 : decode cX3_startsIn 16 = .ok (.getfield 28, 3) := by decide +kernel
theorem dX3_startsIn_19 : decode cX3_startsIn 19 = .ok (.putfield 31, 3) := by decide +kernel
theorem dX3_startsIn_22 : decode cX3_startsIn 22 = .ok (.aload_n 0, 1) := by decide +kernel
theorem dX3_startsIn_23 : decode cX3_startsIn 23 = .ok (.iconst 0, 1) := by decide +kernel
theorem dX3_startsIn_24 : decode cX3_startsIn 24 = .ok (.putfield 34, 3) := by decide +kernel
theorem dX3_startsIn_27 : decode cX3_startsIn 27 = .ok (.iconst 0, 1) := by decide +kernel
theorem dX3_startsIn_28 : decode cX3_startsIn 28 = .ok (.istore_n 2, 1) := by decide +kernel
theorem dX3_startsIn_29 : decode cX3_startsIn 29 = .ok (.iload_n 2, 1) := by decide +kernel
theorem dX3_startsIn_30 : decode cX3_startsIn 30 = .ok (.iconst 3, 1) := by decide +kernel
theorem dX3_startsIn_31 : decode cX3_startsIn 31 = .ok (.if_icmp .ge 16, 3) := by decide +kernel
theorem dX3_startsIn_34 : decode cX3_startsIn 34 = .ok (.aload_n 0, 1) := by decide +kernel
theorem dX3_startsIn_35 : decode cX3_startsIn 35 = .ok (.getfield 9, 3) := by decide +kernel
theorem dX3_startsIn_38 : decode cX3_startsIn 38 = .ok (.iload_n 2, 1) := by decide +kernel
theorem dX3_startsIn_39 : decode cX3_startsIn 39 = .ok (.iconst 0, 1) := by decide +kernel
theorem dX3_startsIn_40 : decode cX3_startsIn 40 = .ok (.iastore, 1) := by decide +kernel
theorem dX3_startsIn_41 : decode cX3_startsIn 41 = .ok (.iinc 2 1, 3) := by decide +kernel
theorem dX3_startsIn_44 : decode cX3_startsIn 44 = .ok (.goto (-15), 3) := by decide +kernel
theorem dX3_startsIn_47 : decode cX3_startsIn 47 = .ok (.aload_n 0, 1) := by decide +kernel
theorem dX3_startsIn_48 : decode cX3_startsIn 48 = .ok (.aload_n 1, 1) := by decide +kernel
theorem dX3_startsIn_49 : decode cX3_startsIn 49 = .ok (.aload_n 0, 1) := by decide +kernel
theorem dX3_startsIn_50 : decode cX3_startsIn 50 = .ok (.getfield 31, 3) := by decide +kernel
theorem dX3_startsIn_53 : decode cX3_startsIn 53 = .ok (.invokestatic 37, 3) := by decide +kernel
theorem dX3_startsIn_56 : decode cX3_startsIn 56 = .ok (.aload_n 0, 1) := by decide +kernel
theorem dX3_startsIn_57 : decode cX3_startsIn 57 = .ok (.getfield 9, 3) := by decide +kernel
theorem dX3_startsIn_60 : decode cX3_startsIn 60 = .ok (.invokevirtual 41, 3) := by decide +kernel
theorem dX3_startsIn_63 : decode cX3_startsIn 63 = .ok (.putfield 18, 3) := by decide +kernel
theorem dX3_startsIn_66 : decode cX3_startsIn 66 = .ok (.aload_n 0, 1) := by decide +kernel
theorem dX3_startsIn_67 : decode cX3_startsIn 67 = .ok (.getfield 18, 3) := by decide +kernel
theorem dX3_startsIn_70 : decode cX3_startsIn 70 = .ok (.ireturn, 1) := by decide +kernel
def vs_X3_startsIn_1 : List Cond := .code yX3_startsIn cX3_startsIn 3 (some .boolean) :: ([.fieldLink RX3 18 "ClockReach$Play" "on" "Z", .fieldLink RX3 22 "ClockReach$Automaton" "places" "I", .fieldLink RX3 28 "ClockReach$Automaton" "start" "I", .fieldLink RX3 31 "ClockReach$Play" "site" "I", .fieldLink RX3 34 "ClockReach$Play" "time" "I", .methodLink RX3 37 yX0_hostOfPlace, .static yX0_hostOfPlace, .initialized RX0, .code yX0_hostOfPlace cX0_hostOfPlace 1 (some .int), .fieldLink RX3 9 "ClockReach$Play" "times" "[I", .methodLink RX3 41 yX0_holdsAt, .instanceMethod yX0_holdsAt, .selects RX0 yX0_holdsAt yX0_holdsAt, .code yX0_holdsAt cX0_holdsAt 6 (some .boolean), .fieldLink RX0 29 "ClockReach$Automaton" "counts" "[I", .methodLink RX0 65 yX0_slot, .static yX0_slot, .code yX0_slot cX0_slot 2 (some .int), .fieldLink RX0 32 "ClockReach$Automaton" "conditionClocks" "[I", .fieldLink RX0 41 "ClockReach$Automaton" "ceilings" "[I", .methodLink RX0 102 yX7_ticks, .static yX7_ticks, .initialized RX7, .code yX7_ticks cX7_ticks 1 (some .int), .constant RX7 17 (2147483647), .fieldLink RX0 44 "ClockReach$Automaton" "floors" "[I"] ++ wsX30 ++ wsX00)
theorem g_X3_startsIn_1_X0_hostOfPlace : GoodIn vs_X3_startsIn_1 (va_wsS RX3 37 yX0_hostOfPlace vs_X0_hostOfPlace) := goodIn_r _ [6, 7, 8, 9] (by decide +kernel) (by decide +kernel)
theorem g_X3_startsIn_1_X0_holdsAt : GoodIn vs_X3_startsIn_1 (wsV RX3 41 RX0 yX0_holdsAt vs_X0_holdsAt) := goodIn_r _ [11, 12, 13, 8, 14, 15, 16, 17, 8, 18, 19, 20, 21, 22, 23, 24, 25, 26, 32, 33, 34, 35, 36, 37, 38, 39, 40, 41, 42, 43, 44, 45, 46, 47, 48] (by decide +kernel) (by decide +kernel)
set_option maxHeartbeats 4000000 in
set_option maxRecDepth 100000 in
theorem c_X3_startsIn_1 (l : Launch) (dC : Nat → ClassId) (dI : Nat → Nat → Nat) (sz : Nat) (au q4 q5 q6 q7 q8 q9 q10 q11 q12 q13 q14 q15 q16 : Nat) (nc np ne : Nat) (sn : Nat) (k8 k9 k12 k13 : ClassId) (f8 f9 f12 f13 : Nat → Int32) (py tm bh : Nat) (kt kb : ClassId) (on0 si0 ti0 : Int32) (ft fb : Nat → Int32) (hc : ao_c nc f8 f9) (hnc : nc ≤ 3) (hp : np ≤ 8) (hsn : sn < np) : Met l yX3_startsIn vs_X3_startsIn_1 ({ frames := 2, cells := 0, slots := 0, locals := 46 }) (va_Pc [.ref py, .ref au] (pu_B (dC, dI) [(au, .inr (0, [.int (nI nc), .int (nI np), .int (nI ne), .int (nI sn), .ref q4, .ref q5, .ref q6, .ref q7, .ref q8, .ref q9, .ref q10, .ref q11, .ref q12, .ref q13, .ref q14, .ref q15, .ref q16])), (q8, .inl (k8, 22, .inl f8)), (q9, .inl (k9, 88, .inl f9)), (q12, .inl (k12, 88, .inl f12)), (q13, .inl (k13, 88, .inl f13)), (py, .inr (3, [.int on0, .int si0, .int ti0, .ref tm, .ref bh])), (tm, .inl (kt, 3, .inl ft)), (bh, .inl (kb, 3, .inl fb))] [(k8, .int), (k9, .int), (k12, .int), (k13, .int), (kt, .int), (kb, .int)] sz)) (va_Qi (fun (r : Int32) (_ : Unit) => r = 0 ∨ r = 1) (fun _ t => ∃ (o1 : Int32) (g : Nat → Int32), pu_E (dC, dI) [(au, .inr (0, [.int (nI nc), .int (nI np), .int (nI ne), .int (nI sn), .ref q4, .ref q5, .ref q6, .ref q7, .ref q8, .ref q9, .ref q10, .ref q11, .ref q12, .ref q13, .ref q14, .ref q15, .ref q16])), (q8, .inl (k8, 22, .inl f8)), (q9, .inl (k9, 88, .inl f9)), (q12, .inl (k12, 88, .inl f12)), (q13, .inl (k13, 88, .inl f13)), (py, .inr (3, [.int o1, .int (nI sn), .int 0, .ref tm, .ref bh])), (tm, .inl (kt, 3, .inl g)), (bh, .inl (kb, 3, .inl fb))] [(k8, .int), (k9, .int), (k12, .int), (k13, .int), (kt, .int), (kb, .int)] (va_A ([(au, .inr (0, [.int (nI nc), .int (nI np), .int (nI ne), .int (nI sn), .ref q4, .ref q5, .ref q6, .ref q7, .ref q8, .ref q9, .ref q10, .ref q11, .ref q12, .ref q13, .ref q14, .ref q15, .ref q16])), (q8, .inl (k8, 22, .inl f8)), (q9, .inl (k9, 88, .inl f9)), (q12, .inl (k12, 88, .inl f12)), (q13, .inl (k13, 88, .inl f13)), (py, .inr (3, [.int on0, .int si0, .int ti0, .ref tm, .ref bh])), (tm, .inl (kt, 3, .inl ft)), (bh, .inl (kb, 3, .inl fb))]) sz) t) (va_A ([(au, .inr (0, [.int (nI nc), .int (nI np), .int (nI ne), .int (nI sn), .ref q4, .ref q5, .ref q6, .ref q7, .ref q8, .ref q9, .ref q10, .ref q11, .ref q12, .ref q13, .ref q14, .ref q15, .ref q16])), (q8, .inl (k8, 22, .inl f8)), (q9, .inl (k9, 88, .inl f9)), (q12, .inl (k12, 88, .inl f12)), (q13, .inl (k13, 88, .inl f13)), (py, .inr (3, [.int on0, .int si0, .int ti0, .ref tm, .ref bh])), (tm, .inl (kt, 3, .inl ft)), (bh, .inl (kb, 3, .inl fb))]) sz)) 0 0 (va_A ([(au, .inr (0, [.int (nI nc), .int (nI np), .int (nI ne), .int (nI sn), .ref q4, .ref q5, .ref q6, .ref q7, .ref q8, .ref q9, .ref q10, .ref q11, .ref q12, .ref q13, .ref q14, .ref q15, .ref q16])), (q8, .inl (k8, 22, .inl f8)), (q9, .inl (k9, 88, .inl f9)), (q12, .inl (k12, 88, .inl f12)), (q13, .inl (k13, 88, .inl f13)), (py, .inr (3, [.int on0, .int si0, .int ti0, .ref tm, .ref bh])), (tm, .inl (kt, 3, .inl ft)), (bh, .inl (kb, 3, .inl fb))]) sz) := by
  refine Met.ofW (cc := cX3_startsIn) (maxL := 3) (ret := (some .boolean)) (by decide) rfl ?_
  intro p e s m args below meth c s₁ B hml hv
  obtain ⟨rfl, rfl, hP, hK, hD0⟩ := hv
  have hx := B.exec
  have hb := B.bytes
  have hr := B.returns
  have hts := atoms_spec (ws := vs_X3_startsIn_1) B.pre
  have v_1 := hts (.fieldLink RX3 18 "ClockReach$Play" "on" "Z") (List.mem_of_getElem? (i := 1) rfl)
  have v_2 := hts (.fieldLink RX3 22 "ClockReach$Automaton" "places" "I") (List.mem_of_getElem? (i := 2) rfl)
  have v_3 := hts (.fieldLink RX3 28 "ClockReach$Automaton" "start" "I") (List.mem_of_getElem? (i := 3) rfl)
  have v_4 := hts (.fieldLink RX3 31 "ClockReach$Play" "site" "I") (List.mem_of_getElem? (i := 4) rfl)
  have v_5 := hts (.fieldLink RX3 34 "ClockReach$Play" "time" "I") (List.mem_of_getElem? (i := 5) rfl)
  have v_10 := hts (.fieldLink RX3 9 "ClockReach$Play" "times" "[I") (List.mem_of_getElem? (i := 10) rfl)
  have hown : s.vm.findClass RX3 = some m.cls := findClass_of_methodNamed B.named
  have hlocks := B.notSynchronized
  have hiX0 : ∀ w ∈ wsX00, w ∈ vs_X3_startsIn_1 := fun _ h => List.mem_cons_of_mem _ (List.mem_append_right _ h)
  have hiX3 : ∀ w ∈ wsX30, w ∈ vs_X3_startsIn_1 := fun _ h => List.mem_cons_of_mem _ (List.mem_append_left _ (List.mem_append_right _ h))
  have hD := hD0.self (sz := s.heap.size)
  generalize hAe : va_A ([(au, .inr (0, [.int (nI nc), .int (nI np), .int (nI ne), .int (nI sn), .ref q4, .ref q5, .ref q6, .ref q7, .ref q8, .ref q9, .ref q10, .ref q11, .ref q12, .ref q13, .ref q14, .ref q15, .ref q16])), (q8, .inl (k8, 22, .inl f8)), (q9, .inl (k9, 88, .inl f9)), (q12, .inl (k12, 88, .inl f12)), (q13, .inl (k13, 88, .inl f13)), (py, .inr (3, [.int on0, .int si0, .int ti0, .ref tm, .ref bh])), (tm, .inl (kt, 3, .inl ft)), (bh, .inl (kb, 3, .inl fb))]) s.heap.size = A at hD ⊢
  have hA : ∀ q : Nat, s.heap.size ≤ q → A q := fun q h => by rw [← hAe]; exact Or.inr h
  have hS : va_S A s.heap s.heap [] := va_S.rf
  have hl := lv_entry ([.ref py, .ref au]) (n := 3) (Nat.le_of_ble_eq_true rfl)
  rw [lg_entry_eq]
  generalize (lg_sl ([.ref py, .ref au]) ++ List.replicate (3 - (lg_sl ([.ref py, .ref au])).length) Slot.unset).toArray = ls at hl ⊢
  have hl : lv_has ls 3 [(0, .ref py), (1, .ref au)] := hl
  refine lv_aload_n hx hb dX3_startsIn_0 rfl (lv_at hl 0 rfl) ?_
  refine lv_iconst (v := 0) hx hb dX3_startsIn_1 (by decide) ?_
  refine va_put (D := (dC, dI)) (ci := 3) (v := .int 0) (ty := .boolean) (C := RX3) (T := TX3) (N := 5) hx hb hts hiX3 tyX3 tyX3_ok nmX3 hown hK hP hD hS 5 rfl rfl 0 (by decide) v_1 (fun _ h9 => h9) rfl (by decide +kernel) rfl rfl (Nat.le_of_ble_eq_true rfl) dX3_startsIn_2 (fun H locs hP hD hS => ?_)
  have hP : va_P (dC, dI) vwCl [(au, .inr (0, [.int (nI nc), .int (nI np), .int (nI ne), .int (nI sn), .ref q4, .ref q5, .ref q6, .ref q7, .ref q8, .ref q9, .ref q10, .ref q11, .ref q12, .ref q13, .ref q14, .ref q15, .ref q16])), (q8, .inl (k8, 22, .inl f8)), (q9, .inl (k9, 88, .inl f9)), (q12, .inl (k12, 88, .inl f12)), (q13, .inl (k13, 88, .inl f13)), (py, .inr (3, [.int 0, .int si0, .int ti0, .ref tm, .ref bh])), (tm, .inl (kt, 3, .inl ft)), (bh, .inl (kb, 3, .inl fb))] H := hP
  have hD : va_D A [(au, .inr (0, [.int (nI nc), .int (nI np), .int (nI ne), .int (nI sn), .ref q4, .ref q5, .ref q6, .ref q7, .ref q8, .ref q9, .ref q10, .ref q11, .ref q12, .ref q13, .ref q14, .ref q15, .ref q16])), (q8, .inl (k8, 22, .inl f8)), (q9, .inl (k9, 88, .inl f9)), (q12, .inl (k12, 88, .inl f12)), (q13, .inl (k13, 88, .inl f13)), (py, .inr (3, [.int 0, .int si0, .int ti0, .ref tm, .ref bh])), (tm, .inl (kt, 3, .inl ft)), (bh, .inl (kb, 3, .inl fb))] := hD
  refine lv_aload_n hx hb dX3_startsIn_5 rfl (lv_at hl 1 rfl) ?_
  refine va_get (D := (dC, dI)) (ci := 0) (v := .int (nI np)) (C := RX0) (T := TX0) (N := 17) hx hb hts hiX0 hown hK hP 0 rfl rfl 1 (by decide) v_2 (fun _ h9 => h9) rfl dX3_startsIn_6 ?_
  refine lv_if_ne (tgt := 14) hx hb dX3_startsIn_9 (by decide) (fun c_1 => ?_) (fun c_1 => ?_)
  · have c_1 : ¬ np = 0 := fun z => c_1 ((nI_eq (a := np) (b := 0) (by omega) (by omega)).mpr z)
    refine lv_aload_n hx hb dX3_startsIn_14 rfl (lv_at hl 0 rfl) ?_
    refine lv_aload_n hx hb dX3_startsIn_15 rfl (lv_at hl 1 rfl) ?_
    refine va_get (D := (dC, dI)) (ci := 0) (v := .int (nI sn)) (C := RX0) (T := TX0) (N := 17) hx hb hts hiX0 hown hK hP 0 rfl rfl 3 (by decide) v_3 (fun _ h9 => h9) rfl dX3_startsIn_16 ?_
    refine va_put (D := (dC, dI)) (ci := 3) (v := .int (nI sn)) (ty := .int) (C := RX3) (T := TX3) (N := 5) hx hb hts hiX3 tyX3 tyX3_ok nmX3 hown hK hP hD hS 5 rfl rfl 1 (by decide) v_4 (fun _ h9 => h9) rfl (by decide +kernel) rfl rfl (Nat.le_of_ble_eq_true rfl) dX3_startsIn_19 (fun H locs hP hD hS => ?_)
    have hP : va_P (dC, dI) vwCl [(au, .inr (0, [.int (nI nc), .int (nI np), .int (nI ne), .int (nI sn), .ref q4, .ref q5, .ref q6, .ref q7, .ref q8, .ref q9, .ref q10, .ref q11, .ref q12, .ref q13, .ref q14, .ref q15, .ref q16])), (q8, .inl (k8, 22, .inl f8)), (q9, .inl (k9, 88, .inl f9)), (q12, .inl (k12, 88, .inl f12)), (q13, .inl (k13, 88, .inl f13)), (py, .inr (3, [.int 0, .int (nI sn), .int ti0, .ref tm, .ref bh])), (tm, .inl (kt, 3, .inl ft)), (bh, .inl (kb, 3, .inl fb))] H := hP
    have hD : va_D A [(au, .inr (0, [.int (nI nc), .int (nI np), .int (nI ne), .int (nI sn), .ref q4, .ref q5, .ref q6, .ref q7, .ref q8, .ref q9, .ref q10, .ref q11, .ref q12, .ref q13, .ref q14, .ref q15, .ref q16])), (q8, .inl (k8, 22, .inl f8)), (q9, .inl (k9, 88, .inl f9)), (q12, .inl (k12, 88, .inl f12)), (q13, .inl (k13, 88, .inl f13)), (py, .inr (3, [.int 0, .int (nI sn), .int ti0, .ref tm, .ref bh])), (tm, .inl (kt, 3, .inl ft)), (bh, .inl (kb, 3, .inl fb))] := hD
    refine lv_aload_n hx hb dX3_startsIn_22 rfl (lv_at hl 0 rfl) ?_
    refine lv_iconst (v := 0) hx hb dX3_startsIn_23 (by decide) ?_
    refine va_put (D := (dC, dI)) (ci := 3) (v := .int 0) (ty := .int) (C := RX3) (T := TX3) (N := 5) hx hb hts hiX3 tyX3 tyX3_ok nmX3 hown hK hP hD hS 5 rfl rfl 2 (by decide) v_5 (fun _ h9 => h9) rfl (by decide +kernel) rfl rfl (Nat.le_of_ble_eq_true rfl) dX3_startsIn_24 (fun H locs hP hD hS => ?_)
    have hP : va_P (dC, dI) vwCl [(au, .inr (0, [.int (nI nc), .int (nI np), .int (nI ne), .int (nI sn), .ref q4, .ref q5, .ref q6, .ref q7, .ref q8, .ref q9, .ref q10, .ref q11, .ref q12, .ref q13, .ref q14, .ref q15, .ref q16])), (q8, .inl (k8, 22, .inl f8)), (q9, .inl (k9, 88, .inl f9)), (q12, .inl (k12, 88, .inl f12)), (q13, .inl (k13, 88, .inl f13)), (py, .inr (3, [.int 0, .int (nI sn), .int 0, .ref tm, .ref bh])), (tm, .inl (kt, 3, .inl ft)), (bh, .inl (kb, 3, .inl fb))] H := hP
    have hD : va_D A [(au, .inr (0, [.int (nI nc), .int (nI np), .int (nI ne), .int (nI sn), .ref q4, .ref q5, .ref q6, .ref q7, .ref q8, .ref q9, .ref q10, .ref q11, .ref q12, .ref q13, .ref q14, .ref q15, .ref q16])), (q8, .inl (k8, 22, .inl f8)), (q9, .inl (k9, 88, .inl f9)), (q12, .inl (k12, 88, .inl f12)), (q13, .inl (k13, 88, .inl f13)), (py, .inr (3, [.int 0, .int (nI sn), .int 0, .ref tm, .ref bh])), (tm, .inl (kt, 3, .inl ft)), (bh, .inl (kb, 3, .inl fb))] := hD
    refine lv_iconst (v := 0) hx hb dX3_startsIn_27 (by decide) ?_
    refine lv_istore_n (lv' := [(2, .int 0), (0, .ref py), (1, .ref au)]) hx hb dX3_startsIn_28 rfl hl (by decide) rfl (fun ls hl => ?_)
    refine pu_loop (3) (fun ii H locs ls => ∃ f0 : Nat → Int32, va_P (dC, dI) vwCl [(au, .inr (0, [.int (nI nc), .int (nI np), .int (nI ne), .int (nI sn), .ref q4, .ref q5, .ref q6, .ref q7, .ref q8, .ref q9, .ref q10, .ref q11, .ref q12, .ref q13, .ref q14, .ref q15, .ref q16])), (q8, .inl (k8, 22, .inl f8)), (q9, .inl (k9, 88, .inl f9)), (q12, .inl (k12, 88, .inl f12)), (q13, .inl (k13, 88, .inl f13)), (py, .inr (3, [.int 0, .int (nI sn), .int 0, .ref tm, .ref bh])), (tm, .inl (kt, 3, .inl f0)), (bh, .inl (kb, 3, .inl fb))] H ∧ va_D A [(au, .inr (0, [.int (nI nc), .int (nI np), .int (nI ne), .int (nI sn), .ref q4, .ref q5, .ref q6, .ref q7, .ref q8, .ref q9, .ref q10, .ref q11, .ref q12, .ref q13, .ref q14, .ref q15, .ref q16])), (q8, .inl (k8, 22, .inl f8)), (q9, .inl (k9, 88, .inl f9)), (q12, .inl (k12, 88, .inl f12)), (q13, .inl (k13, 88, .inl f13)), (py, .inr (3, [.int 0, .int (nI sn), .int 0, .ref tm, .ref bh])), (tm, .inl (kt, 3, .inl f0)), (bh, .inl (kb, 3, .inl fb))] ∧ va_S A s.heap H locs ∧ lv_has ls 3 [(0, .ref py), (1, .ref au), (2, .int (nI ii))]) (fun _ => 0) (fun _ => 0) 29 [] ?_ ?_ _ _ _ ⟨_, hP, hD, hS, lv_sub hl [1, 2, 0] rfl⟩
    · rintro H locs ls ⟨f_2, hP, hD, hS, hl⟩
      refine lv_iload_n hx hb dX3_startsIn_29 rfl (lv_at hl 2 rfl) ?_
      refine lv_iconst (v := 3) hx hb dX3_startsIn_30 (by decide) ?_
      refine lv_icmp_ge (tgt := 47) hx hb dX3_startsIn_31 (by decide) (fun _ => ?_) (fun z => absurd (nI_le (a := 3) (b := 3) (by omega) (by omega)) z)
      refine lv_aload_n hx hb dX3_startsIn_47 rfl (lv_at hl 0 rfl) ?_
      refine lv_aload_n hx hb dX3_startsIn_48 rfl (lv_at hl 1 rfl) ?_
      refine lv_aload_n hx hb dX3_startsIn_49 rfl (lv_at hl 0 rfl) ?_
      refine va_get (D := (dC, dI)) (ci := 3) (v := .int (nI sn)) (C := RX3) (T := TX3) (N := 5) hx hb hts hiX3 hown hK hP 5 rfl rfl 1 (by decide) v_4 (fun _ h9 => h9) rfl dX3_startsIn_50 ?_
      refine va_calli (va_runS (As := [.int (nI sn)]) (rest := [.ref au, .ref py]) ⟨hx, hb, hml, hown, hts⟩ (c_X0_hostOfPlace l dC dI _ sn) (va_cwS 1 hts g_X3_startsIn_1_X0_hostOfPlace rfl rfl rfl (by decide +kernel) ⟨Nat.le_of_ble_eq_true rfl, Nat.le_of_ble_eq_true rfl⟩) ⟨pu_bl, pu_in (hP.sub [] rfl) (hK.sub [] rfl) (hD.sub [] (by decide) rfl)⟩ rfl rfl hl.1 rfl (lv_room (Nat.le_of_ble_eq_true rfl)) dX3_startsIn_53 ⟨Nat.le_of_ble_eq_true rfl, Nat.le_of_ble_eq_true rfl⟩) hS (fun q _ h => pu_fr hS hA q h) (pu_fr hS hA) (fun r_6 u t H1 locs ht hvm hw hB hz1 hk1 hS => ?_)
      have hP := pu_keep hP hk1
      clear hk1 hz1 ht hvm
      generalize H1 = H at hP hS ⊢
      obtain rfl : r_6 = (nI (14 + sn)) := hw
      refine lv_aload_n hx hb dX3_startsIn_56 rfl (lv_at hl 0 rfl) ?_
      refine va_get (D := (dC, dI)) (ci := 3) (v := .ref tm) (C := RX3) (T := TX3) (N := 5) hx hb hts hiX3 hown hK hP 5 rfl rfl 3 (by decide) v_10 (fun _ h9 => h9) rfl dX3_startsIn_57 ?_
      refine va_calli (va_runV (As := [.int (nI (14 + sn)), .ref tm]) (rest := [.ref py]) ⟨hx, hb, hml, hown, hts⟩ (c_X0_holdsAt l dC dI _ au q4 q5 q6 q7 q8 q9 q10 q11 q12 q13 q14 q15 q16 nc np ne (nI sn) k8 k9 k12 k13 f8 f9 f12 f13 hc hnc tm kt f_2 (14 + sn) (by omega)) (cwV 2 hts g_X3_startsIn_1_X0_holdsAt rfl rfl rfl (by decide +kernel) ⟨Nat.le_of_ble_eq_true rfl, Nat.le_of_ble_eq_true rfl⟩) ⟨pu_bl, va_recv hK hP (ci := 0) (q0 := 0) rfl rfl, pu_in (hP.sub [0, 1, 2, 3, 4, 6] rfl) (hK.sub [0, 1, 2, 3, 4] rfl) (hD.sub [0, 1, 2, 3, 4, 6] (by decide) rfl)⟩ rfl rfl hl.1 rfl (lv_room (Nat.le_of_ble_eq_true rfl)) dX3_startsIn_60 ⟨Nat.le_of_ble_eq_true rfl, Nat.le_of_ble_eq_true rfl⟩) hS (fun q _ h => pu_fr hS hA q h) (pu_fr hS hA) (fun r_7 u t H1 locs ht hvm hw hB hz1 hk1 hS => ?_)
      have hP := pu_keep hP hk1
      clear hk1 hz1 ht hvm
      generalize H1 = H at hP hS ⊢
      rcases hw with rfl | rfl
      · refine va_put (D := (dC, dI)) (ci := 3) (v := .int 0) (ty := .boolean) (C := RX3) (T := TX3) (N := 5) hx hb hts hiX3 tyX3 tyX3_ok nmX3 hown hK hP hD hS 5 rfl rfl 0 (by decide) v_1 (fun _ h9 => h9) rfl (by decide +kernel) rfl rfl (Nat.le_of_ble_eq_true rfl) dX3_startsIn_63 (fun H locs hP hD hS => ?_)
        have hP : va_P (dC, dI) vwCl [(au, .inr (0, [.int (nI nc), .int (nI np), .int (nI ne), .int (nI sn), .ref q4, .ref q5, .ref q6, .ref q7, .ref q8, .ref q9, .ref q10, .ref q11, .ref q12, .ref q13, .ref q14, .ref q15, .ref q16])), (q8, .inl (k8, 22, .inl f8)), (q9, .inl (k9, 88, .inl f9)), (q12, .inl (k12, 88, .inl f12)), (q13, .inl (k13, 88, .inl f13)), (py, .inr (3, [.int 0, .int (nI sn), .int 0, .ref tm, .ref bh])), (tm, .inl (kt, 3, .inl f_2)), (bh, .inl (kb, 3, .inl fb))] H := hP
        have hD : va_D A [(au, .inr (0, [.int (nI nc), .int (nI np), .int (nI ne), .int (nI sn), .ref q4, .ref q5, .ref q6, .ref q7, .ref q8, .ref q9, .ref q10, .ref q11, .ref q12, .ref q13, .ref q14, .ref q15, .ref q16])), (q8, .inl (k8, 22, .inl f8)), (q9, .inl (k9, 88, .inl f9)), (q12, .inl (k12, 88, .inl f12)), (q13, .inl (k13, 88, .inl f13)), (py, .inr (3, [.int 0, .int (nI sn), .int 0, .ref tm, .ref bh])), (tm, .inl (kt, 3, .inl f_2)), (bh, .inl (kb, 3, .inl fb))] := hD
        refine lv_aload_n hx hb dX3_startsIn_66 rfl (lv_at hl 0 rfl) ?_
        refine va_get (D := (dC, dI)) (ci := 3) (v := .int 0) (C := RX3) (T := TX3) (N := 5) hx hb hts hiX3 hown hK hP 5 rfl rfl 0 (by decide) v_1 (fun _ h9 => h9) rfl dX3_startsIn_67 ?_
        have hP9 := hP.sub (ws' := [(au, .inr (0, [.int (nI nc), .int (nI np), .int (nI ne), .int (nI sn), .ref q4, .ref q5, .ref q6, .ref q7, .ref q8, .ref q9, .ref q10, .ref q11, .ref q12, .ref q13, .ref q14, .ref q15, .ref q16])), (q8, .inl (k8, 22, .inl f8)), (q9, .inl (k9, 88, .inl f9)), (q12, .inl (k12, 88, .inl f12)), (q13, .inl (k13, 88, .inl f13)), (py, .inr (3, [.int 0, .int (nI sn), .int 0, .ref tm, .ref bh])), (tm, .inl (kt, 3, .inl f_2)), (bh, .inl (kb, 3, .inl fb))]) [0, 1, 2, 3, 4, 5, 6, 7] rfl
        have hD9 := hD.sub (ws' := [(au, .inr (0, [.int (nI nc), .int (nI np), .int (nI ne), .int (nI sn), .ref q4, .ref q5, .ref q6, .ref q7, .ref q8, .ref q9, .ref q10, .ref q11, .ref q12, .ref q13, .ref q14, .ref q15, .ref q16])), (q8, .inl (k8, 22, .inl f8)), (q9, .inl (k9, 88, .inl f9)), (q12, .inl (k12, 88, .inl f12)), (q13, .inl (k13, 88, .inl f13)), (py, .inr (3, [.int 0, .int (nI sn), .int 0, .ref tm, .ref bh])), (tm, .inl (kt, 3, .inl f_2)), (bh, .inl (kb, 3, .inl fb))]) [0, 1, 2, 3, 4, 5, 6, 7] (by decide) rfl
        have hK9 := hK.sub (tys' := [(k8, .int), (k9, .int), (k12, .int), (k13, .int), (kt, .int), (kb, .int)]) [0, 1, 2, 3, 4, 5] rfl
        exact W.zret (v := 0) (ty := .boolean) hx hb hr rfl (fun t ht hW => ⟨⟨0, (), rfl, by first | rfl | decide | simp_all, ⟨0, f_2, by rw [ht]; exact hP9, va_K.moved hW.alike hK9, hD9⟩⟩, hS.F ht⟩) hS.2.2 dX3_startsIn_70
      · refine va_put (D := (dC, dI)) (ci := 3) (v := .int 1) (ty := .boolean) (C := RX3) (T := TX3) (N := 5) hx hb hts hiX3 tyX3 tyX3_ok nmX3 hown hK hP hD hS 5 rfl rfl 0 (by decide) v_1 (fun _ h9 => h9) rfl (by decide +kernel) rfl rfl (Nat.le_of_ble_eq_true rfl) dX3_startsIn_63 (fun H locs hP hD hS => ?_)
        have hP : va_P (dC, dI) vwCl [(au, .inr (0, [.int (nI nc), .int (nI np), .int (nI ne), .int (nI sn), .ref q4, .ref q5, .ref q6, .ref q7, .ref q8, .ref q9, .ref q10, .ref q11, .ref q12, .ref q13, .ref q14, .ref q15, .ref q16])), (q8, .inl (k8, 22, .inl f8)), (q9, .inl (k9, 88, .inl f9)), (q12, .inl (k12, 88, .inl f12)), (q13, .inl (k13, 88, .inl f13)), (py, .inr (3, [.int 1, .int (nI sn), .int 0, .ref tm, .ref bh])), (tm, .inl (kt, 3, .inl f_2)), (bh, .inl (kb, 3, .inl fb))] H := hP
        have hD : va_D A [(au, .inr (0, [.int (nI nc), .int (nI np), .int (nI ne), .int (nI sn), .ref q4, .ref q5, .ref q6, .ref q7, .ref q8, .ref q9, .ref q10, .ref q11, .ref q12, .ref q13, .ref q14, .ref q15, .ref q16])), (q8, .inl (k8, 22, .inl f8)), (q9, .inl (k9, 88, .inl f9)), (q12, .inl (k12, 88, .inl f12)), (q13, .inl (k13, 88, .inl f13)), (py, .inr (3, [.int 1, .int (nI sn), .int 0, .ref tm, .ref bh])), (tm, .inl (kt, 3, .inl f_2)), (bh, .inl (kb, 3, .inl fb))] := hD
        refine lv_aload_n hx hb dX3_startsIn_66 rfl (lv_at hl 0 rfl) ?_
        refine va_get (D := (dC, dI)) (ci := 3) (v := .int 1) (C := RX3) (T := TX3) (N := 5) hx hb hts hiX3 hown hK hP 5 rfl rfl 0 (by decide) v_1 (fun _ h9 => h9) rfl dX3_startsIn_67 ?_
        have hP9 := hP.sub (ws' := [(au, .inr (0, [.int (nI nc), .int (nI np), .int (nI ne), .int (nI sn), .ref q4, .ref q5, .ref q6, .ref q7, .ref q8, .ref q9, .ref q10, .ref q11, .ref q12, .ref q13, .ref q14, .ref q15, .ref q16])), (q8, .inl (k8, 22, .inl f8)), (q9, .inl (k9, 88, .inl f9)), (q12, .inl (k12, 88, .inl f12)), (q13, .inl (k13, 88, .inl f13)), (py, .inr (3, [.int 1, .int (nI sn), .int 0, .ref tm, .ref bh])), (tm, .inl (kt, 3, .inl f_2)), (bh, .inl (kb, 3, .inl fb))]) [0, 1, 2, 3, 4, 5, 6, 7] rfl
        have hD9 := hD.sub (ws' := [(au, .inr (0, [.int (nI nc), .int (nI np), .int (nI ne), .int (nI sn), .ref q4, .ref q5, .ref q6, .ref q7, .ref q8, .ref q9, .ref q10, .ref q11, .ref q12, .ref q13, .ref q14, .ref q15, .ref q16])), (q8, .inl (k8, 22, .inl f8)), (q9, .inl (k9, 88, .inl f9)), (q12, .inl (k12, 88, .inl f12)), (q13, .inl (k13, 88, .inl f13)), (py, .inr (3, [.int 1, .int (nI sn), .int 0, .ref tm, .ref bh])), (tm, .inl (kt, 3, .inl f_2)), (bh, .inl (kb, 3, .inl fb))]) [0, 1, 2, 3, 4, 5, 6, 7] (by decide) rfl
        have hK9 := hK.sub (tys' := [(k8, .int), (k9, .int), (k12, .int), (k13, .int), (kt, .int), (kb, .int)]) [0, 1, 2, 3, 4, 5] rfl
        exact W.zret (v := 1) (ty := .boolean) hx hb hr rfl (fun t ht hW => ⟨⟨1, (), rfl, by first | rfl | decide | simp_all, ⟨1, f_2, by rw [ht]; exact hP9, va_K.moved hW.alike hK9, hD9⟩⟩, hS.F ht⟩) hS.2.2 dX3_startsIn_70
    · rintro i_3 h_4 ih_5 H locs ls ⟨f_2, hP, hD, hS, hl⟩
      refine lv_iload_n hx hb dX3_startsIn_29 rfl (lv_at hl 2 rfl) ?_
      refine lv_iconst (v := 3) hx hb dX3_startsIn_30 (by decide) ?_
      refine lv_icmp_ge (tgt := 47) hx hb dX3_startsIn_31 (by decide) (fun z => absurd z (nI_ge (a := i_3) (b := 3) (by omega) (by omega))) (fun _ => ?_)
      refine lv_aload_n hx hb dX3_startsIn_34 rfl (lv_at hl 0 rfl) ?_
      refine va_get (D := (dC, dI)) (ci := 3) (v := .ref tm) (C := RX3) (T := TX3) (N := 5) hx hb hts hiX3 hown hK hP 5 rfl rfl 3 (by decide) v_10 (fun _ h9 => h9) rfl dX3_startsIn_35 ?_
      refine lv_iload_n hx hb dX3_startsIn_38 rfl (lv_at hl 2 rfl) ?_
      refine lv_iconst (v := 0) hx hb dX3_startsIn_39 (by decide) ?_
      refine va_iast hx hb hK hP hD hS 6 4 rfl rfl (vp_in_nI (n := i_3) (by first | omega | exact ix_lt (by omega) (by omega) hn | exact ix_lt0 (by omega) hn | exact ix_ltq (by omega) hn | exact ix_lt1 (by omega) hn) (by omega)) dX3_startsIn_40 (fun H locs hP hD hS => ?_)
      have hP : va_P (dC, dI) vwCl [(au, .inr (0, [.int (nI nc), .int (nI np), .int (nI ne), .int (nI sn), .ref q4, .ref q5, .ref q6, .ref q7, .ref q8, .ref q9, .ref q10, .ref q11, .ref q12, .ref q13, .ref q14, .ref q15, .ref q16])), (q8, .inl (k8, 22, .inl f8)), (q9, .inl (k9, 88, .inl f9)), (q12, .inl (k12, 88, .inl f12)), (q13, .inl (k13, 88, .inl f13)), (py, .inr (3, [.int 0, .int (nI sn), .int 0, .ref tm, .ref bh])), (tm, .inl (kt, 3, .inl (upd f_2 ((nI i_3) : Int32).toNatClampNeg 0))), (bh, .inl (kb, 3, .inl fb))] H := hP
      have hD : va_D A [(au, .inr (0, [.int (nI nc), .int (nI np), .int (nI ne), .int (nI sn), .ref q4, .ref q5, .ref q6, .ref q7, .ref q8, .ref q9, .ref q10, .ref q11, .ref q12, .ref q13, .ref q14, .ref q15, .ref q16])), (q8, .inl (k8, 22, .inl f8)), (q9, .inl (k9, 88, .inl f9)), (q12, .inl (k12, 88, .inl f12)), (q13, .inl (k13, 88, .inl f13)), (py, .inr (3, [.int 0, .int (nI sn), .int 0, .ref tm, .ref bh])), (tm, .inl (kt, 3, .inl (upd f_2 ((nI i_3) : Int32).toNatClampNeg 0))), (bh, .inl (kb, 3, .inl fb))] := hD
      refine lv_iinc (v := (nI (i_3 + 1))) (lv' := [(2, .int (nI (i_3 + 1))), (0, .ref py), (1, .ref au)]) hx hb dX3_startsIn_41 hl (k := 2) rfl (nI_1 _) (by decide) rfl (fun ls hl => ?_)
      refine lv_goto (tgt := 29) hx hb dX3_startsIn_44 (by decide) ?_
      exact ih_5 _ _ _ ⟨_, hP, hD, hS, lv_sub hl [1, 2, 0] rfl⟩
  · have c_1 : np = 0 := (nI_eq (a := np) (b := 0) (by omega) (by omega)).mp c_1
    exfalso
    omega
theorem dX3_longestWait_0 : decode cX3_longestWait 0 = .ok (.aload_n 1, 1) := by decide +kernel
theorem dX3_longestWait_1 : decode cX3_longestWait 1 = .ok (.getfield 45, 3) := by decide +kernel
theorem dX3_longestWait_4 : decode cX3_longestWait 4 = .ok (.aload_n 0, 1) := by decide +kernel
theorem dX3_longestWait_5 : decode cX3_longestWait 5 = .ok (.getfield 31, 3) := by decide +kernel
theorem dX3_longestWait_8 : decode cX3_longestWait 8 = .ok (.baload, 1) := by decide +kernel
theorem dX3_longestWait_9 : decode cX3_longestWait 9 = .ok (.ifCond .eq 5, 3) := by decide +kernel
theorem dX3_longestWait_12 : decode cX3_longestWait 12 = .ok (.iconst 0, 1) := by decide +kernel
theorem dX3_longestWait_13 : decode cX3_longestWait 13 = .ok (.ireturn, 1) := by decide +kernel
theorem dX3_longestWait_14 : decode cX3_longestWait 14 = .ok (.ldc 51, 2) := by decide +kernel
theorem dX3_longestWait_16 : decode cX3_longestWait 16 = .ok (.istore_n 2, 1) := by decide +kernel
theorem dX3_longestWait_17 : decode cX3_longestWait 17 = .ok (.aload_n 0, 1) := by decide +kernel
theorem dX3_longestWait_18 : decode cX3_longestWait 18 = .ok (.getfield 31, 3) := by decide +kernel
theorem dX3_longestWait_21 : decode cX3_longestWait 21 = .ok (.invokestatic 37, 3) := by decide +kernel
theorem dX3_longestWait_24 : decode cX3_longestWait 24 = .ok (.istore_n 3, 1) := by decide +kernel
theorem dX3_longestWait_25 : decode cX3_longestWait 25 = .ok (.iconst 0, 1) := by decide +kernel
theorem dX3_longestWait_26 : decode cX3_longestWait 26 = .ok (.istore 4, 2) := by decide +kernel
theorem dX3_longestWait_28 : decode cX3_longestWait 28 = .ok (.iload 4, 2) := by decide +kernel
theorem dX3_longestWait_30 : decode cX3_longestWait 30 = .ok (.aload_n 1, 1) := by decide +kernel
theorem dX3_longestWait_31 : decode cX3_longestWait 31 = .ok (.getfield 52, 3) := by decide +kernel
theorem dX3_longestWait_34 : decode cX3_longestWait 34 = .ok (.iload_n 3, 1) := by decide +kernel
theorem dX3_longestWait_35 : decode cX3_longestWait 35 = .ok (.iaload, 1) := by decide +kernel
theorem dX3_longestWait_36 : decode cX3_longestWait 36 = .ok (.if_icmp .ge 45, 3) := by decide +kernel
theorem dX3_longestWait_39 : decode cX3_longestWait 39 = .ok (.iload_n 3, 1) := by decide +kernel
theorem dX3_longestWait_40 : decode cX3_longestWait 40 = .ok (.iload 4, 2) := by decide +kernel
theorem dX3_longestWait_42 : decode cX3_longestWait 42 = .ok (.invokestatic 55, 3) := by decide +kernel
theorem dX3_longestWait_45 : decode cX3_longestWait 45 = .ok (.istore 5, 2) := by decide +kernel
theorem dX3_longestWait_47 : decode cX3_longestWait 47 = .ok (.iload_n 2, 1) := by decide +kernel
theorem dX3_longestWait_48 : decode cX3_longestWait 48 = .ok (.aload_n 1, 1) := by decide +kernel
theorem dX3_longestWait_49 : decode cX3_longestWait 49 = .ok (.getfield 59, 3) := by decide +kernel
theorem dX3_longestWait_52 : decode cX3_longestWait 52 = .ok (.iload 5, 2) := by decide +kernel
theorem dX3_longestWait_54 : decode cX3_longestWait 54 = .ok (.iaload, 1) := by decide +kernel
theorem dX3_longestWait_55 : decode cX3_longestWait 55 = .ok (.invokestatic 62, 3) := by decide +kernel
theorem dX3_longestWait_58 : decode cX3_longestWait 58 = .ok (.aload_n 0, 1) := by decide +kernel
theorem dX3_longestWait_59 : decode cX3_longestWait 59 = .ok (.getfield 9, 3) := by decide +kernel
theorem dX3_longestWait_62 : decode cX3_longestWait 62 = .ok (.aload_n 1, 1) := by decide +kernel
theorem dX3_longestWait_63 : decode cX3_longestWait 63 = .ok (.getfield 67, 3) := by decide +kernel
theorem dX3_longestWait_66 : decode cX3_longestWait 66 = .ok (.iload 5, 2) := by decide +kernel
theorem dX3_longestWait_68 : decode cX3_longestWait 68 = .ok (.iaload, 1) := by decide +kernel
theorem dX3_longestWait_69 : decode cX3_longestWait 69 = .ok (.iaload, 1) := by decide +kernel
theorem dX3_longestWait_70 : decode cX3_longestWait 70 = .ok (.isub, 1) := by decide +kernel
theorem dX3_longestWait_71 : decode cX3_longestWait 71 = .ok (.invokestatic 70, 3) := by decide +kernel
theorem dX3_longestWait_74 : decode cX3_longestWait 74 = .ok (.istore_n 2, 1) := by decide +kernel
theorem dX3_longestWait_75 : decode cX3_longestWait 75 = .ok (.iinc 4 1, 3) := by decide +kernel
theorem dX3_longestWait_78 : decode cX3_longestWait 78 = .ok (.goto (-50), 3) := by decide +kernel
theorem dX3_longestWait_81 : decode cX3_longestWait 81 = .ok (.iload_n 2, 1) := by decide +kernel
theorem dX3_longestWait_82 : decode cX3_longestWait 82 = .ok (.ireturn, 1) := by decide +kernel
def vs_X3_longestWait : List Cond := .code yX3_longestWait cX3_longestWait 6 (some .int) :: ([.fieldLink RX3 45 "ClockReach$Automaton" "hurried" "[Z", .fieldLink RX3 31 "ClockReach$Play" "site" "I", .constant RX3 51 (2147483647), .methodLink RX3 37 yX0_hostOfPlace, .static yX0_hostOfPlace, .initialized RX0, .code yX0_hostOfPlace cX0_hostOfPlace 1 (some .int), .fieldLink RX3 52 "ClockReach$Automaton" "counts" "[I", .methodLink RX3 55 yX0_slot, .static yX0_slot, .code yX0_slot cX0_slot 2 (some .int), .fieldLink RX3 59 "ClockReach$Automaton" "ceilings" "[I", .methodLink RX3 62 yX7_ticks, .static yX7_ticks, .initialized RX7, .code yX7_ticks cX7_ticks 1 (some .int), .constant RX7 17 (2147483647), .fieldLink RX3 9 "ClockReach$Play" "times" "[I", .fieldLink RX3 67 "ClockReach$Automaton" "conditionClocks" "[I", .methodLink RX3 70 Lib.Math.min.name, .static Lib.Math.min.name, .initialized "java/lang/Math", .code Lib.Math.min.name Lib.Math.min.code 2 (some .int)] ++ wsX00 ++ wsX30)
theorem g_X3_longestWait_X0_hostOfPlace : GoodIn vs_X3_longestWait (va_wsS RX3 37 yX0_hostOfPlace vs_X0_hostOfPlace) := goodIn_r _ [4, 5, 6, 7] (by decide +kernel) (by decide +kernel)
theorem g_X3_longestWait_X0_slot : GoodIn vs_X3_longestWait (va_wsS RX3 55 yX0_slot vs_X0_slot) := goodIn_r _ [9, 10, 6, 11] (by decide +kernel) (by decide +kernel)
theorem g_X3_longestWait_X7_ticks : GoodIn vs_X3_longestWait (va_wsS RX3 62 yX7_ticks vs_X7_ticks) := goodIn_r _ [13, 14, 15, 16, 17] (by decide +kernel) (by decide +kernel)
set_option maxHeartbeats 4000000 in
set_option maxRecDepth 100000 in
theorem c_X3_longestWait (l : Launch) (dC : Nat → ClassId) (dI : Nat → Nat → Nat) (sz : Nat) (au q4 q5 q6 q7 q8 q9 q10 q11 q12 q13 q14 q15 q16 : Nat) (nc np ne : Nat) (st0 : Int32) (k4 k8 k9 k12 : ClassId) (f4 f8 f9 f12 : Nat → Int32) (py tm bh : Nat) (kt kb : ClassId) (on0 ti0 : Int32) (ft fb : Nat → Int32) (sn : Nat) (hc : ao_c nc f8 f9) (hnc : nc ≤ 3) (hp : np ≤ 8) (hsn : sn < np) : Met l yX3_longestWait vs_X3_longestWait ({ frames := 1, cells := 0, slots := 0, locals := 21 }) (va_Pc [.ref py, .ref au] (pu_B (dC, dI) [(au, .inr (0, [.int (nI nc), .int (nI np), .int (nI ne), .int st0, .ref q4, .ref q5, .ref q6, .ref q7, .ref q8, .ref q9, .ref q10, .ref q11, .ref q12, .ref q13, .ref q14, .ref q15, .ref q16])), (q4, .inl (k4, 8, .inl f4)), (q8, .inl (k8, 22, .inl f8)), (q9, .inl (k9, 88, .inl f9)), (q12, .inl (k12, 88, .inl f12)), (py, .inr (3, [.int on0, .int (nI sn), .int ti0, .ref tm, .ref bh])), (tm, .inl (kt, 3, .inl ft)), (bh, .inl (kb, 3, .inl fb))] [(k4, .boolean), (k8, .int), (k9, .int), (k12, .int), (kt, .int), (kb, .int)] sz)) (va_Qi (fun (r : Int32) (_ : Unit) => True) (fun _ _ => True) (va_A [] sz)) 0 0 (va_A [] sz) := by
  refine Met.ofW (cc := cX3_longestWait) (maxL := 6) (ret := (some .int)) (by decide) rfl ?_
  intro p e s m args below meth c s₁ B hml hv
  obtain ⟨rfl, rfl, hP, hK, hD0⟩ := hv
  have hx := B.exec
  have hb := B.bytes
  have hr := B.returns
  have hts := atoms_spec (ws := vs_X3_longestWait) B.pre
  have v_1 := hts (.fieldLink RX3 45 "ClockReach$Automaton" "hurried" "[Z") (List.mem_of_getElem? (i := 1) rfl)
  have v_2 := hts (.fieldLink RX3 31 "ClockReach$Play" "site" "I") (List.mem_of_getElem? (i := 2) rfl)
  have v_3 := hts (.constant RX3 51 (2147483647)) (List.mem_of_getElem? (i := 3) rfl)
  have v_8 := hts (.fieldLink RX3 52 "ClockReach$Automaton" "counts" "[I") (List.mem_of_getElem? (i := 8) rfl)
  have v_12 := hts (.fieldLink RX3 59 "ClockReach$Automaton" "ceilings" "[I") (List.mem_of_getElem? (i := 12) rfl)
  have v_18 := hts (.fieldLink RX3 9 "ClockReach$Play" "times" "[I") (List.mem_of_getElem? (i := 18) rfl)
  have v_19 := hts (.fieldLink RX3 67 "ClockReach$Automaton" "conditionClocks" "[I") (List.mem_of_getElem? (i := 19) rfl)
  have v_20 := hts (.methodLink RX3 70 Lib.Math.min.name) (List.mem_of_getElem? (i := 20) rfl)
  have v_21 := hts (.static Lib.Math.min.name) (List.mem_of_getElem? (i := 21) rfl)
  have v_22 := hts (.initialized "java/lang/Math") (List.mem_of_getElem? (i := 22) rfl)
  have v_23 := hts (.code Lib.Math.min.name Lib.Math.min.code 2 (some .int)) (List.mem_of_getElem? (i := 23) rfl)
  have hown : s.vm.findClass RX3 = some m.cls := findClass_of_methodNamed B.named
  have hlocks := B.notSynchronized
  have hiX0 : ∀ w ∈ wsX00, w ∈ vs_X3_longestWait := fun _ h => List.mem_cons_of_mem _ (List.mem_append_left _ (List.mem_append_right _ h))
  have hiX3 : ∀ w ∈ wsX30, w ∈ vs_X3_longestWait := fun _ h => List.mem_cons_of_mem _ (List.mem_append_right _ h)
  have hD := hD0
  have hA : ∀ q : Nat, s.heap.size ≤ q → va_A [] s.heap.size q := fun _ h => Or.inr h
  have hS : va_S (va_A [] s.heap.size) s.heap s.heap [] := va_S.rf
  have hl := lv_entry ([.ref py, .ref au]) (n := 6) (Nat.le_of_ble_eq_true rfl)
  rw [lg_entry_eq]
  generalize (lg_sl ([.ref py, .ref au]) ++ List.replicate (6 - (lg_sl ([.ref py, .ref au])).length) Slot.unset).toArray = ls at hl ⊢
  have hl : lv_has ls 6 [(0, .ref py), (1, .ref au)] := hl
  refine lv_aload_n hx hb dX3_longestWait_0 rfl (lv_at hl 1 rfl) ?_
  refine va_get (D := (dC, dI)) (ci := 0) (v := .ref q4) (C := RX0) (T := TX0) (N := 17) hx hb hts hiX0 hown hK hP 0 rfl rfl 4 (by decide) v_1 (fun _ h9 => h9) rfl dX3_longestWait_1 ?_
  refine lv_aload_n hx hb dX3_longestWait_4 rfl (lv_at hl 0 rfl) ?_
  refine va_get (D := (dC, dI)) (ci := 3) (v := .int (nI sn)) (C := RX3) (T := TX3) (N := 5) hx hb hts hiX3 hown hK hP 5 rfl rfl 1 (by decide) v_2 (fun _ h9 => h9) rfl dX3_longestWait_5 ?_
  refine va_zald hx hb hK hP 1 0 rfl rfl (vp_in_nI (n := sn) (by first | omega | exact ix_lt (by omega) (by omega) hn | exact ix_lt0 (by omega) hn | exact ix_ltq (by omega) hn | exact ix_lt1 (by omega) hn) (by omega)) dX3_longestWait_8 ?_
  refine lv_if_eq (tgt := 14) hx hb dX3_longestWait_9 (by decide) (fun c_1 => ?_) (fun c_1 => ?_)
  · refine lv_ldc hx hb hown v_3 dX3_longestWait_14 ?_
    refine lv_istore_n (lv' := [(2, .int 2147483647), (0, .ref py), (1, .ref au)]) hx hb dX3_longestWait_16 rfl hl (by decide) rfl (fun ls hl => ?_)
    refine lv_aload_n hx hb dX3_longestWait_17 rfl (lv_at hl 1 rfl) ?_
    refine va_get (D := (dC, dI)) (ci := 3) (v := .int (nI sn)) (C := RX3) (T := TX3) (N := 5) hx hb hts hiX3 hown hK hP 5 rfl rfl 1 (by decide) v_2 (fun _ h9 => h9) rfl dX3_longestWait_18 ?_
    refine va_calli (va_runS (As := [.int (nI sn)]) (rest := []) ⟨hx, hb, hml, hown, hts⟩ (c_X0_hostOfPlace l dC dI _ sn) (va_cwS 1 hts g_X3_longestWait_X0_hostOfPlace rfl rfl rfl (by decide +kernel) ⟨Nat.le_of_ble_eq_true rfl, Nat.le_of_ble_eq_true rfl⟩) ⟨pu_bl, pu_in (hP.sub [] rfl) (hK.sub [] rfl) (hD.sub [] (by decide) rfl)⟩ rfl rfl hl.1 rfl (lv_room (Nat.le_of_ble_eq_true rfl)) dX3_longestWait_21 ⟨Nat.le_of_ble_eq_true rfl, Nat.le_of_ble_eq_true rfl⟩) hS (fun q _ h => pu_fr hS hA q h) (pu_fr hS hA) (fun r_2 u t H1 locs ht hvm hw hB hz1 hk1 hS => ?_)
    have hP := pu_keep hP hk1
    clear hk1 hz1 ht hvm
    generalize H1 = H at hP hS ⊢
    obtain rfl : r_2 = (nI (14 + sn)) := hw
    refine lv_istore_n (lv' := [(3, .int (nI (14 + sn))), (2, .int 2147483647), (0, .ref py), (1, .ref au)]) hx hb dX3_longestWait_24 rfl hl (by decide) rfl (fun ls hl => ?_)
    refine lv_iconst (v := 0) hx hb dX3_longestWait_25 (by decide) ?_
    refine lv_istore (lv' := [(4, .int 0), (3, .int (nI (14 + sn))), (2, .int 2147483647), (0, .ref py), (1, .ref au)]) hx hb dX3_longestWait_26 hl (by decide) rfl (fun ls hl => ?_)
    obtain ⟨qc_3, hq_4, eq_5, hcc_6⟩ := hc (14 + sn) (by omega)
    refine pu_loop (qc_3) (fun ii H locs ls => ∃ v0 : Int32, va_P (dC, dI) vwCl [(au, .inr (0, [.int (nI nc), .int (nI np), .int (nI ne), .int st0, .ref q4, .ref q5, .ref q6, .ref q7, .ref q8, .ref q9, .ref q10, .ref q11, .ref q12, .ref q13, .ref q14, .ref q15, .ref q16])), (q4, .inl (k4, 8, .inl f4)), (q8, .inl (k8, 22, .inl f8)), (q9, .inl (k9, 88, .inl f9)), (q12, .inl (k12, 88, .inl f12)), (py, .inr (3, [.int on0, .int (nI sn), .int ti0, .ref tm, .ref bh])), (tm, .inl (kt, 3, .inl ft)), (bh, .inl (kb, 3, .inl fb))] H ∧ va_D (fun _ => True) [(au, .inr (0, [.int (nI nc), .int (nI np), .int (nI ne), .int st0, .ref q4, .ref q5, .ref q6, .ref q7, .ref q8, .ref q9, .ref q10, .ref q11, .ref q12, .ref q13, .ref q14, .ref q15, .ref q16])), (q4, .inl (k4, 8, .inl f4)), (q8, .inl (k8, 22, .inl f8)), (q9, .inl (k9, 88, .inl f9)), (q12, .inl (k12, 88, .inl f12)), (py, .inr (3, [.int on0, .int (nI sn), .int ti0, .ref tm, .ref bh])), (tm, .inl (kt, 3, .inl ft)), (bh, .inl (kb, 3, .inl fb))] ∧ va_S (va_A [] s.heap.size) s.heap H locs ∧ lv_has ls 6 [(0, .ref py), (1, .ref au), (2, .int v0), (3, .int (nI (14 + sn))), (4, .int (nI ii))]) (fun _ => 0) (fun _ => 0) 28 [] ?_ ?_ _ _ _ ⟨_, hP, hD, hS, lv_sub hl [3, 4, 2, 1, 0] rfl⟩
    · rintro H locs ls ⟨vl_7, hP, hD, hS, hl⟩
      refine lv_iload hx hb dX3_longestWait_28 (lv_at hl 4 rfl) ?_
      refine lv_aload_n hx hb dX3_longestWait_30 rfl (lv_at hl 1 rfl) ?_
      refine va_get (D := (dC, dI)) (ci := 0) (v := .ref q8) (C := RX0) (T := TX0) (N := 17) hx hb hts hiX0 hown hK hP 0 rfl rfl 8 (by decide) v_8 (fun _ h9 => h9) rfl dX3_longestWait_31 ?_
      refine lv_iload_n hx hb dX3_longestWait_34 rfl (lv_at hl 3 rfl) ?_
      refine va_iald hx hb hK hP 2 1 rfl rfl (vp_in_nI (n := (14 + sn)) (by first | omega | exact ix_lt (by omega) (by omega) hn | exact ix_lt0 (by omega) hn | exact ix_ltq (by omega) hn | exact ix_lt1 (by omega) hn) (by omega)) dX3_longestWait_35 ?_
      refine lv_topi (fun y_11 ey_11 => ?_)
      have ey_11 : y_11 = f8 (14 + sn) := ey_11.trans (congrArg f8 (nI_clamp (n := (14 + sn)) (by omega)))
      obtain rfl : y_11 = nI qc_3 := ey_11.trans eq_5
      refine lv_icmp_ge (tgt := 81) hx hb dX3_longestWait_36 (by decide) (fun _ => ?_) (fun z => absurd (nI_le (a := qc_3) (b := qc_3) (by omega) (by omega)) z)
      refine lv_iload_n hx hb dX3_longestWait_81 rfl (lv_at hl 2 rfl) ?_
      exact W.iret (v := vl_7) hx hb hr (fun t ht hW => ⟨⟨vl_7, (), rfl, trivial, trivial⟩, hS.F ht⟩) hS.2.2 dX3_longestWait_82
    · rintro i_8 h_9 ih_10 H locs ls ⟨vl_7, hP, hD, hS, hl⟩
      refine lv_iload hx hb dX3_longestWait_28 (lv_at hl 4 rfl) ?_
      refine lv_aload_n hx hb dX3_longestWait_30 rfl (lv_at hl 1 rfl) ?_
      refine va_get (D := (dC, dI)) (ci := 0) (v := .ref q8) (C := RX0) (T := TX0) (N := 17) hx hb hts hiX0 hown hK hP 0 rfl rfl 8 (by decide) v_8 (fun _ h9 => h9) rfl dX3_longestWait_31 ?_
      refine lv_iload_n hx hb dX3_longestWait_34 rfl (lv_at hl 3 rfl) ?_
      refine va_iald hx hb hK hP 2 1 rfl rfl (vp_in_nI (n := (14 + sn)) (by first | omega | exact ix_lt (by omega) (by omega) hn | exact ix_lt0 (by omega) hn | exact ix_ltq (by omega) hn | exact ix_lt1 (by omega) hn) (by omega)) dX3_longestWait_35 ?_
      refine lv_topi (fun y_12 ey_12 => ?_)
      have ey_12 : y_12 = f8 (14 + sn) := ey_12.trans (congrArg f8 (nI_clamp (n := (14 + sn)) (by omega)))
      obtain rfl : y_12 = nI qc_3 := ey_12.trans eq_5
      refine lv_icmp_ge (tgt := 81) hx hb dX3_longestWait_36 (by decide) (fun z => absurd z (nI_ge (a := i_8) (b := qc_3) (by omega) (by omega))) (fun _ => ?_)
      refine lv_iload_n hx hb dX3_longestWait_39 rfl (lv_at hl 3 rfl) ?_
      refine lv_iload hx hb dX3_longestWait_40 (lv_at hl 4 rfl) ?_
      refine va_calli (va_runS (As := [.int (nI (14 + sn)), .int (nI i_8)]) (rest := []) ⟨hx, hb, hml, hown, hts⟩ (c_X0_slot l dC dI _ (14 + sn) i_8) (va_cwS 2 hts g_X3_longestWait_X0_slot rfl rfl rfl (by decide +kernel) ⟨Nat.le_of_ble_eq_true rfl, Nat.le_of_ble_eq_true rfl⟩) ⟨pu_bl, pu_in (hP.sub [] rfl) (hK.sub [] rfl) (hD.sub [] (by decide) rfl)⟩ rfl rfl hl.1 rfl (lv_room (Nat.le_of_ble_eq_true rfl)) dX3_longestWait_42 ⟨Nat.le_of_ble_eq_true rfl, Nat.le_of_ble_eq_true rfl⟩) hS (fun q _ h => pu_fr hS hA q h) (pu_fr hS hA) (fun r_13 u t H1 locs ht hvm hw hB hz1 hk1 hS => ?_)
      have hP := pu_keep hP hk1
      clear hk1 hz1 ht hvm
      generalize H1 = H at hP hS ⊢
      obtain rfl : r_13 = (nI ((14 + sn) * 4 + i_8)) := hw
      refine lv_istore (lv' := [(5, .int (nI ((14 + sn) * 4 + i_8))), (0, .ref py), (1, .ref au), (2, .int vl_7), (3, .int (nI (14 + sn))), (4, .int (nI i_8))]) hx hb dX3_longestWait_45 hl (by decide) rfl (fun ls hl => ?_)
      refine lv_iload_n hx hb dX3_longestWait_47 rfl (lv_at hl 3 rfl) ?_
      refine lv_aload_n hx hb dX3_longestWait_48 rfl (lv_at hl 2 rfl) ?_
      refine va_get (D := (dC, dI)) (ci := 0) (v := .ref q12) (C := RX0) (T := TX0) (N := 17) hx hb hts hiX0 hown hK hP 0 rfl rfl 12 (by decide) v_12 (fun _ h9 => h9) rfl dX3_longestWait_49 ?_
      refine lv_iload hx hb dX3_longestWait_52 (lv_at hl 0 rfl) ?_
      refine va_iald hx hb hK hP 4 3 rfl rfl (vp_in_nI (n := ((14 + sn) * 4 + i_8)) (by first | omega | exact ix_lt (by omega) (by omega) hn | exact ix_lt0 (by omega) hn | exact ix_ltq (by omega) hn | exact ix_lt1 (by omega) hn) (by omega)) dX3_longestWait_54 ?_
      refine va_calli (va_runS (As := [.int (f12 ((nI ((14 + sn) * 4 + i_8))).toNatClampNeg)]) (rest := [.int vl_7]) ⟨hx, hb, hml, hown, hts⟩ (c_X7_ticks l dC dI _ (f12 ((nI ((14 + sn) * 4 + i_8))).toNatClampNeg)) (va_cwS 1 hts g_X3_longestWait_X7_ticks rfl rfl rfl (by decide +kernel) ⟨Nat.le_of_ble_eq_true rfl, Nat.le_of_ble_eq_true rfl⟩) ⟨pu_bl, pu_in (hP.sub [] rfl) (hK.sub [] rfl) (hD.sub [] (by decide) rfl)⟩ rfl rfl hl.1 rfl (lv_room (Nat.le_of_ble_eq_true rfl)) dX3_longestWait_55 ⟨Nat.le_of_ble_eq_true rfl, Nat.le_of_ble_eq_true rfl⟩) hS (fun q _ h => pu_fr hS hA q h) (pu_fr hS hA) (fun r_14 u t H1 locs ht hvm hw hB hz1 hk1 hS => ?_)
      have hP := pu_keep hP hk1
      clear hk1 hz1 ht hvm
      generalize H1 = H at hP hS ⊢
      refine lv_aload_n hx hb dX3_longestWait_58 rfl (lv_at hl 1 rfl) ?_
      refine va_get (D := (dC, dI)) (ci := 3) (v := .ref tm) (C := RX3) (T := TX3) (N := 5) hx hb hts hiX3 hown hK hP 5 rfl rfl 3 (by decide) v_18 (fun _ h9 => h9) rfl dX3_longestWait_59 ?_
      refine lv_aload_n hx hb dX3_longestWait_62 rfl (lv_at hl 2 rfl) ?_
      refine va_get (D := (dC, dI)) (ci := 0) (v := .ref q9) (C := RX0) (T := TX0) (N := 17) hx hb hts hiX0 hown hK hP 0 rfl rfl 9 (by decide) v_19 (fun _ h9 => h9) rfl dX3_longestWait_63 ?_
      refine lv_iload hx hb dX3_longestWait_66 (lv_at hl 0 rfl) ?_
      refine va_iald hx hb hK hP 3 2 rfl rfl (vp_in_nI (n := ((14 + sn) * 4 + i_8)) (by first | omega | exact ix_lt (by omega) (by omega) hn | exact ix_lt0 (by omega) hn | exact ix_ltq (by omega) hn | exact ix_lt1 (by omega) hn) (by omega)) dX3_longestWait_68 ?_
      refine lv_topi (fun y_15 ey_15 => ?_)
      have ey_15 : y_15 = f9 ((14 + sn) * 4 + i_8) := ey_15.trans (congrArg f9 (nI_clamp (n := ((14 + sn) * 4 + i_8)) (by omega)))
      obtain ⟨cq_16, hq_17, eq_18⟩ := hcc_6 i_8 (by omega)
      obtain rfl : y_15 = nI cq_16 := ey_15.trans eq_18
      refine va_iald hx hb hK hP 6 4 rfl rfl (vp_in_nI (n := cq_16) (by first | omega | exact ix_lt (by omega) (by omega) hn | exact ix_lt0 (by omega) hn | exact ix_ltq (by omega) hn | exact ix_lt1 (by omega) hn) (by omega)) dX3_longestWait_69 ?_
      refine lv_isub hx hb dX3_longestWait_70 ?_
      refine va_mmin hx hb (hml.trans hl.1.symm) hown v_20 v_21 v_22 v_23 (Nat.le_of_ble_eq_true rfl) (Nat.le_of_ble_eq_true rfl) (Nat.le_of_ble_eq_true rfl) (Nat.le_of_ble_eq_true rfl) dX3_longestWait_71 ?_
      refine lv_topi (fun y_19 ey_19 => ?_)
      refine lv_istore_n (lv' := [(2, .int y_19), (5, .int (nI ((14 + sn) * 4 + i_8))), (0, .ref py), (1, .ref au), (3, .int (nI (14 + sn))), (4, .int (nI i_8))]) hx hb dX3_longestWait_74 rfl hl (by decide) rfl (fun ls hl => ?_)
      refine lv_iinc (v := (nI (i_8 + 1))) (lv' := [(4, .int (nI (i_8 + 1))), (2, .int y_19), (5, .int (nI ((14 + sn) * 4 + i_8))), (0, .ref py), (1, .ref au), (3, .int (nI (14 + sn)))]) hx hb dX3_longestWait_75 hl (k := 5) rfl (nI_1 _) (by decide) rfl (fun ls hl => ?_)
      refine lv_goto (tgt := 28) hx hb dX3_longestWait_78 (by decide) ?_
      exact ih_10 _ _ _ ⟨_, hP, hD, hS, lv_sub hl [3, 4, 1, 5, 0] rfl⟩
  · refine lv_iconst (v := 0) hx hb dX3_longestWait_12 (by decide) ?_
    exact W.iret (v := 0) hx hb hr (fun t ht hW => ⟨⟨0, (), rfl, trivial, trivial⟩, hS.F ht⟩) hS.2.2 dX3_longestWait_13
theorem dX3_opens_0 : decode cX3_opens 0 = .ok (.aload_n 1, 1) := by decide +kernel
theorem dX3_opens_1 : decode cX3_opens 1 = .ok (.getfield 75, 3) := by decide +kernel
theorem dX3_opens_4 : decode cX3_opens 4 = .ok (.iload_n 2, 1) := by decide +kernel
theorem dX3_opens_5 : decode cX3_opens 5 = .ok (.iaload, 1) := by decide +kernel
theorem dX3_opens_6 : decode cX3_opens 6 = .ok (.aload_n 0, 1) := by decide +kernel
theorem dX3_opens_7 : decode cX3_opens 7 = .ok (.getfield 31, 3) := by decide +kernel
theorem dX3_opens_10 : decode cX3_opens 10 = .ok (.if_icmp .ne 15, 3) := by decide +kernel
theorem dX3_opens_13 : decode cX3_opens 13 = .ok (.aload_n 1, 1) := by decide +kernel
theorem dX3_opens_14 : decode cX3_opens 14 = .ok (.iload_n 2, 1) := by decide +kernel
theorem dX3_opens_15 : decode cX3_opens 15 = .ok (.aload_n 0, 1) := by decide +kernel
theorem dX3_opens_16 : decode cX3_opens 16 = .ok (.getfield 9, 3) := by decide +kernel
theorem dX3_opens_19 : decode cX3_opens 19 = .ok (.invokevirtual 41, 3) := by decide +kernel
theorem dX3_opens_22 : decode cX3_opens 22 = .ok (.ifCond .ne 5, 3) := by decide +kernel
theorem dX3_opens_25 : decode cX3_opens 25 = .ok (.iconst 0, 1) := by decide +kernel
theorem dX3_opens_26 : decode cX3_opens 26 = .ok (.ireturn, 1) := by decide +kernel
theorem dX3_opens_27 : decode cX3_opens 27 = .ok (.iconst 0, 1) := by decide +kernel
theorem dX3_opens_28 : decode cX3_opens 28 = .ok (.istore_n 3, 1) := by decide +kernel
theorem dX3_opens_29 : decode cX3_opens 29 = .ok (.iload_n 3, 1) := by decide +kernel
theorem dX3_opens_30 : decode cX3_opens 30 = .ok (.iconst 3, 1) := by decide +kernel
theorem dX3_opens_31 : decode cX3_opens 31 = .ok (.if_icmp .ge 39, 3) := by decide +kernel
theorem dX3_opens_34 : decode cX3_opens 34 = .ok (.aload_n 0, 1) := by decide +kernel
theorem dX3_opens_35 : decode cX3_opens 35 = .ok (.getfield 15, 3) := by decide +kernel
theorem dX3_opens_38 : decode cX3_opens 38 = .ok (.iload_n 3, 1) := by decide +kernel
theorem dX3_opens_39 : decode cX3_opens 39 = .ok (.aload_n 1, 1) := by decide +kernel
theorem dX3_opens_40 : decode cX3_opens 40 = .ok (.getfield 78, 3) := by decide +kernel
theorem dX3_opens_43 : decode cX3_opens 43 = .ok (.iload_n 2, 1) := by decide +kernel
theorem dX3_opens_44 : decode cX3_opens 44 = .ok (.iaload, 1) := by decide +kernel
theorem dX3_opens_45 : decode cX3_opens 45 = .ok (.iload_n 3, 1) := by decide +kernel
theorem dX3_opens_46 : decode cX3_opens 46 = .ok (.ishr, 1) := by decide +kernel
theorem dX3_opens_47 : decode cX3_opens 47 = .ok (.iconst 1, 1) := by decide +kernel
theorem dX3_opens_48 : decode cX3_opens 48 = .ok (.iand, 1) := by decide +kernel
theorem dX3_opens_49 : decode cX3_opens 49 = .ok (.iconst 1, 1) := by decide +kernel
theorem dX3_opens_50 : decode cX3_opens 50 = .ok (.if_icmp .ne 7, 3) := by decide +kernel
theorem dX3_opens_53 : decode cX3_opens 53 = .ok (.iconst 0, 1) := by decide +kernel
theorem dX3_opens_54 : decode cX3_opens 54 = .ok (.goto 9, 3) := by decide +kernel
theorem dX3_opens_57 : decode cX3_opens 57 = .ok (.aload_n 0, 1) := by decide +kernel
theorem dX3_opens_58 : decode cX3_opens 58 = .ok (.getfield 9, 3) := by decide +kernel
theorem dX3_opens_61 : decode cX3_opens 61 = .ok (.iload_n 3, 1) := by decide +kernel
theorem dX3_opens_62 : decode cX3_opens 62 = .ok (.iaload, 1) := by decide +kernel
theorem dX3_opens_63 : decode cX3_opens 63 = .ok (.iastore, 1) := by decide +kernel
theorem dX3_opens_64 : decode cX3_opens 64 = .ok (.iinc 3 1, 3) := by decide +kernel
theorem dX3_opens_67 : decode cX3_opens 67 = .ok (.goto (-38), 3) := by decide +kernel
theorem dX3_opens_70 : decode cX3_opens 70 = .ok (.aload_n 1, 1) := by decide +kernel
theorem dX3_opens_71 : decode cX3_opens 71 = .ok (.aload_n 1, 1) := by decide +kernel
theorem dX3_opens_72 : decode cX3_opens 72 = .ok (.getfield 81, 3) := by decide +kernel
theorem dX3_opens_75 : decode cX3_opens 75 = .ok (.iload_n 2, 1) := by decide +kernel
theorem dX3_opens_76 : decode cX3_opens 76 = .ok (.iaload, 1) := by decide +kernel
theorem dX3_opens_77 : decode cX3_opens 77 = .ok (.invokestatic 37, 3) := by decide +kernel
theorem dX3_opens_80 : decode cX3_opens 80 = .ok (.aload_n 0, 1) := by decide +kernel
theorem dX3_opens_81 : decode cX3_opens 81 = .ok (.getfield 15, 3) := by decide +kernel
theorem dX3_opens_84 : decode cX3_opens 84 = .ok (.invokevirtual 41, 3) := by decide +kernel
theorem dX3_opens_87 : decode cX3_opens 87 = .ok (.ireturn, 1) := by decide +kernel
def vs_X3_opens : List Cond := .code yX3_opens cX3_opens 4 (some .boolean) :: ([.fieldLink RX3 75 "ClockReach$Automaton" "sources" "[I", .fieldLink RX3 31 "ClockReach$Play" "site" "I", .fieldLink RX3 9 "ClockReach$Play" "times" "[I", .methodLink RX3 41 yX0_holdsAt, .instanceMethod yX0_holdsAt, .selects RX0 yX0_holdsAt yX0_holdsAt, .initialized RX0, .code yX0_holdsAt cX0_holdsAt 6 (some .boolean), .fieldLink RX0 29 "ClockReach$Automaton" "counts" "[I", .methodLink RX0 65 yX0_slot, .static yX0_slot, .code yX0_slot cX0_slot 2 (some .int), .fieldLink RX0 32 "ClockReach$Automaton" "conditionClocks" "[I", .fieldLink RX0 41 "ClockReach$Automaton" "ceilings" "[I", .methodLink RX0 102 yX7_ticks, .static yX7_ticks, .initialized RX7, .code yX7_ticks cX7_ticks 1 (some .int), .constant RX7 17 (2147483647), .fieldLink RX0 44 "ClockReach$Automaton" "floors" "[I", .fieldLink RX3 81 "ClockReach$Automaton" "targets" "[I", .methodLink RX3 37 yX0_hostOfPlace, .static yX0_hostOfPlace, .code yX0_hostOfPlace cX0_hostOfPlace 1 (some .int), .fieldLink RX3 15 "ClockReach$Play" "behind" "[I", .fieldLink RX3 78 "ClockReach$Automaton" "resets" "[I"] ++ wsX00 ++ wsX30)
theorem g_X3_opens_X0_holdsAt : GoodIn vs_X3_opens (wsV RX3 41 RX0 yX0_holdsAt vs_X0_holdsAt) := goodIn_r _ [4, 5, 6, 7, 8, 9, 10, 11, 7, 12, 13, 14, 15, 16, 17, 18, 19, 20, 27, 28, 29, 30, 31, 32, 33, 34, 35, 36, 37, 38, 39, 40, 41, 42, 43] (by decide +kernel) (by decide +kernel)
theorem g_X3_opens_X0_hostOfPlace : GoodIn vs_X3_opens (va_wsS RX3 37 yX0_hostOfPlace vs_X0_hostOfPlace) := goodIn_r _ [22, 23, 7, 24] (by decide +kernel) (by decide +kernel)
set_option maxHeartbeats 4000000 in
set_option maxRecDepth 100000 in
theorem c_X3_opens (l : Launch) (dC : Nat → ClassId) (dI : Nat → Nat → Nat) (sz : Nat) (au q4 q5 q6 q7 q8 q9 q10 q11 q12 q13 q14 q15 q16 : Nat) (nc np ne : Nat) (st0 : Int32) (k5 k6 k7 k8 k9 k12 k13 : ClassId) (f5 f6 f7 f8 f9 f12 f13 : Nat → Int32) (py tm bh : Nat) (kt kb : ClassId) (on0 si0 ti0 : Int32) (ft fb : Nat → Int32) (hc : ao_c nc f8 f9) (hnc : nc ≤ 3) (hp : np ≤ 8) (he : ne ≤ 14) (h6 : ao_e np ne f6) (i : Nat) (hi : i < ne) : Met l yX3_opens vs_X3_opens ({ frames := 2, cells := 0, slots := 0, locals := 46 }) (va_Pc [.ref py, .ref au, .int (nI i)] (pu_B (dC, dI) [(au, .inr (0, [.int (nI nc), .int (nI np), .int (nI ne), .int st0, .ref q4, .ref q5, .ref q6, .ref q7, .ref q8, .ref q9, .ref q10, .ref q11, .ref q12, .ref q13, .ref q14, .ref q15, .ref q16])), (q5, .inl (k5, 14, .inl f5)), (q6, .inl (k6, 14, .inl f6)), (q7, .inl (k7, 14, .inl f7)), (q8, .inl (k8, 22, .inl f8)), (q9, .inl (k9, 88, .inl f9)), (q12, .inl (k12, 88, .inl f12)), (q13, .inl (k13, 88, .inl f13)), (py, .inr (3, [.int on0, .int si0, .int ti0, .ref tm, .ref bh])), (tm, .inl (kt, 3, .inl ft)), (bh, .inl (kb, 3, .inl fb))] [(k5, .int), (k6, .int), (k7, .int), (k8, .int), (k9, .int), (k12, .int), (k13, .int), (kt, .int), (kb, .int)] sz)) (va_Qi (fun (r : Int32) (_ : Unit) => r = 0 ∨ r = 1) (fun _ t => ∃ (g : Nat → Int32), pu_E (dC, dI) [(au, .inr (0, [.int (nI nc), .int (nI np), .int (nI ne), .int st0, .ref q4, .ref q5, .ref q6, .ref q7, .ref q8, .ref q9, .ref q10, .ref q11, .ref q12, .ref q13, .ref q14, .ref q15, .ref q16])), (q5, .inl (k5, 14, .inl f5)), (q6, .inl (k6, 14, .inl f6)), (q7, .inl (k7, 14, .inl f7)), (q8, .inl (k8, 22, .inl f8)), (q9, .inl (k9, 88, .inl f9)), (q12, .inl (k12, 88, .inl f12)), (q13, .inl (k13, 88, .inl f13)), (py, .inr (3, [.int on0, .int si0, .int ti0, .ref tm, .ref bh])), (tm, .inl (kt, 3, .inl ft)), (bh, .inl (kb, 3, .inl g))] [(k5, .int), (k6, .int), (k7, .int), (k8, .int), (k9, .int), (k12, .int), (k13, .int), (kt, .int), (kb, .int)] (va_A ([(au, .inr (0, [.int (nI nc), .int (nI np), .int (nI ne), .int st0, .ref q4, .ref q5, .ref q6, .ref q7, .ref q8, .ref q9, .ref q10, .ref q11, .ref q12, .ref q13, .ref q14, .ref q15, .ref q16])), (q5, .inl (k5, 14, .inl f5)), (q6, .inl (k6, 14, .inl f6)), (q7, .inl (k7, 14, .inl f7)), (q8, .inl (k8, 22, .inl f8)), (q9, .inl (k9, 88, .inl f9)), (q12, .inl (k12, 88, .inl f12)), (q13, .inl (k13, 88, .inl f13)), (py, .inr (3, [.int on0, .int si0, .int ti0, .ref tm, .ref bh])), (tm, .inl (kt, 3, .inl ft)), (bh, .inl (kb, 3, .inl fb))]) sz) t) (va_A ([(au, .inr (0, [.int (nI nc), .int (nI np), .int (nI ne), .int st0, .ref q4, .ref q5, .ref q6, .ref q7, .ref q8, .ref q9, .ref q10, .ref q11, .ref q12, .ref q13, .ref q14, .ref q15, .ref q16])), (q5, .inl (k5, 14, .inl f5)), (q6, .inl (k6, 14, .inl f6)), (q7, .inl (k7, 14, .inl f7)), (q8, .inl (k8, 22, .inl f8)), (q9, .inl (k9, 88, .inl f9)), (q12, .inl (k12, 88, .inl f12)), (q13, .inl (k13, 88, .inl f13)), (py, .inr (3, [.int on0, .int si0, .int ti0, .ref tm, .ref bh])), (tm, .inl (kt, 3, .inl ft)), (bh, .inl (kb, 3, .inl fb))]) sz)) 0 0 (va_A ([(au, .inr (0, [.int (nI nc), .int (nI np), .int (nI ne), .int st0, .ref q4, .ref q5, .ref q6, .ref q7, .ref q8, .ref q9, .ref q10, .ref q11, .ref q12, .ref q13, .ref q14, .ref q15, .ref q16])), (q5, .inl (k5, 14, .inl f5)), (q6, .inl (k6, 14, .inl f6)), (q7, .inl (k7, 14, .inl f7)), (q8, .inl (k8, 22, .inl f8)), (q9, .inl (k9, 88, .inl f9)), (q12, .inl (k12, 88, .inl f12)), (q13, .inl (k13, 88, .inl f13)), (py, .inr (3, [.int on0, .int si0, .int ti0, .ref tm, .ref bh])), (tm, .inl (kt, 3, .inl ft)), (bh, .inl (kb, 3, .inl fb))]) sz) := by
  refine Met.ofW (cc := cX3_opens) (maxL := 4) (ret := (some .boolean)) (by decide) rfl ?_
  intro p e s m args below meth c s₁ B hml hv
  obtain ⟨rfl, rfl, hP, hK, hD0⟩ := hv
  have hx := B.exec
  have hb := B.bytes
  have hr := B.returns
  have hts := atoms_spec (ws := vs_X3_opens) B.pre
  have v_1 := hts (.fieldLink RX3 75 "ClockReach$Automaton" "sources" "[I") (List.mem_of_getElem? (i := 1) rfl)
  have v_2 := hts (.fieldLink RX3 31 "ClockReach$Play" "site" "I") (List.mem_of_getElem? (i := 2) rfl)
  have v_3 := hts (.fieldLink RX3 9 "ClockReach$Play" "times" "[I") (List.mem_of_getElem? (i := 3) rfl)
  have v_21 := hts (.fieldLink RX3 81 "ClockReach$Automaton" "targets" "[I") (List.mem_of_getElem? (i := 21) rfl)
  have v_25 := hts (.fieldLink RX3 15 "ClockReach$Play" "behind" "[I") (List.mem_of_getElem? (i := 25) rfl)
  have v_26 := hts (.fieldLink RX3 78 "ClockReach$Automaton" "resets" "[I") (List.mem_of_getElem? (i := 26) rfl)
  have hown : s.vm.findClass RX3 = some m.cls := findClass_of_methodNamed B.named
  have hlocks := B.notSynchronized
  have hiX0 : ∀ w ∈ wsX00, w ∈ vs_X3_opens := fun _ h => List.mem_cons_of_mem _ (List.mem_append_left _ (List.mem_append_right _ h))
  have hiX3 : ∀ w ∈ wsX30, w ∈ vs_X3_opens := fun _ h => List.mem_cons_of_mem _ (List.mem_append_right _ h)
  have hD := hD0.self (sz := s.heap.size)
  generalize hAe : va_A ([(au, .inr (0, [.int (nI nc), .int (nI np), .int (nI ne), .int st0, .ref q4, .ref q5, .ref q6, .ref q7, .ref q8, .ref q9, .ref q10, .ref q11, .ref q12, .ref q13, .ref q14, .ref q15, .ref q16])), (q5, .inl (k5, 14, .inl f5)), (q6, .inl (k6, 14, .inl f6)), (q7, .inl (k7, 14, .inl f7)), (q8, .inl (k8, 22, .inl f8)), (q9, .inl (k9, 88, .inl f9)), (q12, .inl (k12, 88, .inl f12)), (q13, .inl (k13, 88, .inl f13)), (py, .inr (3, [.int on0, .int si0, .int ti0, .ref tm, .ref bh])), (tm, .inl (kt, 3, .inl ft)), (bh, .inl (kb, 3, .inl fb))]) s.heap.size = A at hD ⊢
  have hA : ∀ q : Nat, s.heap.size ≤ q → A q := fun q h => by rw [← hAe]; exact Or.inr h
  have hS : va_S A s.heap s.heap [] := va_S.rf
  have hl := lv_entry ([.ref py, .ref au, .int (nI i)]) (n := 4) (Nat.le_of_ble_eq_true rfl)
  rw [lg_entry_eq]
  generalize (lg_sl ([.ref py, .ref au, .int (nI i)]) ++ List.replicate (4 - (lg_sl ([.ref py, .ref au, .int (nI i)])).length) Slot.unset).toArray = ls at hl ⊢
  have hl : lv_has ls 4 [(0, .ref py), (1, .ref au), (2, .int (nI i))] := hl
  refine lv_aload_n hx hb dX3_opens_0 rfl (lv_at hl 1 rfl) ?_
  refine va_get (D := (dC, dI)) (ci := 0) (v := .ref q5) (C := RX0) (T := TX0) (N := 17) hx hb hts hiX0 hown hK hP 0 rfl rfl 5 (by decide) v_1 (fun _ h9 => h9) rfl dX3_opens_1 ?_
  refine lv_iload_n hx hb dX3_opens_4 rfl (lv_at hl 2 rfl) ?_
  refine va_iald hx hb hK hP 1 0 rfl rfl (vp_in_nI (n := i) (by first | omega | exact ix_lt (by omega) (by omega) hn | exact ix_lt0 (by omega) hn | exact ix_ltq (by omega) hn | exact ix_lt1 (by omega) hn) (by omega)) dX3_opens_5 ?_
  refine lv_aload_n hx hb dX3_opens_6 rfl (lv_at hl 0 rfl) ?_
  refine va_get (D := (dC, dI)) (ci := 3) (v := .int si0) (C := RX3) (T := TX3) (N := 5) hx hb hts hiX3 hown hK hP 8 rfl rfl 1 (by decide) v_2 (fun _ h9 => h9) rfl dX3_opens_7 ?_
  refine lv_icmp_ne (tgt := 25) hx hb dX3_opens_10 (by decide) (fun c_1 => ?_) (fun c_1 => ?_)
  · refine lv_iconst (v := 0) hx hb dX3_opens_25 (by decide) ?_
    have hP9 := hP.sub (ws' := [(au, .inr (0, [.int (nI nc), .int (nI np), .int (nI ne), .int st0, .ref q4, .ref q5, .ref q6, .ref q7, .ref q8, .ref q9, .ref q10, .ref q11, .ref q12, .ref q13, .ref q14, .ref q15, .ref q16])), (q5, .inl (k5, 14, .inl f5)), (q6, .inl (k6, 14, .inl f6)), (q7, .inl (k7, 14, .inl f7)), (q8, .inl (k8, 22, .inl f8)), (q9, .inl (k9, 88, .inl f9)), (q12, .inl (k12, 88, .inl f12)), (q13, .inl (k13, 88, .inl f13)), (py, .inr (3, [.int on0, .int si0, .int ti0, .ref tm, .ref bh])), (tm, .inl (kt, 3, .inl ft)), (bh, .inl (kb, 3, .inl fb))]) [0, 1, 2, 3, 4, 5, 6, 7, 8, 9, 10] rfl
    have hD9 := hD.sub (ws' := [(au, .inr (0, [.int (nI nc), .int (nI np), .int (nI ne), .int st0, .ref q4, .ref q5, .ref q6, .ref q7, .ref q8, .ref q9, .ref q10, .ref q11, .ref q12, .ref q13, .ref q14, .ref q15, .ref q16])), (q5, .inl (k5, 14, .inl f5)), (q6, .inl (k6, 14, .inl f6)), (q7, .inl (k7, 14, .inl f7)), (q8, .inl (k8, 22, .inl f8)), (q9, .inl (k9, 88, .inl f9)), (q12, .inl (k12, 88, .inl f12)), (q13, .inl (k13, 88, .inl f13)), (py, .inr (3, [.int on0, .int si0, .int ti0, .ref tm, .ref bh])), (tm, .inl (kt, 3, .inl ft)), (bh, .inl (kb, 3, .inl fb))]) [0, 1, 2, 3, 4, 5, 6, 7, 8, 9, 10] (by decide) rfl
    have hK9 := hK.sub (tys' := [(k5, .int), (k6, .int), (k7, .int), (k8, .int), (k9, .int), (k12, .int), (k13, .int), (kt, .int), (kb, .int)]) [0, 1, 2, 3, 4, 5, 6, 7, 8] rfl
    exact W.zret (v := 0) (ty := .boolean) hx hb hr rfl (fun t ht hW => ⟨⟨0, (), rfl, by first | rfl | decide | simp_all, ⟨fb, by rw [ht]; exact hP9, va_K.moved hW.alike hK9, hD9⟩⟩, hS.F ht⟩) hS.2.2 dX3_opens_26
  · refine lv_aload_n hx hb dX3_opens_13 rfl (lv_at hl 1 rfl) ?_
    refine lv_iload_n hx hb dX3_opens_14 rfl (lv_at hl 2 rfl) ?_
    refine lv_aload_n hx hb dX3_opens_15 rfl (lv_at hl 0 rfl) ?_
    refine va_get (D := (dC, dI)) (ci := 3) (v := .ref tm) (C := RX3) (T := TX3) (N := 5) hx hb hts hiX3 hown hK hP 8 rfl rfl 3 (by decide) v_3 (fun _ h9 => h9) rfl dX3_opens_16 ?_
    refine va_calli (va_runV (As := [.int (nI i), .ref tm]) (rest := []) ⟨hx, hb, hml, hown, hts⟩ (c_X0_holdsAt l dC dI _ au q4 q5 q6 q7 q8 q9 q10 q11 q12 q13 q14 q15 q16 nc np ne st0 k8 k9 k12 k13 f8 f9 f12 f13 hc hnc tm kt ft i (by omega)) (cwV 2 hts g_X3_opens_X0_holdsAt rfl rfl rfl (by decide +kernel) ⟨Nat.le_of_ble_eq_true rfl, Nat.le_of_ble_eq_true rfl⟩) ⟨pu_bl, va_recv hK hP (ci := 0) (q0 := 0) rfl rfl, pu_in (hP.sub [0, 4, 5, 6, 7, 9] rfl) (hK.sub [3, 4, 5, 6, 7] rfl) (hD.sub [0, 4, 5, 6, 7, 9] (by decide) rfl)⟩ rfl rfl hl.1 rfl (lv_room (Nat.le_of_ble_eq_true rfl)) dX3_opens_19 ⟨Nat.le_of_ble_eq_true rfl, Nat.le_of_ble_eq_true rfl⟩) hS (fun q _ h => pu_fr hS hA q h) (pu_fr hS hA) (fun r_2 u t H1 locs ht hvm hw hB hz1 hk1 hS => ?_)
    have hP := pu_keep hP hk1
    clear hk1 hz1 ht hvm
    generalize H1 = H at hP hS ⊢
    rcases hw with rfl | rfl
    · refine lv_if_ne (tgt := 27) hx hb dX3_opens_22 (by decide) (fun z => absurd z (by decide)) (fun _ => ?_)
      refine lv_iconst (v := 0) hx hb dX3_opens_25 (by decide) ?_
      have hP9 := hP.sub (ws' := [(au, .inr (0, [.int (nI nc), .int (nI np), .int (nI ne), .int st0, .ref q4, .ref q5, .ref q6, .ref q7, .ref q8, .ref q9, .ref q10, .ref q11, .ref q12, .ref q13, .ref q14, .ref q15, .ref q16])), (q5, .inl (k5, 14, .inl f5)), (q6, .inl (k6, 14, .inl f6)), (q7, .inl (k7, 14, .inl f7)), (q8, .inl (k8, 22, .inl f8)), (q9, .inl (k9, 88, .inl f9)), (q12, .inl (k12, 88, .inl f12)), (q13, .inl (k13, 88, .inl f13)), (py, .inr (3, [.int on0, .int si0, .int ti0, .ref tm, .ref bh])), (tm, .inl (kt, 3, .inl ft)), (bh, .inl (kb, 3, .inl fb))]) [0, 1, 2, 3, 4, 5, 6, 7, 8, 9, 10] rfl
      have hD9 := hD.sub (ws' := [(au, .inr (0, [.int (nI nc), .int (nI np), .int (nI ne), .int st0, .ref q4, .ref q5, .ref q6, .ref q7, .ref q8, .ref q9, .ref q10, .ref q11, .ref q12, .ref q13, .ref q14, .ref q15, .ref q16])), (q5, .inl (k5, 14, .inl f5)), (q6, .inl (k6, 14, .inl f6)), (q7, .inl (k7, 14, .inl f7)), (q8, .inl (k8, 22, .inl f8)), (q9, .inl (k9, 88, .inl f9)), (q12, .inl (k12, 88, .inl f12)), (q13, .inl (k13, 88, .inl f13)), (py, .inr (3, [.int on0, .int si0, .int ti0, .ref tm, .ref bh])), (tm, .inl (kt, 3, .inl ft)), (bh, .inl (kb, 3, .inl fb))]) [0, 1, 2, 3, 4, 5, 6, 7, 8, 9, 10] (by decide) rfl
      have hK9 := hK.sub (tys' := [(k5, .int), (k6, .int), (k7, .int), (k8, .int), (k9, .int), (k12, .int), (k13, .int), (kt, .int), (kb, .int)]) [0, 1, 2, 3, 4, 5, 6, 7, 8] rfl
      exact W.zret (v := 0) (ty := .boolean) hx hb hr rfl (fun t ht hW => ⟨⟨0, (), rfl, by first | rfl | decide | simp_all, ⟨fb, by rw [ht]; exact hP9, va_K.moved hW.alike hK9, hD9⟩⟩, hS.F ht⟩) hS.2.2 dX3_opens_26
    · refine lv_if_ne (tgt := 27) hx hb dX3_opens_22 (by decide) (fun _ => ?_) (fun z => absurd z (by decide))
      refine lv_iconst (v := 0) hx hb dX3_opens_27 (by decide) ?_
      refine lv_istore_n (lv' := [(3, .int 0), (0, .ref py), (1, .ref au), (2, .int (nI i))]) hx hb dX3_opens_28 rfl hl (by decide) rfl (fun ls hl => ?_)
      refine pu_loop (3) (fun ii H locs ls => ∃ f0 : Nat → Int32, va_P (dC, dI) vwCl [(au, .inr (0, [.int (nI nc), .int (nI np), .int (nI ne), .int st0, .ref q4, .ref q5, .ref q6, .ref q7, .ref q8, .ref q9, .ref q10, .ref q11, .ref q12, .ref q13, .ref q14, .ref q15, .ref q16])), (q5, .inl (k5, 14, .inl f5)), (q6, .inl (k6, 14, .inl f6)), (q7, .inl (k7, 14, .inl f7)), (q8, .inl (k8, 22, .inl f8)), (q9, .inl (k9, 88, .inl f9)), (q12, .inl (k12, 88, .inl f12)), (q13, .inl (k13, 88, .inl f13)), (py, .inr (3, [.int on0, .int si0, .int ti0, .ref tm, .ref bh])), (tm, .inl (kt, 3, .inl ft)), (bh, .inl (kb, 3, .inl f0))] H ∧ va_D A [(au, .inr (0, [.int (nI nc), .int (nI np), .int (nI ne), .int st0, .ref q4, .ref q5, .ref q6, .ref q7, .ref q8, .ref q9, .ref q10, .ref q11, .ref q12, .ref q13, .ref q14, .ref q15, .ref q16])), (q5, .inl (k5, 14, .inl f5)), (q6, .inl (k6, 14, .inl f6)), (q7, .inl (k7, 14, .inl f7)), (q8, .inl (k8, 22, .inl f8)), (q9, .inl (k9, 88, .inl f9)), (q12, .inl (k12, 88, .inl f12)), (q13, .inl (k13, 88, .inl f13)), (py, .inr (3, [.int on0, .int si0, .int ti0, .ref tm, .ref bh])), (tm, .inl (kt, 3, .inl ft)), (bh, .inl (kb, 3, .inl f0))] ∧ va_S A s.heap H locs ∧ lv_has ls 4 [(0, .ref py), (1, .ref au), (2, .int (nI i)), (3, .int (nI ii))]) (fun _ => 0) (fun _ => 0) 29 [] ?_ ?_ _ _ _ ⟨_, hP, hD, hS, lv_sub hl [1, 2, 3, 0] rfl⟩
      · rintro H locs ls ⟨f_3, hP, hD, hS, hl⟩
        refine lv_iload_n hx hb dX3_opens_29 rfl (lv_at hl 3 rfl) ?_
        refine lv_iconst (v := 3) hx hb dX3_opens_30 (by decide) ?_
        refine lv_icmp_ge (tgt := 70) hx hb dX3_opens_31 (by decide) (fun _ => ?_) (fun z => absurd (nI_le (a := 3) (b := 3) (by omega) (by omega)) z)
        refine lv_aload_n hx hb dX3_opens_70 rfl (lv_at hl 1 rfl) ?_
        refine lv_aload_n hx hb dX3_opens_71 rfl (lv_at hl 1 rfl) ?_
        refine va_get (D := (dC, dI)) (ci := 0) (v := .ref q6) (C := RX0) (T := TX0) (N := 17) hx hb hts hiX0 hown hK hP 0 rfl rfl 6 (by decide) v_21 (fun _ h9 => h9) rfl dX3_opens_72 ?_
        refine lv_iload_n hx hb dX3_opens_75 rfl (lv_at hl 2 rfl) ?_
        refine va_iald hx hb hK hP 2 1 rfl rfl (vp_in_nI (n := i) (by first | omega | exact ix_lt (by omega) (by omega) hn | exact ix_lt0 (by omega) hn | exact ix_ltq (by omega) hn | exact ix_lt1 (by omega) hn) (by omega)) dX3_opens_76 ?_
        refine lv_topi (fun y_7 ey_7 => ?_)
        have ey_7 : y_7 = f6 i := ey_7.trans (congrArg f6 (nI_clamp (n := i) (by omega)))
        obtain ⟨eq_8, hq_9, ee_10⟩ := h6 i (by omega)
        obtain rfl : y_7 = nI eq_8 := ey_7.trans ee_10
        refine va_calli (va_runS (As := [.int (nI eq_8)]) (rest := [.ref au]) ⟨hx, hb, hml, hown, hts⟩ (c_X0_hostOfPlace l dC dI _ eq_8) (va_cwS 1 hts g_X3_opens_X0_hostOfPlace rfl rfl rfl (by decide +kernel) ⟨Nat.le_of_ble_eq_true rfl, Nat.le_of_ble_eq_true rfl⟩) ⟨pu_bl, pu_in (hP.sub [] rfl) (hK.sub [] rfl) (hD.sub [] (by decide) rfl)⟩ rfl rfl hl.1 rfl (lv_room (Nat.le_of_ble_eq_true rfl)) dX3_opens_77 ⟨Nat.le_of_ble_eq_true rfl, Nat.le_of_ble_eq_true rfl⟩) hS (fun q _ h => pu_fr hS hA q h) (pu_fr hS hA) (fun r_11 u t H1 locs ht hvm hw hB hz1 hk1 hS => ?_)
        have hP := pu_keep hP hk1
        clear hk1 hz1 ht hvm
        generalize H1 = H at hP hS ⊢
        obtain rfl : r_11 = (nI (14 + eq_8)) := hw
        refine lv_aload_n hx hb dX3_opens_80 rfl (lv_at hl 0 rfl) ?_
        refine va_get (D := (dC, dI)) (ci := 3) (v := .ref bh) (C := RX3) (T := TX3) (N := 5) hx hb hts hiX3 hown hK hP 8 rfl rfl 4 (by decide) v_25 (fun _ h9 => h9) rfl dX3_opens_81 ?_
        refine va_calli (va_runV (As := [.int (nI (14 + eq_8)), .ref bh]) (rest := []) ⟨hx, hb, hml, hown, hts⟩ (c_X0_holdsAt l dC dI _ au q4 q5 q6 q7 q8 q9 q10 q11 q12 q13 q14 q15 q16 nc np ne st0 k8 k9 k12 k13 f8 f9 f12 f13 hc hnc bh kb f_3 (14 + eq_8) (by omega)) (cwV 2 hts g_X3_opens_X0_holdsAt rfl rfl rfl (by decide +kernel) ⟨Nat.le_of_ble_eq_true rfl, Nat.le_of_ble_eq_true rfl⟩) ⟨pu_bl, va_recv hK hP (ci := 0) (q0 := 0) rfl rfl, pu_in (hP.sub [0, 4, 5, 6, 7, 10] rfl) (hK.sub [3, 4, 5, 6, 8] rfl) (hD.sub [0, 4, 5, 6, 7, 10] (by decide) rfl)⟩ rfl rfl hl.1 rfl (lv_room (Nat.le_of_ble_eq_true rfl)) dX3_opens_84 ⟨Nat.le_of_ble_eq_true rfl, Nat.le_of_ble_eq_true rfl⟩) hS (fun q _ h => pu_fr hS hA q h) (pu_fr hS hA) (fun r_12 u t H1 locs ht hvm hw hB hz1 hk1 hS => ?_)
        have hP := pu_keep hP hk1
        clear hk1 hz1 ht hvm
        generalize H1 = H at hP hS ⊢
        rcases hw with rfl | rfl
        · have hP9 := hP.sub (ws' := [(au, .inr (0, [.int (nI nc), .int (nI np), .int (nI ne), .int st0, .ref q4, .ref q5, .ref q6, .ref q7, .ref q8, .ref q9, .ref q10, .ref q11, .ref q12, .ref q13, .ref q14, .ref q15, .ref q16])), (q5, .inl (k5, 14, .inl f5)), (q6, .inl (k6, 14, .inl f6)), (q7, .inl (k7, 14, .inl f7)), (q8, .inl (k8, 22, .inl f8)), (q9, .inl (k9, 88, .inl f9)), (q12, .inl (k12, 88, .inl f12)), (q13, .inl (k13, 88, .inl f13)), (py, .inr (3, [.int on0, .int si0, .int ti0, .ref tm, .ref bh])), (tm, .inl (kt, 3, .inl ft)), (bh, .inl (kb, 3, .inl f_3))]) [0, 1, 2, 3, 4, 5, 6, 7, 8, 9, 10] rfl
          have hD9 := hD.sub (ws' := [(au, .inr (0, [.int (nI nc), .int (nI np), .int (nI ne), .int st0, .ref q4, .ref q5, .ref q6, .ref q7, .ref q8, .ref q9, .ref q10, .ref q11, .ref q12, .ref q13, .ref q14, .ref q15, .ref q16])), (q5, .inl (k5, 14, .inl f5)), (q6, .inl (k6, 14, .inl f6)), (q7, .inl (k7, 14, .inl f7)), (q8, .inl (k8, 22, .inl f8)), (q9, .inl (k9, 88, .inl f9)), (q12, .inl (k12, 88, .inl f12)), (q13, .inl (k13, 88, .inl f13)), (py, .inr (3, [.int on0, .int si0, .int ti0, .ref tm, .ref bh])), (tm, .inl (kt, 3, .inl ft)), (bh, .inl (kb, 3, .inl f_3))]) [0, 1, 2, 3, 4, 5, 6, 7, 8, 9, 10] (by decide) rfl
          have hK9 := hK.sub (tys' := [(k5, .int), (k6, .int), (k7, .int), (k8, .int), (k9, .int), (k12, .int), (k13, .int), (kt, .int), (kb, .int)]) [0, 1, 2, 3, 4, 5, 6, 7, 8] rfl
          exact W.zret (v := 0) (ty := .boolean) hx hb hr rfl (fun t ht hW => ⟨⟨0, (), rfl, by first | rfl | decide | simp_all, ⟨f_3, by rw [ht]; exact hP9, va_K.moved hW.alike hK9, hD9⟩⟩, hS.F ht⟩) hS.2.2 dX3_opens_87
        · have hP9 := hP.sub (ws' := [(au, .inr (0, [.int (nI nc), .int (nI np), .int (nI ne), .int st0, .ref q4, .ref q5, .ref q6, .ref q7, .ref q8, .ref q9, .ref q10, .ref q11, .ref q12, .ref q13, .ref q14, .ref q15, .ref q16])), (q5, .inl (k5, 14, .inl f5)), (q6, .inl (k6, 14, .inl f6)), (q7, .inl (k7, 14, .inl f7)), (q8, .inl (k8, 22, .inl f8)), (q9, .inl (k9, 88, .inl f9)), (q12, .inl (k12, 88, .inl f12)), (q13, .inl (k13, 88, .inl f13)), (py, .inr (3, [.int on0, .int si0, .int ti0, .ref tm, .ref bh])), (tm, .inl (kt, 3, .inl ft)), (bh, .inl (kb, 3, .inl f_3))]) [0, 1, 2, 3, 4, 5, 6, 7, 8, 9, 10] rfl
          have hD9 := hD.sub (ws' := [(au, .inr (0, [.int (nI nc), .int (nI np), .int (nI ne), .int st0, .ref q4, .ref q5, .ref q6, .ref q7, .ref q8, .ref q9, .ref q10, .ref q11, .ref q12, .ref q13, .ref q14, .ref q15, .ref q16])), (q5, .inl (k5, 14, .inl f5)), (q6, .inl (k6, 14, .inl f6)), (q7, .inl (k7, 14, .inl f7)), (q8, .inl (k8, 22, .inl f8)), (q9, .inl (k9, 88, .inl f9)), (q12, .inl (k12, 88, .inl f12)), (q13, .inl (k13, 88, .inl f13)), (py, .inr (3, [.int on0, .int si0, .int ti0, .ref tm, .ref bh])), (tm, .inl (kt, 3, .inl ft)), (bh, .inl (kb, 3, .inl f_3))]) [0, 1, 2, 3, 4, 5, 6, 7, 8, 9, 10] (by decide) rfl
          have hK9 := hK.sub (tys' := [(k5, .int), (k6, .int), (k7, .int), (k8, .int), (k9, .int), (k12, .int), (k13, .int), (kt, .int), (kb, .int)]) [0, 1, 2, 3, 4, 5, 6, 7, 8] rfl
          exact W.zret (v := 1) (ty := .boolean) hx hb hr rfl (fun t ht hW => ⟨⟨1, (), rfl, by first | rfl | decide | simp_all, ⟨f_3, by rw [ht]; exact hP9, va_K.moved hW.alike hK9, hD9⟩⟩, hS.F ht⟩) hS.2.2 dX3_opens_87
      · rintro i_4 h_5 ih_6 H locs ls ⟨f_3, hP, hD, hS, hl⟩
        refine lv_iload_n hx hb dX3_opens_29 rfl (lv_at hl 3 rfl) ?_
        refine lv_iconst (v := 3) hx hb dX3_opens_30 (by decide) ?_
        refine lv_icmp_ge (tgt := 70) hx hb dX3_opens_31 (by decide) (fun z => absurd z (nI_ge (a := i_4) (b := 3) (by omega) (by omega))) (fun _ => ?_)
        refine lv_aload_n hx hb dX3_opens_34 rfl (lv_at hl 0 rfl) ?_
        refine va_get (D := (dC, dI)) (ci := 3) (v := .ref bh) (C := RX3) (T := TX3) (N := 5) hx hb hts hiX3 hown hK hP 8 rfl rfl 4 (by decide) v_25 (fun _ h9 => h9) rfl dX3_opens_35 ?_
        refine lv_iload_n hx hb dX3_opens_38 rfl (lv_at hl 3 rfl) ?_
        refine lv_aload_n hx hb dX3_opens_39 rfl (lv_at hl 1 rfl) ?_
        refine va_get (D := (dC, dI)) (ci := 0) (v := .ref q7) (C := RX0) (T := TX0) (N := 17) hx hb hts hiX0 hown hK hP 0 rfl rfl 7 (by decide) v_26 (fun _ h9 => h9) rfl dX3_opens_40 ?_
        refine lv_iload_n hx hb dX3_opens_43 rfl (lv_at hl 2 rfl) ?_
        refine va_iald hx hb hK hP 3 2 rfl rfl (vp_in_nI (n := i) (by first | omega | exact ix_lt (by omega) (by omega) hn | exact ix_lt0 (by omega) hn | exact ix_ltq (by omega) hn | exact ix_lt1 (by omega) hn) (by omega)) dX3_opens_44 ?_
        refine lv_iload_n hx hb dX3_opens_45 rfl (lv_at hl 3 rfl) ?_
        refine lv_ishr hx hb dX3_opens_46 ?_
        refine lv_iconst (v := 1) hx hb dX3_opens_47 (by decide) ?_
        refine lv_iand hx hb dX3_opens_48 ?_
        refine lv_iconst (v := 1) hx hb dX3_opens_49 (by decide) ?_
        refine lv_icmp_ne (tgt := 57) hx hb dX3_opens_50 (by decide) (fun c_13 => ?_) (fun c_13 => ?_)
        · refine lv_aload_n hx hb dX3_opens_57 rfl (lv_at hl 0 rfl) ?_
          refine va_get (D := (dC, dI)) (ci := 3) (v := .ref tm) (C := RX3) (T := TX3) (N := 5) hx hb hts hiX3 hown hK hP 8 rfl rfl 3 (by decide) v_3 (fun _ h9 => h9) rfl dX3_opens_58 ?_
          refine lv_iload_n hx hb dX3_opens_61 rfl (lv_at hl 3 rfl) ?_
          refine va_iald hx hb hK hP 9 7 rfl rfl (vp_in_nI (n := i_4) (by first | omega | exact ix_lt (by omega) (by omega) hn | exact ix_lt0 (by omega) hn | exact ix_ltq (by omega) hn | exact ix_lt1 (by omega) hn) (by omega)) dX3_opens_62 ?_
          refine va_iast hx hb hK hP hD hS 10 8 rfl rfl (vp_in_nI (n := i_4) (by first | omega | exact ix_lt (by omega) (by omega) hn | exact ix_lt0 (by omega) hn | exact ix_ltq (by omega) hn | exact ix_lt1 (by omega) hn) (by omega)) dX3_opens_63 (fun H locs hP hD hS => ?_)
          have hP : va_P (dC, dI) vwCl [(au, .inr (0, [.int (nI nc), .int (nI np), .int (nI ne), .int st0, .ref q4, .ref q5, .ref q6, .ref q7, .ref q8, .ref q9, .ref q10, .ref q11, .ref q12, .ref q13, .ref q14, .ref q15, .ref q16])), (q5, .inl (k5, 14, .inl f5)), (q6, .inl (k6, 14, .inl f6)), (q7, .inl (k7, 14, .inl f7)), (q8, .inl (k8, 22, .inl f8)), (q9, .inl (k9, 88, .inl f9)), (q12, .inl (k12, 88, .inl f12)), (q13, .inl (k13, 88, .inl f13)), (py, .inr (3, [.int on0, .int si0, .int ti0, .ref tm, .ref bh])), (tm, .inl (kt, 3, .inl ft)), (bh, .inl (kb, 3, .inl (upd f_3 ((nI i_4) : Int32).toNatClampNeg (ft ((nI i_4)).toNatClampNeg))))] H := hP
          have hD : va_D A [(au, .inr (0, [.int (nI nc), .int (nI np), .int (nI ne), .int st0, .ref q4, .ref q5, .ref q6, .ref q7, .ref q8, .ref q9, .ref q10, .ref q11, .ref q12, .ref q13, .ref q14, .ref q15, .ref q16])), (q5, .inl (k5, 14, .inl f5)), (q6, .inl (k6, 14, .inl f6)), (q7, .inl (k7, 14, .inl f7)), (q8, .inl (k8, 22, .inl f8)), (q9, .inl (k9, 88, .inl f9)), (q12, .inl (k12, 88, .inl f12)), (q13, .inl (k13, 88, .inl f13)), (py, .inr (3, [.int on0, .int si0, .int ti0, .ref tm, .ref bh])), (tm, .inl (kt, 3, .inl ft)), (bh, .inl (kb, 3, .inl (upd f_3 ((nI i_4) : Int32).toNatClampNeg (ft ((nI i_4)).toNatClampNeg))))] := hD
          refine lv_iinc (v := (nI (i_4 + 1))) (lv' := [(3, .int (nI (i_4 + 1))), (0, .ref py), (1, .ref au), (2, .int (nI i))]) hx hb dX3_opens_64 hl (k := 3) rfl (nI_1 _) (by decide) rfl (fun ls hl => ?_)
          refine lv_goto (tgt := 29) hx hb dX3_opens_67 (by decide) ?_
          exact ih_6 _ _ _ ⟨_, hP, hD, hS, lv_sub hl [1, 2, 3, 0] rfl⟩
        · refine lv_iconst (v := 0) hx hb dX3_opens_53 (by decide) ?_
          refine lv_goto (tgt := 63) hx hb dX3_opens_54 (by decide) ?_
          refine va_iast hx hb hK hP hD hS 10 8 rfl rfl (vp_in_nI (n := i_4) (by first | omega | exact ix_lt (by omega) (by omega) hn | exact ix_lt0 (by omega) hn | exact ix_ltq (by omega) hn | exact ix_lt1 (by omega) hn) (by omega)) dX3_opens_63 (fun H locs hP hD hS => ?_)
          have hP : va_P (dC, dI) vwCl [(au, .inr (0, [.int (nI nc), .int (nI np), .int (nI ne), .int st0, .ref q4, .ref q5, .ref q6, .ref q7, .ref q8, .ref q9, .ref q10, .ref q11, .ref q12, .ref q13, .ref q14, .ref q15, .ref q16])), (q5, .inl (k5, 14, .inl f5)), (q6, .inl (k6, 14, .inl f6)), (q7, .inl (k7, 14, .inl f7)), (q8, .inl (k8, 22, .inl f8)), (q9, .inl (k9, 88, .inl f9)), (q12, .inl (k12, 88, .inl f12)), (q13, .inl (k13, 88, .inl f13)), (py, .inr (3, [.int on0, .int si0, .int ti0, .ref tm, .ref bh])), (tm, .inl (kt, 3, .inl ft)), (bh, .inl (kb, 3, .inl (upd f_3 ((nI i_4) : Int32).toNatClampNeg 0)))] H := hP
          have hD : va_D A [(au, .inr (0, [.int (nI nc), .int (nI np), .int (nI ne), .int st0, .ref q4, .ref q5, .ref q6, .ref q7, .ref q8, .ref q9, .ref q10, .ref q11, .ref q12, .ref q13, .ref q14, .ref q15, .ref q16])), (q5, .inl (k5, 14, .inl f5)), (q6, .inl (k6, 14, .inl f6)), (q7, .inl (k7, 14, .inl f7)), (q8, .inl (k8, 22, .inl f8)), (q9, .inl (k9, 88, .inl f9)), (q12, .inl (k12, 88, .inl f12)), (q13, .inl (k13, 88, .inl f13)), (py, .inr (3, [.int on0, .int si0, .int ti0, .ref tm, .ref bh])), (tm, .inl (kt, 3, .inl ft)), (bh, .inl (kb, 3, .inl (upd f_3 ((nI i_4) : Int32).toNatClampNeg 0)))] := hD
          refine lv_iinc (v := (nI (i_4 + 1))) (lv' := [(3, .int (nI (i_4 + 1))), (0, .ref py), (1, .ref au), (2, .int (nI i))]) hx hb dX3_opens_64 hl (k := 3) rfl (nI_1 _) (by decide) rfl (fun ls hl => ?_)
          refine lv_goto (tgt := 29) hx hb dX3_opens_67 (by decide) ?_
          exact ih_6 _ _ _ ⟨_, hP, hD, hS, lv_sub hl [1, 2, 3, 0] rfl⟩
theorem dX3_cross_0 : decode cX3_cross 0 = .ok (.iconst 0, 1) := by decide +kernel
theorem dX3_cross_1 : decode cX3_cross 1 = .ok (.istore_n 3, 1) := by decide +kernel
theorem dX3_cross_2 : decode cX3_cross 2 = .ok (.iload_n 3, 1) := by decide +kernel
theorem dX3_cross_3 : decode cX3_cross 3 = .ok (.iconst 3, 1) := by decide +kernel
theorem dX3_cross_4 : decode cX3_cross 4 = .ok (.if_icmp .ge 30, 3) := by decide +kernel
theorem dX3_cross_7 : decode cX3_cross 7 = .ok (.aload_n 1, 1) := by decide +kernel
theorem dX3_cross_8 : decode cX3_cross 8 = .ok (.getfield 78, 3) := by decide +kernel
theorem dX3_cross_11 : decode cX3_cross 11 = .ok (.iload_n 2, 1) := by decide +kernel
theorem dX3_cross_12 : decode cX3_cross 12 = .ok (.iaload, 1) := by decide +kernel
theorem dX3_cross_13 : decode cX3_cross 13 = .ok (.iload_n 3, 1) := by decide +kernel
theorem dX3_cross_14 : decode cX3_cross 14 = .ok (.ishr, 1) := by decide +kernel
theorem dX3_cross_15 : decode cX3_cross 15 = .ok (.iconst 1, 1) := by decide +kernel
theorem dX3_cross_16 : decode cX3_cross 16 = .ok (.iand, 1) := by decide +kernel
theorem dX3_cross_17 : decode cX3_cross 17 = .ok (.iconst 1, 1) := by decide +kernel
theorem dX3_cross_18 : decode cX3_cross 18 = .ok (.if_icmp .ne 10, 3) := by decide +kernel
theorem dX3_cross_21 : decode cX3_cross 21 = .ok (.aload_n 0, 1) := by decide +kernel
theorem dX3_cross_22 : decode cX3_cross 22 = .ok (.getfield 9, 3) := by decide +kernel
theorem dX3_cross_25 : decode cX3_cross 25 = .ok (.iload_n 3, 1) := by decide +kernel
theorem dX3_cross_26 : decode cX3_cross 26 = .ok (.iconst 0, 1) := by decide +kernel
theorem dX3_cross_27 : decode cX3_cross 27 = .ok (.iastore, 1) := by decide +kernel
theorem dX3_cross_28 : decode cX3_cross 28 = .ok (.iinc 3 1, 3) := by decide +kernel
theorem dX3_cross_31 : decode cX3_cross 31 = .ok (.goto (-29), 3) := by decide +kernel
theorem dX3_cross_34 : decode cX3_cross 34 = .ok (.aload_n 0, 1) := by decide +kernel
theorem dX3_cross_35 : decode cX3_cross 35 = .ok (.aload_n 1, 1) := by decide +kernel
theorem dX3_cross_36 : decode cX3_cross 36 = .ok (.getfield 81, 3) := by decide +kernel
theorem dX3_cross_39 : decode cX3_cross 39 = .ok (.iload_n 2, 1) := by decide +kernel
theorem dX3_cross_40 : decode cX3_cross 40 = .ok (.iaload, 1) := by decide +kernel
theorem dX3_cross_41 : decode cX3_cross 41 = .ok (.putfield 31, 3) := by decide +kernel
theorem dX3_cross_44 : decode cX3_cross 44 = .ok (.return_, 1) := by decide +kernel
def vs_X3_cross : List Cond := .code yX3_cross cX3_cross 4 none :: ([.fieldLink RX3 81 "ClockReach$Automaton" "targets" "[I", .fieldLink RX3 31 "ClockReach$Play" "site" "I", .fieldLink RX3 78 "ClockReach$Automaton" "resets" "[I", .fieldLink RX3 9 "ClockReach$Play" "times" "[I"] ++ wsX00 ++ wsX30)
set_option maxHeartbeats 4000000 in
set_option maxRecDepth 100000 in
theorem c_X3_cross (l : Launch) (dC : Nat → ClassId) (dI : Nat → Nat → Nat) (sz : Nat) (au q4 q5 q6 q7 q8 q9 q10 q11 q12 q13 q14 q15 q16 : Nat) (nc np ne : Nat) (st0 : Int32) (k6 k7 : ClassId) (f6 f7 : Nat → Int32) (py tm bh : Nat) (kt kb : ClassId) (on0 si0 ti0 : Int32) (ft fb : Nat → Int32) (hp : np ≤ 8) (he : ne ≤ 14) (h6 : ao_e np ne f6) (i : Nat) (hi : i < ne) : Met l yX3_cross vs_X3_cross ({ frames := 0, cells := 0, slots := 0, locals := 0 }) (va_Pc [.ref py, .ref au, .int (nI i)] (pu_B (dC, dI) [(au, .inr (0, [.int (nI nc), .int (nI np), .int (nI ne), .int st0, .ref q4, .ref q5, .ref q6, .ref q7, .ref q8, .ref q9, .ref q10, .ref q11, .ref q12, .ref q13, .ref q14, .ref q15, .ref q16])), (q6, .inl (k6, 14, .inl f6)), (q7, .inl (k7, 14, .inl f7)), (py, .inr (3, [.int on0, .int si0, .int ti0, .ref tm, .ref bh])), (tm, .inl (kt, 3, .inl ft)), (bh, .inl (kb, 3, .inl fb))] [(k6, .int), (k7, .int), (kt, .int), (kb, .int)] sz)) (va_Qv (fun (_ : Unit) => True) (fun _ t => ∃ (sq : Nat) (g : Nat → Int32), pu_E (dC, dI) [(au, .inr (0, [.int (nI nc), .int (nI np), .int (nI ne), .int st0, .ref q4, .ref q5, .ref q6, .ref q7, .ref q8, .ref q9, .ref q10, .ref q11, .ref q12, .ref q13, .ref q14, .ref q15, .ref q16])), (q6, .inl (k6, 14, .inl f6)), (q7, .inl (k7, 14, .inl f7)), (py, .inr (3, [.int on0, .int (nI sq), .int ti0, .ref tm, .ref bh])), (tm, .inl (kt, 3, .inl g)), (bh, .inl (kb, 3, .inl fb))] [(k6, .int), (k7, .int), (kt, .int), (kb, .int)] (va_A ([(au, .inr (0, [.int (nI nc), .int (nI np), .int (nI ne), .int st0, .ref q4, .ref q5, .ref q6, .ref q7, .ref q8, .ref q9, .ref q10, .ref q11, .ref q12, .ref q13, .ref q14, .ref q15, .ref q16])), (q6, .inl (k6, 14, .inl f6)), (q7, .inl (k7, 14, .inl f7)), (py, .inr (3, [.int on0, .int si0, .int ti0, .ref tm, .ref bh])), (tm, .inl (kt, 3, .inl ft)), (bh, .inl (kb, 3, .inl fb))]) sz) t ∧ sq < np) (va_A ([(au, .inr (0, [.int (nI nc), .int (nI np), .int (nI ne), .int st0, .ref q4, .ref q5, .ref q6, .ref q7, .ref q8, .ref q9, .ref q10, .ref q11, .ref q12, .ref q13, .ref q14, .ref q15, .ref q16])), (q6, .inl (k6, 14, .inl f6)), (q7, .inl (k7, 14, .inl f7)), (py, .inr (3, [.int on0, .int si0, .int ti0, .ref tm, .ref bh])), (tm, .inl (kt, 3, .inl ft)), (bh, .inl (kb, 3, .inl fb))]) sz)) 0 0 (va_A ([(au, .inr (0, [.int (nI nc), .int (nI np), .int (nI ne), .int st0, .ref q4, .ref q5, .ref q6, .ref q7, .ref q8, .ref q9, .ref q10, .ref q11, .ref q12, .ref q13, .ref q14, .ref q15, .ref q16])), (q6, .inl (k6, 14, .inl f6)), (q7, .inl (k7, 14, .inl f7)), (py, .inr (3, [.int on0, .int si0, .int ti0, .ref tm, .ref bh])), (tm, .inl (kt, 3, .inl ft)), (bh, .inl (kb, 3, .inl fb))]) sz) := by
  refine Met.ofW (cc := cX3_cross) (maxL := 4) (ret := none) (by decide) rfl ?_
  intro p e s m args below meth c s₁ B hml hv
  obtain ⟨rfl, rfl, hP, hK, hD0⟩ := hv
  have hx := B.exec
  have hb := B.bytes
  have hr := B.returns
  have hts := atoms_spec (ws := vs_X3_cross) B.pre
  have v_1 := hts (.fieldLink RX3 81 "ClockReach$Automaton" "targets" "[I") (List.mem_of_getElem? (i := 1) rfl)
  have v_2 := hts (.fieldLink RX3 31 "ClockReach$Play" "site" "I") (List.mem_of_getElem? (i := 2) rfl)
  have v_3 := hts (.fieldLink RX3 78 "ClockReach$Automaton" "resets" "[I") (List.mem_of_getElem? (i := 3) rfl)
  have v_4 := hts (.fieldLink RX3 9 "ClockReach$Play" "times" "[I") (List.mem_of_getElem? (i := 4) rfl)
  have hown : s.vm.findClass RX3 = some m.cls := findClass_of_methodNamed B.named
  have hlocks := B.notSynchronized
  have hiX0 : ∀ w ∈ wsX00, w ∈ vs_X3_cross := fun _ h => List.mem_cons_of_mem _ (List.mem_append_left _ (List.mem_append_right _ h))
  have hiX3 : ∀ w ∈ wsX30, w ∈ vs_X3_cross := fun _ h => List.mem_cons_of_mem _ (List.mem_append_right _ h)
  have hD := hD0.self (sz := s.heap.size)
  generalize hAe : va_A ([(au, .inr (0, [.int (nI nc), .int (nI np), .int (nI ne), .int st0, .ref q4, .ref q5, .ref q6, .ref q7, .ref q8, .ref q9, .ref q10, .ref q11, .ref q12, .ref q13, .ref q14, .ref q15, .ref q16])), (q6, .inl (k6, 14, .inl f6)), (q7, .inl (k7, 14, .inl f7)), (py, .inr (3, [.int on0, .int si0, .int ti0, .ref tm, .ref bh])), (tm, .inl (kt, 3, .inl ft)), (bh, .inl (kb, 3, .inl fb))]) s.heap.size = A at hD ⊢
  have hA : ∀ q : Nat, s.heap.size ≤ q → A q := fun q h => by rw [← hAe]; exact Or.inr h
  have hS : va_S A s.heap s.heap [] := va_S.rf
  have hl := lv_entry ([.ref py, .ref au, .int (nI i)]) (n := 4) (Nat.le_of_ble_eq_true rfl)
  rw [lg_entry_eq]
  generalize (lg_sl ([.ref py, .ref au, .int (nI i)]) ++ List.replicate (4 - (lg_sl ([.ref py, .ref au, .int (nI i)])).length) Slot.unset).toArray = ls at hl ⊢
  have hl : lv_has ls 4 [(0, .ref py), (1, .ref au), (2, .int (nI i))] := hl
  refine lv_iconst (v := 0) hx hb dX3_cross_0 (by decide) ?_
  refine lv_istore_n (lv' := [(3, .int 0), (0, .ref py), (1, .ref au), (2, .int (nI i))]) hx hb dX3_cross_1 rfl hl (by decide) rfl (fun ls hl => ?_)
  refine pu_loop (3) (fun ii H locs ls => ∃ f0 : Nat → Int32, va_P (dC, dI) vwCl [(au, .inr (0, [.int (nI nc), .int (nI np), .int (nI ne), .int st0, .ref q4, .ref q5, .ref q6, .ref q7, .ref q8, .ref q9, .ref q10, .ref q11, .ref q12, .ref q13, .ref q14, .ref q15, .ref q16])), (q6, .inl (k6, 14, .inl f6)), (q7, .inl (k7, 14, .inl f7)), (py, .inr (3, [.int on0, .int si0, .int ti0, .ref tm, .ref bh])), (tm, .inl (kt, 3, .inl f0)), (bh, .inl (kb, 3, .inl fb))] H ∧ va_D A [(au, .inr (0, [.int (nI nc), .int (nI np), .int (nI ne), .int st0, .ref q4, .ref q5, .ref q6, .ref q7, .ref q8, .ref q9, .ref q10, .ref q11, .ref q12, .ref q13, .ref q14, .ref q15, .ref q16])), (q6, .inl (k6, 14, .inl f6)), (q7, .inl (k7, 14, .inl f7)), (py, .inr (3, [.int on0, .int si0, .int ti0, .ref tm, .ref bh])), (tm, .inl (kt, 3, .inl f0)), (bh, .inl (kb, 3, .inl fb))] ∧ va_S A s.heap H locs ∧ lv_has ls 4 [(0, .ref py), (1, .ref au), (2, .int (nI i)), (3, .int (nI ii))]) (fun _ => 0) (fun _ => 0) 2 [] ?_ ?_ _ _ _ ⟨_, hP, hD, hS, lv_sub hl [1, 2, 3, 0] rfl⟩
  · rintro H locs ls ⟨f_1, hP, hD, hS, hl⟩
    refine lv_iload_n hx hb dX3_cross_2 rfl (lv_at hl 3 rfl) ?_
    refine lv_iconst (v := 3) hx hb dX3_cross_3 (by decide) ?_
    refine lv_icmp_ge (tgt := 34) hx hb dX3_cross_4 (by decide) (fun _ => ?_) (fun z => absurd (nI_le (a := 3) (b := 3) (by omega) (by omega)) z)
    refine lv_aload_n hx hb dX3_cross_34 rfl (lv_at hl 0 rfl) ?_
    refine lv_aload_n hx hb dX3_cross_35 rfl (lv_at hl 1 rfl) ?_
    refine va_get (D := (dC, dI)) (ci := 0) (v := .ref q6) (C := RX0) (T := TX0) (N := 17) hx hb hts hiX0 hown hK hP 0 rfl rfl 6 (by decide) v_1 (fun _ h9 => h9) rfl dX3_cross_36 ?_
    refine lv_iload_n hx hb dX3_cross_39 rfl (lv_at hl 2 rfl) ?_
    refine va_iald hx hb hK hP 1 0 rfl rfl (vp_in_nI (n := i) (by first | omega | exact ix_lt (by omega) (by omega) hn | exact ix_lt0 (by omega) hn | exact ix_ltq (by omega) hn | exact ix_lt1 (by omega) hn) (by omega)) dX3_cross_40 ?_
    refine lv_topi (fun y_5 ey_5 => ?_)
    have ey_5 : y_5 = f6 i := ey_5.trans (congrArg f6 (nI_clamp (n := i) (by omega)))
    obtain ⟨eq_6, hq_7, ee_8⟩ := h6 i (by omega)
    obtain rfl : y_5 = nI eq_6 := ey_5.trans ee_8
    refine va_put (D := (dC, dI)) (ci := 3) (v := .int (nI eq_6)) (ty := .int) (C := RX3) (T := TX3) (N := 5) hx hb hts hiX3 tyX3 tyX3_ok nmX3 hown hK hP hD hS 3 rfl rfl 1 (by decide) v_2 (fun _ h9 => h9) rfl (by decide +kernel) rfl rfl (Nat.le_of_ble_eq_true rfl) dX3_cross_41 (fun H locs hP hD hS => ?_)
    have hP : va_P (dC, dI) vwCl [(au, .inr (0, [.int (nI nc), .int (nI np), .int (nI ne), .int st0, .ref q4, .ref q5, .ref q6, .ref q7, .ref q8, .ref q9, .ref q10, .ref q11, .ref q12, .ref q13, .ref q14, .ref q15, .ref q16])), (q6, .inl (k6, 14, .inl f6)), (q7, .inl (k7, 14, .inl f7)), (py, .inr (3, [.int on0, .int (nI eq_6), .int ti0, .ref tm, .ref bh])), (tm, .inl (kt, 3, .inl f_1)), (bh, .inl (kb, 3, .inl fb))] H := hP
    have hD : va_D A [(au, .inr (0, [.int (nI nc), .int (nI np), .int (nI ne), .int st0, .ref q4, .ref q5, .ref q6, .ref q7, .ref q8, .ref q9, .ref q10, .ref q11, .ref q12, .ref q13, .ref q14, .ref q15, .ref q16])), (q6, .inl (k6, 14, .inl f6)), (q7, .inl (k7, 14, .inl f7)), (py, .inr (3, [.int on0, .int (nI eq_6), .int ti0, .ref tm, .ref bh])), (tm, .inl (kt, 3, .inl f_1)), (bh, .inl (kb, 3, .inl fb))] := hD
    have hP9 := hP.sub (ws' := [(au, .inr (0, [.int (nI nc), .int (nI np), .int (nI ne), .int st0, .ref q4, .ref q5, .ref q6, .ref q7, .ref q8, .ref q9, .ref q10, .ref q11, .ref q12, .ref q13, .ref q14, .ref q15, .ref q16])), (q6, .inl (k6, 14, .inl f6)), (q7, .inl (k7, 14, .inl f7)), (py, .inr (3, [.int on0, .int (nI eq_6), .int ti0, .ref tm, .ref bh])), (tm, .inl (kt, 3, .inl f_1)), (bh, .inl (kb, 3, .inl fb))]) [0, 1, 2, 3, 4, 5] rfl
    have hD9 := hD.sub (ws' := [(au, .inr (0, [.int (nI nc), .int (nI np), .int (nI ne), .int st0, .ref q4, .ref q5, .ref q6, .ref q7, .ref q8, .ref q9, .ref q10, .ref q11, .ref q12, .ref q13, .ref q14, .ref q15, .ref q16])), (q6, .inl (k6, 14, .inl f6)), (q7, .inl (k7, 14, .inl f7)), (py, .inr (3, [.int on0, .int (nI eq_6), .int ti0, .ref tm, .ref bh])), (tm, .inl (kt, 3, .inl f_1)), (bh, .inl (kb, 3, .inl fb))]) [0, 1, 2, 3, 4, 5] (by decide) rfl
    have hK9 := hK.sub (tys' := [(k6, .int), (k7, .int), (kt, .int), (kb, .int)]) [0, 1, 2, 3] rfl
    exact W.vret hx hb hr (fun t ht hW => ⟨⟨(), rfl, trivial, ⟨eq_6, f_1, ⟨by rw [ht]; exact hP9, va_K.moved hW.alike hK9, hD9⟩, (by omega)⟩⟩, hS.F ht⟩) hS.2.2 dX3_cross_44
  · rintro i_2 h_3 ih_4 H locs ls ⟨f_1, hP, hD, hS, hl⟩
    refine lv_iload_n hx hb dX3_cross_2 rfl (lv_at hl 3 rfl) ?_
    refine lv_iconst (v := 3) hx hb dX3_cross_3 (by decide) ?_
    refine lv_icmp_ge (tgt := 34) hx hb dX3_cross_4 (by decide) (fun z => absurd z (nI_ge (a := i_2) (b := 3) (by omega) (by omega))) (fun _ => ?_)
    refine lv_aload_n hx hb dX3_cross_7 rfl (lv_at hl 1 rfl) ?_
    refine va_get (D := (dC, dI)) (ci := 0) (v := .ref q7) (C := RX0) (T := TX0) (N := 17) hx hb hts hiX0 hown hK hP 0 rfl rfl 7 (by decide) v_3 (fun _ h9 => h9) rfl dX3_cross_8 ?_
    refine lv_iload_n hx hb dX3_cross_11 rfl (lv_at hl 2 rfl) ?_
    refine va_iald hx hb hK hP 2 1 rfl rfl (vp_in_nI (n := i) (by first | omega | exact ix_lt (by omega) (by omega) hn | exact ix_lt0 (by omega) hn | exact ix_ltq (by omega) hn | exact ix_lt1 (by omega) hn) (by omega)) dX3_cross_12 ?_
    refine lv_iload_n hx hb dX3_cross_13 rfl (lv_at hl 3 rfl) ?_
    refine lv_ishr hx hb dX3_cross_14 ?_
    refine lv_iconst (v := 1) hx hb dX3_cross_15 (by decide) ?_
    refine lv_iand hx hb dX3_cross_16 ?_
    refine lv_iconst (v := 1) hx hb dX3_cross_17 (by decide) ?_
    refine lv_icmp_ne (tgt := 28) hx hb dX3_cross_18 (by decide) (fun c_9 => ?_) (fun c_9 => ?_)
    · refine lv_iinc (v := (nI (i_2 + 1))) (lv' := [(3, .int (nI (i_2 + 1))), (0, .ref py), (1, .ref au), (2, .int (nI i))]) hx hb dX3_cross_28 hl (k := 3) rfl (nI_1 _) (by decide) rfl (fun ls hl => ?_)
      refine lv_goto (tgt := 2) hx hb dX3_cross_31 (by decide) ?_
      exact ih_4 _ _ _ ⟨_, hP, hD, hS, lv_sub hl [1, 2, 3, 0] rfl⟩
    · refine lv_aload_n hx hb dX3_cross_21 rfl (lv_at hl 0 rfl) ?_
      refine va_get (D := (dC, dI)) (ci := 3) (v := .ref tm) (C := RX3) (T := TX3) (N := 5) hx hb hts hiX3 hown hK hP 3 rfl rfl 3 (by decide) v_4 (fun _ h9 => h9) rfl dX3_cross_22 ?_
      refine lv_iload_n hx hb dX3_cross_25 rfl (lv_at hl 3 rfl) ?_
      refine lv_iconst (v := 0) hx hb dX3_cross_26 (by decide) ?_
      refine va_iast hx hb hK hP hD hS 4 2 rfl rfl (vp_in_nI (n := i_2) (by first | omega | exact ix_lt (by omega) (by omega) hn | exact ix_lt0 (by omega) hn | exact ix_ltq (by omega) hn | exact ix_lt1 (by omega) hn) (by omega)) dX3_cross_27 (fun H locs hP hD hS => ?_)
      have hP : va_P (dC, dI) vwCl [(au, .inr (0, [.int (nI nc), .int (nI np), .int (nI ne), .int st0, .ref q4, .ref q5, .ref q6, .ref q7, .ref q8, .ref q9, .ref q10, .ref q11, .ref q12, .ref q13, .ref q14, .ref q15, .ref q16])), (q6, .inl (k6, 14, .inl f6)), (q7, .inl (k7, 14, .inl f7)), (py, .inr (3, [.int on0, .int si0, .int ti0, .ref tm, .ref bh])), (tm, .inl (kt, 3, .inl (upd f_1 ((nI i_2) : Int32).toNatClampNeg 0))), (bh, .inl (kb, 3, .inl fb))] H := hP
      have hD : va_D A [(au, .inr (0, [.int (nI nc), .int (nI np), .int (nI ne), .int st0, .ref q4, .ref q5, .ref q6, .ref q7, .ref q8, .ref q9, .ref q10, .ref q11, .ref q12, .ref q13, .ref q14, .ref q15, .ref q16])), (q6, .inl (k6, 14, .inl f6)), (q7, .inl (k7, 14, .inl f7)), (py, .inr (3, [.int on0, .int si0, .int ti0, .ref tm, .ref bh])), (tm, .inl (kt, 3, .inl (upd f_1 ((nI i_2) : Int32).toNatClampNeg 0))), (bh, .inl (kb, 3, .inl fb))] := hD
      refine lv_iinc (v := (nI (i_2 + 1))) (lv' := [(3, .int (nI (i_2 + 1))), (0, .ref py), (1, .ref au), (2, .int (nI i))]) hx hb dX3_cross_28 hl (k := 3) rfl (nI_1 _) (by decide) rfl (fun ls hl => ?_)
      refine lv_goto (tgt := 2) hx hb dX3_cross_31 (by decide) ?_
      exact ih_4 _ _ _ ⟨_, hP, hD, hS, lv_sub hl [1, 2, 3, 0] rfl⟩
