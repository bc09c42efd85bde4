theorem dX0_allConditions_0 : decode cX0_allConditions 0 = .ok (.iconst 0, 1) := by decide +kernel
theorem dX0_allConditions_1 : decode cX0_allConditions 1 = .ok (.istore_n 1, 1) := by decide +kernel
theorem dX0_allConditions_2 : decode cX0_allConditions 2 = .ok (.iconst 0, 1) := by decide +kernel
theorem dX0_allConditions_3 : decode cX0_allConditions 3 = .ok (.istore_n 2, 1) := by decide +kernel
theorem dX0_allConditions_4 : decode cX0_allConditions 4 = .ok (.iload_n 2, 1) := by decide +kernel
theorem dX0_allConditions_5 : decode cX0_allConditions 5 = .ok (.bipush 22, 2) := by decide +kernel
theorem dX0_allConditions_7 : decode cX0_allConditions 7 = .ok (.if_icmp .ge 18, 3) := by decide +kernel
theorem dX0_allConditions_10 : decode cX0_allConditions 10 = .ok (.iload_n 1, 1) := by decide +kernel
theorem dX0_allConditions_11 : decode cX0_allConditions 11 = .ok (.aload_n 0, 1) := by decide +kernel
theorem dX0_allConditions_12 : decode cX0_allConditions 12 = .ok (.getfield 29, 3) := by decide +kernel
theorem dX0_allConditions_15 : decode cX0_allConditions 15 = .ok (.iload_n 2, 1) := by decide +kernel
theorem dX0_allConditions_16 : decode cX0_allConditions 16 = .ok (.iaload, 1) := by decide +kernel
theorem dX0_allConditions_17 : decode cX0_allConditions 17 = .ok (.iadd, 1) := by decide +kernel
theorem dX0_allConditions_18 : decode cX0_allConditions 18 = .ok (.istore_n 1, 1) := by decide +kernel
theorem dX0_allConditions_19 : decode cX0_allConditions 19 = .ok (.iinc 2 1, 3) := by decide +kernel
theorem dX0_allConditions_22 : decode cX0_allConditions 22 = .ok (.goto (-18), 3) := by decide +kernel
theorem dX0_allConditions_25 : decode cX0_allConditions 25 = .ok (.iload_n 1, 1) := by decide +kernel
theorem dX0_allConditions_26 : decode cX0_allConditions 26 = .ok (.ireturn, 1) := by decide +kernel
def vs_X0_allConditions : List Cond := .code yX0_allConditions cX0_allConditions 3 (some .int) :: ([.fieldLink RX0 29 "ClockReach$Automaton" "counts" "[I"] ++ wsX00)
set_option maxHeartbeats 4000000 in
set_option maxRecDepth 100000 in
theorem c_X0_allConditions (l : Launch) (dC : Nat → ClassId) (dI : Nat → Nat → Nat) (sz : Nat) (au q4 q5 q6 q7 q8 q9 q10 q11 q12 q13 q14 q15 q16 : Nat) (nc np ne : Nat) (st0 : Int32) (k8 : ClassId) (f8 : Nat → Int32) : Met l yX0_allConditions vs_X0_allConditions ({ frames := 0, cells := 0, slots := 0, locals := 0 }) (va_Pc [.ref au] (pu_B (dC, dI) [(au, .inr (0, [.int (nI nc), .int (nI np), .int (nI ne), .int st0, .ref q4, .ref q5, .ref q6, .ref q7, .ref q8, .ref q9, .ref q10, .ref q11, .ref q12, .ref q13, .ref q14, .ref q15, .ref q16])), (q8, .inl (k8, 22, .inl f8))] [(k8, .int)] sz)) (va_Qi (fun (r : Int32) (_ : Unit) => True) (fun _ _ => True) (va_A [] sz)) 0 0 (va_A [] sz) := by
  refine Met.ofW (cc := cX0_allConditions) (maxL := 3) (ret := (some .int)) (by decide) rfl ?_
  intro p e s m args below meth c s₁ B hml hv
  obtain ⟨rfl, rfl, hP, hK, hD0⟩ := hv
  have hx := B.exec
  have hb := B.bytes
  have hr := B.returns
  have hts := atoms_spec (ws := vs_X0_allConditions) B.pre
  have v_1 := hts (.fieldLink RX0 29 "ClockReach$Automaton" "counts" "[I") (List.mem_of_getElem? (i := 1) rfl)
  have hown : s.vm.findClass RX0 = some m.cls := findClass_of_methodNamed B.named
  have hlocks := B.notSynchronized
  have hiX0 : ∀ w ∈ wsX00, w ∈ vs_X0_allConditions := fun _ h => List.mem_cons_of_mem _ (List.mem_append_right _ h)
  have hD := hD0
  have hA : ∀ q : Nat, s.heap.size ≤ q → va_A [] s.heap.size q := fun _ h => Or.inr h
  have hS : va_S (va_A [] s.heap.size) s.heap s.heap [] := va_S.rf
  have hl := lv_entry ([.ref au]) (n := 3) (Nat.le_of_ble_eq_true rfl)
  rw [lg_entry_eq]
  generalize (lg_sl ([.ref au]) ++ List.replicate (3 - (lg_sl ([.ref au])).length) Slot.unset).toArray = ls at hl ⊢
  have hl : lv_has ls 3 [(0, .ref au)] := hl
  refine lv_iconst (v := 0) hx hb dX0_allConditions_0 (by decide) ?_
  refine lv_istore_n (lv' := [(1, .int 0), (0, .ref au)]) hx hb dX0_allConditions_1 rfl hl (by decide) rfl (fun ls hl => ?_)
  refine lv_iconst (v := 0) hx hb dX0_allConditions_2 (by decide) ?_
  refine lv_istore_n (lv' := [(2, .int 0), (1, .int 0), (0, .ref au)]) hx hb dX0_allConditions_3 rfl hl (by decide) rfl (fun ls hl => ?_)
  refine pu_loop (22) (fun ii H locs ls => ∃ v0 : Int32, va_P (dC, dI) vwCl [(au, .inr (0, [.int (nI nc), .int (nI np), .int (nI ne), .int st0, .ref q4, .ref q5, .ref q6, .ref q7, .ref q8, .ref q9, .ref q10, .ref q11, .ref q12, .ref q13, .ref q14, .ref q15, .ref q16])), (q8, .inl (k8, 22, .inl f8))] H ∧ va_D (fun _ => True) [(au, .inr (0, [.int (nI nc), .int (nI np), .int (nI ne), .int st0, .ref q4, .ref q5, .ref q6, .ref q7, .ref q8, .ref q9, .ref q10, .ref q11, .ref q12, .ref q13, .ref q14, .ref q15, .ref q16])), (q8, .inl (k8, 22, .inl f8))] ∧ va_S (va_A [] s.heap.size) s.heap H locs ∧ lv_has ls 3 [(0, .ref au), (1, .int v0), (2, .int (nI ii))]) (fun _ => 0) (fun _ => 0) 4 [] ?_ ?_ _ _ _ ⟨_, hP, hD, hS, lv_sub hl [2, 1, 0] rfl⟩
  · rintro H locs ls ⟨vl_1, hP, hD, hS, hl⟩
    refine lv_iload_n hx hb dX0_allConditions_4 rfl (lv_at hl 2 rfl) ?_
    refine lv_bipush (v := 22) hx hb dX0_allConditions_5 (by decide) ?_
    refine lv_icmp_ge (tgt := 25) hx hb dX0_allConditions_7 (by decide) (fun _ => ?_) (fun z => absurd (nI_le (a := 22) (b := 22) (by omega) (by omega)) z)
    refine lv_iload_n hx hb dX0_allConditions_25 rfl (lv_at hl 1 rfl) ?_
    exact W.iret (v := vl_1) hx hb hr (fun t ht hW => ⟨⟨vl_1, (), rfl, trivial, trivial⟩, hS.F ht⟩) hS.2.2 dX0_allConditions_26
  · rintro i_2 h_3 ih_4 H locs ls ⟨vl_1, hP, hD, hS, hl⟩
    refine lv_iload_n hx hb dX0_allConditions_4 rfl (lv_at hl 2 rfl) ?_
    refine lv_bipush (v := 22) hx hb dX0_allConditions_5 (by decide) ?_
    refine lv_icmp_ge (tgt := 25) hx hb dX0_allConditions_7 (by decide) (fun z => absurd z (nI_ge (a := i_2) (b := 22) (by omega) (by omega))) (fun _ => ?_)
    refine lv_iload_n hx hb dX0_allConditions_10 rfl (lv_at hl 1 rfl) ?_
    refine lv_aload_n hx hb dX0_allConditions_11 rfl (lv_at hl 0 rfl) ?_
    refine va_get (D := (dC, dI)) (ci := 0) (v := .ref q8) (C := RX0) (T := TX0) (N := 17) hx hb hts hiX0 hown hK hP 0 rfl rfl 8 (by decide) v_1 (fun _ h9 => h9) rfl dX0_allConditions_12 ?_
    refine lv_iload_n hx hb dX0_allConditions_15 rfl (lv_at hl 2 rfl) ?_
    refine va_iald hx hb hK hP 1 0 rfl rfl (vp_in_nI (n := i_2) (by first | omega | exact ix_lt (by omega) (by omega) hn | exact ix_lt0 (by omega) hn | exact ix_ltq (by omega) hn | exact ix_lt1 (by omega) hn) (by omega)) dX0_allConditions_16 ?_
    refine lv_iadd hx hb dX0_allConditions_17 ?_
    refine lv_istore_n (lv' := [(1, .int (vl_1 + (f8 ((nI i_2)).toNatClampNeg))), (0, .ref au), (2, .int (nI i_2))]) hx hb dX0_allConditions_18 rfl hl (by decide) rfl (fun ls hl => ?_)
    refine lv_iinc (v := (nI (i_2 + 1))) (lv' := [(2, .int (nI (i_2 + 1))), (1, .int (vl_1 + (f8 ((nI i_2)).toNatClampNeg))), (0, .ref au)]) hx hb dX0_allConditions_19 hl (k := 2) rfl (nI_1 _) (by decide) rfl (fun ls hl => ?_)
    refine lv_goto (tgt := 4) hx hb dX0_allConditions_22 (by decide) ?_
    exact ih_4 _ _ _ ⟨_, hP, hD, hS, lv_sub hl [2, 1, 0] rfl⟩
theorem dX0_edgesWith_0 : decode cX0_edgesWith 0 = .ok (.iconst 0, 1) := by decide +kernel
theorem dX0_edgesWith_1 : decode cX0_edgesWith 1 = .ok (.istore_n 3, 1) := by decide +kernel
theorem dX0_edgesWith_2 : decode cX0_edgesWith 2 = .ok (.iconst 0, 1) := by decide +kernel
theorem dX0_edgesWith_3 : decode cX0_edgesWith 3 = .ok (.istore 4, 2) := by decide +kernel
theorem dX0_edgesWith_5 : decode cX0_edgesWith 5 = .ok (.iload 4, 2) := by decide +kernel
theorem dX0_edgesWith_7 : decode cX0_edgesWith 7 = .ok (.aload_n 0, 1) := by decide +kernel
theorem dX0_edgesWith_8 : decode cX0_edgesWith 8 = .ok (.getfield 62, 3) := by decide +kernel
theorem dX0_edgesWith_11 : decode cX0_edgesWith 11 = .ok (.if_icmp .ge 24, 3) := by decide +kernel
theorem dX0_edgesWith_14 : decode cX0_edgesWith 14 = .ok (.aload_n 1, 1) := by decide +kernel
theorem dX0_edgesWith_15 : decode cX0_edgesWith 15 = .ok (.iload 4, 2) := by decide +kernel
theorem dX0_edgesWith_17 : decode cX0_edgesWith 17 = .ok (.iaload, 1) := by decide +kernel
theorem dX0_edgesWith_18 : decode cX0_edgesWith 18 = .ok (.iload_n 2, 1) := by decide +kernel
theorem dX0_edgesWith_19 : decode cX0_edgesWith 19 = .ok (.if_icmp .ne 10, 3) := by decide +kernel
theorem dX0_edgesWith_22 : decode cX0_edgesWith 22 = .ok (.iload_n 3, 1) := by decide +kernel
theorem dX0_edgesWith_23 : decode cX0_edgesWith 23 = .ok (.iconst 1, 1) := by decide +kernel
theorem dX0_edgesWith_24 : decode cX0_edgesWith 24 = .ok (.iload 4, 2) := by decide +kernel
theorem dX0_edgesWith_26 : decode cX0_edgesWith 26 = .ok (.ishl, 1) := by decide +kernel
theorem dX0_edgesWith_27 : decode cX0_edgesWith 27 = .ok (.ior, 1) := by decide +kernel
theorem dX0_edgesWith_28 : decode cX0_edgesWith 28 = .ok (.istore_n 3, 1) := by decide +kernel
theorem dX0_edgesWith_29 : decode cX0_edgesWith 29 = .ok (.iinc 4 1, 3) := by decide +kernel
theorem dX0_edgesWith_32 : decode cX0_edgesWith 32 = .ok (.goto (-27), 3) := by decide +kernel
theorem dX0_edgesWith_35 : decode cX0_edgesWith 35 = .ok (.iload_n 3, 1) := by decide +kernel
theorem dX0_edgesWith_36 : decode cX0_edgesWith 36 = .ok (.ireturn, 1) := by decide +kernel
def vs_X0_edgesWith : List Cond := .code yX0_edgesWith cX0_edgesWith 5 (some .int) :: ([.fieldLink RX0 62 "ClockReach$Automaton" "edges" "I"] ++ wsX00)
set_option maxHeartbeats 4000000 in
set_option maxRecDepth 100000 in
theorem c_X0_edgesWith (l : Launch) (dC : Nat → ClassId) (dI : Nat → Nat → Nat) (sz : Nat) (au q4 q5 q6 q7 q8 q9 q10 q11 q12 q13 q14 q15 q16 : Nat) (nc np ne : Nat) (st0 : Int32) (he : ne ≤ 14) (en : Nat) (kn : ClassId) (fn : Nat → Int32) (p0 : Int32) : Met l yX0_edgesWith vs_X0_edgesWith ({ frames := 0, cells := 0, slots := 0, locals := 0 }) (va_Pc [.ref au, .ref en, .int p0] (pu_B (dC, dI) [(au, .inr (0, [.int (nI nc), .int (nI np), .int (nI ne), .int st0, .ref q4, .ref q5, .ref q6, .ref q7, .ref q8, .ref q9, .ref q10, .ref q11, .ref q12, .ref q13, .ref q14, .ref q15, .ref q16])), (en, .inl (kn, 14, .inl fn))] [(kn, .int)] sz)) (va_Qi (fun (r : Int32) (_ : Unit) => True) (fun _ _ => True) (va_A [] sz)) 0 0 (va_A [] sz) := by
  refine Met.ofW (cc := cX0_edgesWith) (maxL := 5) (ret := (some .int)) (by decide) rfl ?_
  intro p e s m args below meth c s₁ B hml hv
  obtain ⟨rfl, rfl, hP, hK, hD0⟩ := hv
  have hx := B.exec
  have hb := B.bytes
  have hr := B.returns
  have hts := atoms_spec (ws := vs_X0_edgesWith) B.pre
  have v_1 := hts (.fieldLink RX0 62 "ClockReach$Automaton" "edges" "I") (List.mem_of_getElem? (i := 1) rfl)
  have hown : s.vm.findClass RX0 = some m.cls := findClass_of_methodNamed B.named
  have hlocks := B.notSynchronized
  have hiX0 : ∀ w ∈ wsX00, w ∈ vs_X0_edgesWith := fun _ h => List.mem_cons_of_mem _ (List.mem_append_right _ h)
  have hD := hD0
  have hA : ∀ q : Nat, s.heap.size ≤ q → va_A [] s.heap.size q := fun _ h => Or.inr h
  have hS : va_S (va_A [] s.heap.size) s.heap s.heap [] := va_S.rf
  have hl := lv_entry ([.ref au, .ref en, .int p0]) (n := 5) (Nat.le_of_ble_eq_true rfl)
  rw [lg_entry_eq]
  generalize (lg_sl ([.ref au, .ref en, .int p0]) ++ List.replicate (5 - (lg_sl ([.ref au, .ref en, .int p0])).length) Slot.unset).toArray = ls at hl ⊢
  have hl : lv_has ls 5 [(0, .ref au), (1, .ref en), (2, .int p0)] := hl
  refine lv_iconst (v := 0) hx hb dX0_edgesWith_0 (by decide) ?_
  refine lv_istore_n (lv' := [(3, .int 0), (0, .ref au), (1, .ref en), (2, .int p0)]) hx hb dX0_edgesWith_1 rfl hl (by decide) rfl (fun ls hl => ?_)
  refine lv_iconst (v := 0) hx hb dX0_edgesWith_2 (by decide) ?_
  refine lv_istore (lv' := [(4, .int 0), (3, .int 0), (0, .ref au), (1, .ref en), (2, .int p0)]) hx hb dX0_edgesWith_3 hl (by decide) rfl (fun ls hl => ?_)
  refine pu_loop (ne) (fun ii H locs ls => ∃ v0 : Int32, va_P (dC, dI) vwCl [(au, .inr (0, [.int (nI nc), .int (nI np), .int (nI ne), .int st0, .ref q4, .ref q5, .ref q6, .ref q7, .ref q8, .ref q9, .ref q10, .ref q11, .ref q12, .ref q13, .ref q14, .ref q15, .ref q16])), (en, .inl (kn, 14, .inl fn))] H ∧ va_D (fun _ => True) [(au, .inr (0, [.int (nI nc), .int (nI np), .int (nI ne), .int st0, .ref q4, .ref q5, .ref q6, .ref q7, .ref q8, .ref q9, .ref q10, .ref q11, .ref q12, .ref q13, .ref q14, .ref q15, .ref q16])), (en, .inl (kn, 14, .inl fn))] ∧ va_S (va_A [] s.heap.size) s.heap H locs ∧ lv_has ls 5 [(0, .ref au), (1, .ref en), (2, .int p0), (3, .int v0), (4, .int (nI ii))]) (fun _ => 0) (fun _ => 0) 5 [] ?_ ?_ _ _ _ ⟨_, hP, hD, hS, lv_sub hl [2, 3, 4, 1, 0] rfl⟩
  · rintro H locs ls ⟨vl_1, hP, hD, hS, hl⟩
    refine lv_iload hx hb dX0_edgesWith_5 (lv_at hl 4 rfl) ?_
    refine lv_aload_n hx hb dX0_edgesWith_7 rfl (lv_at hl 0 rfl) ?_
    refine va_get (D := (dC, dI)) (ci := 0) (v := .int (nI ne)) (C := RX0) (T := TX0) (N := 17) hx hb hts hiX0 hown hK hP 0 rfl rfl 2 (by decide) v_1 (fun _ h9 => h9) rfl dX0_edgesWith_8 ?_
    refine lv_icmp_ge (tgt := 35) hx hb dX0_edgesWith_11 (by decide) (fun _ => ?_) (fun z => absurd (nI_le (a := ne) (b := ne) (by omega) (by omega)) z)
    refine lv_iload_n hx hb dX0_edgesWith_35 rfl (lv_at hl 3 rfl) ?_
    exact W.iret (v := vl_1) hx hb hr (fun t ht hW => ⟨⟨vl_1, (), rfl, trivial, trivial⟩, hS.F ht⟩) hS.2.2 dX0_edgesWith_36
  · rintro i_2 h_3 ih_4 H locs ls ⟨vl_1, hP, hD, hS, hl⟩
    refine lv_iload hx hb dX0_edgesWith_5 (lv_at hl 4 rfl) ?_
    refine lv_aload_n hx hb dX0_edgesWith_7 rfl (lv_at hl 0 rfl) ?_
    refine va_get (D := (dC, dI)) (ci := 0) (v := .int (nI ne)) (C := RX0) (T := TX0) (N := 17) hx hb hts hiX0 hown hK hP 0 rfl rfl 2 (by decide) v_1 (fun _ h9 => h9) rfl dX0_edgesWith_8 ?_
    refine lv_icmp_ge (tgt := 35) hx hb dX0_edgesWith_11 (by decide) (fun z => absurd z (nI_ge (a := i_2) (b := ne) (by omega) (by omega))) (fun _ => ?_)
    refine lv_aload_n hx hb dX0_edgesWith_14 rfl (lv_at hl 1 rfl) ?_
    refine lv_iload hx hb dX0_edgesWith_15 (lv_at hl 4 rfl) ?_
    refine va_iald hx hb hK hP 1 0 rfl rfl (vp_in_nI (n := i_2) (by first | omega | exact ix_lt (by omega) (by omega) hn | exact ix_lt0 (by omega) hn | exact ix_ltq (by omega) hn | exact ix_lt1 (by omega) hn) (by omega)) dX0_edgesWith_17 ?_
    refine lv_iload_n hx hb dX0_edgesWith_18 rfl (lv_at hl 2 rfl) ?_
    refine lv_icmp_ne (tgt := 29) hx hb dX0_edgesWith_19 (by decide) (fun c_5 => ?_) (fun c_5 => ?_)
    · refine lv_iinc (v := (nI (i_2 + 1))) (lv' := [(4, .int (nI (i_2 + 1))), (0, .ref au), (1, .ref en), (2, .int p0), (3, .int vl_1)]) hx hb dX0_edgesWith_29 hl (k := 4) rfl (nI_1 _) (by decide) rfl (fun ls hl => ?_)
      refine lv_goto (tgt := 5) hx hb dX0_edgesWith_32 (by decide) ?_
      exact ih_4 _ _ _ ⟨_, hP, hD, hS, lv_sub hl [1, 2, 3, 4, 0] rfl⟩
    · refine lv_iload_n hx hb dX0_edgesWith_22 rfl (lv_at hl 3 rfl) ?_
      refine lv_iconst (v := 1) hx hb dX0_edgesWith_23 (by decide) ?_
      refine lv_iload hx hb dX0_edgesWith_24 (lv_at hl 4 rfl) ?_
      refine lv_ishl hx hb dX0_edgesWith_26 ?_
      refine lv_ior hx hb dX0_edgesWith_27 ?_
      refine lv_istore_n (lv' := [(3, .int (vl_1 ||| ((1 : Int32) <<< (((nI i_2) : Int32) &&& 31)))), (0, .ref au), (1, .ref en), (2, .int p0), (4, .int (nI i_2))]) hx hb dX0_edgesWith_28 rfl hl (by decide) rfl (fun ls hl => ?_)
      refine lv_iinc (v := (nI (i_2 + 1))) (lv' := [(4, .int (nI (i_2 + 1))), (3, .int (vl_1 ||| ((1 : Int32) <<< (((nI i_2) : Int32) &&& 31)))), (0, .ref au), (1, .ref en), (2, .int p0)]) hx hb dX0_edgesWith_29 hl (k := 4) rfl (nI_1 _) (by decide) rfl (fun ls hl => ?_)
      refine lv_goto (tgt := 5) hx hb dX0_edgesWith_32 (by decide) ?_
      exact ih_4 _ _ _ ⟨_, hP, hD, hS, lv_sub hl [2, 3, 4, 1, 0] rfl⟩
theorem dX0_hurriedBehind_0 : decode cX0_hurriedBehind 0 = .ok (.iconst 0, 1) := by decide +kernel
theorem dX0_hurriedBehind_1 : decode cX0_hurriedBehind 1 = .ok (.istore_n 2, 1) := by decide +kernel
theorem dX0_hurriedBehind_2 : decode cX0_hurriedBehind 2 = .ok (.iconst 0, 1) := by decide +kernel
theorem dX0_hurriedBehind_3 : decode cX0_hurriedBehind 3 = .ok (.istore_n 3, 1) := by decide +kernel
theorem dX0_hurriedBehind_4 : decode cX0_hurriedBehind 4 = .ok (.iload_n 3, 1) := by decide +kernel
theorem dX0_hurriedBehind_5 : decode cX0_hurriedBehind 5 = .ok (.bipush 8, 2) := by decide +kernel
theorem dX0_hurriedBehind_7 : decode cX0_hurriedBehind 7 = .ok (.if_icmp .ge 92, 3) := by decide +kernel
theorem dX0_hurriedBehind_10 : decode cX0_hurriedBehind 10 = .ok (.iconst 0, 1) := by decide +kernel
theorem dX0_hurriedBehind_11 : decode cX0_hurriedBehind 11 = .ok (.istore 4, 2) := by decide +kernel
theorem dX0_hurriedBehind_13 : decode cX0_hurriedBehind 13 = .ok (.iload 4, 2) := by decide +kernel
theorem dX0_hurriedBehind_15 : decode cX0_hurriedBehind 15 = .ok (.aload_n 0, 1) := by decide +kernel
theorem dX0_hurriedBehind_16 : decode cX0_hurriedBehind 16 = .ok (.getfield 62, 3) := by decide +kernel
theorem dX0_hurriedBehind_19 : decode cX0_hurriedBehind 19 = .ok (.if_icmp .ge 74, 3) := by decide +kernel
theorem dX0_hurriedBehind_22 : decode cX0_hurriedBehind 22 = .ok (.aload_n 0, 1) := by decide +kernel
theorem dX0_hurriedBehind_23 : decode cX0_hurriedBehind 23 = .ok (.getfield 19, 3) := by decide +kernel
theorem dX0_hurriedBehind_26 : decode cX0_hurriedBehind 26 = .ok (.iload 4, 2) := by decide +kernel
theorem dX0_hurriedBehind_28 : decode cX0_hurriedBehind 28 = .ok (.iaload, 1) := by decide +kernel
theorem dX0_hurriedBehind_29 : decode cX0_hurriedBehind 29 = .ok (.iload_n 1, 1) := by decide +kernel
theorem dX0_hurriedBehind_30 : decode cX0_hurriedBehind 30 = .ok (.if_icmp .eq 18, 3) := by decide +kernel
theorem dX0_hurriedBehind_33 : decode cX0_hurriedBehind 33 = .ok (.iload_n 2, 1) := by decide +kernel
theorem dX0_hurriedBehind_34 : decode cX0_hurriedBehind 34 = .ok (.aload_n 0, 1) := by decide +kernel
theorem dX0_hurriedBehind_35 : decode cX0_hurriedBehind 35 = .ok (.getfield 19, 3) := by decide +kernel
theorem dX0_hurriedBehind_38 : decode cX0_hurriedBehind 38 = .ok (.iload 4, 2) := by decide +kernel
theorem dX0_hurriedBehind_40 : decode cX0_hurriedBehind 40 = .ok (.iaload, 1) := by decide +kernel
theorem dX0_hurriedBehind_41 : decode cX0_hurriedBehind 41 = .ok (.ishr, 1) := by decide +kernel
theorem dX0_hurriedBehind_42 : decode cX0_hurriedBehind 42 = .ok (.iconst 1, 1) := by decide +kernel
theorem dX0_hurriedBehind_43 : decode cX0_hurriedBehind 43 = .ok (.iand, 1) := by decide +kernel
theorem dX0_hurriedBehind_44 : decode cX0_hurriedBehind 44 = .ok (.iconst 1, 1) := by decide +kernel
theorem dX0_hurriedBehind_45 : decode cX0_hurriedBehind 45 = .ok (.if_icmp .ne 7, 3) := by decide +kernel
theorem dX0_hurriedBehind_48 : decode cX0_hurriedBehind 48 = .ok (.iconst 1, 1) := by decide +kernel
theorem dX0_hurriedBehind_49 : decode cX0_hurriedBehind 49 = .ok (.goto 4, 3) := by decide +kernel
theorem dX0_hurriedBehind_52 : decode cX0_hurriedBehind 52 = .ok (.iconst 0, 1) := by decide +kernel
theorem dX0_hurriedBehind_53 : decode cX0_hurriedBehind 53 = .ok (.istore 5, 2) := by decide +kernel
theorem dX0_hurriedBehind_55 : decode cX0_hurriedBehind 55 = .ok (.iload 5, 2) := by decide +kernel
theorem dX0_hurriedBehind_57 : decode cX0_hurriedBehind 57 = .ok (.ifCond .eq 30, 3) := by decide +kernel
theorem dX0_hurriedBehind_60 : decode cX0_hurriedBehind 60 = .ok (.aload_n 0, 1) := by decide +kernel
theorem dX0_hurriedBehind_61 : decode cX0_hurriedBehind 61 = .ok (.getfield 15, 3) := by decide +kernel
theorem dX0_hurriedBehind_64 : decode cX0_hurriedBehind 64 = .ok (.aload_n 0, 1) := by decide +kernel
theorem dX0_hurriedBehind_65 : decode cX0_hurriedBehind 65 = .ok (.getfield 23, 3) := by decide +kernel
theorem dX0_hurriedBehind_68 : decode cX0_hurriedBehind 68 = .ok (.iload 4, 2) := by decide +kernel
theorem dX0_hurriedBehind_70 : decode cX0_hurriedBehind 70 = .ok (.iaload, 1) := by decide +kernel
theorem dX0_hurriedBehind_71 : decode cX0_hurriedBehind 71 = .ok (.baload, 1) := by decide +kernel
theorem dX0_hurriedBehind_72 : decode cX0_hurriedBehind 72 = .ok (.ifCond .eq 15, 3) := by decide +kernel
theorem dX0_hurriedBehind_75 : decode cX0_hurriedBehind 75 = .ok (.iload_n 2, 1) := by decide +kernel
theorem dX0_hurriedBehind_76 : decode cX0_hurriedBehind 76 = .ok (.iconst 1, 1) := by decide +kernel
theorem dX0_hurriedBehind_77 : decode cX0_hurriedBehind 77 = .ok (.aload_n 0, 1) := by decide +kernel
theorem dX0_hurriedBehind_78 : decode cX0_hurriedBehind 78 = .ok (.getfield 23, 3) := by decide +kernel
theorem dX0_hurriedBehind_81 : decode cX0_hurriedBehind 81 = .ok (.iload 4, 2) := by decide +kernel
theorem dX0_hurriedBehind_83 : decode cX0_hurriedBehind 83 = .ok (.iaload, 1) := by decide +kernel
theorem dX0_hurriedBehind_84 : decode cX0_hurriedBehind 84 = .ok (.ishl, 1) := by decide +kernel
theorem dX0_hurriedBehind_85 : decode cX0_hurriedBehind 85 = .ok (.ior, 1) := by decide +kernel
theorem dX0_hurriedBehind_86 : decode cX0_hurriedBehind 86 = .ok (.istore_n 2, 1) := by decide +kernel
theorem dX0_hurriedBehind_87 : decode cX0_hurriedBehind 87 = .ok (.iinc 4 1, 3) := by decide +kernel
theorem dX0_hurriedBehind_90 : decode cX0_hurriedBehind 90 = .ok (.goto (-77), 3) := by decide +kernel
theorem dX0_hurriedBehind_93 : decode cX0_hurriedBehind 93 = .ok (.iinc 3 1, 3) := by decide +kernel
theorem dX0_hurriedBehind_96 : decode cX0_hurriedBehind 96 = .ok (.goto (-92), 3) := by decide +kernel
theorem dX0_hurriedBehind_99 : decode cX0_hurriedBehind 99 = .ok (.iload_n 2, 1) := by decide +kernel
theorem dX0_hurriedBehind_100 : decode cX0_hurriedBehind 100 = .ok (.ireturn, 1) := by decide +kernel
def vs_X0_hurriedBehind : List Cond := .code yX0_hurriedBehind cX0_hurriedBehind 6 (some .int) :: ([.fieldLink RX0 62 "ClockReach$Automaton" "edges" "I", .fieldLink RX0 19 "ClockReach$Automaton" "sources" "[I", .fieldLink RX0 15 "ClockReach$Automaton" "hurried" "[Z", .fieldLink RX0 23 "ClockReach$Automaton" "targets" "[I"] ++ wsX00)
set_option maxHeartbeats 4000000 in
set_option maxRecDepth 100000 in
theorem c_X0_hurriedBehind (l : Launch) (dC : Nat → ClassId) (dI : Nat → Nat → Nat) (sz : Nat) (au q4 q5 q6 q7 q8 q9 q10 q11 q12 q13 q14 q15 q16 : Nat) (nc np ne : Nat) (st0 : Int32) (k4 k5 k6 : ClassId) (f4 f5 f6 : Nat → Int32) (h6 : ao_e np ne f6) (hp : np ≤ 8) (he : ne ≤ 14) (p0 : Int32) : Met l yX0_hurriedBehind vs_X0_hurriedBehind ({ frames := 0, cells := 0, slots := 0, locals := 0 }) (va_Pc [.ref au, .int p0] (pu_B (dC, dI) [(au, .inr (0, [.int (nI nc), .int (nI np), .int (nI ne), .int st0, .ref q4, .ref q5, .ref q6, .ref q7, .ref q8, .ref q9, .ref q10, .ref q11, .ref q12, .ref q13, .ref q14, .ref q15, .ref q16])), (q4, .inl (k4, 8, .inl f4)), (q5, .inl (k5, 14, .inl f5)), (q6, .inl (k6, 14, .inl f6))] [(k4, .boolean), (k5, .int), (k6, .int)] sz)) (va_Qi (fun (r : Int32) (_ : Unit) => True) (fun _ _ => True) (va_A [] sz)) 0 0 (va_A [] sz) := by
  refine Met.ofW (cc := cX0_hurriedBehind) (maxL := 6) (ret := (some .int)) (by decide) rfl ?_
  intro p e s m args below meth c s₁ B hml hv
  obtain ⟨rfl, rfl, hP, hK, hD0⟩ := hv
  have hx := B.exec
  have hb := B.bytes
  have hr := B.returns
  have hts := atoms_spec (ws := vs_X0_hurriedBehind) B.pre
  have v_1 := hts (.fieldLink RX0 62 "ClockReach$Automaton" "edges" "I") (List.mem_of_getElem? (i := 1) rfl)
  have v_2 := hts (.fieldLink RX0 19 "ClockReach$Automaton" "sources" "[I") (List.mem_of_getElem? (i := 2) rfl)
  have v_3 := hts (.fieldLink RX0 15 "ClockReach$Automaton" "hurried" "[Z") (List.mem_of_getElem? (i := 3) rfl)
  have v_4 := hts (.fieldLink RX0 23 "ClockReach$Automaton" "targets" "[I") (List.mem_of_getElem? (i := 4) rfl)
  have hown : s.vm.findClass RX0 = some m.cls := findClass_of_methodNamed B.named
  have hlocks := B.notSynchronized
  have hiX0 : ∀ w ∈ wsX00, w ∈ vs_X0_hurriedBehind := fun _ h => List.mem_cons_of_mem _ (List.mem_append_right _ h)
  have hD := hD0
  have hA : ∀ q : Nat, s.heap.size ≤ q → va_A [] s.heap.size q := fun _ h => Or.inr h
  have hS : va_S (va_A [] s.heap.size) s.heap s.heap [] := va_S.rf
  have hl := lv_entry ([.ref au, .int p0]) (n := 6) (Nat.le_of_ble_eq_true rfl)
  rw [lg_entry_eq]
  generalize (lg_sl ([.ref au, .int p0]) ++ List.replicate (6 - (lg_sl ([.ref au, .int p0])).length) Slot.unset).toArray = ls at hl ⊢
  have hl : lv_has ls 6 [(0, .ref au), (1, .int p0)] := hl
  refine lv_iconst (v := 0) hx hb dX0_hurriedBehind_0 (by decide) ?_
  refine lv_istore_n (lv' := [(2, .int 0), (0, .ref au), (1, .int p0)]) hx hb dX0_hurriedBehind_1 rfl hl (by decide) rfl (fun ls hl => ?_)
  refine lv_iconst (v := 0) hx hb dX0_hurriedBehind_2 (by decide) ?_
  refine lv_istore_n (lv' := [(3, .int 0), (2, .int 0), (0, .ref au), (1, .int p0)]) hx hb dX0_hurriedBehind_3 rfl hl (by decide) rfl (fun ls hl => ?_)
  refine pu_loop (8) (fun ii H locs ls => ∃ v0 : Int32, va_P (dC, dI) vwCl [(au, .inr (0, [.int (nI nc), .int (nI np), .int (nI ne), .int st0, .ref q4, .ref q5, .ref q6, .ref q7, .ref q8, .ref q9, .ref q10, .ref q11, .ref q12, .ref q13, .ref q14, .ref q15, .ref q16])), (q4, .inl (k4, 8, .inl f4)), (q5, .inl (k5, 14, .inl f5)), (q6, .inl (k6, 14, .inl f6))] H ∧ va_D (fun _ => True) [(au, .inr (0, [.int (nI nc), .int (nI np), .int (nI ne), .int st0, .ref q4, .ref q5, .ref q6, .ref q7, .ref q8, .ref q9, .ref q10, .ref q11, .ref q12, .ref q13, .ref q14, .ref q15, .ref q16])), (q4, .inl (k4, 8, .inl f4)), (q5, .inl (k5, 14, .inl f5)), (q6, .inl (k6, 14, .inl f6))] ∧ va_S (va_A [] s.heap.size) s.heap H locs ∧ lv_has ls 6 [(0, .ref au), (1, .int p0), (2, .int v0), (3, .int (nI ii))]) (fun _ => 0) (fun _ => 0) 4 [] ?_ ?_ _ _ _ ⟨_, hP, hD, hS, lv_sub hl [2, 3, 1, 0] rfl⟩
  · rintro H locs ls ⟨vl_1, hP, hD, hS, hl⟩
    refine lv_iload_n hx hb dX0_hurriedBehind_4 rfl (lv_at hl 3 rfl) ?_
    refine lv_bipush (v := 8) hx hb dX0_hurriedBehind_5 (by decide) ?_
    refine lv_icmp_ge (tgt := 99) hx hb dX0_hurriedBehind_7 (by decide) (fun _ => ?_) (fun z => absurd (nI_le (a := 8) (b := 8) (by omega) (by omega)) z)
    refine lv_iload_n hx hb dX0_hurriedBehind_99 rfl (lv_at hl 2 rfl) ?_
    exact W.iret (v := vl_1) hx hb hr (fun t ht hW => ⟨⟨vl_1, (), rfl, trivial, trivial⟩, hS.F ht⟩) hS.2.2 dX0_hurriedBehind_100
  · rintro i_2 h_3 ih_4 H locs ls ⟨vl_1, hP, hD, hS, hl⟩
    refine lv_iload_n hx hb dX0_hurriedBehind_4 rfl (lv_at hl 3 rfl) ?_
    refine lv_bipush (v := 8) hx hb dX0_hurriedBehind_5 (by decide) ?_
    refine lv_icmp_ge (tgt := 99) hx hb dX0_hurriedBehind_7 (by decide) (fun z => absurd z (nI_ge (a := i_2) (b := 8) (by omega) (by omega))) (fun _ => ?_)
    refine lv_iconst (v := 0) hx hb dX0_hurriedBehind_10 (by decide) ?_
    refine lv_istore (lv' := [(4, .int 0), (0, .ref au), (1, .int p0), (2, .int vl_1), (3, .int (nI i_2))]) hx hb dX0_hurriedBehind_11 hl (by decide) rfl (fun ls hl => ?_)
    refine pu_loop (ne) (fun ii H locs ls => ∃ v0 : Int32, va_P (dC, dI) vwCl [(au, .inr (0, [.int (nI nc), .int (nI np), .int (nI ne), .int st0, .ref q4, .ref q5, .ref q6, .ref q7, .ref q8, .ref q9, .ref q10, .ref q11, .ref q12, .ref q13, .ref q14, .ref q15, .ref q16])), (q4, .inl (k4, 8, .inl f4)), (q5, .inl (k5, 14, .inl f5)), (q6, .inl (k6, 14, .inl f6))] H ∧ va_D (fun _ => True) [(au, .inr (0, [.int (nI nc), .int (nI np), .int (nI ne), .int st0, .ref q4, .ref q5, .ref q6, .ref q7, .ref q8, .ref q9, .ref q10, .ref q11, .ref q12, .ref q13, .ref q14, .ref q15, .ref q16])), (q4, .inl (k4, 8, .inl f4)), (q5, .inl (k5, 14, .inl f5)), (q6, .inl (k6, 14, .inl f6))] ∧ va_S (va_A [] s.heap.size) s.heap H locs ∧ lv_has ls 6 [(0, .ref au), (1, .int p0), (2, .int v0), (3, .int (nI i_2)), (4, .int (nI ii))]) (fun _ => 0) (fun _ => 0) 13 [] ?_ ?_ _ _ _ ⟨_, hP, hD, hS, lv_sub hl [1, 2, 3, 4, 0] rfl⟩
    · rintro H locs ls ⟨vl_5, hP, hD, hS, hl⟩
      refine lv_iload hx hb dX0_hurriedBehind_13 (lv_at hl 4 rfl) ?_
      refine lv_aload_n hx hb dX0_hurriedBehind_15 rfl (lv_at hl 0 rfl) ?_
      refine va_get (D := (dC, dI)) (ci := 0) (v := .int (nI ne)) (C := RX0) (T := TX0) (N := 17) hx hb hts hiX0 hown hK hP 0 rfl rfl 2 (by decide) v_1 (fun _ h9 => h9) rfl dX0_hurriedBehind_16 ?_
      refine lv_icmp_ge (tgt := 93) hx hb dX0_hurriedBehind_19 (by decide) (fun _ => ?_) (fun z => absurd (nI_le (a := ne) (b := ne) (by omega) (by omega)) z)
      refine lv_iinc (v := (nI (i_2 + 1))) (lv' := [(3, .int (nI (i_2 + 1))), (0, .ref au), (1, .int p0), (2, .int vl_5), (4, .int (nI ne))]) hx hb dX0_hurriedBehind_93 hl (k := 3) rfl (nI_1 _) (by decide) rfl (fun ls hl => ?_)
      refine lv_goto (tgt := 4) hx hb dX0_hurriedBehind_96 (by decide) ?_
      exact ih_4 _ _ _ ⟨_, hP, hD, hS, lv_sub hl [1, 2, 3, 0] rfl⟩
    · rintro i_6 h_7 ih_8 H locs ls ⟨vl_5, hP, hD, hS, hl⟩
      refine lv_iload hx hb dX0_hurriedBehind_13 (lv_at hl 4 rfl) ?_
      refine lv_aload_n hx hb dX0_hurriedBehind_15 rfl (lv_at hl 0 rfl) ?_
      refine va_get (D := (dC, dI)) (ci := 0) (v := .int (nI ne)) (C := RX0) (T := TX0) (N := 17) hx hb hts hiX0 hown hK hP 0 rfl rfl 2 (by decide) v_1 (fun _ h9 => h9) rfl dX0_hurriedBehind_16 ?_
      refine lv_icmp_ge (tgt := 93) hx hb dX0_hurriedBehind_19 (by decide) (fun z => absurd z (nI_ge (a := i_6) (b := ne) (by omega) (by omega))) (fun _ => ?_)
      refine lv_aload_n hx hb dX0_hurriedBehind_22 rfl (lv_at hl 0 rfl) ?_
      refine va_get (D := (dC, dI)) (ci := 0) (v := .ref q5) (C := RX0) (T := TX0) (N := 17) hx hb hts hiX0 hown hK hP 0 rfl rfl 5 (by decide) v_2 (fun _ h9 => h9) rfl dX0_hurriedBehind_23 ?_
      refine lv_iload hx hb dX0_hurriedBehind_26 (lv_at hl 4 rfl) ?_
      refine va_iald hx hb hK hP 2 1 rfl rfl (vp_in_nI (n := i_6) (by first | omega | exact ix_lt (by omega) (by omega) hn | exact ix_lt0 (by omega) hn | exact ix_ltq (by omega) hn | exact ix_lt1 (by omega) hn) (by omega)) dX0_hurriedBehind_28 ?_
      refine lv_iload_n hx hb dX0_hurriedBehind_29 rfl (lv_at hl 1 rfl) ?_
      refine lv_icmp_eq (tgt := 48) hx hb dX0_hurriedBehind_30 (by decide) (fun c_9 => ?_) (fun c_9 => ?_)
      · refine lv_iconst (v := 1) hx hb dX0_hurriedBehind_48 (by decide) ?_
        refine lv_goto (tgt := 53) hx hb dX0_hurriedBehind_49 (by decide) ?_
        refine lv_istore (lv' := [(5, .int 1), (0, .ref au), (1, .int p0), (2, .int vl_5), (3, .int (nI i_2)), (4, .int (nI i_6))]) hx hb dX0_hurriedBehind_53 hl (by decide) rfl (fun ls hl => ?_)
        refine lv_iload hx hb dX0_hurriedBehind_55 (lv_at hl 0 rfl) ?_
        refine lv_if_eq (tgt := 87) hx hb dX0_hurriedBehind_57 (by decide) (fun z => absurd z (by decide)) (fun _ => ?_)
        refine lv_aload_n hx hb dX0_hurriedBehind_60 rfl (lv_at hl 1 rfl) ?_
        refine va_get (D := (dC, dI)) (ci := 0) (v := .ref q4) (C := RX0) (T := TX0) (N := 17) hx hb hts hiX0 hown hK hP 0 rfl rfl 4 (by decide) v_3 (fun _ h9 => h9) rfl dX0_hurriedBehind_61 ?_
        refine lv_aload_n hx hb dX0_hurriedBehind_64 rfl (lv_at hl 1 rfl) ?_
        refine va_get (D := (dC, dI)) (ci := 0) (v := .ref q6) (C := RX0) (T := TX0) (N := 17) hx hb hts hiX0 hown hK hP 0 rfl rfl 6 (by decide) v_4 (fun _ h9 => h9) rfl dX0_hurriedBehind_65 ?_
        refine lv_iload hx hb dX0_hurriedBehind_68 (lv_at hl 5 rfl) ?_
        refine va_iald hx hb hK hP 3 2 rfl rfl (vp_in_nI (n := i_6) (by first | omega | exact ix_lt (by omega) (by omega) hn | exact ix_lt0 (by omega) hn | exact ix_ltq (by omega) hn | exact ix_lt1 (by omega) hn) (by omega)) dX0_hurriedBehind_70 ?_
        refine lv_topi (fun y_10 ey_10 => ?_)
        have ey_10 : y_10 = f6 i_6 := ey_10.trans (congrArg f6 (nI_clamp (n := i_6) (by omega)))
        obtain ⟨eq_11, hq_12, ee_13⟩ := h6 i_6 (by omega)
        obtain rfl : y_10 = nI eq_11 := ey_10.trans ee_13
        refine va_zald hx hb hK hP 1 0 rfl rfl (vp_in_nI (n := eq_11) (by first | omega | exact ix_lt (by omega) (by omega) hn | exact ix_lt0 (by omega) hn | exact ix_ltq (by omega) hn | exact ix_lt1 (by omega) hn) (by omega)) dX0_hurriedBehind_71 ?_
        refine lv_if_eq (tgt := 87) hx hb dX0_hurriedBehind_72 (by decide) (fun c_14 => ?_) (fun c_14 => ?_)
        · refine lv_iinc (v := (nI (i_6 + 1))) (lv' := [(4, .int (nI (i_6 + 1))), (5, .int 1), (0, .ref au), (1, .int p0), (2, .int vl_5), (3, .int (nI i_2))]) hx hb dX0_hurriedBehind_87 hl (k := 5) rfl (nI_1 _) (by decide) rfl (fun ls hl => ?_)
          refine lv_goto (tgt := 13) hx hb dX0_hurriedBehind_90 (by decide) ?_
          exact ih_8 _ _ _ ⟨_, hP, hD, hS, lv_sub hl [2, 3, 4, 5, 0] rfl⟩
        · refine lv_iload_n hx hb dX0_hurriedBehind_75 rfl (lv_at hl 3 rfl) ?_
          refine lv_iconst (v := 1) hx hb dX0_hurriedBehind_76 (by decide) ?_
          refine lv_aload_n hx hb dX0_hurriedBehind_77 rfl (lv_at hl 1 rfl) ?_
          refine va_get (D := (dC, dI)) (ci := 0) (v := .ref q6) (C := RX0) (T := TX0) (N := 17) hx hb hts hiX0 hown hK hP 0 rfl rfl 6 (by decide) v_4 (fun _ h9 => h9) rfl dX0_hurriedBehind_78 ?_
          refine lv_iload hx hb dX0_hurriedBehind_81 (lv_at hl 5 rfl) ?_
          refine va_iald hx hb hK hP 3 2 rfl rfl (vp_in_nI (n := i_6) (by first | omega | exact ix_lt (by omega) (by omega) hn | exact ix_lt0 (by omega) hn | exact ix_ltq (by omega) hn | exact ix_lt1 (by omega) hn) (by omega)) dX0_hurriedBehind_83 ?_
          refine lv_topi (fun y_15 ey_15 => ?_)
          have ey_15 : y_15 = f6 i_6 := ey_15.trans (congrArg f6 (nI_clamp (n := i_6) (by omega)))
          obtain ⟨eq_16, hq_17, ee_18⟩ := h6 i_6 (by omega)
          obtain rfl : y_15 = nI eq_16 := ey_15.trans ee_18
          refine lv_ishl hx hb dX0_hurriedBehind_84 ?_
          refine lv_ior hx hb dX0_hurriedBehind_85 ?_
          refine lv_istore_n (lv' := [(2, .int (vl_5 ||| ((1 : Int32) <<< (((nI eq_16) : Int32) &&& 31)))), (5, .int 1), (0, .ref au), (1, .int p0), (3, .int (nI i_2)), (4, .int (nI i_6))]) hx hb dX0_hurriedBehind_86 rfl hl (by decide) rfl (fun ls hl => ?_)
          refine lv_iinc (v := (nI (i_6 + 1))) (lv' := [(4, .int (nI (i_6 + 1))), (2, .int (vl_5 ||| ((1 : Int32) <<< (((nI eq_16) : Int32) &&& 31)))), (5, .int 1), (0, .ref au), (1, .int p0), (3, .int (nI i_2))]) hx hb dX0_hurriedBehind_87 hl (k := 5) rfl (nI_1 _) (by decide) rfl (fun ls hl => ?_)
          refine lv_goto (tgt := 13) hx hb dX0_hurriedBehind_90 (by decide) ?_
          exact ih_8 _ _ _ ⟨_, hP, hD, hS, lv_sub hl [3, 4, 1, 5, 0] rfl⟩
      · refine lv_iload_n hx hb dX0_hurriedBehind_33 rfl (lv_at hl 2 rfl) ?_
        refine lv_aload_n hx hb dX0_hurriedBehind_34 rfl (lv_at hl 0 rfl) ?_
        refine va_get (D := (dC, dI)) (ci := 0) (v := .ref q5) (C := RX0) (T := TX0) (N := 17) hx hb hts hiX0 hown hK hP 0 rfl rfl 5 (by decide) v_2 (fun _ h9 => h9) rfl dX0_hurriedBehind_35 ?_
        refine lv_iload hx hb dX0_hurriedBehind_38 (lv_at hl 4 rfl) ?_
        refine va_iald hx hb hK hP 2 1 rfl rfl (vp_in_nI (n := i_6) (by first | omega | exact ix_lt (by omega) (by omega) hn | exact ix_lt0 (by omega) hn | exact ix_ltq (by omega) hn | exact ix_lt1 (by omega) hn) (by omega)) dX0_hurriedBehind_40 ?_
        refine lv_ishr hx hb dX0_hurriedBehind_41 ?_
        refine lv_iconst (v := 1) hx hb dX0_hurriedBehind_42 (by decide) ?_
        refine lv_iand hx hb dX0_hurriedBehind_43 ?_
        refine lv_iconst (v := 1) hx hb dX0_hurriedBehind_44 (by decide) ?_
        refine lv_icmp_ne (tgt := 52) hx hb dX0_hurriedBehind_45 (by decide) (fun c_19 => ?_) (fun c_19 => ?_)
        · refine lv_iconst (v := 0) hx hb dX0_hurriedBehind_52 (by decide) ?_
          refine lv_istore (lv' := [(5, .int 0), (0, .ref au), (1, .int p0), (2, .int vl_5), (3, .int (nI i_2)), (4, .int (nI i_6))]) hx hb dX0_hurriedBehind_53 hl (by decide) rfl (fun ls hl => ?_)
          refine lv_iload hx hb dX0_hurriedBehind_55 (lv_at hl 0 rfl) ?_
          refine lv_if_eq (tgt := 87) hx hb dX0_hurriedBehind_57 (by decide) (fun _ => ?_) (fun z => absurd z (by decide))
          refine lv_iinc (v := (nI (i_6 + 1))) (lv' := [(4, .int (nI (i_6 + 1))), (5, .int 0), (0, .ref au), (1, .int p0), (2, .int vl_5), (3, .int (nI i_2))]) hx hb dX0_hurriedBehind_87 hl (k := 5) rfl (nI_1 _) (by decide) rfl (fun ls hl => ?_)
          refine lv_goto (tgt := 13) hx hb dX0_hurriedBehind_90 (by decide) ?_
          exact ih_8 _ _ _ ⟨_, hP, hD, hS, lv_sub hl [2, 3, 4, 5, 0] rfl⟩
        · refine lv_iconst (v := 1) hx hb dX0_hurriedBehind_48 (by decide) ?_
          refine lv_goto (tgt := 53) hx hb dX0_hurriedBehind_49 (by decide) ?_
          refine lv_istore (lv' := [(5, .int 1), (0, .ref au), (1, .int p0), (2, .int vl_5), (3, .int (nI i_2)), (4, .int (nI i_6))]) hx hb dX0_hurriedBehind_53 hl (by decide) rfl (fun ls hl => ?_)
          refine lv_iload hx hb dX0_hurriedBehind_55 (lv_at hl 0 rfl) ?_
          refine lv_if_eq (tgt := 87) hx hb dX0_hurriedBehind_57 (by decide) (fun z => absurd z (by decide)) (fun _ => ?_)
          refine lv_aload_n hx hb dX0_hurriedBehind_60 rfl (lv_at hl 1 rfl) ?_
          refine va_get (D := (dC, dI)) (ci := 0) (v := .ref q4) (C := RX0) (T := TX0) (N := 17) hx hb hts hiX0 hown hK hP 0 rfl rfl 4 (by decide) v_3 (fun _ h9 => h9) rfl dX0_hurriedBehind_61 ?_
          refine lv_aload_n hx hb dX0_hurriedBehind_64 rfl (lv_at hl 1 rfl) ?_
          refine va_get (D := (dC, dI)) (ci := 0) (v := .ref q6) (C := RX0) (T := TX0) (N := 17) hx hb hts hiX0 hown hK hP 0 rfl rfl 6 (by decide) v_4 (fun _ h9 => h9) rfl dX0_hurriedBehind_65 ?_
          refine lv_iload hx hb dX0_hurriedBehind_68 (lv_at hl 5 rfl) ?_
          refine va_iald hx hb hK hP 3 2 rfl rfl (vp_in_nI (n := i_6) (by first | omega | exact ix_lt (by omega) (by omega) hn | exact ix_lt0 (by omega) hn | exact ix_ltq (by omega) hn | exact ix_lt1 (by omega) hn) (by omega)) dX0_hurriedBehind_70 ?_
          refine lv_topi (fun y_20 ey_20 => ?_)
          have ey_20 : y_20 = f6 i_6 := ey_20.trans (congrArg f6 (nI_clamp (n := i_6) (by omega)))
          obtain ⟨eq_21, hq_22, ee_23⟩ := h6 i_6 (by omega)
          obtain rfl : y_20 = nI eq_21 := ey_20.trans ee_23
          refine va_zald hx hb hK hP 1 0 rfl rfl (vp_in_nI (n := eq_21) (by first | omega | exact ix_lt (by omega) (by omega) hn | exact ix_lt0 (by omega) hn | exact ix_ltq (by omega) hn | exact ix_lt1 (by omega) hn) (by omega)) dX0_hurriedBehind_71 ?_
          refine lv_if_eq (tgt := 87) hx hb dX0_hurriedBehind_72 (by decide) (fun c_24 => ?_) (fun c_24 => ?_)
          · refine lv_iinc (v := (nI (i_6 + 1))) (lv' := [(4, .int (nI (i_6 + 1))), (5, .int 1), (0, .ref au), (1, .int p0), (2, .int vl_5), (3, .int (nI i_2))]) hx hb dX0_hurriedBehind_87 hl (k := 5) rfl (nI_1 _) (by decide) rfl (fun ls hl => ?_)
            refine lv_goto (tgt := 13) hx hb dX0_hurriedBehind_90 (by decide) ?_
            exact ih_8 _ _ _ ⟨_, hP, hD, hS, lv_sub hl [2, 3, 4, 5, 0] rfl⟩
          · refine lv_iload_n hx hb dX0_hurriedBehind_75 rfl (lv_at hl 3 rfl) ?_
            refine lv_iconst (v := 1) hx hb dX0_hurriedBehind_76 (by decide) ?_
            refine lv_aload_n hx hb dX0_hurriedBehind_77 rfl (lv_at hl 1 rfl) ?_
            refine va_get (D := (dC, dI)) (ci := 0) (v := .ref q6) (C := RX0) (T := TX0) (N := 17) hx hb hts hiX0 hown hK hP 0 rfl rfl 6 (by decide) v_4 (fun _ h9 => h9) rfl dX0_hurriedBehind_78 ?_
            refine lv_iload hx hb dX0_hurriedBehind_81 (lv_at hl 5 rfl) ?_
            refine va_iald hx hb hK hP 3 2 rfl rfl (vp_in_nI (n := i_6) (by first | omega | exact ix_lt (by omega) (by omega) hn | exact ix_lt0 (by omega) hn | exact ix_ltq (by omega) hn | exact ix_lt1 (by omega) hn) (by omega)) dX0_hurriedBehind_83 ?_
            refine lv_topi (fun y_25 ey_25 => ?_)
            have ey_25 : y_25 = f6 i_6 := ey_25.trans (congrArg f6 (nI_clamp (n := i_6) (by omega)))
            obtain ⟨eq_26, hq_27, ee_28⟩ := h6 i_6 (by omega)
            obtain rfl : y_25 = nI eq_26 := ey_25.trans ee_28
            refine lv_ishl hx hb dX0_hurriedBehind_84 ?_
            refine lv_ior hx hb dX0_hurriedBehind_85 ?_
            refine lv_istore_n (lv' := [(2, .int (vl_5 ||| ((1 : Int32) <<< (((nI eq_26) : Int32) &&& 31)))), (5, .int 1), (0, .ref au), (1, .int p0), (3, .int (nI i_2)), (4, .int (nI i_6))]) hx hb dX0_hurriedBehind_86 rfl hl (by decide) rfl (fun ls hl => ?_)
            refine lv_iinc (v := (nI (i_6 + 1))) (lv' := [(4, .int (nI (i_6 + 1))), (2, .int (vl_5 ||| ((1 : Int32) <<< (((nI eq_26) : Int32) &&& 31)))), (5, .int 1), (0, .ref au), (1, .int p0), (3, .int (nI i_2))]) hx hb dX0_hurriedBehind_87 hl (k := 5) rfl (nI_1 _) (by decide) rfl (fun ls hl => ?_)
            refine lv_goto (tgt := 13) hx hb dX0_hurriedBehind_90 (by decide) ?_
            exact ih_8 _ _ _ ⟨_, hP, hD, hS, lv_sub hl [3, 4, 1, 5, 0] rfl⟩
theorem dX0_hurriedRings_0 : decode cX0_hurriedRings 0 = .ok (.iconst 0, 1) := by decide +kernel
theorem dX0_hurriedRings_1 : decode cX0_hurriedRings 1 = .ok (.istore_n 1, 1) := by decide +kernel
theorem dX0_hurriedRings_2 : decode cX0_hurriedRings 2 = .ok (.iconst 0, 1) := by decide +kernel
theorem dX0_hurriedRings_3 : decode cX0_hurriedRings 3 = .ok (.istore_n 2, 1) := by decide +kernel
theorem dX0_hurriedRings_4 : decode cX0_hurriedRings 4 = .ok (.iload_n 2, 1) := by decide +kernel
theorem dX0_hurriedRings_5 : decode cX0_hurriedRings 5 = .ok (.aload_n 0, 1) := by decide +kernel
theorem dX0_hurriedRings_6 : decode cX0_hurriedRings 6 = .ok (.getfield 59, 3) := by decide +kernel
theorem dX0_hurriedRings_9 : decode cX0_hurriedRings 9 = .ok (.if_icmp .ge 37, 3) := by decide +kernel
theorem dX0_hurriedRings_12 : decode cX0_hurriedRings 12 = .ok (.aload_n 0, 1) := by decide +kernel
theorem dX0_hurriedRings_13 : decode cX0_hurriedRings 13 = .ok (.getfield 15, 3) := by decide +kernel
theorem dX0_hurriedRings_16 : decode cX0_hurriedRings 16 = .ok (.iload_n 2, 1) := by decide +kernel
theorem dX0_hurriedRings_17 : decode cX0_hurriedRings 17 = .ok (.baload, 1) := by decide +kernel
theorem dX0_hurriedRings_18 : decode cX0_hurriedRings 18 = .ok (.ifCond .eq 22, 3) := by decide +kernel
theorem dX0_hurriedRings_21 : decode cX0_hurriedRings 21 = .ok (.aload_n 0, 1) := by decide +kernel
theorem dX0_hurriedRings_22 : decode cX0_hurriedRings 22 = .ok (.iload_n 2, 1) := by decide +kernel
theorem dX0_hurriedRings_23 : decode cX0_hurriedRings 23 = .ok (.invokevirtual 105, 3) := by decide +kernel
theorem dX0_hurriedRings_26 : decode cX0_hurriedRings 26 = .ok (.iload_n 2, 1) := by decide +kernel
theorem dX0_hurriedRings_27 : decode cX0_hurriedRings 27 = .ok (.ishr, 1) := by decide +kernel
theorem dX0_hurriedRings_28 : decode cX0_hurriedRings 28 = .ok (.iconst 1, 1) := by decide +kernel
theorem dX0_hurriedRings_29 : decode cX0_hurriedRings 29 = .ok (.iand, 1) := by decide +kernel
theorem dX0_hurriedRings_30 : decode cX0_hurriedRings 30 = .ok (.iconst 1, 1) := by decide +kernel
theorem dX0_hurriedRings_31 : decode cX0_hurriedRings 31 = .ok (.if_icmp .ne 9, 3) := by decide +kernel
theorem dX0_hurriedRings_34 : decode cX0_hurriedRings 34 = .ok (.iload_n 1, 1) := by decide +kernel
theorem dX0_hurriedRings_35 : decode cX0_hurriedRings 35 = .ok (.iconst 1, 1) := by decide +kernel
theorem dX0_hurriedRings_36 : decode cX0_hurriedRings 36 = .ok (.iload_n 2, 1) := by decide +kernel
theorem dX0_hurriedRings_37 : decode cX0_hurriedRings 37 = .ok (.ishl, 1) := by decide +kernel
theorem dX0_hurriedRings_38 : decode cX0_hurriedRings 38 = .ok (.ior, 1) := by decide +kernel
theorem dX0_hurriedRings_39 : decode cX0_hurriedRings 39 = .ok (.istore_n 1, 1) := by decide +kernel
theorem dX0_hurriedRings_40 : decode cX0_hurriedRings 40 = .ok (.iinc 2 1, 3) := by decide +kernel
theorem dX0_hurriedRings_43 : decode cX0_hurriedRings 43 = .ok (.goto (-39), 3) := by decide +kernel
theorem dX0_hurriedRings_46 : decode cX0_hurriedRings 46 = .ok (.iload_n 1, 1) := by decide +kernel
theorem dX0_hurriedRings_47 : decode cX0_hurriedRings 47 = .ok (.ireturn, 1) := by decide +kernel
def vs_X0_hurriedRings : List Cond := .code yX0_hurriedRings cX0_hurriedRings 3 (some .int) :: ([.fieldLink RX0 59 "ClockReach$Automaton" "places" "I", .fieldLink RX0 15 "ClockReach$Automaton" "hurried" "[Z", .methodLink RX0 105 yX0_hurriedBehind, .instanceMethod yX0_hurriedBehind, .selects RX0 yX0_hurriedBehind yX0_hurriedBehind, .initialized RX0, .code yX0_hurriedBehind cX0_hurriedBehind 6 (some .int), .fieldLink RX0 62 "ClockReach$Automaton" "edges" "I", .fieldLink RX0 19 "ClockReach$Automaton" "sources" "[I", .fieldLink RX0 23 "ClockReach$Automaton" "targets" "[I"] ++ wsX00)
theorem g_X0_hurriedRings_X0_hurriedBehind : GoodIn vs_X0_hurriedRings (wsV RX0 105 RX0 yX0_hurriedBehind vs_X0_hurriedBehind) := goodIn_r _ [3, 4, 5, 6, 7, 8, 9, 2, 10, 11, 12, 13, 14, 15, 16, 17, 18, 19, 20, 21, 22, 23, 24, 25, 26, 27] (by decide +kernel) (by decide +kernel)
set_option maxHeartbeats 4000000 in
set_option maxRecDepth 100000 in
theorem c_X0_hurriedRings (l : Launch) (dC : Nat → ClassId) (dI : Nat → Nat → Nat) (sz : Nat) (au q4 q5 q6 q7 q8 q9 q10 q11 q12 q13 q14 q15 q16 : Nat) (nc np ne : Nat) (st0 : Int32) (k4 k5 k6 : ClassId) (f4 f5 f6 : Nat → Int32) (h6 : ao_e np ne f6) (hp : np ≤ 8) (he : ne ≤ 14) : Met l yX0_hurriedRings vs_X0_hurriedRings ({ frames := 1, cells := 0, slots := 0, locals := 25 }) (va_Pc [.ref au] (pu_B (dC, dI) [(au, .inr (0, [.int (nI nc), .int (nI np), .int (nI ne), .int st0, .ref q4, .ref q5, .ref q6, .ref q7, .ref q8, .ref q9, .ref q10, .ref q11, .ref q12, .ref q13, .ref q14, .ref q15, .ref q16])), (q4, .inl (k4, 8, .inl f4)), (q5, .inl (k5, 14, .inl f5)), (q6, .inl (k6, 14, .inl f6))] [(k4, .boolean), (k5, .int), (k6, .int)] sz)) (va_Qi (fun (r : Int32) (_ : Unit) => True) (fun _ _ => True) (va_A [] sz)) 0 0 (va_A [] sz) := by
  refine Met.ofW (cc := cX0_hurriedRings) (maxL := 3) (ret := (some .int)) (by decide) rfl ?_
  intro p e s m args below meth c s₁ B hml hv
  obtain ⟨rfl, rfl, hP, hK, hD0⟩ := hv
  have hx := B.exec
  have hb := B.bytes
  have hr := B.returns
  have hts := atoms_spec (ws := vs_X0_hurriedRings) B.pre
  have v_1 := hts (.fieldLink RX0 59 "ClockReach$Automaton" "places" "I") (List.mem_of_getElem? (i := 1) rfl)
  have v_2 := hts (.fieldLink RX0 15 "ClockReach$Automaton" "hurried" "[Z") (List.mem_of_getElem? (i := 2) rfl)
  have hown : s.vm.findClass RX0 = some m.cls := findClass_of_methodNamed B.named
  have hlocks := B.notSynchronized
  have hiX0 : ∀ w ∈ wsX00, w ∈ vs_X0_hurriedRings := fun _ h => List.mem_cons_of_mem _ (List.mem_append_right _ h)
  have hD := hD0
  have hA : ∀ q : Nat, s.heap.size ≤ q → va_A [] s.heap.size q := fun _ h => Or.inr h
  have hS : va_S (va_A [] s.heap.size) s.heap s.heap [] := va_S.rf
  have hl := lv_entry ([.ref au]) (n := 3) (Nat.le_of_ble_eq_true rfl)
  rw [lg_entry_eq]
  generalize (lg_sl ([.ref au]) ++ List.replicate (3 - (lg_sl ([.ref au])).length) Slot.unset).toArray = ls at hl ⊢
  have hl : lv_has ls 3 [(0, .ref au)] := hl
  refine lv_iconst (v := 0) hx hb dX0_hurriedRings_0 (by decide) ?_
  refine lv_istore_n (lv' := [(1, .int 0), (0, .ref au)]) hx hb dX0_hurriedRings_1 rfl hl (by decide) rfl (fun ls hl => ?_)
  refine lv_iconst (v := 0) hx hb dX0_hurriedRings_2 (by decide) ?_
  refine lv_istore_n (lv' := [(2, .int 0), (1, .int 0), (0, .ref au)]) hx hb dX0_hurriedRings_3 rfl hl (by decide) rfl (fun ls hl => ?_)
  refine pu_loop (np) (fun ii H locs ls => ∃ v0 : Int32, va_P (dC, dI) vwCl [(au, .inr (0, [.int (nI nc), .int (nI np), .int (nI ne), .int st0, .ref q4, .ref q5, .ref q6, .ref q7, .ref q8, .ref q9, .ref q10, .ref q11, .ref q12, .ref q13, .ref q14, .ref q15, .ref q16])), (q4, .inl (k4, 8, .inl f4)), (q5, .inl (k5, 14, .inl f5)), (q6, .inl (k6, 14, .inl f6))] H ∧ va_D (fun _ => True) [(au, .inr (0, [.int (nI nc), .int (nI np), .int (nI ne), .int st0, .ref q4, .ref q5, .ref q6, .ref q7, .ref q8, .ref q9, .ref q10, .ref q11, .ref q12, .ref q13, .ref q14, .ref q15, .ref q16])), (q4, .inl (k4, 8, .inl f4)), (q5, .inl (k5, 14, .inl f5)), (q6, .inl (k6, 14, .inl f6))] ∧ va_S (va_A [] s.heap.size) s.heap H locs ∧ lv_has ls 3 [(0, .ref au), (1, .int v0), (2, .int (nI ii))]) (fun _ => 0) (fun _ => 0) 4 [] ?_ ?_ _ _ _ ⟨_, hP, hD, hS, lv_sub hl [2, 1, 0] rfl⟩
  · rintro H locs ls ⟨vl_1, hP, hD, hS, hl⟩
    refine lv_iload_n hx hb dX0_hurriedRings_4 rfl (lv_at hl 2 rfl) ?_
    refine lv_aload_n hx hb dX0_hurriedRings_5 rfl (lv_at hl 0 rfl) ?_
    refine va_get (D := (dC, dI)) (ci := 0) (v := .int (nI np)) (C := RX0) (T := TX0) (N := 17) hx hb hts hiX0 hown hK hP 0 rfl rfl 1 (by decide) v_1 (fun _ h9 => h9) rfl dX0_hurriedRings_6 ?_
    refine lv_icmp_ge (tgt := 46) hx hb dX0_hurriedRings_9 (by decide) (fun _ => ?_) (fun z => absurd (nI_le (a := np) (b := np) (by omega) (by omega)) z)
    refine lv_iload_n hx hb dX0_hurriedRings_46 rfl (lv_at hl 1 rfl) ?_
    exact W.iret (v := vl_1) hx hb hr (fun t ht hW => ⟨⟨vl_1, (), rfl, trivial, trivial⟩, hS.F ht⟩) hS.2.2 dX0_hurriedRings_47
  · rintro i_2 h_3 ih_4 H locs ls ⟨vl_1, hP, hD, hS, hl⟩
    refine lv_iload_n hx hb dX0_hurriedRings_4 rfl (lv_at hl 2 rfl) ?_
    refine lv_aload_n hx hb dX0_hurriedRings_5 rfl (lv_at hl 0 rfl) ?_
    refine va_get (D := (dC, dI)) (ci := 0) (v := .int (nI np)) (C := RX0) (T := TX0) (N := 17) hx hb hts hiX0 hown hK hP 0 rfl rfl 1 (by decide) v_1 (fun _ h9 => h9) rfl dX0_hurriedRings_6 ?_
    refine lv_icmp_ge (tgt := 46) hx hb dX0_hurriedRings_9 (by decide) (fun z => absurd z (nI_ge (a := i_2) (b := np) (by omega) (by omega))) (fun _ => ?_)
    refine lv_aload_n hx hb dX0_hurriedRings_12 rfl (lv_at hl 0 rfl) ?_
    refine va_get (D := (dC, dI)) (ci := 0) (v := .ref q4) (C := RX0) (T := TX0) (N := 17) hx hb hts hiX0 hown hK hP 0 rfl rfl 4 (by decide) v_2 (fun _ h9 => h9) rfl dX0_hurriedRings_13 ?_
    refine lv_iload_n hx hb dX0_hurriedRings_16 rfl (lv_at hl 2 rfl) ?_
    refine va_zald hx hb hK hP 1 0 rfl rfl (vp_in_nI (n := i_2) (by first | omega | exact ix_lt (by omega) (by omega) hn | exact ix_lt0 (by omega) hn | exact ix_ltq (by omega) hn | exact ix_lt1 (by omega) hn) (by omega)) dX0_hurriedRings_17 ?_
    refine lv_if_eq (tgt := 40) hx hb dX0_hurriedRings_18 (by decide) (fun c_5 => ?_) (fun c_5 => ?_)
    · refine lv_iinc (v := (nI (i_2 + 1))) (lv' := [(2, .int (nI (i_2 + 1))), (0, .ref au), (1, .int vl_1)]) hx hb dX0_hurriedRings_40 hl (k := 2) rfl (nI_1 _) (by decide) rfl (fun ls hl => ?_)
      refine lv_goto (tgt := 4) hx hb dX0_hurriedRings_43 (by decide) ?_
      exact ih_4 _ _ _ ⟨_, hP, hD, hS, lv_sub hl [1, 2, 0] rfl⟩
    · refine lv_aload_n hx hb dX0_hurriedRings_21 rfl (lv_at hl 0 rfl) ?_
      refine lv_iload_n hx hb dX0_hurriedRings_22 rfl (lv_at hl 2 rfl) ?_
      refine va_calli (va_runV (As := [.int (nI i_2)]) (rest := []) ⟨hx, hb, hml, hown, hts⟩ (c_X0_hurriedBehind l dC dI _ au q4 q5 q6 q7 q8 q9 q10 q11 q12 q13 q14 q15 q16 nc np ne st0 k4 k5 k6 f4 f5 f6 h6 hp he (nI i_2)) (cwV 1 hts g_X0_hurriedRings_X0_hurriedBehind rfl rfl rfl (by decide +kernel) ⟨Nat.le_of_ble_eq_true rfl, Nat.le_of_ble_eq_true rfl⟩) ⟨pu_bl, va_recv hK hP (ci := 0) (q0 := 0) rfl rfl, pu_in hP hK hD⟩ rfl rfl hl.1 rfl (lv_room (Nat.le_of_ble_eq_true rfl)) dX0_hurriedRings_23 ⟨Nat.le_of_ble_eq_true rfl, Nat.le_of_ble_eq_true rfl⟩) hS (fun q _ h => pu_fr hS hA q h) (pu_fr hS hA) (fun r_6 u t H1 locs ht hvm hw hB hz1 hk1 hS => ?_)
      have hP := pu_keep hP hk1
      clear hk1 hz1 ht hvm
      generalize H1 = H at hP hS ⊢
      refine lv_iload_n hx hb dX0_hurriedRings_26 rfl (lv_at hl 2 rfl) ?_
      refine lv_ishr hx hb dX0_hurriedRings_27 ?_
      refine lv_iconst (v := 1) hx hb dX0_hurriedRings_28 (by decide) ?_
      refine lv_iand hx hb dX0_hurriedRings_29 ?_
      refine lv_iconst (v := 1) hx hb dX0_hurriedRings_30 (by decide) ?_
      refine lv_icmp_ne (tgt := 40) hx hb dX0_hurriedRings_31 (by decide) (fun c_7 => ?_) (fun c_7 => ?_)
      · refine lv_iinc (v := (nI (i_2 + 1))) (lv' := [(2, .int (nI (i_2 + 1))), (0, .ref au), (1, .int vl_1)]) hx hb dX0_hurriedRings_40 hl (k := 2) rfl (nI_1 _) (by decide) rfl (fun ls hl => ?_)
        refine lv_goto (tgt := 4) hx hb dX0_hurriedRings_43 (by decide) ?_
        exact ih_4 _ _ _ ⟨_, hP, hD, hS, lv_sub hl [1, 2, 0] rfl⟩
      · refine lv_iload_n hx hb dX0_hurriedRings_34 rfl (lv_at hl 1 rfl) ?_
        refine lv_iconst (v := 1) hx hb dX0_hurriedRings_35 (by decide) ?_
        refine lv_iload_n hx hb dX0_hurriedRings_36 rfl (lv_at hl 2 rfl) ?_
        refine lv_ishl hx hb dX0_hurriedRings_37 ?_
        refine lv_ior hx hb dX0_hurriedRings_38 ?_
        refine lv_istore_n (lv' := [(1, .int (vl_1 ||| ((1 : Int32) <<< (((nI i_2) : Int32) &&& 31)))), (0, .ref au), (2, .int (nI i_2))]) hx hb dX0_hurriedRings_39 rfl hl (by decide) rfl (fun ls hl => ?_)
        refine lv_iinc (v := (nI (i_2 + 1))) (lv' := [(2, .int (nI (i_2 + 1))), (1, .int (vl_1 ||| ((1 : Int32) <<< (((nI i_2) : Int32) &&& 31)))), (0, .ref au)]) hx hb dX0_hurriedRings_40 hl (k := 2) rfl (nI_1 _) (by decide) rfl (fun ls hl => ?_)
        refine lv_goto (tgt := 4) hx hb dX0_hurriedRings_43 (by decide) ?_
        exact ih_4 _ _ _ ⟨_, hP, hD, hS, lv_sub hl [2, 1, 0] rfl⟩
