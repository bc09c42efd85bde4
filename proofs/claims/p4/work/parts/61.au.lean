theorem eX0_slot_0 : decode cX0_slot 0 = .ok (.iload_n 0, 1) := by decide +kernel
theorem eX0_slot_1 : decode cX0_slot 1 = .ok (.iconst 4, 1) := by decide +kernel
theorem eX0_slot_2 : decode cX0_slot 2 = .ok (.imul, 1) := by decide +kernel
theorem eX0_slot_3 : decode cX0_slot 3 = .ok (.iload_n 1, 1) := by decide +kernel
theorem eX0_slot_4 : decode cX0_slot 4 = .ok (.iadd, 1) := by decide +kernel
theorem eX0_slot_5 : decode cX0_slot 5 = .ok (.ireturn, 1) := by decide +kernel
abbrev vs_C_0_slot : List Cond := .code yX0_slot cX0_slot 2 (some .int) :: CM
set_option maxHeartbeats 4000000 in
set_option maxRecDepth 100000 in
theorem c_C_0_slot (l : Launch) (dC : Nat → ClassId) (dI : Nat → Nat → Nat) (sz : Nat) (a0 : Nat) (a1 : Nat) (ha0 : a0 ≤ 21) (ha1 : a1 ≤ 4) : Met l yX0_slot vs_C_0_slot ({ frames := 0, cells := 0, slots := 0, locals := 0 }) (va_Pc [.int (nI a0), .int (nI a1)] (pu_B (dC, dI) [] [] sz)) (va_Qi (fun (r : Int32) (_ : Unit) => r = nI (a0 * 4 + a1)) (fun _ _ => True) (va_A [] sz)) 0 0 (va_A [] sz) := by
  refine Met.ofW (cc := cX0_slot) (maxL := 2) (ret := (some .int)) (by decide) rfl ?_
  intro p e s m args below meth c s₁ B hml hv
  obtain ⟨rfl, rfl, hP, hK, hD0⟩ := hv
  have hx := B.exec
  have hb := B.bytes
  have hr := B.returns
  have hts := atoms_spec (ws := vs_C_0_slot) B.pre
  have hown : s.vm.findClass RX0 = some m.cls := findClass_of_methodNamed B.named
  have hlocks := B.notSynchronized
  have hD := hD0
  have hA : ∀ q : Nat, s.heap.size ≤ q → va_A [] s.heap.size q := fun _ h => Or.inr h
  have hS : va_S (va_A [] s.heap.size) s.heap s.heap [] := va_S.rf
  have hl := lv_entry ([.int (nI a0), .int (nI a1)]) (n := 2) (Nat.le_of_ble_eq_true rfl)
  rw [lg_entry_eq]
  generalize (lg_sl ([.int (nI a0), .int (nI a1)]) ++ List.replicate (2 - (lg_sl ([.int (nI a0), .int (nI a1)])).length) Slot.unset).toArray = ls at hl ⊢
  have hl : lv_has ls 2 [(0, .int (nI a0)), (1, .int (nI a1))] := hl
  refine lv_iload_n hx hb eX0_slot_0 rfl (lv_at hl 0 rfl) ?_
  refine lv_iconst (v := 4) hx hb eX0_slot_1 (by decide) ?_
  refine lv_imul hx hb eX0_slot_2 ?_
  refine lv_topi (fun y_1 ey_1 => ?_)
  obtain rfl : y_1 = (nI (a0 * 4)) := ey_1.trans (pk_mul a0 4)
  refine lv_iload_n hx hb eX0_slot_3 rfl (lv_at hl 1 rfl) ?_
  refine lv_iadd hx hb eX0_slot_4 ?_
  refine lv_topi (fun y_2 ey_2 => ?_)
  obtain rfl : y_2 = (nI ((a0 * 4) + a1)) := ey_2.trans (nI_add (a0 * 4) a1)
  exact W.iret (v := (nI ((a0 * 4) + a1))) hx hb hr (fun t ht hW => ⟨⟨(nI ((a0 * 4) + a1)), (), rfl, congrArg nI (by omega), trivial⟩, hS.F ht⟩) hS.2.2 eX0_slot_5
theorem eX0_hostOfPlace_0 : decode cX0_hostOfPlace 0 = .ok (.bipush 14, 2) := by decide +kernel
theorem eX0_hostOfPlace_2 : decode cX0_hostOfPlace 2 = .ok (.iload_n 0, 1) := by decide +kernel
theorem eX0_hostOfPlace_3 : decode cX0_hostOfPlace 3 = .ok (.iadd, 1) := by decide +kernel
theorem eX0_hostOfPlace_4 : decode cX0_hostOfPlace 4 = .ok (.ireturn, 1) := by decide +kernel
abbrev vs_C_0_hostOfPlace : List Cond := .code yX0_hostOfPlace cX0_hostOfPlace 1 (some .int) :: CM
set_option maxHeartbeats 4000000 in
set_option maxRecDepth 100000 in
theorem c_C_0_hostOfPlace (l : Launch) (dC : Nat → ClassId) (dI : Nat → Nat → Nat) (sz : Nat) (a0 : Nat) (ha0 : a0 ≤ 7) : Met l yX0_hostOfPlace vs_C_0_hostOfPlace ({ frames := 0, cells := 0, slots := 0, locals := 0 }) (va_Pc [.int (nI a0)] (pu_B (dC, dI) [] [] sz)) (va_Qi (fun (r : Int32) (_ : Unit) => r = nI (14 + a0)) (fun _ _ => True) (va_A [] sz)) 0 0 (va_A [] sz) := by
  refine Met.ofW (cc := cX0_hostOfPlace) (maxL := 1) (ret := (some .int)) (by decide) rfl ?_
  intro p e s m args below meth c s₁ B hml hv
  obtain ⟨rfl, rfl, hP, hK, hD0⟩ := hv
  have hx := B.exec
  have hb := B.bytes
  have hr := B.returns
  have hts := atoms_spec (ws := vs_C_0_hostOfPlace) B.pre
  have hown : s.vm.findClass RX0 = some m.cls := findClass_of_methodNamed B.named
  have hlocks := B.notSynchronized
  have hD := hD0
  have hA : ∀ q : Nat, s.heap.size ≤ q → va_A [] s.heap.size q := fun _ h => Or.inr h
  have hS : va_S (va_A [] s.heap.size) s.heap s.heap [] := va_S.rf
  have hl := lv_entry ([.int (nI a0)]) (n := 1) (Nat.le_of_ble_eq_true rfl)
  rw [lg_entry_eq]
  generalize (lg_sl ([.int (nI a0)]) ++ List.replicate (1 - (lg_sl ([.int (nI a0)])).length) Slot.unset).toArray = ls at hl ⊢
  have hl : lv_has ls 1 [(0, .int (nI a0))] := hl
  refine lv_bipush (v := 14) hx hb eX0_hostOfPlace_0 (by decide) ?_
  refine lv_iload_n hx hb eX0_hostOfPlace_2 rfl (lv_at hl 0 rfl) ?_
  refine lv_iadd hx hb eX0_hostOfPlace_3 ?_
  refine lv_topi (fun y_1 ey_1 => ?_)
  obtain rfl : y_1 = (nI (14 + a0)) := ey_1.trans (nI_add 14 a0)
  exact W.iret (v := (nI (14 + a0))) hx hb hr (fun t ht hW => ⟨⟨(nI (14 + a0)), (), rfl, congrArg nI (by omega), trivial⟩, hS.F ht⟩) hS.2.2 eX0_hostOfPlace_4
theorem eX0_setBounds_0 : decode cX0_setBounds 0 = .ok (.aload_n 0, 1) := by decide +kernel
theorem eX0_setBounds_1 : decode cX0_setBounds 1 = .ok (.getfield 35, 3) := by decide +kernel
theorem eX0_setBounds_4 : decode cX0_setBounds 4 = .ok (.iload_n 1, 1) := by decide +kernel
theorem eX0_setBounds_5 : decode cX0_setBounds 5 = .ok (.iaload, 1) := by decide +kernel
theorem eX0_setBounds_6 : decode cX0_setBounds 6 = .ok (.istore_n 2, 1) := by decide +kernel
theorem eX0_setBounds_7 : decode cX0_setBounds 7 = .ok (.aload_n 0, 1) := by decide +kernel
theorem eX0_setBounds_8 : decode cX0_setBounds 8 = .ok (.getfield 38, 3) := by decide +kernel
theorem eX0_setBounds_11 : decode cX0_setBounds 11 = .ok (.iload_n 1, 1) := by decide +kernel
theorem eX0_setBounds_12 : decode cX0_setBounds 12 = .ok (.iaload, 1) := by decide +kernel
theorem eX0_setBounds_13 : decode cX0_setBounds 13 = .ok (.istore_n 3, 1) := by decide +kernel
theorem eX0_setBounds_14 : decode cX0_setBounds 14 = .ok (.aload_n 0, 1) := by decide +kernel
theorem eX0_setBounds_15 : decode cX0_setBounds 15 = .ok (.getfield 41, 3) := by decide +kernel
theorem eX0_setBounds_18 : decode cX0_setBounds 18 = .ok (.iload_n 1, 1) := by decide +kernel
theorem eX0_setBounds_19 : decode cX0_setBounds 19 = .ok (.iload_n 2, 1) := by decide +kernel
theorem eX0_setBounds_20 : decode cX0_setBounds 20 = .ok (.iconst 2, 1) := by decide +kernel
theorem eX0_setBounds_21 : decode cX0_setBounds 21 = .ok (.if_icmp .le 8, 3) := by decide +kernel
theorem eX0_setBounds_24 : decode cX0_setBounds 24 = .ok (.ldc 75, 2) := by decide +kernel
theorem eX0_setBounds_26 : decode cX0_setBounds 26 = .ok (.goto 18, 3) := by decide +kernel
theorem eX0_setBounds_29 : decode cX0_setBounds 29 = .ok (.iload_n 2, 1) := by decide +kernel
theorem eX0_setBounds_30 : decode cX0_setBounds 30 = .ok (.ifCond .ne 9, 3) := by decide +kernel
theorem eX0_setBounds_33 : decode cX0_setBounds 33 = .ok (.iconst 2, 1) := by decide +kernel
theorem eX0_setBounds_34 : decode cX0_setBounds 34 = .ok (.iload_n 3, 1) := by decide +kernel
theorem eX0_setBounds_35 : decode cX0_setBounds 35 = .ok (.imul, 1) := by decide +kernel
theorem eX0_setBounds_36 : decode cX0_setBounds 36 = .ok (.goto 8, 3) := by decide +kernel
theorem eX0_setBounds_39 : decode cX0_setBounds 39 = .ok (.iconst 2, 1) := by decide +kernel
theorem eX0_setBounds_40 : decode cX0_setBounds 40 = .ok (.iload_n 3, 1) := by decide +kernel
theorem eX0_setBounds_41 : decode cX0_setBounds 41 = .ok (.imul, 1) := by decide +kernel
theorem eX0_setBounds_42 : decode cX0_setBounds 42 = .ok (.iconst 1, 1) := by decide +kernel
theorem eX0_setBounds_43 : decode cX0_setBounds 43 = .ok (.iadd, 1) := by decide +kernel
theorem eX0_setBounds_44 : decode cX0_setBounds 44 = .ok (.iastore, 1) := by decide +kernel
theorem eX0_setBounds_45 : decode cX0_setBounds 45 = .ok (.aload_n 0, 1) := by decide +kernel
theorem eX0_setBounds_46 : decode cX0_setBounds 46 = .ok (.getfield 44, 3) := by decide +kernel
theorem eX0_setBounds_49 : decode cX0_setBounds 49 = .ok (.iload_n 1, 1) := by decide +kernel
theorem eX0_setBounds_50 : decode cX0_setBounds 50 = .ok (.iload_n 2, 1) := by decide +kernel
theorem eX0_setBounds_51 : decode cX0_setBounds 51 = .ok (.iconst 2, 1) := by decide +kernel
theorem eX0_setBounds_52 : decode cX0_setBounds 52 = .ok (.if_icmp .ge 8, 3) := by decide +kernel
theorem eX0_setBounds_55 : decode cX0_setBounds 55 = .ok (.ldc 75, 2) := by decide +kernel
theorem eX0_setBounds_57 : decode cX0_setBounds 57 = .ok (.goto 20, 3) := by decide +kernel
theorem eX0_setBounds_60 : decode cX0_setBounds 60 = .ok (.iload_n 2, 1) := by decide +kernel
theorem eX0_setBounds_61 : decode cX0_setBounds 61 = .ok (.iconst 4, 1) := by decide +kernel
theorem eX0_setBounds_62 : decode cX0_setBounds 62 = .ok (.if_icmp .ne 10, 3) := by decide +kernel
theorem eX0_setBounds_65 : decode cX0_setBounds 65 = .ok (.bipush (-2), 2) := by decide +kernel
theorem eX0_setBounds_67 : decode cX0_setBounds 67 = .ok (.iload_n 3, 1) := by decide +kernel
theorem eX0_setBounds_68 : decode cX0_setBounds 68 = .ok (.imul, 1) := by decide +kernel
theorem eX0_setBounds_69 : decode cX0_setBounds 69 = .ok (.goto 8, 3) := by decide +kernel
theorem eX0_setBounds_72 : decode cX0_setBounds 72 = .ok (.iconst 1, 1) := by decide +kernel
theorem eX0_setBounds_73 : decode cX0_setBounds 73 = .ok (.iconst 2, 1) := by decide +kernel
theorem eX0_setBounds_74 : decode cX0_setBounds 74 = .ok (.iload_n 3, 1) := by decide +kernel
theorem eX0_setBounds_75 : decode cX0_setBounds 75 = .ok (.imul, 1) := by decide +kernel
theorem eX0_setBounds_76 : decode cX0_setBounds 76 = .ok (.isub, 1) := by decide +kernel
theorem eX0_setBounds_77 : decode cX0_setBounds 77 = .ok (.iastore, 1) := by decide +kernel
theorem eX0_setBounds_78 : decode cX0_setBounds 78 = .ok (.return_, 1) := by decide +kernel
abbrev vs_C_0_setBounds : List Cond := .code yX0_setBounds cX0_setBounds 4 none :: CM
set_option maxHeartbeats 4000000 in
set_option maxRecDepth 100000 in
theorem c_C_0_setBounds (l : Launch) (dC : Nat → ClassId) (dI : Nat → Nat → Nat) (sz : Nat) (au : Nat) (nc : Nat) (np : Nat) (ne : Nat) (st0 : Int32) (q4 : Nat) (q5 : Nat) (q6 : Nat) (q7 : Nat) (q8 : Nat) (q9 : Nat) (q10 : Nat) (q11 : Nat) (q12 : Nat) (q13 : Nat) (q14 : Nat) (q15 : Nat) (q16 : Nat) (k_f4 : ClassId) (f4 : Nat → Int32) (k_f5 : ClassId) (q_f5 : Nat → Nat) (k_f6 : ClassId) (q_f6 : Nat → Nat) (k_f7 : ClassId) (f7 : Nat → Int32) (k_f8 : ClassId) (q_f8 : Nat → Nat) (k_f9 : ClassId) (q_f9 : Nat → Nat) (k_f10 : ClassId) (f10 : Nat → Int32) (k_f11 : ClassId) (f11 : Nat → Int32) (k_f12 : ClassId) (f12 : Nat → Int32) (k_f13 : ClassId) (f13 : Nat → Int32) (k_f14 : ClassId) (f14 : Nat → Int32) (k_f15 : ClassId) (f15 : Nat → Int32) (k_f16 : ClassId) (f16 : Nat → Int32) (a0 : Nat) (hnc : nc ≤ 3) (hnp : np ≤ 8) (hne : ne ≤ 14) (hst0 : pm1 7 st0) (ha0 : a0 ≤ 87) : Met l yX0_setBounds vs_C_0_setBounds ({ frames := 0, cells := 0, slots := 0, locals := 0 }) (va_Pc [.ref au, .int (nI a0)] (pu_B (dC, dI) (au__w au (nI nc) (nI np) (nI ne) st0 q4 q5 q6 q7 q8 q9 q10 q11 q12 q13 q14 q15 q16 k_f4 f4 k_f5 (bN 7 q_f5) k_f6 (bN 7 q_f6) k_f7 f7 k_f8 (bN 4 q_f8) k_f9 (bN 2 q_f9) k_f10 f10 k_f11 f11 k_f12 f12 k_f13 f13 k_f14 f14 k_f15 f15 k_f16 f16) (au__t k_f4 k_f5 k_f6 k_f7 k_f8 k_f9 k_f10 k_f11 k_f12 k_f13 k_f14 k_f15 k_f16) sz)) (va_Qv (fun (_ : Unit) => True) (fun _ t => ∃ (z_f13 : Nat → Int32) (z_f12 : Nat → Int32), pu_E (dC, dI) (au__w au (nI nc) (nI np) (nI ne) st0 q4 q5 q6 q7 q8 q9 q10 q11 q12 q13 q14 q15 q16 k_f4 f4 k_f5 (bN 7 q_f5) k_f6 (bN 7 q_f6) k_f7 f7 k_f8 (bN 4 q_f8) k_f9 (bN 2 q_f9) k_f10 f10 k_f11 f11 k_f12 z_f12 k_f13 z_f13 k_f14 f14 k_f15 f15 k_f16 f16) (au__t k_f4 k_f5 k_f6 k_f7 k_f8 k_f9 k_f10 k_f11 k_f12 k_f13 k_f14 k_f15 k_f16) (va_A ((au__w au (nI nc) (nI np) (nI ne) st0 q4 q5 q6 q7 q8 q9 q10 q11 q12 q13 q14 q15 q16 k_f4 f4 k_f5 (bN 7 q_f5) k_f6 (bN 7 q_f6) k_f7 f7 k_f8 (bN 4 q_f8) k_f9 (bN 2 q_f9) k_f10 f10 k_f11 f11 k_f12 f12 k_f13 f13 k_f14 f14 k_f15 f15 k_f16 f16)) sz) t) (va_A ((au__w au (nI nc) (nI np) (nI ne) st0 q4 q5 q6 q7 q8 q9 q10 q11 q12 q13 q14 q15 q16 k_f4 f4 k_f5 (bN 7 q_f5) k_f6 (bN 7 q_f6) k_f7 f7 k_f8 (bN 4 q_f8) k_f9 (bN 2 q_f9) k_f10 f10 k_f11 f11 k_f12 f12 k_f13 f13 k_f14 f14 k_f15 f15 k_f16 f16)) sz)) 0 0 (va_A ((au__w au (nI nc) (nI np) (nI ne) st0 q4 q5 q6 q7 q8 q9 q10 q11 q12 q13 q14 q15 q16 k_f4 f4 k_f5 (bN 7 q_f5) k_f6 (bN 7 q_f6) k_f7 f7 k_f8 (bN 4 q_f8) k_f9 (bN 2 q_f9) k_f10 f10 k_f11 f11 k_f12 f12 k_f13 f13 k_f14 f14 k_f15 f15 k_f16 f16)) sz) := by
  refine Met.ofW (cc := cX0_setBounds) (maxL := 4) (ret := none) (by decide) rfl ?_
  intro p e s m args below meth c s₁ B hml hv
  obtain ⟨rfl, rfl, hP, hK, hD0⟩ := hv
  have hx := B.exec
  have hb := B.bytes
  have hr := B.returns
  have hts := atoms_spec (ws := vs_C_0_setBounds) B.pre
  have v_1 := hts (.fieldLink RX0 35 "ClockReach$Automaton" "hows" "[I") (List.mem_cons_of_mem _ cm_15)
  have v_2 := hts (.fieldLink RX0 38 "ClockReach$Automaton" "numbers" "[I") (List.mem_cons_of_mem _ cm_16)
  have v_3 := hts (.fieldLink RX0 41 "ClockReach$Automaton" "ceilings" "[I") (List.mem_cons_of_mem _ cm_24)
  have v_4 := hts (.constant RX0 75 (2147483647)) (List.mem_cons_of_mem _ cm_25)
  have v_5 := hts (.fieldLink RX0 44 "ClockReach$Automaton" "floors" "[I") (List.mem_cons_of_mem _ cm_26)
  have hown : s.vm.findClass RX0 = some m.cls := findClass_of_methodNamed B.named
  have hlocks := B.notSynchronized
  have hiX0 : ∀ w ∈ wsX00, w ∈ vs_C_0_setBounds := fun _ h => List.mem_cons_of_mem _ (cm_X0 h)
  have hD := hD0.self (sz := s.heap.size)
  generalize hAe : va_A ((au__w au (nI nc) (nI np) (nI ne) st0 q4 q5 q6 q7 q8 q9 q10 q11 q12 q13 q14 q15 q16 k_f4 f4 k_f5 (bN 7 q_f5) k_f6 (bN 7 q_f6) k_f7 f7 k_f8 (bN 4 q_f8) k_f9 (bN 2 q_f9) k_f10 f10 k_f11 f11 k_f12 f12 k_f13 f13 k_f14 f14 k_f15 f15 k_f16 f16)) s.heap.size = A at hD ⊢
  have hA : ∀ q : Nat, s.heap.size ≤ q → A q := fun q h => by rw [← hAe]; exact Or.inr h
  have hS : va_S A s.heap s.heap [] := va_S.rf
  have hl := lv_entry ([.ref au, .int (nI a0)]) (n := 4) (Nat.le_of_ble_eq_true rfl)
  rw [lg_entry_eq]
  generalize (lg_sl ([.ref au, .int (nI a0)]) ++ List.replicate (4 - (lg_sl ([.ref au, .int (nI a0)])).length) Slot.unset).toArray = ls at hl ⊢
  have hl : lv_has ls 4 [(0, .ref au), (1, .int (nI a0))] := hl
  refine lv_aload_n hx hb eX0_setBounds_0 rfl (lv_at hl 0 rfl) ?_
  refine va_get (D := (dC, dI)) (ci := 0) (v := .ref q10) (C := RX0) (T := TX0) (N := 17) hx hb hts hiX0 hown hK hP 0 rfl rfl 10 (by decide) v_1 (fun _ h9 => h9) rfl eX0_setBounds_1 ?_
  refine lv_iload_n hx hb eX0_setBounds_4 rfl (lv_at hl 1 rfl) ?_
  refine va_iald hx hb hK hP 7 6 rfl rfl (vp_in_nI (n := a0) (Nat.lt_of_le_of_lt ha0 (Nat.le_of_ble_eq_true rfl)) (Nat.le_of_ble_eq_true rfl)) eX0_setBounds_5 ?_
  refine lv_topi (fun y_1 ey_1 => ?_)
  refine lv_istore_n (lv' := [(2, .int y_1), (0, .ref au), (1, .int (nI a0))]) hx hb eX0_setBounds_6 rfl hl (by decide) rfl (fun ls hl => ?_)
  refine lv_aload_n hx hb eX0_setBounds_7 rfl (lv_at hl 1 rfl) ?_
  refine va_get (D := (dC, dI)) (ci := 0) (v := .ref q11) (C := RX0) (T := TX0) (N := 17) hx hb hts hiX0 hown hK hP 0 rfl rfl 11 (by decide) v_2 (fun _ h9 => h9) rfl eX0_setBounds_8 ?_
  refine lv_iload_n hx hb eX0_setBounds_11 rfl (lv_at hl 2 rfl) ?_
  refine va_iald hx hb hK hP 8 7 rfl rfl (vp_in_nI (n := a0) (Nat.lt_of_le_of_lt ha0 (Nat.le_of_ble_eq_true rfl)) (Nat.le_of_ble_eq_true rfl)) eX0_setBounds_12 ?_
  refine lv_topi (fun y_2 ey_2 => ?_)
  refine lv_istore_n (lv' := [(3, .int y_2), (2, .int y_1), (0, .ref au), (1, .int (nI a0))]) hx hb eX0_setBounds_13 rfl hl (by decide) rfl (fun ls hl => ?_)
  refine lv_aload_n hx hb eX0_setBounds_14 rfl (lv_at hl 2 rfl) ?_
  refine va_get (D := (dC, dI)) (ci := 0) (v := .ref q12) (C := RX0) (T := TX0) (N := 17) hx hb hts hiX0 hown hK hP 0 rfl rfl 12 (by decide) v_3 (fun _ h9 => h9) rfl eX0_setBounds_15 ?_
  refine lv_iload_n hx hb eX0_setBounds_18 rfl (lv_at hl 3 rfl) ?_
  refine lv_iload_n hx hb eX0_setBounds_19 rfl (lv_at hl 1 rfl) ?_
  refine lv_iconst (v := 2) hx hb eX0_setBounds_20 (by decide) ?_
  refine pu_join (fun H locs ls st => ∃ (g_3 : Int32), st = [.int g_3, .int (nI a0), .ref q12] ∧ va_P (dC, dI) vwCl (au__w au (nI nc) (nI np) (nI ne) st0 q4 q5 q6 q7 q8 q9 q10 q11 q12 q13 q14 q15 q16 k_f4 f4 k_f5 (bN 7 q_f5) k_f6 (bN 7 q_f6) k_f7 f7 k_f8 (bN 4 q_f8) k_f9 (bN 2 q_f9) k_f10 f10 k_f11 f11 k_f12 f12 k_f13 f13 k_f14 f14 k_f15 f15 k_f16 f16) H ∧ va_D A (au__w au (nI nc) (nI np) (nI ne) st0 q4 q5 q6 q7 q8 q9 q10 q11 q12 q13 q14 q15 q16 k_f4 f4 k_f5 (bN 7 q_f5) k_f6 (bN 7 q_f6) k_f7 f7 k_f8 (bN 4 q_f8) k_f9 (bN 2 q_f9) k_f10 f10 k_f11 f11 k_f12 f12 k_f13 f13 k_f14 f14 k_f15 f15 k_f16 f16) ∧ va_S A s.heap H locs ∧ lv_has ls 4 [(0, .ref au), (1, .int (nI a0)), (2, .int y_1), (3, .int y_2)]) 44 ?_ (fun j_4 => ?_)
  · rintro H locs ls st ⟨g_3, rfl, hP, hD, hS, hl⟩
    refine va_iast hx hb hK hP hD hS 9 8 rfl rfl (vp_in_nI (n := a0) (Nat.lt_of_le_of_lt ha0 (Nat.le_of_ble_eq_true rfl)) (Nat.le_of_ble_eq_true rfl)) eX0_setBounds_44 (fun H locs hP hD hS => ?_)
    have hP : va_P (dC, dI) vwCl (au__w au (nI nc) (nI np) (nI ne) st0 q4 q5 q6 q7 q8 q9 q10 q11 q12 q13 q14 q15 q16 k_f4 f4 k_f5 (bN 7 q_f5) k_f6 (bN 7 q_f6) k_f7 f7 k_f8 (bN 4 q_f8) k_f9 (bN 2 q_f9) k_f10 f10 k_f11 f11 k_f12 (upd f12 ((nI a0) : Int32).toNatClampNeg g_3) k_f13 f13 k_f14 f14 k_f15 f15 k_f16 f16) H := hP
    have hD : va_D A (au__w au (nI nc) (nI np) (nI ne) st0 q4 q5 q6 q7 q8 q9 q10 q11 q12 q13 q14 q15 q16 k_f4 f4 k_f5 (bN 7 q_f5) k_f6 (bN 7 q_f6) k_f7 f7 k_f8 (bN 4 q_f8) k_f9 (bN 2 q_f9) k_f10 f10 k_f11 f11 k_f12 (upd f12 ((nI a0) : Int32).toNatClampNeg g_3) k_f13 f13 k_f14 f14 k_f15 f15 k_f16 f16) := hD
    refine lv_aload_n hx hb eX0_setBounds_45 rfl (lv_at hl 0 rfl) ?_
    refine va_get (D := (dC, dI)) (ci := 0) (v := .ref q13) (C := RX0) (T := TX0) (N := 17) hx hb hts hiX0 hown hK hP 0 rfl rfl 13 (by decide) v_5 (fun _ h9 => h9) rfl eX0_setBounds_46 ?_
    refine lv_iload_n hx hb eX0_setBounds_49 rfl (lv_at hl 1 rfl) ?_
    refine lv_iload_n hx hb eX0_setBounds_50 rfl (lv_at hl 2 rfl) ?_
    refine lv_iconst (v := 2) hx hb eX0_setBounds_51 (by decide) ?_
    refine lv_icmp_ge (tgt := 60) hx hb eX0_setBounds_52 (by decide) (fun c_5 => ?_) (fun c_5 => ?_)
    · refine lv_iload_n hx hb eX0_setBounds_60 rfl (lv_at hl 2 rfl) ?_
      refine lv_iconst (v := 4) hx hb eX0_setBounds_61 (by decide) ?_
      refine lv_icmp_ne (tgt := 72) hx hb eX0_setBounds_62 (by decide) (fun c_6 => ?_) (fun c_6 => ?_)
      · refine lv_iconst (v := 1) hx hb eX0_setBounds_72 (by decide) ?_
        refine lv_iconst (v := 2) hx hb eX0_setBounds_73 (by decide) ?_
        refine lv_iload_n hx hb eX0_setBounds_74 rfl (lv_at hl 3 rfl) ?_
        refine lv_imul hx hb eX0_setBounds_75 ?_
        refine lv_topi (fun y_7 ey_7 => ?_)
        refine lv_isub hx hb eX0_setBounds_76 ?_
        refine lv_topi (fun y_8 ey_8 => ?_)
        refine va_iast hx hb hK hP hD hS 10 9 rfl rfl (vp_in_nI (n := a0) (Nat.lt_of_le_of_lt ha0 (Nat.le_of_ble_eq_true rfl)) (Nat.le_of_ble_eq_true rfl)) eX0_setBounds_77 (fun H locs hP hD hS => ?_)
        have hP : va_P (dC, dI) vwCl (au__w au (nI nc) (nI np) (nI ne) st0 q4 q5 q6 q7 q8 q9 q10 q11 q12 q13 q14 q15 q16 k_f4 f4 k_f5 (bN 7 q_f5) k_f6 (bN 7 q_f6) k_f7 f7 k_f8 (bN 4 q_f8) k_f9 (bN 2 q_f9) k_f10 f10 k_f11 f11 k_f12 (upd f12 ((nI a0) : Int32).toNatClampNeg g_3) k_f13 (upd f13 ((nI a0) : Int32).toNatClampNeg y_8) k_f14 f14 k_f15 f15 k_f16 f16) H := hP
        have hD : va_D A (au__w au (nI nc) (nI np) (nI ne) st0 q4 q5 q6 q7 q8 q9 q10 q11 q12 q13 q14 q15 q16 k_f4 f4 k_f5 (bN 7 q_f5) k_f6 (bN 7 q_f6) k_f7 f7 k_f8 (bN 4 q_f8) k_f9 (bN 2 q_f9) k_f10 f10 k_f11 f11 k_f12 (upd f12 ((nI a0) : Int32).toNatClampNeg g_3) k_f13 (upd f13 ((nI a0) : Int32).toNatClampNeg y_8) k_f14 f14 k_f15 f15 k_f16 f16) := hD
        exact W.vret hx hb hr (fun t ht hW => ⟨⟨(), rfl, trivial, ⟨(upd f13 ((nI a0) : Int32).toNatClampNeg y_8), (upd f12 ((nI a0) : Int32).toNatClampNeg g_3), ⟨by rw [ht]; exact hP, va_K.moved hW.alike hK, hD⟩⟩⟩, hS.F ht⟩) hS.2.2 eX0_setBounds_78
      · refine lv_bipush (v := (-2)) hx hb eX0_setBounds_65 (by decide) ?_
        refine lv_iload_n hx hb eX0_setBounds_67 rfl (lv_at hl 3 rfl) ?_
        refine lv_imul hx hb eX0_setBounds_68 ?_
        refine lv_topi (fun y_9 ey_9 => ?_)
        refine lv_goto (tgt := 77) hx hb eX0_setBounds_69 (by decide) ?_
        refine va_iast hx hb hK hP hD hS 10 9 rfl rfl (vp_in_nI (n := a0) (Nat.lt_of_le_of_lt ha0 (Nat.le_of_ble_eq_true rfl)) (Nat.le_of_ble_eq_true rfl)) eX0_setBounds_77 (fun H locs hP hD hS => ?_)
        have hP : va_P (dC, dI) vwCl (au__w au (nI nc) (nI np) (nI ne) st0 q4 q5 q6 q7 q8 q9 q10 q11 q12 q13 q14 q15 q16 k_f4 f4 k_f5 (bN 7 q_f5) k_f6 (bN 7 q_f6) k_f7 f7 k_f8 (bN 4 q_f8) k_f9 (bN 2 q_f9) k_f10 f10 k_f11 f11 k_f12 (upd f12 ((nI a0) : Int32).toNatClampNeg g_3) k_f13 (upd f13 ((nI a0) : Int32).toNatClampNeg y_9) k_f14 f14 k_f15 f15 k_f16 f16) H := hP
        have hD : va_D A (au__w au (nI nc) (nI np) (nI ne) st0 q4 q5 q6 q7 q8 q9 q10 q11 q12 q13 q14 q15 q16 k_f4 f4 k_f5 (bN 7 q_f5) k_f6 (bN 7 q_f6) k_f7 f7 k_f8 (bN 4 q_f8) k_f9 (bN 2 q_f9) k_f10 f10 k_f11 f11 k_f12 (upd f12 ((nI a0) : Int32).toNatClampNeg g_3) k_f13 (upd f13 ((nI a0) : Int32).toNatClampNeg y_9) k_f14 f14 k_f15 f15 k_f16 f16) := hD
        exact W.vret hx hb hr (fun t ht hW => ⟨⟨(), rfl, trivial, ⟨(upd f13 ((nI a0) : Int32).toNatClampNeg y_9), (upd f12 ((nI a0) : Int32).toNatClampNeg g_3), ⟨by rw [ht]; exact hP, va_K.moved hW.alike hK, hD⟩⟩⟩, hS.F ht⟩) hS.2.2 eX0_setBounds_78
    · refine lv_ldc hx hb hown v_4 eX0_setBounds_55 ?_
      refine lv_goto (tgt := 77) hx hb eX0_setBounds_57 (by decide) ?_
      refine va_iast hx hb hK hP hD hS 10 9 rfl rfl (vp_in_nI (n := a0) (Nat.lt_of_le_of_lt ha0 (Nat.le_of_ble_eq_true rfl)) (Nat.le_of_ble_eq_true rfl)) eX0_setBounds_77 (fun H locs hP hD hS => ?_)
      have hP : va_P (dC, dI) vwCl (au__w au (nI nc) (nI np) (nI ne) st0 q4 q5 q6 q7 q8 q9 q10 q11 q12 q13 q14 q15 q16 k_f4 f4 k_f5 (bN 7 q_f5) k_f6 (bN 7 q_f6) k_f7 f7 k_f8 (bN 4 q_f8) k_f9 (bN 2 q_f9) k_f10 f10 k_f11 f11 k_f12 (upd f12 ((nI a0) : Int32).toNatClampNeg g_3) k_f13 (upd f13 ((nI a0) : Int32).toNatClampNeg 2147483647) k_f14 f14 k_f15 f15 k_f16 f16) H := hP
      have hD : va_D A (au__w au (nI nc) (nI np) (nI ne) st0 q4 q5 q6 q7 q8 q9 q10 q11 q12 q13 q14 q15 q16 k_f4 f4 k_f5 (bN 7 q_f5) k_f6 (bN 7 q_f6) k_f7 f7 k_f8 (bN 4 q_f8) k_f9 (bN 2 q_f9) k_f10 f10 k_f11 f11 k_f12 (upd f12 ((nI a0) : Int32).toNatClampNeg g_3) k_f13 (upd f13 ((nI a0) : Int32).toNatClampNeg 2147483647) k_f14 f14 k_f15 f15 k_f16 f16) := hD
      exact W.vret hx hb hr (fun t ht hW => ⟨⟨(), rfl, trivial, ⟨(upd f13 ((nI a0) : Int32).toNatClampNeg 2147483647), (upd f12 ((nI a0) : Int32).toNatClampNeg g_3), ⟨by rw [ht]; exact hP, va_K.moved hW.alike hK, hD⟩⟩⟩, hS.F ht⟩) hS.2.2 eX0_setBounds_78
  refine lv_icmp_le (tgt := 29) hx hb eX0_setBounds_21 (by decide) (fun c_10 => ?_) (fun c_10 => ?_)
  · refine lv_iload_n hx hb eX0_setBounds_29 rfl (lv_at hl 1 rfl) ?_
    refine lv_if_ne (tgt := 39) hx hb eX0_setBounds_30 (by decide) (fun c_11 => ?_) (fun c_11 => ?_)
    · refine lv_iconst (v := 2) hx hb eX0_setBounds_39 (by decide) ?_
      refine lv_iload_n hx hb eX0_setBounds_40 rfl (lv_at hl 0 rfl) ?_
      refine lv_imul hx hb eX0_setBounds_41 ?_
      refine lv_topi (fun y_12 ey_12 => ?_)
      refine lv_iconst (v := 1) hx hb eX0_setBounds_42 (by decide) ?_
      refine lv_iadd hx hb eX0_setBounds_43 ?_
      refine lv_topi (fun y_13 ey_13 => ?_)
      exact j_4 _ _ _ _ ⟨y_13, rfl, hP, hD, hS, lv_sub hl [2, 3, 1, 0] rfl⟩
    · refine lv_iconst (v := 2) hx hb eX0_setBounds_33 (by decide) ?_
      refine lv_iload_n hx hb eX0_setBounds_34 rfl (lv_at hl 0 rfl) ?_
      refine lv_imul hx hb eX0_setBounds_35 ?_
      refine lv_topi (fun y_14 ey_14 => ?_)
      refine lv_goto (tgt := 44) hx hb eX0_setBounds_36 (by decide) ?_
      exact j_4 _ _ _ _ ⟨y_14, rfl, hP, hD, hS, lv_sub hl [2, 3, 1, 0] rfl⟩
  · refine lv_ldc hx hb hown v_4 eX0_setBounds_24 ?_
    refine lv_goto (tgt := 44) hx hb eX0_setBounds_26 (by decide) ?_
    exact j_4 _ _ _ _ ⟨2147483647, rfl, hP, hD, hS, lv_sub hl [2, 3, 1, 0] rfl⟩
theorem eX0_measure_0 : decode cX0_measure 0 = .ok (.iconst 0, 1) := by decide +kernel
theorem eX0_measure_1 : decode cX0_measure 1 = .ok (.istore_n 1, 1) := by decide +kernel
theorem eX0_measure_2 : decode cX0_measure 2 = .ok (.iload_n 1, 1) := by decide +kernel
theorem eX0_measure_3 : decode cX0_measure 3 = .ok (.iconst 3, 1) := by decide +kernel
theorem eX0_measure_4 : decode cX0_measure 4 = .ok (.if_icmp .gt 30, 3) := by decide +kernel
theorem eX0_measure_7 : decode cX0_measure 7 = .ok (.aload_n 0, 1) := by decide +kernel
theorem eX0_measure_8 : decode cX0_measure 8 = .ok (.getfield 47, 3) := by decide +kernel
theorem eX0_measure_11 : decode cX0_measure 11 = .ok (.iload_n 1, 1) := by decide +kernel
theorem eX0_measure_12 : decode cX0_measure 12 = .ok (.iconst 0, 1) := by decide +kernel
theorem eX0_measure_13 : decode cX0_measure 13 = .ok (.iastore, 1) := by decide +kernel
theorem eX0_measure_14 : decode cX0_measure 14 = .ok (.aload_n 0, 1) := by decide +kernel
theorem eX0_measure_15 : decode cX0_measure 15 = .ok (.getfield 50, 3) := by decide +kernel
theorem eX0_measure_18 : decode cX0_measure 18 = .ok (.iload_n 1, 1) := by decide +kernel
theorem eX0_measure_19 : decode cX0_measure 19 = .ok (.iconst 0, 1) := by decide +kernel
theorem eX0_measure_20 : decode cX0_measure 20 = .ok (.iastore, 1) := by decide +kernel
theorem eX0_measure_21 : decode cX0_measure 21 = .ok (.aload_n 0, 1) := by decide +kernel
theorem eX0_measure_22 : decode cX0_measure 22 = .ok (.getfield 53, 3) := by decide +kernel
theorem eX0_measure_25 : decode cX0_measure 25 = .ok (.iload_n 1, 1) := by decide +kernel
theorem eX0_measure_26 : decode cX0_measure 26 = .ok (.iconst 0, 1) := by decide +kernel
theorem eX0_measure_27 : decode cX0_measure 27 = .ok (.iastore, 1) := by decide +kernel
theorem eX0_measure_28 : decode cX0_measure 28 = .ok (.iinc 1 1, 3) := by decide +kernel
theorem eX0_measure_31 : decode cX0_measure 31 = .ok (.goto (-29), 3) := by decide +kernel
theorem eX0_measure_34 : decode cX0_measure 34 = .ok (.iconst 0, 1) := by decide +kernel
theorem eX0_measure_35 : decode cX0_measure 35 = .ok (.istore_n 1, 1) := by decide +kernel
theorem eX0_measure_36 : decode cX0_measure 36 = .ok (.iload_n 1, 1) := by decide +kernel
theorem eX0_measure_37 : decode cX0_measure 37 = .ok (.bipush 22, 2) := by decide +kernel
theorem eX0_measure_39 : decode cX0_measure 39 = .ok (.if_icmp .ge 132, 3) := by decide +kernel
theorem eX0_measure_42 : decode cX0_measure 42 = .ok (.iconst 0, 1) := by decide +kernel
theorem eX0_measure_43 : decode cX0_measure 43 = .ok (.istore_n 2, 1) := by decide +kernel
theorem eX0_measure_44 : decode cX0_measure 44 = .ok (.iload_n 2, 1) := by decide +kernel
theorem eX0_measure_45 : decode cX0_measure 45 = .ok (.aload_n 0, 1) := by decide +kernel
theorem eX0_measure_46 : decode cX0_measure 46 = .ok (.getfield 29, 3) := by decide +kernel
theorem eX0_measure_49 : decode cX0_measure 49 = .ok (.iload_n 1, 1) := by decide +kernel
theorem eX0_measure_50 : decode cX0_measure 50 = .ok (.iaload, 1) := by decide +kernel
theorem eX0_measure_51 : decode cX0_measure 51 = .ok (.if_icmp .ge 114, 3) := by decide +kernel
theorem eX0_measure_54 : decode cX0_measure 54 = .ok (.iload_n 1, 1) := by decide +kernel
theorem eX0_measure_55 : decode cX0_measure 55 = .ok (.iload_n 2, 1) := by decide +kernel
theorem eX0_measure_56 : decode cX0_measure 56 = .ok (.invokestatic 65, 3) := by decide +kernel
theorem eX0_measure_59 : decode cX0_measure 59 = .ok (.istore_n 3, 1) := by decide +kernel
theorem eX0_measure_60 : decode cX0_measure 60 = .ok (.aload_n 0, 1) := by decide +kernel
theorem eX0_measure_61 : decode cX0_measure 61 = .ok (.getfield 32, 3) := by decide +kernel
theorem eX0_measure_64 : decode cX0_measure 64 = .ok (.iload_n 3, 1) := by decide +kernel
theorem eX0_measure_65 : decode cX0_measure 65 = .ok (.iaload, 1) := by decide +kernel
theorem eX0_measure_66 : decode cX0_measure 66 = .ok (.iconst 1, 1) := by decide +kernel
theorem eX0_measure_67 : decode cX0_measure 67 = .ok (.iadd, 1) := by decide +kernel
theorem eX0_measure_68 : decode cX0_measure 68 = .ok (.istore 4, 2) := by decide +kernel
theorem eX0_measure_70 : decode cX0_measure 70 = .ok (.aload_n 0, 1) := by decide +kernel
theorem eX0_measure_71 : decode cX0_measure 71 = .ok (.getfield 47, 3) := by decide +kernel
theorem eX0_measure_74 : decode cX0_measure 74 = .ok (.iload 4, 2) := by decide +kernel
theorem eX0_measure_76 : decode cX0_measure 76 = .ok (.aload_n 0, 1) := by decide +kernel
theorem eX0_measure_77 : decode cX0_measure 77 = .ok (.getfield 47, 3) := by decide +kernel
theorem eX0_measure_80 : decode cX0_measure 80 = .ok (.iload 4, 2) := by decide +kernel
theorem eX0_measure_82 : decode cX0_measure 82 = .ok (.iaload, 1) := by decide +kernel
theorem eX0_measure_83 : decode cX0_measure 83 = .ok (.aload_n 0, 1) := by decide +kernel
theorem eX0_measure_84 : decode cX0_measure 84 = .ok (.getfield 38, 3) := by decide +kernel
theorem eX0_measure_87 : decode cX0_measure 87 = .ok (.iload_n 3, 1) := by decide +kernel
theorem eX0_measure_88 : decode cX0_measure 88 = .ok (.iaload, 1) := by decide +kernel
theorem eX0_measure_89 : decode cX0_measure 89 = .ok (.invokestatic 79, 3) := by decide +kernel
theorem eX0_measure_92 : decode cX0_measure 92 = .ok (.iastore, 1) := by decide +kernel
theorem eX0_measure_93 : decode cX0_measure 93 = .ok (.aload_n 0, 1) := by decide +kernel
theorem eX0_measure_94 : decode cX0_measure 94 = .ok (.getfield 35, 3) := by decide +kernel
theorem eX0_measure_97 : decode cX0_measure 97 = .ok (.iload_n 3, 1) := by decide +kernel
theorem eX0_measure_98 : decode cX0_measure 98 = .ok (.iaload, 1) := by decide +kernel
theorem eX0_measure_99 : decode cX0_measure 99 = .ok (.iconst 2, 1) := by decide +kernel
theorem eX0_measure_100 : decode cX0_measure 100 = .ok (.if_icmp .lt 26, 3) := by decide +kernel
theorem eX0_measure_103 : decode cX0_measure 103 = .ok (.aload_n 0, 1) := by decide +kernel
theorem eX0_measure_104 : decode cX0_measure 104 = .ok (.getfield 50, 3) := by decide +kernel
theorem eX0_measure_107 : decode cX0_measure 107 = .ok (.iload 4, 2) := by decide +kernel
theorem eX0_measure_109 : decode cX0_measure 109 = .ok (.aload_n 0, 1) := by decide +kernel
theorem eX0_measure_110 : decode cX0_measure 110 = .ok (.getfield 50, 3) := by decide +kernel
theorem eX0_measure_113 : decode cX0_measure 113 = .ok (.iload 4, 2) := by decide +kernel
theorem eX0_measure_115 : decode cX0_measure 115 = .ok (.iaload, 1) := by decide +kernel
theorem eX0_measure_116 : decode cX0_measure 116 = .ok (.aload_n 0, 1) := by decide +kernel
theorem eX0_measure_117 : decode cX0_measure 117 = .ok (.getfield 38, 3) := by decide +kernel
theorem eX0_measure_120 : decode cX0_measure 120 = .ok (.iload_n 3, 1) := by decide +kernel
theorem eX0_measure_121 : decode cX0_measure 121 = .ok (.iaload, 1) := by decide +kernel
theorem eX0_measure_122 : decode cX0_measure 122 = .ok (.invokestatic 79, 3) := by decide +kernel
theorem eX0_measure_125 : decode cX0_measure 125 = .ok (.iastore, 1) := by decide +kernel
theorem eX0_measure_126 : decode cX0_measure 126 = .ok (.aload_n 0, 1) := by decide +kernel
theorem eX0_measure_127 : decode cX0_measure 127 = .ok (.getfield 35, 3) := by decide +kernel
theorem eX0_measure_130 : decode cX0_measure 130 = .ok (.iload_n 3, 1) := by decide +kernel
theorem eX0_measure_131 : decode cX0_measure 131 = .ok (.iaload, 1) := by decide +kernel
theorem eX0_measure_132 : decode cX0_measure 132 = .ok (.iconst 2, 1) := by decide +kernel
theorem eX0_measure_133 : decode cX0_measure 133 = .ok (.if_icmp .gt 26, 3) := by decide +kernel
theorem eX0_measure_136 : decode cX0_measure 136 = .ok (.aload_n 0, 1) := by decide +kernel
theorem eX0_measure_137 : decode cX0_measure 137 = .ok (.getfield 53, 3) := by decide +kernel
theorem eX0_measure_140 : decode cX0_measure 140 = .ok (.iload 4, 2) := by decide +kernel
theorem eX0_measure_142 : decode cX0_measure 142 = .ok (.aload_n 0, 1) := by decide +kernel
theorem eX0_measure_143 : decode cX0_measure 143 = .ok (.getfield 53, 3) := by decide +kernel
theorem eX0_measure_146 : decode cX0_measure 146 = .ok (.iload 4, 2) := by decide +kernel
theorem eX0_measure_148 : decode cX0_measure 148 = .ok (.iaload, 1) := by decide +kernel
theorem eX0_measure_149 : decode cX0_measure 149 = .ok (.aload_n 0, 1) := by decide +kernel
theorem eX0_measure_150 : decode cX0_measure 150 = .ok (.getfield 38, 3) := by decide +kernel
theorem eX0_measure_153 : decode cX0_measure 153 = .ok (.iload_n 3, 1) := by decide +kernel
theorem eX0_measure_154 : decode cX0_measure 154 = .ok (.iaload, 1) := by decide +kernel
theorem eX0_measure_155 : decode cX0_measure 155 = .ok (.invokestatic 79, 3) := by decide +kernel
theorem eX0_measure_158 : decode cX0_measure 158 = .ok (.iastore, 1) := by decide +kernel
theorem eX0_measure_159 : decode cX0_measure 159 = .ok (.iinc 2 1, 3) := by decide +kernel
theorem eX0_measure_162 : decode cX0_measure 162 = .ok (.goto (-118), 3) := by decide +kernel
theorem eX0_measure_165 : decode cX0_measure 165 = .ok (.iinc 1 1, 3) := by decide +kernel
theorem eX0_measure_168 : decode cX0_measure 168 = .ok (.goto (-132), 3) := by decide +kernel
theorem eX0_measure_171 : decode cX0_measure 171 = .ok (.return_, 1) := by decide +kernel
abbrev vs_C_0_measure : List Cond := .code yX0_measure cX0_measure 5 none :: CM
theorem g_C_0_measure_C_0_slot : GoodIn vs_C_0_measure (va_wsS RX0 65 yX0_slot vs_C_0_slot) := cm_gS cm_17 cm_18 cm_19 cm_1
set_option maxHeartbeats 4000000 in
set_option maxRecDepth 100000 in
theorem c_C_0_measure (l : Launch) (dC : Nat → ClassId) (dI : Nat → Nat → Nat) (sz : Nat) (au : Nat) (nc : Nat) (np : Nat) (ne : Nat) (st0 : Int32) (q4 : Nat) (q5 : Nat) (q6 : Nat) (q7 : Nat) (q8 : Nat) (q9 : Nat) (q10 : Nat) (q11 : Nat) (q12 : Nat) (q13 : Nat) (q14 : Nat) (q15 : Nat) (q16 : Nat) (k_f4 : ClassId) (f4 : Nat → Int32) (k_f5 : ClassId) (q_f5 : Nat → Nat) (k_f6 : ClassId) (q_f6 : Nat → Nat) (k_f7 : ClassId) (f7 : Nat → Int32) (k_f8 : ClassId) (q_f8 : Nat → Nat) (k_f9 : ClassId) (q_f9 : Nat → Nat) (k_f10 : ClassId) (f10 : Nat → Int32) (k_f11 : ClassId) (f11 : Nat → Int32) (k_f12 : ClassId) (f12 : Nat → Int32) (k_f13 : ClassId) (f13 : Nat → Int32) (k_f14 : ClassId) (f14 : Nat → Int32) (k_f15 : ClassId) (f15 : Nat → Int32) (k_f16 : ClassId) (f16 : Nat → Int32) (hnc : nc ≤ 3) (hnp : np ≤ 8) (hne : ne ≤ 14) (hst0 : pm1 7 st0) : Met l yX0_measure vs_C_0_measure ({ frames := 1, cells := 0, slots := 0, locals := 21 }) (va_Pc [.ref au] (pu_B (dC, dI) (au__w au (nI nc) (nI np) (nI ne) st0 q4 q5 q6 q7 q8 q9 q10 q11 q12 q13 q14 q15 q16 k_f4 f4 k_f5 (bN 7 q_f5) k_f6 (bN 7 q_f6) k_f7 f7 k_f8 (bN 4 q_f8) k_f9 (bN 2 q_f9) k_f10 f10 k_f11 f11 k_f12 f12 k_f13 f13 k_f14 f14 k_f15 f15 k_f16 f16) (au__t k_f4 k_f5 k_f6 k_f7 k_f8 k_f9 k_f10 k_f11 k_f12 k_f13 k_f14 k_f15 k_f16) sz)) (va_Qv (fun (_ : Unit) => True) (fun _ t => ∃ (z_f14 : Nat → Int32) (z_f15 : Nat → Int32) (z_f16 : Nat → Int32), pu_E (dC, dI) (au__w au (nI nc) (nI np) (nI ne) st0 q4 q5 q6 q7 q8 q9 q10 q11 q12 q13 q14 q15 q16 k_f4 f4 k_f5 (bN 7 q_f5) k_f6 (bN 7 q_f6) k_f7 f7 k_f8 (bN 4 q_f8) k_f9 (bN 2 q_f9) k_f10 f10 k_f11 f11 k_f12 f12 k_f13 f13 k_f14 z_f14 k_f15 z_f15 k_f16 z_f16) (au__t k_f4 k_f5 k_f6 k_f7 k_f8 k_f9 k_f10 k_f11 k_f12 k_f13 k_f14 k_f15 k_f16) (va_A ((au__w au (nI nc) (nI np) (nI ne) st0 q4 q5 q6 q7 q8 q9 q10 q11 q12 q13 q14 q15 q16 k_f4 f4 k_f5 (bN 7 q_f5) k_f6 (bN 7 q_f6) k_f7 f7 k_f8 (bN 4 q_f8) k_f9 (bN 2 q_f9) k_f10 f10 k_f11 f11 k_f12 f12 k_f13 f13 k_f14 f14 k_f15 f15 k_f16 f16)) sz) t) (va_A ((au__w au (nI nc) (nI np) (nI ne) st0 q4 q5 q6 q7 q8 q9 q10 q11 q12 q13 q14 q15 q16 k_f4 f4 k_f5 (bN 7 q_f5) k_f6 (bN 7 q_f6) k_f7 f7 k_f8 (bN 4 q_f8) k_f9 (bN 2 q_f9) k_f10 f10 k_f11 f11 k_f12 f12 k_f13 f13 k_f14 f14 k_f15 f15 k_f16 f16)) sz)) 0 0 (va_A ((au__w au (nI nc) (nI np) (nI ne) st0 q4 q5 q6 q7 q8 q9 q10 q11 q12 q13 q14 q15 q16 k_f4 f4 k_f5 (bN 7 q_f5) k_f6 (bN 7 q_f6) k_f7 f7 k_f8 (bN 4 q_f8) k_f9 (bN 2 q_f9) k_f10 f10 k_f11 f11 k_f12 f12 k_f13 f13 k_f14 f14 k_f15 f15 k_f16 f16)) sz) := by
  refine Met.ofW (cc := cX0_measure) (maxL := 5) (ret := none) (by decide) rfl ?_
  intro p e s m args below meth c s₁ B hml hv
  obtain ⟨rfl, rfl, hP, hK, hD0⟩ := hv
  have hx := B.exec
  have hb := B.bytes
  have hr := B.returns
  have hts := atoms_spec (ws := vs_C_0_measure) B.pre
  have v_1 := hts (.fieldLink RX0 47 "ClockReach$Automaton" "greatest" "[I") (List.mem_cons_of_mem _ cm_32)
  have v_2 := hts (.fieldLink RX0 50 "ClockReach$Automaton" "lower" "[I") (List.mem_cons_of_mem _ cm_33)
  have v_3 := hts (.fieldLink RX0 53 "ClockReach$Automaton" "upper" "[I") (List.mem_cons_of_mem _ cm_34)
  have v_4 := hts (.fieldLink RX0 29 "ClockReach$Automaton" "counts" "[I") (List.mem_cons_of_mem _ cm_8)
  have v_9 := hts (.fieldLink RX0 32 "ClockReach$Automaton" "conditionClocks" "[I") (List.mem_cons_of_mem _ cm_14)
  have v_10 := hts (.fieldLink RX0 38 "ClockReach$Automaton" "numbers" "[I") (List.mem_cons_of_mem _ cm_16)
  have v_11 := hts (.methodLink RX0 79 Lib.Math.max.name) (List.mem_cons_of_mem _ cm_35)
  have v_12 := hts (.static Lib.Math.max.name) (List.mem_cons_of_mem _ cm_36)
  have v_13 := hts (.initialized "java/lang/Math") (List.mem_cons_of_mem _ cm_37)
  have v_14 := hts (.code Lib.Math.max.name Lib.Math.max.code 2 (some .int)) (List.mem_cons_of_mem _ cm_38)
  have v_15 := hts (.fieldLink RX0 35 "ClockReach$Automaton" "hows" "[I") (List.mem_cons_of_mem _ cm_15)
  have hown : s.vm.findClass RX0 = some m.cls := findClass_of_methodNamed B.named
  have hlocks := B.notSynchronized
  have hiX0 : ∀ w ∈ wsX00, w ∈ vs_C_0_measure := fun _ h => List.mem_cons_of_mem _ (cm_X0 h)
  have hD := hD0.self (sz := s.heap.size)
  generalize hAe : va_A ((au__w au (nI nc) (nI np) (nI ne) st0 q4 q5 q6 q7 q8 q9 q10 q11 q12 q13 q14 q15 q16 k_f4 f4 k_f5 (bN 7 q_f5) k_f6 (bN 7 q_f6) k_f7 f7 k_f8 (bN 4 q_f8) k_f9 (bN 2 q_f9) k_f10 f10 k_f11 f11 k_f12 f12 k_f13 f13 k_f14 f14 k_f15 f15 k_f16 f16)) s.heap.size = A at hD ⊢
  have hA : ∀ q : Nat, s.heap.size ≤ q → A q := fun q h => by rw [← hAe]; exact Or.inr h
  have hS : va_S A s.heap s.heap [] := va_S.rf
  have hl := lv_entry ([.ref au]) (n := 5) (Nat.le_of_ble_eq_true rfl)
  rw [lg_entry_eq]
  generalize (lg_sl ([.ref au]) ++ List.replicate (5 - (lg_sl ([.ref au])).length) Slot.unset).toArray = ls at hl ⊢
  have hl : lv_has ls 5 [(0, .ref au)] := hl
  refine lv_iconst (v := 0) hx hb eX0_measure_0 (by decide) ?_
  refine lv_istore_n (lv' := [(1, .int 0), (0, .ref au)]) hx hb eX0_measure_1 rfl hl (by decide) rfl (fun ls hl => ?_)
  refine pu_while (fun nn H locs ls => ∃ (g_5 : Nat → Int32) (g_6 : Nat → Int32) (g_7 : Nat → Int32) (g_8 : Nat), nn = 4 - g_8 ∧ g_8 ≤ 4 ∧ va_P (dC, dI) vwCl (au__w au (nI nc) (nI np) (nI ne) st0 q4 q5 q6 q7 q8 q9 q10 q11 q12 q13 q14 q15 q16 k_f4 f4 k_f5 (bN 7 q_f5) k_f6 (bN 7 q_f6) k_f7 f7 k_f8 (bN 4 q_f8) k_f9 (bN 2 q_f9) k_f10 f10 k_f11 f11 k_f12 f12 k_f13 f13 k_f14 g_5 k_f15 g_6 k_f16 g_7) H ∧ va_D A (au__w au (nI nc) (nI np) (nI ne) st0 q4 q5 q6 q7 q8 q9 q10 q11 q12 q13 q14 q15 q16 k_f4 f4 k_f5 (bN 7 q_f5) k_f6 (bN 7 q_f6) k_f7 f7 k_f8 (bN 4 q_f8) k_f9 (bN 2 q_f9) k_f10 f10 k_f11 f11 k_f12 f12 k_f13 f13 k_f14 g_5 k_f15 g_6 k_f16 g_7) ∧ va_S A s.heap H locs ∧ lv_has ls 5 [(0, .ref au), (1, .int (nI g_8))]) 2 ?_ _ _ _ _ ⟨f14, f15, f16, 0, rfl, (Nat.le_of_ble_eq_true rfl), hP, hD, hS, lv_sub hl [1, 0] rfl⟩
  rintro nn ih_9 H locs ls ⟨g_5, g_6, g_7, g_8, rfl, hg_8, hP, hD, hS, hl⟩
  refine lv_iload_n hx hb eX0_measure_2 rfl (lv_at hl 1 rfl) ?_
  refine lv_iconst (v := 3) hx hb eX0_measure_3 (by decide) ?_
  refine lv_icmp_gt (tgt := 34) hx hb eX0_measure_4 (by decide) (fun c_10 => ?_) (fun c_10 => ?_)
  · have c_10 : 3 < g_8 := (nI_ltI (a := 3) (b := g_8) (Nat.le_of_ble_eq_true rfl) (Nat.lt_of_le_of_lt hg_8 (Nat.le_of_ble_eq_true rfl))).mp c_10
    refine lv_iconst (v := 0) hx hb eX0_measure_34 (by decide) ?_
    refine lv_istore_n (lv' := [(1, .int 0), (0, .ref au)]) hx hb eX0_measure_35 rfl hl (by decide) rfl (fun ls hl => ?_)
    refine pu_while (fun nn H locs ls => ∃ (g_15 : Nat → Int32) (g_16 : Nat → Int32) (g_17 : Nat → Int32) (g_18 : Nat), nn = 22 - g_18 ∧ g_18 ≤ 22 ∧ va_P (dC, dI) vwCl (au__w au (nI nc) (nI np) (nI ne) st0 q4 q5 q6 q7 q8 q9 q10 q11 q12 q13 q14 q15 q16 k_f4 f4 k_f5 (bN 7 q_f5) k_f6 (bN 7 q_f6) k_f7 f7 k_f8 (bN 4 q_f8) k_f9 (bN 2 q_f9) k_f10 f10 k_f11 f11 k_f12 f12 k_f13 f13 k_f14 g_15 k_f15 g_16 k_f16 g_17) H ∧ va_D A (au__w au (nI nc) (nI np) (nI ne) st0 q4 q5 q6 q7 q8 q9 q10 q11 q12 q13 q14 q15 q16 k_f4 f4 k_f5 (bN 7 q_f5) k_f6 (bN 7 q_f6) k_f7 f7 k_f8 (bN 4 q_f8) k_f9 (bN 2 q_f9) k_f10 f10 k_f11 f11 k_f12 f12 k_f13 f13 k_f14 g_15 k_f15 g_16 k_f16 g_17) ∧ va_S A s.heap H locs ∧ lv_has ls 5 [(0, .ref au), (1, .int (nI g_18))]) 36 ?_ _ _ _ _ ⟨g_5, g_6, g_7, 0, rfl, (Nat.le_of_ble_eq_true rfl), hP, hD, hS, lv_sub hl [1, 0] rfl⟩
    rintro nn ih_19 H locs ls ⟨g_15, g_16, g_17, g_18, rfl, hg_18, hP, hD, hS, hl⟩
    refine lv_iload_n hx hb eX0_measure_36 rfl (lv_at hl 1 rfl) ?_
    refine lv_bipush (v := 22) hx hb eX0_measure_37 (by decide) ?_
    refine lv_icmp_ge (tgt := 171) hx hb eX0_measure_39 (by decide) (fun c_20 => ?_) (fun c_20 => ?_)
    · have c_20 : 22 ≤ g_18 := (nI_leI (a := 22) (b := g_18) (Nat.le_of_ble_eq_true rfl) (Nat.lt_of_le_of_lt hg_18 (Nat.le_of_ble_eq_true rfl))).mp c_20
      exact W.vret hx hb hr (fun t ht hW => ⟨⟨(), rfl, trivial, ⟨g_15, g_16, g_17, ⟨by rw [ht]; exact hP, va_K.moved hW.alike hK, hD⟩⟩⟩, hS.F ht⟩) hS.2.2 eX0_measure_171
    · have c_20 : ¬ 22 ≤ g_18 := fun z => c_20 ((nI_leI (a := 22) (b := g_18) (Nat.le_of_ble_eq_true rfl) (Nat.lt_of_le_of_lt hg_18 (Nat.le_of_ble_eq_true rfl))).mpr z)
      refine lv_iconst (v := 0) hx hb eX0_measure_42 (by decide) ?_
      refine lv_istore_n (lv' := [(2, .int 0), (0, .ref au), (1, .int (nI g_18))]) hx hb eX0_measure_43 rfl hl (by decide) rfl (fun ls hl => ?_)
      refine pu_while (fun nn H locs ls => ∃ (g_25 : Nat → Int32) (g_26 : Nat → Int32) (g_27 : Nat → Int32) (g_28 : Nat), nn = 4 - g_28 ∧ g_28 ≤ 4 ∧ va_P (dC, dI) vwCl (au__w au (nI nc) (nI np) (nI ne) st0 q4 q5 q6 q7 q8 q9 q10 q11 q12 q13 q14 q15 q16 k_f4 f4 k_f5 (bN 7 q_f5) k_f6 (bN 7 q_f6) k_f7 f7 k_f8 (bN 4 q_f8) k_f9 (bN 2 q_f9) k_f10 f10 k_f11 f11 k_f12 f12 k_f13 f13 k_f14 g_25 k_f15 g_26 k_f16 g_27) H ∧ va_D A (au__w au (nI nc) (nI np) (nI ne) st0 q4 q5 q6 q7 q8 q9 q10 q11 q12 q13 q14 q15 q16 k_f4 f4 k_f5 (bN 7 q_f5) k_f6 (bN 7 q_f6) k_f7 f7 k_f8 (bN 4 q_f8) k_f9 (bN 2 q_f9) k_f10 f10 k_f11 f11 k_f12 f12 k_f13 f13 k_f14 g_25 k_f15 g_26 k_f16 g_27) ∧ va_S A s.heap H locs ∧ lv_has ls 5 [(0, .ref au), (1, .int (nI g_18)), (2, .int (nI g_28))]) 44 ?_ _ _ _ _ ⟨g_15, g_16, g_17, 0, rfl, (Nat.le_of_ble_eq_true rfl), hP, hD, hS, lv_sub hl [1, 2, 0] rfl⟩
      rintro nn ih_29 H locs ls ⟨g_25, g_26, g_27, g_28, rfl, hg_28, hP, hD, hS, hl⟩
      refine lv_iload_n hx hb eX0_measure_44 rfl (lv_at hl 2 rfl) ?_
      refine lv_aload_n hx hb eX0_measure_45 rfl (lv_at hl 0 rfl) ?_
      refine va_get (D := (dC, dI)) (ci := 0) (v := .ref q8) (C := RX0) (T := TX0) (N := 17) hx hb hts hiX0 hown hK hP 0 rfl rfl 8 (by decide) v_4 (fun _ h9 => h9) rfl eX0_measure_46 ?_
      refine lv_iload_n hx hb eX0_measure_49 rfl (lv_at hl 1 rfl) ?_
      refine va_iald hx hb hK hP 5 4 rfl rfl (vp_in_nI (n := g_18) (by omega) (Nat.le_of_ble_eq_true rfl)) eX0_measure_50 ?_
      refine lv_topi (fun y_30 ey_30 => ?_)
      obtain ⟨u_31, hu_31, qu_31⟩ := bN_get 4 q_f8 (((nI g_18) : Int32).toNatClampNeg)
      obtain rfl : y_30 = nI u_31 := ey_30.trans qu_31
      refine lv_icmp_ge (tgt := 165) hx hb eX0_measure_51 (by decide) (fun c_32 => ?_) (fun c_32 => ?_)
      · have c_32 : u_31 ≤ g_28 := (nI_leI (a := u_31) (b := g_28) (Nat.lt_of_le_of_lt hu_31 (Nat.le_of_ble_eq_true rfl)) (Nat.lt_of_le_of_lt hg_28 (Nat.le_of_ble_eq_true rfl))).mp c_32
        refine lv_iinc (v := (nI (g_18 + 1))) (lv' := [(1, .int (nI (g_18 + 1))), (0, .ref au), (2, .int (nI g_28))]) hx hb eX0_measure_165 hl (k := 1) rfl (nI_1 _) (by decide) rfl (fun ls hl => ?_)
        refine lv_goto (tgt := 36) hx hb eX0_measure_168 (by decide) ?_
        exact ih_19 (22 - (g_18 + 1)) (by omega) _ _ _ ⟨g_25, g_26, g_27, (g_18 + 1), rfl, (by omega), hP, hD, hS, lv_sub hl [1, 0] rfl⟩
      · have c_32 : ¬ u_31 ≤ g_28 := fun z => c_32 ((nI_leI (a := u_31) (b := g_28) (Nat.lt_of_le_of_lt hu_31 (Nat.le_of_ble_eq_true rfl)) (Nat.lt_of_le_of_lt hg_28 (Nat.le_of_ble_eq_true rfl))).mpr z)
        refine lv_iload_n hx hb eX0_measure_54 rfl (lv_at hl 1 rfl) ?_
        refine lv_iload_n hx hb eX0_measure_55 rfl (lv_at hl 2 rfl) ?_
        refine va_calli (va_runS (As := [.int (nI g_18), .int (nI g_28)]) (rest := []) ⟨hx, hb, hml, hown, hts⟩ (c_C_0_slot l dC dI _ g_18 g_28 (by omega) hg_28) (va_cwS 2 hts g_C_0_measure_C_0_slot rfl rfl rfl (by decide +kernel) ⟨Nat.le_of_ble_eq_true rfl, Nat.le_of_ble_eq_true rfl⟩) ⟨pu_bl, pu_in (hP.sub [] rfl) (hK.sub [] rfl) (hD.sub [] (by decide) rfl)⟩ rfl rfl hl.1 rfl (lv_room (Nat.le_of_ble_eq_true rfl)) eX0_measure_56 ⟨Nat.le_of_ble_eq_true rfl, Nat.le_of_ble_eq_true rfl⟩) hS (fun q _ h => pu_fr hS hA q h) (pu_fr hS hA) (fun r_33 u t H1 locs ht hvm hw hB hz1 hk1 hS => ?_)
        have hP := pu_keep hP hk1
        clear hk1 hz1 ht hvm
        generalize H1 = H at hP hS ⊢
        obtain rfl : r_33 = nI (g_18 * 4 + g_28) := hw
        refine lv_istore_n (lv' := [(3, .int (nI (g_18 * 4 + g_28))), (0, .ref au), (1, .int (nI g_18)), (2, .int (nI g_28))]) hx hb eX0_measure_59 rfl hl (by decide) rfl (fun ls hl => ?_)
        refine lv_aload_n hx hb eX0_measure_60 rfl (lv_at hl 1 rfl) ?_
        refine va_get (D := (dC, dI)) (ci := 0) (v := .ref q9) (C := RX0) (T := TX0) (N := 17) hx hb hts hiX0 hown hK hP 0 rfl rfl 9 (by decide) v_9 (fun _ h9 => h9) rfl eX0_measure_61 ?_
        refine lv_iload_n hx hb eX0_measure_64 rfl (lv_at hl 0 rfl) ?_
        refine va_iald hx hb hK hP 6 5 rfl rfl (vp_in_nI (n := (g_18 * 4 + g_28)) (by omega) (Nat.le_of_ble_eq_true rfl)) eX0_measure_65 ?_
        refine lv_topi (fun y_34 ey_34 => ?_)
        obtain ⟨u_35, hu_35, qu_35⟩ := bN_get 2 q_f9 (((nI (g_18 * 4 + g_28)) : Int32).toNatClampNeg)
        obtain rfl : y_34 = nI u_35 := ey_34.trans qu_35
        refine lv_iconst (v := 1) hx hb eX0_measure_66 (by decide) ?_
        refine lv_iadd hx hb eX0_measure_67 ?_
        refine lv_topi (fun y_36 ey_36 => ?_)
        obtain rfl : y_36 = (nI (u_35 + 1)) := ey_36.trans (nI_add u_35 1)
        refine lv_istore (lv' := [(4, .int (nI (u_35 + 1))), (3, .int (nI (g_18 * 4 + g_28))), (0, .ref au), (1, .int (nI g_18)), (2, .int (nI g_28))]) hx hb eX0_measure_68 hl (by decide) rfl (fun ls hl => ?_)
        refine lv_aload_n hx hb eX0_measure_70 rfl (lv_at hl 2 rfl) ?_
        refine va_get (D := (dC, dI)) (ci := 0) (v := .ref q14) (C := RX0) (T := TX0) (N := 17) hx hb hts hiX0 hown hK hP 0 rfl rfl 14 (by decide) v_1 (fun _ h9 => h9) rfl eX0_measure_71 ?_
        refine lv_iload hx hb eX0_measure_74 (lv_at hl 0 rfl) ?_
        refine lv_aload_n hx hb eX0_measure_76 rfl (lv_at hl 2 rfl) ?_
        refine va_get (D := (dC, dI)) (ci := 0) (v := .ref q14) (C := RX0) (T := TX0) (N := 17) hx hb hts hiX0 hown hK hP 0 rfl rfl 14 (by decide) v_1 (fun _ h9 => h9) rfl eX0_measure_77 ?_
        refine lv_iload hx hb eX0_measure_80 (lv_at hl 0 rfl) ?_
        refine va_iald hx hb hK hP 11 10 rfl rfl (vp_in_nI (n := (u_35 + 1)) (by omega) (Nat.le_of_ble_eq_true rfl)) eX0_measure_82 ?_
        refine lv_topi (fun y_37 ey_37 => ?_)
        refine lv_aload_n hx hb eX0_measure_83 rfl (lv_at hl 2 rfl) ?_
        refine va_get (D := (dC, dI)) (ci := 0) (v := .ref q11) (C := RX0) (T := TX0) (N := 17) hx hb hts hiX0 hown hK hP 0 rfl rfl 11 (by decide) v_10 (fun _ h9 => h9) rfl eX0_measure_84 ?_
        refine lv_iload_n hx hb eX0_measure_87 rfl (lv_at hl 1 rfl) ?_
        refine va_iald hx hb hK hP 8 7 rfl rfl (vp_in_nI (n := (g_18 * 4 + g_28)) (by omega) (Nat.le_of_ble_eq_true rfl)) eX0_measure_88 ?_
        refine lv_topi (fun y_38 ey_38 => ?_)
        refine va_mmax hx hb (hml.trans hl.1.symm) hown v_11 v_12 v_13 v_14 (Nat.le_of_ble_eq_true rfl) (Nat.le_of_ble_eq_true rfl) (Nat.le_of_ble_eq_true rfl) (Nat.le_of_ble_eq_true rfl) eX0_measure_89 ?_
        refine lv_topi (fun y_39 ey_39 => ?_)
        refine va_iast hx hb hK hP hD hS 11 10 rfl rfl (vp_in_nI (n := (u_35 + 1)) (by omega) (Nat.le_of_ble_eq_true rfl)) eX0_measure_92 (fun H locs hP hD hS => ?_)
        have hP : va_P (dC, dI) vwCl (au__w au (nI nc) (nI np) (nI ne) st0 q4 q5 q6 q7 q8 q9 q10 q11 q12 q13 q14 q15 q16 k_f4 f4 k_f5 (bN 7 q_f5) k_f6 (bN 7 q_f6) k_f7 f7 k_f8 (bN 4 q_f8) k_f9 (bN 2 q_f9) k_f10 f10 k_f11 f11 k_f12 f12 k_f13 f13 k_f14 (upd g_25 ((nI (u_35 + 1)) : Int32).toNatClampNeg y_39) k_f15 g_26 k_f16 g_27) H := hP
        have hD : va_D A (au__w au (nI nc) (nI np) (nI ne) st0 q4 q5 q6 q7 q8 q9 q10 q11 q12 q13 q14 q15 q16 k_f4 f4 k_f5 (bN 7 q_f5) k_f6 (bN 7 q_f6) k_f7 f7 k_f8 (bN 4 q_f8) k_f9 (bN 2 q_f9) k_f10 f10 k_f11 f11 k_f12 f12 k_f13 f13 k_f14 (upd g_25 ((nI (u_35 + 1)) : Int32).toNatClampNeg y_39) k_f15 g_26 k_f16 g_27) := hD
        refine lv_aload_n hx hb eX0_measure_93 rfl (lv_at hl 2 rfl) ?_
        refine va_get (D := (dC, dI)) (ci := 0) (v := .ref q10) (C := RX0) (T := TX0) (N := 17) hx hb hts hiX0 hown hK hP 0 rfl rfl 10 (by decide) v_15 (fun _ h9 => h9) rfl eX0_measure_94 ?_
        refine lv_iload_n hx hb eX0_measure_97 rfl (lv_at hl 1 rfl) ?_
        refine va_iald hx hb hK hP 7 6 rfl rfl (vp_in_nI (n := (g_18 * 4 + g_28)) (by omega) (Nat.le_of_ble_eq_true rfl)) eX0_measure_98 ?_
        refine lv_topi (fun y_40 ey_40 => ?_)
        refine lv_iconst (v := 2) hx hb eX0_measure_99 (by decide) ?_
        refine pu_join (fun H locs ls st => ∃ (g_41 : Nat → Int32), st = [] ∧ va_P (dC, dI) vwCl (au__w au (nI nc) (nI np) (nI ne) st0 q4 q5 q6 q7 q8 q9 q10 q11 q12 q13 q14 q15 q16 k_f4 f4 k_f5 (bN 7 q_f5) k_f6 (bN 7 q_f6) k_f7 f7 k_f8 (bN 4 q_f8) k_f9 (bN 2 q_f9) k_f10 f10 k_f11 f11 k_f12 f12 k_f13 f13 k_f14 (upd g_25 ((nI (u_35 + 1)) : Int32).toNatClampNeg y_39) k_f15 g_41 k_f16 g_27) H ∧ va_D A (au__w au (nI nc) (nI np) (nI ne) st0 q4 q5 q6 q7 q8 q9 q10 q11 q12 q13 q14 q15 q16 k_f4 f4 k_f5 (bN 7 q_f5) k_f6 (bN 7 q_f6) k_f7 f7 k_f8 (bN 4 q_f8) k_f9 (bN 2 q_f9) k_f10 f10 k_f11 f11 k_f12 f12 k_f13 f13 k_f14 (upd g_25 ((nI (u_35 + 1)) : Int32).toNatClampNeg y_39) k_f15 g_41 k_f16 g_27) ∧ va_S A s.heap H locs ∧ lv_has ls 5 [(0, .ref au), (1, .int (nI g_18)), (2, .int (nI g_28)), (3, .int (nI (g_18 * 4 + g_28))), (4, .int (nI (u_35 + 1)))]) 126 ?_ (fun j_42 => ?_)
        · rintro H locs ls st ⟨g_41, rfl, hP, hD, hS, hl⟩
          refine lv_aload_n hx hb eX0_measure_126 rfl (lv_at hl 0 rfl) ?_
          refine va_get (D := (dC, dI)) (ci := 0) (v := .ref q10) (C := RX0) (T := TX0) (N := 17) hx hb hts hiX0 hown hK hP 0 rfl rfl 10 (by decide) v_15 (fun _ h9 => h9) rfl eX0_measure_127 ?_
          refine lv_iload_n hx hb eX0_measure_130 rfl (lv_at hl 3 rfl) ?_
          refine va_iald hx hb hK hP 7 6 rfl rfl (vp_in_nI (n := (g_18 * 4 + g_28)) (by omega) (Nat.le_of_ble_eq_true rfl)) eX0_measure_131 ?_
          refine lv_topi (fun y_43 ey_43 => ?_)
          refine lv_iconst (v := 2) hx hb eX0_measure_132 (by decide) ?_
          refine pu_join (fun H locs ls st => ∃ (g_44 : Nat → Int32), st = [] ∧ va_P (dC, dI) vwCl (au__w au (nI nc) (nI np) (nI ne) st0 q4 q5 q6 q7 q8 q9 q10 q11 q12 q13 q14 q15 q16 k_f4 f4 k_f5 (bN 7 q_f5) k_f6 (bN 7 q_f6) k_f7 f7 k_f8 (bN 4 q_f8) k_f9 (bN 2 q_f9) k_f10 f10 k_f11 f11 k_f12 f12 k_f13 f13 k_f14 (upd g_25 ((nI (u_35 + 1)) : Int32).toNatClampNeg y_39) k_f15 g_41 k_f16 g_44) H ∧ va_D A (au__w au (nI nc) (nI np) (nI ne) st0 q4 q5 q6 q7 q8 q9 q10 q11 q12 q13 q14 q15 q16 k_f4 f4 k_f5 (bN 7 q_f5) k_f6 (bN 7 q_f6) k_f7 f7 k_f8 (bN 4 q_f8) k_f9 (bN 2 q_f9) k_f10 f10 k_f11 f11 k_f12 f12 k_f13 f13 k_f14 (upd g_25 ((nI (u_35 + 1)) : Int32).toNatClampNeg y_39) k_f15 g_41 k_f16 g_44) ∧ va_S A s.heap H locs ∧ lv_has ls 5 [(0, .ref au), (1, .int (nI g_18)), (2, .int (nI g_28)), (3, .int (nI (g_18 * 4 + g_28))), (4, .int (nI (u_35 + 1)))]) 159 ?_ (fun j_45 => ?_)
          · rintro H locs ls st ⟨g_44, rfl, hP, hD, hS, hl⟩
            refine lv_iinc (v := (nI (g_28 + 1))) (lv' := [(2, .int (nI (g_28 + 1))), (0, .ref au), (1, .int (nI g_18)), (3, .int (nI (g_18 * 4 + g_28))), (4, .int (nI (u_35 + 1)))]) hx hb eX0_measure_159 hl (k := 2) rfl (nI_1 _) (by decide) rfl (fun ls hl => ?_)
            refine lv_goto (tgt := 44) hx hb eX0_measure_162 (by decide) ?_
            exact ih_29 (4 - (g_28 + 1)) (by omega) _ _ _ ⟨(upd g_25 ((nI (u_35 + 1)) : Int32).toNatClampNeg y_39), g_41, g_44, (g_28 + 1), rfl, (by omega), hP, hD, hS, lv_sub hl [1, 2, 0] rfl⟩
          refine lv_icmp_gt (tgt := 159) hx hb eX0_measure_133 (by decide) (fun c_46 => ?_) (fun c_46 => ?_)
          · exact j_45 _ _ _ _ ⟨g_27, rfl, hP, hD, hS, lv_sub hl [0, 1, 2, 3, 4] rfl⟩
          · refine lv_aload_n hx hb eX0_measure_136 rfl (lv_at hl 0 rfl) ?_
            refine va_get (D := (dC, dI)) (ci := 0) (v := .ref q16) (C := RX0) (T := TX0) (N := 17) hx hb hts hiX0 hown hK hP 0 rfl rfl 16 (by decide) v_3 (fun _ h9 => h9) rfl eX0_measure_137 ?_
            refine lv_iload hx hb eX0_measure_140 (lv_at hl 4 rfl) ?_
            refine lv_aload_n hx hb eX0_measure_142 rfl (lv_at hl 0 rfl) ?_
            refine va_get (D := (dC, dI)) (ci := 0) (v := .ref q16) (C := RX0) (T := TX0) (N := 17) hx hb hts hiX0 hown hK hP 0 rfl rfl 16 (by decide) v_3 (fun _ h9 => h9) rfl eX0_measure_143 ?_
            refine lv_iload hx hb eX0_measure_146 (lv_at hl 4 rfl) ?_
            refine va_iald hx hb hK hP 13 12 rfl rfl (vp_in_nI (n := (u_35 + 1)) (by omega) (Nat.le_of_ble_eq_true rfl)) eX0_measure_148 ?_
            refine lv_topi (fun y_47 ey_47 => ?_)
            refine lv_aload_n hx hb eX0_measure_149 rfl (lv_at hl 0 rfl) ?_
            refine va_get (D := (dC, dI)) (ci := 0) (v := .ref q11) (C := RX0) (T := TX0) (N := 17) hx hb hts hiX0 hown hK hP 0 rfl rfl 11 (by decide) v_10 (fun _ h9 => h9) rfl eX0_measure_150 ?_
            refine lv_iload_n hx hb eX0_measure_153 rfl (lv_at hl 3 rfl) ?_
            refine va_iald hx hb hK hP 8 7 rfl rfl (vp_in_nI (n := (g_18 * 4 + g_28)) (by omega) (Nat.le_of_ble_eq_true rfl)) eX0_measure_154 ?_
            refine lv_topi (fun y_48 ey_48 => ?_)
            refine va_mmax hx hb (hml.trans hl.1.symm) hown v_11 v_12 v_13 v_14 (Nat.le_of_ble_eq_true rfl) (Nat.le_of_ble_eq_true rfl) (Nat.le_of_ble_eq_true rfl) (Nat.le_of_ble_eq_true rfl) eX0_measure_155 ?_
            refine lv_topi (fun y_49 ey_49 => ?_)
            refine va_iast hx hb hK hP hD hS 13 12 rfl rfl (vp_in_nI (n := (u_35 + 1)) (by omega) (Nat.le_of_ble_eq_true rfl)) eX0_measure_158 (fun H locs hP hD hS => ?_)
            have hP : va_P (dC, dI) vwCl (au__w au (nI nc) (nI np) (nI ne) st0 q4 q5 q6 q7 q8 q9 q10 q11 q12 q13 q14 q15 q16 k_f4 f4 k_f5 (bN 7 q_f5) k_f6 (bN 7 q_f6) k_f7 f7 k_f8 (bN 4 q_f8) k_f9 (bN 2 q_f9) k_f10 f10 k_f11 f11 k_f12 f12 k_f13 f13 k_f14 (upd g_25 ((nI (u_35 + 1)) : Int32).toNatClampNeg y_39) k_f15 g_41 k_f16 (upd g_27 ((nI (u_35 + 1)) : Int32).toNatClampNeg y_49)) H := hP
            have hD : va_D A (au__w au (nI nc) (nI np) (nI ne) st0 q4 q5 q6 q7 q8 q9 q10 q11 q12 q13 q14 q15 q16 k_f4 f4 k_f5 (bN 7 q_f5) k_f6 (bN 7 q_f6) k_f7 f7 k_f8 (bN 4 q_f8) k_f9 (bN 2 q_f9) k_f10 f10 k_f11 f11 k_f12 f12 k_f13 f13 k_f14 (upd g_25 ((nI (u_35 + 1)) : Int32).toNatClampNeg y_39) k_f15 g_41 k_f16 (upd g_27 ((nI (u_35 + 1)) : Int32).toNatClampNeg y_49)) := hD
            exact j_45 _ _ _ _ ⟨(upd g_27 ((nI (u_35 + 1)) : Int32).toNatClampNeg y_49), rfl, hP, hD, hS, lv_sub hl [0, 1, 2, 3, 4] rfl⟩
        refine lv_icmp_lt (tgt := 126) hx hb eX0_measure_100 (by decide) (fun c_50 => ?_) (fun c_50 => ?_)
        · exact j_42 _ _ _ _ ⟨g_26, rfl, hP, hD, hS, lv_sub hl [2, 3, 4, 1, 0] rfl⟩
        · refine lv_aload_n hx hb eX0_measure_103 rfl (lv_at hl 2 rfl) ?_
          refine va_get (D := (dC, dI)) (ci := 0) (v := .ref q15) (C := RX0) (T := TX0) (N := 17) hx hb hts hiX0 hown hK hP 0 rfl rfl 15 (by decide) v_2 (fun _ h9 => h9) rfl eX0_measure_104 ?_
          refine lv_iload hx hb eX0_measure_107 (lv_at hl 0 rfl) ?_
          refine lv_aload_n hx hb eX0_measure_109 rfl (lv_at hl 2 rfl) ?_
          refine va_get (D := (dC, dI)) (ci := 0) (v := .ref q15) (C := RX0) (T := TX0) (N := 17) hx hb hts hiX0 hown hK hP 0 rfl rfl 15 (by decide) v_2 (fun _ h9 => h9) rfl eX0_measure_110 ?_
          refine lv_iload hx hb eX0_measure_113 (lv_at hl 0 rfl) ?_
          refine va_iald hx hb hK hP 12 11 rfl rfl (vp_in_nI (n := (u_35 + 1)) (by omega) (Nat.le_of_ble_eq_true rfl)) eX0_measure_115 ?_
          refine lv_topi (fun y_51 ey_51 => ?_)
          refine lv_aload_n hx hb eX0_measure_116 rfl (lv_at hl 2 rfl) ?_
          refine va_get (D := (dC, dI)) (ci := 0) (v := .ref q11) (C := RX0) (T := TX0) (N := 17) hx hb hts hiX0 hown hK hP 0 rfl rfl 11 (by decide) v_10 (fun _ h9 => h9) rfl eX0_measure_117 ?_
          refine lv_iload_n hx hb eX0_measure_120 rfl (lv_at hl 1 rfl) ?_
          refine va_iald hx hb hK hP 8 7 rfl rfl (vp_in_nI (n := (g_18 * 4 + g_28)) (by omega) (Nat.le_of_ble_eq_true rfl)) eX0_measure_121 ?_
          refine lv_topi (fun y_52 ey_52 => ?_)
          refine va_mmax hx hb (hml.trans hl.1.symm) hown v_11 v_12 v_13 v_14 (Nat.le_of_ble_eq_true rfl) (Nat.le_of_ble_eq_true rfl) (Nat.le_of_ble_eq_true rfl) (Nat.le_of_ble_eq_true rfl) eX0_measure_122 ?_
          refine lv_topi (fun y_53 ey_53 => ?_)
          refine va_iast hx hb hK hP hD hS 12 11 rfl rfl (vp_in_nI (n := (u_35 + 1)) (by omega) (Nat.le_of_ble_eq_true rfl)) eX0_measure_125 (fun H locs hP hD hS => ?_)
          have hP : va_P (dC, dI) vwCl (au__w au (nI nc) (nI np) (nI ne) st0 q4 q5 q6 q7 q8 q9 q10 q11 q12 q13 q14 q15 q16 k_f4 f4 k_f5 (bN 7 q_f5) k_f6 (bN 7 q_f6) k_f7 f7 k_f8 (bN 4 q_f8) k_f9 (bN 2 q_f9) k_f10 f10 k_f11 f11 k_f12 f12 k_f13 f13 k_f14 (upd g_25 ((nI (u_35 + 1)) : Int32).toNatClampNeg y_39) k_f15 (upd g_26 ((nI (u_35 + 1)) : Int32).toNatClampNeg y_53) k_f16 g_27) H := hP
          have hD : va_D A (au__w au (nI nc) (nI np) (nI ne) st0 q4 q5 q6 q7 q8 q9 q10 q11 q12 q13 q14 q15 q16 k_f4 f4 k_f5 (bN 7 q_f5) k_f6 (bN 7 q_f6) k_f7 f7 k_f8 (bN 4 q_f8) k_f9 (bN 2 q_f9) k_f10 f10 k_f11 f11 k_f12 f12 k_f13 f13 k_f14 (upd g_25 ((nI (u_35 + 1)) : Int32).toNatClampNeg y_39) k_f15 (upd g_26 ((nI (u_35 + 1)) : Int32).toNatClampNeg y_53) k_f16 g_27) := hD
          exact j_42 _ _ _ _ ⟨(upd g_26 ((nI (u_35 + 1)) : Int32).toNatClampNeg y_53), rfl, hP, hD, hS, lv_sub hl [2, 3, 4, 1, 0] rfl⟩
  · have c_10 : ¬ 3 < g_8 := fun z => c_10 ((nI_ltI (a := 3) (b := g_8) (Nat.le_of_ble_eq_true rfl) (Nat.lt_of_le_of_lt hg_8 (Nat.le_of_ble_eq_true rfl))).mpr z)
    refine lv_aload_n hx hb eX0_measure_7 rfl (lv_at hl 0 rfl) ?_
    refine va_get (D := (dC, dI)) (ci := 0) (v := .ref q14) (C := RX0) (T := TX0) (N := 17) hx hb hts hiX0 hown hK hP 0 rfl rfl 14 (by decide) v_1 (fun _ h9 => h9) rfl eX0_measure_8 ?_
    refine lv_iload_n hx hb eX0_measure_11 rfl (lv_at hl 1 rfl) ?_
    refine lv_iconst (v := 0) hx hb eX0_measure_12 (by decide) ?_
    refine va_iast hx hb hK hP hD hS 11 10 rfl rfl (vp_in_nI (n := g_8) (by omega) (Nat.le_of_ble_eq_true rfl)) eX0_measure_13 (fun H locs hP hD hS => ?_)
    have hP : va_P (dC, dI) vwCl (au__w au (nI nc) (nI np) (nI ne) st0 q4 q5 q6 q7 q8 q9 q10 q11 q12 q13 q14 q15 q16 k_f4 f4 k_f5 (bN 7 q_f5) k_f6 (bN 7 q_f6) k_f7 f7 k_f8 (bN 4 q_f8) k_f9 (bN 2 q_f9) k_f10 f10 k_f11 f11 k_f12 f12 k_f13 f13 k_f14 (upd g_5 ((nI g_8) : Int32).toNatClampNeg 0) k_f15 g_6 k_f16 g_7) H := hP
    have hD : va_D A (au__w au (nI nc) (nI np) (nI ne) st0 q4 q5 q6 q7 q8 q9 q10 q11 q12 q13 q14 q15 q16 k_f4 f4 k_f5 (bN 7 q_f5) k_f6 (bN 7 q_f6) k_f7 f7 k_f8 (bN 4 q_f8) k_f9 (bN 2 q_f9) k_f10 f10 k_f11 f11 k_f12 f12 k_f13 f13 k_f14 (upd g_5 ((nI g_8) : Int32).toNatClampNeg 0) k_f15 g_6 k_f16 g_7) := hD
    refine lv_aload_n hx hb eX0_measure_14 rfl (lv_at hl 0 rfl) ?_
    refine va_get (D := (dC, dI)) (ci := 0) (v := .ref q15) (C := RX0) (T := TX0) (N := 17) hx hb hts hiX0 hown hK hP 0 rfl rfl 15 (by decide) v_2 (fun _ h9 => h9) rfl eX0_measure_15 ?_
    refine lv_iload_n hx hb eX0_measure_18 rfl (lv_at hl 1 rfl) ?_
    refine lv_iconst (v := 0) hx hb eX0_measure_19 (by decide) ?_
    refine va_iast hx hb hK hP hD hS 12 11 rfl rfl (vp_in_nI (n := g_8) (by omega) (Nat.le_of_ble_eq_true rfl)) eX0_measure_20 (fun H locs hP hD hS => ?_)
    have hP : va_P (dC, dI) vwCl (au__w au (nI nc) (nI np) (nI ne) st0 q4 q5 q6 q7 q8 q9 q10 q11 q12 q13 q14 q15 q16 k_f4 f4 k_f5 (bN 7 q_f5) k_f6 (bN 7 q_f6) k_f7 f7 k_f8 (bN 4 q_f8) k_f9 (bN 2 q_f9) k_f10 f10 k_f11 f11 k_f12 f12 k_f13 f13 k_f14 (upd g_5 ((nI g_8) : Int32).toNatClampNeg 0) k_f15 (upd g_6 ((nI g_8) : Int32).toNatClampNeg 0) k_f16 g_7) H := hP
    have hD : va_D A (au__w au (nI nc) (nI np) (nI ne) st0 q4 q5 q6 q7 q8 q9 q10 q11 q12 q13 q14 q15 q16 k_f4 f4 k_f5 (bN 7 q_f5) k_f6 (bN 7 q_f6) k_f7 f7 k_f8 (bN 4 q_f8) k_f9 (bN 2 q_f9) k_f10 f10 k_f11 f11 k_f12 f12 k_f13 f13 k_f14 (upd g_5 ((nI g_8) : Int32).toNatClampNeg 0) k_f15 (upd g_6 ((nI g_8) : Int32).toNatClampNeg 0) k_f16 g_7) := hD
    refine lv_aload_n hx hb eX0_measure_21 rfl (lv_at hl 0 rfl) ?_
    refine va_get (D := (dC, dI)) (ci := 0) (v := .ref q16) (C := RX0) (T := TX0) (N := 17) hx hb hts hiX0 hown hK hP 0 rfl rfl 16 (by decide) v_3 (fun _ h9 => h9) rfl eX0_measure_22 ?_
    refine lv_iload_n hx hb eX0_measure_25 rfl (lv_at hl 1 rfl) ?_
    refine lv_iconst (v := 0) hx hb eX0_measure_26 (by decide) ?_
    refine va_iast hx hb hK hP hD hS 13 12 rfl rfl (vp_in_nI (n := g_8) (by omega) (Nat.le_of_ble_eq_true rfl)) eX0_measure_27 (fun H locs hP hD hS => ?_)
    have hP : va_P (dC, dI) vwCl (au__w au (nI nc) (nI np) (nI ne) st0 q4 q5 q6 q7 q8 q9 q10 q11 q12 q13 q14 q15 q16 k_f4 f4 k_f5 (bN 7 q_f5) k_f6 (bN 7 q_f6) k_f7 f7 k_f8 (bN 4 q_f8) k_f9 (bN 2 q_f9) k_f10 f10 k_f11 f11 k_f12 f12 k_f13 f13 k_f14 (upd g_5 ((nI g_8) : Int32).toNatClampNeg 0) k_f15 (upd g_6 ((nI g_8) : Int32).toNatClampNeg 0) k_f16 (upd g_7 ((nI g_8) : Int32).toNatClampNeg 0)) H := hP
    have hD : va_D A (au__w au (nI nc) (nI np) (nI ne) st0 q4 q5 q6 q7 q8 q9 q10 q11 q12 q13 q14 q15 q16 k_f4 f4 k_f5 (bN 7 q_f5) k_f6 (bN 7 q_f6) k_f7 f7 k_f8 (bN 4 q_f8) k_f9 (bN 2 q_f9) k_f10 f10 k_f11 f11 k_f12 f12 k_f13 f13 k_f14 (upd g_5 ((nI g_8) : Int32).toNatClampNeg 0) k_f15 (upd g_6 ((nI g_8) : Int32).toNatClampNeg 0) k_f16 (upd g_7 ((nI g_8) : Int32).toNatClampNeg 0)) := hD
    refine lv_iinc (v := (nI (g_8 + 1))) (lv' := [(1, .int (nI (g_8 + 1))), (0, .ref au)]) hx hb eX0_measure_28 hl (k := 1) rfl (nI_1 _) (by decide) rfl (fun ls hl => ?_)
    refine lv_goto (tgt := 2) hx hb eX0_measure_31 (by decide) ?_
    exact ih_9 (4 - (g_8 + 1)) (by omega) _ _ _ ⟨(upd g_5 ((nI g_8) : Int32).toNatClampNeg 0), (upd g_6 ((nI g_8) : Int32).toNatClampNeg 0), (upd g_7 ((nI g_8) : Int32).toNatClampNeg 0), (g_8 + 1), rfl, (by omega), hP, hD, hS, lv_sub hl [1, 0] rfl⟩
theorem eX0_setNumber_0 : decode cX0_setNumber 0 = .ok (.aload_n 0, 1) := by decide +kernel
theorem eX0_setNumber_1 : decode cX0_setNumber 1 = .ok (.getfield 38, 3) := by decide +kernel
theorem eX0_setNumber_4 : decode cX0_setNumber 4 = .ok (.iload_n 1, 1) := by decide +kernel
theorem eX0_setNumber_5 : decode cX0_setNumber 5 = .ok (.iload_n 2, 1) := by decide +kernel
theorem eX0_setNumber_6 : decode cX0_setNumber 6 = .ok (.iastore, 1) := by decide +kernel
theorem eX0_setNumber_7 : decode cX0_setNumber 7 = .ok (.aload_n 0, 1) := by decide +kernel
theorem eX0_setNumber_8 : decode cX0_setNumber 8 = .ok (.iload_n 1, 1) := by decide +kernel
theorem eX0_setNumber_9 : decode cX0_setNumber 9 = .ok (.invokevirtual 69, 3) := by decide +kernel
theorem eX0_setNumber_12 : decode cX0_setNumber 12 = .ok (.aload_n 0, 1) := by decide +kernel
theorem eX0_setNumber_13 : decode cX0_setNumber 13 = .ok (.invokevirtual 76, 3) := by decide +kernel
theorem eX0_setNumber_16 : decode cX0_setNumber 16 = .ok (.return_, 1) := by decide +kernel
abbrev vs_C_0_setNumber : List Cond := .code yX0_setNumber cX0_setNumber 3 none :: CM
theorem g_C_0_setNumber_C_0_setBounds : GoodIn vs_C_0_setNumber (wsV RX0 69 RX0 yX0_setBounds vs_C_0_setBounds) := cm_gV cm_20 cm_21 cm_22 cm_19 cm_23
theorem g_C_0_setNumber_C_0_measure : GoodIn vs_C_0_setNumber (wsV RX0 76 RX0 yX0_measure vs_C_0_measure) := cm_gV cm_28 cm_29 cm_30 cm_19 cm_31
set_option maxHeartbeats 4000000 in
set_option maxRecDepth 100000 in
theorem c_C_0_setNumber (l : Launch) (dC : Nat → ClassId) (dI : Nat → Nat → Nat) (sz : Nat) (au : Nat) (nc : Nat) (np : Nat) (ne : Nat) (st0 : Int32) (q4 : Nat) (q5 : Nat) (q6 : Nat) (q7 : Nat) (q8 : Nat) (q9 : Nat) (q10 : Nat) (q11 : Nat) (q12 : Nat) (q13 : Nat) (q14 : Nat) (q15 : Nat) (q16 : Nat) (k_f4 : ClassId) (f4 : Nat → Int32) (k_f5 : ClassId) (q_f5 : Nat → Nat) (k_f6 : ClassId) (q_f6 : Nat → Nat) (k_f7 : ClassId) (f7 : Nat → Int32) (k_f8 : ClassId) (q_f8 : Nat → Nat) (k_f9 : ClassId) (q_f9 : Nat → Nat) (k_f10 : ClassId) (f10 : Nat → Int32) (k_f11 : ClassId) (f11 : Nat → Int32) (k_f12 : ClassId) (f12 : Nat → Int32) (k_f13 : ClassId) (f13 : Nat → Int32) (k_f14 : ClassId) (f14 : Nat → Int32) (k_f15 : ClassId) (f15 : Nat → Int32) (k_f16 : ClassId) (f16 : Nat → Int32) (a0 : Nat) (p1 : Int32) (hnc : nc ≤ 3) (hnp : np ≤ 8) (hne : ne ≤ 14) (hst0 : pm1 7 st0) (ha0 : a0 ≤ 87) : Met l yX0_setNumber vs_C_0_setNumber ({ frames := 2, cells := 0, slots := 0, locals := 45 }) (va_Pc [.ref au, .int (nI a0), .int p1] (pu_B (dC, dI) (au__w au (nI nc) (nI np) (nI ne) st0 q4 q5 q6 q7 q8 q9 q10 q11 q12 q13 q14 q15 q16 k_f4 f4 k_f5 (bN 7 q_f5) k_f6 (bN 7 q_f6) k_f7 f7 k_f8 (bN 4 q_f8) k_f9 (bN 2 q_f9) k_f10 f10 k_f11 f11 k_f12 f12 k_f13 f13 k_f14 f14 k_f15 f15 k_f16 f16) (au__t k_f4 k_f5 k_f6 k_f7 k_f8 k_f9 k_f10 k_f11 k_f12 k_f13 k_f14 k_f15 k_f16) sz)) (va_Qv (fun (_ : Unit) => True) (fun _ t => ∃ (z_f13 : Nat → Int32) (z_f14 : Nat → Int32) (z_f15 : Nat → Int32) (z_f16 : Nat → Int32) (z_f11 : Nat → Int32) (z_f12 : Nat → Int32), pu_E (dC, dI) (au__w au (nI nc) (nI np) (nI ne) st0 q4 q5 q6 q7 q8 q9 q10 q11 q12 q13 q14 q15 q16 k_f4 f4 k_f5 (bN 7 q_f5) k_f6 (bN 7 q_f6) k_f7 f7 k_f8 (bN 4 q_f8) k_f9 (bN 2 q_f9) k_f10 f10 k_f11 z_f11 k_f12 z_f12 k_f13 z_f13 k_f14 z_f14 k_f15 z_f15 k_f16 z_f16) (au__t k_f4 k_f5 k_f6 k_f7 k_f8 k_f9 k_f10 k_f11 k_f12 k_f13 k_f14 k_f15 k_f16) (va_A ((au__w au (nI nc) (nI np) (nI ne) st0 q4 q5 q6 q7 q8 q9 q10 q11 q12 q13 q14 q15 q16 k_f4 f4 k_f5 (bN 7 q_f5) k_f6 (bN 7 q_f6) k_f7 f7 k_f8 (bN 4 q_f8) k_f9 (bN 2 q_f9) k_f10 f10 k_f11 f11 k_f12 f12 k_f13 f13 k_f14 f14 k_f15 f15 k_f16 f16)) sz) t) (va_A ((au__w au (nI nc) (nI np) (nI ne) st0 q4 q5 q6 q7 q8 q9 q10 q11 q12 q13 q14 q15 q16 k_f4 f4 k_f5 (bN 7 q_f5) k_f6 (bN 7 q_f6) k_f7 f7 k_f8 (bN 4 q_f8) k_f9 (bN 2 q_f9) k_f10 f10 k_f11 f11 k_f12 f12 k_f13 f13 k_f14 f14 k_f15 f15 k_f16 f16)) sz)) 0 0 (va_A ((au__w au (nI nc) (nI np) (nI ne) st0 q4 q5 q6 q7 q8 q9 q10 q11 q12 q13 q14 q15 q16 k_f4 f4 k_f5 (bN 7 q_f5) k_f6 (bN 7 q_f6) k_f7 f7 k_f8 (bN 4 q_f8) k_f9 (bN 2 q_f9) k_f10 f10 k_f11 f11 k_f12 f12 k_f13 f13 k_f14 f14 k_f15 f15 k_f16 f16)) sz) := by
  refine Met.ofW (cc := cX0_setNumber) (maxL := 3) (ret := none) (by decide) rfl ?_
  intro p e s m args below meth c s₁ B hml hv
  obtain ⟨rfl, rfl, hP, hK, hD0⟩ := hv
  have hx := B.exec
  have hb := B.bytes
  have hr := B.returns
  have hts := atoms_spec (ws := vs_C_0_setNumber) B.pre
  have v_1 := hts (.fieldLink RX0 38 "ClockReach$Automaton" "numbers" "[I") (List.mem_cons_of_mem _ cm_16)
  have hown : s.vm.findClass RX0 = some m.cls := findClass_of_methodNamed B.named
  have hlocks := B.notSynchronized
  have hiX0 : ∀ w ∈ wsX00, w ∈ vs_C_0_setNumber := fun _ h => List.mem_cons_of_mem _ (cm_X0 h)
  have hD := hD0.self (sz := s.heap.size)
  generalize hAe : va_A ((au__w au (nI nc) (nI np) (nI ne) st0 q4 q5 q6 q7 q8 q9 q10 q11 q12 q13 q14 q15 q16 k_f4 f4 k_f5 (bN 7 q_f5) k_f6 (bN 7 q_f6) k_f7 f7 k_f8 (bN 4 q_f8) k_f9 (bN 2 q_f9) k_f10 f10 k_f11 f11 k_f12 f12 k_f13 f13 k_f14 f14 k_f15 f15 k_f16 f16)) s.heap.size = A at hD ⊢
  have hA : ∀ q : Nat, s.heap.size ≤ q → A q := fun q h => by rw [← hAe]; exact Or.inr h
  have hS : va_S A s.heap s.heap [] := va_S.rf
  have hl := lv_entry ([.ref au, .int (nI a0), .int p1]) (n := 3) (Nat.le_of_ble_eq_true rfl)
  rw [lg_entry_eq]
  generalize (lg_sl ([.ref au, .int (nI a0), .int p1]) ++ List.replicate (3 - (lg_sl ([.ref au, .int (nI a0), .int p1])).length) Slot.unset).toArray = ls at hl ⊢
  have hl : lv_has ls 3 [(0, .ref au), (1, .int (nI a0)), (2, .int p1)] := hl
  refine lv_aload_n hx hb eX0_setNumber_0 rfl (lv_at hl 0 rfl) ?_
  refine va_get (D := (dC, dI)) (ci := 0) (v := .ref q11) (C := RX0) (T := TX0) (N := 17) hx hb hts hiX0 hown hK hP 0 rfl rfl 11 (by decide) v_1 (fun _ h9 => h9) rfl eX0_setNumber_1 ?_
  refine lv_iload_n hx hb eX0_setNumber_4 rfl (lv_at hl 1 rfl) ?_
  refine lv_iload_n hx hb eX0_setNumber_5 rfl (lv_at hl 2 rfl) ?_
  refine va_iast hx hb hK hP hD hS 8 7 rfl rfl (vp_in_nI (n := a0) (Nat.lt_of_le_of_lt ha0 (Nat.le_of_ble_eq_true rfl)) (Nat.le_of_ble_eq_true rfl)) eX0_setNumber_6 (fun H locs hP hD hS => ?_)
  have hP : va_P (dC, dI) vwCl (au__w au (nI nc) (nI np) (nI ne) st0 q4 q5 q6 q7 q8 q9 q10 q11 q12 q13 q14 q15 q16 k_f4 f4 k_f5 (bN 7 q_f5) k_f6 (bN 7 q_f6) k_f7 f7 k_f8 (bN 4 q_f8) k_f9 (bN 2 q_f9) k_f10 f10 k_f11 (upd f11 ((nI a0) : Int32).toNatClampNeg p1) k_f12 f12 k_f13 f13 k_f14 f14 k_f15 f15 k_f16 f16) H := hP
  have hD : va_D A (au__w au (nI nc) (nI np) (nI ne) st0 q4 q5 q6 q7 q8 q9 q10 q11 q12 q13 q14 q15 q16 k_f4 f4 k_f5 (bN 7 q_f5) k_f6 (bN 7 q_f6) k_f7 f7 k_f8 (bN 4 q_f8) k_f9 (bN 2 q_f9) k_f10 f10 k_f11 (upd f11 ((nI a0) : Int32).toNatClampNeg p1) k_f12 f12 k_f13 f13 k_f14 f14 k_f15 f15 k_f16 f16) := hD
  refine lv_aload_n hx hb eX0_setNumber_7 rfl (lv_at hl 0 rfl) ?_
  refine lv_iload_n hx hb eX0_setNumber_8 rfl (lv_at hl 1 rfl) ?_
  have hFc := pu_free hD hS hA
  refine va_callv (va_runV (As := [.int (nI a0)]) (rest := []) ⟨hx, hb, hml, hown, hts⟩ (c_C_0_setBounds l dC dI _ au nc np ne st0 q4 q5 q6 q7 q8 q9 q10 q11 q12 q13 q14 q15 q16 k_f4 f4 k_f5 q_f5 k_f6 q_f6 k_f7 f7 k_f8 q_f8 k_f9 q_f9 k_f10 f10 k_f11 (upd f11 ((nI a0) : Int32).toNatClampNeg p1) k_f12 f12 k_f13 f13 k_f14 f14 k_f15 f15 k_f16 f16 a0 hnc hnp hne (hst0) ha0) (cwV 1 hts g_C_0_setNumber_C_0_setBounds rfl rfl rfl (by decide +kernel) ⟨Nat.le_of_ble_eq_true rfl, Nat.le_of_ble_eq_true rfl⟩) ⟨pu_bl, va_recv hK hP (ci := 0) (q0 := 0) rfl rfl, pu_in hP hK hD⟩ rfl rfl hl.1 rfl (lv_room (Nat.le_of_ble_eq_true rfl)) eX0_setNumber_9 ⟨Nat.le_of_ble_eq_true rfl, Nat.le_of_ble_eq_true rfl⟩) hS (fun q _ h => hFc q h) hFc (fun u t H1 locs ht hvm hw hB hz1 hk1 hS => ?_)
  obtain ⟨z_f13_2, z_f12_3, ⟨hP1, -, hD1⟩⟩ := hB
  rw [ht] at hP1
  have hP := hP1
  have hD := pu_all hFc hD1
  clear hP1 hD1 hFc
  clear hk1 hz1 ht hvm
  generalize H1 = H at hP hS ⊢
  refine lv_aload_n hx hb eX0_setNumber_12 rfl (lv_at hl 0 rfl) ?_
  have hFc := pu_free hD hS hA
  refine va_callv (va_runV (As := []) (rest := []) ⟨hx, hb, hml, hown, hts⟩ (c_C_0_measure l dC dI _ au nc np ne st0 q4 q5 q6 q7 q8 q9 q10 q11 q12 q13 q14 q15 q16 k_f4 f4 k_f5 q_f5 k_f6 q_f6 k_f7 f7 k_f8 q_f8 k_f9 q_f9 k_f10 f10 k_f11 (upd f11 ((nI a0) : Int32).toNatClampNeg p1) k_f12 z_f12_3 k_f13 z_f13_2 k_f14 f14 k_f15 f15 k_f16 f16 hnc hnp hne (hst0)) (cwV 0 hts g_C_0_setNumber_C_0_measure rfl rfl rfl (by decide +kernel) ⟨Nat.le_of_ble_eq_true rfl, Nat.le_of_ble_eq_true rfl⟩) ⟨pu_bl, va_recv hK hP (ci := 0) (q0 := 0) rfl rfl, pu_in hP hK hD⟩ rfl rfl hl.1 rfl (lv_room (Nat.le_of_ble_eq_true rfl)) eX0_setNumber_13 ⟨Nat.le_of_ble_eq_true rfl, Nat.le_of_ble_eq_true rfl⟩) hS (fun q _ h => hFc q h) hFc (fun u t H1 locs ht hvm hw hB hz1 hk1 hS => ?_)
  obtain ⟨z_f14_5, z_f15_6, z_f16_7, ⟨hP1, -, hD1⟩⟩ := hB
  rw [ht] at hP1
  have hP := hP1
  have hD := pu_all hFc hD1
  clear hP1 hD1 hFc
  clear hk1 hz1 ht hvm
  generalize H1 = H at hP hS ⊢
  exact W.vret hx hb hr (fun t ht hW => ⟨⟨(), rfl, trivial, ⟨z_f13_2, z_f14_5, z_f15_6, z_f16_7, (upd f11 ((nI a0) : Int32).toNatClampNeg p1), z_f12_3, ⟨by rw [ht]; exact hP, va_K.moved hW.alike hK, hD⟩⟩⟩, hS.F ht⟩) hS.2.2 eX0_setNumber_16
theorem eX0_allConditions_0 : decode cX0_allConditions 0 = .ok (.iconst 0, 1) := by decide +kernel
theorem eX0_allConditions_1 : decode cX0_allConditions 1 = .ok (.istore_n 1, 1) := by decide +kernel
theorem eX0_allConditions_2 : decode cX0_allConditions 2 = .ok (.iconst 0, 1) := by decide +kernel
theorem eX0_allConditions_3 : decode cX0_allConditions 3 = .ok (.istore_n 2, 1) := by decide +kernel
theorem eX0_allConditions_4 : decode cX0_allConditions 4 = .ok (.iload_n 2, 1) := by decide +kernel
theorem eX0_allConditions_5 : decode cX0_allConditions 5 = .ok (.bipush 22, 2) := by decide +kernel
theorem eX0_allConditions_7 : decode cX0_allConditions 7 = .ok (.if_icmp .ge 18, 3) := by decide +kernel
theorem eX0_allConditions_10 : decode cX0_allConditions 10 = .ok (.iload_n 1, 1) := by decide +kernel
theorem eX0_allConditions_11 : decode cX0_allConditions 11 = .ok (.aload_n 0, 1) := by decide +kernel
theorem eX0_allConditions_12 : decode cX0_allConditions 12 = .ok (.getfield 29, 3) := by decide +kernel
theorem eX0_allConditions_15 : decode cX0_allConditions 15 = .ok (.iload_n 2, 1) := by decide +kernel
theorem eX0_allConditions_16 : decode cX0_allConditions 16 = .ok (.iaload, 1) := by decide +kernel
theorem eX0_allConditions_17 : decode cX0_allConditions 17 = .ok (.iadd, 1) := by decide +kernel
theorem eX0_allConditions_18 : decode cX0_allConditions 18 = .ok (.istore_n 1, 1) := by decide +kernel
theorem eX0_allConditions_19 : decode cX0_allConditions 19 = .ok (.iinc 2 1, 3) := by decide +kernel
theorem eX0_allConditions_22 : decode cX0_allConditions 22 = .ok (.goto (-18), 3) := by decide +kernel
theorem eX0_allConditions_25 : decode cX0_allConditions 25 = .ok (.iload_n 1, 1) := by decide +kernel
theorem eX0_allConditions_26 : decode cX0_allConditions 26 = .ok (.ireturn, 1) := by decide +kernel
abbrev vs_C_0_allConditions : List Cond := .code yX0_allConditions cX0_allConditions 3 (some .int) :: CM
set_option maxHeartbeats 4000000 in
set_option maxRecDepth 100000 in
theorem c_C_0_allConditions (l : Launch) (dC : Nat → ClassId) (dI : Nat → Nat → Nat) (sz : Nat) (au : Nat) (nc : Nat) (np : Nat) (ne : Nat) (st0 : Int32) (q4 : Nat) (q5 : Nat) (q6 : Nat) (q7 : Nat) (q8 : Nat) (q9 : Nat) (q10 : Nat) (q11 : Nat) (q12 : Nat) (q13 : Nat) (q14 : Nat) (q15 : Nat) (q16 : Nat) (k_f4 : ClassId) (f4 : Nat → Int32) (k_f5 : ClassId) (q_f5 : Nat → Nat) (k_f6 : ClassId) (q_f6 : Nat → Nat) (k_f7 : ClassId) (f7 : Nat → Int32) (k_f8 : ClassId) (q_f8 : Nat → Nat) (k_f9 : ClassId) (q_f9 : Nat → Nat) (k_f10 : ClassId) (f10 : Nat → Int32) (k_f11 : ClassId) (f11 : Nat → Int32) (k_f12 : ClassId) (f12 : Nat → Int32) (k_f13 : ClassId) (f13 : Nat → Int32) (k_f14 : ClassId) (f14 : Nat → Int32) (k_f15 : ClassId) (f15 : Nat → Int32) (k_f16 : ClassId) (f16 : Nat → Int32) (hnc : nc ≤ 3) (hnp : np ≤ 8) (hne : ne ≤ 14) (hst0 : pm1 7 st0) : Met l yX0_allConditions vs_C_0_allConditions ({ frames := 0, cells := 0, slots := 0, locals := 0 }) (va_Pc [.ref au] (pu_B (dC, dI) (au__w au (nI nc) (nI np) (nI ne) st0 q4 q5 q6 q7 q8 q9 q10 q11 q12 q13 q14 q15 q16 k_f4 f4 k_f5 (bN 7 q_f5) k_f6 (bN 7 q_f6) k_f7 f7 k_f8 (bN 4 q_f8) k_f9 (bN 2 q_f9) k_f10 f10 k_f11 f11 k_f12 f12 k_f13 f13 k_f14 f14 k_f15 f15 k_f16 f16) (au__t k_f4 k_f5 k_f6 k_f7 k_f8 k_f9 k_f10 k_f11 k_f12 k_f13 k_f14 k_f15 k_f16) sz)) (va_Qi (fun (r : Int32) (_ : Unit) => True) (fun _ _ => True) (va_A [] sz)) 0 0 (va_A [] sz) := by
  refine Met.ofW (cc := cX0_allConditions) (maxL := 3) (ret := (some .int)) (by decide) rfl ?_
  intro p e s m args below meth c s₁ B hml hv
  obtain ⟨rfl, rfl, hP, hK, hD0⟩ := hv
  have hx := B.exec
  have hb := B.bytes
  have hr := B.returns
  have hts := atoms_spec (ws := vs_C_0_allConditions) B.pre
  have v_1 := hts (.fieldLink RX0 29 "ClockReach$Automaton" "counts" "[I") (List.mem_cons_of_mem _ cm_8)
  have hown : s.vm.findClass RX0 = some m.cls := findClass_of_methodNamed B.named
  have hlocks := B.notSynchronized
  have hiX0 : ∀ w ∈ wsX00, w ∈ vs_C_0_allConditions := fun _ h => List.mem_cons_of_mem _ (cm_X0 h)
  have hD := hD0
  have hA : ∀ q : Nat, s.heap.size ≤ q → va_A [] s.heap.size q := fun _ h => Or.inr h
  have hS : va_S (va_A [] s.heap.size) s.heap s.heap [] := va_S.rf
  have hl := lv_entry ([.ref au]) (n := 3) (Nat.le_of_ble_eq_true rfl)
  rw [lg_entry_eq]
  generalize (lg_sl ([.ref au]) ++ List.replicate (3 - (lg_sl ([.ref au])).length) Slot.unset).toArray = ls at hl ⊢
  have hl : lv_has ls 3 [(0, .ref au)] := hl
  refine lv_iconst (v := 0) hx hb eX0_allConditions_0 (by decide) ?_
  refine lv_istore_n (lv' := [(1, .int 0), (0, .ref au)]) hx hb eX0_allConditions_1 rfl hl (by decide) rfl (fun ls hl => ?_)
  refine lv_iconst (v := 0) hx hb eX0_allConditions_2 (by decide) ?_
  refine lv_istore_n (lv' := [(2, .int 0), (1, .int 0), (0, .ref au)]) hx hb eX0_allConditions_3 rfl hl (by decide) rfl (fun ls hl => ?_)
  refine pu_while (fun nn H locs ls => ∃ (g_3 : Int32) (g_4 : Nat), nn = 22 - g_4 ∧ g_4 ≤ 22 ∧ va_P (dC, dI) vwCl (au__w au (nI nc) (nI np) (nI ne) st0 q4 q5 q6 q7 q8 q9 q10 q11 q12 q13 q14 q15 q16 k_f4 f4 k_f5 (bN 7 q_f5) k_f6 (bN 7 q_f6) k_f7 f7 k_f8 (bN 4 q_f8) k_f9 (bN 2 q_f9) k_f10 f10 k_f11 f11 k_f12 f12 k_f13 f13 k_f14 f14 k_f15 f15 k_f16 f16) H ∧ va_D (fun _ => True) (au__w au (nI nc) (nI np) (nI ne) st0 q4 q5 q6 q7 q8 q9 q10 q11 q12 q13 q14 q15 q16 k_f4 f4 k_f5 (bN 7 q_f5) k_f6 (bN 7 q_f6) k_f7 f7 k_f8 (bN 4 q_f8) k_f9 (bN 2 q_f9) k_f10 f10 k_f11 f11 k_f12 f12 k_f13 f13 k_f14 f14 k_f15 f15 k_f16 f16) ∧ va_S (va_A [] s.heap.size) s.heap H locs ∧ lv_has ls 3 [(0, .ref au), (1, .int g_3), (2, .int (nI g_4))]) 4 ?_ _ _ _ _ ⟨0, 0, rfl, (Nat.le_of_ble_eq_true rfl), hP, hD, hS, lv_sub hl [2, 1, 0] rfl⟩
  rintro nn ih_5 H locs ls ⟨g_3, g_4, rfl, hg_4, hP, hD, hS, hl⟩
  refine lv_iload_n hx hb eX0_allConditions_4 rfl (lv_at hl 2 rfl) ?_
  refine lv_bipush (v := 22) hx hb eX0_allConditions_5 (by decide) ?_
  refine lv_icmp_ge (tgt := 25) hx hb eX0_allConditions_7 (by decide) (fun c_6 => ?_) (fun c_6 => ?_)
  · have c_6 : 22 ≤ g_4 := (nI_leI (a := 22) (b := g_4) (Nat.le_of_ble_eq_true rfl) (Nat.lt_of_le_of_lt hg_4 (Nat.le_of_ble_eq_true rfl))).mp c_6
    refine lv_iload_n hx hb eX0_allConditions_25 rfl (lv_at hl 1 rfl) ?_
    exact W.iret (v := g_3) hx hb hr (fun t ht hW => ⟨⟨g_3, (), rfl, trivial, trivial⟩, hS.F ht⟩) hS.2.2 eX0_allConditions_26
  · have c_6 : ¬ 22 ≤ g_4 := fun z => c_6 ((nI_leI (a := 22) (b := g_4) (Nat.le_of_ble_eq_true rfl) (Nat.lt_of_le_of_lt hg_4 (Nat.le_of_ble_eq_true rfl))).mpr z)
    refine lv_iload_n hx hb eX0_allConditions_10 rfl (lv_at hl 1 rfl) ?_
    refine lv_aload_n hx hb eX0_allConditions_11 rfl (lv_at hl 0 rfl) ?_
    refine va_get (D := (dC, dI)) (ci := 0) (v := .ref q8) (C := RX0) (T := TX0) (N := 17) hx hb hts hiX0 hown hK hP 0 rfl rfl 8 (by decide) v_1 (fun _ h9 => h9) rfl eX0_allConditions_12 ?_
    refine lv_iload_n hx hb eX0_allConditions_15 rfl (lv_at hl 2 rfl) ?_
    refine va_iald hx hb hK hP 5 4 rfl rfl (vp_in_nI (n := g_4) (by omega) (Nat.le_of_ble_eq_true rfl)) eX0_allConditions_16 ?_
    refine lv_topi (fun y_7 ey_7 => ?_)
    obtain ⟨u_8, hu_8, qu_8⟩ := bN_get 4 q_f8 (((nI g_4) : Int32).toNatClampNeg)
    obtain rfl : y_7 = nI u_8 := ey_7.trans qu_8
    refine lv_iadd hx hb eX0_allConditions_17 ?_
    refine lv_topi (fun y_9 ey_9 => ?_)
    refine lv_istore_n (lv' := [(1, .int y_9), (0, .ref au), (2, .int (nI g_4))]) hx hb eX0_allConditions_18 rfl hl (by decide) rfl (fun ls hl => ?_)
    refine lv_iinc (v := (nI (g_4 + 1))) (lv' := [(2, .int (nI (g_4 + 1))), (1, .int y_9), (0, .ref au)]) hx hb eX0_allConditions_19 hl (k := 2) rfl (nI_1 _) (by decide) rfl (fun ls hl => ?_)
    refine lv_goto (tgt := 4) hx hb eX0_allConditions_22 (by decide) ?_
    exact ih_5 (22 - (g_4 + 1)) (by omega) _ _ _ ⟨y_9, (g_4 + 1), rfl, (by omega), hP, hD, hS, lv_sub hl [2, 1, 0] rfl⟩
theorem eX0_addEdge_0 : decode cX0_addEdge 0 = .ok (.aload_n 0, 1) := by decide +kernel
theorem eX0_addEdge_1 : decode cX0_addEdge 1 = .ok (.getfield 19, 3) := by decide +kernel
theorem eX0_addEdge_4 : decode cX0_addEdge 4 = .ok (.aload_n 0, 1) := by decide +kernel
theorem eX0_addEdge_5 : decode cX0_addEdge 5 = .ok (.getfield 62, 3) := by decide +kernel
theorem eX0_addEdge_8 : decode cX0_addEdge 8 = .ok (.iload_n 1, 1) := by decide +kernel
theorem eX0_addEdge_9 : decode cX0_addEdge 9 = .ok (.iastore, 1) := by decide +kernel
theorem eX0_addEdge_10 : decode cX0_addEdge 10 = .ok (.aload_n 0, 1) := by decide +kernel
theorem eX0_addEdge_11 : decode cX0_addEdge 11 = .ok (.getfield 23, 3) := by decide +kernel
theorem eX0_addEdge_14 : decode cX0_addEdge 14 = .ok (.aload_n 0, 1) := by decide +kernel
theorem eX0_addEdge_15 : decode cX0_addEdge 15 = .ok (.getfield 62, 3) := by decide +kernel
theorem eX0_addEdge_18 : decode cX0_addEdge 18 = .ok (.iload_n 2, 1) := by decide +kernel
theorem eX0_addEdge_19 : decode cX0_addEdge 19 = .ok (.iastore, 1) := by decide +kernel
theorem eX0_addEdge_20 : decode cX0_addEdge 20 = .ok (.aload_n 0, 1) := by decide +kernel
theorem eX0_addEdge_21 : decode cX0_addEdge 21 = .ok (.getfield 26, 3) := by decide +kernel
theorem eX0_addEdge_24 : decode cX0_addEdge 24 = .ok (.aload_n 0, 1) := by decide +kernel
theorem eX0_addEdge_25 : decode cX0_addEdge 25 = .ok (.getfield 62, 3) := by decide +kernel
theorem eX0_addEdge_28 : decode cX0_addEdge 28 = .ok (.iconst 0, 1) := by decide +kernel
theorem eX0_addEdge_29 : decode cX0_addEdge 29 = .ok (.iastore, 1) := by decide +kernel
theorem eX0_addEdge_30 : decode cX0_addEdge 30 = .ok (.aload_n 0, 1) := by decide +kernel
theorem eX0_addEdge_31 : decode cX0_addEdge 31 = .ok (.dup, 1) := by decide +kernel
theorem eX0_addEdge_32 : decode cX0_addEdge 32 = .ok (.getfield 62, 3) := by decide +kernel
theorem eX0_addEdge_35 : decode cX0_addEdge 35 = .ok (.iconst 1, 1) := by decide +kernel
theorem eX0_addEdge_36 : decode cX0_addEdge 36 = .ok (.iadd, 1) := by decide +kernel
theorem eX0_addEdge_37 : decode cX0_addEdge 37 = .ok (.putfield 62, 3) := by decide +kernel
theorem eX0_addEdge_40 : decode cX0_addEdge 40 = .ok (.return_, 1) := by decide +kernel
theorem eX0_edgesWith_0 : decode cX0_edgesWith 0 = .ok (.iconst 0, 1) := by decide +kernel
theorem eX0_edgesWith_1 : decode cX0_edgesWith 1 = .ok (.istore_n 3, 1) := by decide +kernel
theorem eX0_edgesWith_2 : decode cX0_edgesWith 2 = .ok (.iconst 0, 1) := by decide +kernel
theorem eX0_edgesWith_3 : decode cX0_edgesWith 3 = .ok (.istore 4, 2) := by decide +kernel
theorem eX0_edgesWith_5 : decode cX0_edgesWith 5 = .ok (.iload 4, 2) := by decide +kernel
theorem eX0_edgesWith_7 : decode cX0_edgesWith 7 = .ok (.aload_n 0, 1) := by decide +kernel
theorem eX0_edgesWith_8 : decode cX0_edgesWith 8 = .ok (.getfield 62, 3) := by decide +kernel
theorem eX0_edgesWith_11 : decode cX0_edgesWith 11 = .ok (.if_icmp .ge 24, 3) := by decide +kernel
theorem eX0_edgesWith_14 : decode cX0_edgesWith 14 = .ok (.aload_n 1, 1) := by decide +kernel
theorem eX0_edgesWith_15 : decode cX0_edgesWith 15 = .ok (.iload 4, 2) := by decide +kernel
theorem eX0_edgesWith_17 : decode cX0_edgesWith 17 = .ok (.iaload, 1) := by decide +kernel
theorem eX0_edgesWith_18 : decode cX0_edgesWith 18 = .ok (.iload_n 2, 1) := by decide +kernel
theorem eX0_edgesWith_19 : decode cX0_edgesWith 19 = .ok (.if_icmp .ne 10, 3) := by decide +kernel
theorem eX0_edgesWith_22 : decode cX0_edgesWith 22 = .ok (.iload_n 3, 1) := by decide +kernel
theorem eX0_edgesWith_23 : decode cX0_edgesWith 23 = .ok (.iconst 1, 1) := by decide +kernel
theorem eX0_edgesWith_24 : decode cX0_edgesWith 24 = .ok (.iload 4, 2) := by decide +kernel
theorem eX0_edgesWith_26 : decode cX0_edgesWith 26 = .ok (.ishl, 1) := by decide +kernel
theorem eX0_edgesWith_27 : decode cX0_edgesWith 27 = .ok (.ior, 1) := by decide +kernel
theorem eX0_edgesWith_28 : decode cX0_edgesWith 28 = .ok (.istore_n 3, 1) := by decide +kernel
theorem eX0_edgesWith_29 : decode cX0_edgesWith 29 = .ok (.iinc 4 1, 3) := by decide +kernel
theorem eX0_edgesWith_32 : decode cX0_edgesWith 32 = .ok (.goto (-27), 3) := by decide +kernel
theorem eX0_edgesWith_35 : decode cX0_edgesWith 35 = .ok (.iload_n 3, 1) := by decide +kernel
theorem eX0_edgesWith_36 : decode cX0_edgesWith 36 = .ok (.ireturn, 1) := by decide +kernel
abbrev vs_C_0_edgesWith_5 : List Cond := .code yX0_edgesWith cX0_edgesWith 5 (some .int) :: CM
set_option maxHeartbeats 4000000 in
set_option maxRecDepth 100000 in
theorem c_C_0_edgesWith_5 (l : Launch) (dC : Nat → ClassId) (dI : Nat → Nat → Nat) (sz : Nat) (au : Nat) (nc : Nat) (np : Nat) (ne : Nat) (st0 : Int32) (q4 : Nat) (q5 : Nat) (q6 : Nat) (q7 : Nat) (q8 : Nat) (q9 : Nat) (q10 : Nat) (q11 : Nat) (q12 : Nat) (q13 : Nat) (q14 : Nat) (q15 : Nat) (q16 : Nat) (k_f4 : ClassId) (f4 : Nat → Int32) (k_f5 : ClassId) (q_f5 : Nat → Nat) (k_f6 : ClassId) (q_f6 : Nat → Nat) (k_f7 : ClassId) (f7 : Nat → Int32) (k_f8 : ClassId) (q_f8 : Nat → Nat) (k_f9 : ClassId) (q_f9 : Nat → Nat) (k_f10 : ClassId) (f10 : Nat → Int32) (k_f11 : ClassId) (f11 : Nat → Int32) (k_f12 : ClassId) (f12 : Nat → Int32) (k_f13 : ClassId) (f13 : Nat → Int32) (k_f14 : ClassId) (f14 : Nat → Int32) (k_f15 : ClassId) (f15 : Nat → Int32) (k_f16 : ClassId) (f16 : Nat → Int32) (p1 : Int32) (hnc : nc ≤ 3) (hnp : np ≤ 8) (hne : ne ≤ 14) (hst0 : pm1 7 st0) : Met l yX0_edgesWith vs_C_0_edgesWith_5 ({ frames := 0, cells := 0, slots := 0, locals := 0 }) (va_Pc [.ref au, .ref q5, .int p1] (pu_B (dC, dI) (au__w au (nI nc) (nI np) (nI ne) st0 q4 q5 q6 q7 q8 q9 q10 q11 q12 q13 q14 q15 q16 k_f4 f4 k_f5 (bN 7 q_f5) k_f6 (bN 7 q_f6) k_f7 f7 k_f8 (bN 4 q_f8) k_f9 (bN 2 q_f9) k_f10 f10 k_f11 f11 k_f12 f12 k_f13 f13 k_f14 f14 k_f15 f15 k_f16 f16) (au__t k_f4 k_f5 k_f6 k_f7 k_f8 k_f9 k_f10 k_f11 k_f12 k_f13 k_f14 k_f15 k_f16) sz)) (va_Qi (fun (r : Int32) (_ : Unit) => True) (fun _ _ => True) (va_A [] sz)) 0 0 (va_A [] sz) := by
  refine Met.ofW (cc := cX0_edgesWith) (maxL := 5) (ret := (some .int)) (by decide) rfl ?_
  intro p e s m args below meth c s₁ B hml hv
  obtain ⟨rfl, rfl, hP, hK, hD0⟩ := hv
  have hx := B.exec
  have hb := B.bytes
  have hr := B.returns
  have hts := atoms_spec (ws := vs_C_0_edgesWith_5) B.pre
  have v_1 := hts (.fieldLink RX0 62 "ClockReach$Automaton" "edges" "I") (List.mem_cons_of_mem _ cm_5)
  have hown : s.vm.findClass RX0 = some m.cls := findClass_of_methodNamed B.named
  have hlocks := B.notSynchronized
  have hiX0 : ∀ w ∈ wsX00, w ∈ vs_C_0_edgesWith_5 := fun _ h => List.mem_cons_of_mem _ (cm_X0 h)
  have hD := hD0
  have hA : ∀ q : Nat, s.heap.size ≤ q → va_A [] s.heap.size q := fun _ h => Or.inr h
  have hS : va_S (va_A [] s.heap.size) s.heap s.heap [] := va_S.rf
  have hl := lv_entry ([.ref au, .ref q5, .int p1]) (n := 5) (Nat.le_of_ble_eq_true rfl)
  rw [lg_entry_eq]
  generalize (lg_sl ([.ref au, .ref q5, .int p1]) ++ List.replicate (5 - (lg_sl ([.ref au, .ref q5, .int p1])).length) Slot.unset).toArray = ls at hl ⊢
  have hl : lv_has ls 5 [(0, .ref au), (1, .ref q5), (2, .int p1)] := hl
  refine lv_iconst (v := 0) hx hb eX0_edgesWith_0 (by decide) ?_
  refine lv_istore_n (lv' := [(3, .int 0), (0, .ref au), (1, .ref q5), (2, .int p1)]) hx hb eX0_edgesWith_1 rfl hl (by decide) rfl (fun ls hl => ?_)
  refine lv_iconst (v := 0) hx hb eX0_edgesWith_2 (by decide) ?_
  refine lv_istore (lv' := [(4, .int 0), (3, .int 0), (0, .ref au), (1, .ref q5), (2, .int p1)]) hx hb eX0_edgesWith_3 hl (by decide) rfl (fun ls hl => ?_)
  refine pu_while (fun nn H locs ls => ∃ (g_3 : Int32) (g_4 : Nat), nn = 14 - g_4 ∧ g_4 ≤ 14 ∧ va_P (dC, dI) vwCl (au__w au (nI nc) (nI np) (nI ne) st0 q4 q5 q6 q7 q8 q9 q10 q11 q12 q13 q14 q15 q16 k_f4 f4 k_f5 (bN 7 q_f5) k_f6 (bN 7 q_f6) k_f7 f7 k_f8 (bN 4 q_f8) k_f9 (bN 2 q_f9) k_f10 f10 k_f11 f11 k_f12 f12 k_f13 f13 k_f14 f14 k_f15 f15 k_f16 f16) H ∧ va_D (fun _ => True) (au__w au (nI nc) (nI np) (nI ne) st0 q4 q5 q6 q7 q8 q9 q10 q11 q12 q13 q14 q15 q16 k_f4 f4 k_f5 (bN 7 q_f5) k_f6 (bN 7 q_f6) k_f7 f7 k_f8 (bN 4 q_f8) k_f9 (bN 2 q_f9) k_f10 f10 k_f11 f11 k_f12 f12 k_f13 f13 k_f14 f14 k_f15 f15 k_f16 f16) ∧ va_S (va_A [] s.heap.size) s.heap H locs ∧ lv_has ls 5 [(0, .ref au), (1, .ref q5), (2, .int p1), (3, .int g_3), (4, .int (nI g_4))]) 5 ?_ _ _ _ _ ⟨0, 0, rfl, (Nat.le_of_ble_eq_true rfl), hP, hD, hS, lv_sub hl [2, 3, 4, 1, 0] rfl⟩
  rintro nn ih_5 H locs ls ⟨g_3, g_4, rfl, hg_4, hP, hD, hS, hl⟩
  refine lv_iload hx hb eX0_edgesWith_5 (lv_at hl 4 rfl) ?_
  refine lv_aload_n hx hb eX0_edgesWith_7 rfl (lv_at hl 0 rfl) ?_
  refine va_get (D := (dC, dI)) (ci := 0) (v := .int (nI ne)) (C := RX0) (T := TX0) (N := 17) hx hb hts hiX0 hown hK hP 0 rfl rfl 2 (by decide) v_1 (fun _ h9 => h9) rfl eX0_edgesWith_8 ?_
  refine lv_icmp_ge (tgt := 35) hx hb eX0_edgesWith_11 (by decide) (fun c_6 => ?_) (fun c_6 => ?_)
  · have c_6 : ne ≤ g_4 := (nI_leI (a := ne) (b := g_4) (Nat.lt_of_le_of_lt hne (Nat.le_of_ble_eq_true rfl)) (Nat.lt_of_le_of_lt hg_4 (Nat.le_of_ble_eq_true rfl))).mp c_6
    refine lv_iload_n hx hb eX0_edgesWith_35 rfl (lv_at hl 3 rfl) ?_
    exact W.iret (v := g_3) hx hb hr (fun t ht hW => ⟨⟨g_3, (), rfl, trivial, trivial⟩, hS.F ht⟩) hS.2.2 eX0_edgesWith_36
  · have c_6 : ¬ ne ≤ g_4 := fun z => c_6 ((nI_leI (a := ne) (b := g_4) (Nat.lt_of_le_of_lt hne (Nat.le_of_ble_eq_true rfl)) (Nat.lt_of_le_of_lt hg_4 (Nat.le_of_ble_eq_true rfl))).mpr z)
    refine lv_aload_n hx hb eX0_edgesWith_14 rfl (lv_at hl 1 rfl) ?_
    refine lv_iload hx hb eX0_edgesWith_15 (lv_at hl 4 rfl) ?_
    refine va_iald hx hb hK hP 2 1 rfl rfl (vp_in_nI (n := g_4) (by omega) (Nat.le_of_ble_eq_true rfl)) eX0_edgesWith_17 ?_
    refine lv_topi (fun y_7 ey_7 => ?_)
    obtain ⟨u_8, hu_8, qu_8⟩ := bN_get 7 q_f5 (((nI g_4) : Int32).toNatClampNeg)
    obtain rfl : y_7 = nI u_8 := ey_7.trans qu_8
    refine lv_iload_n hx hb eX0_edgesWith_18 rfl (lv_at hl 2 rfl) ?_
    refine pu_join (fun H locs ls st => ∃ (g_9 : Int32), st = [] ∧ va_P (dC, dI) vwCl (au__w au (nI nc) (nI np) (nI ne) st0 q4 q5 q6 q7 q8 q9 q10 q11 q12 q13 q14 q15 q16 k_f4 f4 k_f5 (bN 7 q_f5) k_f6 (bN 7 q_f6) k_f7 f7 k_f8 (bN 4 q_f8) k_f9 (bN 2 q_f9) k_f10 f10 k_f11 f11 k_f12 f12 k_f13 f13 k_f14 f14 k_f15 f15 k_f16 f16) H ∧ va_D (fun _ => True) (au__w au (nI nc) (nI np) (nI ne) st0 q4 q5 q6 q7 q8 q9 q10 q11 q12 q13 q14 q15 q16 k_f4 f4 k_f5 (bN 7 q_f5) k_f6 (bN 7 q_f6) k_f7 f7 k_f8 (bN 4 q_f8) k_f9 (bN 2 q_f9) k_f10 f10 k_f11 f11 k_f12 f12 k_f13 f13 k_f14 f14 k_f15 f15 k_f16 f16) ∧ va_S (va_A [] s.heap.size) s.heap H locs ∧ lv_has ls 5 [(0, .ref au), (1, .ref q5), (2, .int p1), (3, .int g_9), (4, .int (nI g_4))]) 29 ?_ (fun j_10 => ?_)
    · rintro H locs ls st ⟨g_9, rfl, hP, hD, hS, hl⟩
      refine lv_iinc (v := (nI (g_4 + 1))) (lv' := [(4, .int (nI (g_4 + 1))), (0, .ref au), (1, .ref q5), (2, .int p1), (3, .int g_9)]) hx hb eX0_edgesWith_29 hl (k := 4) rfl (nI_1 _) (by decide) rfl (fun ls hl => ?_)
      refine lv_goto (tgt := 5) hx hb eX0_edgesWith_32 (by decide) ?_
      exact ih_5 (14 - (g_4 + 1)) (by omega) _ _ _ ⟨g_9, (g_4 + 1), rfl, (by omega), hP, hD, hS, lv_sub hl [1, 2, 3, 4, 0] rfl⟩
    refine lv_icmp_ne (tgt := 29) hx hb eX0_edgesWith_19 (by decide) (fun c_11 => ?_) (fun c_11 => ?_)
    · exact j_10 _ _ _ _ ⟨g_3, rfl, hP, hD, hS, lv_sub hl [0, 1, 2, 3, 4] rfl⟩
    · refine lv_iload_n hx hb eX0_edgesWith_22 rfl (lv_at hl 3 rfl) ?_
      refine lv_iconst (v := 1) hx hb eX0_edgesWith_23 (by decide) ?_
      refine lv_iload hx hb eX0_edgesWith_24 (lv_at hl 4 rfl) ?_
      refine lv_ishl hx hb eX0_edgesWith_26 ?_
      refine lv_topi (fun y_12 ey_12 => ?_)
      refine lv_ior hx hb eX0_edgesWith_27 ?_
      refine lv_topi (fun y_13 ey_13 => ?_)
      refine lv_istore_n (lv' := [(3, .int y_13), (0, .ref au), (1, .ref q5), (2, .int p1), (4, .int (nI g_4))]) hx hb eX0_edgesWith_28 rfl hl (by decide) rfl (fun ls hl => ?_)
      exact j_10 _ _ _ _ ⟨y_13, rfl, hP, hD, hS, lv_sub hl [1, 2, 3, 0, 4] rfl⟩
abbrev vs_C_0_edgesWith_6 : List Cond := .code yX0_edgesWith cX0_edgesWith 5 (some .int) :: CM
set_option maxHeartbeats 4000000 in
set_option maxRecDepth 100000 in
theorem c_C_0_edgesWith_6 (l : Launch) (dC : Nat → ClassId) (dI : Nat → Nat → Nat) (sz : Nat) (au : Nat) (nc : Nat) (np : Nat) (ne : Nat) (st0 : Int32) (q4 : Nat) (q5 : Nat) (q6 : Nat) (q7 : Nat) (q8 : Nat) (q9 : Nat) (q10 : Nat) (q11 : Nat) (q12 : Nat) (q13 : Nat) (q14 : Nat) (q15 : Nat) (q16 : Nat) (k_f4 : ClassId) (f4 : Nat → Int32) (k_f5 : ClassId) (q_f5 : Nat → Nat) (k_f6 : ClassId) (q_f6 : Nat → Nat) (k_f7 : ClassId) (f7 : Nat → Int32) (k_f8 : ClassId) (q_f8 : Nat → Nat) (k_f9 : ClassId) (q_f9 : Nat → Nat) (k_f10 : ClassId) (f10 : Nat → Int32) (k_f11 : ClassId) (f11 : Nat → Int32) (k_f12 : ClassId) (f12 : Nat → Int32) (k_f13 : ClassId) (f13 : Nat → Int32) (k_f14 : ClassId) (f14 : Nat → Int32) (k_f15 : ClassId) (f15 : Nat → Int32) (k_f16 : ClassId) (f16 : Nat → Int32) (p1 : Int32) (hnc : nc ≤ 3) (hnp : np ≤ 8) (hne : ne ≤ 14) (hst0 : pm1 7 st0) : Met l yX0_edgesWith vs_C_0_edgesWith_6 ({ frames := 0, cells := 0, slots := 0, locals := 0 }) (va_Pc [.ref au, .ref q6, .int p1] (pu_B (dC, dI) (au__w au (nI nc) (nI np) (nI ne) st0 q4 q5 q6 q7 q8 q9 q10 q11 q12 q13 q14 q15 q16 k_f4 f4 k_f5 (bN 7 q_f5) k_f6 (bN 7 q_f6) k_f7 f7 k_f8 (bN 4 q_f8) k_f9 (bN 2 q_f9) k_f10 f10 k_f11 f11 k_f12 f12 k_f13 f13 k_f14 f14 k_f15 f15 k_f16 f16) (au__t k_f4 k_f5 k_f6 k_f7 k_f8 k_f9 k_f10 k_f11 k_f12 k_f13 k_f14 k_f15 k_f16) sz)) (va_Qi (fun (r : Int32) (_ : Unit) => True) (fun _ _ => True) (va_A [] sz)) 0 0 (va_A [] sz) := by
  refine Met.ofW (cc := cX0_edgesWith) (maxL := 5) (ret := (some .int)) (by decide) rfl ?_
  intro p e s m args below meth c s₁ B hml hv
  obtain ⟨rfl, rfl, hP, hK, hD0⟩ := hv
  have hx := B.exec
  have hb := B.bytes
  have hr := B.returns
  have hts := atoms_spec (ws := vs_C_0_edgesWith_6) B.pre
  have v_1 := hts (.fieldLink RX0 62 "ClockReach$Automaton" "edges" "I") (List.mem_cons_of_mem _ cm_5)
  have hown : s.vm.findClass RX0 = some m.cls := findClass_of_methodNamed B.named
  have hlocks := B.notSynchronized
  have hiX0 : ∀ w ∈ wsX00, w ∈ vs_C_0_edgesWith_6 := fun _ h => List.mem_cons_of_mem _ (cm_X0 h)
  have hD := hD0
  have hA : ∀ q : Nat, s.heap.size ≤ q → va_A [] s.heap.size q := fun _ h => Or.inr h
  have hS : va_S (va_A [] s.heap.size) s.heap s.heap [] := va_S.rf
  have hl := lv_entry ([.ref au, .ref q6, .int p1]) (n := 5) (Nat.le_of_ble_eq_true rfl)
  rw [lg_entry_eq]
  generalize (lg_sl ([.ref au, .ref q6, .int p1]) ++ List.replicate (5 - (lg_sl ([.ref au, .ref q6, .int p1])).length) Slot.unset).toArray = ls at hl ⊢
  have hl : lv_has ls 5 [(0, .ref au), (1, .ref q6), (2, .int p1)] := hl
  refine lv_iconst (v := 0) hx hb eX0_edgesWith_0 (by decide) ?_
  refine lv_istore_n (lv' := [(3, .int 0), (0, .ref au), (1, .ref q6), (2, .int p1)]) hx hb eX0_edgesWith_1 rfl hl (by decide) rfl (fun ls hl => ?_)
  refine lv_iconst (v := 0) hx hb eX0_edgesWith_2 (by decide) ?_
  refine lv_istore (lv' := [(4, .int 0), (3, .int 0), (0, .ref au), (1, .ref q6), (2, .int p1)]) hx hb eX0_edgesWith_3 hl (by decide) rfl (fun ls hl => ?_)
  refine pu_while (fun nn H locs ls => ∃ (g_3 : Int32) (g_4 : Nat), nn = 14 - g_4 ∧ g_4 ≤ 14 ∧ va_P (dC, dI) vwCl (au__w au (nI nc) (nI np) (nI ne) st0 q4 q5 q6 q7 q8 q9 q10 q11 q12 q13 q14 q15 q16 k_f4 f4 k_f5 (bN 7 q_f5) k_f6 (bN 7 q_f6) k_f7 f7 k_f8 (bN 4 q_f8) k_f9 (bN 2 q_f9) k_f10 f10 k_f11 f11 k_f12 f12 k_f13 f13 k_f14 f14 k_f15 f15 k_f16 f16) H ∧ va_D (fun _ => True) (au__w au (nI nc) (nI np) (nI ne) st0 q4 q5 q6 q7 q8 q9 q10 q11 q12 q13 q14 q15 q16 k_f4 f4 k_f5 (bN 7 q_f5) k_f6 (bN 7 q_f6) k_f7 f7 k_f8 (bN 4 q_f8) k_f9 (bN 2 q_f9) k_f10 f10 k_f11 f11 k_f12 f12 k_f13 f13 k_f14 f14 k_f15 f15 k_f16 f16) ∧ va_S (va_A [] s.heap.size) s.heap H locs ∧ lv_has ls 5 [(0, .ref au), (1, .ref q6), (2, .int p1), (3, .int g_3), (4, .int (nI g_4))]) 5 ?_ _ _ _ _ ⟨0, 0, rfl, (Nat.le_of_ble_eq_true rfl), hP, hD, hS, lv_sub hl [2, 3, 4, 1, 0] rfl⟩
  rintro nn ih_5 H locs ls ⟨g_3, g_4, rfl, hg_4, hP, hD, hS, hl⟩
  refine lv_iload hx hb eX0_edgesWith_5 (lv_at hl 4 rfl) ?_
  refine lv_aload_n hx hb eX0_edgesWith_7 rfl (lv_at hl 0 rfl) ?_
  refine va_get (D := (dC, dI)) (ci := 0) (v := .int (nI ne)) (C := RX0) (T := TX0) (N := 17) hx hb hts hiX0 hown hK hP 0 rfl rfl 2 (by decide) v_1 (fun _ h9 => h9) rfl eX0_edgesWith_8 ?_
  refine lv_icmp_ge (tgt := 35) hx hb eX0_edgesWith_11 (by decide) (fun c_6 => ?_) (fun c_6 => ?_)
  · have c_6 : ne ≤ g_4 := (nI_leI (a := ne) (b := g_4) (Nat.lt_of_le_of_lt hne (Nat.le_of_ble_eq_true rfl)) (Nat.lt_of_le_of_lt hg_4 (Nat.le_of_ble_eq_true rfl))).mp c_6
    refine lv_iload_n hx hb eX0_edgesWith_35 rfl (lv_at hl 3 rfl) ?_
    exact W.iret (v := g_3) hx hb hr (fun t ht hW => ⟨⟨g_3, (), rfl, trivial, trivial⟩, hS.F ht⟩) hS.2.2 eX0_edgesWith_36
  · have c_6 : ¬ ne ≤ g_4 := fun z => c_6 ((nI_leI (a := ne) (b := g_4) (Nat.lt_of_le_of_lt hne (Nat.le_of_ble_eq_true rfl)) (Nat.lt_of_le_of_lt hg_4 (Nat.le_of_ble_eq_true rfl))).mpr z)
    refine lv_aload_n hx hb eX0_edgesWith_14 rfl (lv_at hl 1 rfl) ?_
    refine lv_iload hx hb eX0_edgesWith_15 (lv_at hl 4 rfl) ?_
    refine va_iald hx hb hK hP 3 2 rfl rfl (vp_in_nI (n := g_4) (by omega) (Nat.le_of_ble_eq_true rfl)) eX0_edgesWith_17 ?_
    refine lv_topi (fun y_7 ey_7 => ?_)
    obtain ⟨u_8, hu_8, qu_8⟩ := bN_get 7 q_f6 (((nI g_4) : Int32).toNatClampNeg)
    obtain rfl : y_7 = nI u_8 := ey_7.trans qu_8
    refine lv_iload_n hx hb eX0_edgesWith_18 rfl (lv_at hl 2 rfl) ?_
    refine pu_join (fun H locs ls st => ∃ (g_9 : Int32), st = [] ∧ va_P (dC, dI) vwCl (au__w au (nI nc) (nI np) (nI ne) st0 q4 q5 q6 q7 q8 q9 q10 q11 q12 q13 q14 q15 q16 k_f4 f4 k_f5 (bN 7 q_f5) k_f6 (bN 7 q_f6) k_f7 f7 k_f8 (bN 4 q_f8) k_f9 (bN 2 q_f9) k_f10 f10 k_f11 f11 k_f12 f12 k_f13 f13 k_f14 f14 k_f15 f15 k_f16 f16) H ∧ va_D (fun _ => True) (au__w au (nI nc) (nI np) (nI ne) st0 q4 q5 q6 q7 q8 q9 q10 q11 q12 q13 q14 q15 q16 k_f4 f4 k_f5 (bN 7 q_f5) k_f6 (bN 7 q_f6) k_f7 f7 k_f8 (bN 4 q_f8) k_f9 (bN 2 q_f9) k_f10 f10 k_f11 f11 k_f12 f12 k_f13 f13 k_f14 f14 k_f15 f15 k_f16 f16) ∧ va_S (va_A [] s.heap.size) s.heap H locs ∧ lv_has ls 5 [(0, .ref au), (1, .ref q6), (2, .int p1), (3, .int g_9), (4, .int (nI g_4))]) 29 ?_ (fun j_10 => ?_)
    · rintro H locs ls st ⟨g_9, rfl, hP, hD, hS, hl⟩
      refine lv_iinc (v := (nI (g_4 + 1))) (lv' := [(4, .int (nI (g_4 + 1))), (0, .ref au), (1, .ref q6), (2, .int p1), (3, .int g_9)]) hx hb eX0_edgesWith_29 hl (k := 4) rfl (nI_1 _) (by decide) rfl (fun ls hl => ?_)
      refine lv_goto (tgt := 5) hx hb eX0_edgesWith_32 (by decide) ?_
      exact ih_5 (14 - (g_4 + 1)) (by omega) _ _ _ ⟨g_9, (g_4 + 1), rfl, (by omega), hP, hD, hS, lv_sub hl [1, 2, 3, 4, 0] rfl⟩
    refine lv_icmp_ne (tgt := 29) hx hb eX0_edgesWith_19 (by decide) (fun c_11 => ?_) (fun c_11 => ?_)
    · exact j_10 _ _ _ _ ⟨g_3, rfl, hP, hD, hS, lv_sub hl [0, 1, 2, 3, 4] rfl⟩
    · refine lv_iload_n hx hb eX0_edgesWith_22 rfl (lv_at hl 3 rfl) ?_
      refine lv_iconst (v := 1) hx hb eX0_edgesWith_23 (by decide) ?_
      refine lv_iload hx hb eX0_edgesWith_24 (lv_at hl 4 rfl) ?_
      refine lv_ishl hx hb eX0_edgesWith_26 ?_
      refine lv_topi (fun y_12 ey_12 => ?_)
      refine lv_ior hx hb eX0_edgesWith_27 ?_
      refine lv_topi (fun y_13 ey_13 => ?_)
      refine lv_istore_n (lv' := [(3, .int y_13), (0, .ref au), (1, .ref q6), (2, .int p1), (4, .int (nI g_4))]) hx hb eX0_edgesWith_28 rfl hl (by decide) rfl (fun ls hl => ?_)
      exact j_10 _ _ _ _ ⟨y_13, rfl, hP, hD, hS, lv_sub hl [1, 2, 3, 0, 4] rfl⟩
theorem eX0_hurriedBehind_0 : decode cX0_hurriedBehind 0 = .ok (.iconst 0, 1) := by decide +kernel
theorem eX0_hurriedBehind_1 : decode cX0_hurriedBehind 1 = .ok (.istore_n 2, 1) := by decide +kernel
theorem eX0_hurriedBehind_2 : decode cX0_hurriedBehind 2 = .ok (.iconst 0, 1) := by decide +kernel
theorem eX0_hurriedBehind_3 : decode cX0_hurriedBehind 3 = .ok (.istore_n 3, 1) := by decide +kernel
theorem eX0_hurriedBehind_4 : decode cX0_hurriedBehind 4 = .ok (.iload_n 3, 1) := by decide +kernel
theorem eX0_hurriedBehind_5 : decode cX0_hurriedBehind 5 = .ok (.bipush 8, 2) := by decide +kernel
theorem eX0_hurriedBehind_7 : decode cX0_hurriedBehind 7 = .ok (.if_icmp .ge 92, 3) := by decide +kernel
theorem eX0_hurriedBehind_10 : decode cX0_hurriedBehind 10 = .ok (.iconst 0, 1) := by decide +kernel
theorem eX0_hurriedBehind_11 : decode cX0_hurriedBehind 11 = .ok (.istore 4, 2) := by decide +kernel
theorem eX0_hurriedBehind_13 : decode cX0_hurriedBehind 13 = .ok (.iload 4, 2) := by decide +kernel
theorem eX0_hurriedBehind_15 : decode cX0_hurriedBehind 15 = .ok (.aload_n 0, 1) := by decide +kernel
theorem eX0_hurriedBehind_16 : decode cX0_hurriedBehind 16 = .ok (.getfield 62, 3) := by decide +kernel
theorem eX0_hurriedBehind_19 : decode cX0_hurriedBehind 19 = .ok (.if_icmp .ge 74, 3) := by decide +kernel
theorem eX0_hurriedBehind_22 : decode cX0_hurriedBehind 22 = .ok (.aload_n 0, 1) := by decide +kernel
theorem eX0_hurriedBehind_23 : decode cX0_hurriedBehind 23 = .ok (.getfield 19, 3) := by decide +kernel
theorem eX0_hurriedBehind_26 : decode cX0_hurriedBehind 26 = .ok (.iload 4, 2) := by decide +kernel
theorem eX0_hurriedBehind_28 : decode cX0_hurriedBehind 28 = .ok (.iaload, 1) := by decide +kernel
theorem eX0_hurriedBehind_29 : decode cX0_hurriedBehind 29 = .ok (.iload_n 1, 1) := by decide +kernel
theorem eX0_hurriedBehind_30 : decode cX0_hurriedBehind 30 = .ok (.if_icmp .eq 18, 3) := by decide +kernel
theorem eX0_hurriedBehind_33 : decode cX0_hurriedBehind 33 = .ok (.iload_n 2, 1) := by decide +kernel
theorem eX0_hurriedBehind_34 : decode cX0_hurriedBehind 34 = .ok (.aload_n 0, 1) := by decide +kernel
theorem eX0_hurriedBehind_35 : decode cX0_hurriedBehind 35 = .ok (.getfield 19, 3) := by decide +kernel
theorem eX0_hurriedBehind_38 : decode cX0_hurriedBehind 38 = .ok (.iload 4, 2) := by decide +kernel
theorem eX0_hurriedBehind_40 : decode cX0_hurriedBehind 40 = .ok (.iaload, 1) := by decide +kernel
theorem eX0_hurriedBehind_41 : decode cX0_hurriedBehind 41 = .ok (.ishr, 1) := by decide +kernel
theorem eX0_hurriedBehind_42 : decode cX0_hurriedBehind 42 = .ok (.iconst 1, 1) := by decide +kernel
theorem eX0_hurriedBehind_43 : decode cX0_hurriedBehind 43 = .ok (.iand, 1) := by decide +kernel
theorem eX0_hurriedBehind_44 : decode cX0_hurriedBehind 44 = .ok (.iconst 1, 1) := by decide +kernel
theorem eX0_hurriedBehind_45 : decode cX0_hurriedBehind 45 = .ok (.if_icmp .ne 7, 3) := by decide +kernel
theorem eX0_hurriedBehind_48 : decode cX0_hurriedBehind 48 = .ok (.iconst 1, 1) := by decide +kernel
theorem eX0_hurriedBehind_49 : decode cX0_hurriedBehind 49 = .ok (.goto 4, 3) := by decide +kernel
theorem eX0_hurriedBehind_52 : decode cX0_hurriedBehind 52 = .ok (.iconst 0, 1) := by decide +kernel
theorem eX0_hurriedBehind_53 : decode cX0_hurriedBehind 53 = .ok (.istore 5, 2) := by decide +kernel
theorem eX0_hurriedBehind_55 : decode cX0_hurriedBehind 55 = .ok (.iload 5, 2) := by decide +kernel
theorem eX0_hurriedBehind_57 : decode cX0_hurriedBehind 57 = .ok (.ifCond .eq 30, 3) := by decide +kernel
theorem eX0_hurriedBehind_60 : decode cX0_hurriedBehind 60 = .ok (.aload_n 0, 1) := by decide +kernel
theorem eX0_hurriedBehind_61 : decode cX0_hurriedBehind 61 = .ok (.getfield 15, 3) := by decide +kernel
theorem eX0_hurriedBehind_64 : decode cX0_hurriedBehind 64 = .ok (.aload_n 0, 1) := by decide +kernel
theorem eX0_hurriedBehind_65 : decode cX0_hurriedBehind 65 = .ok (.getfield 23, 3) := by decide +kernel
theorem eX0_hurriedBehind_68 : decode cX0_hurriedBehind 68 = .ok (.iload 4, 2) := by decide +kernel
theorem eX0_hurriedBehind_70 : decode cX0_hurriedBehind 70 = .ok (.iaload, 1) := by decide +kernel
theorem eX0_hurriedBehind_71 : decode cX0_hurriedBehind 71 = .ok (.baload, 1) := by decide +kernel
theorem eX0_hurriedBehind_72 : decode cX0_hurriedBehind 72 = .ok (.ifCond .eq 15, 3) := by decide +kernel
theorem eX0_hurriedBehind_75 : decode cX0_hurriedBehind 75 = .ok (.iload_n 2, 1) := by decide +kernel
theorem eX0_hurriedBehind_76 : decode cX0_hurriedBehind 76 = .ok (.iconst 1, 1) := by decide +kernel
theorem eX0_hurriedBehind_77 : decode cX0_hurriedBehind 77 = .ok (.aload_n 0, 1) := by decide +kernel
theorem eX0_hurriedBehind_78 : decode cX0_hurriedBehind 78 = .ok (.getfield 23, 3) := by decide +kernel
theorem eX0_hurriedBehind_81 : decode cX0_hurriedBehind 81 = .ok (.iload 4, 2) := by decide +kernel
theorem eX0_hurriedBehind_83 : decode cX0_hurriedBehind 83 = .ok (.iaload, 1) := by decide +kernel
theorem eX0_hurriedBehind_84 : decode cX0_hurriedBehind 84 = .ok (.ishl, 1) := by decide +kernel
theorem eX0_hurriedBehind_85 : decode cX0_hurriedBehind 85 = .ok (.ior, 1) := by decide +kernel
theorem eX0_hurriedBehind_86 : decode cX0_hurriedBehind 86 = .ok (.istore_n 2, 1) := by decide +kernel
theorem eX0_hurriedBehind_87 : decode cX0_hurriedBehind 87 = .ok (.iinc 4 1, 3) := by decide +kernel
theorem eX0_hurriedBehind_90 : decode cX0_hurriedBehind 90 = .ok (.goto (-77), 3) := by decide +kernel
theorem eX0_hurriedBehind_93 : decode cX0_hurriedBehind 93 = .ok (.iinc 3 1, 3) := by decide +kernel
theorem eX0_hurriedBehind_96 : decode cX0_hurriedBehind 96 = .ok (.goto (-92), 3) := by decide +kernel
theorem eX0_hurriedBehind_99 : decode cX0_hurriedBehind 99 = .ok (.iload_n 2, 1) := by decide +kernel
theorem eX0_hurriedBehind_100 : decode cX0_hurriedBehind 100 = .ok (.ireturn, 1) := by decide +kernel
abbrev vs_C_0_hurriedBehind : List Cond := .code yX0_hurriedBehind cX0_hurriedBehind 6 (some .int) :: CM
set_option maxHeartbeats 4000000 in
set_option maxRecDepth 100000 in
theorem c_C_0_hurriedBehind (l : Launch) (dC : Nat → ClassId) (dI : Nat → Nat → Nat) (sz : Nat) (au : Nat) (nc : Nat) (np : Nat) (ne : Nat) (st0 : Int32) (q4 : Nat) (q5 : Nat) (q6 : Nat) (q7 : Nat) (q8 : Nat) (q9 : Nat) (q10 : Nat) (q11 : Nat) (q12 : Nat) (q13 : Nat) (q14 : Nat) (q15 : Nat) (q16 : Nat) (k_f4 : ClassId) (f4 : Nat → Int32) (k_f5 : ClassId) (q_f5 : Nat → Nat) (k_f6 : ClassId) (q_f6 : Nat → Nat) (k_f7 : ClassId) (f7 : Nat → Int32) (k_f8 : ClassId) (q_f8 : Nat → Nat) (k_f9 : ClassId) (q_f9 : Nat → Nat) (k_f10 : ClassId) (f10 : Nat → Int32) (k_f11 : ClassId) (f11 : Nat → Int32) (k_f12 : ClassId) (f12 : Nat → Int32) (k_f13 : ClassId) (f13 : Nat → Int32) (k_f14 : ClassId) (f14 : Nat → Int32) (k_f15 : ClassId) (f15 : Nat → Int32) (k_f16 : ClassId) (f16 : Nat → Int32) (a0 : Nat) (hnc : nc ≤ 3) (hnp : np ≤ 8) (hne : ne ≤ 14) (hst0 : pm1 7 st0) (ha0 : a0 ≤ 7) : Met l yX0_hurriedBehind vs_C_0_hurriedBehind ({ frames := 0, cells := 0, slots := 0, locals := 0 }) (va_Pc [.ref au, .int (nI a0)] (pu_B (dC, dI) (au__w au (nI nc) (nI np) (nI ne) st0 q4 q5 q6 q7 q8 q9 q10 q11 q12 q13 q14 q15 q16 k_f4 f4 k_f5 (bN 7 q_f5) k_f6 (bN 7 q_f6) k_f7 f7 k_f8 (bN 4 q_f8) k_f9 (bN 2 q_f9) k_f10 f10 k_f11 f11 k_f12 f12 k_f13 f13 k_f14 f14 k_f15 f15 k_f16 f16) (au__t k_f4 k_f5 k_f6 k_f7 k_f8 k_f9 k_f10 k_f11 k_f12 k_f13 k_f14 k_f15 k_f16) sz)) (va_Qi (fun (r : Int32) (_ : Unit) => True) (fun _ _ => True) (va_A [] sz)) 0 0 (va_A [] sz) := by
  refine Met.ofW (cc := cX0_hurriedBehind) (maxL := 6) (ret := (some .int)) (by decide) rfl ?_
  intro p e s m args below meth c s₁ B hml hv
  obtain ⟨rfl, rfl, hP, hK, hD0⟩ := hv
  have hx := B.exec
  have hb := B.bytes
  have hr := B.returns
  have hts := atoms_spec (ws := vs_C_0_hurriedBehind) B.pre
  have v_1 := hts (.fieldLink RX0 62 "ClockReach$Automaton" "edges" "I") (List.mem_cons_of_mem _ cm_5)
  have v_2 := hts (.fieldLink RX0 19 "ClockReach$Automaton" "sources" "[I") (List.mem_cons_of_mem _ cm_10)
  have v_3 := hts (.fieldLink RX0 15 "ClockReach$Automaton" "hurried" "[Z") (List.mem_cons_of_mem _ cm_7)
  have v_4 := hts (.fieldLink RX0 23 "ClockReach$Automaton" "targets" "[I") (List.mem_cons_of_mem _ cm_11)
  have hown : s.vm.findClass RX0 = some m.cls := findClass_of_methodNamed B.named
  have hlocks := B.notSynchronized
  have hiX0 : ∀ w ∈ wsX00, w ∈ vs_C_0_hurriedBehind := fun _ h => List.mem_cons_of_mem _ (cm_X0 h)
  have hD := hD0
  have hA : ∀ q : Nat, s.heap.size ≤ q → va_A [] s.heap.size q := fun _ h => Or.inr h
  have hS : va_S (va_A [] s.heap.size) s.heap s.heap [] := va_S.rf
  have hl := lv_entry ([.ref au, .int (nI a0)]) (n := 6) (Nat.le_of_ble_eq_true rfl)
  rw [lg_entry_eq]
  generalize (lg_sl ([.ref au, .int (nI a0)]) ++ List.replicate (6 - (lg_sl ([.ref au, .int (nI a0)])).length) Slot.unset).toArray = ls at hl ⊢
  have hl : lv_has ls 6 [(0, .ref au), (1, .int (nI a0))] := hl
  refine lv_iconst (v := 0) hx hb eX0_hurriedBehind_0 (by decide) ?_
  refine lv_istore_n (lv' := [(2, .int 0), (0, .ref au), (1, .int (nI a0))]) hx hb eX0_hurriedBehind_1 rfl hl (by decide) rfl (fun ls hl => ?_)
  refine lv_iconst (v := 0) hx hb eX0_hurriedBehind_2 (by decide) ?_
  refine lv_istore_n (lv' := [(3, .int 0), (2, .int 0), (0, .ref au), (1, .int (nI a0))]) hx hb eX0_hurriedBehind_3 rfl hl (by decide) rfl (fun ls hl => ?_)
  refine pu_while (fun nn H locs ls => ∃ (g_3 : Int32) (g_4 : Nat), nn = 8 - g_4 ∧ g_4 ≤ 8 ∧ va_P (dC, dI) vwCl (au__w au (nI nc) (nI np) (nI ne) st0 q4 q5 q6 q7 q8 q9 q10 q11 q12 q13 q14 q15 q16 k_f4 f4 k_f5 (bN 7 q_f5) k_f6 (bN 7 q_f6) k_f7 f7 k_f8 (bN 4 q_f8) k_f9 (bN 2 q_f9) k_f10 f10 k_f11 f11 k_f12 f12 k_f13 f13 k_f14 f14 k_f15 f15 k_f16 f16) H ∧ va_D (fun _ => True) (au__w au (nI nc) (nI np) (nI ne) st0 q4 q5 q6 q7 q8 q9 q10 q11 q12 q13 q14 q15 q16 k_f4 f4 k_f5 (bN 7 q_f5) k_f6 (bN 7 q_f6) k_f7 f7 k_f8 (bN 4 q_f8) k_f9 (bN 2 q_f9) k_f10 f10 k_f11 f11 k_f12 f12 k_f13 f13 k_f14 f14 k_f15 f15 k_f16 f16) ∧ va_S (va_A [] s.heap.size) s.heap H locs ∧ lv_has ls 6 [(0, .ref au), (1, .int (nI a0)), (2, .int g_3), (3, .int (nI g_4))]) 4 ?_ _ _ _ _ ⟨0, 0, rfl, (Nat.le_of_ble_eq_true rfl), hP, hD, hS, lv_sub hl [2, 3, 1, 0] rfl⟩
  rintro nn ih_5 H locs ls ⟨g_3, g_4, rfl, hg_4, hP, hD, hS, hl⟩
  refine lv_iload_n hx hb eX0_hurriedBehind_4 rfl (lv_at hl 3 rfl) ?_
  refine lv_bipush (v := 8) hx hb eX0_hurriedBehind_5 (by decide) ?_
  refine lv_icmp_ge (tgt := 99) hx hb eX0_hurriedBehind_7 (by decide) (fun c_6 => ?_) (fun c_6 => ?_)
  · have c_6 : 8 ≤ g_4 := (nI_leI (a := 8) (b := g_4) (Nat.le_of_ble_eq_true rfl) (Nat.lt_of_le_of_lt hg_4 (Nat.le_of_ble_eq_true rfl))).mp c_6
    refine lv_iload_n hx hb eX0_hurriedBehind_99 rfl (lv_at hl 2 rfl) ?_
    exact W.iret (v := g_3) hx hb hr (fun t ht hW => ⟨⟨g_3, (), rfl, trivial, trivial⟩, hS.F ht⟩) hS.2.2 eX0_hurriedBehind_100
  · have c_6 : ¬ 8 ≤ g_4 := fun z => c_6 ((nI_leI (a := 8) (b := g_4) (Nat.le_of_ble_eq_true rfl) (Nat.lt_of_le_of_lt hg_4 (Nat.le_of_ble_eq_true rfl))).mpr z)
    refine lv_iconst (v := 0) hx hb eX0_hurriedBehind_10 (by decide) ?_
    refine lv_istore (lv' := [(4, .int 0), (0, .ref au), (1, .int (nI a0)), (2, .int g_3), (3, .int (nI g_4))]) hx hb eX0_hurriedBehind_11 hl (by decide) rfl (fun ls hl => ?_)
    refine pu_while (fun nn H locs ls => ∃ (g_9 : Int32) (g_10 : Nat), nn = 14 - g_10 ∧ g_10 ≤ 14 ∧ va_P (dC, dI) vwCl (au__w au (nI nc) (nI np) (nI ne) st0 q4 q5 q6 q7 q8 q9 q10 q11 q12 q13 q14 q15 q16 k_f4 f4 k_f5 (bN 7 q_f5) k_f6 (bN 7 q_f6) k_f7 f7 k_f8 (bN 4 q_f8) k_f9 (bN 2 q_f9) k_f10 f10 k_f11 f11 k_f12 f12 k_f13 f13 k_f14 f14 k_f15 f15 k_f16 f16) H ∧ va_D (fun _ => True) (au__w au (nI nc) (nI np) (nI ne) st0 q4 q5 q6 q7 q8 q9 q10 q11 q12 q13 q14 q15 q16 k_f4 f4 k_f5 (bN 7 q_f5) k_f6 (bN 7 q_f6) k_f7 f7 k_f8 (bN 4 q_f8) k_f9 (bN 2 q_f9) k_f10 f10 k_f11 f11 k_f12 f12 k_f13 f13 k_f14 f14 k_f15 f15 k_f16 f16) ∧ va_S (va_A [] s.heap.size) s.heap H locs ∧ lv_has ls 6 [(0, .ref au), (1, .int (nI a0)), (2, .int g_9), (3, .int (nI g_4)), (4, .int (nI g_10))]) 13 ?_ _ _ _ _ ⟨g_3, 0, rfl, (Nat.le_of_ble_eq_true rfl), hP, hD, hS, lv_sub hl [1, 2, 3, 4, 0] rfl⟩
    rintro nn ih_11 H locs ls ⟨g_9, g_10, rfl, hg_10, hP, hD, hS, hl⟩
    refine lv_iload hx hb eX0_hurriedBehind_13 (lv_at hl 4 rfl) ?_
    refine lv_aload_n hx hb eX0_hurriedBehind_15 rfl (lv_at hl 0 rfl) ?_
    refine va_get (D := (dC, dI)) (ci := 0) (v := .int (nI ne)) (C := RX0) (T := TX0) (N := 17) hx hb hts hiX0 hown hK hP 0 rfl rfl 2 (by decide) v_1 (fun _ h9 => h9) rfl eX0_hurriedBehind_16 ?_
    refine lv_icmp_ge (tgt := 93) hx hb eX0_hurriedBehind_19 (by decide) (fun c_12 => ?_) (fun c_12 => ?_)
    · have c_12 : ne ≤ g_10 := (nI_leI (a := ne) (b := g_10) (Nat.lt_of_le_of_lt hne (Nat.le_of_ble_eq_true rfl)) (Nat.lt_of_le_of_lt hg_10 (Nat.le_of_ble_eq_true rfl))).mp c_12
      refine lv_iinc (v := (nI (g_4 + 1))) (lv' := [(3, .int (nI (g_4 + 1))), (0, .ref au), (1, .int (nI a0)), (2, .int g_9), (4, .int (nI g_10))]) hx hb eX0_hurriedBehind_93 hl (k := 3) rfl (nI_1 _) (by decide) rfl (fun ls hl => ?_)
      refine lv_goto (tgt := 4) hx hb eX0_hurriedBehind_96 (by decide) ?_
      exact ih_5 (8 - (g_4 + 1)) (by omega) _ _ _ ⟨g_9, (g_4 + 1), rfl, (by omega), hP, hD, hS, lv_sub hl [1, 2, 3, 0] rfl⟩
    · have c_12 : ¬ ne ≤ g_10 := fun z => c_12 ((nI_leI (a := ne) (b := g_10) (Nat.lt_of_le_of_lt hne (Nat.le_of_ble_eq_true rfl)) (Nat.lt_of_le_of_lt hg_10 (Nat.le_of_ble_eq_true rfl))).mpr z)
      refine lv_aload_n hx hb eX0_hurriedBehind_22 rfl (lv_at hl 0 rfl) ?_
      refine va_get (D := (dC, dI)) (ci := 0) (v := .ref q5) (C := RX0) (T := TX0) (N := 17) hx hb hts hiX0 hown hK hP 0 rfl rfl 5 (by decide) v_2 (fun _ h9 => h9) rfl eX0_hurriedBehind_23 ?_
      refine lv_iload hx hb eX0_hurriedBehind_26 (lv_at hl 4 rfl) ?_
      refine va_iald hx hb hK hP 2 1 rfl rfl (vp_in_nI (n := g_10) (by omega) (Nat.le_of_ble_eq_true rfl)) eX0_hurriedBehind_28 ?_
      refine lv_topi (fun y_13 ey_13 => ?_)
      obtain ⟨u_14, hu_14, qu_14⟩ := bN_get 7 q_f5 (((nI g_10) : Int32).toNatClampNeg)
      obtain rfl : y_13 = nI u_14 := ey_13.trans qu_14
      refine lv_iload_n hx hb eX0_hurriedBehind_29 rfl (lv_at hl 1 rfl) ?_
      refine pu_join (fun H locs ls st => ∃ (g_15 : Nat), st = [.int (nI g_15)] ∧ g_15 ≤ 1 ∧ va_P (dC, dI) vwCl (au__w au (nI nc) (nI np) (nI ne) st0 q4 q5 q6 q7 q8 q9 q10 q11 q12 q13 q14 q15 q16 k_f4 f4 k_f5 (bN 7 q_f5) k_f6 (bN 7 q_f6) k_f7 f7 k_f8 (bN 4 q_f8) k_f9 (bN 2 q_f9) k_f10 f10 k_f11 f11 k_f12 f12 k_f13 f13 k_f14 f14 k_f15 f15 k_f16 f16) H ∧ va_D (fun _ => True) (au__w au (nI nc) (nI np) (nI ne) st0 q4 q5 q6 q7 q8 q9 q10 q11 q12 q13 q14 q15 q16 k_f4 f4 k_f5 (bN 7 q_f5) k_f6 (bN 7 q_f6) k_f7 f7 k_f8 (bN 4 q_f8) k_f9 (bN 2 q_f9) k_f10 f10 k_f11 f11 k_f12 f12 k_f13 f13 k_f14 f14 k_f15 f15 k_f16 f16) ∧ va_S (va_A [] s.heap.size) s.heap H locs ∧ lv_has ls 6 [(0, .ref au), (1, .int (nI a0)), (2, .int g_9), (3, .int (nI g_4)), (4, .int (nI g_10))]) 53 ?_ (fun j_16 => ?_)
      · rintro H locs ls st ⟨g_15, rfl, hg_15, hP, hD, hS, hl⟩
        refine lv_istore (lv' := [(5, .int (nI g_15)), (0, .ref au), (1, .int (nI a0)), (2, .int g_9), (3, .int (nI g_4)), (4, .int (nI g_10))]) hx hb eX0_hurriedBehind_53 hl (by decide) rfl (fun ls hl => ?_)
        refine lv_iload hx hb eX0_hurriedBehind_55 (lv_at hl 0 rfl) ?_
        refine pu_join (fun H locs ls st => ∃ (g_17 : Int32), st = [] ∧ va_P (dC, dI) vwCl (au__w au (nI nc) (nI np) (nI ne) st0 q4 q5 q6 q7 q8 q9 q10 q11 q12 q13 q14 q15 q16 k_f4 f4 k_f5 (bN 7 q_f5) k_f6 (bN 7 q_f6) k_f7 f7 k_f8 (bN 4 q_f8) k_f9 (bN 2 q_f9) k_f10 f10 k_f11 f11 k_f12 f12 k_f13 f13 k_f14 f14 k_f15 f15 k_f16 f16) H ∧ va_D (fun _ => True) (au__w au (nI nc) (nI np) (nI ne) st0 q4 q5 q6 q7 q8 q9 q10 q11 q12 q13 q14 q15 q16 k_f4 f4 k_f5 (bN 7 q_f5) k_f6 (bN 7 q_f6) k_f7 f7 k_f8 (bN 4 q_f8) k_f9 (bN 2 q_f9) k_f10 f10 k_f11 f11 k_f12 f12 k_f13 f13 k_f14 f14 k_f15 f15 k_f16 f16) ∧ va_S (va_A [] s.heap.size) s.heap H locs ∧ lv_has ls 6 [(0, .ref au), (1, .int (nI a0)), (2, .int g_17), (3, .int (nI g_4)), (4, .int (nI g_10)), (5, .int (nI g_15))]) 87 ?_ (fun j_18 => ?_)
        · rintro H locs ls st ⟨g_17, rfl, hP, hD, hS, hl⟩
          refine lv_iinc (v := (nI (g_10 + 1))) (lv' := [(4, .int (nI (g_10 + 1))), (0, .ref au), (1, .int (nI a0)), (2, .int g_17), (3, .int (nI g_4)), (5, .int (nI g_15))]) hx hb eX0_hurriedBehind_87 hl (k := 4) rfl (nI_1 _) (by decide) rfl (fun ls hl => ?_)
          refine lv_goto (tgt := 13) hx hb eX0_hurriedBehind_90 (by decide) ?_
          exact ih_11 (14 - (g_10 + 1)) (by omega) _ _ _ ⟨g_17, (g_10 + 1), rfl, (by omega), hP, hD, hS, lv_sub hl [1, 2, 3, 4, 0] rfl⟩
        refine lv_if_eq (tgt := 87) hx hb eX0_hurriedBehind_57 (by decide) (fun c_19 => ?_) (fun c_19 => ?_)
        · have c_19 : g_15 = 0 := (nI_eq (a := g_15) (b := 0) (Nat.lt_of_le_of_lt hg_15 (Nat.le_of_ble_eq_true rfl)) (Nat.le_of_ble_eq_true rfl)).mp c_19
          exact j_18 _ _ _ _ ⟨g_9, rfl, hP, hD, hS, lv_sub hl [1, 2, 3, 4, 5, 0] rfl⟩
        · have c_19 : ¬ g_15 = 0 := fun z => c_19 ((nI_eq (a := g_15) (b := 0) (Nat.lt_of_le_of_lt hg_15 (Nat.le_of_ble_eq_true rfl)) (Nat.le_of_ble_eq_true rfl)).mpr z)
          refine lv_aload_n hx hb eX0_hurriedBehind_60 rfl (lv_at hl 1 rfl) ?_
          refine va_get (D := (dC, dI)) (ci := 0) (v := .ref q4) (C := RX0) (T := TX0) (N := 17) hx hb hts hiX0 hown hK hP 0 rfl rfl 4 (by decide) v_3 (fun _ h9 => h9) rfl eX0_hurriedBehind_61 ?_
          refine lv_aload_n hx hb eX0_hurriedBehind_64 rfl (lv_at hl 1 rfl) ?_
          refine va_get (D := (dC, dI)) (ci := 0) (v := .ref q6) (C := RX0) (T := TX0) (N := 17) hx hb hts hiX0 hown hK hP 0 rfl rfl 6 (by decide) v_4 (fun _ h9 => h9) rfl eX0_hurriedBehind_65 ?_
          refine lv_iload hx hb eX0_hurriedBehind_68 (lv_at hl 5 rfl) ?_
          refine va_iald hx hb hK hP 3 2 rfl rfl (vp_in_nI (n := g_10) (by omega) (Nat.le_of_ble_eq_true rfl)) eX0_hurriedBehind_70 ?_
          refine lv_topi (fun y_20 ey_20 => ?_)
          obtain ⟨u_21, hu_21, qu_21⟩ := bN_get 7 q_f6 (((nI g_10) : Int32).toNatClampNeg)
          obtain rfl : y_20 = nI u_21 := ey_20.trans qu_21
          refine va_zald hx hb hK hP 1 0 rfl rfl (vp_in_nI (n := u_21) (Nat.lt_of_le_of_lt hu_21 (Nat.le_of_ble_eq_true rfl)) (Nat.le_of_ble_eq_true rfl)) eX0_hurriedBehind_71 ?_
          refine lv_topi (fun y_22 ey_22 => ?_)
          refine lv_if_eq (tgt := 87) hx hb eX0_hurriedBehind_72 (by decide) (fun c_23 => ?_) (fun c_23 => ?_)
          · exact j_18 _ _ _ _ ⟨g_9, rfl, hP, hD, hS, lv_sub hl [1, 2, 3, 4, 5, 0] rfl⟩
          · refine lv_iload_n hx hb eX0_hurriedBehind_75 rfl (lv_at hl 3 rfl) ?_
            refine lv_iconst (v := 1) hx hb eX0_hurriedBehind_76 (by decide) ?_
            refine lv_aload_n hx hb eX0_hurriedBehind_77 rfl (lv_at hl 1 rfl) ?_
            refine va_get (D := (dC, dI)) (ci := 0) (v := .ref q6) (C := RX0) (T := TX0) (N := 17) hx hb hts hiX0 hown hK hP 0 rfl rfl 6 (by decide) v_4 (fun _ h9 => h9) rfl eX0_hurriedBehind_78 ?_
            refine lv_iload hx hb eX0_hurriedBehind_81 (lv_at hl 5 rfl) ?_
            refine va_iald hx hb hK hP 3 2 rfl rfl (vp_in_nI (n := g_10) (by omega) (Nat.le_of_ble_eq_true rfl)) eX0_hurriedBehind_83 ?_
            refine lv_topi (fun y_24 ey_24 => ?_)
            obtain rfl : y_24 = nI u_21 := ey_24.trans qu_21
            refine lv_ishl hx hb eX0_hurriedBehind_84 ?_
            refine lv_topi (fun y_26 ey_26 => ?_)
            refine lv_ior hx hb eX0_hurriedBehind_85 ?_
            refine lv_topi (fun y_27 ey_27 => ?_)
            refine lv_istore_n (lv' := [(2, .int y_27), (5, .int (nI g_15)), (0, .ref au), (1, .int (nI a0)), (3, .int (nI g_4)), (4, .int (nI g_10))]) hx hb eX0_hurriedBehind_86 rfl hl (by decide) rfl (fun ls hl => ?_)
            exact j_18 _ _ _ _ ⟨y_27, rfl, hP, hD, hS, lv_sub hl [2, 3, 0, 4, 5, 1] rfl⟩
      refine lv_icmp_eq (tgt := 48) hx hb eX0_hurriedBehind_30 (by decide) (fun c_28 => ?_) (fun c_28 => ?_)
      · have c_28 : u_14 = a0 := (nI_eq (a := u_14) (b := a0) (Nat.lt_of_le_of_lt hu_14 (Nat.le_of_ble_eq_true rfl)) (Nat.lt_of_le_of_lt ha0 (Nat.le_of_ble_eq_true rfl))).mp c_28
        refine lv_iconst (v := 1) hx hb eX0_hurriedBehind_48 (by decide) ?_
        refine lv_goto (tgt := 53) hx hb eX0_hurriedBehind_49 (by decide) ?_
        exact j_16 _ _ _ _ ⟨1, rfl, (Nat.le_of_ble_eq_true rfl), hP, hD, hS, lv_sub hl [0, 1, 2, 3, 4] rfl⟩
      · have c_28 : ¬ u_14 = a0 := fun z => c_28 ((nI_eq (a := u_14) (b := a0) (Nat.lt_of_le_of_lt hu_14 (Nat.le_of_ble_eq_true rfl)) (Nat.lt_of_le_of_lt ha0 (Nat.le_of_ble_eq_true rfl))).mpr z)
        refine lv_iload_n hx hb eX0_hurriedBehind_33 rfl (lv_at hl 2 rfl) ?_
        refine lv_aload_n hx hb eX0_hurriedBehind_34 rfl (lv_at hl 0 rfl) ?_
        refine va_get (D := (dC, dI)) (ci := 0) (v := .ref q5) (C := RX0) (T := TX0) (N := 17) hx hb hts hiX0 hown hK hP 0 rfl rfl 5 (by decide) v_2 (fun _ h9 => h9) rfl eX0_hurriedBehind_35 ?_
        refine lv_iload hx hb eX0_hurriedBehind_38 (lv_at hl 4 rfl) ?_
        refine va_iald hx hb hK hP 2 1 rfl rfl (vp_in_nI (n := g_10) (by omega) (Nat.le_of_ble_eq_true rfl)) eX0_hurriedBehind_40 ?_
        refine lv_topi (fun y_29 ey_29 => ?_)
        obtain rfl : y_29 = nI u_14 := ey_29.trans qu_14
        refine lv_ishr hx hb eX0_hurriedBehind_41 ?_
        refine lv_topi (fun y_31 ey_31 => ?_)
        refine lv_iconst (v := 1) hx hb eX0_hurriedBehind_42 (by decide) ?_
        refine lv_iand hx hb eX0_hurriedBehind_43 ?_
        refine lv_topi (fun y_32 ey_32 => ?_)
        refine lv_iconst (v := 1) hx hb eX0_hurriedBehind_44 (by decide) ?_
        refine lv_icmp_ne (tgt := 52) hx hb eX0_hurriedBehind_45 (by decide) (fun c_33 => ?_) (fun c_33 => ?_)
        · refine lv_iconst (v := 0) hx hb eX0_hurriedBehind_52 (by decide) ?_
          exact j_16 _ _ _ _ ⟨0, rfl, (Nat.le_of_ble_eq_true rfl), hP, hD, hS, lv_sub hl [0, 1, 2, 3, 4] rfl⟩
        · refine lv_iconst (v := 1) hx hb eX0_hurriedBehind_48 (by decide) ?_
          refine lv_goto (tgt := 53) hx hb eX0_hurriedBehind_49 (by decide) ?_
          exact j_16 _ _ _ _ ⟨1, rfl, (Nat.le_of_ble_eq_true rfl), hP, hD, hS, lv_sub hl [0, 1, 2, 3, 4] rfl⟩
theorem eX0_hurriedRings_0 : decode cX0_hurriedRings 0 = .ok (.iconst 0, 1) := by decide +kernel
theorem eX0_hurriedRings_1 : decode cX0_hurriedRings 1 = .ok (.istore_n 1, 1) := by decide +kernel
theorem eX0_hurriedRings_2 : decode cX0_hurriedRings 2 = .ok (.iconst 0, 1) := by decide +kernel
theorem eX0_hurriedRings_3 : decode cX0_hurriedRings 3 = .ok (.istore_n 2, 1) := by decide +kernel
theorem eX0_hurriedRings_4 : decode cX0_hurriedRings 4 = .ok (.iload_n 2, 1) := by decide +kernel
theorem eX0_hurriedRings_5 : decode cX0_hurriedRings 5 = .ok (.aload_n 0, 1) := by decide +kernel
theorem eX0_hurriedRings_6 : decode cX0_hurriedRings 6 = .ok (.getfield 59, 3) := by decide +kernel
theorem eX0_hurriedRings_9 : decode cX0_hurriedRings 9 = .ok (.if_icmp .ge 37, 3) := by decide +kernel
theorem eX0_hurriedRings_12 : decode cX0_hurriedRings 12 = .ok (.aload_n 0, 1) := by decide +kernel
theorem eX0_hurriedRings_13 : decode cX0_hurriedRings 13 = .ok (.getfield 15, 3) := by decide +kernel
theorem eX0_hurriedRings_16 : decode cX0_hurriedRings 16 = .ok (.iload_n 2, 1) := by decide +kernel
theorem eX0_hurriedRings_17 : decode cX0_hurriedRings 17 = .ok (.baload, 1) := by decide +kernel
theorem eX0_hurriedRings_18 : decode cX0_hurriedRings 18 = .ok (.ifCond .eq 22, 3) := by decide +kernel
theorem eX0_hurriedRings_21 : decode cX0_hurriedRings 21 = .ok (.aload_n 0, 1) := by decide +kernel
theorem eX0_hurriedRings_22 : decode cX0_hurriedRings 22 = .ok (.iload_n 2, 1) := by decide +kernel
theorem eX0_hurriedRings_23 : decode cX0_hurriedRings 23 = .ok (.invokevirtual 105, 3) := by decide +kernel
theorem eX0_hurriedRings_26 : decode cX0_hurriedRings 26 = .ok (.iload_n 2, 1) := by decide +kernel
theorem eX0_hurriedRings_27 : decode cX0_hurriedRings 27 = .ok (.ishr, 1) := by decide +kernel
theorem eX0_hurriedRings_28 : decode cX0_hurriedRings 28 = .ok (.iconst 1, 1) := by decide +kernel
theorem eX0_hurriedRings_29 : decode cX0_hurriedRings 29 = .ok (.iand, 1) := by decide +kernel
theorem eX0_hurriedRings_30 : decode cX0_hurriedRings 30 = .ok (.iconst 1, 1) := by decide +kernel
theorem eX0_hurriedRings_31 : decode cX0_hurriedRings 31 = .ok (.if_icmp .ne 9, 3) := by decide +kernel
theorem eX0_hurriedRings_34 : decode cX0_hurriedRings 34 = .ok (.iload_n 1, 1) := by decide +kernel
theorem eX0_hurriedRings_35 : decode cX0_hurriedRings 35 = .ok (.iconst 1, 1) := by decide +kernel
theorem eX0_hurriedRings_36 : decode cX0_hurriedRings 36 = .ok (.iload_n 2, 1) := by decide +kernel
theorem eX0_hurriedRings_37 : decode cX0_hurriedRings 37 = .ok (.ishl, 1) := by decide +kernel
theorem eX0_hurriedRings_38 : decode cX0_hurriedRings 38 = .ok (.ior, 1) := by decide +kernel
theorem eX0_hurriedRings_39 : decode cX0_hurriedRings 39 = .ok (.istore_n 1, 1) := by decide +kernel
theorem eX0_hurriedRings_40 : decode cX0_hurriedRings 40 = .ok (.iinc 2 1, 3) := by decide +kernel
theorem eX0_hurriedRings_43 : decode cX0_hurriedRings 43 = .ok (.goto (-39), 3) := by decide +kernel
theorem eX0_hurriedRings_46 : decode cX0_hurriedRings 46 = .ok (.iload_n 1, 1) := by decide +kernel
theorem eX0_hurriedRings_47 : decode cX0_hurriedRings 47 = .ok (.ireturn, 1) := by decide +kernel
abbrev vs_C_0_hurriedRings : List Cond := .code yX0_hurriedRings cX0_hurriedRings 3 (some .int) :: CM
theorem g_C_0_hurriedRings_C_0_hurriedBehind : GoodIn vs_C_0_hurriedRings (wsV RX0 105 RX0 yX0_hurriedBehind vs_C_0_hurriedBehind) := cm_gV cm_71 cm_72 cm_73 cm_19 cm_74
set_option maxHeartbeats 4000000 in
set_option maxRecDepth 100000 in
theorem c_C_0_hurriedRings (l : Launch) (dC : Nat → ClassId) (dI : Nat → Nat → Nat) (sz : Nat) (au : Nat) (nc : Nat) (np : Nat) (ne : Nat) (st0 : Int32) (q4 : Nat) (q5 : Nat) (q6 : Nat) (q7 : Nat) (q8 : Nat) (q9 : Nat) (q10 : Nat) (q11 : Nat) (q12 : Nat) (q13 : Nat) (q14 : Nat) (q15 : Nat) (q16 : Nat) (k_f4 : ClassId) (f4 : Nat → Int32) (k_f5 : ClassId) (q_f5 : Nat → Nat) (k_f6 : ClassId) (q_f6 : Nat → Nat) (k_f7 : ClassId) (f7 : Nat → Int32) (k_f8 : ClassId) (q_f8 : Nat → Nat) (k_f9 : ClassId) (q_f9 : Nat → Nat) (k_f10 : ClassId) (f10 : Nat → Int32) (k_f11 : ClassId) (f11 : Nat → Int32) (k_f12 : ClassId) (f12 : Nat → Int32) (k_f13 : ClassId) (f13 : Nat → Int32) (k_f14 : ClassId) (f14 : Nat → Int32) (k_f15 : ClassId) (f15 : Nat → Int32) (k_f16 : ClassId) (f16 : Nat → Int32) (hnc : nc ≤ 3) (hnp : np ≤ 8) (hne : ne ≤ 14) (hst0 : pm1 7 st0) : Met l yX0_hurriedRings vs_C_0_hurriedRings ({ frames := 1, cells := 0, slots := 0, locals := 25 }) (va_Pc [.ref au] (pu_B (dC, dI) (au__w au (nI nc) (nI np) (nI ne) st0 q4 q5 q6 q7 q8 q9 q10 q11 q12 q13 q14 q15 q16 k_f4 f4 k_f5 (bN 7 q_f5) k_f6 (bN 7 q_f6) k_f7 f7 k_f8 (bN 4 q_f8) k_f9 (bN 2 q_f9) k_f10 f10 k_f11 f11 k_f12 f12 k_f13 f13 k_f14 f14 k_f15 f15 k_f16 f16) (au__t k_f4 k_f5 k_f6 k_f7 k_f8 k_f9 k_f10 k_f11 k_f12 k_f13 k_f14 k_f15 k_f16) sz)) (va_Qi (fun (r : Int32) (_ : Unit) => True) (fun _ _ => True) (va_A [] sz)) 0 0 (va_A [] sz) := by
  refine Met.ofW (cc := cX0_hurriedRings) (maxL := 3) (ret := (some .int)) (by decide) rfl ?_
  intro p e s m args below meth c s₁ B hml hv
  obtain ⟨rfl, rfl, hP, hK, hD0⟩ := hv
  have hx := B.exec
  have hb := B.bytes
  have hr := B.returns
  have hts := atoms_spec (ws := vs_C_0_hurriedRings) B.pre
  have v_1 := hts (.fieldLink RX0 59 "ClockReach$Automaton" "places" "I") (List.mem_cons_of_mem _ cm_4)
  have v_2 := hts (.fieldLink RX0 15 "ClockReach$Automaton" "hurried" "[Z") (List.mem_cons_of_mem _ cm_7)
  have hown : s.vm.findClass RX0 = some m.cls := findClass_of_methodNamed B.named
  have hlocks := B.notSynchronized
  have hiX0 : ∀ w ∈ wsX00, w ∈ vs_C_0_hurriedRings := fun _ h => List.mem_cons_of_mem _ (cm_X0 h)
  have hD := hD0
  have hA : ∀ q : Nat, s.heap.size ≤ q → va_A [] s.heap.size q := fun _ h => Or.inr h
  have hS : va_S (va_A [] s.heap.size) s.heap s.heap [] := va_S.rf
  have hl := lv_entry ([.ref au]) (n := 3) (Nat.le_of_ble_eq_true rfl)
  rw [lg_entry_eq]
  generalize (lg_sl ([.ref au]) ++ List.replicate (3 - (lg_sl ([.ref au])).length) Slot.unset).toArray = ls at hl ⊢
  have hl : lv_has ls 3 [(0, .ref au)] := hl
  refine lv_iconst (v := 0) hx hb eX0_hurriedRings_0 (by decide) ?_
  refine lv_istore_n (lv' := [(1, .int 0), (0, .ref au)]) hx hb eX0_hurriedRings_1 rfl hl (by decide) rfl (fun ls hl => ?_)
  refine lv_iconst (v := 0) hx hb eX0_hurriedRings_2 (by decide) ?_
  refine lv_istore_n (lv' := [(2, .int 0), (1, .int 0), (0, .ref au)]) hx hb eX0_hurriedRings_3 rfl hl (by decide) rfl (fun ls hl => ?_)
  refine pu_while (fun nn H locs ls => ∃ (g_3 : Int32) (g_4 : Nat), nn = 8 - g_4 ∧ g_4 ≤ 8 ∧ va_P (dC, dI) vwCl (au__w au (nI nc) (nI np) (nI ne) st0 q4 q5 q6 q7 q8 q9 q10 q11 q12 q13 q14 q15 q16 k_f4 f4 k_f5 (bN 7 q_f5) k_f6 (bN 7 q_f6) k_f7 f7 k_f8 (bN 4 q_f8) k_f9 (bN 2 q_f9) k_f10 f10 k_f11 f11 k_f12 f12 k_f13 f13 k_f14 f14 k_f15 f15 k_f16 f16) H ∧ va_D (fun _ => True) (au__w au (nI nc) (nI np) (nI ne) st0 q4 q5 q6 q7 q8 q9 q10 q11 q12 q13 q14 q15 q16 k_f4 f4 k_f5 (bN 7 q_f5) k_f6 (bN 7 q_f6) k_f7 f7 k_f8 (bN 4 q_f8) k_f9 (bN 2 q_f9) k_f10 f10 k_f11 f11 k_f12 f12 k_f13 f13 k_f14 f14 k_f15 f15 k_f16 f16) ∧ va_S (va_A [] s.heap.size) s.heap H locs ∧ lv_has ls 3 [(0, .ref au), (1, .int g_3), (2, .int (nI g_4))]) 4 ?_ _ _ _ _ ⟨0, 0, rfl, (Nat.le_of_ble_eq_true rfl), hP, hD, hS, lv_sub hl [2, 1, 0] rfl⟩
  rintro nn ih_5 H locs ls ⟨g_3, g_4, rfl, hg_4, hP, hD, hS, hl⟩
  refine lv_iload_n hx hb eX0_hurriedRings_4 rfl (lv_at hl 2 rfl) ?_
  refine lv_aload_n hx hb eX0_hurriedRings_5 rfl (lv_at hl 0 rfl) ?_
  refine va_get (D := (dC, dI)) (ci := 0) (v := .int (nI np)) (C := RX0) (T := TX0) (N := 17) hx hb hts hiX0 hown hK hP 0 rfl rfl 1 (by decide) v_1 (fun _ h9 => h9) rfl eX0_hurriedRings_6 ?_
  refine lv_icmp_ge (tgt := 46) hx hb eX0_hurriedRings_9 (by decide) (fun c_6 => ?_) (fun c_6 => ?_)
  · have c_6 : np ≤ g_4 := (nI_leI (a := np) (b := g_4) (Nat.lt_of_le_of_lt hnp (Nat.le_of_ble_eq_true rfl)) (Nat.lt_of_le_of_lt hg_4 (Nat.le_of_ble_eq_true rfl))).mp c_6
    refine lv_iload_n hx hb eX0_hurriedRings_46 rfl (lv_at hl 1 rfl) ?_
    exact W.iret (v := g_3) hx hb hr (fun t ht hW => ⟨⟨g_3, (), rfl, trivial, trivial⟩, hS.F ht⟩) hS.2.2 eX0_hurriedRings_47
  · have c_6 : ¬ np ≤ g_4 := fun z => c_6 ((nI_leI (a := np) (b := g_4) (Nat.lt_of_le_of_lt hnp (Nat.le_of_ble_eq_true rfl)) (Nat.lt_of_le_of_lt hg_4 (Nat.le_of_ble_eq_true rfl))).mpr z)
    refine lv_aload_n hx hb eX0_hurriedRings_12 rfl (lv_at hl 0 rfl) ?_
    refine va_get (D := (dC, dI)) (ci := 0) (v := .ref q4) (C := RX0) (T := TX0) (N := 17) hx hb hts hiX0 hown hK hP 0 rfl rfl 4 (by decide) v_2 (fun _ h9 => h9) rfl eX0_hurriedRings_13 ?_
    refine lv_iload_n hx hb eX0_hurriedRings_16 rfl (lv_at hl 2 rfl) ?_
    refine va_zald hx hb hK hP 1 0 rfl rfl (vp_in_nI (n := g_4) (by omega) (Nat.le_of_ble_eq_true rfl)) eX0_hurriedRings_17 ?_
    refine lv_topi (fun y_7 ey_7 => ?_)
    refine pu_join (fun H locs ls st => ∃ (g_8 : Int32), st = [] ∧ va_P (dC, dI) vwCl (au__w au (nI nc) (nI np) (nI ne) st0 q4 q5 q6 q7 q8 q9 q10 q11 q12 q13 q14 q15 q16 k_f4 f4 k_f5 (bN 7 q_f5) k_f6 (bN 7 q_f6) k_f7 f7 k_f8 (bN 4 q_f8) k_f9 (bN 2 q_f9) k_f10 f10 k_f11 f11 k_f12 f12 k_f13 f13 k_f14 f14 k_f15 f15 k_f16 f16) H ∧ va_D (fun _ => True) (au__w au (nI nc) (nI np) (nI ne) st0 q4 q5 q6 q7 q8 q9 q10 q11 q12 q13 q14 q15 q16 k_f4 f4 k_f5 (bN 7 q_f5) k_f6 (bN 7 q_f6) k_f7 f7 k_f8 (bN 4 q_f8) k_f9 (bN 2 q_f9) k_f10 f10 k_f11 f11 k_f12 f12 k_f13 f13 k_f14 f14 k_f15 f15 k_f16 f16) ∧ va_S (va_A [] s.heap.size) s.heap H locs ∧ lv_has ls 3 [(0, .ref au), (1, .int g_8), (2, .int (nI g_4))]) 40 ?_ (fun j_9 => ?_)
    · rintro H locs ls st ⟨g_8, rfl, hP, hD, hS, hl⟩
      refine lv_iinc (v := (nI (g_4 + 1))) (lv' := [(2, .int (nI (g_4 + 1))), (0, .ref au), (1, .int g_8)]) hx hb eX0_hurriedRings_40 hl (k := 2) rfl (nI_1 _) (by decide) rfl (fun ls hl => ?_)
      refine lv_goto (tgt := 4) hx hb eX0_hurriedRings_43 (by decide) ?_
      exact ih_5 (8 - (g_4 + 1)) (by omega) _ _ _ ⟨g_8, (g_4 + 1), rfl, (by omega), hP, hD, hS, lv_sub hl [1, 2, 0] rfl⟩
    refine lv_if_eq (tgt := 40) hx hb eX0_hurriedRings_18 (by decide) (fun c_10 => ?_) (fun c_10 => ?_)
    · exact j_9 _ _ _ _ ⟨g_3, rfl, hP, hD, hS, lv_sub hl [0, 1, 2] rfl⟩
    · refine lv_aload_n hx hb eX0_hurriedRings_21 rfl (lv_at hl 0 rfl) ?_
      refine lv_iload_n hx hb eX0_hurriedRings_22 rfl (lv_at hl 2 rfl) ?_
      refine va_calli (va_runV (As := [.int (nI g_4)]) (rest := []) ⟨hx, hb, hml, hown, hts⟩ (c_C_0_hurriedBehind l dC dI _ au nc np ne st0 q4 q5 q6 q7 q8 q9 q10 q11 q12 q13 q14 q15 q16 k_f4 f4 k_f5 q_f5 k_f6 q_f6 k_f7 f7 k_f8 q_f8 k_f9 q_f9 k_f10 f10 k_f11 f11 k_f12 f12 k_f13 f13 k_f14 f14 k_f15 f15 k_f16 f16 g_4 hnc hnp hne (hst0) (by omega)) (cwV 1 hts g_C_0_hurriedRings_C_0_hurriedBehind rfl rfl rfl (by decide +kernel) ⟨Nat.le_of_ble_eq_true rfl, Nat.le_of_ble_eq_true rfl⟩) ⟨pu_bl, va_recv hK hP (ci := 0) (q0 := 0) rfl rfl, pu_in hP hK hD⟩ rfl rfl hl.1 rfl (lv_room (Nat.le_of_ble_eq_true rfl)) eX0_hurriedRings_23 ⟨Nat.le_of_ble_eq_true rfl, Nat.le_of_ble_eq_true rfl⟩) hS (fun q _ h => pu_fr hS hA q h) (pu_fr hS hA) (fun r_11 u t H1 locs ht hvm hw hB hz1 hk1 hS => ?_)
      have hP := pu_keep hP hk1
      clear hk1 hz1 ht hvm
      generalize H1 = H at hP hS ⊢
      refine lv_iload_n hx hb eX0_hurriedRings_26 rfl (lv_at hl 2 rfl) ?_
      refine lv_ishr hx hb eX0_hurriedRings_27 ?_
      refine lv_topi (fun y_12 ey_12 => ?_)
      refine lv_iconst (v := 1) hx hb eX0_hurriedRings_28 (by decide) ?_
      refine lv_iand hx hb eX0_hurriedRings_29 ?_
      refine lv_topi (fun y_13 ey_13 => ?_)
      refine lv_iconst (v := 1) hx hb eX0_hurriedRings_30 (by decide) ?_
      refine lv_icmp_ne (tgt := 40) hx hb eX0_hurriedRings_31 (by decide) (fun c_14 => ?_) (fun c_14 => ?_)
      · exact j_9 _ _ _ _ ⟨g_3, rfl, hP, hD, hS, lv_sub hl [0, 1, 2] rfl⟩
      · refine lv_iload_n hx hb eX0_hurriedRings_34 rfl (lv_at hl 1 rfl) ?_
        refine lv_iconst (v := 1) hx hb eX0_hurriedRings_35 (by decide) ?_
        refine lv_iload_n hx hb eX0_hurriedRings_36 rfl (lv_at hl 2 rfl) ?_
        refine lv_ishl hx hb eX0_hurriedRings_37 ?_
        refine lv_topi (fun y_15 ey_15 => ?_)
        refine lv_ior hx hb eX0_hurriedRings_38 ?_
        refine lv_topi (fun y_16 ey_16 => ?_)
        refine lv_istore_n (lv' := [(1, .int y_16), (0, .ref au), (2, .int (nI g_4))]) hx hb eX0_hurriedRings_39 rfl hl (by decide) rfl (fun ls hl => ?_)
        exact j_9 _ _ _ _ ⟨y_16, rfl, hP, hD, hS, lv_sub hl [1, 0, 2] rfl⟩
