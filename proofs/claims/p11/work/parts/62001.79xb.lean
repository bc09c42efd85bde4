theorem eX0_slot_0 : decode cX0_slot 0 = .ok (.iload_n 0, 1) := by decide +kernel
theorem eX0_slot_1 : decode cX0_slot 1 = .ok (.iconst 4, 1) := by decide +kernel
theorem eX0_slot_2 : decode cX0_slot 2 = .ok (.imul, 1) := by decide +kernel
theorem eX0_slot_3 : decode cX0_slot 3 = .ok (.iload_n 1, 1) := by decide +kernel
theorem eX0_slot_4 : decode cX0_slot 4 = .ok (.iadd, 1) := by decide +kernel
theorem eX0_slot_5 : decode cX0_slot 5 = .ok (.ireturn, 1) := by decide +kernel
abbrev vs_E_0_slot : List Cond := .code yX0_slot cX0_slot 2 (some .int) :: CM
noncomputable def sp_E_0_slot : Unit := ()
set_option maxHeartbeats 4000000 in
set_option maxRecDepth 100000 in
theorem c_E_0_slot (l : Launch) (dC : Nat → ClassId) (dI : Nat → Nat → Nat) (sz : Nat) (a0 : Nat) (a1 : Nat) (ha0 : a0 ≤ 21) (ha1 : a1 ≤ 4) : Met l yX0_slot vs_E_0_slot ({ frames := 0, cells := 0, slots := 0, locals := 0 }) (va_Pc [.int (nI a0), .int (nI a1)] (pu_B (dC, dI) [] [] sz)) (va_Qi (fun (r : Int32) (_ : Unit) => r = nI (a0 * 4 + a1)) (fun _ _ => True) (va_A [] sz)) 0 0 (va_A [] sz) := by
  refine Met.ofW (cc := cX0_slot) (maxL := 2) (ret := (some .int)) (by decide) rfl ?_
  intro p e s m args below meth c s₁ B hml hv
  obtain ⟨rfl, rfl, hP, hK, hD0⟩ := hv
  have hx := B.exec
  have hb := B.bytes
  have hr := B.returns
  have hts := atoms_spec (ws := vs_E_0_slot) B.pre
  have hown : s.vm.findClass RX0 = some m.cls := findClass_of_methodNamed B.named
  have hlocks := B.notSynchronized
  have hD := hD0
  have hA : ∀ q : Nat, s.heap.size ≤ q → va_A [] s.heap.size q := fun _ h => Or.inr h
  have hS : va_S (va_A [] s.heap.size) s.heap s.heap [] := va_S.rf
  have hl := lv_entry ([.int (nI a0), .int (nI a1)]) (n := 2) (Nat.le_of_ble_eq_true rfl)
  rw [lg_entry_eq]
  generalize (lg_sl ([.int (nI a0), .int (nI a1)]) ++ List.replicate (2 - (lg_sl ([.int (nI a0), .int (nI a1)])).length) Slot.unset).toArray = ls at hl ⊢
  have hl : lv_has ls 2 [(0, .int (nI a0)), (1, .int (nI a1))] := hl
  obtain ⟨RR, hRR⟩ : ∃ x, x = sp_E_0_slot := ⟨_, rfl⟩
  have hsp := hRR
  refine lv_iload_n hx hb eX0_slot_0 rfl (lv_at hl 0 rfl) ?_
  refine lv_iconst (v := 4) hx hb eX0_slot_1 (by decide) ?_
  refine lv_imul hx hb eX0_slot_2 ?_
  refine lv_topi (fun y_1 ey_1 => ?_)
  obtain rfl : y_1 = (nI (a0 * 4)) := ey_1.trans (pk_mul a0 4)
  refine lv_iload_n hx hb eX0_slot_3 rfl (lv_at hl 1 rfl) ?_
  refine lv_iadd hx hb eX0_slot_4 ?_
  refine lv_topi (fun y_2 ey_2 => ?_)
  obtain rfl : y_2 = (nI ((a0 * 4) + a1)) := ey_2.trans (nI_add (a0 * 4) a1)
  exact W.iret (v := (nI ((a0 * 4) + a1))) hx hb hr (fun t ht hW => ⟨⟨(nI ((a0 * 4) + a1)), (), rfl, congrArg nI (by omega), trivial⟩, hS.F ht⟩) hS.2.2 eX0_slot_5
theorem eX0_hostOfPlace_0 : decode cX0_hostOfPlace 0 = .ok (.bipush 14, 2) := by decide +kernel
theorem eX0_hostOfPlace_2 : decode cX0_hostOfPlace 2 = .ok (.iload_n 0, 1) := by decide +kernel
theorem eX0_hostOfPlace_3 : decode cX0_hostOfPlace 3 = .ok (.iadd, 1) := by decide +kernel
theorem eX0_hostOfPlace_4 : decode cX0_hostOfPlace 4 = .ok (.ireturn, 1) := by decide +kernel
abbrev vs_E_0_hostOfPlace : List Cond := .code yX0_hostOfPlace cX0_hostOfPlace 1 (some .int) :: CM
noncomputable def sp_E_0_hostOfPlace : Unit := ()
set_option maxHeartbeats 4000000 in
set_option maxRecDepth 100000 in
theorem c_E_0_hostOfPlace (l : Launch) (dC : Nat → ClassId) (dI : Nat → Nat → Nat) (sz : Nat) (a0 : Nat) (ha0 : a0 ≤ 7) : Met l yX0_hostOfPlace vs_E_0_hostOfPlace ({ frames := 0, cells := 0, slots := 0, locals := 0 }) (va_Pc [.int (nI a0)] (pu_B (dC, dI) [] [] sz)) (va_Qi (fun (r : Int32) (_ : Unit) => r = nI (14 + a0)) (fun _ _ => True) (va_A [] sz)) 0 0 (va_A [] sz) := by
  refine Met.ofW (cc := cX0_hostOfPlace) (maxL := 1) (ret := (some .int)) (by decide) rfl ?_
  intro p e s m args below meth c s₁ B hml hv
  obtain ⟨rfl, rfl, hP, hK, hD0⟩ := hv
  have hx := B.exec
  have hb := B.bytes
  have hr := B.returns
  have hts := atoms_spec (ws := vs_E_0_hostOfPlace) B.pre
  have hown : s.vm.findClass RX0 = some m.cls := findClass_of_methodNamed B.named
  have hlocks := B.notSynchronized
  have hD := hD0
  have hA : ∀ q : Nat, s.heap.size ≤ q → va_A [] s.heap.size q := fun _ h => Or.inr h
  have hS : va_S (va_A [] s.heap.size) s.heap s.heap [] := va_S.rf
  have hl := lv_entry ([.int (nI a0)]) (n := 1) (Nat.le_of_ble_eq_true rfl)
  rw [lg_entry_eq]
  generalize (lg_sl ([.int (nI a0)]) ++ List.replicate (1 - (lg_sl ([.int (nI a0)])).length) Slot.unset).toArray = ls at hl ⊢
  have hl : lv_has ls 1 [(0, .int (nI a0))] := hl
  obtain ⟨RR, hRR⟩ : ∃ x, x = sp_E_0_hostOfPlace := ⟨_, rfl⟩
  have hsp := hRR
  refine lv_bipush (v := 14) hx hb eX0_hostOfPlace_0 (by decide) ?_
  refine lv_iload_n hx hb eX0_hostOfPlace_2 rfl (lv_at hl 0 rfl) ?_
  refine lv_iadd hx hb eX0_hostOfPlace_3 ?_
  refine lv_topi (fun y_1 ey_1 => ?_)
  obtain rfl : y_1 = (nI (14 + a0)) := ey_1.trans (nI_add 14 a0)
  exact W.iret (v := (nI (14 + a0))) hx hb hr (fun t ht hW => ⟨⟨(nI (14 + a0)), (), rfl, congrArg nI (by omega), trivial⟩, hS.F ht⟩) hS.2.2 eX0_hostOfPlace_4
theorem eX0_setBounds_0 : decode cX0_setBounds 0 = .ok (.aload_n 0, 1) := by decide +kernel
theorem eX0_setBounds_1 : decode cX0_setBounds 1 = .ok (.getfield 35, 3) := by decide +kernel
theorem eX0_setBounds_4 : decode cX0_setBounds 4 = .ok (.iload_n 1, 1) := by decide +kernel
theorem eX0_setBounds_5 : decode cX0_setBounds 5 = .ok (.iaload, 1) := by decide +kernel
theorem eX0_setBounds_6 : decode cX0_setBounds 6 = .ok (.istore_n 2, 1) := by decide +kernel
theorem eX0_setBounds_7 : decode cX0_setBounds 7 = .ok (.aload_n 0, 1) := by decide +kernel
theorem eX0_setBounds_8 : decode cX0_setBounds 8 = .ok (.getfield 38, 3) := by decide +kernel
theorem eX0_setBounds_11 : decode cX0_setBounds 11 = .ok (.iload_n 1, 1) := by decide +kernel
theorem eX0_setBounds_12 : decode cX0_setBounds 12 = .ok (.iaload, 1) := by decide +kernel
theorem eX0_setBounds_13 : decode cX0_setBounds 13 = .ok (.istore_n 3, 1) := by decide +kernel
theorem eX0_setBounds_14 : decode cX0_setBounds 14 = .ok (.aload_n 0, 1) := by decide +kernel
theorem eX0_setBounds_15 : decode cX0_setBounds 15 = .ok (.getfield 41, 3) := by decide +kernel
theorem eX0_setBounds_18 : decode cX0_setBounds 18 = .ok (.iload_n 1, 1) := by decide +kernel
theorem eX0_setBounds_19 : decode cX0_setBounds 19 = .ok (.iload_n 2, 1) := by decide +kernel
theorem eX0_setBounds_20 : decode cX0_setBounds 20 = .ok (.iconst 2, 1) := by decide +kernel
theorem eX0_setBounds_21 : decode cX0_setBounds 21 = .ok (.if_icmp .le 8, 3) := by decide +kernel
theorem eX0_setBounds_24 : decode cX0_setBounds 24 = .ok (.ldc 75, 2) := by decide +kernel
theorem eX0_setBounds_26 : decode cX0_setBounds 26 = .ok (.goto 18, 3) := by decide +kernel
theorem eX0_setBounds_29 : decode cX0_setBounds 29 = .ok (.iload_n 2, 1) := by decide +kernel
theorem eX0_setBounds_30 : decode cX0_setBounds 30 = .ok (.ifCond .ne 9, 3) := by decide +kernel
theorem eX0_setBounds_33 : decode cX0_setBounds 33 = .ok (.iconst 2, 1) := by decide +kernel
theorem eX0_setBounds_34 : decode cX0_setBounds 34 = .ok (.iload_n 3, 1) := by decide +kernel
theorem eX0_setBounds_35 : decode cX0_setBounds 35 = .ok (.imul, 1) := by decide +kernel
theorem eX0_setBounds_36 : decode cX0_setBounds 36 = .ok (.goto 8, 3) := by decide +kernel
theorem eX0_setBounds_39 : decode cX0_setBounds 39 = .ok (.iconst 2, 1) := by decide +kernel
theorem eX0_setBounds_40 : decode cX0_setBounds 40 = .ok (.iload_n 3, 1) := by decide +kernel
theorem eX0_setBounds_41 : decode cX0_setBounds 41 = .ok (.imul, 1) := by decide +kernel
theorem eX0_setBounds_42 : decode cX0_setBounds 42 = .ok (.iconst 1, 1) := by decide +kernel
theorem eX0_setBounds_43 : decode cX0_setBounds 43 = .ok (.iadd, 1) := by decide +kernel
theorem eX0_setBounds_44 : decode cX0_setBounds 44 = .ok (.iastore, 1) := by decide +kernel
theorem eX0_setBounds_45 : decode cX0_setBounds 45 = .ok (.aload_n 0, 1) := by decide +kernel
theorem eX0_setBounds_46 : decode cX0_setBounds 46 = .ok (.getfield 44, 3) := by decide +kernel
theorem eX0_setBounds_49 : decode cX0_setBounds 49 = .ok (.iload_n 1, 1) := by decide +kernel
theorem eX0_setBounds_50 : decode cX0_setBounds 50 = .ok (.iload_n 2, 1) := by decide +kernel
theorem eX0_setBounds_51 : decode cX0_setBounds 51 = .ok (.iconst 2, 1) := by decide +kernel
theorem eX0_setBounds_52 : decode cX0_setBounds 52 = .ok (.if_icmp .ge 8, 3) := by decide +kernel
theorem eX0_setBounds_55 : decode cX0_setBounds 55 = .ok (.ldc 75, 2) := by decide +kernel
theorem eX0_setBounds_57 : decode cX0_setBounds 57 = .ok (.goto 20, 3) := by decide +kernel
theorem eX0_setBounds_60 : decode cX0_setBounds 60 = .ok (.iload_n 2, 1) := by decide +kernel
theorem eX0_setBounds_61 : decode cX0_setBounds 61 = .ok (.iconst 4, 1) := by decide +kernel
theorem eX0_setBounds_62 : decode cX0_setBounds 62 = .ok (.if_icmp .ne 10, 3) := by decide +kernel
theorem eX0_setBounds_65 : decode cX0_setBounds 65 = .ok (.bipush (-2), 2) := by decide +kernel
theorem eX0_setBounds_67 : decode cX0_setBounds 67 = .ok (.iload_n 3, 1) := by decide +kernel
theorem eX0_setBounds_68 : decode cX0_setBounds 68 = .ok (.imul, 1) := by decide +kernel
theorem eX0_setBounds_69 : decode cX0_setBounds 69 = .ok (.goto 8, 3) := by decide +kernel
theorem eX0_setBounds_72 : decode cX0_setBounds 72 = .ok (.iconst 1, 1) := by decide +kernel
theorem eX0_setBounds_73 : decode cX0_setBounds 73 = .ok (.iconst 2, 1) := by decide +kernel
theorem eX0_setBounds_74 : decode cX0_setBounds 74 = .ok (.iload_n 3, 1) := by decide +kernel
theorem eX0_setBounds_75 : decode cX0_setBounds 75 = .ok (.imul, 1) := by decide +kernel
theorem eX0_setBounds_76 : decode cX0_setBounds 76 = .ok (.isub, 1) := by decide +kernel
theorem eX0_setBounds_77 : decode cX0_setBounds 77 = .ok (.iastore, 1) := by decide +kernel
theorem eX0_setBounds_78 : decode cX0_setBounds 78 = .ok (.return_, 1) := by decide +kernel
abbrev vs_E_0_setBounds : List Cond := .code yX0_setBounds cX0_setBounds 4 none :: CM
noncomputable def sp_E_0_setBounds (f10 : Nat → Int32) (f11 : Nat → Int32) (f12 : Nat → Int32) (f13 : Nat → Int32) (a0 : Nat) : (Nat → Int32) × (Nat → Int32) := (slet (f10 a0) (fun y_1 => (slet (f11 a0) (fun y_2 => (slet (α := Int32) (if (y_1 : Int32) ≤ 2 then (if (y_1 : Int32) = 0 then (slet ((2 : Int32) * y_2) (fun y_20 => y_20)) else (slet ((2 : Int32) * y_2) (fun y_18 => (slet ((y_18 : Int32) + 1) (fun y_19 => y_19))))) else 2147483647) (fun g_3 => (slet (upd f12 a0 g_3) (fun f_7 => (if (2 : Int32) ≤ y_1 then (if (y_1 : Int32) = 4 then (slet (((-2) : Int32) * y_2) (fun y_13 => (slet (upd f13 a0 y_13) (fun f_14 => (f_14, f_7))))) else (slet ((2 : Int32) * y_2) (fun y_10 => (slet ((1 : Int32) - y_10) (fun y_11 => (slet (upd f13 a0 y_11) (fun f_12 => (f_12, f_7)))))))) else (slet (upd f13 a0 2147483647) (fun f_15 => (f_15, f_7))))))))))))
set_option maxHeartbeats 4000000 in
set_option maxRecDepth 100000 in
theorem c_E_0_setBounds (l : Launch) (dC : Nat → ClassId) (dI : Nat → Nat → Nat) (sz : Nat) (au : Nat) (nc : Nat) (np : Nat) (ne : Nat) (st0 : Int32) (q4 : Nat) (q5 : Nat) (q6 : Nat) (q7 : Nat) (q8 : Nat) (q9 : Nat) (q10 : Nat) (q11 : Nat) (q12 : Nat) (q13 : Nat) (q14 : Nat) (q15 : Nat) (q16 : Nat) (k_f4 : ClassId) (f4 : Nat → Int32) (k_f5 : ClassId) (q_f5 : Nat → Nat) (k_f6 : ClassId) (q_f6 : Nat → Nat) (k_f7 : ClassId) (f7 : Nat → Int32) (k_f8 : ClassId) (q_f8 : Nat → Nat) (k_f9 : ClassId) (q_f9 : Nat → Nat) (k_f10 : ClassId) (f10 : Nat → Int32) (k_f11 : ClassId) (f11 : Nat → Int32) (k_f12 : ClassId) (f12 : Nat → Int32) (k_f13 : ClassId) (f13 : Nat → Int32) (k_f14 : ClassId) (f14 : Nat → Int32) (k_f15 : ClassId) (f15 : Nat → Int32) (k_f16 : ClassId) (f16 : Nat → Int32) (a0 : Nat) (hnc : nc ≤ 3) (hnp : np ≤ 8) (hne : ne ≤ 14) (hst0 : pm1 7 st0) (ha0 : a0 ≤ 87) : Met l yX0_setBounds vs_E_0_setBounds ({ frames := 0, cells := 0, slots := 0, locals := 0 }) (va_Pc [.ref au, .int (nI a0)] (pu_B (dC, dI) (au__w au (nI nc) (nI np) (nI ne) st0 q4 q5 q6 q7 q8 q9 q10 q11 q12 q13 q14 q15 q16 k_f4 f4 k_f5 (bN 7 q_f5) k_f6 (bN 7 q_f6) k_f7 f7 k_f8 (bN 4 q_f8) k_f9 (bN 2 q_f9) k_f10 f10 k_f11 f11 k_f12 f12 k_f13 f13 k_f14 f14 k_f15 f15 k_f16 f16) (au__t k_f4 k_f5 k_f6 k_f7 k_f8 k_f9 k_f10 k_f11 k_f12 k_f13 k_f14 k_f15 k_f16) sz)) (va_Qv (fun (_ : Unit) => True) (fun _ t => ∃ (z_f13 : Nat → Int32) (z_f12 : Nat → Int32), pu_E (dC, dI) (au__w au (nI nc) (nI np) (nI ne) st0 q4 q5 q6 q7 q8 q9 q10 q11 q12 q13 q14 q15 q16 k_f4 f4 k_f5 (bN 7 q_f5) k_f6 (bN 7 q_f6) k_f7 f7 k_f8 (bN 4 q_f8) k_f9 (bN 2 q_f9) k_f10 f10 k_f11 f11 k_f12 z_f12 k_f13 z_f13 k_f14 f14 k_f15 f15 k_f16 f16) (au__t k_f4 k_f5 k_f6 k_f7 k_f8 k_f9 k_f10 k_f11 k_f12 k_f13 k_f14 k_f15 k_f16) (va_A ((au__w au (nI nc) (nI np) (nI ne) st0 q4 q5 q6 q7 q8 q9 q10 q11 q12 q13 q14 q15 q16 k_f4 f4 k_f5 (bN 7 q_f5) k_f6 (bN 7 q_f6) k_f7 f7 k_f8 (bN 4 q_f8) k_f9 (bN 2 q_f9) k_f10 f10 k_f11 f11 k_f12 f12 k_f13 f13 k_f14 f14 k_f15 f15 k_f16 f16)) sz) t ∧ ((z_f13, z_f12) = (sp_E_0_setBounds f10 f11 f12 f13 a0))) (va_A ((au__w au (nI nc) (nI np) (nI ne) st0 q4 q5 q6 q7 q8 q9 q10 q11 q12 q13 q14 q15 q16 k_f4 f4 k_f5 (bN 7 q_f5) k_f6 (bN 7 q_f6) k_f7 f7 k_f8 (bN 4 q_f8) k_f9 (bN 2 q_f9) k_f10 f10 k_f11 f11 k_f12 f12 k_f13 f13 k_f14 f14 k_f15 f15 k_f16 f16)) sz)) 0 0 (va_A ((au__w au (nI nc) (nI np) (nI ne) st0 q4 q5 q6 q7 q8 q9 q10 q11 q12 q13 q14 q15 q16 k_f4 f4 k_f5 (bN 7 q_f5) k_f6 (bN 7 q_f6) k_f7 f7 k_f8 (bN 4 q_f8) k_f9 (bN 2 q_f9) k_f10 f10 k_f11 f11 k_f12 f12 k_f13 f13 k_f14 f14 k_f15 f15 k_f16 f16)) sz) := by
  refine Met.ofW (cc := cX0_setBounds) (maxL := 4) (ret := none) (by decide) rfl ?_
  intro p e s m args below meth c s₁ B hml hv
  obtain ⟨rfl, rfl, hP, hK, hD0⟩ := hv
  have hx := B.exec
  have hb := B.bytes
  have hr := B.returns
  have hts := atoms_spec (ws := vs_E_0_setBounds) B.pre
  have v_1 := hts (.fieldLink RX0 35 "ClockReach$Automaton" "hows" "[I") (List.mem_cons_of_mem _ cm_15)
  have v_2 := hts (.fieldLink RX0 38 "ClockReach$Automaton" "numbers" "[I") (List.mem_cons_of_mem _ cm_16)
  have v_3 := hts (.fieldLink RX0 41 "ClockReach$Automaton" "ceilings" "[I") (List.mem_cons_of_mem _ cm_24)
  have v_4 := hts (.constant RX0 75 (2147483647)) (List.mem_cons_of_mem _ cm_25)
  have v_5 := hts (.fieldLink RX0 44 "ClockReach$Automaton" "floors" "[I") (List.mem_cons_of_mem _ cm_26)
  have hown : s.vm.findClass RX0 = some m.cls := findClass_of_methodNamed B.named
  have hlocks := B.notSynchronized
  have hiX0 : ∀ w ∈ wsX00, w ∈ vs_E_0_setBounds := fun _ h => List.mem_cons_of_mem _ (cm_X0 h)
  have hD := hD0.self (sz := s.heap.size)
  generalize hAe : va_A ((au__w au (nI nc) (nI np) (nI ne) st0 q4 q5 q6 q7 q8 q9 q10 q11 q12 q13 q14 q15 q16 k_f4 f4 k_f5 (bN 7 q_f5) k_f6 (bN 7 q_f6) k_f7 f7 k_f8 (bN 4 q_f8) k_f9 (bN 2 q_f9) k_f10 f10 k_f11 f11 k_f12 f12 k_f13 f13 k_f14 f14 k_f15 f15 k_f16 f16)) s.heap.size = A at hD ⊢
  have hA : ∀ q : Nat, s.heap.size ≤ q → A q := fun q h => by rw [← hAe]; exact Or.inr h
  have hS : va_S A s.heap s.heap [] := va_S.rf
  have hl := lv_entry ([.ref au, .int (nI a0)]) (n := 4) (Nat.le_of_ble_eq_true rfl)
  rw [lg_entry_eq]
  generalize (lg_sl ([.ref au, .int (nI a0)]) ++ List.replicate (4 - (lg_sl ([.ref au, .int (nI a0)])).length) Slot.unset).toArray = ls at hl ⊢
  have hl : lv_has ls 4 [(0, .ref au), (1, .int (nI a0))] := hl
  obtain ⟨RR, hRR⟩ : ∃ x, x = (sp_E_0_setBounds f10 f11 f12 f13 a0) := ⟨_, rfl⟩
  have hsp := hRR
  refine lv_aload_n hx hb eX0_setBounds_0 rfl (lv_at hl 0 rfl) ?_
  refine va_get (D := (dC, dI)) (ci := 0) (v := .ref q10) (C := RX0) (T := TX0) (N := 17) hx hb hts hiX0 hown hK hP 0 rfl rfl 10 (by decide) v_1 (fun _ h9 => h9) rfl eX0_setBounds_1 ?_
  refine lv_iload_n hx hb eX0_setBounds_4 rfl (lv_at hl 1 rfl) ?_
  refine va_iald hx hb hK hP 7 6 rfl rfl (vp_in_nI (n := a0) (Nat.lt_of_le_of_lt ha0 (Nat.le_of_ble_eq_true rfl)) (Nat.le_of_ble_eq_true rfl)) eX0_setBounds_5 ?_
  refine lv_topi (fun y_1 ey_1 => ?_)
  have ey_1 : y_1 = f10 a0 := ey_1.trans (congrArg f10 (nI_clamp (n := a0) (Nat.lt_of_le_of_lt ha0 (Nat.le_of_ble_eq_true rfl))))
  have hsp := hsp.trans (slet_eq ey_1)
  refine lv_istore_n (lv' := [(2, .int y_1), (0, .ref au), (1, .int (nI a0))]) hx hb eX0_setBounds_6 rfl hl (by decide) rfl (fun ls hl => ?_)
  refine lv_aload_n hx hb eX0_setBounds_7 rfl (lv_at hl 1 rfl) ?_
  refine va_get (D := (dC, dI)) (ci := 0) (v := .ref q11) (C := RX0) (T := TX0) (N := 17) hx hb hts hiX0 hown hK hP 0 rfl rfl 11 (by decide) v_2 (fun _ h9 => h9) rfl eX0_setBounds_8 ?_
  refine lv_iload_n hx hb eX0_setBounds_11 rfl (lv_at hl 2 rfl) ?_
  refine va_iald hx hb hK hP 8 7 rfl rfl (vp_in_nI (n := a0) (Nat.lt_of_le_of_lt ha0 (Nat.le_of_ble_eq_true rfl)) (Nat.le_of_ble_eq_true rfl)) eX0_setBounds_12 ?_
  refine lv_topi (fun y_2 ey_2 => ?_)
  have ey_2 : y_2 = f11 a0 := ey_2.trans (congrArg f11 (nI_clamp (n := a0) (Nat.lt_of_le_of_lt ha0 (Nat.le_of_ble_eq_true rfl))))
  have hsp := hsp.trans (slet_eq ey_2)
  refine lv_istore_n (lv' := [(3, .int y_2), (2, .int y_1), (0, .ref au), (1, .int (nI a0))]) hx hb eX0_setBounds_13 rfl hl (by decide) rfl (fun ls hl => ?_)
  refine lv_aload_n hx hb eX0_setBounds_14 rfl (lv_at hl 2 rfl) ?_
  refine va_get (D := (dC, dI)) (ci := 0) (v := .ref q12) (C := RX0) (T := TX0) (N := 17) hx hb hts hiX0 hown hK hP 0 rfl rfl 12 (by decide) v_3 (fun _ h9 => h9) rfl eX0_setBounds_15 ?_
  refine lv_iload_n hx hb eX0_setBounds_18 rfl (lv_at hl 3 rfl) ?_
  refine lv_iload_n hx hb eX0_setBounds_19 rfl (lv_at hl 1 rfl) ?_
  refine lv_iconst (v := 2) hx hb eX0_setBounds_20 (by decide) ?_
  obtain ⟨JR_5, hJR_5, hsp⟩ := slet_ex hsp
  refine pu_join (fun H locs ls st => ∃ (g_3 : Int32), st = [.int g_3, .int (nI a0), .ref q12] ∧ g_3 = JR_5 ∧ va_P (dC, dI) vwCl (au__w au (nI nc) (nI np) (nI ne) st0 q4 q5 q6 q7 q8 q9 q10 q11 q12 q13 q14 q15 q16 k_f4 f4 k_f5 (bN 7 q_f5) k_f6 (bN 7 q_f6) k_f7 f7 k_f8 (bN 4 q_f8) k_f9 (bN 2 q_f9) k_f10 f10 k_f11 f11 k_f12 f12 k_f13 f13 k_f14 f14 k_f15 f15 k_f16 f16) H ∧ va_D A (au__w au (nI nc) (nI np) (nI ne) st0 q4 q5 q6 q7 q8 q9 q10 q11 q12 q13 q14 q15 q16 k_f4 f4 k_f5 (bN 7 q_f5) k_f6 (bN 7 q_f6) k_f7 f7 k_f8 (bN 4 q_f8) k_f9 (bN 2 q_f9) k_f10 f10 k_f11 f11 k_f12 f12 k_f13 f13 k_f14 f14 k_f15 f15 k_f16 f16) ∧ va_S A s.heap H locs ∧ lv_has ls 4 [(0, .ref au), (1, .int (nI a0)), (2, .int y_1), (3, .int y_2)]) 44 ?_ (fun j_4 => ?_)
  · rintro H locs ls st ⟨g_3, rfl, he_6, hP, hD, hS, hl⟩
    rw [← he_6] at hsp
    refine va_iast hx hb hK hP hD hS 9 8 rfl rfl (vp_in_nI (n := a0) (Nat.lt_of_le_of_lt ha0 (Nat.le_of_ble_eq_true rfl)) (Nat.le_of_ble_eq_true rfl)) eX0_setBounds_44 (fun H locs hP hD hS => ?_)
    obtain ⟨f_7, ef_7, xf_7⟩ := up_x f12 (n := a0) g_3 (Nat.lt_of_le_of_lt ha0 (Nat.le_of_ble_eq_true rfl))
    have hP : va_P (dC, dI) vwCl (au__w au (nI nc) (nI np) (nI ne) st0 q4 q5 q6 q7 q8 q9 q10 q11 q12 q13 q14 q15 q16 k_f4 f4 k_f5 (bN 7 q_f5) k_f6 (bN 7 q_f6) k_f7 f7 k_f8 (bN 4 q_f8) k_f9 (bN 2 q_f9) k_f10 f10 k_f11 f11 k_f12 f_7 k_f13 f13 k_f14 f14 k_f15 f15 k_f16 f16) H := by rw [← ef_7]; exact hP
    have hD : va_D A (au__w au (nI nc) (nI np) (nI ne) st0 q4 q5 q6 q7 q8 q9 q10 q11 q12 q13 q14 q15 q16 k_f4 f4 k_f5 (bN 7 q_f5) k_f6 (bN 7 q_f6) k_f7 f7 k_f8 (bN 4 q_f8) k_f9 (bN 2 q_f9) k_f10 f10 k_f11 f11 k_f12 f_7 k_f13 f13 k_f14 f14 k_f15 f15 k_f16 f16) := by rw [← ef_7]; exact hD
    have hsp := hsp.trans (slet_eq xf_7)
    refine lv_aload_n hx hb eX0_setBounds_45 rfl (lv_at hl 0 rfl) ?_
    refine va_get (D := (dC, dI)) (ci := 0) (v := .ref q13) (C := RX0) (T := TX0) (N := 17) hx hb hts hiX0 hown hK hP 0 rfl rfl 13 (by decide) v_5 (fun _ h9 => h9) rfl eX0_setBounds_46 ?_
    refine lv_iload_n hx hb eX0_setBounds_49 rfl (lv_at hl 1 rfl) ?_
    refine lv_iload_n hx hb eX0_setBounds_50 rfl (lv_at hl 2 rfl) ?_
    refine lv_iconst (v := 2) hx hb eX0_setBounds_51 (by decide) ?_
    refine lv_icmp_ge (tgt := 60) hx hb eX0_setBounds_52 (by decide) (fun c_8 => ?_) (fun c_8 => ?_)
    · have hcc_8 := c_8
      have hsp := hsp.trans (if_pos c_8)
      refine lv_iload_n hx hb eX0_setBounds_60 rfl (lv_at hl 2 rfl) ?_
      refine lv_iconst (v := 4) hx hb eX0_setBounds_61 (by decide) ?_
      refine lv_icmp_ne (tgt := 72) hx hb eX0_setBounds_62 (by decide) (fun c_9 => ?_) (fun c_9 => ?_)
      · have hcc_9 := c_9
        have hsp := hsp.trans (if_neg c_9)
        refine lv_iconst (v := 1) hx hb eX0_setBounds_72 (by decide) ?_
        refine lv_iconst (v := 2) hx hb eX0_setBounds_73 (by decide) ?_
        refine lv_iload_n hx hb eX0_setBounds_74 rfl (lv_at hl 3 rfl) ?_
        refine lv_imul hx hb eX0_setBounds_75 ?_
        refine lv_topi (fun y_10 ey_10 => ?_)
        have hsp := hsp.trans (slet_eq ey_10)
        refine lv_isub hx hb eX0_setBounds_76 ?_
        refine lv_topi (fun y_11 ey_11 => ?_)
        have hsp := hsp.trans (slet_eq ey_11)
        refine va_iast hx hb hK hP hD hS 10 9 rfl rfl (vp_in_nI (n := a0) (Nat.lt_of_le_of_lt ha0 (Nat.le_of_ble_eq_true rfl)) (Nat.le_of_ble_eq_true rfl)) eX0_setBounds_77 (fun H locs hP hD hS => ?_)
        obtain ⟨f_12, ef_12, xf_12⟩ := up_x f13 (n := a0) y_11 (Nat.lt_of_le_of_lt ha0 (Nat.le_of_ble_eq_true rfl))
        have hP : va_P (dC, dI) vwCl (au__w au (nI nc) (nI np) (nI ne) st0 q4 q5 q6 q7 q8 q9 q10 q11 q12 q13 q14 q15 q16 k_f4 f4 k_f5 (bN 7 q_f5) k_f6 (bN 7 q_f6) k_f7 f7 k_f8 (bN 4 q_f8) k_f9 (bN 2 q_f9) k_f10 f10 k_f11 f11 k_f12 f_7 k_f13 f_12 k_f14 f14 k_f15 f15 k_f16 f16) H := by rw [← ef_12]; exact hP
        have hD : va_D A (au__w au (nI nc) (nI np) (nI ne) st0 q4 q5 q6 q7 q8 q9 q10 q11 q12 q13 q14 q15 q16 k_f4 f4 k_f5 (bN 7 q_f5) k_f6 (bN 7 q_f6) k_f7 f7 k_f8 (bN 4 q_f8) k_f9 (bN 2 q_f9) k_f10 f10 k_f11 f11 k_f12 f_7 k_f13 f_12 k_f14 f14 k_f15 f15 k_f16 f16) := by rw [← ef_12]; exact hD
        have hsp := hsp.trans (slet_eq xf_12)
        exact W.vret hx hb hr (fun t ht hW => ⟨⟨(), rfl, trivial, ⟨f_12, f_7, ⟨by rw [ht]; exact hP, va_K.moved hW.alike hK, hD⟩, (hsp.symm.trans hRR)⟩⟩, hS.F ht⟩) hS.2.2 eX0_setBounds_78
      · have hcc_9 := c_9
        have hsp := hsp.trans (if_pos c_9)
        refine lv_bipush (v := (-2)) hx hb eX0_setBounds_65 (by decide) ?_
        refine lv_iload_n hx hb eX0_setBounds_67 rfl (lv_at hl 3 rfl) ?_
        refine lv_imul hx hb eX0_setBounds_68 ?_
        refine lv_topi (fun y_13 ey_13 => ?_)
        have hsp := hsp.trans (slet_eq ey_13)
        refine lv_goto (tgt := 77) hx hb eX0_setBounds_69 (by decide) ?_
        refine va_iast hx hb hK hP hD hS 10 9 rfl rfl (vp_in_nI (n := a0) (Nat.lt_of_le_of_lt ha0 (Nat.le_of_ble_eq_true rfl)) (Nat.le_of_ble_eq_true rfl)) eX0_setBounds_77 (fun H locs hP hD hS => ?_)
        obtain ⟨f_14, ef_14, xf_14⟩ := up_x f13 (n := a0) y_13 (Nat.lt_of_le_of_lt ha0 (Nat.le_of_ble_eq_true rfl))
        have hP : va_P (dC, dI) vwCl (au__w au (nI nc) (nI np) (nI ne) st0 q4 q5 q6 q7 q8 q9 q10 q11 q12 q13 q14 q15 q16 k_f4 f4 k_f5 (bN 7 q_f5) k_f6 (bN 7 q_f6) k_f7 f7 k_f8 (bN 4 q_f8) k_f9 (bN 2 q_f9) k_f10 f10 k_f11 f11 k_f12 f_7 k_f13 f_14 k_f14 f14 k_f15 f15 k_f16 f16) H := by rw [← ef_14]; exact hP
        have hD : va_D A (au__w au (nI nc) (nI np) (nI ne) st0 q4 q5 q6 q7 q8 q9 q10 q11 q12 q13 q14 q15 q16 k_f4 f4 k_f5 (bN 7 q_f5) k_f6 (bN 7 q_f6) k_f7 f7 k_f8 (bN 4 q_f8) k_f9 (bN 2 q_f9) k_f10 f10 k_f11 f11 k_f12 f_7 k_f13 f_14 k_f14 f14 k_f15 f15 k_f16 f16) := by rw [← ef_14]; exact hD
        have hsp := hsp.trans (slet_eq xf_14)
        exact W.vret hx hb hr (fun t ht hW => ⟨⟨(), rfl, trivial, ⟨f_14, f_7, ⟨by rw [ht]; exact hP, va_K.moved hW.alike hK, hD⟩, (hsp.symm.trans hRR)⟩⟩, hS.F ht⟩) hS.2.2 eX0_setBounds_78
    · have hcc_8 := c_8
      have hsp := hsp.trans (if_neg c_8)
      refine lv_ldc hx hb hown v_4 eX0_setBounds_55 ?_
      refine lv_goto (tgt := 77) hx hb eX0_setBounds_57 (by decide) ?_
      refine va_iast hx hb hK hP hD hS 10 9 rfl rfl (vp_in_nI (n := a0) (Nat.lt_of_le_of_lt ha0 (Nat.le_of_ble_eq_true rfl)) (Nat.le_of_ble_eq_true rfl)) eX0_setBounds_77 (fun H locs hP hD hS => ?_)
      obtain ⟨f_15, ef_15, xf_15⟩ := up_x f13 (n := a0) 2147483647 (Nat.lt_of_le_of_lt ha0 (Nat.le_of_ble_eq_true rfl))
      have hP : va_P (dC, dI) vwCl (au__w au (nI nc) (nI np) (nI ne) st0 q4 q5 q6 q7 q8 q9 q10 q11 q12 q13 q14 q15 q16 k_f4 f4 k_f5 (bN 7 q_f5) k_f6 (bN 7 q_f6) k_f7 f7 k_f8 (bN 4 q_f8) k_f9 (bN 2 q_f9) k_f10 f10 k_f11 f11 k_f12 f_7 k_f13 f_15 k_f14 f14 k_f15 f15 k_f16 f16) H := by rw [← ef_15]; exact hP
      have hD : va_D A (au__w au (nI nc) (nI np) (nI ne) st0 q4 q5 q6 q7 q8 q9 q10 q11 q12 q13 q14 q15 q16 k_f4 f4 k_f5 (bN 7 q_f5) k_f6 (bN 7 q_f6) k_f7 f7 k_f8 (bN 4 q_f8) k_f9 (bN 2 q_f9) k_f10 f10 k_f11 f11 k_f12 f_7 k_f13 f_15 k_f14 f14 k_f15 f15 k_f16 f16) := by rw [← ef_15]; exact hD
      have hsp := hsp.trans (slet_eq xf_15)
      exact W.vret hx hb hr (fun t ht hW => ⟨⟨(), rfl, trivial, ⟨f_15, f_7, ⟨by rw [ht]; exact hP, va_K.moved hW.alike hK, hD⟩, (hsp.symm.trans hRR)⟩⟩, hS.F ht⟩) hS.2.2 eX0_setBounds_78
  have hsp := hJR_5
  refine lv_icmp_le (tgt := 29) hx hb eX0_setBounds_21 (by decide) (fun c_16 => ?_) (fun c_16 => ?_)
  · have hcc_16 := c_16
    have hsp := hsp.trans (if_pos c_16)
    refine lv_iload_n hx hb eX0_setBounds_29 rfl (lv_at hl 1 rfl) ?_
    refine lv_if_ne (tgt := 39) hx hb eX0_setBounds_30 (by decide) (fun c_17 => ?_) (fun c_17 => ?_)
    · have hcc_17 := c_17
      have hsp := hsp.trans (if_neg c_17)
      refine lv_iconst (v := 2) hx hb eX0_setBounds_39 (by decide) ?_
      refine lv_iload_n hx hb eX0_setBounds_40 rfl (lv_at hl 0 rfl) ?_
      refine lv_imul hx hb eX0_setBounds_41 ?_
      refine lv_topi (fun y_18 ey_18 => ?_)
      have hsp := hsp.trans (slet_eq ey_18)
      refine lv_iconst (v := 1) hx hb eX0_setBounds_42 (by decide) ?_
      refine lv_iadd hx hb eX0_setBounds_43 ?_
      refine lv_topi (fun y_19 ey_19 => ?_)
      have hsp := hsp.trans (slet_eq ey_19)
      exact j_4 _ _ _ _ ⟨y_19, rfl, hsp.symm, hP, hD, hS, lv_sub hl [2, 3, 1, 0] rfl⟩
    · have hcc_17 := c_17
      have hsp := hsp.trans (if_pos c_17)
      refine lv_iconst (v := 2) hx hb eX0_setBounds_33 (by decide) ?_
      refine lv_iload_n hx hb eX0_setBounds_34 rfl (lv_at hl 0 rfl) ?_
      refine lv_imul hx hb eX0_setBounds_35 ?_
      refine lv_topi (fun y_20 ey_20 => ?_)
      have hsp := hsp.trans (slet_eq ey_20)
      refine lv_goto (tgt := 44) hx hb eX0_setBounds_36 (by decide) ?_
      exact j_4 _ _ _ _ ⟨y_20, rfl, hsp.symm, hP, hD, hS, lv_sub hl [2, 3, 1, 0] rfl⟩
  · have hcc_16 := c_16
    have hsp := hsp.trans (if_neg c_16)
    refine lv_ldc hx hb hown v_4 eX0_setBounds_24 ?_
    refine lv_goto (tgt := 44) hx hb eX0_setBounds_26 (by decide) ?_
    exact j_4 _ _ _ _ ⟨2147483647, rfl, hsp.symm, hP, hD, hS, lv_sub hl [2, 3, 1, 0] rfl⟩
theorem eX0_measure_0 : decode cX0_measure 0 = .ok (.iconst 0, 1) := by decide +kernel
theorem eX0_measure_1 : decode cX0_measure 1 = .ok (.istore_n 1, 1) := by decide +kernel
theorem eX0_measure_2 : decode cX0_measure 2 = .ok (.iload_n 1, 1) := by decide +kernel
theorem eX0_measure_3 : decode cX0_measure 3 = .ok (.iconst 3, 1) := by decide +kernel
theorem eX0_measure_4 : decode cX0_measure 4 = .ok (.if_icmp .gt 30, 3) := by decide +kernel
theorem eX0_measure_7 : decode cX0_measure 7 = .ok (.aload_n 0, 1) := by decide +kernel
theorem eX0_measure_8 : decode cX0_measure 8 = .ok (.getfield 47, 3) := by decide +kernel
theorem eX0_measure_11 : decode cX0_measure 11 = .ok (.iload_n 1, 1) := by decide +kernel
theorem eX0_measure_12 : decode cX0_measure 12 = .ok (.iconst 0, 1) := by decide +kernel
theorem eX0_measure_13 : decode cX0_measure 13 = .ok (.iastore, 1) := by decide +kernel
theorem eX0_measure_14 : decode cX0_measure 14 = .ok (.aload_n 0, 1) := by decide +kernel
theorem eX0_measure_15 : decode cX0_measure 15 = .ok (.getfield 50, 3) := by decide +kernel
theorem eX0_measure_18 : decode cX0_measure 18 = .ok (.iload_n 1, 1) := by decide +kernel
theorem eX0_measure_19 : decode cX0_measure 19 = .ok (.iconst 0, 1) := by decide +kernel
theorem eX0_measure_20 : decode cX0_measure 20 = .ok (.iastore, 1) := by decide +kernel
theorem eX0_measure_21 : decode cX0_measure 21 = .ok (.aload_n 0, 1) := by decide +kernel
theorem eX0_measure_22 : decode cX0_measure 22 = .ok (.getfield 53, 3) := by decide +kernel
theorem eX0_measure_25 : decode cX0_measure 25 = .ok (.iload_n 1, 1) := by decide +kernel
theorem eX0_measure_26 : decode cX0_measure 26 = .ok (.iconst 0, 1) := by decide +kernel
theorem eX0_measure_27 : decode cX0_measure 27 = .ok (.iastore, 1) := by decide +kernel
theorem eX0_measure_28 : decode cX0_measure 28 = .ok (.iinc 1 1, 3) := by decide +kernel
theorem eX0_measure_31 : decode cX0_measure 31 = .ok (.goto (-29), 3) := by decide +kernel
theorem eX0_measure_34 : decode cX0_measure 34 = .ok (.iconst 0, 1) := by decide +kernel
theorem eX0_measure_35 : decode cX0_measure 35 = .ok (.istore_n 1, 1) := by decide +kernel
theorem eX0_measure_36 : decode cX0_measure 36 = .ok (.iload_n 1, 1) := by decide +kernel
theorem eX0_measure_37 : decode cX0_measure 37 = .ok (.bipush 22, 2) := by decide +kernel
theorem eX0_measure_39 : decode cX0_measure 39 = .ok (.if_icmp .ge 132, 3) := by decide +kernel
theorem eX0_measure_42 : decode cX0_measure 42 = .ok (.iconst 0, 1) := by decide +kernel
theorem eX0_measure_43 : decode cX0_measure 43 = .ok (.istore_n 2, 1) := by decide +kernel
theorem eX0_measure_44 : decode cX0_measure 44 = .ok (.iload_n 2, 1) := by decide +kernel
theorem eX0_measure_45 : decode cX0_measure 45 = .ok (.aload_n 0, 1) := by decide +kernel
theorem eX0_measure_46 : decode cX0_measure 46 = .ok (.getfield 29, 3) := by decide +kernel
theorem eX0_measure_49 : decode cX0_measure 49 = .ok (.iload_n 1, 1) := by decide +kernel
theorem eX0_measure_50 : decode cX0_measure 50 = .ok (.iaload, 1) := by decide +kernel
theorem eX0_measure_51 : decode cX0_measure 51 = .ok (.if_icmp .ge 114, 3) := by decide +kernel
theorem eX0_measure_54 : decode cX0_measure 54 = .ok (.iload_n 1, 1) := by decide +kernel
theorem eX0_measure_55 : decode cX0_measure 55 = .ok (.iload_n 2, 1) := by decide +kernel
theorem eX0_measure_56 : decode cX0_measure 56 = .ok (.invokestatic 65, 3) := by decide +kernel
theorem eX0_measure_59 : decode cX0_measure 59 = .ok (.istore_n 3, 1) := by decide +kernel
theorem eX0_measure_60 : decode cX0_measure 60 = .ok (.aload_n 0, 1) := by decide +kernel
theorem eX0_measure_61 : decode cX0_measure 61 = .ok (.getfield 32, 3) := by decide +kernel
theorem eX0_measure_64 : decode cX0_measure 64 = .ok (.iload_n 3, 1) := by decide +kernel
theorem eX0_measure_65 : decode cX0_measure 65 = .ok (.iaload, 1) := by decide +kernel
theorem eX0_measure_66 : decode cX0_measure 66 = .ok (.iconst 1, 1) := by decide +kernel
theorem eX0_measure_67 : decode cX0_measure 67 = .ok (.iadd, 1) := by decide +kernel
theorem eX0_measure_68 : decode cX0_measure 68 = .ok (.istore 4, 2) := by decide +kernel
theorem eX0_measure_70 : decode cX0_measure 70 = .ok (.aload_n 0, 1) := by decide +kernel
theorem eX0_measure_71 : decode cX0_measure 71 = .ok (.getfield 47, 3) := by decide +kernel
theorem eX0_measure_74 : decode cX0_measure 74 = .ok (.iload 4, 2) := by decide +kernel
theorem eX0_measure_76 : decode cX0_measure 76 = .ok (.aload_n 0, 1) := by decide +kernel
theorem eX0_measure_77 : decode cX0_measure 77 = .ok (.getfield 47, 3) := by decide +kernel
theorem eX0_measure_80 : decode cX0_measure 80 = .ok (.iload 4, 2) := by decide +kernel
theorem eX0_measure_82 : decode cX0_measure 82 = .ok (.iaload, 1) := by decide +kernel
theorem eX0_measure_83 : decode cX0_measure 83 = .ok (.aload_n 0, 1) := by decide +kernel
theorem eX0_measure_84 : decode cX0_measure 84 = .ok (.getfield 38, 3) := by decide +kernel
theorem eX0_measure_87 : decode cX0_measure 87 = .ok (.iload_n 3, 1) := by decide +kernel
theorem eX0_measure_88 : decode cX0_measure 88 = .ok (.iaload, 1) := by decide +kernel
theorem eX0_measure_89 : decode cX0_measure 89 = .ok (.invokestatic 79, 3) := by decide +kernel
theorem eX0_measure_92 : decode cX0_measure 92 = .ok (.iastore, 1) := by decide +kernel
theorem eX0_measure_93 : decode cX0_measure 93 = .ok (.aload_n 0, 1) := by decide +kernel
theorem eX0_measure_94 : decode cX0_measure 94 = .ok (.getfield 35, 3) := by decide +kernel
theorem eX0_measure_97 : decode cX0_measure 97 = .ok (.iload_n 3, 1) := by decide +kernel
theorem eX0_measure_98 : decode cX0_measure 98 = .ok (.iaload, 1) := by decide +kernel
theorem eX0_measure_99 : decode cX0_measure 99 = .ok (.iconst 2, 1) := by decide +kernel
theorem eX0_measure_100 : decode cX0_measure 100 = .ok (.if_icmp .lt 26, 3) := by decide +kernel
theorem eX0_measure_103 : decode cX0_measure 103 = .ok (.aload_n 0, 1) := by decide +kernel
theorem eX0_measure_104 : decode cX0_measure 104 = .ok (.getfield 50, 3) := by decide +kernel
theorem eX0_measure_107 : decode cX0_measure 107 = .ok (.iload 4, 2) := by decide +kernel
theorem eX0_measure_109 : decode cX0_measure 109 = .ok (.aload_n 0, 1) := by decide +kernel
theorem eX0_measure_110 : decode cX0_measure 110 = .ok (.getfield 50, 3) := by decide +kernel
theorem eX0_measure_113 : decode cX0_measure 113 = .ok (.iload 4, 2) := by decide +kernel
theorem eX0_measure_115 : decode cX0_measure 115 = .ok (.iaload, 1) := by decide +kernel
theorem eX0_measure_116 : decode cX0_measure 116 = .ok (.aload_n 0, 1) := by decide +kernel
theorem eX0_measure_117 : decode cX0_measure 117 = .ok (.getfield 38, 3) := by decide +kernel
theorem eX0_measure_120 : decode cX0_measure 120 = .ok (.iload_n 3, 1) := by decide +kernel
theorem eX0_measure_121 : decode cX0_measure 121 = .ok (.iaload, 1) := by decide +kernel
theorem eX0_measure_122 : decode cX0_measure 122 = .ok (.invokestatic 79, 3) := by decide +kernel
theorem eX0_measure_125 : decode cX0_measure 125 = .ok (.iastore, 1) := by decide +kernel
theorem eX0_measure_126 : decode cX0_measure 126 = .ok (.aload_n 0, 1) := by decide +kernel
theorem eX0_measure_127 : decode cX0_measure 127 = .ok (.getfield 35, 3) := by decide +kernel
theorem eX0_measure_130 : decode cX0_measure 130 = .ok (.iload_n 3, 1) := by decide +kernel
theorem eX0_measure_131 : decode cX0_measure 131 = .ok (.iaload, 1) := by decide +kernel
theorem eX0_measure_132 : decode cX0_measure 132 = .ok (.iconst 2, 1) := by decide +kernel
theorem eX0_measure_133 : decode cX0_measure 133 = .ok (.if_icmp .gt 26, 3) := by decide +kernel
theorem eX0_measure_136 : decode cX0_measure 136 = .ok (.aload_n 0, 1) := by decide +kernel
theorem eX0_measure_137 : decode cX0_measure 137 = .ok (.getfield 53, 3) := by decide +kernel
theorem eX0_measure_140 : decode cX0_measure 140 = .ok (.iload 4, 2) := by decide +kernel
theorem eX0_measure_142 : decode cX0_measure 142 = .ok (.aload_n 0, 1) := by decide +kernel
theorem eX0_measure_143 : decode cX0_measure 143 = .ok (.getfield 53, 3) := by decide +kernel
theorem eX0_measure_146 : decode cX0_measure 146 = .ok (.iload 4, 2) := by decide +kernel
theorem eX0_measure_148 : decode cX0_measure 148 = .ok (.iaload, 1) := by decide +kernel
theorem eX0_measure_149 : decode cX0_measure 149 = .ok (.aload_n 0, 1) := by decide +kernel
theorem eX0_measure_150 : decode cX0_measure 150 = .ok (.getfield 38, 3) := by decide +kernel
theorem eX0_measure_153 : decode cX0_measure 153 = .ok (.iload_n 3, 1) := by decide +kernel
theorem eX0_measure_154 : decode cX0_measure 154 = .ok (.iaload, 1) := by decide +kernel
theorem eX0_measure_155 : decode cX0_measure 155 = .ok (.invokestatic 79, 3) := by decide +kernel
theorem eX0_measure_158 : decode cX0_measure 158 = .ok (.iastore, 1) := by decide +kernel
theorem eX0_measure_159 : decode cX0_measure 159 = .ok (.iinc 2 1, 3) := by decide +kernel
theorem eX0_measure_162 : decode cX0_measure 162 = .ok (.goto (-118), 3) := by decide +kernel
theorem eX0_measure_165 : decode cX0_measure 165 = .ok (.iinc 1 1, 3) := by decide +kernel
theorem eX0_measure_168 : decode cX0_measure 168 = .ok (.goto (-132), 3) := by decide +kernel
theorem eX0_measure_171 : decode cX0_measure 171 = .ok (.return_, 1) := by decide +kernel
abbrev vs_E_0_measure : List Cond := .code yX0_measure cX0_measure 5 none :: CM
theorem g_E_0_measure_E_0_slot : GoodIn vs_E_0_measure (va_wsS RX0 65 yX0_slot vs_E_0_slot) := cm_gS cm_17 cm_18 cm_19 cm_1
noncomputable def sp_E_0_measure_L1 (q_f8 : Nat → Nat) (q_f9 : Nat → Nat) (f10 : Nat → Int32) (f11 : Nat → Int32) (g_23 : Nat) : ((Nat → Int32) × (Nat → Int32) × (Nat → Int32) × Nat) → ((Nat → Int32) × (Nat → Int32) × (Nat → Int32) × Nat) ⊕ (((Nat → Int32) × (Nat → Int32) × (Nat → Int32) × Nat) ⊕ ((Nat → Int32) × (Nat → Int32) × (Nat → Int32))) := fun (g_35, g_36, g_37, g_38) => (slet (min (q_f8 g_23) 4) (fun u_46 => (if u_46 ≤ g_38 then (Sum.inr (Sum.inl (g_35, g_36, g_37, (g_23 + 1)))) else (slet (min (q_f9 (g_23 * 4 + g_38)) 2) (fun u_50 => (slet (g_35 (u_50 + 1)) (fun y_52 => (slet (f11 (g_23 * 4 + g_38)) (fun y_53 => (slet (if (y_52 : Int32) < y_53 then y_53 else y_52) (fun y_54 => (slet (upd g_35 (u_50 + 1) y_54) (fun f_55 => (slet (f10 (g_23 * 4 + g_38)) (fun y_56 => (slet (α := (Nat → Int32)) (if (y_56 : Int32) < 2 then g_36 else (slet (g_36 (u_50 + 1)) (fun y_72 => (slet (f11 (g_23 * 4 + g_38)) (fun y_73 => (slet (if (y_72 : Int32) < y_73 then y_73 else y_72) (fun y_74 => (slet (upd g_36 (u_50 + 1) y_74) (fun f_75 => f_75))))))))) (fun g_57 => (slet (f10 (g_23 * 4 + g_38)) (fun y_61 => (slet (α := (Nat → Int32)) (if (2 : Int32) < y_61 then g_37 else (slet (g_37 (u_50 + 1)) (fun y_67 => (slet (f11 (g_23 * 4 + g_38)) (fun y_68 => (slet (if (y_67 : Int32) < y_68 then y_68 else y_67) (fun y_69 => (slet (upd g_37 (u_50 + 1) y_69) (fun f_70 => f_70))))))))) (fun g_62 => (Sum.inl (f_55, g_57, g_62, (g_38 + 1))))))))))))))))))))))))
noncomputable def sp_E_0_measure_L2 (q_f8 : Nat → Nat) (q_f9 : Nat → Nat) (f10 : Nat → Int32) (f11 : Nat → Int32) : ((Nat → Int32) × (Nat → Int32) × (Nat → Int32) × Nat) → ((Nat → Int32) × (Nat → Int32) × (Nat → Int32) × Nat) ⊕ ((Nat → Int32) × (Nat → Int32) × (Nat → Int32)) := fun (g_20, g_21, g_22, g_23) => (if 22 ≤ g_23 then (Sum.inr (g_20, g_21, g_22)) else (itrv (α := (Nat → Int32) × (Nat → Int32) × (Nat → Int32) × Nat) (β := (((Nat → Int32) × (Nat → Int32) × (Nat → Int32) × Nat) ⊕ ((Nat → Int32) × (Nat → Int32) × (Nat → Int32)))) (Sum.inr default) (sp_E_0_measure_L1 q_f8 q_f9 f10 f11 g_23) (g_20, g_21, g_22, 0)))
noncomputable def sp_E_0_measure_L3 (q_f8 : Nat → Nat) (q_f9 : Nat → Nat) (f10 : Nat → Int32) (f11 : Nat → Int32) : ((Nat → Int32) × (Nat → Int32) × (Nat → Int32) × Nat) → ((Nat → Int32) × (Nat → Int32) × (Nat → Int32) × Nat) ⊕ ((Nat → Int32) × (Nat → Int32) × (Nat → Int32)) := fun (g_5, g_6, g_7, g_8) => (if 3 < g_8 then (Sum.inr (itrv (α := (Nat → Int32) × (Nat → Int32) × (Nat → Int32) × Nat) (β := ((Nat → Int32) × (Nat → Int32) × (Nat → Int32))) default (sp_E_0_measure_L2 q_f8 q_f9 f10 f11) (g_5, g_6, g_7, 0))) else (slet (upd g_5 g_8 0) (fun f_76 => (slet (upd g_6 g_8 0) (fun f_77 => (slet (upd g_7 g_8 0) (fun f_78 => (Sum.inl (f_76, f_77, f_78, (g_8 + 1))))))))))
noncomputable def sp_E_0_measure (q_f8 : Nat → Nat) (q_f9 : Nat → Nat) (f10 : Nat → Int32) (f11 : Nat → Int32) (f14 : Nat → Int32) (f15 : Nat → Int32) (f16 : Nat → Int32) : (Nat → Int32) × (Nat → Int32) × (Nat → Int32) := (itrv (α := (Nat → Int32) × (Nat → Int32) × (Nat → Int32) × Nat) (β := ((Nat → Int32) × (Nat → Int32) × (Nat → Int32))) default (sp_E_0_measure_L3 q_f8 q_f9 f10 f11) (f14, f15, f16, 0))
set_option maxHeartbeats 4000000 in
set_option maxRecDepth 100000 in
theorem c_E_0_measure (l : Launch) (dC : Nat → ClassId) (dI : Nat → Nat → Nat) (sz : Nat) (au : Nat) (nc : Nat) (np : Nat) (ne : Nat) (st0 : Int32) (q4 : Nat) (q5 : Nat) (q6 : Nat) (q7 : Nat) (q8 : Nat) (q9 : Nat) (q10 : Nat) (q11 : Nat) (q12 : Nat) (q13 : Nat) (q14 : Nat) (q15 : Nat) (q16 : Nat) (k_f4 : ClassId) (f4 : Nat → Int32) (k_f5 : ClassId) (q_f5 : Nat → Nat) (k_f6 : ClassId) (q_f6 : Nat → Nat) (k_f7 : ClassId) (f7 : Nat → Int32) (k_f8 : ClassId) (q_f8 : Nat → Nat) (k_f9 : ClassId) (q_f9 : Nat → Nat) (k_f10 : ClassId) (f10 : Nat → Int32) (k_f11 : ClassId) (f11 : Nat → Int32) (k_f12 : ClassId) (f12 : Nat → Int32) (k_f13 : ClassId) (f13 : Nat → Int32) (k_f14 : ClassId) (f14 : Nat → Int32) (k_f15 : ClassId) (f15 : Nat → Int32) (k_f16 : ClassId) (f16 : Nat → Int32) (hnc : nc ≤ 3) (hnp : np ≤ 8) (hne : ne ≤ 14) (hst0 : pm1 7 st0) : Met l yX0_measure vs_E_0_measure ({ frames := 1, cells := 0, slots := 0, locals := 21 }) (va_Pc [.ref au] (pu_B (dC, dI) (au__w au (nI nc) (nI np) (nI ne) st0 q4 q5 q6 q7 q8 q9 q10 q11 q12 q13 q14 q15 q16 k_f4 f4 k_f5 (bN 7 q_f5) k_f6 (bN 7 q_f6) k_f7 f7 k_f8 (bN 4 q_f8) k_f9 (bN 2 q_f9) k_f10 f10 k_f11 f11 k_f12 f12 k_f13 f13 k_f14 f14 k_f15 f15 k_f16 f16) (au__t k_f4 k_f5 k_f6 k_f7 k_f8 k_f9 k_f10 k_f11 k_f12 k_f13 k_f14 k_f15 k_f16) sz)) (va_Qv (fun (_ : Unit) => True) (fun _ t => ∃ (z_f14 : Nat → Int32) (z_f15 : Nat → Int32) (z_f16 : Nat → Int32), pu_E (dC, dI) (au__w au (nI nc) (nI np) (nI ne) st0 q4 q5 q6 q7 q8 q9 q10 q11 q12 q13 q14 q15 q16 k_f4 f4 k_f5 (bN 7 q_f5) k_f6 (bN 7 q_f6) k_f7 f7 k_f8 (bN 4 q_f8) k_f9 (bN 2 q_f9) k_f10 f10 k_f11 f11 k_f12 f12 k_f13 f13 k_f14 z_f14 k_f15 z_f15 k_f16 z_f16) (au__t k_f4 k_f5 k_f6 k_f7 k_f8 k_f9 k_f10 k_f11 k_f12 k_f13 k_f14 k_f15 k_f16) (va_A ((au__w au (nI nc) (nI np) (nI ne) st0 q4 q5 q6 q7 q8 q9 q10 q11 q12 q13 q14 q15 q16 k_f4 f4 k_f5 (bN 7 q_f5) k_f6 (bN 7 q_f6) k_f7 f7 k_f8 (bN 4 q_f8) k_f9 (bN 2 q_f9) k_f10 f10 k_f11 f11 k_f12 f12 k_f13 f13 k_f14 f14 k_f15 f15 k_f16 f16)) sz) t ∧ ((z_f14, z_f15, z_f16) = (sp_E_0_measure q_f8 q_f9 f10 f11 f14 f15 f16))) (va_A ((au__w au (nI nc) (nI np) (nI ne) st0 q4 q5 q6 q7 q8 q9 q10 q11 q12 q13 q14 q15 q16 k_f4 f4 k_f5 (bN 7 q_f5) k_f6 (bN 7 q_f6) k_f7 f7 k_f8 (bN 4 q_f8) k_f9 (bN 2 q_f9) k_f10 f10 k_f11 f11 k_f12 f12 k_f13 f13 k_f14 f14 k_f15 f15 k_f16 f16)) sz)) 0 0 (va_A ((au__w au (nI nc) (nI np) (nI ne) st0 q4 q5 q6 q7 q8 q9 q10 q11 q12 q13 q14 q15 q16 k_f4 f4 k_f5 (bN 7 q_f5) k_f6 (bN 7 q_f6) k_f7 f7 k_f8 (bN 4 q_f8) k_f9 (bN 2 q_f9) k_f10 f10 k_f11 f11 k_f12 f12 k_f13 f13 k_f14 f14 k_f15 f15 k_f16 f16)) sz) := by
  refine Met.ofW (cc := cX0_measure) (maxL := 5) (ret := none) (by decide) rfl ?_
  intro p e s m args below meth c s₁ B hml hv
  obtain ⟨rfl, rfl, hP, hK, hD0⟩ := hv
  have hx := B.exec
  have hb := B.bytes
  have hr := B.returns
  have hts := atoms_spec (ws := vs_E_0_measure) B.pre
  have v_1 := hts (.fieldLink RX0 47 "ClockReach$Automaton" "greatest" "[I") (List.mem_cons_of_mem _ cm_32)
  have v_2 := hts (.fieldLink RX0 50 "ClockReach$Automaton" "lower" "[I") (List.mem_cons_of_mem _ cm_33)
  have v_3 := hts (.fieldLink RX0 53 "ClockReach$Automaton" "upper" "[I") (List.mem_cons_of_mem _ cm_34)
  have v_4 := hts (.fieldLink RX0 29 "ClockReach$Automaton" "counts" "[I") (List.mem_cons_of_mem _ cm_8)
  have v_9 := hts (.fieldLink RX0 32 "ClockReach$Automaton" "conditionClocks" "[I") (List.mem_cons_of_mem _ cm_14)
  have v_10 := hts (.fieldLink RX0 38 "ClockReach$Automaton" "numbers" "[I") (List.mem_cons_of_mem _ cm_16)
  have v_11 := hts (.methodLink RX0 79 Lib.Math.max.name) (List.mem_cons_of_mem _ cm_35)
  have v_12 := hts (.static Lib.Math.max.name) (List.mem_cons_of_mem _ cm_36)
  have v_13 := hts (.initialized "java/lang/Math") (List.mem_cons_of_mem _ cm_37)
  have v_14 := hts (.code Lib.Math.max.name Lib.Math.max.code 2 (some .int)) (List.mem_cons_of_mem _ cm_38)
  have v_15 := hts (.fieldLink RX0 35 "ClockReach$Automaton" "hows" "[I") (List.mem_cons_of_mem _ cm_15)
  have hown : s.vm.findClass RX0 = some m.cls := findClass_of_methodNamed B.named
  have hlocks := B.notSynchronized
  have hiX0 : ∀ w ∈ wsX00, w ∈ vs_E_0_measure := fun _ h => List.mem_cons_of_mem _ (cm_X0 h)
  have hD := hD0.self (sz := s.heap.size)
  generalize hAe : va_A ((au__w au (nI nc) (nI np) (nI ne) st0 q4 q5 q6 q7 q8 q9 q10 q11 q12 q13 q14 q15 q16 k_f4 f4 k_f5 (bN 7 q_f5) k_f6 (bN 7 q_f6) k_f7 f7 k_f8 (bN 4 q_f8) k_f9 (bN 2 q_f9) k_f10 f10 k_f11 f11 k_f12 f12 k_f13 f13 k_f14 f14 k_f15 f15 k_f16 f16)) s.heap.size = A at hD ⊢
  have hA : ∀ q : Nat, s.heap.size ≤ q → A q := fun q h => by rw [← hAe]; exact Or.inr h
  have hS : va_S A s.heap s.heap [] := va_S.rf
  have hl := lv_entry ([.ref au]) (n := 5) (Nat.le_of_ble_eq_true rfl)
  rw [lg_entry_eq]
  generalize (lg_sl ([.ref au]) ++ List.replicate (5 - (lg_sl ([.ref au])).length) Slot.unset).toArray = ls at hl ⊢
  have hl : lv_has ls 5 [(0, .ref au)] := hl
  obtain ⟨RR, hRR⟩ : ∃ x, x = (sp_E_0_measure q_f8 q_f9 f10 f11 f14 f15 f16) := ⟨_, rfl⟩
  have hsp := hRR
  refine lv_iconst (v := 0) hx hb eX0_measure_0 (by decide) ?_
  refine lv_istore_n (lv' := [(1, .int 0), (0, .ref au)]) hx hb eX0_measure_1 rfl hl (by decide) rfl (fun ls hl => ?_)
  obtain ⟨lf_10, dlf_10, hlf_10, hsp⟩ := itr_ex hsp
  delta sp_E_0_measure_L3 at hlf_10
  refine pu_while (fun nn H locs ls => ∃ (g_5 : Nat → Int32) (g_6 : Nat → Int32) (g_7 : Nat → Int32) (g_8 : Nat), nn = 4 - g_8 ∧ g_8 ≤ 4 ∧ RR = itrv dlf_10 lf_10 (g_5, g_6, g_7, g_8) ∧ va_P (dC, dI) vwCl (au__w au (nI nc) (nI np) (nI ne) st0 q4 q5 q6 q7 q8 q9 q10 q11 q12 q13 q14 q15 q16 k_f4 f4 k_f5 (bN 7 q_f5) k_f6 (bN 7 q_f6) k_f7 f7 k_f8 (bN 4 q_f8) k_f9 (bN 2 q_f9) k_f10 f10 k_f11 f11 k_f12 f12 k_f13 f13 k_f14 g_5 k_f15 g_6 k_f16 g_7) H ∧ va_D A (au__w au (nI nc) (nI np) (nI ne) st0 q4 q5 q6 q7 q8 q9 q10 q11 q12 q13 q14 q15 q16 k_f4 f4 k_f5 (bN 7 q_f5) k_f6 (bN 7 q_f6) k_f7 f7 k_f8 (bN 4 q_f8) k_f9 (bN 2 q_f9) k_f10 f10 k_f11 f11 k_f12 f12 k_f13 f13 k_f14 g_5 k_f15 g_6 k_f16 g_7) ∧ va_S A s.heap H locs ∧ lv_has ls 5 [(0, .ref au), (1, .int (nI g_8))]) 2 ?_ _ _ _ _ ⟨f14, f15, f16, 0, rfl, (Nat.le_of_ble_eq_true rfl), hsp, hP, hD, hS, lv_sub hl [1, 0] rfl⟩
  rintro nn ih_9 H locs ls ⟨g_5, g_6, g_7, g_8, rfl, hg_8, he_12, hP, hD, hS, hl⟩
  obtain ⟨S_11, hsp, hin_13, hout_14⟩ := itr_step hlf_10 he_12
  refine lv_iload_n hx hb eX0_measure_2 rfl (lv_at hl 1 rfl) ?_
  refine lv_iconst (v := 3) hx hb eX0_measure_3 (by decide) ?_
  refine lv_icmp_gt (tgt := 34) hx hb eX0_measure_4 (by decide) (fun c_15 => ?_) (fun c_15 => ?_)
  · have c_15 : 3 < g_8 := (nI_ltI (a := 3) (b := g_8) (Nat.le_of_ble_eq_true rfl) (Nat.lt_of_le_of_lt hg_8 (Nat.le_of_ble_eq_true rfl))).mp c_15
    have hsp := hsp.trans (if_pos c_15)
    have hsp := hout_14 _ hsp
    refine lv_iconst (v := 0) hx hb eX0_measure_34 (by decide) ?_
    refine lv_istore_n (lv' := [(1, .int 0), (0, .ref au)]) hx hb eX0_measure_35 rfl hl (by decide) rfl (fun ls hl => ?_)
    obtain ⟨lf_25, dlf_25, hlf_25, hsp⟩ := itr_ex hsp
    delta sp_E_0_measure_L2 at hlf_25
    refine pu_while (fun nn H locs ls => ∃ (g_20 : Nat → Int32) (g_21 : Nat → Int32) (g_22 : Nat → Int32) (g_23 : Nat), nn = 22 - g_23 ∧ g_23 ≤ 22 ∧ RR = itrv dlf_25 lf_25 (g_20, g_21, g_22, g_23) ∧ va_P (dC, dI) vwCl (au__w au (nI nc) (nI np) (nI ne) st0 q4 q5 q6 q7 q8 q9 q10 q11 q12 q13 q14 q15 q16 k_f4 f4 k_f5 (bN 7 q_f5) k_f6 (bN 7 q_f6) k_f7 f7 k_f8 (bN 4 q_f8) k_f9 (bN 2 q_f9) k_f10 f10 k_f11 f11 k_f12 f12 k_f13 f13 k_f14 g_20 k_f15 g_21 k_f16 g_22) H ∧ va_D A (au__w au (nI nc) (nI np) (nI ne) st0 q4 q5 q6 q7 q8 q9 q10 q11 q12 q13 q14 q15 q16 k_f4 f4 k_f5 (bN 7 q_f5) k_f6 (bN 7 q_f6) k_f7 f7 k_f8 (bN 4 q_f8) k_f9 (bN 2 q_f9) k_f10 f10 k_f11 f11 k_f12 f12 k_f13 f13 k_f14 g_20 k_f15 g_21 k_f16 g_22) ∧ va_S A s.heap H locs ∧ lv_has ls 5 [(0, .ref au), (1, .int (nI g_23))]) 36 ?_ _ _ _ _ ⟨g_5, g_6, g_7, 0, rfl, (Nat.le_of_ble_eq_true rfl), hsp, hP, hD, hS, lv_sub hl [1, 0] rfl⟩
    rintro nn ih_24 H locs ls ⟨g_20, g_21, g_22, g_23, rfl, hg_23, he_27, hP, hD, hS, hl⟩
    obtain ⟨S_26, hsp, hin_28, hout_29⟩ := itr_step hlf_25 he_27
    refine lv_iload_n hx hb eX0_measure_36 rfl (lv_at hl 1 rfl) ?_
    refine lv_bipush (v := 22) hx hb eX0_measure_37 (by decide) ?_
    refine lv_icmp_ge (tgt := 171) hx hb eX0_measure_39 (by decide) (fun c_30 => ?_) (fun c_30 => ?_)
    · have c_30 : 22 ≤ g_23 := (nI_leI (a := 22) (b := g_23) (Nat.le_of_ble_eq_true rfl) (Nat.lt_of_le_of_lt hg_23 (Nat.le_of_ble_eq_true rfl))).mp c_30
      have hsp := hsp.trans (if_pos c_30)
      have hsp := hout_29 _ hsp
      exact W.vret hx hb hr (fun t ht hW => ⟨⟨(), rfl, trivial, ⟨g_20, g_21, g_22, ⟨by rw [ht]; exact hP, va_K.moved hW.alike hK, hD⟩, (hsp.symm.trans hRR)⟩⟩, hS.F ht⟩) hS.2.2 eX0_measure_171
    · have c_30 : ¬ 22 ≤ g_23 := fun z => c_30 ((nI_leI (a := 22) (b := g_23) (Nat.le_of_ble_eq_true rfl) (Nat.lt_of_le_of_lt hg_23 (Nat.le_of_ble_eq_true rfl))).mpr z)
      have hsp := hsp.trans (if_neg c_30)
      refine lv_iconst (v := 0) hx hb eX0_measure_42 (by decide) ?_
      refine lv_istore_n (lv' := [(2, .int 0), (0, .ref au), (1, .int (nI g_23))]) hx hb eX0_measure_43 rfl hl (by decide) rfl (fun ls hl => ?_)
      obtain ⟨lf_40, dlf_40, hlf_40, hsp⟩ := itr_ex hsp
      delta sp_E_0_measure_L1 at hlf_40
      refine pu_while (fun nn H locs ls => ∃ (g_35 : Nat → Int32) (g_36 : Nat → Int32) (g_37 : Nat → Int32) (g_38 : Nat), nn = 4 - g_38 ∧ g_38 ≤ 4 ∧ S_26 = itrv dlf_40 lf_40 (g_35, g_36, g_37, g_38) ∧ va_P (dC, dI) vwCl (au__w au (nI nc) (nI np) (nI ne) st0 q4 q5 q6 q7 q8 q9 q10 q11 q12 q13 q14 q15 q16 k_f4 f4 k_f5 (bN 7 q_f5) k_f6 (bN 7 q_f6) k_f7 f7 k_f8 (bN 4 q_f8) k_f9 (bN 2 q_f9) k_f10 f10 k_f11 f11 k_f12 f12 k_f13 f13 k_f14 g_35 k_f15 g_36 k_f16 g_37) H ∧ va_D A (au__w au (nI nc) (nI np) (nI ne) st0 q4 q5 q6 q7 q8 q9 q10 q11 q12 q13 q14 q15 q16 k_f4 f4 k_f5 (bN 7 q_f5) k_f6 (bN 7 q_f6) k_f7 f7 k_f8 (bN 4 q_f8) k_f9 (bN 2 q_f9) k_f10 f10 k_f11 f11 k_f12 f12 k_f13 f13 k_f14 g_35 k_f15 g_36 k_f16 g_37) ∧ va_S A s.heap H locs ∧ lv_has ls 5 [(0, .ref au), (1, .int (nI g_23)), (2, .int (nI g_38))]) 44 ?_ _ _ _ _ ⟨g_20, g_21, g_22, 0, rfl, (Nat.le_of_ble_eq_true rfl), hsp, hP, hD, hS, lv_sub hl [1, 2, 0] rfl⟩
      rintro nn ih_39 H locs ls ⟨g_35, g_36, g_37, g_38, rfl, hg_38, he_42, hP, hD, hS, hl⟩
      obtain ⟨S_41, hsp, hin_43, hout_44⟩ := itr_step hlf_40 he_42
      refine lv_iload_n hx hb eX0_measure_44 rfl (lv_at hl 2 rfl) ?_
      refine lv_aload_n hx hb eX0_measure_45 rfl (lv_at hl 0 rfl) ?_
      refine va_get (D := (dC, dI)) (ci := 0) (v := .ref q8) (C := RX0) (T := TX0) (N := 17) hx hb hts hiX0 hown hK hP 0 rfl rfl 8 (by decide) v_4 (fun _ h9 => h9) rfl eX0_measure_46 ?_
      refine lv_iload_n hx hb eX0_measure_49 rfl (lv_at hl 1 rfl) ?_
      refine va_iald hx hb hK hP 5 4 rfl rfl (vp_in_nI (n := g_23) (by omega) (Nat.le_of_ble_eq_true rfl)) eX0_measure_50 ?_
      refine lv_topi (fun y_45 ey_45 => ?_)
      obtain ⟨u_46, hu_46, qu_46, xu_46⟩ := bN_getx 4 q_f8 (n := g_23) (Nat.lt_of_le_of_lt hg_23 (Nat.le_of_ble_eq_true rfl))
      obtain rfl : y_45 = nI u_46 := ey_45.trans qu_46
      have hsp := hsp.trans (slet_eq xu_46)
      refine lv_icmp_ge (tgt := 165) hx hb eX0_measure_51 (by decide) (fun c_47 => ?_) (fun c_47 => ?_)
      · have c_47 : u_46 ≤ g_38 := (nI_leI (a := u_46) (b := g_38) (Nat.lt_of_le_of_lt hu_46 (Nat.le_of_ble_eq_true rfl)) (Nat.lt_of_le_of_lt hg_38 (Nat.le_of_ble_eq_true rfl))).mp c_47
        have hsp := hsp.trans (if_pos c_47)
        have hsp := hout_44 _ hsp
        refine lv_iinc (v := (nI (g_23 + 1))) (lv' := [(1, .int (nI (g_23 + 1))), (0, .ref au), (2, .int (nI g_38))]) hx hb eX0_measure_165 hl (k := 1) rfl (nI_1 _) (by decide) rfl (fun ls hl => ?_)
        refine lv_goto (tgt := 36) hx hb eX0_measure_168 (by decide) ?_
        exact ih_24 (22 - (g_23 + 1)) (by omega) _ _ _ ⟨g_35, g_36, g_37, (g_23 + 1), rfl, (by omega), hin_28 _ hsp, hP, hD, hS, lv_sub hl [1, 0] rfl⟩
      · have c_47 : ¬ u_46 ≤ g_38 := fun z => c_47 ((nI_leI (a := u_46) (b := g_38) (Nat.lt_of_le_of_lt hu_46 (Nat.le_of_ble_eq_true rfl)) (Nat.lt_of_le_of_lt hg_38 (Nat.le_of_ble_eq_true rfl))).mpr z)
        have hsp := hsp.trans (if_neg c_47)
        refine lv_iload_n hx hb eX0_measure_54 rfl (lv_at hl 1 rfl) ?_
        refine lv_iload_n hx hb eX0_measure_55 rfl (lv_at hl 2 rfl) ?_
        refine va_calli (va_runS (As := [.int (nI g_23), .int (nI g_38)]) (rest := []) ⟨hx, hb, hml, hown, hts⟩ (c_E_0_slot l dC dI _ g_23 g_38 (by omega) hg_38) (va_cwS 2 hts g_E_0_measure_E_0_slot rfl rfl rfl (by decide +kernel) ⟨Nat.le_of_ble_eq_true rfl, Nat.le_of_ble_eq_true rfl⟩) ⟨pu_bl, pu_in (hP.sub [] rfl) (hK.sub [] rfl) (hD.sub [] (by decide) rfl)⟩ rfl rfl hl.1 rfl (lv_room (Nat.le_of_ble_eq_true rfl)) eX0_measure_56 ⟨Nat.le_of_ble_eq_true rfl, Nat.le_of_ble_eq_true rfl⟩) hS (fun q _ h => pu_fr hS hA q h) (pu_fr hS hA) (fun r_48 u t H1 locs ht hvm hw hB hz1 hk1 hS => ?_)
        have hP := pu_keep hP hk1
        clear hk1 hz1 ht hvm
        generalize H1 = H at hP hS ⊢
        obtain rfl : r_48 = nI (g_23 * 4 + g_38) := hw
        refine lv_istore_n (lv' := [(3, .int (nI (g_23 * 4 + g_38))), (0, .ref au), (1, .int (nI g_23)), (2, .int (nI g_38))]) hx hb eX0_measure_59 rfl hl (by decide) rfl (fun ls hl => ?_)
        refine lv_aload_n hx hb eX0_measure_60 rfl (lv_at hl 1 rfl) ?_
        refine va_get (D := (dC, dI)) (ci := 0) (v := .ref q9) (C := RX0) (T := TX0) (N := 17) hx hb hts hiX0 hown hK hP 0 rfl rfl 9 (by decide) v_9 (fun _ h9 => h9) rfl eX0_measure_61 ?_
        refine lv_iload_n hx hb eX0_measure_64 rfl (lv_at hl 0 rfl) ?_
        refine va_iald hx hb hK hP 6 5 rfl rfl (vp_in_nI (n := (g_23 * 4 + g_38)) (by omega) (Nat.le_of_ble_eq_true rfl)) eX0_measure_65 ?_
        refine lv_topi (fun y_49 ey_49 => ?_)
        obtain ⟨u_50, hu_50, qu_50, xu_50⟩ := bN_getx 2 q_f9 (n := (g_23 * 4 + g_38)) (by first | omega | exact Nat.lt_trans (zx16 (by omega) (by omega) (by omega)) (Nat.le_of_ble_eq_true rfl) | exact Nat.lt_trans (zy16 (by omega) (by omega)) (Nat.le_of_ble_eq_true rfl) | exact Nat.lt_trans (zx25 (by omega) (by omega) (by omega)) (Nat.le_of_ble_eq_true rfl) | exact Nat.lt_trans (zy25 (by omega) (by omega)) (Nat.le_of_ble_eq_true rfl))
        obtain rfl : y_49 = nI u_50 := ey_49.trans qu_50
        have hsp := hsp.trans (slet_eq xu_50)
        refine lv_iconst (v := 1) hx hb eX0_measure_66 (by decide) ?_
        refine lv_iadd hx hb eX0_measure_67 ?_
        refine lv_topi (fun y_51 ey_51 => ?_)
        obtain rfl : y_51 = (nI (u_50 + 1)) := ey_51.trans (nI_add u_50 1)
        refine lv_istore (lv' := [(4, .int (nI (u_50 + 1))), (3, .int (nI (g_23 * 4 + g_38))), (0, .ref au), (1, .int (nI g_23)), (2, .int (nI g_38))]) hx hb eX0_measure_68 hl (by decide) rfl (fun ls hl => ?_)
        refine lv_aload_n hx hb eX0_measure_70 rfl (lv_at hl 2 rfl) ?_
        refine va_get (D := (dC, dI)) (ci := 0) (v := .ref q14) (C := RX0) (T := TX0) (N := 17) hx hb hts hiX0 hown hK hP 0 rfl rfl 14 (by decide) v_1 (fun _ h9 => h9) rfl eX0_measure_71 ?_
        refine lv_iload hx hb eX0_measure_74 (lv_at hl 0 rfl) ?_
        refine lv_aload_n hx hb eX0_measure_76 rfl (lv_at hl 2 rfl) ?_
        refine va_get (D := (dC, dI)) (ci := 0) (v := .ref q14) (C := RX0) (T := TX0) (N := 17) hx hb hts hiX0 hown hK hP 0 rfl rfl 14 (by decide) v_1 (fun _ h9 => h9) rfl eX0_measure_77 ?_
        refine lv_iload hx hb eX0_measure_80 (lv_at hl 0 rfl) ?_
        refine va_iald hx hb hK hP 11 10 rfl rfl (vp_in_nI (n := (u_50 + 1)) (by omega) (Nat.le_of_ble_eq_true rfl)) eX0_measure_82 ?_
        refine lv_topi (fun y_52 ey_52 => ?_)
        have ey_52 : y_52 = g_35 (u_50 + 1) := ey_52.trans (congrArg g_35 (nI_clamp (n := (u_50 + 1)) (by omega)))
        have hsp := hsp.trans (slet_eq ey_52)
        refine lv_aload_n hx hb eX0_measure_83 rfl (lv_at hl 2 rfl) ?_
        refine va_get (D := (dC, dI)) (ci := 0) (v := .ref q11) (C := RX0) (T := TX0) (N := 17) hx hb hts hiX0 hown hK hP 0 rfl rfl 11 (by decide) v_10 (fun _ h9 => h9) rfl eX0_measure_84 ?_
        refine lv_iload_n hx hb eX0_measure_87 rfl (lv_at hl 1 rfl) ?_
        refine va_iald hx hb hK hP 8 7 rfl rfl (vp_in_nI (n := (g_23 * 4 + g_38)) (by omega) (Nat.le_of_ble_eq_true rfl)) eX0_measure_88 ?_
        refine lv_topi (fun y_53 ey_53 => ?_)
        have ey_53 : y_53 = f11 (g_23 * 4 + g_38) := ey_53.trans (congrArg f11 (nI_clamp (n := (g_23 * 4 + g_38)) (by first | omega | exact Nat.lt_trans (zx16 (by omega) (by omega) (by omega)) (Nat.le_of_ble_eq_true rfl) | exact Nat.lt_trans (zy16 (by omega) (by omega)) (Nat.le_of_ble_eq_true rfl) | exact Nat.lt_trans (zx25 (by omega) (by omega) (by omega)) (Nat.le_of_ble_eq_true rfl) | exact Nat.lt_trans (zy25 (by omega) (by omega)) (Nat.le_of_ble_eq_true rfl))))
        have hsp := hsp.trans (slet_eq ey_53)
        refine va_mmax hx hb (hml.trans hl.1.symm) hown v_11 v_12 v_13 v_14 (Nat.le_of_ble_eq_true rfl) (Nat.le_of_ble_eq_true rfl) (Nat.le_of_ble_eq_true rfl) (Nat.le_of_ble_eq_true rfl) eX0_measure_89 ?_
        refine lv_topi (fun y_54 ey_54 => ?_)
        have hsp := hsp.trans (slet_eq ey_54)
        refine va_iast hx hb hK hP hD hS 11 10 rfl rfl (vp_in_nI (n := (u_50 + 1)) (by omega) (Nat.le_of_ble_eq_true rfl)) eX0_measure_92 (fun H locs hP hD hS => ?_)
        obtain ⟨f_55, ef_55, xf_55⟩ := up_x g_35 (n := (u_50 + 1)) y_54 (by omega)
        have hP : va_P (dC, dI) vwCl (au__w au (nI nc) (nI np) (nI ne) st0 q4 q5 q6 q7 q8 q9 q10 q11 q12 q13 q14 q15 q16 k_f4 f4 k_f5 (bN 7 q_f5) k_f6 (bN 7 q_f6) k_f7 f7 k_f8 (bN 4 q_f8) k_f9 (bN 2 q_f9) k_f10 f10 k_f11 f11 k_f12 f12 k_f13 f13 k_f14 f_55 k_f15 g_36 k_f16 g_37) H := by rw [← ef_55]; exact hP
        have hD : va_D A (au__w au (nI nc) (nI np) (nI ne) st0 q4 q5 q6 q7 q8 q9 q10 q11 q12 q13 q14 q15 q16 k_f4 f4 k_f5 (bN 7 q_f5) k_f6 (bN 7 q_f6) k_f7 f7 k_f8 (bN 4 q_f8) k_f9 (bN 2 q_f9) k_f10 f10 k_f11 f11 k_f12 f12 k_f13 f13 k_f14 f_55 k_f15 g_36 k_f16 g_37) := by rw [← ef_55]; exact hD
        have hsp := hsp.trans (slet_eq xf_55)
        refine lv_aload_n hx hb eX0_measure_93 rfl (lv_at hl 2 rfl) ?_
        refine va_get (D := (dC, dI)) (ci := 0) (v := .ref q10) (C := RX0) (T := TX0) (N := 17) hx hb hts hiX0 hown hK hP 0 rfl rfl 10 (by decide) v_15 (fun _ h9 => h9) rfl eX0_measure_94 ?_
        refine lv_iload_n hx hb eX0_measure_97 rfl (lv_at hl 1 rfl) ?_
        refine va_iald hx hb hK hP 7 6 rfl rfl (vp_in_nI (n := (g_23 * 4 + g_38)) (by omega) (Nat.le_of_ble_eq_true rfl)) eX0_measure_98 ?_
        refine lv_topi (fun y_56 ey_56 => ?_)
        have ey_56 : y_56 = f10 (g_23 * 4 + g_38) := ey_56.trans (congrArg f10 (nI_clamp (n := (g_23 * 4 + g_38)) (by first | omega | exact Nat.lt_trans (zx16 (by omega) (by omega) (by omega)) (Nat.le_of_ble_eq_true rfl) | exact Nat.lt_trans (zy16 (by omega) (by omega)) (Nat.le_of_ble_eq_true rfl) | exact Nat.lt_trans (zx25 (by omega) (by omega) (by omega)) (Nat.le_of_ble_eq_true rfl) | exact Nat.lt_trans (zy25 (by omega) (by omega)) (Nat.le_of_ble_eq_true rfl))))
        have hsp := hsp.trans (slet_eq ey_56)
        refine lv_iconst (v := 2) hx hb eX0_measure_99 (by decide) ?_
        obtain ⟨JR_59, hJR_59, hsp⟩ := slet_ex hsp
        refine pu_join (fun H locs ls st => ∃ (g_57 : Nat → Int32), st = [] ∧ g_57 = JR_59 ∧ va_P (dC, dI) vwCl (au__w au (nI nc) (nI np) (nI ne) st0 q4 q5 q6 q7 q8 q9 q10 q11 q12 q13 q14 q15 q16 k_f4 f4 k_f5 (bN 7 q_f5) k_f6 (bN 7 q_f6) k_f7 f7 k_f8 (bN 4 q_f8) k_f9 (bN 2 q_f9) k_f10 f10 k_f11 f11 k_f12 f12 k_f13 f13 k_f14 f_55 k_f15 g_57 k_f16 g_37) H ∧ va_D A (au__w au (nI nc) (nI np) (nI ne) st0 q4 q5 q6 q7 q8 q9 q10 q11 q12 q13 q14 q15 q16 k_f4 f4 k_f5 (bN 7 q_f5) k_f6 (bN 7 q_f6) k_f7 f7 k_f8 (bN 4 q_f8) k_f9 (bN 2 q_f9) k_f10 f10 k_f11 f11 k_f12 f12 k_f13 f13 k_f14 f_55 k_f15 g_57 k_f16 g_37) ∧ va_S A s.heap H locs ∧ lv_has ls 5 [(0, .ref au), (1, .int (nI g_23)), (2, .int (nI g_38)), (3, .int (nI (g_23 * 4 + g_38))), (4, .int (nI (u_50 + 1)))]) 126 ?_ (fun j_58 => ?_)
        · rintro H locs ls st ⟨g_57, rfl, he_60, hP, hD, hS, hl⟩
          rw [← he_60] at hsp
          refine lv_aload_n hx hb eX0_measure_126 rfl (lv_at hl 0 rfl) ?_
          refine va_get (D := (dC, dI)) (ci := 0) (v := .ref q10) (C := RX0) (T := TX0) (N := 17) hx hb hts hiX0 hown hK hP 0 rfl rfl 10 (by decide) v_15 (fun _ h9 => h9) rfl eX0_measure_127 ?_
          refine lv_iload_n hx hb eX0_measure_130 rfl (lv_at hl 3 rfl) ?_
          refine va_iald hx hb hK hP 7 6 rfl rfl (vp_in_nI (n := (g_23 * 4 + g_38)) (by omega) (Nat.le_of_ble_eq_true rfl)) eX0_measure_131 ?_
          refine lv_topi (fun y_61 ey_61 => ?_)
          have ey_61 : y_61 = f10 (g_23 * 4 + g_38) := ey_61.trans (congrArg f10 (nI_clamp (n := (g_23 * 4 + g_38)) (by first | omega | exact Nat.lt_trans (zx16 (by omega) (by omega) (by omega)) (Nat.le_of_ble_eq_true rfl) | exact Nat.lt_trans (zy16 (by omega) (by omega)) (Nat.le_of_ble_eq_true rfl) | exact Nat.lt_trans (zx25 (by omega) (by omega) (by omega)) (Nat.le_of_ble_eq_true rfl) | exact Nat.lt_trans (zy25 (by omega) (by omega)) (Nat.le_of_ble_eq_true rfl))))
          have hsp := hsp.trans (slet_eq ey_61)
          refine lv_iconst (v := 2) hx hb eX0_measure_132 (by decide) ?_
          obtain ⟨JR_64, hJR_64, hsp⟩ := slet_ex hsp
          refine pu_join (fun H locs ls st => ∃ (g_62 : Nat → Int32), st = [] ∧ g_62 = JR_64 ∧ va_P (dC, dI) vwCl (au__w au (nI nc) (nI np) (nI ne) st0 q4 q5 q6 q7 q8 q9 q10 q11 q12 q13 q14 q15 q16 k_f4 f4 k_f5 (bN 7 q_f5) k_f6 (bN 7 q_f6) k_f7 f7 k_f8 (bN 4 q_f8) k_f9 (bN 2 q_f9) k_f10 f10 k_f11 f11 k_f12 f12 k_f13 f13 k_f14 f_55 k_f15 g_57 k_f16 g_62) H ∧ va_D A (au__w au (nI nc) (nI np) (nI ne) st0 q4 q5 q6 q7 q8 q9 q10 q11 q12 q13 q14 q15 q16 k_f4 f4 k_f5 (bN 7 q_f5) k_f6 (bN 7 q_f6) k_f7 f7 k_f8 (bN 4 q_f8) k_f9 (bN 2 q_f9) k_f10 f10 k_f11 f11 k_f12 f12 k_f13 f13 k_f14 f_55 k_f15 g_57 k_f16 g_62) ∧ va_S A s.heap H locs ∧ lv_has ls 5 [(0, .ref au), (1, .int (nI g_23)), (2, .int (nI g_38)), (3, .int (nI (g_23 * 4 + g_38))), (4, .int (nI (u_50 + 1)))]) 159 ?_ (fun j_63 => ?_)
          · rintro H locs ls st ⟨g_62, rfl, he_65, hP, hD, hS, hl⟩
            rw [← he_65] at hsp
            refine lv_iinc (v := (nI (g_38 + 1))) (lv' := [(2, .int (nI (g_38 + 1))), (0, .ref au), (1, .int (nI g_23)), (3, .int (nI (g_23 * 4 + g_38))), (4, .int (nI (u_50 + 1)))]) hx hb eX0_measure_159 hl (k := 2) rfl (nI_1 _) (by decide) rfl (fun ls hl => ?_)
            refine lv_goto (tgt := 44) hx hb eX0_measure_162 (by decide) ?_
            exact ih_39 (4 - (g_38 + 1)) (by omega) _ _ _ ⟨f_55, g_57, g_62, (g_38 + 1), rfl, (by omega), hin_43 _ hsp, hP, hD, hS, lv_sub hl [1, 2, 0] rfl⟩
          have hsp := hJR_64
          refine lv_icmp_gt (tgt := 159) hx hb eX0_measure_133 (by decide) (fun c_66 => ?_) (fun c_66 => ?_)
          · have hcc_66 := c_66
            have hsp := hsp.trans (if_pos c_66)
            exact j_63 _ _ _ _ ⟨g_37, rfl, hsp.symm, hP, hD, hS, lv_sub hl [0, 1, 2, 3, 4] rfl⟩
          · have hcc_66 := c_66
            have hsp := hsp.trans (if_neg c_66)
            refine lv_aload_n hx hb eX0_measure_136 rfl (lv_at hl 0 rfl) ?_
            refine va_get (D := (dC, dI)) (ci := 0) (v := .ref q16) (C := RX0) (T := TX0) (N := 17) hx hb hts hiX0 hown hK hP 0 rfl rfl 16 (by decide) v_3 (fun _ h9 => h9) rfl eX0_measure_137 ?_
            refine lv_iload hx hb eX0_measure_140 (lv_at hl 4 rfl) ?_
            refine lv_aload_n hx hb eX0_measure_142 rfl (lv_at hl 0 rfl) ?_
            refine va_get (D := (dC, dI)) (ci := 0) (v := .ref q16) (C := RX0) (T := TX0) (N := 17) hx hb hts hiX0 hown hK hP 0 rfl rfl 16 (by decide) v_3 (fun _ h9 => h9) rfl eX0_measure_143 ?_
            refine lv_iload hx hb eX0_measure_146 (lv_at hl 4 rfl) ?_
            refine va_iald hx hb hK hP 13 12 rfl rfl (vp_in_nI (n := (u_50 + 1)) (by omega) (Nat.le_of_ble_eq_true rfl)) eX0_measure_148 ?_
            refine lv_topi (fun y_67 ey_67 => ?_)
            have ey_67 : y_67 = g_37 (u_50 + 1) := ey_67.trans (congrArg g_37 (nI_clamp (n := (u_50 + 1)) (by omega)))
            have hsp := hsp.trans (slet_eq ey_67)
            refine lv_aload_n hx hb eX0_measure_149 rfl (lv_at hl 0 rfl) ?_
            refine va_get (D := (dC, dI)) (ci := 0) (v := .ref q11) (C := RX0) (T := TX0) (N := 17) hx hb hts hiX0 hown hK hP 0 rfl rfl 11 (by decide) v_10 (fun _ h9 => h9) rfl eX0_measure_150 ?_
            refine lv_iload_n hx hb eX0_measure_153 rfl (lv_at hl 3 rfl) ?_
            refine va_iald hx hb hK hP 8 7 rfl rfl (vp_in_nI (n := (g_23 * 4 + g_38)) (by omega) (Nat.le_of_ble_eq_true rfl)) eX0_measure_154 ?_
            refine lv_topi (fun y_68 ey_68 => ?_)
            have ey_68 : y_68 = f11 (g_23 * 4 + g_38) := ey_68.trans (congrArg f11 (nI_clamp (n := (g_23 * 4 + g_38)) (by first | omega | exact Nat.lt_trans (zx16 (by omega) (by omega) (by omega)) (Nat.le_of_ble_eq_true rfl) | exact Nat.lt_trans (zy16 (by omega) (by omega)) (Nat.le_of_ble_eq_true rfl) | exact Nat.lt_trans (zx25 (by omega) (by omega) (by omega)) (Nat.le_of_ble_eq_true rfl) | exact Nat.lt_trans (zy25 (by omega) (by omega)) (Nat.le_of_ble_eq_true rfl))))
            have hsp := hsp.trans (slet_eq ey_68)
            refine va_mmax hx hb (hml.trans hl.1.symm) hown v_11 v_12 v_13 v_14 (Nat.le_of_ble_eq_true rfl) (Nat.le_of_ble_eq_true rfl) (Nat.le_of_ble_eq_true rfl) (Nat.le_of_ble_eq_true rfl) eX0_measure_155 ?_
            refine lv_topi (fun y_69 ey_69 => ?_)
            have hsp := hsp.trans (slet_eq ey_69)
            refine va_iast hx hb hK hP hD hS 13 12 rfl rfl (vp_in_nI (n := (u_50 + 1)) (by omega) (Nat.le_of_ble_eq_true rfl)) eX0_measure_158 (fun H locs hP hD hS => ?_)
            obtain ⟨f_70, ef_70, xf_70⟩ := up_x g_37 (n := (u_50 + 1)) y_69 (by omega)
            have hP : va_P (dC, dI) vwCl (au__w au (nI nc) (nI np) (nI ne) st0 q4 q5 q6 q7 q8 q9 q10 q11 q12 q13 q14 q15 q16 k_f4 f4 k_f5 (bN 7 q_f5) k_f6 (bN 7 q_f6) k_f7 f7 k_f8 (bN 4 q_f8) k_f9 (bN 2 q_f9) k_f10 f10 k_f11 f11 k_f12 f12 k_f13 f13 k_f14 f_55 k_f15 g_57 k_f16 f_70) H := by rw [← ef_70]; exact hP
            have hD : va_D A (au__w au (nI nc) (nI np) (nI ne) st0 q4 q5 q6 q7 q8 q9 q10 q11 q12 q13 q14 q15 q16 k_f4 f4 k_f5 (bN 7 q_f5) k_f6 (bN 7 q_f6) k_f7 f7 k_f8 (bN 4 q_f8) k_f9 (bN 2 q_f9) k_f10 f10 k_f11 f11 k_f12 f12 k_f13 f13 k_f14 f_55 k_f15 g_57 k_f16 f_70) := by rw [← ef_70]; exact hD
            have hsp := hsp.trans (slet_eq xf_70)
            exact j_63 _ _ _ _ ⟨f_70, rfl, hsp.symm, hP, hD, hS, lv_sub hl [0, 1, 2, 3, 4] rfl⟩
        have hsp := hJR_59
        refine lv_icmp_lt (tgt := 126) hx hb eX0_measure_100 (by decide) (fun c_71 => ?_) (fun c_71 => ?_)
        · have hcc_71 := c_71
          have hsp := hsp.trans (if_pos c_71)
          exact j_58 _ _ _ _ ⟨g_36, rfl, hsp.symm, hP, hD, hS, lv_sub hl [2, 3, 4, 1, 0] rfl⟩
        · have hcc_71 := c_71
          have hsp := hsp.trans (if_neg c_71)
          refine lv_aload_n hx hb eX0_measure_103 rfl (lv_at hl 2 rfl) ?_
          refine va_get (D := (dC, dI)) (ci := 0) (v := .ref q15) (C := RX0) (T := TX0) (N := 17) hx hb hts hiX0 hown hK hP 0 rfl rfl 15 (by decide) v_2 (fun _ h9 => h9) rfl eX0_measure_104 ?_
          refine lv_iload hx hb eX0_measure_107 (lv_at hl 0 rfl) ?_
          refine lv_aload_n hx hb eX0_measure_109 rfl (lv_at hl 2 rfl) ?_
          refine va_get (D := (dC, dI)) (ci := 0) (v := .ref q15) (C := RX0) (T := TX0) (N := 17) hx hb hts hiX0 hown hK hP 0 rfl rfl 15 (by decide) v_2 (fun _ h9 => h9) rfl eX0_measure_110 ?_
          refine lv_iload hx hb eX0_measure_113 (lv_at hl 0 rfl) ?_
          refine va_iald hx hb hK hP 12 11 rfl rfl (vp_in_nI (n := (u_50 + 1)) (by omega) (Nat.le_of_ble_eq_true rfl)) eX0_measure_115 ?_
          refine lv_topi (fun y_72 ey_72 => ?_)
          have ey_72 : y_72 = g_36 (u_50 + 1) := ey_72.trans (congrArg g_36 (nI_clamp (n := (u_50 + 1)) (by omega)))
          have hsp := hsp.trans (slet_eq ey_72)
          refine lv_aload_n hx hb eX0_measure_116 rfl (lv_at hl 2 rfl) ?_
          refine va_get (D := (dC, dI)) (ci := 0) (v := .ref q11) (C := RX0) (T := TX0) (N := 17) hx hb hts hiX0 hown hK hP 0 rfl rfl 11 (by decide) v_10 (fun _ h9 => h9) rfl eX0_measure_117 ?_
          refine lv_iload_n hx hb eX0_measure_120 rfl (lv_at hl 1 rfl) ?_
          refine va_iald hx hb hK hP 8 7 rfl rfl (vp_in_nI (n := (g_23 * 4 + g_38)) (by omega) (Nat.le_of_ble_eq_true rfl)) eX0_measure_121 ?_
          refine lv_topi (fun y_73 ey_73 => ?_)
          have ey_73 : y_73 = f11 (g_23 * 4 + g_38) := ey_73.trans (congrArg f11 (nI_clamp (n := (g_23 * 4 + g_38)) (by first | omega | exact Nat.lt_trans (zx16 (by omega) (by omega) (by omega)) (Nat.le_of_ble_eq_true rfl) | exact Nat.lt_trans (zy16 (by omega) (by omega)) (Nat.le_of_ble_eq_true rfl) | exact Nat.lt_trans (zx25 (by omega) (by omega) (by omega)) (Nat.le_of_ble_eq_true rfl) | exact Nat.lt_trans (zy25 (by omega) (by omega)) (Nat.le_of_ble_eq_true rfl))))
          have hsp := hsp.trans (slet_eq ey_73)
          refine va_mmax hx hb (hml.trans hl.1.symm) hown v_11 v_12 v_13 v_14 (Nat.le_of_ble_eq_true rfl) (Nat.le_of_ble_eq_true rfl) (Nat.le_of_ble_eq_true rfl) (Nat.le_of_ble_eq_true rfl) eX0_measure_122 ?_
          refine lv_topi (fun y_74 ey_74 => ?_)
          have hsp := hsp.trans (slet_eq ey_74)
          refine va_iast hx hb hK hP hD hS 12 11 rfl rfl (vp_in_nI (n := (u_50 + 1)) (by omega) (Nat.le_of_ble_eq_true rfl)) eX0_measure_125 (fun H locs hP hD hS => ?_)
          obtain ⟨f_75, ef_75, xf_75⟩ := up_x g_36 (n := (u_50 + 1)) y_74 (by omega)
          have hP : va_P (dC, dI) vwCl (au__w au (nI nc) (nI np) (nI ne) st0 q4 q5 q6 q7 q8 q9 q10 q11 q12 q13 q14 q15 q16 k_f4 f4 k_f5 (bN 7 q_f5) k_f6 (bN 7 q_f6) k_f7 f7 k_f8 (bN 4 q_f8) k_f9 (bN 2 q_f9) k_f10 f10 k_f11 f11 k_f12 f12 k_f13 f13 k_f14 f_55 k_f15 f_75 k_f16 g_37) H := by rw [← ef_75]; exact hP
          have hD : va_D A (au__w au (nI nc) (nI np) (nI ne) st0 q4 q5 q6 q7 q8 q9 q10 q11 q12 q13 q14 q15 q16 k_f4 f4 k_f5 (bN 7 q_f5) k_f6 (bN 7 q_f6) k_f7 f7 k_f8 (bN 4 q_f8) k_f9 (bN 2 q_f9) k_f10 f10 k_f11 f11 k_f12 f12 k_f13 f13 k_f14 f_55 k_f15 f_75 k_f16 g_37) := by rw [← ef_75]; exact hD
          have hsp := hsp.trans (slet_eq xf_75)
          exact j_58 _ _ _ _ ⟨f_75, rfl, hsp.symm, hP, hD, hS, lv_sub hl [2, 3, 4, 1, 0] rfl⟩
  · have c_15 : ¬ 3 < g_8 := fun z => c_15 ((nI_ltI (a := 3) (b := g_8) (Nat.le_of_ble_eq_true rfl) (Nat.lt_of_le_of_lt hg_8 (Nat.le_of_ble_eq_true rfl))).mpr z)
    have hsp := hsp.trans (if_neg c_15)
    refine lv_aload_n hx hb eX0_measure_7 rfl (lv_at hl 0 rfl) ?_
    refine va_get (D := (dC, dI)) (ci := 0) (v := .ref q14) (C := RX0) (T := TX0) (N := 17) hx hb hts hiX0 hown hK hP 0 rfl rfl 14 (by decide) v_1 (fun _ h9 => h9) rfl eX0_measure_8 ?_
    refine lv_iload_n hx hb eX0_measure_11 rfl (lv_at hl 1 rfl) ?_
    refine lv_iconst (v := 0) hx hb eX0_measure_12 (by decide) ?_
    refine va_iast hx hb hK hP hD hS 11 10 rfl rfl (vp_in_nI (n := g_8) (by omega) (Nat.le_of_ble_eq_true rfl)) eX0_measure_13 (fun H locs hP hD hS => ?_)
    obtain ⟨f_76, ef_76, xf_76⟩ := up_x g_5 (n := g_8) 0 (Nat.lt_of_le_of_lt hg_8 (Nat.le_of_ble_eq_true rfl))
    have hP : va_P (dC, dI) vwCl (au__w au (nI nc) (nI np) (nI ne) st0 q4 q5 q6 q7 q8 q9 q10 q11 q12 q13 q14 q15 q16 k_f4 f4 k_f5 (bN 7 q_f5) k_f6 (bN 7 q_f6) k_f7 f7 k_f8 (bN 4 q_f8) k_f9 (bN 2 q_f9) k_f10 f10 k_f11 f11 k_f12 f12 k_f13 f13 k_f14 f_76 k_f15 g_6 k_f16 g_7) H := by rw [← ef_76]; exact hP
    have hD : va_D A (au__w au (nI nc) (nI np) (nI ne) st0 q4 q5 q6 q7 q8 q9 q10 q11 q12 q13 q14 q15 q16 k_f4 f4 k_f5 (bN 7 q_f5) k_f6 (bN 7 q_f6) k_f7 f7 k_f8 (bN 4 q_f8) k_f9 (bN 2 q_f9) k_f10 f10 k_f11 f11 k_f12 f12 k_f13 f13 k_f14 f_76 k_f15 g_6 k_f16 g_7) := by rw [← ef_76]; exact hD
    have hsp := hsp.trans (slet_eq xf_76)
    refine lv_aload_n hx hb eX0_measure_14 rfl (lv_at hl 0 rfl) ?_
    refine va_get (D := (dC, dI)) (ci := 0) (v := .ref q15) (C := RX0) (T := TX0) (N := 17) hx hb hts hiX0 hown hK hP 0 rfl rfl 15 (by decide) v_2 (fun _ h9 => h9) rfl eX0_measure_15 ?_
    refine lv_iload_n hx hb eX0_measure_18 rfl (lv_at hl 1 rfl) ?_
    refine lv_iconst (v := 0) hx hb eX0_measure_19 (by decide) ?_
    refine va_iast hx hb hK hP hD hS 12 11 rfl rfl (vp_in_nI (n := g_8) (by omega) (Nat.le_of_ble_eq_true rfl)) eX0_measure_20 (fun H locs hP hD hS => ?_)
    obtain ⟨f_77, ef_77, xf_77⟩ := up_x g_6 (n := g_8) 0 (Nat.lt_of_le_of_lt hg_8 (Nat.le_of_ble_eq_true rfl))
    have hP : va_P (dC, dI) vwCl (au__w au (nI nc) (nI np) (nI ne) st0 q4 q5 q6 q7 q8 q9 q10 q11 q12 q13 q14 q15 q16 k_f4 f4 k_f5 (bN 7 q_f5) k_f6 (bN 7 q_f6) k_f7 f7 k_f8 (bN 4 q_f8) k_f9 (bN 2 q_f9) k_f10 f10 k_f11 f11 k_f12 f12 k_f13 f13 k_f14 f_76 k_f15 f_77 k_f16 g_7) H := by rw [← ef_77]; exact hP
    have hD : va_D A (au__w au (nI nc) (nI np) (nI ne) st0 q4 q5 q6 q7 q8 q9 q10 q11 q12 q13 q14 q15 q16 k_f4 f4 k_f5 (bN 7 q_f5) k_f6 (bN 7 q_f6) k_f7 f7 k_f8 (bN 4 q_f8) k_f9 (bN 2 q_f9) k_f10 f10 k_f11 f11 k_f12 f12 k_f13 f13 k_f14 f_76 k_f15 f_77 k_f16 g_7) := by rw [← ef_77]; exact hD
    have hsp := hsp.trans (slet_eq xf_77)
    refine lv_aload_n hx hb eX0_measure_21 rfl (lv_at hl 0 rfl) ?_
    refine va_get (D := (dC, dI)) (ci := 0) (v := .ref q16) (C := RX0) (T := TX0) (N := 17) hx hb hts hiX0 hown hK hP 0 rfl rfl 16 (by decide) v_3 (fun _ h9 => h9) rfl eX0_measure_22 ?_
    refine lv_iload_n hx hb eX0_measure_25 rfl (lv_at hl 1 rfl) ?_
    refine lv_iconst (v := 0) hx hb eX0_measure_26 (by decide) ?_
    refine va_iast hx hb hK hP hD hS 13 12 rfl rfl (vp_in_nI (n := g_8) (by omega) (Nat.le_of_ble_eq_true rfl)) eX0_measure_27 (fun H locs hP hD hS => ?_)
    obtain ⟨f_78, ef_78, xf_78⟩ := up_x g_7 (n := g_8) 0 (Nat.lt_of_le_of_lt hg_8 (Nat.le_of_ble_eq_true rfl))
    have hP : va_P (dC, dI) vwCl (au__w au (nI nc) (nI np) (nI ne) st0 q4 q5 q6 q7 q8 q9 q10 q11 q12 q13 q14 q15 q16 k_f4 f4 k_f5 (bN 7 q_f5) k_f6 (bN 7 q_f6) k_f7 f7 k_f8 (bN 4 q_f8) k_f9 (bN 2 q_f9) k_f10 f10 k_f11 f11 k_f12 f12 k_f13 f13 k_f14 f_76 k_f15 f_77 k_f16 f_78) H := by rw [← ef_78]; exact hP
    have hD : va_D A (au__w au (nI nc) (nI np) (nI ne) st0 q4 q5 q6 q7 q8 q9 q10 q11 q12 q13 q14 q15 q16 k_f4 f4 k_f5 (bN 7 q_f5) k_f6 (bN 7 q_f6) k_f7 f7 k_f8 (bN 4 q_f8) k_f9 (bN 2 q_f9) k_f10 f10 k_f11 f11 k_f12 f12 k_f13 f13 k_f14 f_76 k_f15 f_77 k_f16 f_78) := by rw [← ef_78]; exact hD
    have hsp := hsp.trans (slet_eq xf_78)
    refine lv_iinc (v := (nI (g_8 + 1))) (lv' := [(1, .int (nI (g_8 + 1))), (0, .ref au)]) hx hb eX0_measure_28 hl (k := 1) rfl (nI_1 _) (by decide) rfl (fun ls hl => ?_)
    refine lv_goto (tgt := 2) hx hb eX0_measure_31 (by decide) ?_
    exact ih_9 (4 - (g_8 + 1)) (by omega) _ _ _ ⟨f_76, f_77, f_78, (g_8 + 1), rfl, (by omega), hin_13 _ hsp, hP, hD, hS, lv_sub hl [1, 0] rfl⟩
theorem eX0_setNumber_0 : decode cX0_setNumber 0 = .ok (.aload_n 0, 1) := by decide +kernel
theorem eX0_setNumber_1 : decode cX0_setNumber 1 = .ok (.getfield 38, 3) := by decide +kernel
theorem eX0_setNumber_4 : decode cX0_setNumber 4 = .ok (.iload_n 1, 1) := by decide +kernel
theorem eX0_setNumber_5 : decode cX0_setNumber 5 = .ok (.iload_n 2, 1) := by decide +kernel
theorem eX0_setNumber_6 : decode cX0_setNumber 6 = .ok (.iastore, 1) := by decide +kernel
theorem eX0_setNumber_7 : decode cX0_setNumber 7 = .ok (.aload_n 0, 1) := by decide +kernel
theorem eX0_setNumber_8 : decode cX0_setNumber 8 = .ok (.iload_n 1, 1) := by decide +kernel
theorem eX0_setNumber_9 : decode cX0_setNumber 9 = .ok (.invokevirtual 69, 3) := by decide +kernel
theorem eX0_setNumber_12 : decode cX0_setNumber 12 = .ok (.aload_n 0, 1) := by decide +kernel
theorem eX0_setNumber_13 : decode cX0_setNumber 13 = .ok (.invokevirtual 76, 3) := by decide +kernel
theorem eX0_setNumber_16 : decode cX0_setNumber 16 = .ok (.return_, 1) := by decide +kernel
abbrev vs_E_0_setNumber : List Cond := .code yX0_setNumber cX0_setNumber 3 none :: CM
theorem g_E_0_setNumber_E_0_setBounds : GoodIn vs_E_0_setNumber (wsV RX0 69 RX0 yX0_setBounds vs_E_0_setBounds) := cm_gV cm_20 cm_21 cm_22 cm_19 cm_23
theorem g_E_0_setNumber_E_0_measure : GoodIn vs_E_0_setNumber (wsV RX0 76 RX0 yX0_measure vs_E_0_measure) := cm_gV cm_28 cm_29 cm_30 cm_19 cm_31
noncomputable def sp_E_0_setNumber (q_f8 : Nat → Nat) (q_f9 : Nat → Nat) (f10 : Nat → Int32) (f11 : Nat → Int32) (f12 : Nat → Int32) (f13 : Nat → Int32) (f14 : Nat → Int32) (f15 : Nat → Int32) (f16 : Nat → Int32) (a0 : Nat) (p1 : Int32) : (Nat → Int32) × (Nat → Int32) × (Nat → Int32) × (Nat → Int32) × (Nat → Int32) × (Nat → Int32) := (slet (upd f11 a0 p1) (fun f_1 => (slet (sp_E_0_setBounds f10 f_1 f12 f13 a0) (fun (z_f13_3, z_f12_4) => (slet (sp_E_0_measure q_f8 q_f9 f10 f_1 f14 f15 f16) (fun (z_f14_6, z_f15_7, z_f16_8) => (z_f13_3, z_f14_6, z_f15_7, z_f16_8, f_1, z_f12_4)))))))
set_option maxHeartbeats 4000000 in
set_option maxRecDepth 100000 in
theorem c_E_0_setNumber (l : Launch) (dC : Nat → ClassId) (dI : Nat → Nat → Nat) (sz : Nat) (au : Nat) (nc : Nat) (np : Nat) (ne : Nat) (st0 : Int32) (q4 : Nat) (q5 : Nat) (q6 : Nat) (q7 : Nat) (q8 : Nat) (q9 : Nat) (q10 : Nat) (q11 : Nat) (q12 : Nat) (q13 : Nat) (q14 : Nat) (q15 : Nat) (q16 : Nat) (k_f4 : ClassId) (f4 : Nat → Int32) (k_f5 : ClassId) (q_f5 : Nat → Nat) (k_f6 : ClassId) (q_f6 : Nat → Nat) (k_f7 : ClassId) (f7 : Nat → Int32) (k_f8 : ClassId) (q_f8 : Nat → Nat) (k_f9 : ClassId) (q_f9 : Nat → Nat) (k_f10 : ClassId) (f10 : Nat → Int32) (k_f11 : ClassId) (f11 : Nat → Int32) (k_f12 : ClassId) (f12 : Nat → Int32) (k_f13 : ClassId) (f13 : Nat → Int32) (k_f14 : ClassId) (f14 : Nat → Int32) (k_f15 : ClassId) (f15 : Nat → Int32) (k_f16 : ClassId) (f16 : Nat → Int32) (a0 : Nat) (p1 : Int32) (hnc : nc ≤ 3) (hnp : np ≤ 8) (hne : ne ≤ 14) (hst0 : pm1 7 st0) (ha0 : a0 ≤ 87) : Met l yX0_setNumber vs_E_0_setNumber ({ frames := 2, cells := 0, slots := 0, locals := 45 }) (va_Pc [.ref au, .int (nI a0), .int p1] (pu_B (dC, dI) (au__w au (nI nc) (nI np) (nI ne) st0 q4 q5 q6 q7 q8 q9 q10 q11 q12 q13 q14 q15 q16 k_f4 f4 k_f5 (bN 7 q_f5) k_f6 (bN 7 q_f6) k_f7 f7 k_f8 (bN 4 q_f8) k_f9 (bN 2 q_f9) k_f10 f10 k_f11 f11 k_f12 f12 k_f13 f13 k_f14 f14 k_f15 f15 k_f16 f16) (au__t k_f4 k_f5 k_f6 k_f7 k_f8 k_f9 k_f10 k_f11 k_f12 k_f13 k_f14 k_f15 k_f16) sz)) (va_Qv (fun (_ : Unit) => True) (fun _ t => ∃ (z_f13 : Nat → Int32) (z_f14 : Nat → Int32) (z_f15 : Nat → Int32) (z_f16 : Nat → Int32) (z_f11 : Nat → Int32) (z_f12 : Nat → Int32), pu_E (dC, dI) (au__w au (nI nc) (nI np) (nI ne) st0 q4 q5 q6 q7 q8 q9 q10 q11 q12 q13 q14 q15 q16 k_f4 f4 k_f5 (bN 7 q_f5) k_f6 (bN 7 q_f6) k_f7 f7 k_f8 (bN 4 q_f8) k_f9 (bN 2 q_f9) k_f10 f10 k_f11 z_f11 k_f12 z_f12 k_f13 z_f13 k_f14 z_f14 k_f15 z_f15 k_f16 z_f16) (au__t k_f4 k_f5 k_f6 k_f7 k_f8 k_f9 k_f10 k_f11 k_f12 k_f13 k_f14 k_f15 k_f16) (va_A ((au__w au (nI nc) (nI np) (nI ne) st0 q4 q5 q6 q7 q8 q9 q10 q11 q12 q13 q14 q15 q16 k_f4 f4 k_f5 (bN 7 q_f5) k_f6 (bN 7 q_f6) k_f7 f7 k_f8 (bN 4 q_f8) k_f9 (bN 2 q_f9) k_f10 f10 k_f11 f11 k_f12 f12 k_f13 f13 k_f14 f14 k_f15 f15 k_f16 f16)) sz) t ∧ ((z_f13, z_f14, z_f15, z_f16, z_f11, z_f12) = (sp_E_0_setNumber q_f8 q_f9 f10 f11 f12 f13 f14 f15 f16 a0 p1))) (va_A ((au__w au (nI nc) (nI np) (nI ne) st0 q4 q5 q6 q7 q8 q9 q10 q11 q12 q13 q14 q15 q16 k_f4 f4 k_f5 (bN 7 q_f5) k_f6 (bN 7 q_f6) k_f7 f7 k_f8 (bN 4 q_f8) k_f9 (bN 2 q_f9) k_f10 f10 k_f11 f11 k_f12 f12 k_f13 f13 k_f14 f14 k_f15 f15 k_f16 f16)) sz)) 0 0 (va_A ((au__w au (nI nc) (nI np) (nI ne) st0 q4 q5 q6 q7 q8 q9 q10 q11 q12 q13 q14 q15 q16 k_f4 f4 k_f5 (bN 7 q_f5) k_f6 (bN 7 q_f6) k_f7 f7 k_f8 (bN 4 q_f8) k_f9 (bN 2 q_f9) k_f10 f10 k_f11 f11 k_f12 f12 k_f13 f13 k_f14 f14 k_f15 f15 k_f16 f16)) sz) := by
  refine Met.ofW (cc := cX0_setNumber) (maxL := 3) (ret := none) (by decide) rfl ?_
  intro p e s m args below meth c s₁ B hml hv
  obtain ⟨rfl, rfl, hP, hK, hD0⟩ := hv
  have hx := B.exec
  have hb := B.bytes
  have hr := B.returns
  have hts := atoms_spec (ws := vs_E_0_setNumber) B.pre
  have v_1 := hts (.fieldLink RX0 38 "ClockReach$Automaton" "numbers" "[I") (List.mem_cons_of_mem _ cm_16)
  have hown : s.vm.findClass RX0 = some m.cls := findClass_of_methodNamed B.named
  have hlocks := B.notSynchronized
  have hiX0 : ∀ w ∈ wsX00, w ∈ vs_E_0_setNumber := fun _ h => List.mem_cons_of_mem _ (cm_X0 h)
  have hD := hD0.self (sz := s.heap.size)
  generalize hAe : va_A ((au__w au (nI nc) (nI np) (nI ne) st0 q4 q5 q6 q7 q8 q9 q10 q11 q12 q13 q14 q15 q16 k_f4 f4 k_f5 (bN 7 q_f5) k_f6 (bN 7 q_f6) k_f7 f7 k_f8 (bN 4 q_f8) k_f9 (bN 2 q_f9) k_f10 f10 k_f11 f11 k_f12 f12 k_f13 f13 k_f14 f14 k_f15 f15 k_f16 f16)) s.heap.size = A at hD ⊢
  have hA : ∀ q : Nat, s.heap.size ≤ q → A q := fun q h => by rw [← hAe]; exact Or.inr h
  have hS : va_S A s.heap s.heap [] := va_S.rf
  have hl := lv_entry ([.ref au, .int (nI a0), .int p1]) (n := 3) (Nat.le_of_ble_eq_true rfl)
  rw [lg_entry_eq]
  generalize (lg_sl ([.ref au, .int (nI a0), .int p1]) ++ List.replicate (3 - (lg_sl ([.ref au, .int (nI a0), .int p1])).length) Slot.unset).toArray = ls at hl ⊢
  have hl : lv_has ls 3 [(0, .ref au), (1, .int (nI a0)), (2, .int p1)] := hl
  obtain ⟨RR, hRR⟩ : ∃ x, x = (sp_E_0_setNumber q_f8 q_f9 f10 f11 f12 f13 f14 f15 f16 a0 p1) := ⟨_, rfl⟩
  have hsp := hRR
  refine lv_aload_n hx hb eX0_setNumber_0 rfl (lv_at hl 0 rfl) ?_
  refine va_get (D := (dC, dI)) (ci := 0) (v := .ref q11) (C := RX0) (T := TX0) (N := 17) hx hb hts hiX0 hown hK hP 0 rfl rfl 11 (by decide) v_1 (fun _ h9 => h9) rfl eX0_setNumber_1 ?_
  refine lv_iload_n hx hb eX0_setNumber_4 rfl (lv_at hl 1 rfl) ?_
  refine lv_iload_n hx hb eX0_setNumber_5 rfl (lv_at hl 2 rfl) ?_
  refine va_iast hx hb hK hP hD hS 8 7 rfl rfl (vp_in_nI (n := a0) (Nat.lt_of_le_of_lt ha0 (Nat.le_of_ble_eq_true rfl)) (Nat.le_of_ble_eq_true rfl)) eX0_setNumber_6 (fun H locs hP hD hS => ?_)
  obtain ⟨f_1, ef_1, xf_1⟩ := up_x f11 (n := a0) p1 (Nat.lt_of_le_of_lt ha0 (Nat.le_of_ble_eq_true rfl))
  have hP : va_P (dC, dI) vwCl (au__w au (nI nc) (nI np) (nI ne) st0 q4 q5 q6 q7 q8 q9 q10 q11 q12 q13 q14 q15 q16 k_f4 f4 k_f5 (bN 7 q_f5) k_f6 (bN 7 q_f6) k_f7 f7 k_f8 (bN 4 q_f8) k_f9 (bN 2 q_f9) k_f10 f10 k_f11 f_1 k_f12 f12 k_f13 f13 k_f14 f14 k_f15 f15 k_f16 f16) H := by rw [← ef_1]; exact hP
  have hD : va_D A (au__w au (nI nc) (nI np) (nI ne) st0 q4 q5 q6 q7 q8 q9 q10 q11 q12 q13 q14 q15 q16 k_f4 f4 k_f5 (bN 7 q_f5) k_f6 (bN 7 q_f6) k_f7 f7 k_f8 (bN 4 q_f8) k_f9 (bN 2 q_f9) k_f10 f10 k_f11 f_1 k_f12 f12 k_f13 f13 k_f14 f14 k_f15 f15 k_f16 f16) := by rw [← ef_1]; exact hD
  have hsp := hsp.trans (slet_eq xf_1)
  refine lv_aload_n hx hb eX0_setNumber_7 rfl (lv_at hl 0 rfl) ?_
  refine lv_iload_n hx hb eX0_setNumber_8 rfl (lv_at hl 1 rfl) ?_
  have hFc := pu_free hD hS hA
  refine va_callv (va_runV (As := [.int (nI a0)]) (rest := []) ⟨hx, hb, hml, hown, hts⟩ (c_E_0_setBounds l dC dI _ au nc np ne st0 q4 q5 q6 q7 q8 q9 q10 q11 q12 q13 q14 q15 q16 k_f4 f4 k_f5 q_f5 k_f6 q_f6 k_f7 f7 k_f8 q_f8 k_f9 q_f9 k_f10 f10 k_f11 f_1 k_f12 f12 k_f13 f13 k_f14 f14 k_f15 f15 k_f16 f16 a0 hnc hnp hne (hst0) ha0) (cwV 1 hts g_E_0_setNumber_E_0_setBounds rfl rfl rfl (by decide +kernel) ⟨Nat.le_of_ble_eq_true rfl, Nat.le_of_ble_eq_true rfl⟩) ⟨pu_bl, va_recv hK hP (ci := 0) (q0 := 0) rfl rfl, pu_in hP hK hD⟩ rfl rfl hl.1 rfl (lv_room (Nat.le_of_ble_eq_true rfl)) eX0_setNumber_9 ⟨Nat.le_of_ble_eq_true rfl, Nat.le_of_ble_eq_true rfl⟩) hS (fun q _ h => hFc q h) hFc (fun u t H1 locs ht hvm hw hB hz1 hk1 hS => ?_)
  obtain ⟨z_f13_3, z_f12_4, ⟨hP1, -, hD1⟩, xr_2_0⟩ := hB
  rw [ht] at hP1
  have hP := hP1
  have hD := pu_all hFc hD1
  clear hP1 hD1 hFc
  clear hk1 hz1 ht hvm
  generalize H1 = H at hP hS ⊢
  have hsp := hsp.trans (slet_eq xr_2_0)
  refine lv_aload_n hx hb eX0_setNumber_12 rfl (lv_at hl 0 rfl) ?_
  have hFc := pu_free hD hS hA
  refine va_callv (va_runV (As := []) (rest := []) ⟨hx, hb, hml, hown, hts⟩ (c_E_0_measure l dC dI _ au nc np ne st0 q4 q5 q6 q7 q8 q9 q10 q11 q12 q13 q14 q15 q16 k_f4 f4 k_f5 q_f5 k_f6 q_f6 k_f7 f7 k_f8 q_f8 k_f9 q_f9 k_f10 f10 k_f11 f_1 k_f12 z_f12_4 k_f13 z_f13_3 k_f14 f14 k_f15 f15 k_f16 f16 hnc hnp hne (hst0)) (cwV 0 hts g_E_0_setNumber_E_0_measure rfl rfl rfl (by decide +kernel) ⟨Nat.le_of_ble_eq_true rfl, Nat.le_of_ble_eq_true rfl⟩) ⟨pu_bl, va_recv hK hP (ci := 0) (q0 := 0) rfl rfl, pu_in hP hK hD⟩ rfl rfl hl.1 rfl (lv_room (Nat.le_of_ble_eq_true rfl)) eX0_setNumber_13 ⟨Nat.le_of_ble_eq_true rfl, Nat.le_of_ble_eq_true rfl⟩) hS (fun q _ h => hFc q h) hFc (fun u t H1 locs ht hvm hw hB hz1 hk1 hS => ?_)
  obtain ⟨z_f14_6, z_f15_7, z_f16_8, ⟨hP1, -, hD1⟩, xr_5_0⟩ := hB
  rw [ht] at hP1
  have hP := hP1
  have hD := pu_all hFc hD1
  clear hP1 hD1 hFc
  clear hk1 hz1 ht hvm
  generalize H1 = H at hP hS ⊢
  have hsp := hsp.trans (slet_eq xr_5_0)
  exact W.vret hx hb hr (fun t ht hW => ⟨⟨(), rfl, trivial, ⟨z_f13_3, z_f14_6, z_f15_7, z_f16_8, f_1, z_f12_4, ⟨by rw [ht]; exact hP, va_K.moved hW.alike hK, hD⟩, (hsp.symm.trans hRR)⟩⟩, hS.F ht⟩) hS.2.2 eX0_setNumber_16
theorem eX0_allConditions_0 : decode cX0_allConditions 0 = .ok (.iconst 0, 1) := by decide +kernel
theorem eX0_allConditions_1 : decode cX0_allConditions 1 = .ok (.istore_n 1, 1) := by decide +kernel
theorem eX0_allConditions_2 : decode cX0_allConditions 2 = .ok (.iconst 0, 1) := by decide +kernel
theorem eX0_allConditions_3 : decode cX0_allConditions 3 = .ok (.istore_n 2, 1) := by decide +kernel
theorem eX0_allConditions_4 : decode cX0_allConditions 4 = .ok (.iload_n 2, 1) := by decide +kernel
theorem eX0_allConditions_5 : decode cX0_allConditions 5 = .ok (.bipush 22, 2) := by decide +kernel
theorem eX0_allConditions_7 : decode cX0_allConditions 7 = .ok (.if_icmp .ge 18, 3) := by decide +kernel
theorem eX0_allConditions_10 : decode cX0_allConditions 10 = .ok (.iload_n 1, 1) := by decide +kernel
theorem eX0_allConditions_11 : decode cX0_allConditions 11 = .ok (.aload_n 0, 1) := by decide +kernel
theorem eX0_allConditions_12 : decode cX0_allConditions 12 = .ok (.getfield 29, 3) := by decide +kernel
theorem eX0_allConditions_15 : decode cX0_allConditions 15 = .ok (.iload_n 2, 1) := by decide +kernel
theorem eX0_allConditions_16 : decode cX0_allConditions 16 = .ok (.iaload, 1) := by decide +kernel
theorem eX0_allConditions_17 : decode cX0_allConditions 17 = .ok (.iadd, 1) := by decide +kernel
theorem eX0_allConditions_18 : decode cX0_allConditions 18 = .ok (.istore_n 1, 1) := by decide +kernel
theorem eX0_allConditions_19 : decode cX0_allConditions 19 = .ok (.iinc 2 1, 3) := by decide +kernel
theorem eX0_allConditions_22 : decode cX0_allConditions 22 = .ok (.goto (-18), 3) := by decide +kernel
theorem eX0_allConditions_25 : decode cX0_allConditions 25 = .ok (.iload_n 1, 1) := by decide +kernel
theorem eX0_allConditions_26 : decode cX0_allConditions 26 = .ok (.ireturn, 1) := by decide +kernel
abbrev vs_E_0_allConditions : List Cond := .code yX0_allConditions cX0_allConditions 3 (some .int) :: CM
noncomputable def sp_E_0_allConditions_L1 (q_f8 : Nat → Nat) : (Int32 × Nat) → (Int32 × Nat) ⊕ (Int32) := fun (g_3, g_4) => (if 22 ≤ g_4 then (Sum.inr g_3) else (slet (min (q_f8 g_4) 4) (fun u_13 => (slet ((g_3 : Int32) + (nI u_13)) (fun y_14 => (Sum.inl (y_14, (g_4 + 1))))))))
noncomputable def sp_E_0_allConditions (q_f8 : Nat → Nat) : Int32 := (itrv (α := Int32 × Nat) (β := (Int32)) default (sp_E_0_allConditions_L1 q_f8) (0, 0))
set_option maxHeartbeats 4000000 in
set_option maxRecDepth 100000 in
theorem c_E_0_allConditions (l : Launch) (dC : Nat → ClassId) (dI : Nat → Nat → Nat) (sz : Nat) (au : Nat) (nc : Nat) (np : Nat) (ne : Nat) (st0 : Int32) (q4 : Nat) (q5 : Nat) (q6 : Nat) (q7 : Nat) (q8 : Nat) (q9 : Nat) (q10 : Nat) (q11 : Nat) (q12 : Nat) (q13 : Nat) (q14 : Nat) (q15 : Nat) (q16 : Nat) (k_f4 : ClassId) (f4 : Nat → Int32) (k_f5 : ClassId) (q_f5 : Nat → Nat) (k_f6 : ClassId) (q_f6 : Nat → Nat) (k_f7 : ClassId) (f7 : Nat → Int32) (k_f8 : ClassId) (q_f8 : Nat → Nat) (k_f9 : ClassId) (q_f9 : Nat → Nat) (k_f10 : ClassId) (f10 : Nat → Int32) (k_f11 : ClassId) (f11 : Nat → Int32) (k_f12 : ClassId) (f12 : Nat → Int32) (k_f13 : ClassId) (f13 : Nat → Int32) (k_f14 : ClassId) (f14 : Nat → Int32) (k_f15 : ClassId) (f15 : Nat → Int32) (k_f16 : ClassId) (f16 : Nat → Int32) (hnc : nc ≤ 3) (hnp : np ≤ 8) (hne : ne ≤ 14) (hst0 : pm1 7 st0) : Met l yX0_allConditions vs_E_0_allConditions ({ frames := 0, cells := 0, slots := 0, locals := 0 }) (va_Pc [.ref au] (pu_B (dC, dI) (au__w au (nI nc) (nI np) (nI ne) st0 q4 q5 q6 q7 q8 q9 q10 q11 q12 q13 q14 q15 q16 k_f4 f4 k_f5 (bN 7 q_f5) k_f6 (bN 7 q_f6) k_f7 f7 k_f8 (bN 4 q_f8) k_f9 (bN 2 q_f9) k_f10 f10 k_f11 f11 k_f12 f12 k_f13 f13 k_f14 f14 k_f15 f15 k_f16 f16) (au__t k_f4 k_f5 k_f6 k_f7 k_f8 k_f9 k_f10 k_f11 k_f12 k_f13 k_f14 k_f15 k_f16) sz)) (va_Qi (fun (r : Int32) (_ : Unit) => r = (sp_E_0_allConditions q_f8)) (fun _ _ => True) (va_A [] sz)) 0 0 (va_A [] sz) := by
  refine Met.ofW (cc := cX0_allConditions) (maxL := 3) (ret := (some .int)) (by decide) rfl ?_
  intro p e s m args below meth c s₁ B hml hv
  obtain ⟨rfl, rfl, hP, hK, hD0⟩ := hv
  have hx := B.exec
  have hb := B.bytes
  have hr := B.returns
  have hts := atoms_spec (ws := vs_E_0_allConditions) B.pre
  have v_1 := hts (.fieldLink RX0 29 "ClockReach$Automaton" "counts" "[I") (List.mem_cons_of_mem _ cm_8)
  have hown : s.vm.findClass RX0 = some m.cls := findClass_of_methodNamed B.named
  have hlocks := B.notSynchronized
  have hiX0 : ∀ w ∈ wsX00, w ∈ vs_E_0_allConditions := fun _ h => List.mem_cons_of_mem _ (cm_X0 h)
  have hD := hD0
  have hA : ∀ q : Nat, s.heap.size ≤ q → va_A [] s.heap.size q := fun _ h => Or.inr h
  have hS : va_S (va_A [] s.heap.size) s.heap s.heap [] := va_S.rf
  have hl := lv_entry ([.ref au]) (n := 3) (Nat.le_of_ble_eq_true rfl)
  rw [lg_entry_eq]
  generalize (lg_sl ([.ref au]) ++ List.replicate (3 - (lg_sl ([.ref au])).length) Slot.unset).toArray = ls at hl ⊢
  have hl : lv_has ls 3 [(0, .ref au)] := hl
  obtain ⟨RR, hRR⟩ : ∃ x, x = (sp_E_0_allConditions q_f8) := ⟨_, rfl⟩
  have hsp := hRR
  refine lv_iconst (v := 0) hx hb eX0_allConditions_0 (by decide) ?_
  refine lv_istore_n (lv' := [(1, .int 0), (0, .ref au)]) hx hb eX0_allConditions_1 rfl hl (by decide) rfl (fun ls hl => ?_)
  refine lv_iconst (v := 0) hx hb eX0_allConditions_2 (by decide) ?_
  refine lv_istore_n (lv' := [(2, .int 0), (1, .int 0), (0, .ref au)]) hx hb eX0_allConditions_3 rfl hl (by decide) rfl (fun ls hl => ?_)
  obtain ⟨lf_6, dlf_6, hlf_6, hsp⟩ := itr_ex hsp
  delta sp_E_0_allConditions_L1 at hlf_6
  refine pu_while (fun nn H locs ls => ∃ (g_3 : Int32) (g_4 : Nat), nn = 22 - g_4 ∧ g_4 ≤ 22 ∧ RR = itrv dlf_6 lf_6 (g_3, g_4) ∧ va_P (dC, dI) vwCl (au__w au (nI nc) (nI np) (nI ne) st0 q4 q5 q6 q7 q8 q9 q10 q11 q12 q13 q14 q15 q16 k_f4 f4 k_f5 (bN 7 q_f5) k_f6 (bN 7 q_f6) k_f7 f7 k_f8 (bN 4 q_f8) k_f9 (bN 2 q_f9) k_f10 f10 k_f11 f11 k_f12 f12 k_f13 f13 k_f14 f14 k_f15 f15 k_f16 f16) H ∧ va_D (fun _ => True) (au__w au (nI nc) (nI np) (nI ne) st0 q4 q5 q6 q7 q8 q9 q10 q11 q12 q13 q14 q15 q16 k_f4 f4 k_f5 (bN 7 q_f5) k_f6 (bN 7 q_f6) k_f7 f7 k_f8 (bN 4 q_f8) k_f9 (bN 2 q_f9) k_f10 f10 k_f11 f11 k_f12 f12 k_f13 f13 k_f14 f14 k_f15 f15 k_f16 f16) ∧ va_S (va_A [] s.heap.size) s.heap H locs ∧ lv_has ls 3 [(0, .ref au), (1, .int g_3), (2, .int (nI g_4))]) 4 ?_ _ _ _ _ ⟨0, 0, rfl, (Nat.le_of_ble_eq_true rfl), hsp, hP, hD, hS, lv_sub hl [2, 1, 0] rfl⟩
  rintro nn ih_5 H locs ls ⟨g_3, g_4, rfl, hg_4, he_8, hP, hD, hS, hl⟩
  obtain ⟨S_7, hsp, hin_9, hout_10⟩ := itr_step hlf_6 he_8
  refine lv_iload_n hx hb eX0_allConditions_4 rfl (lv_at hl 2 rfl) ?_
  refine lv_bipush (v := 22) hx hb eX0_allConditions_5 (by decide) ?_
  refine lv_icmp_ge (tgt := 25) hx hb eX0_allConditions_7 (by decide) (fun c_11 => ?_) (fun c_11 => ?_)
  · have c_11 : 22 ≤ g_4 := (nI_leI (a := 22) (b := g_4) (Nat.le_of_ble_eq_true rfl) (Nat.lt_of_le_of_lt hg_4 (Nat.le_of_ble_eq_true rfl))).mp c_11
    have hsp := hsp.trans (if_pos c_11)
    have hsp := hout_10 _ hsp
    refine lv_iload_n hx hb eX0_allConditions_25 rfl (lv_at hl 1 rfl) ?_
    exact W.iret (v := g_3) hx hb hr (fun t ht hW => ⟨⟨g_3, (), rfl, (hsp.symm.trans hRR), trivial⟩, hS.F ht⟩) hS.2.2 eX0_allConditions_26
  · have c_11 : ¬ 22 ≤ g_4 := fun z => c_11 ((nI_leI (a := 22) (b := g_4) (Nat.le_of_ble_eq_true rfl) (Nat.lt_of_le_of_lt hg_4 (Nat.le_of_ble_eq_true rfl))).mpr z)
    have hsp := hsp.trans (if_neg c_11)
    refine lv_iload_n hx hb eX0_allConditions_10 rfl (lv_at hl 1 rfl) ?_
    refine lv_aload_n hx hb eX0_allConditions_11 rfl (lv_at hl 0 rfl) ?_
    refine va_get (D := (dC, dI)) (ci := 0) (v := .ref q8) (C := RX0) (T := TX0) (N := 17) hx hb hts hiX0 hown hK hP 0 rfl rfl 8 (by decide) v_1 (fun _ h9 => h9) rfl eX0_allConditions_12 ?_
    refine lv_iload_n hx hb eX0_allConditions_15 rfl (lv_at hl 2 rfl) ?_
    refine va_iald hx hb hK hP 5 4 rfl rfl (vp_in_nI (n := g_4) (by omega) (Nat.le_of_ble_eq_true rfl)) eX0_allConditions_16 ?_
    refine lv_topi (fun y_12 ey_12 => ?_)
    obtain ⟨u_13, hu_13, qu_13, xu_13⟩ := bN_getx 4 q_f8 (n := g_4) (Nat.lt_of_le_of_lt hg_4 (Nat.le_of_ble_eq_true rfl))
    obtain rfl : y_12 = nI u_13 := ey_12.trans qu_13
    have hsp := hsp.trans (slet_eq xu_13)
    refine lv_iadd hx hb eX0_allConditions_17 ?_
    refine lv_topi (fun y_14 ey_14 => ?_)
    have hsp := hsp.trans (slet_eq ey_14)
    refine lv_istore_n (lv' := [(1, .int y_14), (0, .ref au), (2, .int (nI g_4))]) hx hb eX0_allConditions_18 rfl hl (by decide) rfl (fun ls hl => ?_)
    refine lv_iinc (v := (nI (g_4 + 1))) (lv' := [(2, .int (nI (g_4 + 1))), (1, .int y_14), (0, .ref au)]) hx hb eX0_allConditions_19 hl (k := 2) rfl (nI_1 _) (by decide) rfl (fun ls hl => ?_)
    refine lv_goto (tgt := 4) hx hb eX0_allConditions_22 (by decide) ?_
    exact ih_5 (22 - (g_4 + 1)) (by omega) _ _ _ ⟨y_14, (g_4 + 1), rfl, (by omega), hin_9 _ hsp, hP, hD, hS, lv_sub hl [2, 1, 0] rfl⟩
theorem eX0_addEdge_0 : decode cX0_addEdge 0 = .ok (.aload_n 0, 1) := by decide +kernel
theorem eX0_addEdge_1 : decode cX0_addEdge 1 = .ok (.getfield 19, 3) := by decide +kernel
theorem eX0_addEdge_4 : decode cX0_addEdge 4 = .ok (.aload_n 0, 1) := by decide +kernel
theorem eX0_addEdge_5 : decode cX0_addEdge 5 = .ok (.getfield 62, 3) := by decide +kernel
theorem eX0_addEdge_8 : decode cX0_addEdge 8 = .ok (.iload_n 1, 1) := by decide +kernel
theorem eX0_addEdge_9 : decode cX0_addEdge 9 = .ok (.iastore, 1) := by decide +kernel
theorem eX0_addEdge_10 : decode cX0_addEdge 10 = .ok (.aload_n 0, 1) := by decide +kernel
theorem eX0_addEdge_11 : decode cX0_addEdge 11 = .ok (.getfield 23, 3) := by decide +kernel
theorem eX0_addEdge_14 : decode cX0_addEdge 14 = .ok (.aload_n 0, 1) := by decide +kernel
theorem eX0_addEdge_15 : decode cX0_addEdge 15 = .ok (.getfield 62, 3) := by decide +kernel
theorem eX0_addEdge_18 : decode cX0_addEdge 18 = .ok (.iload_n 2, 1) := by decide +kernel
theorem eX0_addEdge_19 : decode cX0_addEdge 19 = .ok (.iastore, 1) := by decide +kernel
theorem eX0_addEdge_20 : decode cX0_addEdge 20 = .ok (.aload_n 0, 1) := by decide +kernel
theorem eX0_addEdge_21 : decode cX0_addEdge 21 = .ok (.getfield 26, 3) := by decide +kernel
theorem eX0_addEdge_24 : decode cX0_addEdge 24 = .ok (.aload_n 0, 1) := by decide +kernel
theorem eX0_addEdge_25 : decode cX0_addEdge 25 = .ok (.getfield 62, 3) := by decide +kernel
theorem eX0_addEdge_28 : decode cX0_addEdge 28 = .ok (.iconst 0, 1) := by decide +kernel
theorem eX0_addEdge_29 : decode cX0_addEdge 29 = .ok (.iastore, 1) := by decide +kernel
theorem eX0_addEdge_30 : decode cX0_addEdge 30 = .ok (.aload_n 0, 1) := by decide +kernel
theorem eX0_addEdge_31 : decode cX0_addEdge 31 = .ok (.dup, 1) := by decide +kernel
theorem eX0_addEdge_32 : decode cX0_addEdge 32 = .ok (.getfield 62, 3) := by decide +kernel
theorem eX0_addEdge_35 : decode cX0_addEdge 35 = .ok (.iconst 1, 1) := by decide +kernel
theorem eX0_addEdge_36 : decode cX0_addEdge 36 = .ok (.iadd, 1) := by decide +kernel
theorem eX0_addEdge_37 : decode cX0_addEdge 37 = .ok (.putfield 62, 3) := by decide +kernel
theorem eX0_addEdge_40 : decode cX0_addEdge 40 = .ok (.return_, 1) := by decide +kernel
abbrev vs_E_0_addEdge : List Cond := .code yX0_addEdge cX0_addEdge 3 none :: CM
noncomputable def sp_E_0_addEdge (ne : Nat) (q_f5 : Nat → Nat) (q_f6 : Nat → Nat) (f7 : Nat → Int32) (a0 : Nat) (a1 : Nat) : (Nat → Nat) × (Nat → Nat) × (Nat → Int32) := (slet (updN q_f5 ne a0) (fun q_1 => (slet (updN q_f6 ne a1) (fun q_2 => (slet (upd f7 ne 0) (fun f_3 => (q_1, q_2, f_3)))))))
set_option maxHeartbeats 4000000 in
set_option maxRecDepth 100000 in
theorem c_E_0_addEdge (l : Launch) (dC : Nat → ClassId) (dI : Nat → Nat → Nat) (sz : Nat) (au : Nat) (nc : Nat) (np : Nat) (ne : Nat) (st0 : Int32) (q4 : Nat) (q5 : Nat) (q6 : Nat) (q7 : Nat) (q8 : Nat) (q9 : Nat) (q10 : Nat) (q11 : Nat) (q12 : Nat) (q13 : Nat) (q14 : Nat) (q15 : Nat) (q16 : Nat) (k_f4 : ClassId) (f4 : Nat → Int32) (k_f5 : ClassId) (q_f5 : Nat → Nat) (k_f6 : ClassId) (q_f6 : Nat → Nat) (k_f7 : ClassId) (f7 : Nat → Int32) (k_f8 : ClassId) (q_f8 : Nat → Nat) (k_f9 : ClassId) (q_f9 : Nat → Nat) (k_f10 : ClassId) (f10 : Nat → Int32) (k_f11 : ClassId) (f11 : Nat → Int32) (k_f12 : ClassId) (f12 : Nat → Int32) (k_f13 : ClassId) (f13 : Nat → Int32) (k_f14 : ClassId) (f14 : Nat → Int32) (k_f15 : ClassId) (f15 : Nat → Int32) (k_f16 : ClassId) (f16 : Nat → Int32) (a0 : Nat) (a1 : Nat) (hnc : nc ≤ 3) (hnp : np ≤ 8) (hne : ne ≤ 13) (hst0 : pm1 7 st0) (ha0 : a0 ≤ 7) (ha1 : a1 ≤ 7) : Met l yX0_addEdge vs_E_0_addEdge ({ frames := 0, cells := 0, slots := 0, locals := 0 }) (va_Pc [.ref au, .int (nI a0), .int (nI a1)] (pu_B (dC, dI) (au__w au (nI nc) (nI np) (nI ne) st0 q4 q5 q6 q7 q8 q9 q10 q11 q12 q13 q14 q15 q16 k_f4 f4 k_f5 (bN 7 q_f5) k_f6 (bN 7 q_f6) k_f7 f7 k_f8 (bN 4 q_f8) k_f9 (bN 2 q_f9) k_f10 f10 k_f11 f11 k_f12 f12 k_f13 f13 k_f14 f14 k_f15 f15 k_f16 f16) (au__t k_f4 k_f5 k_f6 k_f7 k_f8 k_f9 k_f10 k_f11 k_f12 k_f13 k_f14 k_f15 k_f16) sz)) (va_Qv (fun (_ : Unit) => True) (fun _ t => ∃ (z_f5 : Nat → Nat) (z_f6 : Nat → Nat) (z_f7 : Nat → Int32), pu_E (dC, dI) (au__w au (nI nc) (nI np) (nI (ne + 1)) st0 q4 q5 q6 q7 q8 q9 q10 q11 q12 q13 q14 q15 q16 k_f4 f4 k_f5 (bN 7 z_f5) k_f6 (bN 7 z_f6) k_f7 z_f7 k_f8 (bN 4 q_f8) k_f9 (bN 2 q_f9) k_f10 f10 k_f11 f11 k_f12 f12 k_f13 f13 k_f14 f14 k_f15 f15 k_f16 f16) (au__t k_f4 k_f5 k_f6 k_f7 k_f8 k_f9 k_f10 k_f11 k_f12 k_f13 k_f14 k_f15 k_f16) (va_A ((au__w au (nI nc) (nI np) (nI ne) st0 q4 q5 q6 q7 q8 q9 q10 q11 q12 q13 q14 q15 q16 k_f4 f4 k_f5 (bN 7 q_f5) k_f6 (bN 7 q_f6) k_f7 f7 k_f8 (bN 4 q_f8) k_f9 (bN 2 q_f9) k_f10 f10 k_f11 f11 k_f12 f12 k_f13 f13 k_f14 f14 k_f15 f15 k_f16 f16)) sz) t ∧ ((z_f5, z_f6, z_f7) = (sp_E_0_addEdge ne q_f5 q_f6 f7 a0 a1))) (va_A ((au__w au (nI nc) (nI np) (nI ne) st0 q4 q5 q6 q7 q8 q9 q10 q11 q12 q13 q14 q15 q16 k_f4 f4 k_f5 (bN 7 q_f5) k_f6 (bN 7 q_f6) k_f7 f7 k_f8 (bN 4 q_f8) k_f9 (bN 2 q_f9) k_f10 f10 k_f11 f11 k_f12 f12 k_f13 f13 k_f14 f14 k_f15 f15 k_f16 f16)) sz)) 0 0 (va_A ((au__w au (nI nc) (nI np) (nI ne) st0 q4 q5 q6 q7 q8 q9 q10 q11 q12 q13 q14 q15 q16 k_f4 f4 k_f5 (bN 7 q_f5) k_f6 (bN 7 q_f6) k_f7 f7 k_f8 (bN 4 q_f8) k_f9 (bN 2 q_f9) k_f10 f10 k_f11 f11 k_f12 f12 k_f13 f13 k_f14 f14 k_f15 f15 k_f16 f16)) sz) := by
  refine Met.ofW (cc := cX0_addEdge) (maxL := 3) (ret := none) (by decide) rfl ?_
  intro p e s m args below meth c s₁ B hml hv
  obtain ⟨rfl, rfl, hP, hK, hD0⟩ := hv
  have hx := B.exec
  have hb := B.bytes
  have hr := B.returns
  have hts := atoms_spec (ws := vs_E_0_addEdge) B.pre
  have v_1 := hts (.fieldLink RX0 19 "ClockReach$Automaton" "sources" "[I") (List.mem_cons_of_mem _ cm_10)
  have v_2 := hts (.fieldLink RX0 62 "ClockReach$Automaton" "edges" "I") (List.mem_cons_of_mem _ cm_5)
  have v_3 := hts (.fieldLink RX0 23 "ClockReach$Automaton" "targets" "[I") (List.mem_cons_of_mem _ cm_11)
  have v_4 := hts (.fieldLink RX0 26 "ClockReach$Automaton" "resets" "[I") (List.mem_cons_of_mem _ cm_12)
  have hown : s.vm.findClass RX0 = some m.cls := findClass_of_methodNamed B.named
  have hlocks := B.notSynchronized
  have hiX0 : ∀ w ∈ wsX00, w ∈ vs_E_0_addEdge := fun _ h => List.mem_cons_of_mem _ (cm_X0 h)
  have hD := hD0.self (sz := s.heap.size)
  generalize hAe : va_A ((au__w au (nI nc) (nI np) (nI ne) st0 q4 q5 q6 q7 q8 q9 q10 q11 q12 q13 q14 q15 q16 k_f4 f4 k_f5 (bN 7 q_f5) k_f6 (bN 7 q_f6) k_f7 f7 k_f8 (bN 4 q_f8) k_f9 (bN 2 q_f9) k_f10 f10 k_f11 f11 k_f12 f12 k_f13 f13 k_f14 f14 k_f15 f15 k_f16 f16)) s.heap.size = A at hD ⊢
  have hA : ∀ q : Nat, s.heap.size ≤ q → A q := fun q h => by rw [← hAe]; exact Or.inr h
  have hS : va_S A s.heap s.heap [] := va_S.rf
  have hl := lv_entry ([.ref au, .int (nI a0), .int (nI a1)]) (n := 3) (Nat.le_of_ble_eq_true rfl)
  rw [lg_entry_eq]
  generalize (lg_sl ([.ref au, .int (nI a0), .int (nI a1)]) ++ List.replicate (3 - (lg_sl ([.ref au, .int (nI a0), .int (nI a1)])).length) Slot.unset).toArray = ls at hl ⊢
  have hl : lv_has ls 3 [(0, .ref au), (1, .int (nI a0)), (2, .int (nI a1))] := hl
  obtain ⟨RR, hRR⟩ : ∃ x, x = (sp_E_0_addEdge ne q_f5 q_f6 f7 a0 a1) := ⟨_, rfl⟩
  have hsp := hRR
  refine lv_aload_n hx hb eX0_addEdge_0 rfl (lv_at hl 0 rfl) ?_
  refine va_get (D := (dC, dI)) (ci := 0) (v := .ref q5) (C := RX0) (T := TX0) (N := 17) hx hb hts hiX0 hown hK hP 0 rfl rfl 5 (by decide) v_1 (fun _ h9 => h9) rfl eX0_addEdge_1 ?_
  refine lv_aload_n hx hb eX0_addEdge_4 rfl (lv_at hl 0 rfl) ?_
  refine va_get (D := (dC, dI)) (ci := 0) (v := .int (nI ne)) (C := RX0) (T := TX0) (N := 17) hx hb hts hiX0 hown hK hP 0 rfl rfl 2 (by decide) v_2 (fun _ h9 => h9) rfl eX0_addEdge_5 ?_
  refine lv_iload_n hx hb eX0_addEdge_8 rfl (lv_at hl 1 rfl) ?_
  refine va_iast hx hb hK hP hD hS 2 1 rfl rfl (vp_in_nI (n := ne) (Nat.lt_of_le_of_lt hne (Nat.le_of_ble_eq_true rfl)) (Nat.le_of_ble_eq_true rfl)) eX0_addEdge_9 (fun H locs hP hD hS => ?_)
  obtain ⟨q_1, eq_1, kq_1, oq_1, xq_1⟩ := bN_upx 7 q_f5 (n := ne) (v := a0) (Nat.lt_of_le_of_lt hne (Nat.le_of_ble_eq_true rfl)) ha0
  have hP : va_P (dC, dI) vwCl (au__w au (nI nc) (nI np) (nI ne) st0 q4 q5 q6 q7 q8 q9 q10 q11 q12 q13 q14 q15 q16 k_f4 f4 k_f5 (bN 7 q_1) k_f6 (bN 7 q_f6) k_f7 f7 k_f8 (bN 4 q_f8) k_f9 (bN 2 q_f9) k_f10 f10 k_f11 f11 k_f12 f12 k_f13 f13 k_f14 f14 k_f15 f15 k_f16 f16) H := by rw [← eq_1]; exact hP
  have hD : va_D A (au__w au (nI nc) (nI np) (nI ne) st0 q4 q5 q6 q7 q8 q9 q10 q11 q12 q13 q14 q15 q16 k_f4 f4 k_f5 (bN 7 q_1) k_f6 (bN 7 q_f6) k_f7 f7 k_f8 (bN 4 q_f8) k_f9 (bN 2 q_f9) k_f10 f10 k_f11 f11 k_f12 f12 k_f13 f13 k_f14 f14 k_f15 f15 k_f16 f16) := by rw [← eq_1]; exact hD
  have hsp := hsp.trans (slet_eq xq_1)
  refine lv_aload_n hx hb eX0_addEdge_10 rfl (lv_at hl 0 rfl) ?_
  refine va_get (D := (dC, dI)) (ci := 0) (v := .ref q6) (C := RX0) (T := TX0) (N := 17) hx hb hts hiX0 hown hK hP 0 rfl rfl 6 (by decide) v_3 (fun _ h9 => h9) rfl eX0_addEdge_11 ?_
  refine lv_aload_n hx hb eX0_addEdge_14 rfl (lv_at hl 0 rfl) ?_
  refine va_get (D := (dC, dI)) (ci := 0) (v := .int (nI ne)) (C := RX0) (T := TX0) (N := 17) hx hb hts hiX0 hown hK hP 0 rfl rfl 2 (by decide) v_2 (fun _ h9 => h9) rfl eX0_addEdge_15 ?_
  refine lv_iload_n hx hb eX0_addEdge_18 rfl (lv_at hl 2 rfl) ?_
  refine va_iast hx hb hK hP hD hS 3 2 rfl rfl (vp_in_nI (n := ne) (Nat.lt_of_le_of_lt hne (Nat.le_of_ble_eq_true rfl)) (Nat.le_of_ble_eq_true rfl)) eX0_addEdge_19 (fun H locs hP hD hS => ?_)
  obtain ⟨q_2, eq_2, kq_2, oq_2, xq_2⟩ := bN_upx 7 q_f6 (n := ne) (v := a1) (Nat.lt_of_le_of_lt hne (Nat.le_of_ble_eq_true rfl)) ha1
  have hP : va_P (dC, dI) vwCl (au__w au (nI nc) (nI np) (nI ne) st0 q4 q5 q6 q7 q8 q9 q10 q11 q12 q13 q14 q15 q16 k_f4 f4 k_f5 (bN 7 q_1) k_f6 (bN 7 q_2) k_f7 f7 k_f8 (bN 4 q_f8) k_f9 (bN 2 q_f9) k_f10 f10 k_f11 f11 k_f12 f12 k_f13 f13 k_f14 f14 k_f15 f15 k_f16 f16) H := by rw [← eq_2]; exact hP
  have hD : va_D A (au__w au (nI nc) (nI np) (nI ne) st0 q4 q5 q6 q7 q8 q9 q10 q11 q12 q13 q14 q15 q16 k_f4 f4 k_f5 (bN 7 q_1) k_f6 (bN 7 q_2) k_f7 f7 k_f8 (bN 4 q_f8) k_f9 (bN 2 q_f9) k_f10 f10 k_f11 f11 k_f12 f12 k_f13 f13 k_f14 f14 k_f15 f15 k_f16 f16) := by rw [← eq_2]; exact hD
  have hsp := hsp.trans (slet_eq xq_2)
  refine lv_aload_n hx hb eX0_addEdge_20 rfl (lv_at hl 0 rfl) ?_
  refine va_get (D := (dC, dI)) (ci := 0) (v := .ref q7) (C := RX0) (T := TX0) (N := 17) hx hb hts hiX0 hown hK hP 0 rfl rfl 7 (by decide) v_4 (fun _ h9 => h9) rfl eX0_addEdge_21 ?_
  refine lv_aload_n hx hb eX0_addEdge_24 rfl (lv_at hl 0 rfl) ?_
  refine va_get (D := (dC, dI)) (ci := 0) (v := .int (nI ne)) (C := RX0) (T := TX0) (N := 17) hx hb hts hiX0 hown hK hP 0 rfl rfl 2 (by decide) v_2 (fun _ h9 => h9) rfl eX0_addEdge_25 ?_
  refine lv_iconst (v := 0) hx hb eX0_addEdge_28 (by decide) ?_
  refine va_iast hx hb hK hP hD hS 4 3 rfl rfl (vp_in_nI (n := ne) (Nat.lt_of_le_of_lt hne (Nat.le_of_ble_eq_true rfl)) (Nat.le_of_ble_eq_true rfl)) eX0_addEdge_29 (fun H locs hP hD hS => ?_)
  obtain ⟨f_3, ef_3, xf_3⟩ := up_x f7 (n := ne) 0 (Nat.lt_of_le_of_lt hne (Nat.le_of_ble_eq_true rfl))
  have hP : va_P (dC, dI) vwCl (au__w au (nI nc) (nI np) (nI ne) st0 q4 q5 q6 q7 q8 q9 q10 q11 q12 q13 q14 q15 q16 k_f4 f4 k_f5 (bN 7 q_1) k_f6 (bN 7 q_2) k_f7 f_3 k_f8 (bN 4 q_f8) k_f9 (bN 2 q_f9) k_f10 f10 k_f11 f11 k_f12 f12 k_f13 f13 k_f14 f14 k_f15 f15 k_f16 f16) H := by rw [← ef_3]; exact hP
  have hD : va_D A (au__w au (nI nc) (nI np) (nI ne) st0 q4 q5 q6 q7 q8 q9 q10 q11 q12 q13 q14 q15 q16 k_f4 f4 k_f5 (bN 7 q_1) k_f6 (bN 7 q_2) k_f7 f_3 k_f8 (bN 4 q_f8) k_f9 (bN 2 q_f9) k_f10 f10 k_f11 f11 k_f12 f12 k_f13 f13 k_f14 f14 k_f15 f15 k_f16 f16) := by rw [← ef_3]; exact hD
  have hsp := hsp.trans (slet_eq xf_3)
  refine lv_aload_n hx hb eX0_addEdge_30 rfl (lv_at hl 0 rfl) ?_
  refine lv_dup hx hb eX0_addEdge_31 rfl ?_
  refine va_get (D := (dC, dI)) (ci := 0) (v := .int (nI ne)) (C := RX0) (T := TX0) (N := 17) hx hb hts hiX0 hown hK hP 0 rfl rfl 2 (by decide) v_2 (fun _ h9 => h9) rfl eX0_addEdge_32 ?_
  refine lv_iconst (v := 1) hx hb eX0_addEdge_35 (by decide) ?_
  refine lv_iadd hx hb eX0_addEdge_36 ?_
  refine lv_topi (fun y_4 ey_4 => ?_)
  obtain rfl : y_4 = (nI (ne + 1)) := ey_4.trans (nI_add ne 1)
  refine va_put (D := (dC, dI)) (ci := 0) (v := .int (nI (ne + 1))) (ty := .int) (C := RX0) (T := TX0) (N := 17) hx hb hts hiX0 tyX0 tyX0_ok nmX0 hown hK hP hD hS 0 rfl rfl 2 (by decide) v_2 (fun _ h9 => h9) rfl (by decide +kernel) rfl rfl (Nat.le_of_ble_eq_true rfl) eX0_addEdge_37 (fun H locs hP hD hS => ?_)
  have hP : va_P (dC, dI) vwCl (au__w au (nI nc) (nI np) (nI (ne + 1)) st0 q4 q5 q6 q7 q8 q9 q10 q11 q12 q13 q14 q15 q16 k_f4 f4 k_f5 (bN 7 q_1) k_f6 (bN 7 q_2) k_f7 f_3 k_f8 (bN 4 q_f8) k_f9 (bN 2 q_f9) k_f10 f10 k_f11 f11 k_f12 f12 k_f13 f13 k_f14 f14 k_f15 f15 k_f16 f16) H := hP
  have hD : va_D A (au__w au (nI nc) (nI np) (nI (ne + 1)) st0 q4 q5 q6 q7 q8 q9 q10 q11 q12 q13 q14 q15 q16 k_f4 f4 k_f5 (bN 7 q_1) k_f6 (bN 7 q_2) k_f7 f_3 k_f8 (bN 4 q_f8) k_f9 (bN 2 q_f9) k_f10 f10 k_f11 f11 k_f12 f12 k_f13 f13 k_f14 f14 k_f15 f15 k_f16 f16) := hD
  exact W.vret hx hb hr (fun t ht hW => ⟨⟨(), rfl, trivial, ⟨q_1, q_2, f_3, ⟨by rw [ht]; exact hP, va_K.moved hW.alike hK, hD⟩, (hsp.symm.trans hRR)⟩⟩, hS.F ht⟩) hS.2.2 eX0_addEdge_40
theorem eX0_edgesWith_0 : decode cX0_edgesWith 0 = .ok (.iconst 0, 1) := by decide +kernel
theorem eX0_edgesWith_1 : decode cX0_edgesWith 1 = .ok (.istore_n 3, 1) := by decide +kernel
theorem eX0_edgesWith_2 : decode cX0_edgesWith 2 = .ok (.iconst 0, 1) := by decide +kernel
theorem eX0_edgesWith_3 : decode cX0_edgesWith 3 = .ok (.istore 4, 2) := by decide +kernel
theorem eX0_edgesWith_5 : decode cX0_edgesWith 5 = .ok (.iload 4, 2) := by decide +kernel
theorem eX0_edgesWith_7 : decode cX0_edgesWith 7 = .ok (.aload_n 0, 1) := by decide +kernel
theorem eX0_edgesWith_8 : decode cX0_edgesWith 8 = .ok (.getfield 62, 3) := by decide +kernel
theorem eX0_edgesWith_11 : decode cX0_edgesWith 11 = .ok (.if_icmp .ge 24, 3) := by decide +kernel
theorem eX0_edgesWith_14 : decode cX0_edgesWith 14 = .ok (.aload_n 1, 1) := by decide +kernel
theorem eX0_edgesWith_15 : decode cX0_edgesWith 15 = .ok (.iload 4, 2) := by decide +kernel
theorem eX0_edgesWith_17 : decode cX0_edgesWith 17 = .ok (.iaload, 1) := by decide +kernel
theorem eX0_edgesWith_18 : decode cX0_edgesWith 18 = .ok (.iload_n 2, 1) := by decide +kernel
theorem eX0_edgesWith_19 : decode cX0_edgesWith 19 = .ok (.if_icmp .ne 10, 3) := by decide +kernel
theorem eX0_edgesWith_22 : decode cX0_edgesWith 22 = .ok (.iload_n 3, 1) := by decide +kernel
theorem eX0_edgesWith_23 : decode cX0_edgesWith 23 = .ok (.iconst 1, 1) := by decide +kernel
theorem eX0_edgesWith_24 : decode cX0_edgesWith 24 = .ok (.iload 4, 2) := by decide +kernel
theorem eX0_edgesWith_26 : decode cX0_edgesWith 26 = .ok (.ishl, 1) := by decide +kernel
theorem eX0_edgesWith_27 : decode cX0_edgesWith 27 = .ok (.ior, 1) := by decide +kernel
theorem eX0_edgesWith_28 : decode cX0_edgesWith 28 = .ok (.istore_n 3, 1) := by decide +kernel
theorem eX0_edgesWith_29 : decode cX0_edgesWith 29 = .ok (.iinc 4 1, 3) := by decide +kernel
theorem eX0_edgesWith_32 : decode cX0_edgesWith 32 = .ok (.goto (-27), 3) := by decide +kernel
theorem eX0_edgesWith_35 : decode cX0_edgesWith 35 = .ok (.iload_n 3, 1) := by decide +kernel
theorem eX0_edgesWith_36 : decode cX0_edgesWith 36 = .ok (.ireturn, 1) := by decide +kernel
abbrev vs_E_0_edgesWith_5 : List Cond := .code yX0_edgesWith cX0_edgesWith 5 (some .int) :: CM
noncomputable def sp_E_0_edgesWith_5_L1 (ne : Nat) (q_f5 : Nat → Nat) (p1 : Int32) : (Int32 × Nat) → (Int32 × Nat) ⊕ (Int32) := fun (g_3, g_4) => (if ne ≤ g_4 then (Sum.inr g_3) else (slet (min (q_f5 g_4) 7) (fun u_13 => (slet (α := Int32) (if ((nI u_13) : Int32) = p1 then (slet ((1 : Int32) <<< (((nI g_4) : Int32) &&& 31)) (fun y_19 => (slet ((g_3 : Int32) ||| (y_19 : Int32)) (fun y_20 => y_20)))) else g_3) (fun g_14 => (Sum.inl (g_14, (g_4 + 1))))))))
noncomputable def sp_E_0_edgesWith_5 (ne : Nat) (q_f5 : Nat → Nat) (p1 : Int32) : Int32 := (itrv (α := Int32 × Nat) (β := (Int32)) default (sp_E_0_edgesWith_5_L1 ne q_f5 p1) (0, 0))
set_option maxHeartbeats 4000000 in
set_option maxRecDepth 100000 in
theorem c_E_0_edgesWith_5 (l : Launch) (dC : Nat → ClassId) (dI : Nat → Nat → Nat) (sz : Nat) (au : Nat) (nc : Nat) (np : Nat) (ne : Nat) (st0 : Int32) (q4 : Nat) (q5 : Nat) (q6 : Nat) (q7 : Nat) (q8 : Nat) (q9 : Nat) (q10 : Nat) (q11 : Nat) (q12 : Nat) (q13 : Nat) (q14 : Nat) (q15 : Nat) (q16 : Nat) (k_f4 : ClassId) (f4 : Nat → Int32) (k_f5 : ClassId) (q_f5 : Nat → Nat) (k_f6 : ClassId) (q_f6 : Nat → Nat) (k_f7 : ClassId) (f7 : Nat → Int32) (k_f8 : ClassId) (q_f8 : Nat → Nat) (k_f9 : ClassId) (q_f9 : Nat → Nat) (k_f10 : ClassId) (f10 : Nat → Int32) (k_f11 : ClassId) (f11 : Nat → Int32) (k_f12 : ClassId) (f12 : Nat → Int32) (k_f13 : ClassId) (f13 : Nat → Int32) (k_f14 : ClassId) (f14 : Nat → Int32) (k_f15 : ClassId) (f15 : Nat → Int32) (k_f16 : ClassId) (f16 : Nat → Int32) (p1 : Int32) (hnc : nc ≤ 3) (hnp : np ≤ 8) (hne : ne ≤ 14) (hst0 : pm1 7 st0) : Met l yX0_edgesWith vs_E_0_edgesWith_5 ({ frames := 0, cells := 0, slots := 0, locals := 0 }) (va_Pc [.ref au, .ref q5, .int p1] (pu_B (dC, dI) (au__w au (nI nc) (nI np) (nI ne) st0 q4 q5 q6 q7 q8 q9 q10 q11 q12 q13 q14 q15 q16 k_f4 f4 k_f5 (bN 7 q_f5) k_f6 (bN 7 q_f6) k_f7 f7 k_f8 (bN 4 q_f8) k_f9 (bN 2 q_f9) k_f10 f10 k_f11 f11 k_f12 f12 k_f13 f13 k_f14 f14 k_f15 f15 k_f16 f16) (au__t k_f4 k_f5 k_f6 k_f7 k_f8 k_f9 k_f10 k_f11 k_f12 k_f13 k_f14 k_f15 k_f16) sz)) (va_Qi (fun (r : Int32) (_ : Unit) => r = (sp_E_0_edgesWith_5 ne q_f5 p1)) (fun _ _ => True) (va_A [] sz)) 0 0 (va_A [] sz) := by
  refine Met.ofW (cc := cX0_edgesWith) (maxL := 5) (ret := (some .int)) (by decide) rfl ?_
  intro p e s m args below meth c s₁ B hml hv
  obtain ⟨rfl, rfl, hP, hK, hD0⟩ := hv
  have hx := B.exec
  have hb := B.bytes
  have hr := B.returns
  have hts := atoms_spec (ws := vs_E_0_edgesWith_5) B.pre
  have v_1 := hts (.fieldLink RX0 62 "ClockReach$Automaton" "edges" "I") (List.mem_cons_of_mem _ cm_5)
  have hown : s.vm.findClass RX0 = some m.cls := findClass_of_methodNamed B.named
  have hlocks := B.notSynchronized
  have hiX0 : ∀ w ∈ wsX00, w ∈ vs_E_0_edgesWith_5 := fun _ h => List.mem_cons_of_mem _ (cm_X0 h)
  have hD := hD0
  have hA : ∀ q : Nat, s.heap.size ≤ q → va_A [] s.heap.size q := fun _ h => Or.inr h
  have hS : va_S (va_A [] s.heap.size) s.heap s.heap [] := va_S.rf
  have hl := lv_entry ([.ref au, .ref q5, .int p1]) (n := 5) (Nat.le_of_ble_eq_true rfl)
  rw [lg_entry_eq]
  generalize (lg_sl ([.ref au, .ref q5, .int p1]) ++ List.replicate (5 - (lg_sl ([.ref au, .ref q5, .int p1])).length) Slot.unset).toArray = ls at hl ⊢
  have hl : lv_has ls 5 [(0, .ref au), (1, .ref q5), (2, .int p1)] := hl
  obtain ⟨RR, hRR⟩ : ∃ x, x = (sp_E_0_edgesWith_5 ne q_f5 p1) := ⟨_, rfl⟩
  have hsp := hRR
  refine lv_iconst (v := 0) hx hb eX0_edgesWith_0 (by decide) ?_
  refine lv_istore_n (lv' := [(3, .int 0), (0, .ref au), (1, .ref q5), (2, .int p1)]) hx hb eX0_edgesWith_1 rfl hl (by decide) rfl (fun ls hl => ?_)
  refine lv_iconst (v := 0) hx hb eX0_edgesWith_2 (by decide) ?_
  refine lv_istore (lv' := [(4, .int 0), (3, .int 0), (0, .ref au), (1, .ref q5), (2, .int p1)]) hx hb eX0_edgesWith_3 hl (by decide) rfl (fun ls hl => ?_)
  obtain ⟨lf_6, dlf_6, hlf_6, hsp⟩ := itr_ex hsp
  delta sp_E_0_edgesWith_5_L1 at hlf_6
  refine pu_while (fun nn H locs ls => ∃ (g_3 : Int32) (g_4 : Nat), nn = 14 - g_4 ∧ g_4 ≤ 14 ∧ RR = itrv dlf_6 lf_6 (g_3, g_4) ∧ va_P (dC, dI) vwCl (au__w au (nI nc) (nI np) (nI ne) st0 q4 q5 q6 q7 q8 q9 q10 q11 q12 q13 q14 q15 q16 k_f4 f4 k_f5 (bN 7 q_f5) k_f6 (bN 7 q_f6) k_f7 f7 k_f8 (bN 4 q_f8) k_f9 (bN 2 q_f9) k_f10 f10 k_f11 f11 k_f12 f12 k_f13 f13 k_f14 f14 k_f15 f15 k_f16 f16) H ∧ va_D (fun _ => True) (au__w au (nI nc) (nI np) (nI ne) st0 q4 q5 q6 q7 q8 q9 q10 q11 q12 q13 q14 q15 q16 k_f4 f4 k_f5 (bN 7 q_f5) k_f6 (bN 7 q_f6) k_f7 f7 k_f8 (bN 4 q_f8) k_f9 (bN 2 q_f9) k_f10 f10 k_f11 f11 k_f12 f12 k_f13 f13 k_f14 f14 k_f15 f15 k_f16 f16) ∧ va_S (va_A [] s.heap.size) s.heap H locs ∧ lv_has ls 5 [(0, .ref au), (1, .ref q5), (2, .int p1), (3, .int g_3), (4, .int (nI g_4))]) 5 ?_ _ _ _ _ ⟨0, 0, rfl, (Nat.le_of_ble_eq_true rfl), hsp, hP, hD, hS, lv_sub hl [2, 3, 4, 1, 0] rfl⟩
  rintro nn ih_5 H locs ls ⟨g_3, g_4, rfl, hg_4, he_8, hP, hD, hS, hl⟩
  obtain ⟨S_7, hsp, hin_9, hout_10⟩ := itr_step hlf_6 he_8
  refine lv_iload hx hb eX0_edgesWith_5 (lv_at hl 4 rfl) ?_
  refine lv_aload_n hx hb eX0_edgesWith_7 rfl (lv_at hl 0 rfl) ?_
  refine va_get (D := (dC, dI)) (ci := 0) (v := .int (nI ne)) (C := RX0) (T := TX0) (N := 17) hx hb hts hiX0 hown hK hP 0 rfl rfl 2 (by decide) v_1 (fun _ h9 => h9) rfl eX0_edgesWith_8 ?_
  refine lv_icmp_ge (tgt := 35) hx hb eX0_edgesWith_11 (by decide) (fun c_11 => ?_) (fun c_11 => ?_)
  · have c_11 : ne ≤ g_4 := (nI_leI (a := ne) (b := g_4) (Nat.lt_of_le_of_lt hne (Nat.le_of_ble_eq_true rfl)) (Nat.lt_of_le_of_lt hg_4 (Nat.le_of_ble_eq_true rfl))).mp c_11
    have hsp := hsp.trans (if_pos c_11)
    have hsp := hout_10 _ hsp
    refine lv_iload_n hx hb eX0_edgesWith_35 rfl (lv_at hl 3 rfl) ?_
    exact W.iret (v := g_3) hx hb hr (fun t ht hW => ⟨⟨g_3, (), rfl, (hsp.symm.trans hRR), trivial⟩, hS.F ht⟩) hS.2.2 eX0_edgesWith_36
  · have c_11 : ¬ ne ≤ g_4 := fun z => c_11 ((nI_leI (a := ne) (b := g_4) (Nat.lt_of_le_of_lt hne (Nat.le_of_ble_eq_true rfl)) (Nat.lt_of_le_of_lt hg_4 (Nat.le_of_ble_eq_true rfl))).mpr z)
    have hsp := hsp.trans (if_neg c_11)
    refine lv_aload_n hx hb eX0_edgesWith_14 rfl (lv_at hl 1 rfl) ?_
    refine lv_iload hx hb eX0_edgesWith_15 (lv_at hl 4 rfl) ?_
    refine va_iald hx hb hK hP 2 1 rfl rfl (vp_in_nI (n := g_4) (by omega) (Nat.le_of_ble_eq_true rfl)) eX0_edgesWith_17 ?_
    refine lv_topi (fun y_12 ey_12 => ?_)
    obtain ⟨u_13, hu_13, qu_13, xu_13⟩ := bN_getx 7 q_f5 (n := g_4) (Nat.lt_of_le_of_lt hg_4 (Nat.le_of_ble_eq_true rfl))
    obtain rfl : y_12 = nI u_13 := ey_12.trans qu_13
    have hsp := hsp.trans (slet_eq xu_13)
    refine lv_iload_n hx hb eX0_edgesWith_18 rfl (lv_at hl 2 rfl) ?_
    obtain ⟨JR_16, hJR_16, hsp⟩ := slet_ex hsp
    refine pu_join (fun H locs ls st => ∃ (g_14 : Int32), st = [] ∧ g_14 = JR_16 ∧ va_P (dC, dI) vwCl (au__w au (nI nc) (nI np) (nI ne) st0 q4 q5 q6 q7 q8 q9 q10 q11 q12 q13 q14 q15 q16 k_f4 f4 k_f5 (bN 7 q_f5) k_f6 (bN 7 q_f6) k_f7 f7 k_f8 (bN 4 q_f8) k_f9 (bN 2 q_f9) k_f10 f10 k_f11 f11 k_f12 f12 k_f13 f13 k_f14 f14 k_f15 f15 k_f16 f16) H ∧ va_D (fun _ => True) (au__w au (nI nc) (nI np) (nI ne) st0 q4 q5 q6 q7 q8 q9 q10 q11 q12 q13 q14 q15 q16 k_f4 f4 k_f5 (bN 7 q_f5) k_f6 (bN 7 q_f6) k_f7 f7 k_f8 (bN 4 q_f8) k_f9 (bN 2 q_f9) k_f10 f10 k_f11 f11 k_f12 f12 k_f13 f13 k_f14 f14 k_f15 f15 k_f16 f16) ∧ va_S (va_A [] s.heap.size) s.heap H locs ∧ lv_has ls 5 [(0, .ref au), (1, .ref q5), (2, .int p1), (3, .int g_14), (4, .int (nI g_4))]) 29 ?_ (fun j_15 => ?_)
    · rintro H locs ls st ⟨g_14, rfl, he_17, hP, hD, hS, hl⟩
      rw [← he_17] at hsp
      refine lv_iinc (v := (nI (g_4 + 1))) (lv' := [(4, .int (nI (g_4 + 1))), (0, .ref au), (1, .ref q5), (2, .int p1), (3, .int g_14)]) hx hb eX0_edgesWith_29 hl (k := 4) rfl (nI_1 _) (by decide) rfl (fun ls hl => ?_)
      refine lv_goto (tgt := 5) hx hb eX0_edgesWith_32 (by decide) ?_
      exact ih_5 (14 - (g_4 + 1)) (by omega) _ _ _ ⟨g_14, (g_4 + 1), rfl, (by omega), hin_9 _ hsp, hP, hD, hS, lv_sub hl [1, 2, 3, 4, 0] rfl⟩
    have hsp := hJR_16
    refine lv_icmp_ne (tgt := 29) hx hb eX0_edgesWith_19 (by decide) (fun c_18 => ?_) (fun c_18 => ?_)
    · have hcc_18 := c_18
      have hsp := hsp.trans (if_neg c_18)
      exact j_15 _ _ _ _ ⟨g_3, rfl, hsp.symm, hP, hD, hS, lv_sub hl [0, 1, 2, 3, 4] rfl⟩
    · have hcc_18 := c_18
      have hsp := hsp.trans (if_pos c_18)
      refine lv_iload_n hx hb eX0_edgesWith_22 rfl (lv_at hl 3 rfl) ?_
      refine lv_iconst (v := 1) hx hb eX0_edgesWith_23 (by decide) ?_
      refine lv_iload hx hb eX0_edgesWith_24 (lv_at hl 4 rfl) ?_
      refine lv_ishl hx hb eX0_edgesWith_26 ?_
      refine lv_topi (fun y_19 ey_19 => ?_)
      have hsp := hsp.trans (slet_eq ey_19)
      refine lv_ior hx hb eX0_edgesWith_27 ?_
      refine lv_topi (fun y_20 ey_20 => ?_)
      have hsp := hsp.trans (slet_eq ey_20)
      refine lv_istore_n (lv' := [(3, .int y_20), (0, .ref au), (1, .ref q5), (2, .int p1), (4, .int (nI g_4))]) hx hb eX0_edgesWith_28 rfl hl (by decide) rfl (fun ls hl => ?_)
      exact j_15 _ _ _ _ ⟨y_20, rfl, hsp.symm, hP, hD, hS, lv_sub hl [1, 2, 3, 0, 4] rfl⟩
abbrev vs_E_0_edgesWith_6 : List Cond := .code yX0_edgesWith cX0_edgesWith 5 (some .int) :: CM
noncomputable def sp_E_0_edgesWith_6_L1 (ne : Nat) (q_f6 : Nat → Nat) (p1 : Int32) : (Int32 × Nat) → (Int32 × Nat) ⊕ (Int32) := fun (g_3, g_4) => (if ne ≤ g_4 then (Sum.inr g_3) else (slet (min (q_f6 g_4) 7) (fun u_13 => (slet (α := Int32) (if ((nI u_13) : Int32) = p1 then (slet ((1 : Int32) <<< (((nI g_4) : Int32) &&& 31)) (fun y_19 => (slet ((g_3 : Int32) ||| (y_19 : Int32)) (fun y_20 => y_20)))) else g_3) (fun g_14 => (Sum.inl (g_14, (g_4 + 1))))))))
noncomputable def sp_E_0_edgesWith_6 (ne : Nat) (q_f6 : Nat → Nat) (p1 : Int32) : Int32 := (itrv (α := Int32 × Nat) (β := (Int32)) default (sp_E_0_edgesWith_6_L1 ne q_f6 p1) (0, 0))
set_option maxHeartbeats 4000000 in
set_option maxRecDepth 100000 in
theorem c_E_0_edgesWith_6 (l : Launch) (dC : Nat → ClassId) (dI : Nat → Nat → Nat) (sz : Nat) (au : Nat) (nc : Nat) (np : Nat) (ne : Nat) (st0 : Int32) (q4 : Nat) (q5 : Nat) (q6 : Nat) (q7 : Nat) (q8 : Nat) (q9 : Nat) (q10 : Nat) (q11 : Nat) (q12 : Nat) (q13 : Nat) (q14 : Nat) (q15 : Nat) (q16 : Nat) (k_f4 : ClassId) (f4 : Nat → Int32) (k_f5 : ClassId) (q_f5 : Nat → Nat) (k_f6 : ClassId) (q_f6 : Nat → Nat) (k_f7 : ClassId) (f7 : Nat → Int32) (k_f8 : ClassId) (q_f8 : Nat → Nat) (k_f9 : ClassId) (q_f9 : Nat → Nat) (k_f10 : ClassId) (f10 : Nat → Int32) (k_f11 : ClassId) (f11 : Nat → Int32) (k_f12 : ClassId) (f12 : Nat → Int32) (k_f13 : ClassId) (f13 : Nat → Int32) (k_f14 : ClassId) (f14 : Nat → Int32) (k_f15 : ClassId) (f15 : Nat → Int32) (k_f16 : ClassId) (f16 : Nat → Int32) (p1 : Int32) (hnc : nc ≤ 3) (hnp : np ≤ 8) (hne : ne ≤ 14) (hst0 : pm1 7 st0) : Met l yX0_edgesWith vs_E_0_edgesWith_6 ({ frames := 0, cells := 0, slots := 0, locals := 0 }) (va_Pc [.ref au, .ref q6, .int p1] (pu_B (dC, dI) (au__w au (nI nc) (nI np) (nI ne) st0 q4 q5 q6 q7 q8 q9 q10 q11 q12 q13 q14 q15 q16 k_f4 f4 k_f5 (bN 7 q_f5) k_f6 (bN 7 q_f6) k_f7 f7 k_f8 (bN 4 q_f8) k_f9 (bN 2 q_f9) k_f10 f10 k_f11 f11 k_f12 f12 k_f13 f13 k_f14 f14 k_f15 f15 k_f16 f16) (au__t k_f4 k_f5 k_f6 k_f7 k_f8 k_f9 k_f10 k_f11 k_f12 k_f13 k_f14 k_f15 k_f16) sz)) (va_Qi (fun (r : Int32) (_ : Unit) => r = (sp_E_0_edgesWith_6 ne q_f6 p1)) (fun _ _ => True) (va_A [] sz)) 0 0 (va_A [] sz) := by
  refine Met.ofW (cc := cX0_edgesWith) (maxL := 5) (ret := (some .int)) (by decide) rfl ?_
  intro p e s m args below meth c s₁ B hml hv
  obtain ⟨rfl, rfl, hP, hK, hD0⟩ := hv
  have hx := B.exec
  have hb := B.bytes
  have hr := B.returns
  have hts := atoms_spec (ws := vs_E_0_edgesWith_6) B.pre
  have v_1 := hts (.fieldLink RX0 62 "ClockReach$Automaton" "edges" "I") (List.mem_cons_of_mem _ cm_5)
  have hown : s.vm.findClass RX0 = some m.cls := findClass_of_methodNamed B.named
  have hlocks := B.notSynchronized
  have hiX0 : ∀ w ∈ wsX00, w ∈ vs_E_0_edgesWith_6 := fun _ h => List.mem_cons_of_mem _ (cm_X0 h)
  have hD := hD0
  have hA : ∀ q : Nat, s.heap.size ≤ q → va_A [] s.heap.size q := fun _ h => Or.inr h
  have hS : va_S (va_A [] s.heap.size) s.heap s.heap [] := va_S.rf
  have hl := lv_entry ([.ref au, .ref q6, .int p1]) (n := 5) (Nat.le_of_ble_eq_true rfl)
  rw [lg_entry_eq]
  generalize (lg_sl ([.ref au, .ref q6, .int p1]) ++ List.replicate (5 - (lg_sl ([.ref au, .ref q6, .int p1])).length) Slot.unset).toArray = ls at hl ⊢
  have hl : lv_has ls 5 [(0, .ref au), (1, .ref q6), (2, .int p1)] := hl
  obtain ⟨RR, hRR⟩ : ∃ x, x = (sp_E_0_edgesWith_6 ne q_f6 p1) := ⟨_, rfl⟩
  have hsp := hRR
  refine lv_iconst (v := 0) hx hb eX0_edgesWith_0 (by decide) ?_
  refine lv_istore_n (lv' := [(3, .int 0), (0, .ref au), (1, .ref q6), (2, .int p1)]) hx hb eX0_edgesWith_1 rfl hl (by decide) rfl (fun ls hl => ?_)
  refine lv_iconst (v := 0) hx hb eX0_edgesWith_2 (by decide) ?_
  refine lv_istore (lv' := [(4, .int 0), (3, .int 0), (0, .ref au), (1, .ref q6), (2, .int p1)]) hx hb eX0_edgesWith_3 hl (by decide) rfl (fun ls hl => ?_)
  obtain ⟨lf_6, dlf_6, hlf_6, hsp⟩ := itr_ex hsp
  delta sp_E_0_edgesWith_6_L1 at hlf_6
  refine pu_while (fun nn H locs ls => ∃ (g_3 : Int32) (g_4 : Nat), nn = 14 - g_4 ∧ g_4 ≤ 14 ∧ RR = itrv dlf_6 lf_6 (g_3, g_4) ∧ va_P (dC, dI) vwCl (au__w au (nI nc) (nI np) (nI ne) st0 q4 q5 q6 q7 q8 q9 q10 q11 q12 q13 q14 q15 q16 k_f4 f4 k_f5 (bN 7 q_f5) k_f6 (bN 7 q_f6) k_f7 f7 k_f8 (bN 4 q_f8) k_f9 (bN 2 q_f9) k_f10 f10 k_f11 f11 k_f12 f12 k_f13 f13 k_f14 f14 k_f15 f15 k_f16 f16) H ∧ va_D (fun _ => True) (au__w au (nI nc) (nI np) (nI ne) st0 q4 q5 q6 q7 q8 q9 q10 q11 q12 q13 q14 q15 q16 k_f4 f4 k_f5 (bN 7 q_f5) k_f6 (bN 7 q_f6) k_f7 f7 k_f8 (bN 4 q_f8) k_f9 (bN 2 q_f9) k_f10 f10 k_f11 f11 k_f12 f12 k_f13 f13 k_f14 f14 k_f15 f15 k_f16 f16) ∧ va_S (va_A [] s.heap.size) s.heap H locs ∧ lv_has ls 5 [(0, .ref au), (1, .ref q6), (2, .int p1), (3, .int g_3), (4, .int (nI g_4))]) 5 ?_ _ _ _ _ ⟨0, 0, rfl, (Nat.le_of_ble_eq_true rfl), hsp, hP, hD, hS, lv_sub hl [2, 3, 4, 1, 0] rfl⟩
  rintro nn ih_5 H locs ls ⟨g_3, g_4, rfl, hg_4, he_8, hP, hD, hS, hl⟩
  obtain ⟨S_7, hsp, hin_9, hout_10⟩ := itr_step hlf_6 he_8
  refine lv_iload hx hb eX0_edgesWith_5 (lv_at hl 4 rfl) ?_
  refine lv_aload_n hx hb eX0_edgesWith_7 rfl (lv_at hl 0 rfl) ?_
  refine va_get (D := (dC, dI)) (ci := 0) (v := .int (nI ne)) (C := RX0) (T := TX0) (N := 17) hx hb hts hiX0 hown hK hP 0 rfl rfl 2 (by decide) v_1 (fun _ h9 => h9) rfl eX0_edgesWith_8 ?_
  refine lv_icmp_ge (tgt := 35) hx hb eX0_edgesWith_11 (by decide) (fun c_11 => ?_) (fun c_11 => ?_)
  · have c_11 : ne ≤ g_4 := (nI_leI (a := ne) (b := g_4) (Nat.lt_of_le_of_lt hne (Nat.le_of_ble_eq_true rfl)) (Nat.lt_of_le_of_lt hg_4 (Nat.le_of_ble_eq_true rfl))).mp c_11
    have hsp := hsp.trans (if_pos c_11)
    have hsp := hout_10 _ hsp
    refine lv_iload_n hx hb eX0_edgesWith_35 rfl (lv_at hl 3 rfl) ?_
    exact W.iret (v := g_3) hx hb hr (fun t ht hW => ⟨⟨g_3, (), rfl, (hsp.symm.trans hRR), trivial⟩, hS.F ht⟩) hS.2.2 eX0_edgesWith_36
  · have c_11 : ¬ ne ≤ g_4 := fun z => c_11 ((nI_leI (a := ne) (b := g_4) (Nat.lt_of_le_of_lt hne (Nat.le_of_ble_eq_true rfl)) (Nat.lt_of_le_of_lt hg_4 (Nat.le_of_ble_eq_true rfl))).mpr z)
    have hsp := hsp.trans (if_neg c_11)
    refine lv_aload_n hx hb eX0_edgesWith_14 rfl (lv_at hl 1 rfl) ?_
    refine lv_iload hx hb eX0_edgesWith_15 (lv_at hl 4 rfl) ?_
    refine va_iald hx hb hK hP 3 2 rfl rfl (vp_in_nI (n := g_4) (by omega) (Nat.le_of_ble_eq_true rfl)) eX0_edgesWith_17 ?_
    refine lv_topi (fun y_12 ey_12 => ?_)
    obtain ⟨u_13, hu_13, qu_13, xu_13⟩ := bN_getx 7 q_f6 (n := g_4) (Nat.lt_of_le_of_lt hg_4 (Nat.le_of_ble_eq_true rfl))
    obtain rfl : y_12 = nI u_13 := ey_12.trans qu_13
    have hsp := hsp.trans (slet_eq xu_13)
    refine lv_iload_n hx hb eX0_edgesWith_18 rfl (lv_at hl 2 rfl) ?_
    obtain ⟨JR_16, hJR_16, hsp⟩ := slet_ex hsp
    refine pu_join (fun H locs ls st => ∃ (g_14 : Int32), st = [] ∧ g_14 = JR_16 ∧ va_P (dC, dI) vwCl (au__w au (nI nc) (nI np) (nI ne) st0 q4 q5 q6 q7 q8 q9 q10 q11 q12 q13 q14 q15 q16 k_f4 f4 k_f5 (bN 7 q_f5) k_f6 (bN 7 q_f6) k_f7 f7 k_f8 (bN 4 q_f8) k_f9 (bN 2 q_f9) k_f10 f10 k_f11 f11 k_f12 f12 k_f13 f13 k_f14 f14 k_f15 f15 k_f16 f16) H ∧ va_D (fun _ => True) (au__w au (nI nc) (nI np) (nI ne) st0 q4 q5 q6 q7 q8 q9 q10 q11 q12 q13 q14 q15 q16 k_f4 f4 k_f5 (bN 7 q_f5) k_f6 (bN 7 q_f6) k_f7 f7 k_f8 (bN 4 q_f8) k_f9 (bN 2 q_f9) k_f10 f10 k_f11 f11 k_f12 f12 k_f13 f13 k_f14 f14 k_f15 f15 k_f16 f16) ∧ va_S (va_A [] s.heap.size) s.heap H locs ∧ lv_has ls 5 [(0, .ref au), (1, .ref q6), (2, .int p1), (3, .int g_14), (4, .int (nI g_4))]) 29 ?_ (fun j_15 => ?_)
    · rintro H locs ls st ⟨g_14, rfl, he_17, hP, hD, hS, hl⟩
      rw [← he_17] at hsp
      refine lv_iinc (v := (nI (g_4 + 1))) (lv' := [(4, .int (nI (g_4 + 1))), (0, .ref au), (1, .ref q6), (2, .int p1), (3, .int g_14)]) hx hb eX0_edgesWith_29 hl (k := 4) rfl (nI_1 _) (by decide) rfl (fun ls hl => ?_)
      refine lv_goto (tgt := 5) hx hb eX0_edgesWith_32 (by decide) ?_
      exact ih_5 (14 - (g_4 + 1)) (by omega) _ _ _ ⟨g_14, (g_4 + 1), rfl, (by omega), hin_9 _ hsp, hP, hD, hS, lv_sub hl [1, 2, 3, 4, 0] rfl⟩
    have hsp := hJR_16
    refine lv_icmp_ne (tgt := 29) hx hb eX0_edgesWith_19 (by decide) (fun c_18 => ?_) (fun c_18 => ?_)
    · have hcc_18 := c_18
      have hsp := hsp.trans (if_neg c_18)
      exact j_15 _ _ _ _ ⟨g_3, rfl, hsp.symm, hP, hD, hS, lv_sub hl [0, 1, 2, 3, 4] rfl⟩
    · have hcc_18 := c_18
      have hsp := hsp.trans (if_pos c_18)
      refine lv_iload_n hx hb eX0_edgesWith_22 rfl (lv_at hl 3 rfl) ?_
      refine lv_iconst (v := 1) hx hb eX0_edgesWith_23 (by decide) ?_
      refine lv_iload hx hb eX0_edgesWith_24 (lv_at hl 4 rfl) ?_
      refine lv_ishl hx hb eX0_edgesWith_26 ?_
      refine lv_topi (fun y_19 ey_19 => ?_)
      have hsp := hsp.trans (slet_eq ey_19)
      refine lv_ior hx hb eX0_edgesWith_27 ?_
      refine lv_topi (fun y_20 ey_20 => ?_)
      have hsp := hsp.trans (slet_eq ey_20)
      refine lv_istore_n (lv' := [(3, .int y_20), (0, .ref au), (1, .ref q6), (2, .int p1), (4, .int (nI g_4))]) hx hb eX0_edgesWith_28 rfl hl (by decide) rfl (fun ls hl => ?_)
      exact j_15 _ _ _ _ ⟨y_20, rfl, hsp.symm, hP, hD, hS, lv_sub hl [1, 2, 3, 0, 4] rfl⟩
theorem eX0_hurriedBehind_0 : decode cX0_hurriedBehind 0 = .ok (.iconst 0, 1) := by decide +kernel
theorem eX0_hurriedBehind_1 : decode cX0_hurriedBehind 1 = .ok (.istore_n 2, 1) := by decide +kernel
theorem eX0_hurriedBehind_2 : decode cX0_hurriedBehind 2 = .ok (.iconst 0, 1) := by decide +kernel
theorem eX0_hurriedBehind_3 : decode cX0_hurriedBehind 3 = .ok (.istore_n 3, 1) := by decide +kernel
theorem eX0_hurriedBehind_4 : decode cX0_hurriedBehind 4 = .ok (.iload_n 3, 1) := by decide +kernel
theorem eX0_hurriedBehind_5 : decode cX0_hurriedBehind 5 = .ok (.bipush 8, 2) := by decide +kernel
theorem eX0_hurriedBehind_7 : decode cX0_hurriedBehind 7 = .ok (.if_icmp .ge 92, 3) := by decide +kernel
theorem eX0_hurriedBehind_10 : decode cX0_hurriedBehind 10 = .ok (.iconst 0, 1) := by decide +kernel
theorem eX0_hurriedBehind_11 : decode cX0_hurriedBehind 11 = .ok (.istore 4, 2) := by decide +kernel
theorem eX0_hurriedBehind_13 : decode cX0_hurriedBehind 13 = .ok (.iload 4, 2) := by decide +kernel
theorem eX0_hurriedBehind_15 : decode cX0_hurriedBehind 15 = .ok (.aload_n 0, 1) := by decide +kernel
theorem eX0_hurriedBehind_16 : decode cX0_hurriedBehind 16 = .ok (.getfield 62, 3) := by decide +kernel
theorem eX0_hurriedBehind_19 : decode cX0_hurriedBehind 19 = .ok (.if_icmp .ge 74, 3) := by decide +kernel
theorem eX0_hurriedBehind_22 : decode cX0_hurriedBehind 22 = .ok (.aload_n 0, 1) := by decide +kernel
theorem eX0_hurriedBehind_23 : decode cX0_hurriedBehind 23 = .ok (.getfield 19, 3) := by decide +kernel
theorem eX0_hurriedBehind_26 : decode cX0_hurriedBehind 26 = .ok (.iload 4, 2) := by decide +kernel
theorem eX0_hurriedBehind_28 : decode cX0_hurriedBehind 28 = .ok (.iaload, 1) := by decide +kernel
theorem eX0_hurriedBehind_29 : decode cX0_hurriedBehind 29 = .ok (.iload_n 1, 1) := by decide +kernel
theorem eX0_hurriedBehind_30 : decode cX0_hurriedBehind 30 = .ok (.if_icmp .eq 18, 3) := by decide +kernel
theorem eX0_hurriedBehind_33 : decode cX0_hurriedBehind 33 = .ok (.iload_n 2, 1) := by decide +kernel
theorem eX0_hurriedBehind_34 : decode cX0_hurriedBehind 34 = .ok (.aload_n 0, 1) := by decide +kernel
theorem eX0_hurriedBehind_35 : decode cX0_hurriedBehind 35 = .ok (.getfield 19, 3) := by decide +kernel
theorem eX0_hurriedBehind_38 : decode cX0_hurriedBehind 38 = .ok (.iload 4, 2) := by decide +kernel
theorem eX0_hurriedBehind_40 : decode cX0_hurriedBehind 40 = .ok (.iaload, 1) := by decide +kernel
theorem eX0_hurriedBehind_41 : decode cX0_hurriedBehind 41 = .ok (.ishr, 1) := by decide +kernel
theorem eX0_hurriedBehind_42 : decode cX0_hurriedBehind 42 = .ok (.iconst 1, 1) := by decide +kernel
theorem eX0_hurriedBehind_43 : decode cX0_hurriedBehind 43 = .ok (.iand, 1) := by decide +kernel
theorem eX0_hurriedBehind_44 : decode cX0_hurriedBehind 44 = .ok (.iconst 1, 1) := by decide +kernel
theorem eX0_hurriedBehind_45 : decode cX0_hurriedBehind 45 = .ok (.if_icmp .ne 7, 3) := by decide +kernel
theorem eX0_hurriedBehind_48 : decode cX0_hurriedBehind 48 = .ok (.iconst 1, 1) := by decide +kernel
theorem eX0_hurriedBehind_49 : decode cX0_hurriedBehind 49 = .ok (.goto 4, 3) := by decide +kernel
theorem eX0_hurriedBehind_52 : decode cX0_hurriedBehind 52 = .ok (.iconst 0, 1) := by decide +kernel
theorem eX0_hurriedBehind_53 : decode cX0_hurriedBehind 53 = .ok (.istore 5, 2) := by decide +kernel
theorem eX0_hurriedBehind_55 : decode cX0_hurriedBehind 55 = .ok (.iload 5, 2) := by decide +kernel
theorem eX0_hurriedBehind_57 : decode cX0_hurriedBehind 57 = .ok (.ifCond .eq 30, 3) := by decide +kernel
theorem eX0_hurriedBehind_60 : decode cX0_hurriedBehind 60 = .ok (.aload_n 0, 1) := by decide +kernel
theorem eX0_hurriedBehind_61 : decode cX0_hurriedBehind 61 = .ok (.getfield 15, 3) := by decide +kernel
theorem eX0_hurriedBehind_64 : decode cX0_hurriedBehind 64 = .ok (.aload_n 0, 1) := by decide +kernel
theorem eX0_hurriedBehind_65 : decode cX0_hurriedBehind 65 = .ok (.getfield 23, 3) := by decide +kernel
theorem eX0_hurriedBehind_68 : decode cX0_hurriedBehind 68 = .ok (.iload 4, 2) := by decide +kernel
theorem eX0_hurriedBehind_70 : decode cX0_hurriedBehind 70 = .ok (.iaload, 1) := by decide +kernel
theorem eX0_hurriedBehind_71 : decode cX0_hurriedBehind 71 = .ok (.baload, 1) := by decide +kernel
theorem eX0_hurriedBehind_72 : decode cX0_hurriedBehind 72 = .ok (.ifCond .eq 15, 3) := by decide +kernel
theorem eX0_hurriedBehind_75 : decode cX0_hurriedBehind 75 = .ok (.iload_n 2, 1) := by decide +kernel
theorem eX0_hurriedBehind_76 : decode cX0_hurriedBehind 76 = .ok (.iconst 1, 1) := by decide +kernel
theorem eX0_hurriedBehind_77 : decode cX0_hurriedBehind 77 = .ok (.aload_n 0, 1) := by decide +kernel
theorem eX0_hurriedBehind_78 : decode cX0_hurriedBehind 78 = .ok (.getfield 23, 3) := by decide +kernel
theorem eX0_hurriedBehind_81 : decode cX0_hurriedBehind 81 = .ok (.iload 4, 2) := by decide +kernel
theorem eX0_hurriedBehind_83 : decode cX0_hurriedBehind 83 = .ok (.iaload, 1) := by decide +kernel
theorem eX0_hurriedBehind_84 : decode cX0_hurriedBehind 84 = .ok (.ishl, 1) := by decide +kernel
theorem eX0_hurriedBehind_85 : decode cX0_hurriedBehind 85 = .ok (.ior, 1) := by decide +kernel
theorem eX0_hurriedBehind_86 : decode cX0_hurriedBehind 86 = .ok (.istore_n 2, 1) := by decide +kernel
theorem eX0_hurriedBehind_87 : decode cX0_hurriedBehind 87 = .ok (.iinc 4 1, 3) := by decide +kernel
theorem eX0_hurriedBehind_90 : decode cX0_hurriedBehind 90 = .ok (.goto (-77), 3) := by decide +kernel
theorem eX0_hurriedBehind_93 : decode cX0_hurriedBehind 93 = .ok (.iinc 3 1, 3) := by decide +kernel
theorem eX0_hurriedBehind_96 : decode cX0_hurriedBehind 96 = .ok (.goto (-92), 3) := by decide +kernel
theorem eX0_hurriedBehind_99 : decode cX0_hurriedBehind 99 = .ok (.iload_n 2, 1) := by decide +kernel
theorem eX0_hurriedBehind_100 : decode cX0_hurriedBehind 100 = .ok (.ireturn, 1) := by decide +kernel
abbrev vs_E_0_hurriedBehind : List Cond := .code yX0_hurriedBehind cX0_hurriedBehind 6 (some .int) :: CM
noncomputable def sp_E_0_hurriedBehind_L1 (ne : Nat) (f4 : Nat → Int32) (q_f5 : Nat → Nat) (q_f6 : Nat → Nat) (a0 : Nat) (g_4 : Nat) : (Int32 × Nat) → (Int32 × Nat) ⊕ ((Int32 × Nat) ⊕ (Int32)) := fun (g_14, g_15) => (if ne ≤ g_15 then (Sum.inr (Sum.inl (g_14, (g_4 + 1)))) else (slet (min (q_f5 g_15) 7) (fun u_24 => (slet (α := Nat) (if u_24 = a0 then 1 else (slet ((g_14 : Int32) >>> (((nI u_24) : Int32) &&& 31)) (fun y_45 => (slet ((y_45 : Int32) &&& (1 : Int32)) (fun y_46 => (if (y_46 : Int32) = 1 then 1 else 0)))))) (fun g_25 => (slet (α := Int32) (if g_25 = 0 then g_14 else (slet (min (q_f6 g_15) 7) (fun u_35 => (slet (f4 u_35) (fun y_36 => (if (y_36 : Int32) = 0 then g_14 else (slet ((1 : Int32) <<< (((nI u_35) : Int32) &&& 31)) (fun y_40 => (slet ((g_14 : Int32) ||| (y_40 : Int32)) (fun y_41 => y_41)))))))))) (fun g_29 => (Sum.inl (g_29, (g_15 + 1))))))))))
noncomputable def sp_E_0_hurriedBehind_L2 (ne : Nat) (f4 : Nat → Int32) (q_f5 : Nat → Nat) (q_f6 : Nat → Nat) (a0 : Nat) : (Int32 × Nat) → (Int32 × Nat) ⊕ (Int32) := fun (g_3, g_4) => (if 8 ≤ g_4 then (Sum.inr g_3) else (itrv (α := Int32 × Nat) (β := ((Int32 × Nat) ⊕ (Int32))) (Sum.inr default) (sp_E_0_hurriedBehind_L1 ne f4 q_f5 q_f6 a0 g_4) (g_3, 0)))
noncomputable def sp_E_0_hurriedBehind (ne : Nat) (f4 : Nat → Int32) (q_f5 : Nat → Nat) (q_f6 : Nat → Nat) (a0 : Nat) : Int32 := (itrv (α := Int32 × Nat) (β := (Int32)) default (sp_E_0_hurriedBehind_L2 ne f4 q_f5 q_f6 a0) (0, 0))
set_option maxHeartbeats 4000000 in
set_option maxRecDepth 100000 in
theorem c_E_0_hurriedBehind (l : Launch) (dC : Nat → ClassId) (dI : Nat → Nat → Nat) (sz : Nat) (au : Nat) (nc : Nat) (np : Nat) (ne : Nat) (st0 : Int32) (q4 : Nat) (q5 : Nat) (q6 : Nat) (q7 : Nat) (q8 : Nat) (q9 : Nat) (q10 : Nat) (q11 : Nat) (q12 : Nat) (q13 : Nat) (q14 : Nat) (q15 : Nat) (q16 : Nat) (k_f4 : ClassId) (f4 : Nat → Int32) (k_f5 : ClassId) (q_f5 : Nat → Nat) (k_f6 : ClassId) (q_f6 : Nat → Nat) (k_f7 : ClassId) (f7 : Nat → Int32) (k_f8 : ClassId) (q_f8 : Nat → Nat) (k_f9 : ClassId) (q_f9 : Nat → Nat) (k_f10 : ClassId) (f10 : Nat → Int32) (k_f11 : ClassId) (f11 : Nat → Int32) (k_f12 : ClassId) (f12 : Nat → Int32) (k_f13 : ClassId) (f13 : Nat → Int32) (k_f14 : ClassId) (f14 : Nat → Int32) (k_f15 : ClassId) (f15 : Nat → Int32) (k_f16 : ClassId) (f16 : Nat → Int32) (a0 : Nat) (hnc : nc ≤ 3) (hnp : np ≤ 8) (hne : ne ≤ 14) (hst0 : pm1 7 st0) (ha0 : a0 ≤ 7) : Met l yX0_hurriedBehind vs_E_0_hurriedBehind ({ frames := 0, cells := 0, slots := 0, locals := 0 }) (va_Pc [.ref au, .int (nI a0)] (pu_B (dC, dI) (au__w au (nI nc) (nI np) (nI ne) st0 q4 q5 q6 q7 q8 q9 q10 q11 q12 q13 q14 q15 q16 k_f4 f4 k_f5 (bN 7 q_f5) k_f6 (bN 7 q_f6) k_f7 f7 k_f8 (bN 4 q_f8) k_f9 (bN 2 q_f9) k_f10 f10 k_f11 f11 k_f12 f12 k_f13 f13 k_f14 f14 k_f15 f15 k_f16 f16) (au__t k_f4 k_f5 k_f6 k_f7 k_f8 k_f9 k_f10 k_f11 k_f12 k_f13 k_f14 k_f15 k_f16) sz)) (va_Qi (fun (r : Int32) (_ : Unit) => r = (sp_E_0_hurriedBehind ne f4 q_f5 q_f6 a0)) (fun _ _ => True) (va_A [] sz)) 0 0 (va_A [] sz) := by
  refine Met.ofW (cc := cX0_hurriedBehind) (maxL := 6) (ret := (some .int)) (by decide) rfl ?_
  intro p e s m args below meth c s₁ B hml hv
  obtain ⟨rfl, rfl, hP, hK, hD0⟩ := hv
  have hx := B.exec
  have hb := B.bytes
  have hr := B.returns
  have hts := atoms_spec (ws := vs_E_0_hurriedBehind) B.pre
  have v_1 := hts (.fieldLink RX0 62 "ClockReach$Automaton" "edges" "I") (List.mem_cons_of_mem _ cm_5)
  have v_2 := hts (.fieldLink RX0 19 "ClockReach$Automaton" "sources" "[I") (List.mem_cons_of_mem _ cm_10)
  have v_3 := hts (.fieldLink RX0 15 "ClockReach$Automaton" "hurried" "[Z") (List.mem_cons_of_mem _ cm_7)
  have v_4 := hts (.fieldLink RX0 23 "ClockReach$Automaton" "targets" "[I") (List.mem_cons_of_mem _ cm_11)
  have hown : s.vm.findClass RX0 = some m.cls := findClass_of_methodNamed B.named
  have hlocks := B.notSynchronized
  have hiX0 : ∀ w ∈ wsX00, w ∈ vs_E_0_hurriedBehind := fun _ h => List.mem_cons_of_mem _ (cm_X0 h)
  have hD := hD0
  have hA : ∀ q : Nat, s.heap.size ≤ q → va_A [] s.heap.size q := fun _ h => Or.inr h
  have hS : va_S (va_A [] s.heap.size) s.heap s.heap [] := va_S.rf
  have hl := lv_entry ([.ref au, .int (nI a0)]) (n := 6) (Nat.le_of_ble_eq_true rfl)
  rw [lg_entry_eq]
  generalize (lg_sl ([.ref au, .int (nI a0)]) ++ List.replicate (6 - (lg_sl ([.ref au, .int (nI a0)])).length) Slot.unset).toArray = ls at hl ⊢
  have hl : lv_has ls 6 [(0, .ref au), (1, .int (nI a0))] := hl
  obtain ⟨RR, hRR⟩ : ∃ x, x = (sp_E_0_hurriedBehind ne f4 q_f5 q_f6 a0) := ⟨_, rfl⟩
  have hsp := hRR
  refine lv_iconst (v := 0) hx hb eX0_hurriedBehind_0 (by decide) ?_
  refine lv_istore_n (lv' := [(2, .int 0), (0, .ref au), (1, .int (nI a0))]) hx hb eX0_hurriedBehind_1 rfl hl (by decide) rfl (fun ls hl => ?_)
  refine lv_iconst (v := 0) hx hb eX0_hurriedBehind_2 (by decide) ?_
  refine lv_istore_n (lv' := [(3, .int 0), (2, .int 0), (0, .ref au), (1, .int (nI a0))]) hx hb eX0_hurriedBehind_3 rfl hl (by decide) rfl (fun ls hl => ?_)
  obtain ⟨lf_6, dlf_6, hlf_6, hsp⟩ := itr_ex hsp
  delta sp_E_0_hurriedBehind_L2 at hlf_6
  refine pu_while (fun nn H locs ls => ∃ (g_3 : Int32) (g_4 : Nat), nn = 8 - g_4 ∧ g_4 ≤ 8 ∧ RR = itrv dlf_6 lf_6 (g_3, g_4) ∧ va_P (dC, dI) vwCl (au__w au (nI nc) (nI np) (nI ne) st0 q4 q5 q6 q7 q8 q9 q10 q11 q12 q13 q14 q15 q16 k_f4 f4 k_f5 (bN 7 q_f5) k_f6 (bN 7 q_f6) k_f7 f7 k_f8 (bN 4 q_f8) k_f9 (bN 2 q_f9) k_f10 f10 k_f11 f11 k_f12 f12 k_f13 f13 k_f14 f14 k_f15 f15 k_f16 f16) H ∧ va_D (fun _ => True) (au__w au (nI nc) (nI np) (nI ne) st0 q4 q5 q6 q7 q8 q9 q10 q11 q12 q13 q14 q15 q16 k_f4 f4 k_f5 (bN 7 q_f5) k_f6 (bN 7 q_f6) k_f7 f7 k_f8 (bN 4 q_f8) k_f9 (bN 2 q_f9) k_f10 f10 k_f11 f11 k_f12 f12 k_f13 f13 k_f14 f14 k_f15 f15 k_f16 f16) ∧ va_S (va_A [] s.heap.size) s.heap H locs ∧ lv_has ls 6 [(0, .ref au), (1, .int (nI a0)), (2, .int g_3), (3, .int (nI g_4))]) 4 ?_ _ _ _ _ ⟨0, 0, rfl, (Nat.le_of_ble_eq_true rfl), hsp, hP, hD, hS, lv_sub hl [2, 3, 1, 0] rfl⟩
  rintro nn ih_5 H locs ls ⟨g_3, g_4, rfl, hg_4, he_8, hP, hD, hS, hl⟩
  obtain ⟨S_7, hsp, hin_9, hout_10⟩ := itr_step hlf_6 he_8
  refine lv_iload_n hx hb eX0_hurriedBehind_4 rfl (lv_at hl 3 rfl) ?_
  refine lv_bipush (v := 8) hx hb eX0_hurriedBehind_5 (by decide) ?_
  refine lv_icmp_ge (tgt := 99) hx hb eX0_hurriedBehind_7 (by decide) (fun c_11 => ?_) (fun c_11 => ?_)
  · have c_11 : 8 ≤ g_4 := (nI_leI (a := 8) (b := g_4) (Nat.le_of_ble_eq_true rfl) (Nat.lt_of_le_of_lt hg_4 (Nat.le_of_ble_eq_true rfl))).mp c_11
    have hsp := hsp.trans (if_pos c_11)
    have hsp := hout_10 _ hsp
    refine lv_iload_n hx hb eX0_hurriedBehind_99 rfl (lv_at hl 2 rfl) ?_
    exact W.iret (v := g_3) hx hb hr (fun t ht hW => ⟨⟨g_3, (), rfl, (hsp.symm.trans hRR), trivial⟩, hS.F ht⟩) hS.2.2 eX0_hurriedBehind_100
  · have c_11 : ¬ 8 ≤ g_4 := fun z => c_11 ((nI_leI (a := 8) (b := g_4) (Nat.le_of_ble_eq_true rfl) (Nat.lt_of_le_of_lt hg_4 (Nat.le_of_ble_eq_true rfl))).mpr z)
    have hsp := hsp.trans (if_neg c_11)
    refine lv_iconst (v := 0) hx hb eX0_hurriedBehind_10 (by decide) ?_
    refine lv_istore (lv' := [(4, .int 0), (0, .ref au), (1, .int (nI a0)), (2, .int g_3), (3, .int (nI g_4))]) hx hb eX0_hurriedBehind_11 hl (by decide) rfl (fun ls hl => ?_)
    obtain ⟨lf_17, dlf_17, hlf_17, hsp⟩ := itr_ex hsp
    delta sp_E_0_hurriedBehind_L1 at hlf_17
    refine pu_while (fun nn H locs ls => ∃ (g_14 : Int32) (g_15 : Nat), nn = 14 - g_15 ∧ g_15 ≤ 14 ∧ S_7 = itrv dlf_17 lf_17 (g_14, g_15) ∧ va_P (dC, dI) vwCl (au__w au (nI nc) (nI np) (nI ne) st0 q4 q5 q6 q7 q8 q9 q10 q11 q12 q13 q14 q15 q16 k_f4 f4 k_f5 (bN 7 q_f5) k_f6 (bN 7 q_f6) k_f7 f7 k_f8 (bN 4 q_f8) k_f9 (bN 2 q_f9) k_f10 f10 k_f11 f11 k_f12 f12 k_f13 f13 k_f14 f14 k_f15 f15 k_f16 f16) H ∧ va_D (fun _ => True) (au__w au (nI nc) (nI np) (nI ne) st0 q4 q5 q6 q7 q8 q9 q10 q11 q12 q13 q14 q15 q16 k_f4 f4 k_f5 (bN 7 q_f5) k_f6 (bN 7 q_f6) k_f7 f7 k_f8 (bN 4 q_f8) k_f9 (bN 2 q_f9) k_f10 f10 k_f11 f11 k_f12 f12 k_f13 f13 k_f14 f14 k_f15 f15 k_f16 f16) ∧ va_S (va_A [] s.heap.size) s.heap H locs ∧ lv_has ls 6 [(0, .ref au), (1, .int (nI a0)), (2, .int g_14), (3, .int (nI g_4)), (4, .int (nI g_15))]) 13 ?_ _ _ _ _ ⟨g_3, 0, rfl, (Nat.le_of_ble_eq_true rfl), hsp, hP, hD, hS, lv_sub hl [1, 2, 3, 4, 0] rfl⟩
    rintro nn ih_16 H locs ls ⟨g_14, g_15, rfl, hg_15, he_19, hP, hD, hS, hl⟩
    obtain ⟨S_18, hsp, hin_20, hout_21⟩ := itr_step hlf_17 he_19
    refine lv_iload hx hb eX0_hurriedBehind_13 (lv_at hl 4 rfl) ?_
    refine lv_aload_n hx hb eX0_hurriedBehind_15 rfl (lv_at hl 0 rfl) ?_
    refine va_get (D := (dC, dI)) (ci := 0) (v := .int (nI ne)) (C := RX0) (T := TX0) (N := 17) hx hb hts hiX0 hown hK hP 0 rfl rfl 2 (by decide) v_1 (fun _ h9 => h9) rfl eX0_hurriedBehind_16 ?_
    refine lv_icmp_ge (tgt := 93) hx hb eX0_hurriedBehind_19 (by decide) (fun c_22 => ?_) (fun c_22 => ?_)
    · have c_22 : ne ≤ g_15 := (nI_leI (a := ne) (b := g_15) (Nat.lt_of_le_of_lt hne (Nat.le_of_ble_eq_true rfl)) (Nat.lt_of_le_of_lt hg_15 (Nat.le_of_ble_eq_true rfl))).mp c_22
      have hsp := hsp.trans (if_pos c_22)
      have hsp := hout_21 _ hsp
      refine lv_iinc (v := (nI (g_4 + 1))) (lv' := [(3, .int (nI (g_4 + 1))), (0, .ref au), (1, .int (nI a0)), (2, .int g_14), (4, .int (nI g_15))]) hx hb eX0_hurriedBehind_93 hl (k := 3) rfl (nI_1 _) (by decide) rfl (fun ls hl => ?_)
      refine lv_goto (tgt := 4) hx hb eX0_hurriedBehind_96 (by decide) ?_
      exact ih_5 (8 - (g_4 + 1)) (by omega) _ _ _ ⟨g_14, (g_4 + 1), rfl, (by omega), hin_9 _ hsp, hP, hD, hS, lv_sub hl [1, 2, 3, 0] rfl⟩
    · have c_22 : ¬ ne ≤ g_15 := fun z => c_22 ((nI_leI (a := ne) (b := g_15) (Nat.lt_of_le_of_lt hne (Nat.le_of_ble_eq_true rfl)) (Nat.lt_of_le_of_lt hg_15 (Nat.le_of_ble_eq_true rfl))).mpr z)
      have hsp := hsp.trans (if_neg c_22)
      refine lv_aload_n hx hb eX0_hurriedBehind_22 rfl (lv_at hl 0 rfl) ?_
      refine va_get (D := (dC, dI)) (ci := 0) (v := .ref q5) (C := RX0) (T := TX0) (N := 17) hx hb hts hiX0 hown hK hP 0 rfl rfl 5 (by decide) v_2 (fun _ h9 => h9) rfl eX0_hurriedBehind_23 ?_
      refine lv_iload hx hb eX0_hurriedBehind_26 (lv_at hl 4 rfl) ?_
      refine va_iald hx hb hK hP 2 1 rfl rfl (vp_in_nI (n := g_15) (by omega) (Nat.le_of_ble_eq_true rfl)) eX0_hurriedBehind_28 ?_
      refine lv_topi (fun y_23 ey_23 => ?_)
      obtain ⟨u_24, hu_24, qu_24, xu_24⟩ := bN_getx 7 q_f5 (n := g_15) (Nat.lt_of_le_of_lt hg_15 (Nat.le_of_ble_eq_true rfl))
      obtain rfl : y_23 = nI u_24 := ey_23.trans qu_24
      have hsp := hsp.trans (slet_eq xu_24)
      refine lv_iload_n hx hb eX0_hurriedBehind_29 rfl (lv_at hl 1 rfl) ?_
      obtain ⟨JR_27, hJR_27, hsp⟩ := slet_ex hsp
      refine pu_join (fun H locs ls st => ∃ (g_25 : Nat), st = [.int (nI g_25)] ∧ g_25 ≤ 1 ∧ g_25 = JR_27 ∧ va_P (dC, dI) vwCl (au__w au (nI nc) (nI np) (nI ne) st0 q4 q5 q6 q7 q8 q9 q10 q11 q12 q13 q14 q15 q16 k_f4 f4 k_f5 (bN 7 q_f5) k_f6 (bN 7 q_f6) k_f7 f7 k_f8 (bN 4 q_f8) k_f9 (bN 2 q_f9) k_f10 f10 k_f11 f11 k_f12 f12 k_f13 f13 k_f14 f14 k_f15 f15 k_f16 f16) H ∧ va_D (fun _ => True) (au__w au (nI nc) (nI np) (nI ne) st0 q4 q5 q6 q7 q8 q9 q10 q11 q12 q13 q14 q15 q16 k_f4 f4 k_f5 (bN 7 q_f5) k_f6 (bN 7 q_f6) k_f7 f7 k_f8 (bN 4 q_f8) k_f9 (bN 2 q_f9) k_f10 f10 k_f11 f11 k_f12 f12 k_f13 f13 k_f14 f14 k_f15 f15 k_f16 f16) ∧ va_S (va_A [] s.heap.size) s.heap H locs ∧ lv_has ls 6 [(0, .ref au), (1, .int (nI a0)), (2, .int g_14), (3, .int (nI g_4)), (4, .int (nI g_15))]) 53 ?_ (fun j_26 => ?_)
      · rintro H locs ls st ⟨g_25, rfl, hg_25, he_28, hP, hD, hS, hl⟩
        rw [← he_28] at hsp
        refine lv_istore (lv' := [(5, .int (nI g_25)), (0, .ref au), (1, .int (nI a0)), (2, .int g_14), (3, .int (nI g_4)), (4, .int (nI g_15))]) hx hb eX0_hurriedBehind_53 hl (by decide) rfl (fun ls hl => ?_)
        refine lv_iload hx hb eX0_hurriedBehind_55 (lv_at hl 0 rfl) ?_
        obtain ⟨JR_31, hJR_31, hsp⟩ := slet_ex hsp
        refine pu_join (fun H locs ls st => ∃ (g_29 : Int32), st = [] ∧ g_29 = JR_31 ∧ va_P (dC, dI) vwCl (au__w au (nI nc) (nI np) (nI ne) st0 q4 q5 q6 q7 q8 q9 q10 q11 q12 q13 q14 q15 q16 k_f4 f4 k_f5 (bN 7 q_f5) k_f6 (bN 7 q_f6) k_f7 f7 k_f8 (bN 4 q_f8) k_f9 (bN 2 q_f9) k_f10 f10 k_f11 f11 k_f12 f12 k_f13 f13 k_f14 f14 k_f15 f15 k_f16 f16) H ∧ va_D (fun _ => True) (au__w au (nI nc) (nI np) (nI ne) st0 q4 q5 q6 q7 q8 q9 q10 q11 q12 q13 q14 q15 q16 k_f4 f4 k_f5 (bN 7 q_f5) k_f6 (bN 7 q_f6) k_f7 f7 k_f8 (bN 4 q_f8) k_f9 (bN 2 q_f9) k_f10 f10 k_f11 f11 k_f12 f12 k_f13 f13 k_f14 f14 k_f15 f15 k_f16 f16) ∧ va_S (va_A [] s.heap.size) s.heap H locs ∧ lv_has ls 6 [(0, .ref au), (1, .int (nI a0)), (2, .int g_29), (3, .int (nI g_4)), (4, .int (nI g_15)), (5, .int (nI g_25))]) 87 ?_ (fun j_30 => ?_)
        · rintro H locs ls st ⟨g_29, rfl, he_32, hP, hD, hS, hl⟩
          rw [← he_32] at hsp
          refine lv_iinc (v := (nI (g_15 + 1))) (lv' := [(4, .int (nI (g_15 + 1))), (0, .ref au), (1, .int (nI a0)), (2, .int g_29), (3, .int (nI g_4)), (5, .int (nI g_25))]) hx hb eX0_hurriedBehind_87 hl (k := 4) rfl (nI_1 _) (by decide) rfl (fun ls hl => ?_)
          refine lv_goto (tgt := 13) hx hb eX0_hurriedBehind_90 (by decide) ?_
          exact ih_16 (14 - (g_15 + 1)) (by omega) _ _ _ ⟨g_29, (g_15 + 1), rfl, (by omega), hin_20 _ hsp, hP, hD, hS, lv_sub hl [1, 2, 3, 4, 0] rfl⟩
        have hsp := hJR_31
        refine lv_if_eq (tgt := 87) hx hb eX0_hurriedBehind_57 (by decide) (fun c_33 => ?_) (fun c_33 => ?_)
        · have c_33 : g_25 = 0 := (nI_eq (a := g_25) (b := 0) (Nat.lt_of_le_of_lt hg_25 (Nat.le_of_ble_eq_true rfl)) (Nat.le_of_ble_eq_true rfl)).mp c_33
          have hsp := hsp.trans (if_pos c_33)
          exact j_30 _ _ _ _ ⟨g_14, rfl, hsp.symm, hP, hD, hS, lv_sub hl [1, 2, 3, 4, 5, 0] rfl⟩
        · have c_33 : ¬ g_25 = 0 := fun z => c_33 ((nI_eq (a := g_25) (b := 0) (Nat.lt_of_le_of_lt hg_25 (Nat.le_of_ble_eq_true rfl)) (Nat.le_of_ble_eq_true rfl)).mpr z)
          have hsp := hsp.trans (if_neg c_33)
          refine lv_aload_n hx hb eX0_hurriedBehind_60 rfl (lv_at hl 1 rfl) ?_
          refine va_get (D := (dC, dI)) (ci := 0) (v := .ref q4) (C := RX0) (T := TX0) (N := 17) hx hb hts hiX0 hown hK hP 0 rfl rfl 4 (by decide) v_3 (fun _ h9 => h9) rfl eX0_hurriedBehind_61 ?_
          refine lv_aload_n hx hb eX0_hurriedBehind_64 rfl (lv_at hl 1 rfl) ?_
          refine va_get (D := (dC, dI)) (ci := 0) (v := .ref q6) (C := RX0) (T := TX0) (N := 17) hx hb hts hiX0 hown hK hP 0 rfl rfl 6 (by decide) v_4 (fun _ h9 => h9) rfl eX0_hurriedBehind_65 ?_
          refine lv_iload hx hb eX0_hurriedBehind_68 (lv_at hl 5 rfl) ?_
          refine va_iald hx hb hK hP 3 2 rfl rfl (vp_in_nI (n := g_15) (by omega) (Nat.le_of_ble_eq_true rfl)) eX0_hurriedBehind_70 ?_
          refine lv_topi (fun y_34 ey_34 => ?_)
          obtain ⟨u_35, hu_35, qu_35, xu_35⟩ := bN_getx 7 q_f6 (n := g_15) (Nat.lt_of_le_of_lt hg_15 (Nat.le_of_ble_eq_true rfl))
          obtain rfl : y_34 = nI u_35 := ey_34.trans qu_35
          have hsp := hsp.trans (slet_eq xu_35)
          refine va_zald hx hb hK hP 1 0 rfl rfl (vp_in_nI (n := u_35) (Nat.lt_of_le_of_lt hu_35 (Nat.le_of_ble_eq_true rfl)) (Nat.le_of_ble_eq_true rfl)) eX0_hurriedBehind_71 ?_
          refine lv_topi (fun y_36 ey_36 => ?_)
          have ey_36 : y_36 = f4 u_35 := ey_36.trans (congrArg f4 (nI_clamp (n := u_35) (Nat.lt_of_le_of_lt hu_35 (Nat.le_of_ble_eq_true rfl))))
          have hsp := hsp.trans (slet_eq ey_36)
          refine lv_if_eq (tgt := 87) hx hb eX0_hurriedBehind_72 (by decide) (fun c_37 => ?_) (fun c_37 => ?_)
          · have hcc_37 := c_37
            have hsp := hsp.trans (if_pos c_37)
            exact j_30 _ _ _ _ ⟨g_14, rfl, hsp.symm, hP, hD, hS, lv_sub hl [1, 2, 3, 4, 5, 0] rfl⟩
          · have hcc_37 := c_37
            have hsp := hsp.trans (if_neg c_37)
            refine lv_iload_n hx hb eX0_hurriedBehind_75 rfl (lv_at hl 3 rfl) ?_
            refine lv_iconst (v := 1) hx hb eX0_hurriedBehind_76 (by decide) ?_
            refine lv_aload_n hx hb eX0_hurriedBehind_77 rfl (lv_at hl 1 rfl) ?_
            refine va_get (D := (dC, dI)) (ci := 0) (v := .ref q6) (C := RX0) (T := TX0) (N := 17) hx hb hts hiX0 hown hK hP 0 rfl rfl 6 (by decide) v_4 (fun _ h9 => h9) rfl eX0_hurriedBehind_78 ?_
            refine lv_iload hx hb eX0_hurriedBehind_81 (lv_at hl 5 rfl) ?_
            refine va_iald hx hb hK hP 3 2 rfl rfl (vp_in_nI (n := g_15) (by omega) (Nat.le_of_ble_eq_true rfl)) eX0_hurriedBehind_83 ?_
            refine lv_topi (fun y_38 ey_38 => ?_)
            obtain rfl : y_38 = nI u_35 := ey_38.trans qu_35
            refine lv_ishl hx hb eX0_hurriedBehind_84 ?_
            refine lv_topi (fun y_40 ey_40 => ?_)
            have hsp := hsp.trans (slet_eq ey_40)
            refine lv_ior hx hb eX0_hurriedBehind_85 ?_
            refine lv_topi (fun y_41 ey_41 => ?_)
            have hsp := hsp.trans (slet_eq ey_41)
            refine lv_istore_n (lv' := [(2, .int y_41), (5, .int (nI g_25)), (0, .ref au), (1, .int (nI a0)), (3, .int (nI g_4)), (4, .int (nI g_15))]) hx hb eX0_hurriedBehind_86 rfl hl (by decide) rfl (fun ls hl => ?_)
            exact j_30 _ _ _ _ ⟨y_41, rfl, hsp.symm, hP, hD, hS, lv_sub hl [2, 3, 0, 4, 5, 1] rfl⟩
      have hsp := hJR_27
      refine lv_icmp_eq (tgt := 48) hx hb eX0_hurriedBehind_30 (by decide) (fun c_42 => ?_) (fun c_42 => ?_)
      · have c_42 : u_24 = a0 := (nI_eq (a := u_24) (b := a0) (Nat.lt_of_le_of_lt hu_24 (Nat.le_of_ble_eq_true rfl)) (Nat.lt_of_le_of_lt ha0 (Nat.le_of_ble_eq_true rfl))).mp c_42
        have hsp := hsp.trans (if_pos c_42)
        refine lv_iconst (v := 1) hx hb eX0_hurriedBehind_48 (by decide) ?_
        refine lv_goto (tgt := 53) hx hb eX0_hurriedBehind_49 (by decide) ?_
        exact j_26 _ _ _ _ ⟨1, rfl, (Nat.le_of_ble_eq_true rfl), hsp.symm, hP, hD, hS, lv_sub hl [0, 1, 2, 3, 4] rfl⟩
      · have c_42 : ¬ u_24 = a0 := fun z => c_42 ((nI_eq (a := u_24) (b := a0) (Nat.lt_of_le_of_lt hu_24 (Nat.le_of_ble_eq_true rfl)) (Nat.lt_of_le_of_lt ha0 (Nat.le_of_ble_eq_true rfl))).mpr z)
        have hsp := hsp.trans (if_neg c_42)
        refine lv_iload_n hx hb eX0_hurriedBehind_33 rfl (lv_at hl 2 rfl) ?_
        refine lv_aload_n hx hb eX0_hurriedBehind_34 rfl (lv_at hl 0 rfl) ?_
        refine va_get (D := (dC, dI)) (ci := 0) (v := .ref q5) (C := RX0) (T := TX0) (N := 17) hx hb hts hiX0 hown hK hP 0 rfl rfl 5 (by decide) v_2 (fun _ h9 => h9) rfl eX0_hurriedBehind_35 ?_
        refine lv_iload hx hb eX0_hurriedBehind_38 (lv_at hl 4 rfl) ?_
        refine va_iald hx hb hK hP 2 1 rfl rfl (vp_in_nI (n := g_15) (by omega) (Nat.le_of_ble_eq_true rfl)) eX0_hurriedBehind_40 ?_
        refine lv_topi (fun y_43 ey_43 => ?_)
        obtain rfl : y_43 = nI u_24 := ey_43.trans qu_24
        refine lv_ishr hx hb eX0_hurriedBehind_41 ?_
        refine lv_topi (fun y_45 ey_45 => ?_)
        have hsp := hsp.trans (slet_eq ey_45)
        refine lv_iconst (v := 1) hx hb eX0_hurriedBehind_42 (by decide) ?_
        refine lv_iand hx hb eX0_hurriedBehind_43 ?_
        refine lv_topi (fun y_46 ey_46 => ?_)
        have hsp := hsp.trans (slet_eq ey_46)
        refine lv_iconst (v := 1) hx hb eX0_hurriedBehind_44 (by decide) ?_
        refine lv_icmp_ne (tgt := 52) hx hb eX0_hurriedBehind_45 (by decide) (fun c_47 => ?_) (fun c_47 => ?_)
        · have hcc_47 := c_47
          have hsp := hsp.trans (if_neg c_47)
          refine lv_iconst (v := 0) hx hb eX0_hurriedBehind_52 (by decide) ?_
          exact j_26 _ _ _ _ ⟨0, rfl, (Nat.le_of_ble_eq_true rfl), hsp.symm, hP, hD, hS, lv_sub hl [0, 1, 2, 3, 4] rfl⟩
        · have hcc_47 := c_47
          have hsp := hsp.trans (if_pos c_47)
          refine lv_iconst (v := 1) hx hb eX0_hurriedBehind_48 (by decide) ?_
          refine lv_goto (tgt := 53) hx hb eX0_hurriedBehind_49 (by decide) ?_
          exact j_26 _ _ _ _ ⟨1, rfl, (Nat.le_of_ble_eq_true rfl), hsp.symm, hP, hD, hS, lv_sub hl [0, 1, 2, 3, 4] rfl⟩
theorem eX0_hurriedRings_0 : decode cX0_hurriedRings 0 = .ok (.iconst 0, 1) := by decide +kernel
theorem eX0_hurriedRings_1 : decode cX0_hurriedRings 1 = .ok (.istore_n 1, 1) := by decide +kernel
theorem eX0_hurriedRings_2 : decode cX0_hurriedRings 2 = .ok (.iconst 0, 1) := by decide +kernel
theorem eX0_hurriedRings_3 : decode cX0_hurriedRings 3 = .ok (.istore_n 2, 1) := by decide +kernel
theorem eX0_hurriedRings_4 : decode cX0_hurriedRings 4 = .ok (.iload_n 2, 1) := by decide +kernel
theorem eX0_hurriedRings_5 : decode cX0_hurriedRings 5 = .ok (.aload_n 0, 1) := by decide +kernel
theorem eX0_hurriedRings_6 : decode cX0_hurriedRings 6 = .ok (.getfield 59, 3) := by decide +kernel
theorem eX0_hurriedRings_9 : decode cX0_hurriedRings 9 = .ok (.if_icmp .ge 37, 3) := by decide +kernel
theorem eX0_hurriedRings_12 : decode cX0_hurriedRings 12 = .ok (.aload_n 0, 1) := by decide +kernel
theorem eX0_hurriedRings_13 : decode cX0_hurriedRings 13 = .ok (.getfield 15, 3) := by decide +kernel
theorem eX0_hurriedRings_16 : decode cX0_hurriedRings 16 = .ok (.iload_n 2, 1) := by decide +kernel
theorem eX0_hurriedRings_17 : decode cX0_hurriedRings 17 = .ok (.baload, 1) := by decide +kernel
theorem eX0_hurriedRings_18 : decode cX0_hurriedRings 18 = .ok (.ifCond .eq 22, 3) := by decide +kernel
theorem eX0_hurriedRings_21 : decode cX0_hurriedRings 21 = .ok (.aload_n 0, 1) := by decide +kernel
theorem eX0_hurriedRings_22 : decode cX0_hurriedRings 22 = .ok (.iload_n 2, 1) := by decide +kernel
theorem eX0_hurriedRings_23 : decode cX0_hurriedRings 23 = .ok (.invokevirtual 105, 3) := by decide +kernel
theorem eX0_hurriedRings_26 : decode cX0_hurriedRings 26 = .ok (.iload_n 2, 1) := by decide +kernel
theorem eX0_hurriedRings_27 : decode cX0_hurriedRings 27 = .ok (.ishr, 1) := by decide +kernel
theorem eX0_hurriedRings_28 : decode cX0_hurriedRings 28 = .ok (.iconst 1, 1) := by decide +kernel
theorem eX0_hurriedRings_29 : decode cX0_hurriedRings 29 = .ok (.iand, 1) := by decide +kernel
theorem eX0_hurriedRings_30 : decode cX0_hurriedRings 30 = .ok (.iconst 1, 1) := by decide +kernel
theorem eX0_hurriedRings_31 : decode cX0_hurriedRings 31 = .ok (.if_icmp .ne 9, 3) := by decide +kernel
theorem eX0_hurriedRings_34 : decode cX0_hurriedRings 34 = .ok (.iload_n 1, 1) := by decide +kernel
theorem eX0_hurriedRings_35 : decode cX0_hurriedRings 35 = .ok (.iconst 1, 1) := by decide +kernel
theorem eX0_hurriedRings_36 : decode cX0_hurriedRings 36 = .ok (.iload_n 2, 1) := by decide +kernel
theorem eX0_hurriedRings_37 : decode cX0_hurriedRings 37 = .ok (.ishl, 1) := by decide +kernel
theorem eX0_hurriedRings_38 : decode cX0_hurriedRings 38 = .ok (.ior, 1) := by decide +kernel
theorem eX0_hurriedRings_39 : decode cX0_hurriedRings 39 = .ok (.istore_n 1, 1) := by decide +kernel
theorem eX0_hurriedRings_40 : decode cX0_hurriedRings 40 = .ok (.iinc 2 1, 3) := by decide +kernel
theorem eX0_hurriedRings_43 : decode cX0_hurriedRings 43 = .ok (.goto (-39), 3) := by decide +kernel
theorem eX0_hurriedRings_46 : decode cX0_hurriedRings 46 = .ok (.iload_n 1, 1) := by decide +kernel
theorem eX0_hurriedRings_47 : decode cX0_hurriedRings 47 = .ok (.ireturn, 1) := by decide +kernel
abbrev vs_E_0_hurriedRings : List Cond := .code yX0_hurriedRings cX0_hurriedRings 3 (some .int) :: CM
theorem g_E_0_hurriedRings_E_0_hurriedBehind : GoodIn vs_E_0_hurriedRings (wsV RX0 105 RX0 yX0_hurriedBehind vs_E_0_hurriedBehind) := cm_gV cm_71 cm_72 cm_73 cm_19 cm_74
noncomputable def sp_E_0_hurriedRings_L1 (np : Nat) (ne : Nat) (f4 : Nat → Int32) (q_f5 : Nat → Nat) (q_f6 : Nat → Nat) : (Int32 × Nat) → (Int32 × Nat) ⊕ (Int32) := fun (g_3, g_4) => (if np ≤ g_4 then (Sum.inr g_3) else (slet (f4 g_4) (fun y_12 => (slet (α := Int32) (if (y_12 : Int32) = 0 then g_3 else (slet (sp_E_0_hurriedBehind ne f4 q_f5 q_f6 g_4) (fun r_18 => (slet ((r_18 : Int32) >>> (((nI g_4) : Int32) &&& 31)) (fun y_19 => (slet ((y_19 : Int32) &&& (1 : Int32)) (fun y_20 => (if (y_20 : Int32) = 1 then (slet ((1 : Int32) <<< (((nI g_4) : Int32) &&& 31)) (fun y_22 => (slet ((g_3 : Int32) ||| (y_22 : Int32)) (fun y_23 => y_23)))) else g_3)))))))) (fun g_13 => (Sum.inl (g_13, (g_4 + 1))))))))
noncomputable def sp_E_0_hurriedRings (np : Nat) (ne : Nat) (f4 : Nat → Int32) (q_f5 : Nat → Nat) (q_f6 : Nat → Nat) : Int32 := (itrv (α := Int32 × Nat) (β := (Int32)) default (sp_E_0_hurriedRings_L1 np ne f4 q_f5 q_f6) (0, 0))
set_option maxHeartbeats 4000000 in
set_option maxRecDepth 100000 in
theorem c_E_0_hurriedRings (l : Launch) (dC : Nat → ClassId) (dI : Nat → Nat → Nat) (sz : Nat) (au : Nat) (nc : Nat) (np : Nat) (ne : Nat) (st0 : Int32) (q4 : Nat) (q5 : Nat) (q6 : Nat) (q7 : Nat) (q8 : Nat) (q9 : Nat) (q10 : Nat) (q11 : Nat) (q12 : Nat) (q13 : Nat) (q14 : Nat) (q15 : Nat) (q16 : Nat) (k_f4 : ClassId) (f4 : Nat → Int32) (k_f5 : ClassId) (q_f5 : Nat → Nat) (k_f6 : ClassId) (q_f6 : Nat → Nat) (k_f7 : ClassId) (f7 : Nat → Int32) (k_f8 : ClassId) (q_f8 : Nat → Nat) (k_f9 : ClassId) (q_f9 : Nat → Nat) (k_f10 : ClassId) (f10 : Nat → Int32) (k_f11 : ClassId) (f11 : Nat → Int32) (k_f12 : ClassId) (f12 : Nat → Int32) (k_f13 : ClassId) (f13 : Nat → Int32) (k_f14 : ClassId) (f14 : Nat → Int32) (k_f15 : ClassId) (f15 : Nat → Int32) (k_f16 : ClassId) (f16 : Nat → Int32) (hnc : nc ≤ 3) (hnp : np ≤ 8) (hne : ne ≤ 14) (hst0 : pm1 7 st0) : Met l yX0_hurriedRings vs_E_0_hurriedRings ({ frames := 1, cells := 0, slots := 0, locals := 25 }) (va_Pc [.ref au] (pu_B (dC, dI) (au__w au (nI nc) (nI np) (nI ne) st0 q4 q5 q6 q7 q8 q9 q10 q11 q12 q13 q14 q15 q16 k_f4 f4 k_f5 (bN 7 q_f5) k_f6 (bN 7 q_f6) k_f7 f7 k_f8 (bN 4 q_f8) k_f9 (bN 2 q_f9) k_f10 f10 k_f11 f11 k_f12 f12 k_f13 f13 k_f14 f14 k_f15 f15 k_f16 f16) (au__t k_f4 k_f5 k_f6 k_f7 k_f8 k_f9 k_f10 k_f11 k_f12 k_f13 k_f14 k_f15 k_f16) sz)) (va_Qi (fun (r : Int32) (_ : Unit) => r = (sp_E_0_hurriedRings np ne f4 q_f5 q_f6)) (fun _ _ => True) (va_A [] sz)) 0 0 (va_A [] sz) := by
  refine Met.ofW (cc := cX0_hurriedRings) (maxL := 3) (ret := (some .int)) (by decide) rfl ?_
  intro p e s m args below meth c s₁ B hml hv
  obtain ⟨rfl, rfl, hP, hK, hD0⟩ := hv
  have hx := B.exec
  have hb := B.bytes
  have hr := B.returns
  have hts := atoms_spec (ws := vs_E_0_hurriedRings) B.pre
  have v_1 := hts (.fieldLink RX0 59 "ClockReach$Automaton" "places" "I") (List.mem_cons_of_mem _ cm_4)
  have v_2 := hts (.fieldLink RX0 15 "ClockReach$Automaton" "hurried" "[Z") (List.mem_cons_of_mem _ cm_7)
  have hown : s.vm.findClass RX0 = some m.cls := findClass_of_methodNamed B.named
  have hlocks := B.notSynchronized
  have hiX0 : ∀ w ∈ wsX00, w ∈ vs_E_0_hurriedRings := fun _ h => List.mem_cons_of_mem _ (cm_X0 h)
  have hD := hD0
  have hA : ∀ q : Nat, s.heap.size ≤ q → va_A [] s.heap.size q := fun _ h => Or.inr h
  have hS : va_S (va_A [] s.heap.size) s.heap s.heap [] := va_S.rf
  have hl := lv_entry ([.ref au]) (n := 3) (Nat.le_of_ble_eq_true rfl)
  rw [lg_entry_eq]
  generalize (lg_sl ([.ref au]) ++ List.replicate (3 - (lg_sl ([.ref au])).length) Slot.unset).toArray = ls at hl ⊢
  have hl : lv_has ls 3 [(0, .ref au)] := hl
  obtain ⟨RR, hRR⟩ : ∃ x, x = (sp_E_0_hurriedRings np ne f4 q_f5 q_f6) := ⟨_, rfl⟩
  have hsp := hRR
  refine lv_iconst (v := 0) hx hb eX0_hurriedRings_0 (by decide) ?_
  refine lv_istore_n (lv' := [(1, .int 0), (0, .ref au)]) hx hb eX0_hurriedRings_1 rfl hl (by decide) rfl (fun ls hl => ?_)
  refine lv_iconst (v := 0) hx hb eX0_hurriedRings_2 (by decide) ?_
  refine lv_istore_n (lv' := [(2, .int 0), (1, .int 0), (0, .ref au)]) hx hb eX0_hurriedRings_3 rfl hl (by decide) rfl (fun ls hl => ?_)
  obtain ⟨lf_6, dlf_6, hlf_6, hsp⟩ := itr_ex hsp
  delta sp_E_0_hurriedRings_L1 at hlf_6
  refine pu_while (fun nn H locs ls => ∃ (g_3 : Int32) (g_4 : Nat), nn = 8 - g_4 ∧ g_4 ≤ 8 ∧ RR = itrv dlf_6 lf_6 (g_3, g_4) ∧ va_P (dC, dI) vwCl (au__w au (nI nc) (nI np) (nI ne) st0 q4 q5 q6 q7 q8 q9 q10 q11 q12 q13 q14 q15 q16 k_f4 f4 k_f5 (bN 7 q_f5) k_f6 (bN 7 q_f6) k_f7 f7 k_f8 (bN 4 q_f8) k_f9 (bN 2 q_f9) k_f10 f10 k_f11 f11 k_f12 f12 k_f13 f13 k_f14 f14 k_f15 f15 k_f16 f16) H ∧ va_D (fun _ => True) (au__w au (nI nc) (nI np) (nI ne) st0 q4 q5 q6 q7 q8 q9 q10 q11 q12 q13 q14 q15 q16 k_f4 f4 k_f5 (bN 7 q_f5) k_f6 (bN 7 q_f6) k_f7 f7 k_f8 (bN 4 q_f8) k_f9 (bN 2 q_f9) k_f10 f10 k_f11 f11 k_f12 f12 k_f13 f13 k_f14 f14 k_f15 f15 k_f16 f16) ∧ va_S (va_A [] s.heap.size) s.heap H locs ∧ lv_has ls 3 [(0, .ref au), (1, .int g_3), (2, .int (nI g_4))]) 4 ?_ _ _ _ _ ⟨0, 0, rfl, (Nat.le_of_ble_eq_true rfl), hsp, hP, hD, hS, lv_sub hl [2, 1, 0] rfl⟩
  rintro nn ih_5 H locs ls ⟨g_3, g_4, rfl, hg_4, he_8, hP, hD, hS, hl⟩
  obtain ⟨S_7, hsp, hin_9, hout_10⟩ := itr_step hlf_6 he_8
  refine lv_iload_n hx hb eX0_hurriedRings_4 rfl (lv_at hl 2 rfl) ?_
  refine lv_aload_n hx hb eX0_hurriedRings_5 rfl (lv_at hl 0 rfl) ?_
  refine va_get (D := (dC, dI)) (ci := 0) (v := .int (nI np)) (C := RX0) (T := TX0) (N := 17) hx hb hts hiX0 hown hK hP 0 rfl rfl 1 (by decide) v_1 (fun _ h9 => h9) rfl eX0_hurriedRings_6 ?_
  refine lv_icmp_ge (tgt := 46) hx hb eX0_hurriedRings_9 (by decide) (fun c_11 => ?_) (fun c_11 => ?_)
  · have c_11 : np ≤ g_4 := (nI_leI (a := np) (b := g_4) (Nat.lt_of_le_of_lt hnp (Nat.le_of_ble_eq_true rfl)) (Nat.lt_of_le_of_lt hg_4 (Nat.le_of_ble_eq_true rfl))).mp c_11
    have hsp := hsp.trans (if_pos c_11)
    have hsp := hout_10 _ hsp
    refine lv_iload_n hx hb eX0_hurriedRings_46 rfl (lv_at hl 1 rfl) ?_
    exact W.iret (v := g_3) hx hb hr (fun t ht hW => ⟨⟨g_3, (), rfl, (hsp.symm.trans hRR), trivial⟩, hS.F ht⟩) hS.2.2 eX0_hurriedRings_47
  · have c_11 : ¬ np ≤ g_4 := fun z => c_11 ((nI_leI (a := np) (b := g_4) (Nat.lt_of_le_of_lt hnp (Nat.le_of_ble_eq_true rfl)) (Nat.lt_of_le_of_lt hg_4 (Nat.le_of_ble_eq_true rfl))).mpr z)
    have hsp := hsp.trans (if_neg c_11)
    refine lv_aload_n hx hb eX0_hurriedRings_12 rfl (lv_at hl 0 rfl) ?_
    refine va_get (D := (dC, dI)) (ci := 0) (v := .ref q4) (C := RX0) (T := TX0) (N := 17) hx hb hts hiX0 hown hK hP 0 rfl rfl 4 (by decide) v_2 (fun _ h9 => h9) rfl eX0_hurriedRings_13 ?_
    refine lv_iload_n hx hb eX0_hurriedRings_16 rfl (lv_at hl 2 rfl) ?_
    refine va_zald hx hb hK hP 1 0 rfl rfl (vp_in_nI (n := g_4) (by omega) (Nat.le_of_ble_eq_true rfl)) eX0_hurriedRings_17 ?_
    refine lv_topi (fun y_12 ey_12 => ?_)
    have ey_12 : y_12 = f4 g_4 := ey_12.trans (congrArg f4 (nI_clamp (n := g_4) (Nat.lt_of_le_of_lt hg_4 (Nat.le_of_ble_eq_true rfl))))
    have hsp := hsp.trans (slet_eq ey_12)
    obtain ⟨JR_15, hJR_15, hsp⟩ := slet_ex hsp
    refine pu_join (fun H locs ls st => ∃ (g_13 : Int32), st = [] ∧ g_13 = JR_15 ∧ va_P (dC, dI) vwCl (au__w au (nI nc) (nI np) (nI ne) st0 q4 q5 q6 q7 q8 q9 q10 q11 q12 q13 q14 q15 q16 k_f4 f4 k_f5 (bN 7 q_f5) k_f6 (bN 7 q_f6) k_f7 f7 k_f8 (bN 4 q_f8) k_f9 (bN 2 q_f9) k_f10 f10 k_f11 f11 k_f12 f12 k_f13 f13 k_f14 f14 k_f15 f15 k_f16 f16) H ∧ va_D (fun _ => True) (au__w au (nI nc) (nI np) (nI ne) st0 q4 q5 q6 q7 q8 q9 q10 q11 q12 q13 q14 q15 q16 k_f4 f4 k_f5 (bN 7 q_f5) k_f6 (bN 7 q_f6) k_f7 f7 k_f8 (bN 4 q_f8) k_f9 (bN 2 q_f9) k_f10 f10 k_f11 f11 k_f12 f12 k_f13 f13 k_f14 f14 k_f15 f15 k_f16 f16) ∧ va_S (va_A [] s.heap.size) s.heap H locs ∧ lv_has ls 3 [(0, .ref au), (1, .int g_13), (2, .int (nI g_4))]) 40 ?_ (fun j_14 => ?_)
    · rintro H locs ls st ⟨g_13, rfl, he_16, hP, hD, hS, hl⟩
      rw [← he_16] at hsp
      refine lv_iinc (v := (nI (g_4 + 1))) (lv' := [(2, .int (nI (g_4 + 1))), (0, .ref au), (1, .int g_13)]) hx hb eX0_hurriedRings_40 hl (k := 2) rfl (nI_1 _) (by decide) rfl (fun ls hl => ?_)
      refine lv_goto (tgt := 4) hx hb eX0_hurriedRings_43 (by decide) ?_
      exact ih_5 (8 - (g_4 + 1)) (by omega) _ _ _ ⟨g_13, (g_4 + 1), rfl, (by omega), hin_9 _ hsp, hP, hD, hS, lv_sub hl [1, 2, 0] rfl⟩
    have hsp := hJR_15
    refine lv_if_eq (tgt := 40) hx hb eX0_hurriedRings_18 (by decide) (fun c_17 => ?_) (fun c_17 => ?_)
    · have hcc_17 := c_17
      have hsp := hsp.trans (if_pos c_17)
      exact j_14 _ _ _ _ ⟨g_3, rfl, hsp.symm, hP, hD, hS, lv_sub hl [0, 1, 2] rfl⟩
    · have hcc_17 := c_17
      have hsp := hsp.trans (if_neg c_17)
      refine lv_aload_n hx hb eX0_hurriedRings_21 rfl (lv_at hl 0 rfl) ?_
      refine lv_iload_n hx hb eX0_hurriedRings_22 rfl (lv_at hl 2 rfl) ?_
      refine va_calli (va_runV (As := [.int (nI g_4)]) (rest := []) ⟨hx, hb, hml, hown, hts⟩ (c_E_0_hurriedBehind l dC dI _ au nc np ne st0 q4 q5 q6 q7 q8 q9 q10 q11 q12 q13 q14 q15 q16 k_f4 f4 k_f5 q_f5 k_f6 q_f6 k_f7 f7 k_f8 q_f8 k_f9 q_f9 k_f10 f10 k_f11 f11 k_f12 f12 k_f13 f13 k_f14 f14 k_f15 f15 k_f16 f16 g_4 hnc hnp hne (hst0) (by omega)) (cwV 1 hts g_E_0_hurriedRings_E_0_hurriedBehind rfl rfl rfl (by decide +kernel) ⟨Nat.le_of_ble_eq_true rfl, Nat.le_of_ble_eq_true rfl⟩) ⟨pu_bl, va_recv hK hP (ci := 0) (q0 := 0) rfl rfl, pu_in hP hK hD⟩ rfl rfl hl.1 rfl (lv_room (Nat.le_of_ble_eq_true rfl)) eX0_hurriedRings_23 ⟨Nat.le_of_ble_eq_true rfl, Nat.le_of_ble_eq_true rfl⟩) hS (fun q _ h => pu_fr hS hA q h) (pu_fr hS hA) (fun r_18 u t H1 locs ht hvm hw hB hz1 hk1 hS => ?_)
      have hP := pu_keep hP hk1
      clear hk1 hz1 ht hvm
      generalize H1 = H at hP hS ⊢
      have ir_18 := hw
      have hsp := hsp.trans (slet_eq ir_18)
      refine lv_iload_n hx hb eX0_hurriedRings_26 rfl (lv_at hl 2 rfl) ?_
      refine lv_ishr hx hb eX0_hurriedRings_27 ?_
      refine lv_topi (fun y_19 ey_19 => ?_)
      have hsp := hsp.trans (slet_eq ey_19)
      refine lv_iconst (v := 1) hx hb eX0_hurriedRings_28 (by decide) ?_
      refine lv_iand hx hb eX0_hurriedRings_29 ?_
      refine lv_topi (fun y_20 ey_20 => ?_)
      have hsp := hsp.trans (slet_eq ey_20)
      refine lv_iconst (v := 1) hx hb eX0_hurriedRings_30 (by decide) ?_
      refine lv_icmp_ne (tgt := 40) hx hb eX0_hurriedRings_31 (by decide) (fun c_21 => ?_) (fun c_21 => ?_)
      · have hcc_21 := c_21
        have hsp := hsp.trans (if_neg c_21)
        exact j_14 _ _ _ _ ⟨g_3, rfl, hsp.symm, hP, hD, hS, lv_sub hl [0, 1, 2] rfl⟩
      · have hcc_21 := c_21
        have hsp := hsp.trans (if_pos c_21)
        refine lv_iload_n hx hb eX0_hurriedRings_34 rfl (lv_at hl 1 rfl) ?_
        refine lv_iconst (v := 1) hx hb eX0_hurriedRings_35 (by decide) ?_
        refine lv_iload_n hx hb eX0_hurriedRings_36 rfl (lv_at hl 2 rfl) ?_
        refine lv_ishl hx hb eX0_hurriedRings_37 ?_
        refine lv_topi (fun y_22 ey_22 => ?_)
        have hsp := hsp.trans (slet_eq ey_22)
        refine lv_ior hx hb eX0_hurriedRings_38 ?_
        refine lv_topi (fun y_23 ey_23 => ?_)
        have hsp := hsp.trans (slet_eq ey_23)
        refine lv_istore_n (lv' := [(1, .int y_23), (0, .ref au), (2, .int (nI g_4))]) hx hb eX0_hurriedRings_39 rfl hl (by decide) rfl (fun ls hl => ?_)
        exact j_14 _ _ _ _ ⟨y_23, rfl, hsp.symm, hP, hD, hS, lv_sub hl [1, 0, 2] rfl⟩
