abbrev vs_E_0_slot : List Cond := .code yX0_slot cX0_slot 2 (some .int) :: CM
noncomputable def sp_E_0_slot : Unit := ()
set_option maxHeartbeats 4000000 in
set_option maxRecDepth 100000 in
theorem c_E_0_slot (l : Launch) (dC : Nat → ClassId) (dI : Nat → Nat → Nat) (sz : Nat) (a0 : Nat) (a1 : Nat) (ha0 : a0 ≤ 21) (ha1 : a1 ≤ 4) : Met l yX0_slot vs_E_0_slot ({ frames := 0, cells := 0, slots := 0, locals := 0 }) (va_Pc [.int (nI a0), .int (nI a1)] (pu_B (dC, dI) [] [] sz)) (va_Qi (fun (r : Int32) (_ : Unit) => r = nI (a0 * 4 + a1)) (fun _ _ => True) (va_A [] sz)) 0 0 (va_A [] sz) := by
  refine Met.ofW (cc := cX0_slot) (maxL := 2) (ret := (some .int)) (by decide) rfl ?_
  intro p e s m args below meth c s₁ B hml hv
  obtain ⟨rfl, rfl, hP, hK, hD0⟩ := hv
  have hx := B.exec
  have hb := B.bytes
  have hr := B.returns
  have hts := atoms_spec (ws := vs_E_0_slot) B.pre
  have hown : s.vm.findClass RX0 = some m.cls := findClass_of_methodNamed B.named
  have hlocks := B.notSynchronized
  have hD := hD0
  have hA : ∀ q : Nat, s.heap.size ≤ q → va_A [] s.heap.size q := fun _ h => Or.inr h
  have hS : va_S (va_A [] s.heap.size) s.heap s.heap [] := va_S.rf
  have hl := lv_entry ([.int (nI a0), .int (nI a1)]) (n := 2) (Nat.le_of_ble_eq_true rfl)
  rw [lg_entry_eq]
  generalize (lg_sl ([.int (nI a0), .int (nI a1)]) ++ List.replicate (2 - (lg_sl ([.int (nI a0), .int (nI a1)])).length) Slot.unset).toArray = ls at hl ⊢
  have hl : lv_has ls 2 [(0, .int (nI a0)), (1, .int (nI a1))] := hl
  obtain ⟨RR, hRR⟩ : ∃ x, x = sp_E_0_slot := ⟨_, rfl⟩
  have hsp := hRR
  refine lv_iload_n hx hb eX0_slot_0 rfl (lv_at hl 0 rfl) ?_
  refine lv_iconst (v := 4) hx hb eX0_slot_1 (by decide) ?_
  refine lv_imul hx hb eX0_slot_2 ?_
  refine lv_topi (fun y_1 ey_1 => ?_)
  obtain rfl : y_1 = (nI (a0 * 4)) := ey_1.trans (pk_mul a0 4)
  refine lv_iload_n hx hb eX0_slot_3 rfl (lv_at hl 1 rfl) ?_
  refine lv_iadd hx hb eX0_slot_4 ?_
  refine lv_topi (fun y_2 ey_2 => ?_)
  obtain rfl : y_2 = (nI ((a0 * 4) + a1)) := ey_2.trans (nI_add (a0 * 4) a1)
  exact W.iret (v := (nI ((a0 * 4) + a1))) hx hb hr (fun t ht hW => ⟨⟨(nI ((a0 * 4) + a1)), (), rfl, congrArg nI (by omega), trivial⟩, hS.F ht⟩) hS.2.2 eX0_slot_5
abbrev vs_E_0_hostOfPlace : List Cond := .code yX0_hostOfPlace cX0_hostOfPlace 1 (some .int) :: CM
noncomputable def sp_E_0_hostOfPlace : Unit := ()
set_option maxHeartbeats 4000000 in
set_option maxRecDepth 100000 in
theorem c_E_0_hostOfPlace (l : Launch) (dC : Nat → ClassId) (dI : Nat → Nat → Nat) (sz : Nat) (a0 : Nat) (ha0 : a0 ≤ 7) : Met l yX0_hostOfPlace vs_E_0_hostOfPlace ({ frames := 0, cells := 0, slots := 0, locals := 0 }) (va_Pc [.int (nI a0)] (pu_B (dC, dI) [] [] sz)) (va_Qi (fun (r : Int32) (_ : Unit) => r = nI (14 + a0)) (fun _ _ => True) (va_A [] sz)) 0 0 (va_A [] sz) := by
  refine Met.ofW (cc := cX0_hostOfPlace) (maxL := 1) (ret := (some .int)) (by decide) rfl ?_
  intro p e s m args below meth c s₁ B hml hv
  obtain ⟨rfl, rfl, hP, hK, hD0⟩ := hv
  have hx := B.exec
  have hb := B.bytes
  have hr := B.returns
  have hts := atoms_spec (ws := vs_E_0_hostOfPlace) B.pre
  have hown : s.vm.findClass RX0 = some m.cls := findClass_of_methodNamed B.named
  have hlocks := B.notSynchronized
  have hD := hD0
  have hA : ∀ q : Nat, s.heap.size ≤ q → va_A [] s.heap.size q := fun _ h => Or.inr h
  have hS : va_S (va_A [] s.heap.size) s.heap s.heap [] := va_S.rf
  have hl := lv_entry ([.int (nI a0)]) (n := 1) (Nat.le_of_ble_eq_true rfl)
  rw [lg_entry_eq]
  generalize (lg_sl ([.int (nI a0)]) ++ List.replicate (1 - (lg_sl ([.int (nI a0)])).length) Slot.unset).toArray = ls at hl ⊢
  have hl : lv_has ls 1 [(0, .int (nI a0))] := hl
  obtain ⟨RR, hRR⟩ : ∃ x, x = sp_E_0_hostOfPlace := ⟨_, rfl⟩
  have hsp := hRR
  refine lv_bipush (v := 14) hx hb eX0_hostOfPlace_0 (by decide) ?_
  refine lv_iload_n hx hb eX0_hostOfPlace_2 rfl (lv_at hl 0 rfl) ?_
  refine lv_iadd hx hb eX0_hostOfPlace_3 ?_
  refine lv_topi (fun y_1 ey_1 => ?_)
  obtain rfl : y_1 = (nI (14 + a0)) := ey_1.trans (nI_add 14 a0)
  exact W.iret (v := (nI (14 + a0))) hx hb hr (fun t ht hW => ⟨⟨(nI (14 + a0)), (), rfl, congrArg nI (by omega), trivial⟩, hS.F ht⟩) hS.2.2 eX0_hostOfPlace_4
abbrev vs_E_0_setBounds : List Cond := .code yX0_setBounds cX0_setBounds 4 none :: CM
noncomputable def sp_E_0_setBounds (f10 : Nat → Int32) (f11 : Nat → Int32) (f12 : Nat → Int32) (f13 : Nat → Int32) (a0 : Nat) : (Nat → Int32) × (Nat → Int32) := (slet (f10 a0) (fun y_1 => (slet (f11 a0) (fun y_2 => (slet (α := Int32) (if (y_1 : Int32) ≤ 2 then (if (y_1 : Int32) = 0 then (slet ((2 : Int32) * y_2) (fun y_20 => y_20)) else (slet ((2 : Int32) * y_2) (fun y_18 => (slet ((y_18 : Int32) + 1) (fun y_19 => y_19))))) else 2147483647) (fun g_3 => (slet (upd f12 a0 g_3) (fun f_7 => (if (2 : Int32) ≤ y_1 then (if (y_1 : Int32) = 4 then (slet (((-2) : Int32) * y_2) (fun y_13 => (slet (upd f13 a0 y_13) (fun f_14 => (f_14, f_7))))) else (slet ((2 : Int32) * y_2) (fun y_10 => (slet ((1 : Int32) - y_10) (fun y_11 => (slet (upd f13 a0 y_11) (fun f_12 => (f_12, f_7)))))))) else (slet (upd f13 a0 2147483647) (fun f_15 => (f_15, f_7))))))))))))
set_option maxHeartbeats 4000000 in
set_option maxRecDepth 100000 in
theorem c_E_0_setBounds (l : Launch) (dC : Nat → ClassId) (dI : Nat → Nat → Nat) (sz : Nat) (au : Nat) (nc : Nat) (np : Nat) (ne : Nat) (st0 : Int32) (q4 : Nat) (q5 : Nat) (q6 : Nat) (q7 : Nat) (q8 : Nat) (q9 : Nat) (q10 : Nat) (q11 : Nat) (q12 : Nat) (q13 : Nat) (q14 : Nat) (q15 : Nat) (q16 : Nat) (k_f4 : ClassId) (f4 : Nat → Int32) (k_f5 : ClassId) (q_f5 : Nat → Nat) (k_f6 : ClassId) (q_f6 : Nat → Nat) (k_f7 : ClassId) (f7 : Nat → Int32) (k_f8 : ClassId) (q_f8 : Nat → Nat) (k_f9 : ClassId) (q_f9 : Nat → Nat) (k_f10 : ClassId) (f10 : Nat → Int32) (k_f11 : ClassId) (f11 : Nat → Int32) (k_f12 : ClassId) (f12 : Nat → Int32) (k_f13 : ClassId) (f13 : Nat → Int32) (k_f14 : ClassId) (f14 : Nat → Int32) (k_f15 : ClassId) (f15 : Nat → Int32) (k_f16 : ClassId) (f16 : Nat → Int32) (a0 : Nat) (hnc : nc ≤ 3) (hnp : np ≤ 8) (hne : ne ≤ 14) (hst0 : pm1 7 st0) (ha0 : a0 ≤ 87) : Met l yX0_setBounds vs_E_0_setBounds ({ frames := 0, cells := 0, slots := 0, locals := 0 }) (va_Pc [.ref au, .int (nI a0)] (pu_B (dC, dI) (au__w au (nI nc) (nI np) (nI ne) st0 q4 q5 q6 q7 q8 q9 q10 q11 q12 q13 q14 q15 q16 k_f4 f4 k_f5 (bN 7 q_f5) k_f6 (bN 7 q_f6) k_f7 f7 k_f8 (bN 4 q_f8) k_f9 (bN 2 q_f9) k_f10 f10 k_f11 f11 k_f12 f12 k_f13 f13 k_f14 f14 k_f15 f15 k_f16 f16) (au__t k_f4 k_f5 k_f6 k_f7 k_f8 k_f9 k_f10 k_f11 k_f12 k_f13 k_f14 k_f15 k_f16) sz)) (va_Qv (fun (_ : Unit) => True) (fun _ t => ∃ (z_f13 : Nat → Int32) (z_f12 : Nat → Int32), pu_E (dC, dI) (au__w au (nI nc) (nI np) (nI ne) st0 q4 q5 q6 q7 q8 q9 q10 q11 q12 q13 q14 q15 q16 k_f4 f4 k_f5 (bN 7 q_f5) k_f6 (bN 7 q_f6) k_f7 f7 k_f8 (bN 4 q_f8) k_f9 (bN 2 q_f9) k_f10 f10 k_f11 f11 k_f12 z_f12 k_f13 z_f13 k_f14 f14 k_f15 f15 k_f16 f16) (au__t k_f4 k_f5 k_f6 k_f7 k_f8 k_f9 k_f10 k_f11 k_f12 k_f13 k_f14 k_f15 k_f16) (va_A ((au__w au (nI nc) (nI np) (nI ne) st0 q4 q5 q6 q7 q8 q9 q10 q11 q12 q13 q14 q15 q16 k_f4 f4 k_f5 (bN 7 q_f5) k_f6 (bN 7 q_f6) k_f7 f7 k_f8 (bN 4 q_f8) k_f9 (bN 2 q_f9) k_f10 f10 k_f11 f11 k_f12 f12 k_f13 f13 k_f14 f14 k_f15 f15 k_f16 f16)) sz) t ∧ ((z_f13, z_f12) = (sp_E_0_setBounds f10 f11 f12 f13 a0))) (va_A ((au__w au (nI nc) (nI np) (nI ne) st0 q4 q5 q6 q7 q8 q9 q10 q11 q12 q13 q14 q15 q16 k_f4 f4 k_f5 (bN 7 q_f5) k_f6 (bN 7 q_f6) k_f7 f7 k_f8 (bN 4 q_f8) k_f9 (bN 2 q_f9) k_f10 f10 k_f11 f11 k_f12 f12 k_f13 f13 k_f14 f14 k_f15 f15 k_f16 f16)) sz)) 0 0 (va_A ((au__w au (nI nc) (nI np) (nI ne) st0 q4 q5 q6 q7 q8 q9 q10 q11 q12 q13 q14 q15 q16 k_f4 f4 k_f5 (bN 7 q_f5) k_f6 (bN 7 q_f6) k_f7 f7 k_f8 (bN 4 q_f8) k_f9 (bN 2 q_f9) k_f10 f10 k_f11 f11 k_f12 f12 k_f13 f13 k_f14 f14 k_f15 f15 k_f16 f16)) sz) := by
  refine Met.ofW (cc := cX0_setBounds) (maxL := 4) (ret := none) (by decide) rfl ?_
  intro p e s m args below meth c s₁ B hml hv
  obtain ⟨rfl, rfl, hP, hK, hD0⟩ := hv
  have hx := B.exec
  have hb := B.bytes
  have hr := B.returns
  have hts := atoms_spec (ws := vs_E_0_setBounds) B.pre
  have v_1 := hts (.fieldLink RX0 35 "ClockReach$Automaton" "hows" "[I") (List.mem_cons_of_mem _ cm_15)
  have v_2 := hts (.fieldLink RX0 38 "ClockReach$Automaton" "numbers" "[I") (List.mem_cons_of_mem _ cm_16)
  have v_3 := hts (.fieldLink RX0 41 "ClockReach$Automaton" "ceilings" "[I") (List.mem_cons_of_mem _ cm_24)
  have v_4 := hts (.constant RX0 75 (2147483647)) (List.mem_cons_of_mem _ cm_25)
  have v_5 := hts (.fieldLink RX0 44 "ClockReach$Automaton" "floors" "[I") (List.mem_cons_of_mem _ cm_26)
  have hown : s.vm.findClass RX0 = some m.cls := findClass_of_methodNamed B.named
  have hlocks := B.notSynchronized
  have hiX0 : ∀ w ∈ wsX00, w ∈ vs_E_0_setBounds := fun _ h => List.mem_cons_of_mem _ (cm_X0 h)
  have hD := hD0.self (sz := s.heap.size)
  generalize hAe : va_A ((au__w au (nI nc) (nI np) (nI ne) st0 q4 q5 q6 q7 q8 q9 q10 q11 q12 q13 q14 q15 q16 k_f4 f4 k_f5 (bN 7 q_f5) k_f6 (bN 7 q_f6) k_f7 f7 k_f8 (bN 4 q_f8) k_f9 (bN 2 q_f9) k_f10 f10 k_f11 f11 k_f12 f12 k_f13 f13 k_f14 f14 k_f15 f15 k_f16 f16)) s.heap.size = A at hD ⊢
  have hA : ∀ q : Nat, s.heap.size ≤ q → A q := fun q h => by rw [← hAe]; exact Or.inr h
  have hS : va_S A s.heap s.heap [] := va_S.rf
  have hl := lv_entry ([.ref au, .int (nI a0)]) (n := 4) (Nat.le_of_ble_eq_true rfl)
  rw [lg_entry_eq]
  generalize (lg_sl ([.ref au, .int (nI a0)]) ++ List.replicate (4 - (lg_sl ([.ref au, .int (nI a0)])).length) Slot.unset).toArray = ls at hl ⊢
  have hl : lv_has ls 4 [(0, .ref au), (1, .int (nI a0))] := hl
  obtain ⟨RR, hRR⟩ : ∃ x, x = (sp_E_0_setBounds f10 f11 f12 f13 a0) := ⟨_, rfl⟩
  have hsp := hRR
  refine lv_aload_n hx hb eX0_setBounds_0 rfl (lv_at hl 0 rfl) ?_
  refine va_get (D := (dC, dI)) (ci := 0) (v := .ref q10) (C := RX0) (T := TX0) (N := 17) hx hb hts hiX0 hown hK hP 0 rfl rfl 10 (by decide) v_1 (fun _ h9 => h9) rfl eX0_setBounds_1 ?_
  refine lv_iload_n hx hb eX0_setBounds_4 rfl (lv_at hl 1 rfl) ?_
  refine va_iald hx hb hK hP 7 6 rfl rfl (vp_in_nI (n := a0) (Nat.lt_of_le_of_lt ha0 (Nat.le_of_ble_eq_true rfl)) (Nat.le_of_ble_eq_true rfl)) eX0_setBounds_5 ?_
  refine lv_topi (fun y_1 ey_1 => ?_)
  have ey_1 : y_1 = f10 a0 := ey_1.trans (congrArg f10 (nI_clamp (n := a0) (Nat.lt_of_le_of_lt ha0 (Nat.le_of_ble_eq_true rfl))))
  have hsp := hsp.trans (slet_eq ey_1)
  refine lv_istore_n (lv' := [(2, .int y_1), (0, .ref au), (1, .int (nI a0))]) hx hb eX0_setBounds_6 rfl hl (by decide) rfl (fun ls hl => ?_)
  refine lv_aload_n hx hb eX0_setBounds_7 rfl (lv_at hl 1 rfl) ?_
  refine va_get (D := (dC, dI)) (ci := 0) (v := .ref q11) (C := RX0) (T := TX0) (N := 17) hx hb hts hiX0 hown hK hP 0 rfl rfl 11 (by decide) v_2 (fun _ h9 => h9) rfl eX0_setBounds_8 ?_
  refine lv_iload_n hx hb eX0_setBounds_11 rfl (lv_at hl 2 rfl) ?_
  refine va_iald hx hb hK hP 8 7 rfl rfl (vp_in_nI (n := a0) (Nat.lt_of_le_of_lt ha0 (Nat.le_of_ble_eq_true rfl)) (Nat.le_of_ble_eq_true rfl)) eX0_setBounds_12 ?_
  refine lv_topi (fun y_2 ey_2 => ?_)
  have ey_2 : y_2 = f11 a0 := ey_2.trans (congrArg f11 (nI_clamp (n := a0) (Nat.lt_of_le_of_lt ha0 (Nat.le_of_ble_eq_true rfl))))
  have hsp := hsp.trans (slet_eq ey_2)
  refine lv_istore_n (lv' := [(3, .int y_2), (2, .int y_1), (0, .ref au), (1, .int (nI a0))]) hx hb eX0_setBounds_13 rfl hl (by decide) rfl (fun ls hl => ?_)
  refine lv_aload_n hx hb eX0_setBounds_14 rfl (lv_at hl 2 rfl) ?_
  refine va_get (D := (dC, dI)) (ci := 0) (v := .ref q12) (C := RX0) (T := TX0) (N := 17) hx hb hts hiX0 hown hK hP 0 rfl rfl 12 (by decide) v_3 (fun _ h9 => h9) rfl eX0_setBounds_15 ?_
  refine lv_iload_n hx hb eX0_setBounds_18 rfl (lv_at hl 3 rfl) ?_
  refine lv_iload_n hx hb eX0_setBounds_19 rfl (lv_at hl 1 rfl) ?_
  refine lv_iconst (v := 2) hx hb eX0_setBounds_20 (by decide) ?_
  obtain ⟨JR_5, hJR_5, hsp⟩ := slet_ex hsp
  refine pu_join (fun H locs ls st => ∃ (g_3 : Int32), st = [.int g_3, .int (nI a0), .ref q12] ∧ g_3 = JR_5 ∧ va_P (dC, dI) vwCl (au__w au (nI nc) (nI np) (nI ne) st0 q4 q5 q6 q7 q8 q9 q10 q11 q12 q13 q14 q15 q16 k_f4 f4 k_f5 (bN 7 q_f5) k_f6 (bN 7 q_f6) k_f7 f7 k_f8 (bN 4 q_f8) k_f9 (bN 2 q_f9) k_f10 f10 k_f11 f11 k_f12 f12 k_f13 f13 k_f14 f14 k_f15 f15 k_f16 f16) H ∧ va_D A (au__w au (nI nc) (nI np) (nI ne) st0 q4 q5 q6 q7 q8 q9 q10 q11 q12 q13 q14 q15 q16 k_f4 f4 k_f5 (bN 7 q_f5) k_f6 (bN 7 q_f6) k_f7 f7 k_f8 (bN 4 q_f8) k_f9 (bN 2 q_f9) k_f10 f10 k_f11 f11 k_f12 f12 k_f13 f13 k_f14 f14 k_f15 f15 k_f16 f16) ∧ va_S A s.heap H locs ∧ lv_has ls 4 [(0, .ref au), (1, .int (nI a0)), (2, .int y_1), (3, .int y_2)]) 44 ?_ (fun j_4 => ?_)
  · rintro H locs ls st ⟨g_3, rfl, he_6, hP, hD, hS, hl⟩
    rw [← he_6] at hsp
    refine va_iast hx hb hK hP hD hS 9 8 rfl rfl (vp_in_nI (n := a0) (Nat.lt_of_le_of_lt ha0 (Nat.le_of_ble_eq_true rfl)) (Nat.le_of_ble_eq_true rfl)) eX0_setBounds_44 (fun H locs hP hD hS => ?_)
    obtain ⟨f_7, ef_7, xf_7⟩ := up_x f12 (n := a0) g_3 (Nat.lt_of_le_of_lt ha0 (Nat.le_of_ble_eq_true rfl))
    have hP : va_P (dC, dI) vwCl (au__w au (nI nc) (nI np) (nI ne) st0 q4 q5 q6 q7 q8 q9 q10 q11 q12 q13 q14 q15 q16 k_f4 f4 k_f5 (bN 7 q_f5) k_f6 (bN 7 q_f6) k_f7 f7 k_f8 (bN 4 q_f8) k_f9 (bN 2 q_f9) k_f10 f10 k_f11 f11 k_f12 f_7 k_f13 f13 k_f14 f14 k_f15 f15 k_f16 f16) H := by rw [← ef_7]; exact hP
    have hD : va_D A (au__w au (nI nc) (nI np) (nI ne) st0 q4 q5 q6 q7 q8 q9 q10 q11 q12 q13 q14 q15 q16 k_f4 f4 k_f5 (bN 7 q_f5) k_f6 (bN 7 q_f6) k_f7 f7 k_f8 (bN 4 q_f8) k_f9 (bN 2 q_f9) k_f10 f10 k_f11 f11 k_f12 f_7 k_f13 f13 k_f14 f14 k_f15 f15 k_f16 f16) := by rw [← ef_7]; exact hD
    have hsp := hsp.trans (slet_eq xf_7)
    refine lv_aload_n hx hb eX0_setBounds_45 rfl (lv_at hl 0 rfl) ?_
    refine va_get (D := (dC, dI)) (ci := 0) (v := .ref q13) (C := RX0) (T := TX0) (N := 17) hx hb hts hiX0 hown hK hP 0 rfl rfl 13 (by decide) v_5 (fun _ h9 => h9) rfl eX0_setBounds_46 ?_
    refine lv_iload_n hx hb eX0_setBounds_49 rfl (lv_at hl 1 rfl) ?_
    refine lv_iload_n hx hb eX0_setBounds_50 rfl (lv_at hl 2 rfl) ?_
    refine lv_iconst (v := 2) hx hb eX0_setBounds_51 (by decide) ?_
    refine lv_icmp_ge (tgt := 60) hx hb eX0_setBounds_52 (by decide) (fun c_8 => ?_) (fun c_8 => ?_)
    · have hcc_8 := c_8
      have hsp := hsp.trans (if_pos c_8)
      refine lv_iload_n hx hb eX0_setBounds_60 rfl (lv_at hl 2 rfl) ?_
      refine lv_iconst (v := 4) hx hb eX0_setBounds_61 (by decide) ?_
      refine lv_icmp_ne (tgt := 72) hx hb eX0_setBounds_62 (by decide) (fun c_9 => ?_) (fun c_9 => ?_)
      · have hcc_9 := c_9
        have hsp := hsp.trans (if_neg c_9)
        refine lv_iconst (v := 1) hx hb eX0_setBounds_72 (by decide) ?_
        refine lv_iconst (v := 2) hx hb eX0_setBounds_73 (by decide) ?_
        refine lv_iload_n hx hb eX0_setBounds_74 rfl (lv_at hl 3 rfl) ?_
        refine lv_imul hx hb eX0_setBounds_75 ?_
        refine lv_topi (fun y_10 ey_10 => ?_)
        have hsp := hsp.trans (slet_eq ey_10)
        refine lv_isub hx hb eX0_setBounds_76 ?_
        refine lv_topi (fun y_11 ey_11 => ?_)
        have hsp := hsp.trans (slet_eq ey_11)
        refine va_iast hx hb hK hP hD hS 10 9 rfl rfl (vp_in_nI (n := a0) (Nat.lt_of_le_of_lt ha0 (Nat.le_of_ble_eq_true rfl)) (Nat.le_of_ble_eq_true rfl)) eX0_setBounds_77 (fun H locs hP hD hS => ?_)
        obtain ⟨f_12, ef_12, xf_12⟩ := up_x f13 (n := a0) y_11 (Nat.lt_of_le_of_lt ha0 (Nat.le_of_ble_eq_true rfl))
        have hP : va_P (dC, dI) vwCl (au__w au (nI nc) (nI np) (nI ne) st0 q4 q5 q6 q7 q8 q9 q10 q11 q12 q13 q14 q15 q16 k_f4 f4 k_f5 (bN 7 q_f5) k_f6 (bN 7 q_f6) k_f7 f7 k_f8 (bN 4 q_f8) k_f9 (bN 2 q_f9) k_f10 f10 k_f11 f11 k_f12 f_7 k_f13 f_12 k_f14 f14 k_f15 f15 k_f16 f16) H := by rw [← ef_12]; exact hP
        have hD : va_D A (au__w au (nI nc) (nI np) (nI ne) st0 q4 q5 q6 q7 q8 q9 q10 q11 q12 q13 q14 q15 q16 k_f4 f4 k_f5 (bN 7 q_f5) k_f6 (bN 7 q_f6) k_f7 f7 k_f8 (bN 4 q_f8) k_f9 (bN 2 q_f9) k_f10 f10 k_f11 f11 k_f12 f_7 k_f13 f_12 k_f14 f14 k_f15 f15 k_f16 f16) := by rw [← ef_12]; exact hD
        have hsp := hsp.trans (slet_eq xf_12)
        exact W.vret hx hb hr (fun t ht hW => ⟨⟨(), rfl, trivial, ⟨f_12, f_7, ⟨by rw [ht]; exact hP, va_K.moved hW.alike hK, hD⟩, (hsp.symm.trans hRR)⟩⟩, hS.F ht⟩) hS.2.2 eX0_setBounds_78
      · have hcc_9 := c_9
        have hsp := hsp.trans (if_pos c_9)
        refine lv_bipush (v := (-2)) hx hb eX0_setBounds_65 (by decide) ?_
        refine lv_iload_n hx hb eX0_setBounds_67 rfl (lv_at hl 3 rfl) ?_
        refine lv_imul hx hb eX0_setBounds_68 ?_
        refine lv_topi (fun y_13 ey_13 => ?_)
        have hsp := hsp.trans (slet_eq ey_13)
        refine lv_goto (tgt := 77) hx hb eX0_setBounds_69 (by decide) ?_
        refine va_iast hx hb hK hP hD hS 10 9 rfl rfl (vp_in_nI (n := a0) (Nat.lt_of_le_of_lt ha0 (Nat.le_of_ble_eq_true rfl)) (Nat.le_of_ble_eq_true rfl)) eX0_setBounds_77 (fun H locs hP hD hS => ?_)
        obtain ⟨f_14, ef_14, xf_14⟩ := up_x f13 (n := a0) y_13 (Nat.lt_of_le_of_lt ha0 (Nat.le_of_ble_eq_true rfl))
        have hP : va_P (dC, dI) vwCl (au__w au (nI nc) (nI np) (nI ne) st0 q4 q5 q6 q7 q8 q9 q10 q11 q12 q13 q14 q15 q16 k_f4 f4 k_f5 (bN 7 q_f5) k_f6 (bN 7 q_f6) k_f7 f7 k_f8 (bN 4 q_f8) k_f9 (bN 2 q_f9) k_f10 f10 k_f11 f11 k_f12 f_7 k_f13 f_14 k_f14 f14 k_f15 f15 k_f16 f16) H := by rw [← ef_14]; exact hP
        have hD : va_D A (au__w au (nI nc) (nI np) (nI ne) st0 q4 q5 q6 q7 q8 q9 q10 q11 q12 q13 q14 q15 q16 k_f4 f4 k_f5 (bN 7 q_f5) k_f6 (bN 7 q_f6) k_f7 f7 k_f8 (bN 4 q_f8) k_f9 (bN 2 q_f9) k_f10 f10 k_f11 f11 k_f12 f_7 k_f13 f_14 k_f14 f14 k_f15 f15 k_f16 f16) := by rw [← ef_14]; exact hD
        have hsp := hsp.trans (slet_eq xf_14)
        exact W.vret hx hb hr (fun t ht hW => ⟨⟨(), rfl, trivial, ⟨f_14, f_7, ⟨by rw [ht]; exact hP, va_K.moved hW.alike hK, hD⟩, (hsp.symm.trans hRR)⟩⟩, hS.F ht⟩) hS.2.2 eX0_setBounds_78
    · have hcc_8 := c_8
      have hsp := hsp.trans (if_neg c_8)
      refine lv_ldc hx hb hown v_4 eX0_setBounds_55 ?_
      refine lv_goto (tgt := 77) hx hb eX0_setBounds_57 (by decide) ?_
      refine va_iast hx hb hK hP hD hS 10 9 rfl rfl (vp_in_nI (n := a0) (Nat.lt_of_le_of_lt ha0 (Nat.le_of_ble_eq_true rfl)) (Nat.le_of_ble_eq_true rfl)) eX0_setBounds_77 (fun H locs hP hD hS => ?_)
      obtain ⟨f_15, ef_15, xf_15⟩ := up_x f13 (n := a0) 2147483647 (Nat.lt_of_le_of_lt ha0 (Nat.le_of_ble_eq_true rfl))
      have hP : va_P (dC, dI) vwCl (au__w au (nI nc) (nI np) (nI ne) st0 q4 q5 q6 q7 q8 q9 q10 q11 q12 q13 q14 q15 q16 k_f4 f4 k_f5 (bN 7 q_f5) k_f6 (bN 7 q_f6) k_f7 f7 k_f8 (bN 4 q_f8) k_f9 (bN 2 q_f9) k_f10 f10 k_f11 f11 k_f12 f_7 k_f13 f_15 k_f14 f14 k_f15 f15 k_f16 f16) H := by rw [← ef_15]; exact hP
      have hD : va_D A (au__w au (nI nc) (nI np) (nI ne) st0 q4 q5 q6 q7 q8 q9 q10 q11 q12 q13 q14 q15 q16 k_f4 f4 k_f5 (bN 7 q_f5) k_f6 (bN 7 q_f6) k_f7 f7 k_f8 (bN 4 q_f8) k_f9 (bN 2 q_f9) k_f10 f10 k_f11 f11 k_f12 f_7 k_f13 f_15 k_f14 f14 k_f15 f15 k_f16 f16) := by rw [← ef_15]; exact hD
      have hsp := hsp.trans (slet_eq xf_15)
      exact W.vret hx hb hr (fun t ht hW => ⟨⟨(), rfl, trivial, ⟨f_15, f_7, ⟨by rw [ht]; exact hP, va_K.moved hW.alike hK, hD⟩, (hsp.symm.trans hRR)⟩⟩, hS.F ht⟩) hS.2.2 eX0_setBounds_78
  have hsp := hJR_5
  refine lv_icmp_le (tgt := 29) hx hb eX0_setBounds_21 (by decide) (fun c_16 => ?_) (fun c_16 => ?_)
  · have hcc_16 := c_16
    have hsp := hsp.trans (if_pos c_16)
    refine lv_iload_n hx hb eX0_setBounds_29 rfl (lv_at hl 1 rfl) ?_
    refine lv_if_ne (tgt := 39) hx hb eX0_setBounds_30 (by decide) (fun c_17 => ?_) (fun c_17 => ?_)
    · have hcc_17 := c_17
      have hsp := hsp.trans (if_neg c_17)
      refine lv_iconst (v := 2) hx hb eX0_setBounds_39 (by decide) ?_
      refine lv_iload_n hx hb eX0_setBounds_40 rfl (lv_at hl 0 rfl) ?_
      refine lv_imul hx hb eX0_setBounds_41 ?_
      refine lv_topi (fun y_18 ey_18 => ?_)
      have hsp := hsp.trans (slet_eq ey_18)
      refine lv_iconst (v := 1) hx hb eX0_setBounds_42 (by decide) ?_
      refine lv_iadd hx hb eX0_setBounds_43 ?_
      refine lv_topi (fun y_19 ey_19 => ?_)
      have hsp := hsp.trans (slet_eq ey_19)
      exact j_4 _ _ _ _ ⟨y_19, rfl, hsp.symm, hP, hD, hS, lv_sub hl [2, 3, 1, 0] rfl⟩
    · have hcc_17 := c_17
      have hsp := hsp.trans (if_pos c_17)
      refine lv_iconst (v := 2) hx hb eX0_setBounds_33 (by decide) ?_
      refine lv_iload_n hx hb eX0_setBounds_34 rfl (lv_at hl 0 rfl) ?_
      refine lv_imul hx hb eX0_setBounds_35 ?_
      refine lv_topi (fun y_20 ey_20 => ?_)
      have hsp := hsp.trans (slet_eq ey_20)
      refine lv_goto (tgt := 44) hx hb eX0_setBounds_36 (by decide) ?_
      exact j_4 _ _ _ _ ⟨y_20, rfl, hsp.symm, hP, hD, hS, lv_sub hl [2, 3, 1, 0] rfl⟩
  · have hcc_16 := c_16
    have hsp := hsp.trans (if_neg c_16)
    refine lv_ldc hx hb hown v_4 eX0_setBounds_24 ?_
    refine lv_goto (tgt := 44) hx hb eX0_setBounds_26 (by decide) ?_
    exact j_4 _ _ _ _ ⟨2147483647, rfl, hsp.symm, hP, hD, hS, lv_sub hl [2, 3, 1, 0] rfl⟩
abbrev vs_E_0_measure : List Cond := .code yX0_measure cX0_measure 5 none :: CM
theorem g_E_0_measure_E_0_slot : GoodIn vs_E_0_measure (va_wsS RX0 65 yX0_slot vs_E_0_slot) := cm_gS cm_17 cm_18 cm_19 cm_1
noncomputable def sp_E_0_measure_L1 (q_f8 : Nat → Nat) (q_f9 : Nat → Nat) (f10 : Nat → Int32) (f11 : Nat → Int32) (g_23 : Nat) : ((Nat → Int32) × (Nat → Int32) × (Nat → Int32) × Nat) → ((Nat → Int32) × (Nat → Int32) × (Nat → Int32) × Nat) ⊕ (((Nat → Int32) × (Nat → Int32) × (Nat → Int32) × Nat) ⊕ ((Nat → Int32) × (Nat → Int32) × (Nat → Int32))) := fun (g_35, g_36, g_37, g_38) => (slet (min (q_f8 g_23) 4) (fun u_46 => (if u_46 ≤ g_38 then (Sum.inr (Sum.inl (g_35, g_36, g_37, (g_23 + 1)))) else (slet (min (q_f9 (g_23 * 4 + g_38)) 2) (fun u_50 => (slet (g_35 (u_50 + 1)) (fun y_52 => (slet (f11 (g_23 * 4 + g_38)) (fun y_53 => (slet (if (y_52 : Int32) < y_53 then y_53 else y_52) (fun y_54 => (slet (upd g_35 (u_50 + 1) y_54) (fun f_55 => (slet (f10 (g_23 * 4 + g_38)) (fun y_56 => (slet (α := (Nat → Int32)) (if (y_56 : Int32) < 2 then g_36 else (slet (g_36 (u_50 + 1)) (fun y_72 => (slet (f11 (g_23 * 4 + g_38)) (fun y_73 => (slet (if (y_72 : Int32) < y_73 then y_73 else y_72) (fun y_74 => (slet (upd g_36 (u_50 + 1) y_74) (fun f_75 => f_75))))))))) (fun g_57 => (slet (f10 (g_23 * 4 + g_38)) (fun y_61 => (slet (α := (Nat → Int32)) (if (2 : Int32) < y_61 then g_37 else (slet (g_37 (u_50 + 1)) (fun y_67 => (slet (f11 (g_23 * 4 + g_38)) (fun y_68 => (slet (if (y_67 : Int32) < y_68 then y_68 else y_67) (fun y_69 => (slet (upd g_37 (u_50 + 1) y_69) (fun f_70 => f_70))))))))) (fun g_62 => (Sum.inl (f_55, g_57, g_62, (g_38 + 1))))))))))))))))))))))))
noncomputable def sp_E_0_measure_L2 (q_f8 : Nat → Nat) (q_f9 : Nat → Nat) (f10 : Nat → Int32) (f11 : Nat → Int32) : ((Nat → Int32) × (Nat → Int32) × (Nat → Int32) × Nat) → ((Nat → Int32) × (Nat → Int32) × (Nat → Int32) × Nat) ⊕ ((Nat → Int32) × (Nat → Int32) × (Nat → Int32)) := fun (g_20, g_21, g_22, g_23) => (if 22 ≤ g_23 then (Sum.inr (g_20, g_21, g_22)) else (itrv (α := (Nat → Int32) × (Nat → Int32) × (Nat → Int32) × Nat) (β := (((Nat → Int32) × (Nat → Int32) × (Nat → Int32) × Nat) ⊕ ((Nat → Int32) × (Nat → Int32) × (Nat → Int32)))) (Sum.inr default) (sp_E_0_measure_L1 q_f8 q_f9 f10 f11 g_23) (g_20, g_21, g_22, 0)))
noncomputable def sp_E_0_measure_L3 (q_f8 : Nat → Nat) (q_f9 : Nat → Nat) (f10 : Nat → Int32) (f11 : Nat → Int32) : ((Nat → Int32) × (Nat → Int32) × (Nat → Int32) × Nat) → ((Nat → Int32) × (Nat → Int32) × (Nat → Int32) × Nat) ⊕ ((Nat → Int32) × (Nat → Int32) × (Nat → Int32)) := fun (g_5, g_6, g_7, g_8) => (if 3 < g_8 then (Sum.inr (itrv (α := (Nat → Int32) × (Nat → Int32) × (Nat → Int32) × Nat) (β := ((Nat → Int32) × (Nat → Int32) × (Nat → Int32))) default (sp_E_0_measure_L2 q_f8 q_f9 f10 f11) (g_5, g_6, g_7, 0))) else (slet (upd g_5 g_8 0) (fun f_76 => (slet (upd g_6 g_8 0) (fun f_77 => (slet (upd g_7 g_8 0) (fun f_78 => (Sum.inl (f_76, f_77, f_78, (g_8 + 1))))))))))
noncomputable def sp_E_0_measure (q_f8 : Nat → Nat) (q_f9 : Nat → Nat) (f10 : Nat → Int32) (f11 : Nat → Int32) (f14 : Nat → Int32) (f15 : Nat → Int32) (f16 : Nat → Int32) : (Nat → Int32) × (Nat → Int32) × (Nat → Int32) := (itrv (α := (Nat → Int32) × (Nat → Int32) × (Nat → Int32) × Nat) (β := ((Nat → Int32) × (Nat → Int32) × (Nat → Int32))) default (sp_E_0_measure_L3 q_f8 q_f9 f10 f11) (f14, f15, f16, 0))
set_option maxHeartbeats 4000000 in
set_option maxRecDepth 100000 in
theorem c_E_0_measure (l : Launch) (dC : Nat → ClassId) (dI : Nat → Nat → Nat) (sz : Nat) (au : Nat) (nc : Nat) (np : Nat) (ne : Nat) (st0 : Int32) (q4 : Nat) (q5 : Nat) (q6 : Nat) (q7 : Nat) (q8 : Nat) (q9 : Nat) (q10 : Nat) (q11 : Nat) (q12 : Nat) (q13 : Nat) (q14 : Nat) (q15 : Nat) (q16 : Nat) (k_f4 : ClassId) (f4 : Nat → Int32) (k_f5 : ClassId) (q_f5 : Nat → Nat) (k_f6 : ClassId) (q_f6 : Nat → Nat) (k_f7 : ClassId) (f7 : Nat → Int32) (k_f8 : ClassId) (q_f8 : Nat → Nat) (k_f9 : ClassId) (q_f9 : Nat → Nat) (k_f10 : ClassId) (f10 : Nat → Int32) (k_f11 : ClassId) (f11 : Nat → Int32) (k_f12 : ClassId) (f12 : Nat → Int32) (k_f13 : ClassId) (f13 : Nat → Int32) (k_f14 : ClassId) (f14 : Nat → Int32) (k_f15 : ClassId) (f15 : Nat → Int32) (k_f16 : ClassId) (f16 : Nat → Int32) (hnc : nc ≤ 3) (hnp : np ≤ 8) (hne : ne ≤ 14) (hst0 : pm1 7 st0) : Met l yX0_measure vs_E_0_measure ({ frames := 1, cells := 0, slots := 0, locals := 21 }) (va_Pc [.ref au] (pu_B (dC, dI) (au__w au (nI nc) (nI np) (nI ne) st0 q4 q5 q6 q7 q8 q9 q10 q11 q12 q13 q14 q15 q16 k_f4 f4 k_f5 (bN 7 q_f5) k_f6 (bN 7 q_f6) k_f7 f7 k_f8 (bN 4 q_f8) k_f9 (bN 2 q_f9) k_f10 f10 k_f11 f11 k_f12 f12 k_f13 f13 k_f14 f14 k_f15 f15 k_f16 f16) (au__t k_f4 k_f5 k_f6 k_f7 k_f8 k_f9 k_f10 k_f11 k_f12 k_f13 k_f14 k_f15 k_f16) sz)) (va_Qv (fun (_ : Unit) => True) (fun _ t => ∃ (z_f14 : Nat → Int32) (z_f15 : Nat → Int32) (z_f16 : Nat → Int32), pu_E (dC, dI) (au__w au (nI nc) (nI np) (nI ne) st0 q4 q5 q6 q7 q8 q9 q10 q11 q12 q13 q14 q15 q16 k_f4 f4 k_f5 (bN 7 q_f5) k_f6 (bN 7 q_f6) k_f7 f7 k_f8 (bN 4 q_f8) k_f9 (bN 2 q_f9) k_f10 f10 k_f11 f11 k_f12 f12 k_f13 f13 k_f14 z_f14 k_f15 z_f15 k_f16 z_f16) (au__t k_f4 k_f5 k_f6 k_f7 k_f8 k_f9 k_f10 k_f11 k_f12 k_f13 k_f14 k_f15 k_f16) (va_A ((au__w au (nI nc) (nI np) (nI ne) st0 q4 q5 q6 q7 q8 q9 q10 q11 q12 q13 q14 q15 q16 k_f4 f4 k_f5 (bN 7 q_f5) k_f6 (bN 7 q_f6) k_f7 f7 k_f8 (bN 4 q_f8) k_f9 (bN 2 q_f9) k_f10 f10 k_f11 f11 k_f12 f12 k_f13 f13 k_f14 f14 k_f15 f15 k_f16 f16)) sz) t ∧ ((z_f14, z_f15, z_f16) = (sp_E_0_measure q_f8 q_f9 f10 f11 f14 f15 f16))) (va_A ((au__w au (nI nc) (nI np) (nI ne) st0 q4 q5 q6 q7 q8 q9 q10 q11 q12 q13 q14 q15 q16 k_f4 f4 k_f5 (bN 7 q_f5) k_f6 (bN 7 q_f6) k_f7 f7 k_f8 (bN 4 q_f8) k_f9 (bN 2 q_f9) k_f10 f10 k_f11 f11 k_f12 f12 k_f13 f13 k_f14 f14 k_f15 f15 k_f16 f16)) sz)) 0 0 (va_A ((au__w au (nI nc) (nI np) (nI ne) st0 q4 q5 q6 q7 q8 q9 q10 q11 q12 q13 q14 q15 q16 k_f4 f4 k_f5 (bN 7 q_f5) k_f6 (bN 7 q_f6) k_f7 f7 k_f8 (bN 4 q_f8) k_f9 (bN 2 q_f9) k_f10 f10 k_f11 f11 k_f12 f12 k_f13 f13 k_f14 f14 k_f15 f15 k_f16 f16)) sz) := by
  refine Met.ofW (cc := cX0_measure) (maxL := 5) (ret := none) (by decide) rfl ?_
  intro p e s m args below meth c s₁ B hml hv
  obtain ⟨rfl, rfl, hP, hK, hD0⟩ := hv
  have hx := B.exec
  have hb := B.bytes
  have hr := B.returns
  have hts := atoms_spec (ws := vs_E_0_measure) B.pre
  have v_1 := hts (.fieldLink RX0 47 "ClockReach$Automaton" "greatest" "[I") (List.mem_cons_of_mem _ cm_32)
  have v_2 := hts (.fieldLink RX0 50 "ClockReach$Automaton" "lower" "[I") (List.mem_cons_of_mem _ cm_33)
  have v_3 := hts (.fieldLink RX0 53 "ClockReach$Automaton" "upper" "[I") (List.mem_cons_of_mem _ cm_34)
  have v_4 := hts (.fieldLink RX0 29 "ClockReach$Automaton" "counts" "[I") (List.mem_cons_of_mem _ cm_8)
  have v_9 := hts (.fieldLink RX0 32 "ClockReach$Automaton" "conditionClocks" "[I") (List.mem_cons_of_mem _ cm_14)
  have v_10 := hts (.fieldLink RX0 38 "ClockReach$Automaton" "numbers" "[I") (List.mem_cons_of_mem _ cm_16)
  have v_11 := hts (.methodLink RX0 79 Lib.Math.max.name) (List.mem_cons_of_mem _ cm_35)
  have v_12 := hts (.static Lib.Math.max.name) (List.mem_cons_of_mem _ cm_36)
  have v_13 := hts (.initialized "java/lang/Math") (List.mem_cons_of_mem _ cm_37)
  have v_14 := hts (.code Lib.Math.max.name Lib.Math.max.code 2 (some .int)) (List.mem_cons_of_mem _ cm_38)
  have v_15 := hts (.fieldLink RX0 35 "ClockReach$Automaton" "hows" "[I") (List.mem_cons_of_mem _ cm_15)
  have hown : s.vm.findClass RX0 = some m.cls := findClass_of_methodNamed B.named
  have hlocks := B.notSynchronized
  have hiX0 : ∀ w ∈ wsX00, w ∈ vs_E_0_measure := fun _ h => List.mem_cons_of_mem _ (cm_X0 h)
  have hD := hD0.self (sz := s.heap.size)
  generalize hAe : va_A ((au__w au (nI nc) (nI np) (nI ne) st0 q4 q5 q6 q7 q8 q9 q10 q11 q12 q13 q14 q15 q16 k_f4 f4 k_f5 (bN 7 q_f5) k_f6 (bN 7 q_f6) k_f7 f7 k_f8 (bN 4 q_f8) k_f9 (bN 2 q_f9) k_f10 f10 k_f11 f11 k_f12 f12 k_f13 f13 k_f14 f14 k_f15 f15 k_f16 f16)) s.heap.size = A at hD ⊢
  have hA : ∀ q : Nat, s.heap.size ≤ q → A q := fun q h => by rw [← hAe]; exact Or.inr h
  have hS : va_S A s.heap s.heap [] := va_S.rf
  have hl := lv_entry ([.ref au]) (n := 5) (Nat.le_of_ble_eq_true rfl)
  rw [lg_entry_eq]
  generalize (lg_sl ([.ref au]) ++ List.replicate (5 - (lg_sl ([.ref au])).length) Slot.unset).toArray = ls at hl ⊢
  have hl : lv_has ls 5 [(0, .ref au)] := hl
  obtain ⟨RR, hRR⟩ : ∃ x, x = (sp_E_0_measure q_f8 q_f9 f10 f11 f14 f15 f16) := ⟨_, rfl⟩
  have hsp := hRR
  refine lv_iconst (v := 0) hx hb eX0_measure_0 (by decide) ?_
  refine lv_istore_n (lv' := [(1, .int 0), (0, .ref au)]) hx hb eX0_measure_1 rfl hl (by decide) rfl (fun ls hl => ?_)
  obtain ⟨lf_10, dlf_10, hlf_10, hsp⟩ := itr_ex hsp
  delta sp_E_0_measure_L3 at hlf_10
  refine pu_while (fun nn H locs ls => ∃ (g_5 : Nat → Int32) (g_6 : Nat → Int32) (g_7 : Nat → Int32) (g_8 : Nat), nn = 4 - g_8 ∧ g_8 ≤ 4 ∧ RR = itrv dlf_10 lf_10 (g_5, g_6, g_7, g_8) ∧ va_P (dC, dI) vwCl (au__w au (nI nc) (nI np) (nI ne) st0 q4 q5 q6 q7 q8 q9 q10 q11 q12 q13 q14 q15 q16 k_f4 f4 k_f5 (bN 7 q_f5) k_f6 (bN 7 q_f6) k_f7 f7 k_f8 (bN 4 q_f8) k_f9 (bN 2 q_f9) k_f10 f10 k_f11 f11 k_f12 f12 k_f13 f13 k_f14 g_5 k_f15 g_6 k_f16 g_7) H ∧ va_D A (au__w au (nI nc) (nI np) (nI ne) st0 q4 q5 q6 q7 q8 q9 q10 q11 q12 q13 q14 q15 q16 k_f4 f4 k_f5 (bN 7 q_f5) k_f6 (bN 7 q_f6) k_f7 f7 k_f8 (bN 4 q_f8) k_f9 (bN 2 q_f9) k_f10 f10 k_f11 f11 k_f12 f12 k_f13 f13 k_f14 g_5 k_f15 g_6 k_f16 g_7) ∧ va_S A s.heap H locs ∧ lv_has ls 5 [(0, .ref au), (1, .int (nI g_8))]) 2 ?_ _ _ _ _ ⟨f14, f15, f16, 0, rfl, (Nat.le_of_ble_eq_true rfl), hsp, hP, hD, hS, lv_sub hl [1, 0] rfl⟩
  rintro nn ih_9 H locs ls ⟨g_5, g_6, g_7, g_8, rfl, hg_8, he_12, hP, hD, hS, hl⟩
  obtain ⟨S_11, hsp, hin_13, hout_14⟩ := itr_step hlf_10 he_12
  refine lv_iload_n hx hb eX0_measure_2 rfl (lv_at hl 1 rfl) ?_
  refine lv_iconst (v := 3) hx hb eX0_measure_3 (by decide) ?_
  refine lv_icmp_gt (tgt := 34) hx hb eX0_measure_4 (by decide) (fun c_15 => ?_) (fun c_15 => ?_)
  · have c_15 : 3 < g_8 := (nI_ltI (a := 3) (b := g_8) (Nat.le_of_ble_eq_true rfl) (Nat.lt_of_le_of_lt hg_8 (Nat.le_of_ble_eq_true rfl))).mp c_15
    have hsp := hsp.trans (if_pos c_15)
    have hsp := hout_14 _ hsp
    refine lv_iconst (v := 0) hx hb eX0_measure_34 (by decide) ?_
    refine lv_istore_n (lv' := [(1, .int 0), (0, .ref au)]) hx hb eX0_measure_35 rfl hl (by decide) rfl (fun ls hl => ?_)
    obtain ⟨lf_25, dlf_25, hlf_25, hsp⟩ := itr_ex hsp
    delta sp_E_0_measure_L2 at hlf_25
    refine pu_while (fun nn H locs ls => ∃ (g_20 : Nat → Int32) (g_21 : Nat → Int32) (g_22 : Nat → Int32) (g_23 : Nat), nn = 22 - g_23 ∧ g_23 ≤ 22 ∧ RR = itrv dlf_25 lf_25 (g_20, g_21, g_22, g_23) ∧ va_P (dC, dI) vwCl (au__w au (nI nc) (nI np) (nI ne) st0 q4 q5 q6 q7 q8 q9 q10 q11 q12 q13 q14 q15 q16 k_f4 f4 k_f5 (bN 7 q_f5) k_f6 (bN 7 q_f6) k_f7 f7 k_f8 (bN 4 q_f8) k_f9 (bN 2 q_f9) k_f10 f10 k_f11 f11 k_f12 f12 k_f13 f13 k_f14 g_20 k_f15 g_21 k_f16 g_22) H ∧ va_D A (au__w au (nI nc) (nI np) (nI ne) st0 q4 q5 q6 q7 q8 q9 q10 q11 q12 q13 q14 q15 q16 k_f4 f4 k_f5 (bN 7 q_f5) k_f6 (bN 7 q_f6) k_f7 f7 k_f8 (bN 4 q_f8) k_f9 (bN 2 q_f9) k_f10 f10 k_f11 f11 k_f12 f12 k_f13 f13 k_f14 g_20 k_f15 g_21 k_f16 g_22) ∧ va_S A s.heap H locs ∧ lv_has ls 5 [(0, .ref au), (1, .int (nI g_23))]) 36 ?_ _ _ _ _ ⟨g_5, g_6, g_7, 0, rfl, (Nat.le_of_ble_eq_true rfl), hsp, hP, hD, hS, lv_sub hl [1, 0] rfl⟩
    rintro nn ih_24 H locs ls ⟨g_20, g_21, g_22, g_23, rfl, hg_23, he_27, hP, hD, hS, hl⟩
    obtain ⟨S_26, hsp, hin_28, hout_29⟩ := itr_step hlf_25 he_27
    refine lv_iload_n hx hb eX0_measure_36 rfl (lv_at hl 1 rfl) ?_
    refine lv_bipush (v := 22) hx hb eX0_measure_37 (by decide) ?_
    refine lv_icmp_ge (tgt := 171) hx hb eX0_measure_39 (by decide) (fun c_30 => ?_) (fun c_30 => ?_)
    · have c_30 : 22 ≤ g_23 := (nI_leI (a := 22) (b := g_23) (Nat.le_of_ble_eq_true rfl) (Nat.lt_of_le_of_lt hg_23 (Nat.le_of_ble_eq_true rfl))).mp c_30
      have hsp := hsp.trans (if_pos c_30)
      have hsp := hout_29 _ hsp
      exact W.vret hx hb hr (fun t ht hW => ⟨⟨(), rfl, trivial, ⟨g_20, g_21, g_22, ⟨by rw [ht]; exact hP, va_K.moved hW.alike hK, hD⟩, (hsp.symm.trans hRR)⟩⟩, hS.F ht⟩) hS.2.2 eX0_measure_171
    · have c_30 : ¬ 22 ≤ g_23 := fun z => c_30 ((nI_leI (a := 22) (b := g_23) (Nat.le_of_ble_eq_true rfl) (Nat.lt_of_le_of_lt hg_23 (Nat.le_of_ble_eq_true rfl))).mpr z)
      have hsp := hsp.trans (if_neg c_30)
      refine lv_iconst (v := 0) hx hb eX0_measure_42 (by decide) ?_
      refine lv_istore_n (lv' := [(2, .int 0), (0, .ref au), (1, .int (nI g_23))]) hx hb eX0_measure_43 rfl hl (by decide) rfl (fun ls hl => ?_)
      obtain ⟨lf_40, dlf_40, hlf_40, hsp⟩ := itr_ex hsp
      delta sp_E_0_measure_L1 at hlf_40
      refine pu_while (fun nn H locs ls => ∃ (g_35 : Nat → Int32) (g_36 : Nat → Int32) (g_37 : Nat → Int32) (g_38 : Nat), nn = 4 - g_38 ∧ g_38 ≤ 4 ∧ S_26 = itrv dlf_40 lf_40 (g_35, g_36, g_37, g_38) ∧ va_P (dC, dI) vwCl (au__w au (nI nc) (nI np) (nI ne) st0 q4 q5 q6 q7 q8 q9 q10 q11 q12 q13 q14 q15 q16 k_f4 f4 k_f5 (bN 7 q_f5) k_f6 (bN 7 q_f6) k_f7 f7 k_f8 (bN 4 q_f8) k_f9 (bN 2 q_f9) k_f10 f10 k_f11 f11 k_f12 f12 k_f13 f13 k_f14 g_35 k_f15 g_36 k_f16 g_37) H ∧ va_D A (au__w au (nI nc) (nI np) (nI ne) st0 q4 q5 q6 q7 q8 q9 q10 q11 q12 q13 q14 q15 q16 k_f4 f4 k_f5 (bN 7 q_f5) k_f6 (bN 7 q_f6) k_f7 f7 k_f8 (bN 4 q_f8) k_f9 (bN 2 q_f9) k_f10 f10 k_f11 f11 k_f12 f12 k_f13 f13 k_f14 g_35 k_f15 g_36 k_f16 g_37) ∧ va_S A s.heap H locs ∧ lv_has ls 5 [(0, .ref au), (1, .int (nI g_23)), (2, .int (nI g_38))]) 44 ?_ _ _ _ _ ⟨g_20, g_21, g_22, 0, rfl, (Nat.le_of_ble_eq_true rfl), hsp, hP, hD, hS, lv_sub hl [1, 2, 0] rfl⟩
      rintro nn ih_39 H locs ls ⟨g_35, g_36, g_37, g_38, rfl, hg_38, he_42, hP, hD, hS, hl⟩
      obtain ⟨S_41, hsp, hin_43, hout_44⟩ := itr_step hlf_40 he_42
      refine lv_iload_n hx hb eX0_measure_44 rfl (lv_at hl 2 rfl) ?_
      refine lv_aload_n hx hb eX0_measure_45 rfl (lv_at hl 0 rfl) ?_
      refine va_get (D := (dC, dI)) (ci := 0) (v := .ref q8) (C := RX0) (T := TX0) (N := 17) hx hb hts hiX0 hown hK hP 0 rfl rfl 8 (by decide) v_4 (fun _ h9 => h9) rfl eX0_measure_46 ?_
      refine lv_iload_n hx hb eX0_measure_49 rfl (lv_at hl 1 rfl) ?_
      refine va_iald hx hb hK hP 5 4 rfl rfl (vp_in_nI (n := g_23) (by omega) (Nat.le_of_ble_eq_true rfl)) eX0_measure_50 ?_
      refine lv_topi (fun y_45 ey_45 => ?_)
      obtain ⟨u_46, hu_46, qu_46, xu_46⟩ := bN_getx 4 q_f8 (n := g_23) (Nat.lt_of_le_of_lt hg_23 (Nat.le_of_ble_eq_true rfl))
      obtain rfl : y_45 = nI u_46 := ey_45.trans qu_46
      have hsp := hsp.trans (slet_eq xu_46)
      refine lv_icmp_ge (tgt := 165) hx hb eX0_measure_51 (by decide) (fun c_47 => ?_) (fun c_47 => ?_)
      · have c_47 : u_46 ≤ g_38 := (nI_leI (a := u_46) (b := g_38) (Nat.lt_of_le_of_lt hu_46 (Nat.le_of_ble_eq_true rfl)) (Nat.lt_of_le_of_lt hg_38 (Nat.le_of_ble_eq_true rfl))).mp c_47
        have hsp := hsp.trans (if_pos c_47)
        have hsp := hout_44 _ hsp
        refine lv_iinc (v := (nI (g_23 + 1))) (lv' := [(1, .int (nI (g_23 + 1))), (0, .ref au), (2, .int (nI g_38))]) hx hb eX0_measure_165 hl (k := 1) rfl (nI_1 _) (by decide) rfl (fun ls hl => ?_)
        refine lv_goto (tgt := 36) hx hb eX0_measure_168 (by decide) ?_
        exact ih_24 (22 - (g_23 + 1)) (by omega) _ _ _ ⟨g_35, g_36, g_37, (g_23 + 1), rfl, (by omega), hin_28 _ hsp, hP, hD, hS, lv_sub hl [1, 0] rfl⟩
      · have c_47 : ¬ u_46 ≤ g_38 := fun z => c_47 ((nI_leI (a := u_46) (b := g_38) (Nat.lt_of_le_of_lt hu_46 (Nat.le_of_ble_eq_true rfl)) (Nat.lt_of_le_of_lt hg_38 (Nat.le_of_ble_eq_true rfl))).mpr z)
        have hsp := hsp.trans (if_neg c_47)
        refine lv_iload_n hx hb eX0_measure_54 rfl (lv_at hl 1 rfl) ?_
        refine lv_iload_n hx hb eX0_measure_55 rfl (lv_at hl 2 rfl) ?_
        refine va_calli (va_runS (As := [.int (nI g_23), .int (nI g_38)]) (rest := []) ⟨hx, hb, hml, hown, hts⟩ (c_E_0_slot l dC dI _ g_23 g_38 (by omega) hg_38) (va_cwS 2 hts g_E_0_measure_E_0_slot rfl rfl rfl (by decide +kernel) ⟨Nat.le_of_ble_eq_true rfl, Nat.le_of_ble_eq_true rfl⟩) ⟨pu_bl, pu_in (hP.sub [] rfl) (hK.sub [] rfl) (hD.sub [] (by decide) rfl)⟩ rfl rfl hl.1 rfl (lv_room (Nat.le_of_ble_eq_true rfl)) eX0_measure_56 ⟨Nat.le_of_ble_eq_true rfl, Nat.le_of_ble_eq_true rfl⟩) hS (fun q _ h => pu_fr hS hA q h) (pu_fr hS hA) (fun r_48 u t H1 locs ht hvm hw hB hz1 hk1 hS => ?_)
        have hP := pu_keep hP hk1
        clear hk1 hz1 ht hvm
        generalize H1 = H at hP hS ⊢
        obtain rfl : r_48 = nI (g_23 * 4 + g_38) := hw
        refine lv_istore_n (lv' := [(3, .int (nI (g_23 * 4 + g_38))), (0, .ref au), (1, .int (nI g_23)), (2, .int (nI g_38))]) hx hb eX0_measure_59 rfl hl (by decide) rfl (fun ls hl => ?_)
        refine lv_aload_n hx hb eX0_measure_60 rfl (lv_at hl 1 rfl) ?_
        refine va_get (D := (dC, dI)) (ci := 0) (v := .ref q9) (C := RX0) (T := TX0) (N := 17) hx hb hts hiX0 hown hK hP 0 rfl rfl 9 (by decide) v_9 (fun _ h9 => h9) rfl eX0_measure_61 ?_
        refine lv_iload_n hx hb eX0_measure_64 rfl (lv_at hl 0 rfl) ?_
        refine va_iald hx hb hK hP 6 5 rfl rfl (vp_in_nI (n := (g_23 * 4 + g_38)) (by omega) (Nat.le_of_ble_eq_true rfl)) eX0_measure_65 ?_
        refine lv_topi (fun y_49 ey_49 => ?_)
        obtain ⟨u_50, hu_50, qu_50, xu_50⟩ := bN_getx 2 q_f9 (n := (g_23 * 4 + g_38)) (by omega)
        obtain rfl : y_49 = nI u_50 := ey_49.trans qu_50
        have hsp := hsp.trans (slet_eq xu_50)
        refine lv_iconst (v := 1) hx hb eX0_measure_66 (by decide) ?_
        refine lv_iadd hx hb eX0_measure_67 ?_
        refine lv_topi (fun y_51 ey_51 => ?_)
        obtain rfl : y_51 = (nI (u_50 + 1)) := ey_51.trans (nI_add u_50 1)
        refine lv_istore (lv' := [(4, .int (nI (u_50 + 1))), (3, .int (nI (g_23 * 4 + g_38))), (0, .ref au), (1, .int (nI g_23)), (2, .int (nI g_38))]) hx hb eX0_measure_68 hl (by decide) rfl (fun ls hl => ?_)
        refine lv_aload_n hx hb eX0_measure_70 rfl (lv_at hl 2 rfl) ?_
        refine va_get (D := (dC, dI)) (ci := 0) (v := .ref q14) (C := RX0) (T := TX0) (N := 17) hx hb hts hiX0 hown hK hP 0 rfl rfl 14 (by decide) v_1 (fun _ h9 => h9) rfl eX0_measure_71 ?_
        refine lv_iload hx hb eX0_measure_74 (lv_at hl 0 rfl) ?_
        refine lv_aload_n hx hb eX0_measure_76 rfl (lv_at hl 2 rfl) ?_
        refine va_get (D := (dC, dI)) (ci := 0) (v := .ref q14) (C := RX0) (T := TX0) (N := 17) hx hb hts hiX0 hown hK hP 0 rfl rfl 14 (by decide) v_1 (fun _ h9 => h9) rfl eX0_measure_77 ?_
        refine lv_iload hx hb eX0_measure_80 (lv_at hl 0 rfl) ?_
        refine va_iald hx hb hK hP 11 10 rfl rfl (vp_in_nI (n := (u_50 + 1)) (by omega) (Nat.le_of_ble_eq_true rfl)) eX0_measure_82 ?_
        refine lv_topi (fun y_52 ey_52 => ?_)
        have ey_52 : y_52 = g_35 (u_50 + 1) := ey_52.trans (congrArg g_35 (nI_clamp (n := (u_50 + 1)) (by omega)))
        have hsp := hsp.trans (slet_eq ey_52)
        refine lv_aload_n hx hb eX0_measure_83 rfl (lv_at hl 2 rfl) ?_
        refine va_get (D := (dC, dI)) (ci := 0) (v := .ref q11) (C := RX0) (T := TX0) (N := 17) hx hb hts hiX0 hown hK hP 0 rfl rfl 11 (by decide) v_10 (fun _ h9 => h9) rfl eX0_measure_84 ?_
        refine lv_iload_n hx hb eX0_measure_87 rfl (lv_at hl 1 rfl) ?_
        refine va_iald hx hb hK hP 8 7 rfl rfl (vp_in_nI (n := (g_23 * 4 + g_38)) (by omega) (Nat.le_of_ble_eq_true rfl)) eX0_measure_88 ?_
        refine lv_topi (fun y_53 ey_53 => ?_)
        have ey_53 : y_53 = f11 (g_23 * 4 + g_38) := ey_53.trans (congrArg f11 (nI_clamp (n := (g_23 * 4 + g_38)) (by omega)))
        have hsp := hsp.trans (slet_eq ey_53)
        refine va_mmax hx hb (hml.trans hl.1.symm) hown v_11 v_12 v_13 v_14 (Nat.le_of_ble_eq_true rfl) (Nat.le_of_ble_eq_true rfl) (Nat.le_of_ble_eq_true rfl) (Nat.le_of_ble_eq_true rfl) eX0_measure_89 ?_
        refine lv_topi (fun y_54 ey_54 => ?_)
        have hsp := hsp.trans (slet_eq ey_54)
        refine va_iast hx hb hK hP hD hS 11 10 rfl rfl (vp_in_nI (n := (u_50 + 1)) (by omega) (Nat.le_of_ble_eq_true rfl)) eX0_measure_92 (fun H locs hP hD hS => ?_)
        obtain ⟨f_55, ef_55, xf_55⟩ := up_x g_35 (n := (u_50 + 1)) y_54 (by omega)
        have hP : va_P (dC, dI) vwCl (au__w au (nI nc) (nI np) (nI ne) st0 q4 q5 q6 q7 q8 q9 q10 q11 q12 q13 q14 q15 q16 k_f4 f4 k_f5 (bN 7 q_f5) k_f6 (bN 7 q_f6) k_f7 f7 k_f8 (bN 4 q_f8) k_f9 (bN 2 q_f9) k_f10 f10 k_f11 f11 k_f12 f12 k_f13 f13 k_f14 f_55 k_f15 g_36 k_f16 g_37) H := by rw [← ef_55]; exact hP
        have hD : va_D A (au__w au (nI nc) (nI np) (nI ne) st0 q4 q5 q6 q7 q8 q9 q10 q11 q12 q13 q14 q15 q16 k_f4 f4 k_f5 (bN 7 q_f5) k_f6 (bN 7 q_f6) k_f7 f7 k_f8 (bN 4 q_f8) k_f9 (bN 2 q_f9) k_f10 f10 k_f11 f11 k_f12 f12 k_f13 f13 k_f14 f_55 k_f15 g_36 k_f16 g_37) := by rw [← ef_55]; exact hD
        have hsp := hsp.trans (slet_eq xf_55)
        refine lv_aload_n hx hb eX0_measure_93 rfl (lv_at hl 2 rfl) ?_
        refine va_get (D := (dC, dI)) (ci := 0) (v := .ref q10) (C := RX0) (T := TX0) (N := 17) hx hb hts hiX0 hown hK hP 0 rfl rfl 10 (by decide) v_15 (fun _ h9 => h9) rfl eX0_measure_94 ?_
        refine lv_iload_n hx hb eX0_measure_97 rfl (lv_at hl 1 rfl) ?_
        refine va_iald hx hb hK hP 7 6 rfl rfl (vp_in_nI (n := (g_23 * 4 + g_38)) (by omega) (Nat.le_of_ble_eq_true rfl)) eX0_measure_98 ?_
        refine lv_topi (fun y_56 ey_56 => ?_)
        have ey_56 : y_56 = f10 (g_23 * 4 + g_38) := ey_56.trans (congrArg f10 (nI_clamp (n := (g_23 * 4 + g_38)) (by omega)))
        have hsp := hsp.trans (slet_eq ey_56)
        refine lv_iconst (v := 2) hx hb eX0_measure_99 (by decide) ?_
        obtain ⟨JR_59, hJR_59, hsp⟩ := slet_ex hsp
        refine pu_join (fun H locs ls st => ∃ (g_57 : Nat → Int32), st = [] ∧ g_57 = JR_59 ∧ va_P (dC, dI) vwCl (au__w au (nI nc) (nI np) (nI ne) st0 q4 q5 q6 q7 q8 q9 q10 q11 q12 q13 q14 q15 q16 k_f4 f4 k_f5 (bN 7 q_f5) k_f6 (bN 7 q_f6) k_f7 f7 k_f8 (bN 4 q_f8) k_f9 (bN 2 q_f9) k_f10 f10 k_f11 f11 k_f12 f12 k_f13 f13 k_f14 f_55 k_f15 g_57 k_f16 g_37) H ∧ va_D A (au__w au (nI nc) (nI np) (nI ne) st0 q4 q5 q6 q7 q8 q9 q10 q11 q12 q13 q14 q15 q16 k_f4 f4 k_f5 (bN 7 q_f5) k_f6 (bN 7 q_f6) k_f7 f7 k_f8 (bN 4 q_f8) k_f9 (bN 2 q_f9) k_f10 f10 k_f11 f11 k_f12 f12 k_f13 f13 k_f14 f_55 k_f15 g_57 k_f16 g_37) ∧ va_S A s.heap H locs ∧ lv_has ls 5 [(0, .ref au), (1, .int (nI g_23)), (2, .int (nI g_38)), (3, .int (nI (g_23 * 4 + g_38))), (4, .int (nI (u_50 + 1)))]) 126 ?_ (fun j_58 => ?_)
        · rintro H locs ls st ⟨g_57, rfl, he_60, hP, hD, hS, hl⟩
          rw [← he_60] at hsp
          refine lv_aload_n hx hb eX0_measure_126 rfl (lv_at hl 0 rfl) ?_
          refine va_get (D := (dC, dI)) (ci := 0) (v := .ref q10) (C := RX0) (T := TX0) (N := 17) hx hb hts hiX0 hown hK hP 0 rfl rfl 10 (by decide) v_15 (fun _ h9 => h9) rfl eX0_measure_127 ?_
          refine lv_iload_n hx hb eX0_measure_130 rfl (lv_at hl 3 rfl) ?_
          refine va_iald hx hb hK hP 7 6 rfl rfl (vp_in_nI (n := (g_23 * 4 + g_38)) (by omega) (Nat.le_of_ble_eq_true rfl)) eX0_measure_131 ?_
          refine lv_topi (fun y_61 ey_61 => ?_)
          have ey_61 : y_61 = f10 (g_23 * 4 + g_38) := ey_61.trans (congrArg f10 (nI_clamp (n := (g_23 * 4 + g_38)) (by omega)))
          have hsp := hsp.trans (slet_eq ey_61)
          refine lv_iconst (v := 2) hx hb eX0_measure_132 (by decide) ?_
          obtain ⟨JR_64, hJR_64, hsp⟩ := slet_ex hsp
          refine pu_join (fun H locs ls st => ∃ (g_62 : Nat → Int32), st = [] ∧ g_62 = JR_64 ∧ va_P (dC, dI) vwCl (au__w au (nI nc) (nI np) (nI ne) st0 q4 q5 q6 q7 q8 q9 q10 q11 q12 q13 q14 q15 q16 k_f4 f4 k_f5 (bN 7 q_f5) k_f6 (bN 7 q_f6) k_f7 f7 k_f8 (bN 4 q_f8) k_f9 (bN 2 q_f9) k_f10 f10 k_f11 f11 k_f12 f12 k_f13 f13 k_f14 f_55 k_f15 g_57 k_f16 g_62) H ∧ va_D A (au__w au (nI nc) (nI np) (nI ne) st0 q4 q5 q6 q7 q8 q9 q10 q11 q12 q13 q14 q15 q16 k_f4 f4 k_f5 (bN 7 q_f5) k_f6 (bN 7 q_f6) k_f7 f7 k_f8 (bN 4 q_f8) k_f9 (bN 2 q_f9) k_f10 f10 k_f11 f11 k_f12 f12 k_f13 f13 k_f14 f_55 k_f15 g_57 k_f16 g_62) ∧ va_S A s.heap H locs ∧ lv_has ls 5 [(0, .ref au), (1, .int (nI g_23)), (2, .int (nI g_38)), (3, .int (nI (g_23 * 4 + g_38))), (4, .int (nI (u_50 + 1)))]) 159 ?_ (fun j_63 => ?_)
          · rintro H locs ls st ⟨g_62, rfl, he_65, hP, hD, hS, hl⟩
            rw [← he_65] at hsp
            refine lv_iinc (v := (nI (g_38 + 1))) (lv' := [(2, .int (nI (g_38 + 1))), (0, .ref au), (1, .int (nI g_23)), (3, .int (nI (g_23 * 4 + g_38))), (4, .int (nI (u_50 + 1)))]) hx hb eX0_measure_159 hl (k := 2) rfl (nI_1 _) (by decide) rfl (fun ls hl => ?_)
            refine lv_goto (tgt := 44) hx hb eX0_measure_162 (by decide) ?_
            exact ih_39 (4 - (g_38 + 1)) (by omega) _ _ _ ⟨f_55, g_57, g_62, (g_38 + 1), rfl, (by omega), hin_43 _ hsp, hP, hD, hS, lv_sub hl [1, 2, 0] rfl⟩
          have hsp := hJR_64
          refine lv_icmp_gt (tgt := 159) hx hb eX0_measure_133 (by decide) (fun c_66 => ?_) (fun c_66 => ?_)
          · have hcc_66 := c_66
            have hsp := hsp.trans (if_pos c_66)
            exact j_63 _ _ _ _ ⟨g_37, rfl, hsp.symm, hP, hD, hS, lv_sub hl [0, 1, 2, 3, 4] rfl⟩
          · have hcc_66 := c_66
            have hsp := hsp.trans (if_neg c_66)
            refine lv_aload_n hx hb eX0_measure_136 rfl (lv_at hl 0 rfl) ?_
            refine va_get (D := (dC, dI)) (ci := 0) (v := .ref q16) (C := RX0) (T := TX0) (N := 17) hx hb hts hiX0 hown hK hP 0 rfl rfl 16 (by decide) v_3 (fun _ h9 => h9) rfl eX0_measure_137 ?_
            refine lv_iload hx hb eX0_measure_140 (lv_at hl 4 rfl) ?_
            refine lv_aload_n hx hb eX0_measure_142 rfl (lv_at hl 0 rfl) ?_
            refine va_get (D := (dC, dI)) (ci := 0) (v := .ref q16) (C := RX0) (T := TX0) (N := 17) hx hb hts hiX0 hown hK hP 0 rfl rfl 16 (by decide) v_3 (fun _ h9 => h9) rfl eX0_measure_143 ?_
            refine lv_iload hx hb eX0_measure_146 (lv_at hl 4 rfl) ?_
            refine va_iald hx hb hK hP 13 12 rfl rfl (vp_in_nI (n := (u_50 + 1)) (by omega) (Nat.le_of_ble_eq_true rfl)) eX0_measure_148 ?_
            refine lv_topi (fun y_67 ey_67 => ?_)
            have ey_67 : y_67 = g_37 (u_50 + 1) := ey_67.trans (congrArg g_37 (nI_clamp (n := (u_50 + 1)) (by omega)))
            have hsp := hsp.trans (slet_eq ey_67)
            refine lv_aload_n hx hb eX0_measure_149 rfl (lv_at hl 0 rfl) ?_
            refine va_get (D := (dC, dI)) (ci := 0) (v := .ref q11) (C := RX0) (T := TX0) (N := 17) hx hb hts hiX0 hown hK hP 0 rfl rfl 11 (by decide) v_10 (fun _ h9 => h9) rfl eX0_measure_150 ?_
            refine lv_iload_n hx hb eX0_measure_153 rfl (lv_at hl 3 rfl) ?_
            refine va_iald hx hb hK hP 8 7 rfl rfl (vp_in_nI (n := (g_23 * 4 + g_38)) (by omega) (Nat.le_of_ble_eq_true rfl)) eX0_measure_154 ?_
            refine lv_topi (fun y_68 ey_68 => ?_)
            have ey_68 : y_68 = f11 (g_23 * 4 + g_38) := ey_68.trans (congrArg f11 (nI_clamp (n := (g_23 * 4 + g_38)) (by omega)))
            have hsp := hsp.trans (slet_eq ey_68)
            refine va_mmax hx hb (hml.trans hl.1.symm) hown v_11 v_12 v_13 v_14 (Nat.le_of_ble_eq_true rfl) (Nat.le_of_ble_eq_true rfl) (Nat.le_of_ble_eq_true rfl) (Nat.le_of_ble_eq_true rfl) eX0_measure_155 ?_
            refine lv_topi (fun y_69 ey_69 => ?_)
            have hsp := hsp.trans (slet_eq ey_69)
            refine va_iast hx hb hK hP hD hS 13 12 rfl rfl (vp_in_nI (n := (u_50 + 1)) (by omega) (Nat.le_of_ble_eq_true rfl)) eX0_measure_158 (fun H locs hP hD hS => ?_)
            obtain ⟨f_70, ef_70, xf_70⟩ := up_x g_37 (n := (u_50 + 1)) y_69 (by omega)
            have hP : va_P (dC, dI) vwCl (au__w au (nI nc) (nI np) (nI ne) st0 q4 q5 q6 q7 q8 q9 q10 q11 q12 q13 q14 q15 q16 k_f4 f4 k_f5 (bN 7 q_f5) k_f6 (bN 7 q_f6) k_f7 f7 k_f8 (bN 4 q_f8) k_f9 (bN 2 q_f9) k_f10 f10 k_f11 f11 k_f12 f12 k_f13 f13 k_f14 f_55 k_f15 g_57 k_f16 f_70) H := by rw [← ef_70]; exact hP
            have hD : va_D A (au__w au (nI nc) (nI np) (nI ne) st0 q4 q5 q6 q7 q8 q9 q10 q11 q12 q13 q14 q15 q16 k_f4 f4 k_f5 (bN 7 q_f5) k_f6 (bN 7 q_f6) k_f7 f7 k_f8 (bN 4 q_f8) k_f9 (bN 2 q_f9) k_f10 f10 k_f11 f11 k_f12 f12 k_f13 f13 k_f14 f_55 k_f15 g_57 k_f16 f_70) := by rw [← ef_70]; exact hD
            have hsp := hsp.trans (slet_eq xf_70)
            exact j_63 _ _ _ _ ⟨f_70, rfl, hsp.symm, hP, hD, hS, lv_sub hl [0, 1, 2, 3, 4] rfl⟩
        have hsp := hJR_59
        refine lv_icmp_lt (tgt := 126) hx hb eX0_measure_100 (by decide) (fun c_71 => ?_) (fun c_71 => ?_)
        · have hcc_71 := c_71
          have hsp := hsp.trans (if_pos c_71)
          exact j_58 _ _ _ _ ⟨g_36, rfl, hsp.symm, hP, hD, hS, lv_sub hl [2, 3, 4, 1, 0] rfl⟩
        · have hcc_71 := c_71
          have hsp := hsp.trans (if_neg c_71)
          refine lv_aload_n hx hb eX0_measure_103 rfl (lv_at hl 2 rfl) ?_
          refine va_get (D := (dC, dI)) (ci := 0) (v := .ref q15) (C := RX0) (T := TX0) (N := 17) hx hb hts hiX0 hown hK hP 0 rfl rfl 15 (by decide) v_2 (fun _ h9 => h9) rfl eX0_measure_104 ?_
          refine lv_iload hx hb eX0_measure_107 (lv_at hl 0 rfl) ?_
          refine lv_aload_n hx hb eX0_measure_109 rfl (lv_at hl 2 rfl) ?_
          refine va_get (D := (dC, dI)) (ci := 0) (v := .ref q15) (C := RX0) (T := TX0) (N := 17) hx hb hts hiX0 hown hK hP 0 rfl rfl 15 (by decide) v_2 (fun _ h9 => h9) rfl eX0_measure_110 ?_
          refine lv_iload hx hb eX0_measure_113 (lv_at hl 0 rfl) ?_
          refine va_iald hx hb hK hP 12 11 rfl rfl (vp_in_nI (n := (u_50 + 1)) (by omega) (Nat.le_of_ble_eq_true rfl)) eX0_measure_115 ?_
          refine lv_topi (fun y_72 ey_72 => ?_)
          have ey_72 : y_72 = g_36 (u_50 + 1) := ey_72.trans (congrArg g_36 (nI_clamp (n := (u_50 + 1)) (by omega)))
          have hsp := hsp.trans (slet_eq ey_72)
          refine lv_aload_n hx hb eX0_measure_116 rfl (lv_at hl 2 rfl) ?_
          refine va_get (D := (dC, dI)) (ci := 0) (v := .ref q11) (C := RX0) (T := TX0) (N := 17) hx hb hts hiX0 hown hK hP 0 rfl rfl 11 (by decide) v_10 (fun _ h9 => h9) rfl eX0_measure_117 ?_
          refine lv_iload_n hx hb eX0_measure_120 rfl (lv_at hl 1 rfl) ?_
          refine va_iald hx hb hK hP 8 7 rfl rfl (vp_in_nI (n := (g_23 * 4 + g_38)) (by omega) (Nat.le_of_ble_eq_true rfl)) eX0_measure_121 ?_
          refine lv_topi (fun y_73 ey_73 => ?_)
          have ey_73 : y_73 = f11 (g_23 * 4 + g_38) := ey_73.trans (congrArg f11 (nI_clamp (n := (g_23 * 4 + g_38)) (by omega)))
          have hsp := hsp.trans (slet_eq ey_73)
          refine va_mmax hx hb (hml.trans hl.1.symm) hown v_11 v_12 v_13 v_14 (Nat.le_of_ble_eq_true rfl) (Nat.le_of_ble_eq_true rfl) (Nat.le_of_ble_eq_true rfl) (Nat.le_of_ble_eq_true rfl) eX0_measure_122 ?_
          refine lv_topi (fun y_74 ey_74 => ?_)
          have hsp := hsp.trans (slet_eq ey_74)
          refine va_iast hx hb hK hP hD hS 12 11 rfl rfl (vp_in_nI (n := (u_50 + 1)) (by omega) (Nat.le_of_ble_eq_true rfl)) eX0_measure_125 (fun H locs hP hD hS => ?_)
          obtain ⟨f_75, ef_75, xf_75⟩ := up_x g_36 (n := (u_50 + 1)) y_74 (by omega)
          have hP : va_P (dC, dI) vwCl (au__w au (nI nc) (nI np) (nI ne) st0 q4 q5 q6 q7 q8 q9 q10 q11 q12 q13 q14 q15 q16 k_f4 f4 k_f5 (bN 7 q_f5) k_f6 (bN 7 q_f6) k_f7 f7 k_f8 (bN 4 q_f8) k_f9 (bN 2 q_f9) k_f10 f10 k_f11 f11 k_f12 f12 k_f13 f13 k_f14 f_55 k_f15 f_75 k_f16 g_37) H := by rw [← ef_75]; exact hP
          have hD : va_D A (au__w au (nI nc) (nI np) (nI ne) st0 q4 q5 q6 q7 q8 q9 q10 q11 q12 q13 q14 q15 q16 k_f4 f4 k_f5 (bN 7 q_f5) k_f6 (bN 7 q_f6) k_f7 f7 k_f8 (bN 4 q_f8) k_f9 (bN 2 q_f9) k_f10 f10 k_f11 f11 k_f12 f12 k_f13 f13 k_f14 f_55 k_f15 f_75 k_f16 g_37) := by rw [← ef_75]; exact hD
          have hsp := hsp.trans (slet_eq xf_75)
          exact j_58 _ _ _ _ ⟨f_75, rfl, hsp.symm, hP, hD, hS, lv_sub hl [2, 3, 4, 1, 0] rfl⟩
  · have c_15 : ¬ 3 < g_8 := fun z => c_15 ((nI_ltI (a := 3) (b := g_8) (Nat.le_of_ble_eq_true rfl) (Nat.lt_of_le_of_lt hg_8 (Nat.le_of_ble_eq_true rfl))).mpr z)
    have hsp := hsp.trans (if_neg c_15)
    refine lv_aload_n hx hb eX0_measure_7 rfl (lv_at hl 0 rfl) ?_
    refine va_get (D := (dC, dI)) (ci := 0) (v := .ref q14) (C := RX0) (T := TX0) (N := 17) hx hb hts hiX0 hown hK hP 0 rfl rfl 14 (by decide) v_1 (fun _ h9 => h9) rfl eX0_measure_8 ?_
    refine lv_iload_n hx hb eX0_measure_11 rfl (lv_at hl 1 rfl) ?_
    refine lv_iconst (v := 0) hx hb eX0_measure_12 (by decide) ?_
    refine va_iast hx hb hK hP hD hS 11 10 rfl rfl (vp_in_nI (n := g_8) (by omega) (Nat.le_of_ble_eq_true rfl)) eX0_measure_13 (fun H locs hP hD hS => ?_)
    obtain ⟨f_76, ef_76, xf_76⟩ := up_x g_5 (n := g_8) 0 (Nat.lt_of_le_of_lt hg_8 (Nat.le_of_ble_eq_true rfl))
    have hP : va_P (dC, dI) vwCl (au__w au (nI nc) (nI np) (nI ne) st0 q4 q5 q6 q7 q8 q9 q10 q11 q12 q13 q14 q15 q16 k_f4 f4 k_f5 (bN 7 q_f5) k_f6 (bN 7 q_f6) k_f7 f7 k_f8 (bN 4 q_f8) k_f9 (bN 2 q_f9) k_f10 f10 k_f11 f11 k_f12 f12 k_f13 f13 k_f14 f_76 k_f15 g_6 k_f16 g_7) H := by rw [← ef_76]; exact hP
    have hD : va_D A (au__w au (nI nc) (nI np) (nI ne) st0 q4 q5 q6 q7 q8 q9 q10 q11 q12 q13 q14 q15 q16 k_f4 f4 k_f5 (bN 7 q_f5) k_f6 (bN 7 q_f6) k_f7 f7 k_f8 (bN 4 q_f8) k_f9 (bN 2 q_f9) k_f10 f10 k_f11 f11 k_f12 f12 k_f13 f13 k_f14 f_76 k_f15 g_6 k_f16 g_7) := by rw [← ef_76]; exact hD
    have hsp := hsp.trans (slet_eq xf_76)
    refine lv_aload_n hx hb eX0_measure_14 rfl (lv_at hl 0 rfl) ?_
    refine va_get (D := (dC, dI)) (ci := 0) (v := .ref q15) (C := RX0) (T := TX0) (N := 17) hx hb hts hiX0 hown hK hP 0 rfl rfl 15 (by decide) v_2 (fun _ h9 => h9) rfl eX0_measure_15 ?_
    refine lv_iload_n hx hb eX0_measure_18 rfl (lv_at hl 1 rfl) ?_
    refine lv_iconst (v := 0) hx hb eX0_measure_19 (by decide) ?_
    refine va_iast hx hb hK hP hD hS 12 11 rfl rfl (vp_in_nI (n := g_8) (by omega) (Nat.le_of_ble_eq_true rfl)) eX0_measure_20 (fun H locs hP hD hS => ?_)
    obtain ⟨f_77, ef_77, xf_77⟩ := up_x g_6 (n := g_8) 0 (Nat.lt_of_le_of_lt hg_8 (Nat.le_of_ble_eq_true rfl))
    have hP : va_P (dC, dI) vwCl (au__w au (nI nc) (nI np) (nI ne) st0 q4 q5 q6 q7 q8 q9 q10 q11 q12 q13 q14 q15 q16 k_f4 f4 k_f5 (bN 7 q_f5) k_f6 (bN 7 q_f6) k_f7 f7 k_f8 (bN 4 q_f8) k_f9 (bN 2 q_f9) k_f10 f10 k_f11 f11 k_f12 f12 k_f13 f13 k_f14 f_76 k_f15 f_77 k_f16 g_7) H := by rw [← ef_77]; exact hP
    have hD : va_D A (au__w au (nI nc) (nI np) (nI ne) st0 q4 q5 q6 q7 q8 q9 q10 q11 q12 q13 q14 q15 q16 k_f4 f4 k_f5 (bN 7 q_f5) k_f6 (bN 7 q_f6) k_f7 f7 k_f8 (bN 4 q_f8) k_f9 (bN 2 q_f9) k_f10 f10 k_f11 f11 k_f12 f12 k_f13 f13 k_f14 f_76 k_f15 f_77 k_f16 g_7) := by rw [← ef_77]; exact hD
    have hsp := hsp.trans (slet_eq xf_77)
    refine lv_aload_n hx hb eX0_measure_21 rfl (lv_at hl 0 rfl) ?_
    refine va_get (D := (dC, dI)) (ci := 0) (v := .ref q16) (C := RX0) (T := TX0) (N := 17) hx hb hts hiX0 hown hK hP 0 rfl rfl 16 (by decide) v_3 (fun _ h9 => h9) rfl eX0_measure_22 ?_
    refine lv_iload_n hx hb eX0_measure_25 rfl (lv_at hl 1 rfl) ?_
    refine lv_iconst (v := 0) hx hb eX0_measure_26 (by decide) ?_
    refine va_iast hx hb hK hP hD hS 13 12 rfl rfl (vp_in_nI (n := g_8) (by omega) (Nat.le_of_ble_eq_true rfl)) eX0_measure_27 (fun H locs hP hD hS => ?_)
    obtain ⟨f_78, ef_78, xf_78⟩ := up_x g_7 (n := g_8) 0 (Nat.lt_of_le_of_lt hg_8 (Nat.le_of_ble_eq_true rfl))
    have hP : va_P (dC, dI) vwCl (au__w au (nI nc) (nI np) (nI ne) st0 q4 q5 q6 q7 q8 q9 q10 q11 q12 q13 q14 q15 q16 k_f4 f4 k_f5 (bN 7 q_f5) k_f6 (bN 7 q_f6) k_f7 f7 k_f8 (bN 4 q_f8) k_f9 (bN 2 q_f9) k_f10 f10 k_f11 f11 k_f12 f12 k_f13 f13 k_f14 f_76 k_f15 f_77 k_f16 f_78) H := by rw [← ef_78]; exact hP
    have hD : va_D A (au__w au (nI nc) (nI np) (nI ne) st0 q4 q5 q6 q7 q8 q9 q10 q11 q12 q13 q14 q15 q16 k_f4 f4 k_f5 (bN 7 q_f5) k_f6 (bN 7 q_f6) k_f7 f7 k_f8 (bN 4 q_f8) k_f9 (bN 2 q_f9) k_f10 f10 k_f11 f11 k_f12 f12 k_f13 f13 k_f14 f_76 k_f15 f_77 k_f16 f_78) := by rw [← ef_78]; exact hD
    have hsp := hsp.trans (slet_eq xf_78)
    refine lv_iinc (v := (nI (g_8 + 1))) (lv' := [(1, .int (nI (g_8 + 1))), (0, .ref au)]) hx hb eX0_measure_28 hl (k := 1) rfl (nI_1 _) (by decide) rfl (fun ls hl => ?_)
    refine lv_goto (tgt := 2) hx hb eX0_measure_31 (by decide) ?_
    exact ih_9 (4 - (g_8 + 1)) (by omega) _ _ _ ⟨f_76, f_77, f_78, (g_8 + 1), rfl, (by omega), hin_13 _ hsp, hP, hD, hS, lv_sub hl [1, 0] rfl⟩
abbrev vs_E_0_addEdge : List Cond := .code yX0_addEdge cX0_addEdge 3 none :: CM
noncomputable def sp_E_0_addEdge (ne : Nat) (q_f5 : Nat → Nat) (q_f6 : Nat → Nat) (f7 : Nat → Int32) (a0 : Nat) (a1 : Nat) : (Nat → Nat) × (Nat → Nat) × (Nat → Int32) := (slet (updN q_f5 ne a0) (fun q_1 => (slet (updN q_f6 ne a1) (fun q_2 => (slet (upd f7 ne 0) (fun f_3 => (q_1, q_2, f_3)))))))
set_option maxHeartbeats 4000000 in
set_option maxRecDepth 100000 in
theorem c_E_0_addEdge (l : Launch) (dC : Nat → ClassId) (dI : Nat → Nat → Nat) (sz : Nat) (au : Nat) (nc : Nat) (np : Nat) (ne : Nat) (st0 : Int32) (q4 : Nat) (q5 : Nat) (q6 : Nat) (q7 : Nat) (q8 : Nat) (q9 : Nat) (q10 : Nat) (q11 : Nat) (q12 : Nat) (q13 : Nat) (q14 : Nat) (q15 : Nat) (q16 : Nat) (k_f4 : ClassId) (f4 : Nat → Int32) (k_f5 : ClassId) (q_f5 : Nat → Nat) (k_f6 : ClassId) (q_f6 : Nat → Nat) (k_f7 : ClassId) (f7 : Nat → Int32) (k_f8 : ClassId) (q_f8 : Nat → Nat) (k_f9 : ClassId) (q_f9 : Nat → Nat) (k_f10 : ClassId) (f10 : Nat → Int32) (k_f11 : ClassId) (f11 : Nat → Int32) (k_f12 : ClassId) (f12 : Nat → Int32) (k_f13 : ClassId) (f13 : Nat → Int32) (k_f14 : ClassId) (f14 : Nat → Int32) (k_f15 : ClassId) (f15 : Nat → Int32) (k_f16 : ClassId) (f16 : Nat → Int32) (a0 : Nat) (a1 : Nat) (hnc : nc ≤ 3) (hnp : np ≤ 8) (hne : ne ≤ 13) (hst0 : pm1 7 st0) (ha0 : a0 ≤ 7) (ha1 : a1 ≤ 7) : Met l yX0_addEdge vs_E_0_addEdge ({ frames := 0, cells := 0, slots := 0, locals := 0 }) (va_Pc [.ref au, .int (nI a0), .int (nI a1)] (pu_B (dC, dI) (au__w au (nI nc) (nI np) (nI ne) st0 q4 q5 q6 q7 q8 q9 q10 q11 q12 q13 q14 q15 q16 k_f4 f4 k_f5 (bN 7 q_f5) k_f6 (bN 7 q_f6) k_f7 f7 k_f8 (bN 4 q_f8) k_f9 (bN 2 q_f9) k_f10 f10 k_f11 f11 k_f12 f12 k_f13 f13 k_f14 f14 k_f15 f15 k_f16 f16) (au__t k_f4 k_f5 k_f6 k_f7 k_f8 k_f9 k_f10 k_f11 k_f12 k_f13 k_f14 k_f15 k_f16) sz)) (va_Qv (fun (_ : Unit) => True) (fun _ t => ∃ (z_f5 : Nat → Nat) (z_f6 : Nat → Nat) (z_f7 : Nat → Int32), pu_E (dC, dI) (au__w au (nI nc) (nI np) (nI (ne + 1)) st0 q4 q5 q6 q7 q8 q9 q10 q11 q12 q13 q14 q15 q16 k_f4 f4 k_f5 (bN 7 z_f5) k_f6 (bN 7 z_f6) k_f7 z_f7 k_f8 (bN 4 q_f8) k_f9 (bN 2 q_f9) k_f10 f10 k_f11 f11 k_f12 f12 k_f13 f13 k_f14 f14 k_f15 f15 k_f16 f16) (au__t k_f4 k_f5 k_f6 k_f7 k_f8 k_f9 k_f10 k_f11 k_f12 k_f13 k_f14 k_f15 k_f16) (va_A ((au__w au (nI nc) (nI np) (nI ne) st0 q4 q5 q6 q7 q8 q9 q10 q11 q12 q13 q14 q15 q16 k_f4 f4 k_f5 (bN 7 q_f5) k_f6 (bN 7 q_f6) k_f7 f7 k_f8 (bN 4 q_f8) k_f9 (bN 2 q_f9) k_f10 f10 k_f11 f11 k_f12 f12 k_f13 f13 k_f14 f14 k_f15 f15 k_f16 f16)) sz) t ∧ ((z_f5, z_f6, z_f7) = (sp_E_0_addEdge ne q_f5 q_f6 f7 a0 a1))) (va_A ((au__w au (nI nc) (nI np) (nI ne) st0 q4 q5 q6 q7 q8 q9 q10 q11 q12 q13 q14 q15 q16 k_f4 f4 k_f5 (bN 7 q_f5) k_f6 (bN 7 q_f6) k_f7 f7 k_f8 (bN 4 q_f8) k_f9 (bN 2 q_f9) k_f10 f10 k_f11 f11 k_f12 f12 k_f13 f13 k_f14 f14 k_f15 f15 k_f16 f16)) sz)) 0 0 (va_A ((au__w au (nI nc) (nI np) (nI ne) st0 q4 q5 q6 q7 q8 q9 q10 q11 q12 q13 q14 q15 q16 k_f4 f4 k_f5 (bN 7 q_f5) k_f6 (bN 7 q_f6) k_f7 f7 k_f8 (bN 4 q_f8) k_f9 (bN 2 q_f9) k_f10 f10 k_f11 f11 k_f12 f12 k_f13 f13 k_f14 f14 k_f15 f15 k_f16 f16)) sz) := by
  refine Met.ofW (cc := cX0_addEdge) (maxL := 3) (ret := none) (by decide) rfl ?_
  intro p e s m args below meth c s₁ B hml hv
  obtain ⟨rfl, rfl, hP, hK, hD0⟩ := hv
  have hx := B.exec
  have hb := B.bytes
  have hr := B.returns
  have hts := atoms_spec (ws := vs_E_0_addEdge) B.pre
  have v_1 := hts (.fieldLink RX0 19 "ClockReach$Automaton" "sources" "[I") (List.mem_cons_of_mem _ cm_10)
  have v_2 := hts (.fieldLink RX0 62 "ClockReach$Automaton" "edges" "I") (List.mem_cons_of_mem _ cm_5)
  have v_3 := hts (.fieldLink RX0 23 "ClockReach$Automaton" "targets" "[I") (List.mem_cons_of_mem _ cm_11)
  have v_4 := hts (.fieldLink RX0 26 "ClockReach$Automaton" "resets" "[I") (List.mem_cons_of_mem _ cm_12)
  have hown : s.vm.findClass RX0 = some m.cls := findClass_of_methodNamed B.named
  have hlocks := B.notSynchronized
  have hiX0 : ∀ w ∈ wsX00, w ∈ vs_E_0_addEdge := fun _ h => List.mem_cons_of_mem _ (cm_X0 h)
  have hD := hD0.self (sz := s.heap.size)
  generalize hAe : va_A ((au__w au (nI nc) (nI np) (nI ne) st0 q4 q5 q6 q7 q8 q9 q10 q11 q12 q13 q14 q15 q16 k_f4 f4 k_f5 (bN 7 q_f5) k_f6 (bN 7 q_f6) k_f7 f7 k_f8 (bN 4 q_f8) k_f9 (bN 2 q_f9) k_f10 f10 k_f11 f11 k_f12 f12 k_f13 f13 k_f14 f14 k_f15 f15 k_f16 f16)) s.heap.size = A at hD ⊢
  have hA : ∀ q : Nat, s.heap.size ≤ q → A q := fun q h => by rw [← hAe]; exact Or.inr h
  have hS : va_S A s.heap s.heap [] := va_S.rf
  have hl := lv_entry ([.ref au, .int (nI a0), .int (nI a1)]) (n := 3) (Nat.le_of_ble_eq_true rfl)
  rw [lg_entry_eq]
  generalize (lg_sl ([.ref au, .int (nI a0), .int (nI a1)]) ++ List.replicate (3 - (lg_sl ([.ref au, .int (nI a0), .int (nI a1)])).length) Slot.unset).toArray = ls at hl ⊢
  have hl : lv_has ls 3 [(0, .ref au), (1, .int (nI a0)), (2, .int (nI a1))] := hl
  obtain ⟨RR, hRR⟩ : ∃ x, x = (sp_E_0_addEdge ne q_f5 q_f6 f7 a0 a1) := ⟨_, rfl⟩
  have hsp := hRR
  refine lv_aload_n hx hb eX0_addEdge_0 rfl (lv_at hl 0 rfl) ?_
  refine va_get (D := (dC, dI)) (ci := 0) (v := .ref q5) (C := RX0) (T := TX0) (N := 17) hx hb hts hiX0 hown hK hP 0 rfl rfl 5 (by decide) v_1 (fun _ h9 => h9) rfl eX0_addEdge_1 ?_
  refine lv_aload_n hx hb eX0_addEdge_4 rfl (lv_at hl 0 rfl) ?_
  refine va_get (D := (dC, dI)) (ci := 0) (v := .int (nI ne)) (C := RX0) (T := TX0) (N := 17) hx hb hts hiX0 hown hK hP 0 rfl rfl 2 (by decide) v_2 (fun _ h9 => h9) rfl eX0_addEdge_5 ?_
  refine lv_iload_n hx hb eX0_addEdge_8 rfl (lv_at hl 1 rfl) ?_
  refine va_iast hx hb hK hP hD hS 2 1 rfl rfl (vp_in_nI (n := ne) (Nat.lt_of_le_of_lt hne (Nat.le_of_ble_eq_true rfl)) (Nat.le_of_ble_eq_true rfl)) eX0_addEdge_9 (fun H locs hP hD hS => ?_)
  obtain ⟨q_1, eq_1, kq_1, oq_1, xq_1⟩ := bN_upx 7 q_f5 (n := ne) (v := a0) (Nat.lt_of_le_of_lt hne (Nat.le_of_ble_eq_true rfl)) ha0
  have hP : va_P (dC, dI) vwCl (au__w au (nI nc) (nI np) (nI ne) st0 q4 q5 q6 q7 q8 q9 q10 q11 q12 q13 q14 q15 q16 k_f4 f4 k_f5 (bN 7 q_1) k_f6 (bN 7 q_f6) k_f7 f7 k_f8 (bN 4 q_f8) k_f9 (bN 2 q_f9) k_f10 f10 k_f11 f11 k_f12 f12 k_f13 f13 k_f14 f14 k_f15 f15 k_f16 f16) H := by rw [← eq_1]; exact hP
  have hD : va_D A (au__w au (nI nc) (nI np) (nI ne) st0 q4 q5 q6 q7 q8 q9 q10 q11 q12 q13 q14 q15 q16 k_f4 f4 k_f5 (bN 7 q_1) k_f6 (bN 7 q_f6) k_f7 f7 k_f8 (bN 4 q_f8) k_f9 (bN 2 q_f9) k_f10 f10 k_f11 f11 k_f12 f12 k_f13 f13 k_f14 f14 k_f15 f15 k_f16 f16) := by rw [← eq_1]; exact hD
  have hsp := hsp.trans (slet_eq xq_1)
  refine lv_aload_n hx hb eX0_addEdge_10 rfl (lv_at hl 0 rfl) ?_
  refine va_get (D := (dC, dI)) (ci := 0) (v := .ref q6) (C := RX0) (T := TX0) (N := 17) hx hb hts hiX0 hown hK hP 0 rfl rfl 6 (by decide) v_3 (fun _ h9 => h9) rfl eX0_addEdge_11 ?_
  refine lv_aload_n hx hb eX0_addEdge_14 rfl (lv_at hl 0 rfl) ?_
  refine va_get (D := (dC, dI)) (ci := 0) (v := .int (nI ne)) (C := RX0) (T := TX0) (N := 17) hx hb hts hiX0 hown hK hP 0 rfl rfl 2 (by decide) v_2 (fun _ h9 => h9) rfl eX0_addEdge_15 ?_
  refine lv_iload_n hx hb eX0_addEdge_18 rfl (lv_at hl 2 rfl) ?_
  refine va_iast hx hb hK hP hD hS 3 2 rfl rfl (vp_in_nI (n := ne) (Nat.lt_of_le_of_lt hne (Nat.le_of_ble_eq_true rfl)) (Nat.le_of_ble_eq_true rfl)) eX0_addEdge_19 (fun H locs hP hD hS => ?_)
  obtain ⟨q_2, eq_2, kq_2, oq_2, xq_2⟩ := bN_upx 7 q_f6 (n := ne) (v := a1) (Nat.lt_of_le_of_lt hne (Nat.le_of_ble_eq_true rfl)) ha1
  have hP : va_P (dC, dI) vwCl (au__w au (nI nc) (nI np) (nI ne) st0 q4 q5 q6 q7 q8 q9 q10 q11 q12 q13 q14 q15 q16 k_f4 f4 k_f5 (bN 7 q_1) k_f6 (bN 7 q_2) k_f7 f7 k_f8 (bN 4 q_f8) k_f9 (bN 2 q_f9) k_f10 f10 k_f11 f11 k_f12 f12 k_f13 f13 k_f14 f14 k_f15 f15 k_f16 f16) H := by rw [← eq_2]; exact hP
  have hD : va_D A (au__w au (nI nc) (nI np) (nI ne) st0 q4 q5 q6 q7 q8 q9 q10 q11 q12 q13 q14 q15 q16 k_f4 f4 k_f5 (bN 7 q_1) k_f6 (bN 7 q_2) k_f7 f7 k_f8 (bN 4 q_f8) k_f9 (bN 2 q_f9) k_f10 f10 k_f11 f11 k_f12 f12 k_f13 f13 k_f14 f14 k_f15 f15 k_f16 f16) := by rw [← eq_2]; exact hD
  have hsp := hsp.trans (slet_eq xq_2)
  refine lv_aload_n hx hb eX0_addEdge_20 rfl (lv_at hl 0 rfl) ?_
  refine va_get (D := (dC, dI)) (ci := 0) (v := .ref q7) (C := RX0) (T := TX0) (N := 17) hx hb hts hiX0 hown hK hP 0 rfl rfl 7 (by decide) v_4 (fun _ h9 => h9) rfl eX0_addEdge_21 ?_
  refine lv_aload_n hx hb eX0_addEdge_24 rfl (lv_at hl 0 rfl) ?_
  refine va_get (D := (dC, dI)) (ci := 0) (v := .int (nI ne)) (C := RX0) (T := TX0) (N := 17) hx hb hts hiX0 hown hK hP 0 rfl rfl 2 (by decide) v_2 (fun _ h9 => h9) rfl eX0_addEdge_25 ?_
  refine lv_iconst (v := 0) hx hb eX0_addEdge_28 (by decide) ?_
  refine va_iast hx hb hK hP hD hS 4 3 rfl rfl (vp_in_nI (n := ne) (Nat.lt_of_le_of_lt hne (Nat.le_of_ble_eq_true rfl)) (Nat.le_of_ble_eq_true rfl)) eX0_addEdge_29 (fun H locs hP hD hS => ?_)
  obtain ⟨f_3, ef_3, xf_3⟩ := up_x f7 (n := ne) 0 (Nat.lt_of_le_of_lt hne (Nat.le_of_ble_eq_true rfl))
  have hP : va_P (dC, dI) vwCl (au__w au (nI nc) (nI np) (nI ne) st0 q4 q5 q6 q7 q8 q9 q10 q11 q12 q13 q14 q15 q16 k_f4 f4 k_f5 (bN 7 q_1) k_f6 (bN 7 q_2) k_f7 f_3 k_f8 (bN 4 q_f8) k_f9 (bN 2 q_f9) k_f10 f10 k_f11 f11 k_f12 f12 k_f13 f13 k_f14 f14 k_f15 f15 k_f16 f16) H := by rw [← ef_3]; exact hP
  have hD : va_D A (au__w au (nI nc) (nI np) (nI ne) st0 q4 q5 q6 q7 q8 q9 q10 q11 q12 q13 q14 q15 q16 k_f4 f4 k_f5 (bN 7 q_1) k_f6 (bN 7 q_2) k_f7 f_3 k_f8 (bN 4 q_f8) k_f9 (bN 2 q_f9) k_f10 f10 k_f11 f11 k_f12 f12 k_f13 f13 k_f14 f14 k_f15 f15 k_f16 f16) := by rw [← ef_3]; exact hD
  have hsp := hsp.trans (slet_eq xf_3)
  refine lv_aload_n hx hb eX0_addEdge_30 rfl (lv_at hl 0 rfl) ?_
  refine lv_dup hx hb eX0_addEdge_31 rfl ?_
  refine va_get (D := (dC, dI)) (ci := 0) (v := .int (nI ne)) (C := RX0) (T := TX0) (N := 17) hx hb hts hiX0 hown hK hP 0 rfl rfl 2 (by decide) v_2 (fun _ h9 => h9) rfl eX0_addEdge_32 ?_
  refine lv_iconst (v := 1) hx hb eX0_addEdge_35 (by decide) ?_
  refine lv_iadd hx hb eX0_addEdge_36 ?_
  refine lv_topi (fun y_4 ey_4 => ?_)
  obtain rfl : y_4 = (nI (ne + 1)) := ey_4.trans (nI_add ne 1)
  refine va_put (D := (dC, dI)) (ci := 0) (v := .int (nI (ne + 1))) (ty := .int) (C := RX0) (T := TX0) (N := 17) hx hb hts hiX0 tyX0 tyX0_ok nmX0 hown hK hP hD hS 0 rfl rfl 2 (by decide) v_2 (fun _ h9 => h9) rfl (by decide +kernel) rfl rfl (Nat.le_of_ble_eq_true rfl) eX0_addEdge_37 (fun H locs hP hD hS => ?_)
  have hP : va_P (dC, dI) vwCl (au__w au (nI nc) (nI np) (nI (ne + 1)) st0 q4 q5 q6 q7 q8 q9 q10 q11 q12 q13 q14 q15 q16 k_f4 f4 k_f5 (bN 7 q_1) k_f6 (bN 7 q_2) k_f7 f_3 k_f8 (bN 4 q_f8) k_f9 (bN 2 q_f9) k_f10 f10 k_f11 f11 k_f12 f12 k_f13 f13 k_f14 f14 k_f15 f15 k_f16 f16) H := hP
  have hD : va_D A (au__w au (nI nc) (nI np) (nI (ne + 1)) st0 q4 q5 q6 q7 q8 q9 q10 q11 q12 q13 q14 q15 q16 k_f4 f4 k_f5 (bN 7 q_1) k_f6 (bN 7 q_2) k_f7 f_3 k_f8 (bN 4 q_f8) k_f9 (bN 2 q_f9) k_f10 f10 k_f11 f11 k_f12 f12 k_f13 f13 k_f14 f14 k_f15 f15 k_f16 f16) := hD
  exact W.vret hx hb hr (fun t ht hW => ⟨⟨(), rfl, trivial, ⟨q_1, q_2, f_3, ⟨by rw [ht]; exact hP, va_K.moved hW.alike hK, hD⟩, (hsp.symm.trans hRR)⟩⟩, hS.F ht⟩) hS.2.2 eX0_addEdge_40
