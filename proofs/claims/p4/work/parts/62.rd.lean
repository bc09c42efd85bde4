theorem eX0_addCondition_0 : decode cX0_addCondition 0 = .ok (.iload_n 1, 1) := by decide +kernel
theorem eX0_addCondition_1 : decode cX0_addCondition 1 = .ok (.aload_n 0, 1) := by decide +kernel
theorem eX0_addCondition_2 : decode cX0_addCondition 2 = .ok (.getfield 29, 3) := by decide +kernel
theorem eX0_addCondition_5 : decode cX0_addCondition 5 = .ok (.iload_n 1, 1) := by decide +kernel
theorem eX0_addCondition_6 : decode cX0_addCondition 6 = .ok (.iaload, 1) := by decide +kernel
theorem eX0_addCondition_7 : decode cX0_addCondition 7 = .ok (.invokestatic 65, 3) := by decide +kernel
theorem eX0_addCondition_10 : decode cX0_addCondition 10 = .ok (.istore 5, 2) := by decide +kernel
theorem eX0_addCondition_12 : decode cX0_addCondition 12 = .ok (.aload_n 0, 1) := by decide +kernel
theorem eX0_addCondition_13 : decode cX0_addCondition 13 = .ok (.getfield 32, 3) := by decide +kernel
theorem eX0_addCondition_16 : decode cX0_addCondition 16 = .ok (.iload 5, 2) := by decide +kernel
theorem eX0_addCondition_18 : decode cX0_addCondition 18 = .ok (.iload_n 2, 1) := by decide +kernel
theorem eX0_addCondition_19 : decode cX0_addCondition 19 = .ok (.iastore, 1) := by decide +kernel
theorem eX0_addCondition_20 : decode cX0_addCondition 20 = .ok (.aload_n 0, 1) := by decide +kernel
theorem eX0_addCondition_21 : decode cX0_addCondition 21 = .ok (.getfield 35, 3) := by decide +kernel
theorem eX0_addCondition_24 : decode cX0_addCondition 24 = .ok (.iload 5, 2) := by decide +kernel
theorem eX0_addCondition_26 : decode cX0_addCondition 26 = .ok (.iload_n 3, 1) := by decide +kernel
theorem eX0_addCondition_27 : decode cX0_addCondition 27 = .ok (.iastore, 1) := by decide +kernel
theorem eX0_addCondition_28 : decode cX0_addCondition 28 = .ok (.aload_n 0, 1) := by decide +kernel
theorem eX0_addCondition_29 : decode cX0_addCondition 29 = .ok (.getfield 38, 3) := by decide +kernel
theorem eX0_addCondition_32 : decode cX0_addCondition 32 = .ok (.iload 5, 2) := by decide +kernel
theorem eX0_addCondition_34 : decode cX0_addCondition 34 = .ok (.iload 4, 2) := by decide +kernel
theorem eX0_addCondition_36 : decode cX0_addCondition 36 = .ok (.iastore, 1) := by decide +kernel
theorem eX0_addCondition_37 : decode cX0_addCondition 37 = .ok (.aload_n 0, 1) := by decide +kernel
theorem eX0_addCondition_38 : decode cX0_addCondition 38 = .ok (.iload 5, 2) := by decide +kernel
theorem eX0_addCondition_40 : decode cX0_addCondition 40 = .ok (.invokevirtual 69, 3) := by decide +kernel
theorem eX0_addCondition_43 : decode cX0_addCondition 43 = .ok (.aload_n 0, 1) := by decide +kernel
theorem eX0_addCondition_44 : decode cX0_addCondition 44 = .ok (.getfield 29, 3) := by decide +kernel
theorem eX0_addCondition_47 : decode cX0_addCondition 47 = .ok (.iload_n 1, 1) := by decide +kernel
theorem eX0_addCondition_48 : decode cX0_addCondition 48 = .ok (.dup2, 1) := by decide +kernel
theorem eX0_addCondition_49 : decode cX0_addCondition 49 = .ok (.iaload, 1) := by decide +kernel
theorem eX0_addCondition_50 : decode cX0_addCondition 50 = .ok (.iconst 1, 1) := by decide +kernel
theorem eX0_addCondition_51 : decode cX0_addCondition 51 = .ok (.iadd, 1) := by decide +kernel
theorem eX0_addCondition_52 : decode cX0_addCondition 52 = .ok (.iastore, 1) := by decide +kernel
theorem eX0_addCondition_53 : decode cX0_addCondition 53 = .ok (.return_, 1) := by decide +kernel
abbrev vs_C_0_addCondition : List Cond := .code yX0_addCondition cX0_addCondition 6 none :: CM
theorem g_C_0_addCondition_C_0_slot : GoodIn vs_C_0_addCondition (va_wsS RX0 65 yX0_slot vs_C_0_slot) := cm_gS cm_17 cm_18 cm_19 cm_1
theorem g_C_0_addCondition_C_0_setBounds : GoodIn vs_C_0_addCondition (wsV RX0 69 RX0 yX0_setBounds vs_C_0_setBounds) := cm_gV cm_20 cm_21 cm_22 cm_19 cm_23
set_option maxHeartbeats 4000000 in
set_option maxRecDepth 100000 in
theorem c_C_0_addCondition (l : Launch) (dC : Nat → ClassId) (dI : Nat → Nat → Nat) (sz : Nat) (au : Nat) (nc : Nat) (np : Nat) (ne : Nat) (st0 : Int32) (q4 : Nat) (q5 : Nat) (q6 : Nat) (q7 : Nat) (q8 : Nat) (q9 : Nat) (q10 : Nat) (q11 : Nat) (q12 : Nat) (q13 : Nat) (q14 : Nat) (q15 : Nat) (q16 : Nat) (k_f4 : ClassId) (f4 : Nat → Int32) (k_f5 : ClassId) (q_f5 : Nat → Nat) (k_f6 : ClassId) (q_f6 : Nat → Nat) (k_f7 : ClassId) (f7 : Nat → Int32) (k_f8 : ClassId) (q_f8 : Nat → Nat) (k_f9 : ClassId) (q_f9 : Nat → Nat) (k_f10 : ClassId) (f10 : Nat → Int32) (k_f11 : ClassId) (f11 : Nat → Int32) (k_f12 : ClassId) (f12 : Nat → Int32) (k_f13 : ClassId) (f13 : Nat → Int32) (k_f14 : ClassId) (f14 : Nat → Int32) (k_f15 : ClassId) (f15 : Nat → Int32) (k_f16 : ClassId) (f16 : Nat → Int32) (a0 : Nat) (a1 : Nat) (p2 : Int32) (p3 : Int32) (c0 : Nat) (hc0 : c0 ≤ 3) (hnc : nc ≤ 3) (hnp : np ≤ 8) (hne : ne ≤ 14) (hst0 : pm1 7 st0) (ha0 : a0 ≤ 21) (ha1 : a1 ≤ 2) (hq0 : bN 4 q_f8 (nI a0).toNatClampNeg = nI c0) : Met l yX0_addCondition vs_C_0_addCondition ({ frames := 1, cells := 0, slots := 0, locals := 23 }) (va_Pc [.ref au, .int (nI a0), .int (nI a1), .int p2, .int p3] (pu_B (dC, dI) (au__w au (nI nc) (nI np) (nI ne) st0 q4 q5 q6 q7 q8 q9 q10 q11 q12 q13 q14 q15 q16 k_f4 f4 k_f5 (bN 7 q_f5) k_f6 (bN 7 q_f6) k_f7 f7 k_f8 (bN 4 q_f8) k_f9 (bN 2 q_f9) k_f10 f10 k_f11 f11 k_f12 f12 k_f13 f13 k_f14 f14 k_f15 f15 k_f16 f16) (au__t k_f4 k_f5 k_f6 k_f7 k_f8 k_f9 k_f10 k_f11 k_f12 k_f13 k_f14 k_f15 k_f16) sz)) (va_Qv (fun (_ : Unit) => True) (fun _ t => ∃ (z_f13 : Nat → Int32) (z_f8 : Nat → Nat) (z_f9 : Nat → Nat) (z_f10 : Nat → Int32) (z_f11 : Nat → Int32) (z_f12 : Nat → Int32), pu_E (dC, dI) (au__w au (nI nc) (nI np) (nI ne) st0 q4 q5 q6 q7 q8 q9 q10 q11 q12 q13 q14 q15 q16 k_f4 f4 k_f5 (bN 7 q_f5) k_f6 (bN 7 q_f6) k_f7 f7 k_f8 (bN 4 z_f8) k_f9 (bN 2 z_f9) k_f10 z_f10 k_f11 z_f11 k_f12 z_f12 k_f13 z_f13 k_f14 f14 k_f15 f15 k_f16 f16) (au__t k_f4 k_f5 k_f6 k_f7 k_f8 k_f9 k_f10 k_f11 k_f12 k_f13 k_f14 k_f15 k_f16) (va_A ((au__w au (nI nc) (nI np) (nI ne) st0 q4 q5 q6 q7 q8 q9 q10 q11 q12 q13 q14 q15 q16 k_f4 f4 k_f5 (bN 7 q_f5) k_f6 (bN 7 q_f6) k_f7 f7 k_f8 (bN 4 q_f8) k_f9 (bN 2 q_f9) k_f10 f10 k_f11 f11 k_f12 f12 k_f13 f13 k_f14 f14 k_f15 f15 k_f16 f16)) sz) t ∧ (bN 4 z_f8 (nI a0).toNatClampNeg = nI (c0 + 1)) ∧ (co a0 q_f8 z_f8)) (va_A ((au__w au (nI nc) (nI np) (nI ne) st0 q4 q5 q6 q7 q8 q9 q10 q11 q12 q13 q14 q15 q16 k_f4 f4 k_f5 (bN 7 q_f5) k_f6 (bN 7 q_f6) k_f7 f7 k_f8 (bN 4 q_f8) k_f9 (bN 2 q_f9) k_f10 f10 k_f11 f11 k_f12 f12 k_f13 f13 k_f14 f14 k_f15 f15 k_f16 f16)) sz)) 0 0 (va_A ((au__w au (nI nc) (nI np) (nI ne) st0 q4 q5 q6 q7 q8 q9 q10 q11 q12 q13 q14 q15 q16 k_f4 f4 k_f5 (bN 7 q_f5) k_f6 (bN 7 q_f6) k_f7 f7 k_f8 (bN 4 q_f8) k_f9 (bN 2 q_f9) k_f10 f10 k_f11 f11 k_f12 f12 k_f13 f13 k_f14 f14 k_f15 f15 k_f16 f16)) sz) := by
  refine Met.ofW (cc := cX0_addCondition) (maxL := 6) (ret := none) (by decide) rfl ?_
  intro p e s m args below meth c s₁ B hml hv
  obtain ⟨rfl, rfl, hP, hK, hD0⟩ := hv
  have hx := B.exec
  have hb := B.bytes
  have hr := B.returns
  have hts := atoms_spec (ws := vs_C_0_addCondition) B.pre
  have v_1 := hts (.fieldLink RX0 29 "ClockReach$Automaton" "counts" "[I") (List.mem_cons_of_mem _ cm_8)
  have v_6 := hts (.fieldLink RX0 32 "ClockReach$Automaton" "conditionClocks" "[I") (List.mem_cons_of_mem _ cm_14)
  have v_7 := hts (.fieldLink RX0 35 "ClockReach$Automaton" "hows" "[I") (List.mem_cons_of_mem _ cm_15)
  have v_8 := hts (.fieldLink RX0 38 "ClockReach$Automaton" "numbers" "[I") (List.mem_cons_of_mem _ cm_16)
  have hown : s.vm.findClass RX0 = some m.cls := findClass_of_methodNamed B.named
  have hlocks := B.notSynchronized
  have hiX0 : ∀ w ∈ wsX00, w ∈ vs_C_0_addCondition := fun _ h => List.mem_cons_of_mem _ (cm_X0 h)
  have hD := hD0.self (sz := s.heap.size)
  generalize hAe : va_A ((au__w au (nI nc) (nI np) (nI ne) st0 q4 q5 q6 q7 q8 q9 q10 q11 q12 q13 q14 q15 q16 k_f4 f4 k_f5 (bN 7 q_f5) k_f6 (bN 7 q_f6) k_f7 f7 k_f8 (bN 4 q_f8) k_f9 (bN 2 q_f9) k_f10 f10 k_f11 f11 k_f12 f12 k_f13 f13 k_f14 f14 k_f15 f15 k_f16 f16)) s.heap.size = A at hD ⊢
  have hA : ∀ q : Nat, s.heap.size ≤ q → A q := fun q h => by rw [← hAe]; exact Or.inr h
  have hS : va_S A s.heap s.heap [] := va_S.rf
  have hl := lv_entry ([.ref au, .int (nI a0), .int (nI a1), .int p2, .int p3]) (n := 6) (Nat.le_of_ble_eq_true rfl)
  rw [lg_entry_eq]
  generalize (lg_sl ([.ref au, .int (nI a0), .int (nI a1), .int p2, .int p3]) ++ List.replicate (6 - (lg_sl ([.ref au, .int (nI a0), .int (nI a1), .int p2, .int p3])).length) Slot.unset).toArray = ls at hl ⊢
  have hl : lv_has ls 6 [(0, .ref au), (1, .int (nI a0)), (2, .int (nI a1)), (3, .int p2), (4, .int p3)] := hl
  refine lv_iload_n hx hb eX0_addCondition_0 rfl (lv_at hl 1 rfl) ?_
  refine lv_aload_n hx hb eX0_addCondition_1 rfl (lv_at hl 0 rfl) ?_
  refine va_get (D := (dC, dI)) (ci := 0) (v := .ref q8) (C := RX0) (T := TX0) (N := 17) hx hb hts hiX0 hown hK hP 0 rfl rfl 8 (by decide) v_1 (fun _ h9 => h9) rfl eX0_addCondition_2 ?_
  refine lv_iload_n hx hb eX0_addCondition_5 rfl (lv_at hl 1 rfl) ?_
  refine va_iald hx hb hK hP 5 4 rfl rfl (vp_in_nI (n := a0) (Nat.lt_of_le_of_lt ha0 (Nat.le_of_ble_eq_true rfl)) (Nat.le_of_ble_eq_true rfl)) eX0_addCondition_6 ?_
  refine lv_topi (fun y_1 ey_1 => ?_)
  obtain rfl : y_1 = nI c0 := ey_1.trans hq0
  refine va_calli (va_runS (As := [.int (nI a0), .int (nI c0)]) (rest := []) ⟨hx, hb, hml, hown, hts⟩ (c_C_0_slot l dC dI _ a0 c0 ha0 (by omega)) (va_cwS 2 hts g_C_0_addCondition_C_0_slot rfl rfl rfl (by decide +kernel) ⟨Nat.le_of_ble_eq_true rfl, Nat.le_of_ble_eq_true rfl⟩) ⟨pu_bl, pu_in (hP.sub [] rfl) (hK.sub [] rfl) (hD.sub [] (by decide) rfl)⟩ rfl rfl hl.1 rfl (lv_room (Nat.le_of_ble_eq_true rfl)) eX0_addCondition_7 ⟨Nat.le_of_ble_eq_true rfl, Nat.le_of_ble_eq_true rfl⟩) hS (fun q _ h => pu_fr hS hA q h) (pu_fr hS hA) (fun r_3 u t H1 locs ht hvm hw hB hz1 hk1 hS => ?_)
  have hP := pu_keep hP hk1
  clear hk1 hz1 ht hvm
  generalize H1 = H at hP hS ⊢
  obtain rfl : r_3 = nI (a0 * 4 + c0) := hw
  refine lv_istore (lv' := [(5, .int (nI (a0 * 4 + c0))), (0, .ref au), (1, .int (nI a0)), (2, .int (nI a1)), (3, .int p2), (4, .int p3)]) hx hb eX0_addCondition_10 hl (by decide) rfl (fun ls hl => ?_)
  refine lv_aload_n hx hb eX0_addCondition_12 rfl (lv_at hl 1 rfl) ?_
  refine va_get (D := (dC, dI)) (ci := 0) (v := .ref q9) (C := RX0) (T := TX0) (N := 17) hx hb hts hiX0 hown hK hP 0 rfl rfl 9 (by decide) v_6 (fun _ h9 => h9) rfl eX0_addCondition_13 ?_
  refine lv_iload hx hb eX0_addCondition_16 (lv_at hl 0 rfl) ?_
  refine lv_iload_n hx hb eX0_addCondition_18 rfl (lv_at hl 3 rfl) ?_
  refine va_iast hx hb hK hP hD hS 6 5 rfl rfl (vp_in_nI (n := (a0 * 4 + c0)) (by omega) (Nat.le_of_ble_eq_true rfl)) eX0_addCondition_19 (fun H locs hP hD hS => ?_)
  obtain ⟨q_4, eq_4, kq_4⟩ := bN_up 2 q_f9 (((nI (a0 * 4 + c0)) : Int32).toNatClampNeg) (v := a1) ha1
  have hP : va_P (dC, dI) vwCl (au__w au (nI nc) (nI np) (nI ne) st0 q4 q5 q6 q7 q8 q9 q10 q11 q12 q13 q14 q15 q16 k_f4 f4 k_f5 (bN 7 q_f5) k_f6 (bN 7 q_f6) k_f7 f7 k_f8 (bN 4 q_f8) k_f9 (bN 2 q_4) k_f10 f10 k_f11 f11 k_f12 f12 k_f13 f13 k_f14 f14 k_f15 f15 k_f16 f16) H := by rw [← eq_4]; exact hP
  have hD : va_D A (au__w au (nI nc) (nI np) (nI ne) st0 q4 q5 q6 q7 q8 q9 q10 q11 q12 q13 q14 q15 q16 k_f4 f4 k_f5 (bN 7 q_f5) k_f6 (bN 7 q_f6) k_f7 f7 k_f8 (bN 4 q_f8) k_f9 (bN 2 q_4) k_f10 f10 k_f11 f11 k_f12 f12 k_f13 f13 k_f14 f14 k_f15 f15 k_f16 f16) := by rw [← eq_4]; exact hD
  refine lv_aload_n hx hb eX0_addCondition_20 rfl (lv_at hl 1 rfl) ?_
  refine va_get (D := (dC, dI)) (ci := 0) (v := .ref q10) (C := RX0) (T := TX0) (N := 17) hx hb hts hiX0 hown hK hP 0 rfl rfl 10 (by decide) v_7 (fun _ h9 => h9) rfl eX0_addCondition_21 ?_
  refine lv_iload hx hb eX0_addCondition_24 (lv_at hl 0 rfl) ?_
  refine lv_iload_n hx hb eX0_addCondition_26 rfl (lv_at hl 4 rfl) ?_
  refine va_iast hx hb hK hP hD hS 7 6 rfl rfl (vp_in_nI (n := (a0 * 4 + c0)) (by omega) (Nat.le_of_ble_eq_true rfl)) eX0_addCondition_27 (fun H locs hP hD hS => ?_)
  have hP : va_P (dC, dI) vwCl (au__w au (nI nc) (nI np) (nI ne) st0 q4 q5 q6 q7 q8 q9 q10 q11 q12 q13 q14 q15 q16 k_f4 f4 k_f5 (bN 7 q_f5) k_f6 (bN 7 q_f6) k_f7 f7 k_f8 (bN 4 q_f8) k_f9 (bN 2 q_4) k_f10 (upd f10 ((nI (a0 * 4 + c0)) : Int32).toNatClampNeg p2) k_f11 f11 k_f12 f12 k_f13 f13 k_f14 f14 k_f15 f15 k_f16 f16) H := hP
  have hD : va_D A (au__w au (nI nc) (nI np) (nI ne) st0 q4 q5 q6 q7 q8 q9 q10 q11 q12 q13 q14 q15 q16 k_f4 f4 k_f5 (bN 7 q_f5) k_f6 (bN 7 q_f6) k_f7 f7 k_f8 (bN 4 q_f8) k_f9 (bN 2 q_4) k_f10 (upd f10 ((nI (a0 * 4 + c0)) : Int32).toNatClampNeg p2) k_f11 f11 k_f12 f12 k_f13 f13 k_f14 f14 k_f15 f15 k_f16 f16) := hD
  refine lv_aload_n hx hb eX0_addCondition_28 rfl (lv_at hl 1 rfl) ?_
  refine va_get (D := (dC, dI)) (ci := 0) (v := .ref q11) (C := RX0) (T := TX0) (N := 17) hx hb hts hiX0 hown hK hP 0 rfl rfl 11 (by decide) v_8 (fun _ h9 => h9) rfl eX0_addCondition_29 ?_
  refine lv_iload hx hb eX0_addCondition_32 (lv_at hl 0 rfl) ?_
  refine lv_iload hx hb eX0_addCondition_34 (lv_at hl 5 rfl) ?_
  refine va_iast hx hb hK hP hD hS 8 7 rfl rfl (vp_in_nI (n := (a0 * 4 + c0)) (by omega) (Nat.le_of_ble_eq_true rfl)) eX0_addCondition_36 (fun H locs hP hD hS => ?_)
  have hP : va_P (dC, dI) vwCl (au__w au (nI nc) (nI np) (nI ne) st0 q4 q5 q6 q7 q8 q9 q10 q11 q12 q13 q14 q15 q16 k_f4 f4 k_f5 (bN 7 q_f5) k_f6 (bN 7 q_f6) k_f7 f7 k_f8 (bN 4 q_f8) k_f9 (bN 2 q_4) k_f10 (upd f10 ((nI (a0 * 4 + c0)) : Int32).toNatClampNeg p2) k_f11 (upd f11 ((nI (a0 * 4 + c0)) : Int32).toNatClampNeg p3) k_f12 f12 k_f13 f13 k_f14 f14 k_f15 f15 k_f16 f16) H := hP
  have hD : va_D A (au__w au (nI nc) (nI np) (nI ne) st0 q4 q5 q6 q7 q8 q9 q10 q11 q12 q13 q14 q15 q16 k_f4 f4 k_f5 (bN 7 q_f5) k_f6 (bN 7 q_f6) k_f7 f7 k_f8 (bN 4 q_f8) k_f9 (bN 2 q_4) k_f10 (upd f10 ((nI (a0 * 4 + c0)) : Int32).toNatClampNeg p2) k_f11 (upd f11 ((nI (a0 * 4 + c0)) : Int32).toNatClampNeg p3) k_f12 f12 k_f13 f13 k_f14 f14 k_f15 f15 k_f16 f16) := hD
  refine lv_aload_n hx hb eX0_addCondition_37 rfl (lv_at hl 1 rfl) ?_
  refine lv_iload hx hb eX0_addCondition_38 (lv_at hl 0 rfl) ?_
  have hFc := pu_free hD hS hA
  refine va_callv (va_runV (As := [.int (nI (a0 * 4 + c0))]) (rest := []) ⟨hx, hb, hml, hown, hts⟩ (c_C_0_setBounds l dC dI _ au nc np ne st0 q4 q5 q6 q7 q8 q9 q10 q11 q12 q13 q14 q15 q16 k_f4 f4 k_f5 q_f5 k_f6 q_f6 k_f7 f7 k_f8 q_f8 k_f9 q_4 k_f10 (upd f10 ((nI (a0 * 4 + c0)) : Int32).toNatClampNeg p2) k_f11 (upd f11 ((nI (a0 * 4 + c0)) : Int32).toNatClampNeg p3) k_f12 f12 k_f13 f13 k_f14 f14 k_f15 f15 k_f16 f16 (a0 * 4 + c0) hnc hnp hne (hst0) (by omega)) (cwV 1 hts g_C_0_addCondition_C_0_setBounds rfl rfl rfl (by decide +kernel) ⟨Nat.le_of_ble_eq_true rfl, Nat.le_of_ble_eq_true rfl⟩) ⟨pu_bl, va_recv hK hP (ci := 0) (q0 := 0) rfl rfl, pu_in hP hK hD⟩ rfl rfl hl.1 rfl (lv_room (Nat.le_of_ble_eq_true rfl)) eX0_addCondition_40 ⟨Nat.le_of_ble_eq_true rfl, Nat.le_of_ble_eq_true rfl⟩) hS (fun q _ h => hFc q h) hFc (fun u t H1 locs ht hvm hw hB hz1 hk1 hS => ?_)
  obtain ⟨z_f13_6, z_f12_7, ⟨hP1, -, hD1⟩⟩ := hB
  rw [ht] at hP1
  have hP := hP1
  have hD := pu_all hFc hD1
  clear hP1 hD1 hFc
  clear hk1 hz1 ht hvm
  generalize H1 = H at hP hS ⊢
  refine lv_aload_n hx hb eX0_addCondition_43 rfl (lv_at hl 1 rfl) ?_
  refine va_get (D := (dC, dI)) (ci := 0) (v := .ref q8) (C := RX0) (T := TX0) (N := 17) hx hb hts hiX0 hown hK hP 0 rfl rfl 8 (by decide) v_1 (fun _ h9 => h9) rfl eX0_addCondition_44 ?_
  refine lv_iload_n hx hb eX0_addCondition_47 rfl (lv_at hl 2 rfl) ?_
  refine lv_dup2_11 hx hb eX0_addCondition_48 rfl rfl ?_
  refine va_iald hx hb hK hP 5 4 rfl rfl (vp_in_nI (n := a0) (Nat.lt_of_le_of_lt ha0 (Nat.le_of_ble_eq_true rfl)) (Nat.le_of_ble_eq_true rfl)) eX0_addCondition_49 ?_
  refine lv_topi (fun y_8 ey_8 => ?_)
  obtain rfl : y_8 = nI c0 := ey_8.trans hq0
  refine lv_iconst (v := 1) hx hb eX0_addCondition_50 (by decide) ?_
  refine lv_iadd hx hb eX0_addCondition_51 ?_
  refine lv_topi (fun y_10 ey_10 => ?_)
  obtain rfl : y_10 = (nI (c0 + 1)) := ey_10.trans (nI_add c0 1)
  refine va_iast hx hb hK hP hD hS 5 4 rfl rfl (vp_in_nI (n := a0) (Nat.lt_of_le_of_lt ha0 (Nat.le_of_ble_eq_true rfl)) (Nat.le_of_ble_eq_true rfl)) eX0_addCondition_52 (fun H locs hP hD hS => ?_)
  obtain ⟨q_11, eq_11, kq_11, oq_11⟩ := bN_up2 4 q_f8 (((nI a0) : Int32).toNatClampNeg) (v := (c0 + 1)) (by omega)
  have hP : va_P (dC, dI) vwCl (au__w au (nI nc) (nI np) (nI ne) st0 q4 q5 q6 q7 q8 q9 q10 q11 q12 q13 q14 q15 q16 k_f4 f4 k_f5 (bN 7 q_f5) k_f6 (bN 7 q_f6) k_f7 f7 k_f8 (bN 4 q_11) k_f9 (bN 2 q_4) k_f10 (upd f10 ((nI (a0 * 4 + c0)) : Int32).toNatClampNeg p2) k_f11 (upd f11 ((nI (a0 * 4 + c0)) : Int32).toNatClampNeg p3) k_f12 z_f12_7 k_f13 z_f13_6 k_f14 f14 k_f15 f15 k_f16 f16) H := by rw [← eq_11]; exact hP
  have hD : va_D A (au__w au (nI nc) (nI np) (nI ne) st0 q4 q5 q6 q7 q8 q9 q10 q11 q12 q13 q14 q15 q16 k_f4 f4 k_f5 (bN 7 q_f5) k_f6 (bN 7 q_f6) k_f7 f7 k_f8 (bN 4 q_11) k_f9 (bN 2 q_4) k_f10 (upd f10 ((nI (a0 * 4 + c0)) : Int32).toNatClampNeg p2) k_f11 (upd f11 ((nI (a0 * 4 + c0)) : Int32).toNatClampNeg p3) k_f12 z_f12_7 k_f13 z_f13_6 k_f14 f14 k_f15 f15 k_f16 f16) := by rw [← eq_11]; exact hD
  exact W.vret hx hb hr (fun t ht hW => ⟨⟨(), rfl, trivial, ⟨z_f13_6, q_11, q_4, (upd f10 ((nI (a0 * 4 + c0)) : Int32).toNatClampNeg p2), (upd f11 ((nI (a0 * 4 + c0)) : Int32).toNatClampNeg p3), z_f12_7, ⟨by rw [ht]; exact hP, va_K.moved hW.alike hK, hD⟩, kq_11, co_step co_refl rfl (by omega) oq_11⟩⟩, hS.F ht⟩) hS.2.2 eX0_addCondition_53
theorem eX0_clear_0 : decode cX0_clear 0 = .ok (.aload_n 0, 1) := by decide +kernel
theorem eX0_clear_1 : decode cX0_clear 1 = .ok (.iconst 0, 1) := by decide +kernel
theorem eX0_clear_2 : decode cX0_clear 2 = .ok (.putfield 56, 3) := by decide +kernel
theorem eX0_clear_5 : decode cX0_clear 5 = .ok (.aload_n 0, 1) := by decide +kernel
theorem eX0_clear_6 : decode cX0_clear 6 = .ok (.iconst 0, 1) := by decide +kernel
theorem eX0_clear_7 : decode cX0_clear 7 = .ok (.putfield 59, 3) := by decide +kernel
theorem eX0_clear_10 : decode cX0_clear 10 = .ok (.aload_n 0, 1) := by decide +kernel
theorem eX0_clear_11 : decode cX0_clear 11 = .ok (.iconst 0, 1) := by decide +kernel
theorem eX0_clear_12 : decode cX0_clear 12 = .ok (.putfield 62, 3) := by decide +kernel
theorem eX0_clear_15 : decode cX0_clear 15 = .ok (.aload_n 0, 1) := by decide +kernel
theorem eX0_clear_16 : decode cX0_clear 16 = .ok (.iconst (-1), 1) := by decide +kernel
theorem eX0_clear_17 : decode cX0_clear 17 = .ok (.putfield 9, 3) := by decide +kernel
theorem eX0_clear_20 : decode cX0_clear 20 = .ok (.iconst 0, 1) := by decide +kernel
theorem eX0_clear_21 : decode cX0_clear 21 = .ok (.istore_n 1, 1) := by decide +kernel
theorem eX0_clear_22 : decode cX0_clear 22 = .ok (.iload_n 1, 1) := by decide +kernel
theorem eX0_clear_23 : decode cX0_clear 23 = .ok (.bipush 8, 2) := by decide +kernel
theorem eX0_clear_25 : decode cX0_clear 25 = .ok (.if_icmp .ge 16, 3) := by decide +kernel
theorem eX0_clear_28 : decode cX0_clear 28 = .ok (.aload_n 0, 1) := by decide +kernel
theorem eX0_clear_29 : decode cX0_clear 29 = .ok (.getfield 15, 3) := by decide +kernel
theorem eX0_clear_32 : decode cX0_clear 32 = .ok (.iload_n 1, 1) := by decide +kernel
theorem eX0_clear_33 : decode cX0_clear 33 = .ok (.iconst 0, 1) := by decide +kernel
theorem eX0_clear_34 : decode cX0_clear 34 = .ok (.bastore, 1) := by decide +kernel
theorem eX0_clear_35 : decode cX0_clear 35 = .ok (.iinc 1 1, 3) := by decide +kernel
theorem eX0_clear_38 : decode cX0_clear 38 = .ok (.goto (-16), 3) := by decide +kernel
theorem eX0_clear_41 : decode cX0_clear 41 = .ok (.iconst 0, 1) := by decide +kernel
theorem eX0_clear_42 : decode cX0_clear 42 = .ok (.istore_n 1, 1) := by decide +kernel
theorem eX0_clear_43 : decode cX0_clear 43 = .ok (.iload_n 1, 1) := by decide +kernel
theorem eX0_clear_44 : decode cX0_clear 44 = .ok (.bipush 22, 2) := by decide +kernel
theorem eX0_clear_46 : decode cX0_clear 46 = .ok (.if_icmp .ge 16, 3) := by decide +kernel
theorem eX0_clear_49 : decode cX0_clear 49 = .ok (.aload_n 0, 1) := by decide +kernel
theorem eX0_clear_50 : decode cX0_clear 50 = .ok (.getfield 29, 3) := by decide +kernel
theorem eX0_clear_53 : decode cX0_clear 53 = .ok (.iload_n 1, 1) := by decide +kernel
theorem eX0_clear_54 : decode cX0_clear 54 = .ok (.iconst 0, 1) := by decide +kernel
theorem eX0_clear_55 : decode cX0_clear 55 = .ok (.iastore, 1) := by decide +kernel
theorem eX0_clear_56 : decode cX0_clear 56 = .ok (.iinc 1 1, 3) := by decide +kernel
theorem eX0_clear_59 : decode cX0_clear 59 = .ok (.goto (-16), 3) := by decide +kernel
theorem eX0_clear_62 : decode cX0_clear 62 = .ok (.return_, 1) := by decide +kernel
abbrev vs_C_0_clear : List Cond := .code yX0_clear cX0_clear 2 none :: CM
set_option maxHeartbeats 4000000 in
set_option maxRecDepth 100000 in
theorem c_C_0_clear (l : Launch) (dC : Nat → ClassId) (dI : Nat → Nat → Nat) (sz : Nat) (au : Nat) (nc : Nat) (np : Nat) (ne : Nat) (st0 : Int32) (q4 : Nat) (q5 : Nat) (q6 : Nat) (q7 : Nat) (q8 : Nat) (q9 : Nat) (q10 : Nat) (q11 : Nat) (q12 : Nat) (q13 : Nat) (q14 : Nat) (q15 : Nat) (q16 : Nat) (k_f4 : ClassId) (f4 : Nat → Int32) (k_f5 : ClassId) (q_f5 : Nat → Nat) (k_f6 : ClassId) (q_f6 : Nat → Nat) (k_f7 : ClassId) (f7 : Nat → Int32) (k_f8 : ClassId) (q_f8 : Nat → Nat) (k_f9 : ClassId) (q_f9 : Nat → Nat) (k_f10 : ClassId) (f10 : Nat → Int32) (k_f11 : ClassId) (f11 : Nat → Int32) (k_f12 : ClassId) (f12 : Nat → Int32) (k_f13 : ClassId) (f13 : Nat → Int32) (k_f14 : ClassId) (f14 : Nat → Int32) (k_f15 : ClassId) (f15 : Nat → Int32) (k_f16 : ClassId) (f16 : Nat → Int32) (hnc : nc ≤ 3) (hnp : np ≤ 8) (hne : ne ≤ 14) (hst0 : pm1 7 st0) : Met l yX0_clear vs_C_0_clear ({ frames := 0, cells := 0, slots := 0, locals := 0 }) (va_Pc [.ref au] (pu_B (dC, dI) (au__w au (nI nc) (nI np) (nI ne) st0 q4 q5 q6 q7 q8 q9 q10 q11 q12 q13 q14 q15 q16 k_f4 f4 k_f5 (bN 7 q_f5) k_f6 (bN 7 q_f6) k_f7 f7 k_f8 (bN 4 q_f8) k_f9 (bN 2 q_f9) k_f10 f10 k_f11 f11 k_f12 f12 k_f13 f13 k_f14 f14 k_f15 f15 k_f16 f16) (au__t k_f4 k_f5 k_f6 k_f7 k_f8 k_f9 k_f10 k_f11 k_f12 k_f13 k_f14 k_f15 k_f16) sz)) (va_Qv (fun (_ : Unit) => True) (fun _ t => ∃ (z_f4 : Nat → Int32) (z_f8 : Nat → Nat), pu_E (dC, dI) (au__w au 0 0 0 (-1) q4 q5 q6 q7 q8 q9 q10 q11 q12 q13 q14 q15 q16 k_f4 z_f4 k_f5 (bN 7 q_f5) k_f6 (bN 7 q_f6) k_f7 f7 k_f8 (bN 4 z_f8) k_f9 (bN 2 q_f9) k_f10 f10 k_f11 f11 k_f12 f12 k_f13 f13 k_f14 f14 k_f15 f15 k_f16 f16) (au__t k_f4 k_f5 k_f6 k_f7 k_f8 k_f9 k_f10 k_f11 k_f12 k_f13 k_f14 k_f15 k_f16) (va_A ((au__w au (nI nc) (nI np) (nI ne) st0 q4 q5 q6 q7 q8 q9 q10 q11 q12 q13 q14 q15 q16 k_f4 f4 k_f5 (bN 7 q_f5) k_f6 (bN 7 q_f6) k_f7 f7 k_f8 (bN 4 q_f8) k_f9 (bN 2 q_f9) k_f10 f10 k_f11 f11 k_f12 f12 k_f13 f13 k_f14 f14 k_f15 f15 k_f16 f16)) sz) t ∧ (cz 0 0 z_f8)) (va_A ((au__w au (nI nc) (nI np) (nI ne) st0 q4 q5 q6 q7 q8 q9 q10 q11 q12 q13 q14 q15 q16 k_f4 f4 k_f5 (bN 7 q_f5) k_f6 (bN 7 q_f6) k_f7 f7 k_f8 (bN 4 q_f8) k_f9 (bN 2 q_f9) k_f10 f10 k_f11 f11 k_f12 f12 k_f13 f13 k_f14 f14 k_f15 f15 k_f16 f16)) sz)) 0 0 (va_A ((au__w au (nI nc) (nI np) (nI ne) st0 q4 q5 q6 q7 q8 q9 q10 q11 q12 q13 q14 q15 q16 k_f4 f4 k_f5 (bN 7 q_f5) k_f6 (bN 7 q_f6) k_f7 f7 k_f8 (bN 4 q_f8) k_f9 (bN 2 q_f9) k_f10 f10 k_f11 f11 k_f12 f12 k_f13 f13 k_f14 f14 k_f15 f15 k_f16 f16)) sz) := by
  refine Met.ofW (cc := cX0_clear) (maxL := 2) (ret := none) (by decide) rfl ?_
  intro p e s m args below meth c s₁ B hml hv
  obtain ⟨rfl, rfl, hP, hK, hD0⟩ := hv
  have hx := B.exec
  have hb := B.bytes
  have hr := B.returns
  have hts := atoms_spec (ws := vs_C_0_clear) B.pre
  have v_1 := hts (.fieldLink RX0 56 "ClockReach$Automaton" "clocks" "I") (List.mem_cons_of_mem _ cm_3)
  have v_2 := hts (.fieldLink RX0 59 "ClockReach$Automaton" "places" "I") (List.mem_cons_of_mem _ cm_4)
  have v_3 := hts (.fieldLink RX0 62 "ClockReach$Automaton" "edges" "I") (List.mem_cons_of_mem _ cm_5)
  have v_4 := hts (.fieldLink RX0 9 "ClockReach$Automaton" "start" "I") (List.mem_cons_of_mem _ cm_6)
  have v_5 := hts (.fieldLink RX0 15 "ClockReach$Automaton" "hurried" "[Z") (List.mem_cons_of_mem _ cm_7)
  have v_6 := hts (.fieldLink RX0 29 "ClockReach$Automaton" "counts" "[I") (List.mem_cons_of_mem _ cm_8)
  have hown : s.vm.findClass RX0 = some m.cls := findClass_of_methodNamed B.named
  have hlocks := B.notSynchronized
  have hiX0 : ∀ w ∈ wsX00, w ∈ vs_C_0_clear := fun _ h => List.mem_cons_of_mem _ (cm_X0 h)
  have hD := hD0.self (sz := s.heap.size)
  generalize hAe : va_A ((au__w au (nI nc) (nI np) (nI ne) st0 q4 q5 q6 q7 q8 q9 q10 q11 q12 q13 q14 q15 q16 k_f4 f4 k_f5 (bN 7 q_f5) k_f6 (bN 7 q_f6) k_f7 f7 k_f8 (bN 4 q_f8) k_f9 (bN 2 q_f9) k_f10 f10 k_f11 f11 k_f12 f12 k_f13 f13 k_f14 f14 k_f15 f15 k_f16 f16)) s.heap.size = A at hD ⊢
  have hA : ∀ q : Nat, s.heap.size ≤ q → A q := fun q h => by rw [← hAe]; exact Or.inr h
  have hS : va_S A s.heap s.heap [] := va_S.rf
  have hl := lv_entry ([.ref au]) (n := 2) (Nat.le_of_ble_eq_true rfl)
  rw [lg_entry_eq]
  generalize (lg_sl ([.ref au]) ++ List.replicate (2 - (lg_sl ([.ref au])).length) Slot.unset).toArray = ls at hl ⊢
  have hl : lv_has ls 2 [(0, .ref au)] := hl
  refine lv_aload_n hx hb eX0_clear_0 rfl (lv_at hl 0 rfl) ?_
  refine lv_iconst (v := 0) hx hb eX0_clear_1 (by decide) ?_
  refine va_put (D := (dC, dI)) (ci := 0) (v := .int 0) (ty := .int) (C := RX0) (T := TX0) (N := 17) hx hb hts hiX0 tyX0 tyX0_ok nmX0 hown hK hP hD hS 0 rfl rfl 0 (by decide) v_1 (fun _ h9 => h9) rfl (by decide +kernel) rfl rfl (Nat.le_of_ble_eq_true rfl) eX0_clear_2 (fun H locs hP hD hS => ?_)
  have hP : va_P (dC, dI) vwCl (au__w au 0 (nI np) (nI ne) st0 q4 q5 q6 q7 q8 q9 q10 q11 q12 q13 q14 q15 q16 k_f4 f4 k_f5 (bN 7 q_f5) k_f6 (bN 7 q_f6) k_f7 f7 k_f8 (bN 4 q_f8) k_f9 (bN 2 q_f9) k_f10 f10 k_f11 f11 k_f12 f12 k_f13 f13 k_f14 f14 k_f15 f15 k_f16 f16) H := hP
  have hD : va_D A (au__w au 0 (nI np) (nI ne) st0 q4 q5 q6 q7 q8 q9 q10 q11 q12 q13 q14 q15 q16 k_f4 f4 k_f5 (bN 7 q_f5) k_f6 (bN 7 q_f6) k_f7 f7 k_f8 (bN 4 q_f8) k_f9 (bN 2 q_f9) k_f10 f10 k_f11 f11 k_f12 f12 k_f13 f13 k_f14 f14 k_f15 f15 k_f16 f16) := hD
  refine lv_aload_n hx hb eX0_clear_5 rfl (lv_at hl 0 rfl) ?_
  refine lv_iconst (v := 0) hx hb eX0_clear_6 (by decide) ?_
  refine va_put (D := (dC, dI)) (ci := 0) (v := .int 0) (ty := .int) (C := RX0) (T := TX0) (N := 17) hx hb hts hiX0 tyX0 tyX0_ok nmX0 hown hK hP hD hS 0 rfl rfl 1 (by decide) v_2 (fun _ h9 => h9) rfl (by decide +kernel) rfl rfl (Nat.le_of_ble_eq_true rfl) eX0_clear_7 (fun H locs hP hD hS => ?_)
  have hP : va_P (dC, dI) vwCl (au__w au 0 0 (nI ne) st0 q4 q5 q6 q7 q8 q9 q10 q11 q12 q13 q14 q15 q16 k_f4 f4 k_f5 (bN 7 q_f5) k_f6 (bN 7 q_f6) k_f7 f7 k_f8 (bN 4 q_f8) k_f9 (bN 2 q_f9) k_f10 f10 k_f11 f11 k_f12 f12 k_f13 f13 k_f14 f14 k_f15 f15 k_f16 f16) H := hP
  have hD : va_D A (au__w au 0 0 (nI ne) st0 q4 q5 q6 q7 q8 q9 q10 q11 q12 q13 q14 q15 q16 k_f4 f4 k_f5 (bN 7 q_f5) k_f6 (bN 7 q_f6) k_f7 f7 k_f8 (bN 4 q_f8) k_f9 (bN 2 q_f9) k_f10 f10 k_f11 f11 k_f12 f12 k_f13 f13 k_f14 f14 k_f15 f15 k_f16 f16) := hD
  refine lv_aload_n hx hb eX0_clear_10 rfl (lv_at hl 0 rfl) ?_
  refine lv_iconst (v := 0) hx hb eX0_clear_11 (by decide) ?_
  refine va_put (D := (dC, dI)) (ci := 0) (v := .int 0) (ty := .int) (C := RX0) (T := TX0) (N := 17) hx hb hts hiX0 tyX0 tyX0_ok nmX0 hown hK hP hD hS 0 rfl rfl 2 (by decide) v_3 (fun _ h9 => h9) rfl (by decide +kernel) rfl rfl (Nat.le_of_ble_eq_true rfl) eX0_clear_12 (fun H locs hP hD hS => ?_)
  have hP : va_P (dC, dI) vwCl (au__w au 0 0 0 st0 q4 q5 q6 q7 q8 q9 q10 q11 q12 q13 q14 q15 q16 k_f4 f4 k_f5 (bN 7 q_f5) k_f6 (bN 7 q_f6) k_f7 f7 k_f8 (bN 4 q_f8) k_f9 (bN 2 q_f9) k_f10 f10 k_f11 f11 k_f12 f12 k_f13 f13 k_f14 f14 k_f15 f15 k_f16 f16) H := hP
  have hD : va_D A (au__w au 0 0 0 st0 q4 q5 q6 q7 q8 q9 q10 q11 q12 q13 q14 q15 q16 k_f4 f4 k_f5 (bN 7 q_f5) k_f6 (bN 7 q_f6) k_f7 f7 k_f8 (bN 4 q_f8) k_f9 (bN 2 q_f9) k_f10 f10 k_f11 f11 k_f12 f12 k_f13 f13 k_f14 f14 k_f15 f15 k_f16 f16) := hD
  refine lv_aload_n hx hb eX0_clear_15 rfl (lv_at hl 0 rfl) ?_
  refine lv_iconst (v := (-1)) hx hb eX0_clear_16 (by decide) ?_
  refine va_put (D := (dC, dI)) (ci := 0) (v := .int (-1)) (ty := .int) (C := RX0) (T := TX0) (N := 17) hx hb hts hiX0 tyX0 tyX0_ok nmX0 hown hK hP hD hS 0 rfl rfl 3 (by decide) v_4 (fun _ h9 => h9) rfl (by decide +kernel) rfl rfl (Nat.le_of_ble_eq_true rfl) eX0_clear_17 (fun H locs hP hD hS => ?_)
  have hP : va_P (dC, dI) vwCl (au__w au 0 0 0 (-1) q4 q5 q6 q7 q8 q9 q10 q11 q12 q13 q14 q15 q16 k_f4 f4 k_f5 (bN 7 q_f5) k_f6 (bN 7 q_f6) k_f7 f7 k_f8 (bN 4 q_f8) k_f9 (bN 2 q_f9) k_f10 f10 k_f11 f11 k_f12 f12 k_f13 f13 k_f14 f14 k_f15 f15 k_f16 f16) H := hP
  have hD : va_D A (au__w au 0 0 0 (-1) q4 q5 q6 q7 q8 q9 q10 q11 q12 q13 q14 q15 q16 k_f4 f4 k_f5 (bN 7 q_f5) k_f6 (bN 7 q_f6) k_f7 f7 k_f8 (bN 4 q_f8) k_f9 (bN 2 q_f9) k_f10 f10 k_f11 f11 k_f12 f12 k_f13 f13 k_f14 f14 k_f15 f15 k_f16 f16) := hD
  refine lv_iconst (v := 0) hx hb eX0_clear_20 (by decide) ?_
  refine lv_istore_n (lv' := [(1, .int 0), (0, .ref au)]) hx hb eX0_clear_21 rfl hl (by decide) rfl (fun ls hl => ?_)
  refine pu_while (fun nn H locs ls => ∃ (g_3 : Nat → Int32) (g_4 : Nat), nn = 8 - g_4 ∧ g_4 ≤ 8 ∧ va_P (dC, dI) vwCl (au__w au 0 0 0 (-1) q4 q5 q6 q7 q8 q9 q10 q11 q12 q13 q14 q15 q16 k_f4 g_3 k_f5 (bN 7 q_f5) k_f6 (bN 7 q_f6) k_f7 f7 k_f8 (bN 4 q_f8) k_f9 (bN 2 q_f9) k_f10 f10 k_f11 f11 k_f12 f12 k_f13 f13 k_f14 f14 k_f15 f15 k_f16 f16) H ∧ va_D A (au__w au 0 0 0 (-1) q4 q5 q6 q7 q8 q9 q10 q11 q12 q13 q14 q15 q16 k_f4 g_3 k_f5 (bN 7 q_f5) k_f6 (bN 7 q_f6) k_f7 f7 k_f8 (bN 4 q_f8) k_f9 (bN 2 q_f9) k_f10 f10 k_f11 f11 k_f12 f12 k_f13 f13 k_f14 f14 k_f15 f15 k_f16 f16) ∧ va_S A s.heap H locs ∧ lv_has ls 2 [(0, .ref au), (1, .int (nI g_4))]) 22 ?_ _ _ _ _ ⟨f4, 0, rfl, (Nat.le_of_ble_eq_true rfl), hP, hD, hS, lv_sub hl [1, 0] rfl⟩
  rintro nn ih_5 H locs ls ⟨g_3, g_4, rfl, hg_4, hP, hD, hS, hl⟩
  refine lv_iload_n hx hb eX0_clear_22 rfl (lv_at hl 1 rfl) ?_
  refine lv_bipush (v := 8) hx hb eX0_clear_23 (by decide) ?_
  refine lv_icmp_ge (tgt := 41) hx hb eX0_clear_25 (by decide) (fun c_6 => ?_) (fun c_6 => ?_)
  · have c_6 : 8 ≤ g_4 := (nI_leI (a := 8) (b := g_4) (Nat.le_of_ble_eq_true rfl) (Nat.lt_of_le_of_lt hg_4 (Nat.le_of_ble_eq_true rfl))).mp c_6
    refine lv_iconst (v := 0) hx hb eX0_clear_41 (by decide) ?_
    refine lv_istore_n (lv' := [(1, .int 0), (0, .ref au)]) hx hb eX0_clear_42 rfl hl (by decide) rfl (fun ls hl => ?_)
    refine pu_while (fun nn H locs ls => ∃ (g_10 : Nat → Nat) (g_11 : Nat), nn = 22 - g_11 ∧ g_11 ≤ 22 ∧ zc g_11 g_10 ∧ va_P (dC, dI) vwCl (au__w au 0 0 0 (-1) q4 q5 q6 q7 q8 q9 q10 q11 q12 q13 q14 q15 q16 k_f4 g_3 k_f5 (bN 7 q_f5) k_f6 (bN 7 q_f6) k_f7 f7 k_f8 (bN 4 g_10) k_f9 (bN 2 q_f9) k_f10 f10 k_f11 f11 k_f12 f12 k_f13 f13 k_f14 f14 k_f15 f15 k_f16 f16) H ∧ va_D A (au__w au 0 0 0 (-1) q4 q5 q6 q7 q8 q9 q10 q11 q12 q13 q14 q15 q16 k_f4 g_3 k_f5 (bN 7 q_f5) k_f6 (bN 7 q_f6) k_f7 f7 k_f8 (bN 4 g_10) k_f9 (bN 2 q_f9) k_f10 f10 k_f11 f11 k_f12 f12 k_f13 f13 k_f14 f14 k_f15 f15 k_f16 f16) ∧ va_S A s.heap H locs ∧ lv_has ls 2 [(0, .ref au), (1, .int (nI g_11))]) 43 ?_ _ _ _ _ ⟨q_f8, 0, rfl, (Nat.le_of_ble_eq_true rfl), zc_0, hP, hD, hS, lv_sub hl [1, 0] rfl⟩
    rintro nn ih_13 H locs ls ⟨g_10, g_11, rfl, hg_11, he_12, hP, hD, hS, hl⟩
    refine lv_iload_n hx hb eX0_clear_43 rfl (lv_at hl 1 rfl) ?_
    refine lv_bipush (v := 22) hx hb eX0_clear_44 (by decide) ?_
    refine lv_icmp_ge (tgt := 62) hx hb eX0_clear_46 (by decide) (fun c_14 => ?_) (fun c_14 => ?_)
    · have c_14 : 22 ≤ g_11 := (nI_leI (a := 22) (b := g_11) (Nat.le_of_ble_eq_true rfl) (Nat.lt_of_le_of_lt hg_11 (Nat.le_of_ble_eq_true rfl))).mp c_14
      exact W.vret hx hb hr (fun t ht hW => ⟨⟨(), rfl, trivial, ⟨g_3, g_10, ⟨by rw [ht]; exact hP, va_K.moved hW.alike hK, hD⟩, zc_cz (by assumption) (by omega)⟩⟩, hS.F ht⟩) hS.2.2 eX0_clear_62
    · have c_14 : ¬ 22 ≤ g_11 := fun z => c_14 ((nI_leI (a := 22) (b := g_11) (Nat.le_of_ble_eq_true rfl) (Nat.lt_of_le_of_lt hg_11 (Nat.le_of_ble_eq_true rfl))).mpr z)
      refine lv_aload_n hx hb eX0_clear_49 rfl (lv_at hl 0 rfl) ?_
      refine va_get (D := (dC, dI)) (ci := 0) (v := .ref q8) (C := RX0) (T := TX0) (N := 17) hx hb hts hiX0 hown hK hP 0 rfl rfl 8 (by decide) v_6 (fun _ h9 => h9) rfl eX0_clear_50 ?_
      refine lv_iload_n hx hb eX0_clear_53 rfl (lv_at hl 1 rfl) ?_
      refine lv_iconst (v := 0) hx hb eX0_clear_54 (by decide) ?_
      refine va_iast hx hb hK hP hD hS 5 4 rfl rfl (vp_in_nI (n := g_11) (by omega) (Nat.le_of_ble_eq_true rfl)) eX0_clear_55 (fun H locs hP hD hS => ?_)
      obtain ⟨q_15, eq_15, kq_15, oq_15⟩ := bN_up2 4 g_10 (((nI g_11) : Int32).toNatClampNeg) (v := 0) (Nat.le_of_ble_eq_true rfl)
      have hP : va_P (dC, dI) vwCl (au__w au 0 0 0 (-1) q4 q5 q6 q7 q8 q9 q10 q11 q12 q13 q14 q15 q16 k_f4 g_3 k_f5 (bN 7 q_f5) k_f6 (bN 7 q_f6) k_f7 f7 k_f8 (bN 4 q_15) k_f9 (bN 2 q_f9) k_f10 f10 k_f11 f11 k_f12 f12 k_f13 f13 k_f14 f14 k_f15 f15 k_f16 f16) H := by rw [← eq_15]; exact hP
      have hD : va_D A (au__w au 0 0 0 (-1) q4 q5 q6 q7 q8 q9 q10 q11 q12 q13 q14 q15 q16 k_f4 g_3 k_f5 (bN 7 q_f5) k_f6 (bN 7 q_f6) k_f7 f7 k_f8 (bN 4 q_15) k_f9 (bN 2 q_f9) k_f10 f10 k_f11 f11 k_f12 f12 k_f13 f13 k_f14 f14 k_f15 f15 k_f16 f16) := by rw [← eq_15]; exact hD
      refine lv_iinc (v := (nI (g_11 + 1))) (lv' := [(1, .int (nI (g_11 + 1))), (0, .ref au)]) hx hb eX0_clear_56 hl (k := 1) rfl (nI_1 _) (by decide) rfl (fun ls hl => ?_)
      refine lv_goto (tgt := 43) hx hb eX0_clear_59 (by decide) ?_
      exact ih_13 (22 - (g_11 + 1)) (by omega) _ _ _ ⟨q_15, (g_11 + 1), rfl, (by omega), zc_step (by assumption) (by omega) kq_15 oq_15, hP, hD, hS, lv_sub hl [1, 0] rfl⟩
  · have c_6 : ¬ 8 ≤ g_4 := fun z => c_6 ((nI_leI (a := 8) (b := g_4) (Nat.le_of_ble_eq_true rfl) (Nat.lt_of_le_of_lt hg_4 (Nat.le_of_ble_eq_true rfl))).mpr z)
    refine lv_aload_n hx hb eX0_clear_28 rfl (lv_at hl 0 rfl) ?_
    refine va_get (D := (dC, dI)) (ci := 0) (v := .ref q4) (C := RX0) (T := TX0) (N := 17) hx hb hts hiX0 hown hK hP 0 rfl rfl 4 (by decide) v_5 (fun _ h9 => h9) rfl eX0_clear_29 ?_
    refine lv_iload_n hx hb eX0_clear_32 rfl (lv_at hl 1 rfl) ?_
    refine lv_iconst (v := 0) hx hb eX0_clear_33 (by decide) ?_
    refine va_zast hx hb hK hP hD hS 1 0 rfl rfl (vp_in_nI (n := g_4) (by omega) (Nat.le_of_ble_eq_true rfl)) eX0_clear_34 (fun H locs hP hD hS => ?_)
    have hP : va_P (dC, dI) vwCl (au__w au 0 0 0 (-1) q4 q5 q6 q7 q8 q9 q10 q11 q12 q13 q14 q15 q16 k_f4 (upd g_3 ((nI g_4) : Int32).toNatClampNeg (vp_nar .boolean 0)) k_f5 (bN 7 q_f5) k_f6 (bN 7 q_f6) k_f7 f7 k_f8 (bN 4 q_f8) k_f9 (bN 2 q_f9) k_f10 f10 k_f11 f11 k_f12 f12 k_f13 f13 k_f14 f14 k_f15 f15 k_f16 f16) H := hP
    have hD : va_D A (au__w au 0 0 0 (-1) q4 q5 q6 q7 q8 q9 q10 q11 q12 q13 q14 q15 q16 k_f4 (upd g_3 ((nI g_4) : Int32).toNatClampNeg (vp_nar .boolean 0)) k_f5 (bN 7 q_f5) k_f6 (bN 7 q_f6) k_f7 f7 k_f8 (bN 4 q_f8) k_f9 (bN 2 q_f9) k_f10 f10 k_f11 f11 k_f12 f12 k_f13 f13 k_f14 f14 k_f15 f15 k_f16 f16) := hD
    refine lv_iinc (v := (nI (g_4 + 1))) (lv' := [(1, .int (nI (g_4 + 1))), (0, .ref au)]) hx hb eX0_clear_35 hl (k := 1) rfl (nI_1 _) (by decide) rfl (fun ls hl => ?_)
    refine lv_goto (tgt := 22) hx hb eX0_clear_38 (by decide) ?_
    exact ih_5 (8 - (g_4 + 1)) (by omega) _ _ _ ⟨(upd g_3 ((nI g_4) : Int32).toNatClampNeg (vp_nar .boolean 0)), (g_4 + 1), rfl, (by omega), hP, hD, hS, lv_sub hl [1, 0] rfl⟩
theorem eX4_refuse_0 : decode cX4_refuse 0 = .ok (.aload_n 0, 1) := by decide +kernel
theorem eX4_refuse_1 : decode cX4_refuse 1 = .ok (.iload_n 1, 1) := by decide +kernel
theorem eX4_refuse_2 : decode cX4_refuse 2 = .ok (.putfield 63, 3) := by decide +kernel
theorem eX4_refuse_5 : decode cX4_refuse 5 = .ok (.aload_n 0, 1) := by decide +kernel
theorem eX4_refuse_6 : decode cX4_refuse 6 = .ok (.aload_n 0, 1) := by decide +kernel
theorem eX4_refuse_7 : decode cX4_refuse 7 = .ok (.getfield 118, 3) := by decide +kernel
theorem eX4_refuse_10 : decode cX4_refuse 10 = .ok (.putfield 9, 3) := by decide +kernel
theorem eX4_refuse_13 : decode cX4_refuse 13 = .ok (.iconst 0, 1) := by decide +kernel
theorem eX4_refuse_14 : decode cX4_refuse 14 = .ok (.ireturn, 1) := by decide +kernel
abbrev vs_C_4_refuse : List Cond := .code yX4_refuse cX4_refuse 2 (some .boolean) :: CM
set_option maxHeartbeats 4000000 in
set_option maxRecDepth 100000 in
theorem c_C_4_refuse (l : Launch) (dC : Nat → ClassId) (dI : Nat → Nat → Nat) (sz : Nat) (rd : Nat) (fa : Int32) (fat : Int32) (tp : Nat) (len : Nat) (pos : Nat) (kd : Nat) (vl : Int32) (tka : Int32) (au : Nat) (rw : Nat) (rc : Nat) (rp : Nat) (k_ft : ClassId) (ft : Nat → Int32) (k_fw : ClassId) (fw : Nat → Int32) (k_fcn : ClassId) (fcn : Nat → Int32) (k_fpn : ClassId) (fpn : Nat → Int32) (p0 : Int32) (hlen : len ≤ 900) (hpos : pos ≤ 900) (hkd : kd ≤ 15) : Met l yX4_refuse vs_C_4_refuse ({ frames := 0, cells := 0, slots := 0, locals := 0 }) (va_Pc [.ref rd, .int p0] (pu_B (dC, dI) (rd__w rd fa fat tp (nI len) (nI pos) (nI kd) vl tka au rw rc rp k_ft ft k_fw fw k_fcn fcn k_fpn fpn) (rd__t k_ft k_fw k_fcn k_fpn) sz)) (va_Qi (fun (r : Int32) (_ : Unit) => r = 0) (fun _ t => ∃ (z_fa : Int32) (z_fat : Int32), pu_E (dC, dI) (rd__w rd z_fa z_fat tp (nI len) (nI pos) (nI kd) vl tka au rw rc rp k_ft ft k_fw fw k_fcn fcn k_fpn fpn) (rd__t k_ft k_fw k_fcn k_fpn) (va_A ((rd__w rd fa fat tp (nI len) (nI pos) (nI kd) vl tka au rw rc rp k_ft ft k_fw fw k_fcn fcn k_fpn fpn)) sz) t) (va_A ((rd__w rd fa fat tp (nI len) (nI pos) (nI kd) vl tka au rw rc rp k_ft ft k_fw fw k_fcn fcn k_fpn fpn)) sz)) 0 0 (va_A ((rd__w rd fa fat tp (nI len) (nI pos) (nI kd) vl tka au rw rc rp k_ft ft k_fw fw k_fcn fcn k_fpn fpn)) sz) := by
  refine Met.ofW (cc := cX4_refuse) (maxL := 2) (ret := (some .boolean)) (by decide) rfl ?_
  intro p e s m args below meth c s₁ B hml hv
  obtain ⟨rfl, rfl, hP, hK, hD0⟩ := hv
  have hx := B.exec
  have hb := B.bytes
  have hr := B.returns
  have hts := atoms_spec (ws := vs_C_4_refuse) B.pre
  have v_1 := hts (.fieldLink RX4 63 "ClockReach$Reader" "fault" "I") (List.mem_cons_of_mem _ cm_219)
  have v_2 := hts (.fieldLink RX4 118 "ClockReach$Reader" "tokenAt" "I") (List.mem_cons_of_mem _ cm_234)
  have v_3 := hts (.fieldLink RX4 9 "ClockReach$Reader" "faultAt" "I") (List.mem_cons_of_mem _ cm_220)
  have hown : s.vm.findClass RX4 = some m.cls := findClass_of_methodNamed B.named
  have hlocks := B.notSynchronized
  have hiX4 : ∀ w ∈ wsX40, w ∈ vs_C_4_refuse := fun _ h => List.mem_cons_of_mem _ (cm_X4 h)
  have hD := hD0.self (sz := s.heap.size)
  generalize hAe : va_A ((rd__w rd fa fat tp (nI len) (nI pos) (nI kd) vl tka au rw rc rp k_ft ft k_fw fw k_fcn fcn k_fpn fpn)) s.heap.size = A at hD ⊢
  have hA : ∀ q : Nat, s.heap.size ≤ q → A q := fun q h => by rw [← hAe]; exact Or.inr h
  have hS : va_S A s.heap s.heap [] := va_S.rf
  have hl := lv_entry ([.ref rd, .int p0]) (n := 2) (Nat.le_of_ble_eq_true rfl)
  rw [lg_entry_eq]
  generalize (lg_sl ([.ref rd, .int p0]) ++ List.replicate (2 - (lg_sl ([.ref rd, .int p0])).length) Slot.unset).toArray = ls at hl ⊢
  have hl : lv_has ls 2 [(0, .ref rd), (1, .int p0)] := hl
  refine lv_aload_n hx hb eX4_refuse_0 rfl (lv_at hl 0 rfl) ?_
  refine lv_iload_n hx hb eX4_refuse_1 rfl (lv_at hl 1 rfl) ?_
  refine va_put (D := (dC, dI)) (ci := 4) (v := .int p0) (ty := .int) (C := RX4) (T := TX4) (N := 12) hx hb hts hiX4 tyX4 tyX4_ok nmX4 hown hK hP hD hS 0 rfl rfl 0 (by decide) v_1 (fun _ h9 => h9) rfl (by decide +kernel) rfl rfl (Nat.le_of_ble_eq_true rfl) eX4_refuse_2 (fun H locs hP hD hS => ?_)
  have hP : va_P (dC, dI) vwCl (rd__w rd p0 fat tp (nI len) (nI pos) (nI kd) vl tka au rw rc rp k_ft ft k_fw fw k_fcn fcn k_fpn fpn) H := hP
  have hD : va_D A (rd__w rd p0 fat tp (nI len) (nI pos) (nI kd) vl tka au rw rc rp k_ft ft k_fw fw k_fcn fcn k_fpn fpn) := hD
  refine lv_aload_n hx hb eX4_refuse_5 rfl (lv_at hl 0 rfl) ?_
  refine lv_aload_n hx hb eX4_refuse_6 rfl (lv_at hl 0 rfl) ?_
  refine va_get (D := (dC, dI)) (ci := 4) (v := .int tka) (C := RX4) (T := TX4) (N := 12) hx hb hts hiX4 hown hK hP 0 rfl rfl 7 (by decide) v_2 (fun _ h9 => h9) rfl eX4_refuse_7 ?_
  refine va_put (D := (dC, dI)) (ci := 4) (v := .int tka) (ty := .int) (C := RX4) (T := TX4) (N := 12) hx hb hts hiX4 tyX4 tyX4_ok nmX4 hown hK hP hD hS 0 rfl rfl 1 (by decide) v_3 (fun _ h9 => h9) rfl (by decide +kernel) rfl rfl (Nat.le_of_ble_eq_true rfl) eX4_refuse_10 (fun H locs hP hD hS => ?_)
  have hP : va_P (dC, dI) vwCl (rd__w rd p0 tka tp (nI len) (nI pos) (nI kd) vl tka au rw rc rp k_ft ft k_fw fw k_fcn fcn k_fpn fpn) H := hP
  have hD : va_D A (rd__w rd p0 tka tp (nI len) (nI pos) (nI kd) vl tka au rw rc rp k_ft ft k_fw fw k_fcn fcn k_fpn fpn) := hD
  refine lv_iconst (v := 0) hx hb eX4_refuse_13 (by decide) ?_
  exact W.zret (v := 0) (ty := .boolean) hx hb hr (rfl) (fun t ht hW => ⟨⟨0, (), rfl, rfl, ⟨p0, tka, ⟨by rw [ht]; exact hP, va_K.moved hW.alike hK, hD⟩⟩⟩, hS.F ht⟩) hS.2.2 eX4_refuse_14
theorem eX4_refuseToken_0 : decode cX4_refuseToken 0 = .ok (.aload_n 0, 1) := by decide +kernel
theorem eX4_refuseToken_1 : decode cX4_refuseToken 1 = .ok (.aload_n 0, 1) := by decide +kernel
theorem eX4_refuseToken_2 : decode cX4_refuseToken 2 = .ok (.getfield 78, 3) := by decide +kernel
theorem eX4_refuseToken_5 : decode cX4_refuseToken 5 = .ok (.ifCond .ne 7, 3) := by decide +kernel
theorem eX4_refuseToken_8 : decode cX4_refuseToken 8 = .ok (.iconst 1, 1) := by decide +kernel
theorem eX4_refuseToken_9 : decode cX4_refuseToken 9 = .ok (.goto 4, 3) := by decide +kernel
theorem eX4_refuseToken_12 : decode cX4_refuseToken 12 = .ok (.iconst 2, 1) := by decide +kernel
theorem eX4_refuseToken_13 : decode cX4_refuseToken 13 = .ok (.invokevirtual 103, 3) := by decide +kernel
theorem eX4_refuseToken_16 : decode cX4_refuseToken 16 = .ok (.ireturn, 1) := by decide +kernel
abbrev vs_C_4_refuseToken : List Cond := .code yX4_refuseToken cX4_refuseToken 1 (some .boolean) :: CM
theorem g_C_4_refuseToken_C_4_refuse : GoodIn vs_C_4_refuseToken (wsV RX4 103 RX4 yX4_refuse vs_C_4_refuse) := cm_gV cm_255 cm_256 cm_257 cm_232 cm_258
set_option maxHeartbeats 4000000 in
set_option maxRecDepth 100000 in
theorem c_C_4_refuseToken (l : Launch) (dC : Nat → ClassId) (dI : Nat → Nat → Nat) (sz : Nat) (rd : Nat) (fa : Int32) (fat : Int32) (tp : Nat) (len : Nat) (pos : Nat) (kd : Nat) (vl : Int32) (tka : Int32) (au : Nat) (rw : Nat) (rc : Nat) (rp : Nat) (k_ft : ClassId) (ft : Nat → Int32) (k_fw : ClassId) (fw : Nat → Int32) (k_fcn : ClassId) (fcn : Nat → Int32) (k_fpn : ClassId) (fpn : Nat → Int32) (hlen : len ≤ 900) (hpos : pos ≤ 900) (hkd : kd ≤ 15) : Met l yX4_refuseToken vs_C_4_refuseToken ({ frames := 1, cells := 0, slots := 0, locals := 21 }) (va_Pc [.ref rd] (pu_B (dC, dI) (rd__w rd fa fat tp (nI len) (nI pos) (nI kd) vl tka au rw rc rp k_ft ft k_fw fw k_fcn fcn k_fpn fpn) (rd__t k_ft k_fw k_fcn k_fpn) sz)) (va_Qi (fun (r : Int32) (_ : Unit) => r = 0) (fun _ t => ∃ (z_fa : Int32) (z_fat : Int32), pu_E (dC, dI) (rd__w rd z_fa z_fat tp (nI len) (nI pos) (nI kd) vl tka au rw rc rp k_ft ft k_fw fw k_fcn fcn k_fpn fpn) (rd__t k_ft k_fw k_fcn k_fpn) (va_A ((rd__w rd fa fat tp (nI len) (nI pos) (nI kd) vl tka au rw rc rp k_ft ft k_fw fw k_fcn fcn k_fpn fpn)) sz) t) (va_A ((rd__w rd fa fat tp (nI len) (nI pos) (nI kd) vl tka au rw rc rp k_ft ft k_fw fw k_fcn fcn k_fpn fpn)) sz)) 0 0 (va_A ((rd__w rd fa fat tp (nI len) (nI pos) (nI kd) vl tka au rw rc rp k_ft ft k_fw fw k_fcn fcn k_fpn fpn)) sz) := by
  refine Met.ofW (cc := cX4_refuseToken) (maxL := 1) (ret := (some .boolean)) (by decide) rfl ?_
  intro p e s m args below meth c s₁ B hml hv
  obtain ⟨rfl, rfl, hP, hK, hD0⟩ := hv
  have hx := B.exec
  have hb := B.bytes
  have hr := B.returns
  have hts := atoms_spec (ws := vs_C_4_refuseToken) B.pre
  have v_1 := hts (.fieldLink RX4 78 "ClockReach$Reader" "kind" "I") (List.mem_cons_of_mem _ cm_222)
  have hown : s.vm.findClass RX4 = some m.cls := findClass_of_methodNamed B.named
  have hlocks := B.notSynchronized
  have hiX4 : ∀ w ∈ wsX40, w ∈ vs_C_4_refuseToken := fun _ h => List.mem_cons_of_mem _ (cm_X4 h)
  have hD := hD0.self (sz := s.heap.size)
  generalize hAe : va_A ((rd__w rd fa fat tp (nI len) (nI pos) (nI kd) vl tka au rw rc rp k_ft ft k_fw fw k_fcn fcn k_fpn fpn)) s.heap.size = A at hD ⊢
  have hA : ∀ q : Nat, s.heap.size ≤ q → A q := fun q h => by rw [← hAe]; exact Or.inr h
  have hS : va_S A s.heap s.heap [] := va_S.rf
  have hl := lv_entry ([.ref rd]) (n := 1) (Nat.le_of_ble_eq_true rfl)
  rw [lg_entry_eq]
  generalize (lg_sl ([.ref rd]) ++ List.replicate (1 - (lg_sl ([.ref rd])).length) Slot.unset).toArray = ls at hl ⊢
  have hl : lv_has ls 1 [(0, .ref rd)] := hl
  refine lv_aload_n hx hb eX4_refuseToken_0 rfl (lv_at hl 0 rfl) ?_
  refine lv_aload_n hx hb eX4_refuseToken_1 rfl (lv_at hl 0 rfl) ?_
  refine va_get (D := (dC, dI)) (ci := 4) (v := .int (nI kd)) (C := RX4) (T := TX4) (N := 12) hx hb hts hiX4 hown hK hP 0 rfl rfl 5 (by decide) v_1 (fun _ h9 => h9) rfl eX4_refuseToken_2 ?_
  refine pu_join (fun H locs ls st => ∃ (g_1 : Nat), st = [.int (nI g_1), .ref rd] ∧ (1 ≤ g_1 ∧ g_1 ≤ 2) ∧ va_P (dC, dI) vwCl (rd__w rd fa fat tp (nI len) (nI pos) (nI kd) vl tka au rw rc rp k_ft ft k_fw fw k_fcn fcn k_fpn fpn) H ∧ va_D A (rd__w rd fa fat tp (nI len) (nI pos) (nI kd) vl tka au rw rc rp k_ft ft k_fw fw k_fcn fcn k_fpn fpn) ∧ va_S A s.heap H locs ∧ lv_has ls 1 [(0, .ref rd)]) 13 ?_ (fun j_2 => ?_)
  · rintro H locs ls st ⟨g_1, rfl, hg_1, hP, hD, hS, hl⟩
    have hFc := pu_free hD hS hA
    refine va_calli (va_runV (As := [.int (nI g_1)]) (rest := []) ⟨hx, hb, hml, hown, hts⟩ (c_C_4_refuse l dC dI _ rd fa fat tp len pos kd vl tka au rw rc rp k_ft ft k_fw fw k_fcn fcn k_fpn fpn (nI g_1) hlen hpos hkd) (cwV 1 hts g_C_4_refuseToken_C_4_refuse rfl rfl rfl (by decide +kernel) ⟨Nat.le_of_ble_eq_true rfl, Nat.le_of_ble_eq_true rfl⟩) ⟨pu_bl, va_recv hK hP (ci := 4) (q0 := 0) rfl rfl, pu_in hP hK hD⟩ rfl rfl hl.1 rfl (lv_room (Nat.le_of_ble_eq_true rfl)) eX4_refuseToken_13 ⟨Nat.le_of_ble_eq_true rfl, Nat.le_of_ble_eq_true rfl⟩) hS (fun q _ h => hFc q h) hFc (fun r_3 u t H1 locs ht hvm hw hB hz1 hk1 hS => ?_)
    obtain ⟨z_fa_4, z_fat_5, ⟨hP1, -, hD1⟩⟩ := hB
    rw [ht] at hP1
    have hP := hP1
    have hD := pu_all hFc hD1
    clear hP1 hD1 hFc
    clear hk1 hz1 ht hvm
    generalize H1 = H at hP hS ⊢
    obtain rfl : r_3 = 0 := hw
    exact W.zret (v := 0) (ty := .boolean) hx hb hr (rfl) (fun t ht hW => ⟨⟨0, (), rfl, rfl, ⟨z_fa_4, z_fat_5, ⟨by rw [ht]; exact hP, va_K.moved hW.alike hK, hD⟩⟩⟩, hS.F ht⟩) hS.2.2 eX4_refuseToken_16
  refine lv_if_ne (tgt := 12) hx hb eX4_refuseToken_5 (by decide) (fun c_6 => ?_) (fun c_6 => ?_)
  · have c_6 : ¬ kd = 0 := fun z => c_6 ((nI_eq (a := kd) (b := 0) (Nat.lt_of_le_of_lt hkd (Nat.le_of_ble_eq_true rfl)) (Nat.le_of_ble_eq_true rfl)).mpr z)
    refine lv_iconst (v := 2) hx hb eX4_refuseToken_12 (by decide) ?_
    exact j_2 _ _ _ _ ⟨2, rfl, ⟨by omega, by omega⟩, hP, hD, hS, lv_sub hl [0] rfl⟩
  · have c_6 : kd = 0 := (nI_eq (a := kd) (b := 0) (Nat.lt_of_le_of_lt hkd (Nat.le_of_ble_eq_true rfl)) (Nat.le_of_ble_eq_true rfl)).mp c_6
    refine lv_iconst (v := 1) hx hb eX4_refuseToken_8 (by decide) ?_
    refine lv_goto (tgt := 13) hx hb eX4_refuseToken_9 (by decide) ?_
    exact j_2 _ _ _ _ ⟨1, rfl, ⟨by omega, by omega⟩, hP, hD, hS, lv_sub hl [0] rfl⟩
theorem eX4_scanSign_0 : decode cX4_scanSign 0 = .ok (.aload_n 0, 1) := by decide +kernel
theorem eX4_scanSign_1 : decode cX4_scanSign 1 = .ok (.getfield 55, 3) := by decide +kernel
theorem eX4_scanSign_4 : decode cX4_scanSign 4 = .ok (.aload_n 0, 1) := by decide +kernel
theorem eX4_scanSign_5 : decode cX4_scanSign 5 = .ok (.getfield 60, 3) := by decide +kernel
theorem eX4_scanSign_8 : decode cX4_scanSign 8 = .ok (.iaload, 1) := by decide +kernel
theorem eX4_scanSign_9 : decode cX4_scanSign 9 = .ok (.tableswitch 65 59 62 #[56, 31, 39, 47], 31) := by decide +kernel
theorem eX4_scanSign_40 : decode cX4_scanSign 40 = .ok (.aload_n 0, 1) := by decide +kernel
theorem eX4_scanSign_41 : decode cX4_scanSign 41 = .ok (.iconst 4, 1) := by decide +kernel
theorem eX4_scanSign_42 : decode cX4_scanSign 42 = .ok (.putfield 78, 3) := by decide +kernel
theorem eX4_scanSign_45 : decode cX4_scanSign 45 = .ok (.goto 34, 3) := by decide +kernel
theorem eX4_scanSign_48 : decode cX4_scanSign 48 = .ok (.aload_n 0, 1) := by decide +kernel
theorem eX4_scanSign_49 : decode cX4_scanSign 49 = .ok (.iconst 5, 1) := by decide +kernel
theorem eX4_scanSign_50 : decode cX4_scanSign 50 = .ok (.putfield 78, 3) := by decide +kernel
theorem eX4_scanSign_53 : decode cX4_scanSign 53 = .ok (.goto 26, 3) := by decide +kernel
theorem eX4_scanSign_56 : decode cX4_scanSign 56 = .ok (.aload_n 0, 1) := by decide +kernel
theorem eX4_scanSign_57 : decode cX4_scanSign 57 = .ok (.bipush 6, 2) := by decide +kernel
theorem eX4_scanSign_59 : decode cX4_scanSign 59 = .ok (.putfield 78, 3) := by decide +kernel
theorem eX4_scanSign_62 : decode cX4_scanSign 62 = .ok (.goto 17, 3) := by decide +kernel
theorem eX4_scanSign_65 : decode cX4_scanSign 65 = .ok (.aload_n 0, 1) := by decide +kernel
theorem eX4_scanSign_66 : decode cX4_scanSign 66 = .ok (.bipush 7, 2) := by decide +kernel
theorem eX4_scanSign_68 : decode cX4_scanSign 68 = .ok (.putfield 78, 3) := by decide +kernel
theorem eX4_scanSign_71 : decode cX4_scanSign 71 = .ok (.goto 8, 3) := by decide +kernel
theorem eX4_scanSign_74 : decode cX4_scanSign 74 = .ok (.aload_n 0, 1) := by decide +kernel
theorem eX4_scanSign_75 : decode cX4_scanSign 75 = .ok (.iconst 0, 1) := by decide +kernel
theorem eX4_scanSign_76 : decode cX4_scanSign 76 = .ok (.putfield 78, 3) := by decide +kernel
theorem eX4_scanSign_79 : decode cX4_scanSign 79 = .ok (.aload_n 0, 1) := by decide +kernel
theorem eX4_scanSign_80 : decode cX4_scanSign 80 = .ok (.dup, 1) := by decide +kernel
theorem eX4_scanSign_81 : decode cX4_scanSign 81 = .ok (.getfield 60, 3) := by decide +kernel
theorem eX4_scanSign_84 : decode cX4_scanSign 84 = .ok (.iconst 1, 1) := by decide +kernel
theorem eX4_scanSign_85 : decode cX4_scanSign 85 = .ok (.iadd, 1) := by decide +kernel
theorem eX4_scanSign_86 : decode cX4_scanSign 86 = .ok (.putfield 60, 3) := by decide +kernel
theorem eX4_scanSign_89 : decode cX4_scanSign 89 = .ok (.return_, 1) := by decide +kernel
abbrev vs_C_4_scanSign : List Cond := .code yX4_scanSign cX4_scanSign 1 none :: CM
set_option maxHeartbeats 4000000 in
set_option maxRecDepth 100000 in
theorem c_C_4_scanSign (l : Launch) (dC : Nat → ClassId) (dI : Nat → Nat → Nat) (sz : Nat) (rd : Nat) (fa : Int32) (fat : Int32) (tp : Nat) (len : Nat) (pos : Nat) (kd : Nat) (vl : Int32) (tka : Int32) (au : Nat) (rw : Nat) (rc : Nat) (rp : Nat) (k_ft : ClassId) (ft : Nat → Int32) (k_fw : ClassId) (fw : Nat → Int32) (k_fcn : ClassId) (fcn : Nat → Int32) (k_fpn : ClassId) (fpn : Nat → Int32) (hlen : len ≤ 900) (hpos : pos ≤ 899) (hkd : kd ≤ 15) : Met l yX4_scanSign vs_C_4_scanSign ({ frames := 0, cells := 0, slots := 0, locals := 0 }) (va_Pc [.ref rd] (pu_B (dC, dI) (rd__w rd fa fat tp (nI len) (nI pos) (nI kd) vl tka au rw rc rp k_ft ft k_fw fw k_fcn fcn k_fpn fpn) (rd__t k_ft k_fw k_fcn k_fpn) sz)) (va_Qv (fun (_ : Unit) => True) (fun _ t => ∃ (z_pos : Nat) (z_kd : Nat), pu_E (dC, dI) (rd__w rd fa fat tp (nI len) (nI z_pos) (nI z_kd) vl tka au rw rc rp k_ft ft k_fw fw k_fcn fcn k_fpn fpn) (rd__t k_ft k_fw k_fcn k_fpn) (va_A ((rd__w rd fa fat tp (nI len) (nI pos) (nI kd) vl tka au rw rc rp k_ft ft k_fw fw k_fcn fcn k_fpn fpn)) sz) t ∧ (z_pos ≤ 900) ∧ (z_kd ≤ 15)) (va_A ((rd__w rd fa fat tp (nI len) (nI pos) (nI kd) vl tka au rw rc rp k_ft ft k_fw fw k_fcn fcn k_fpn fpn)) sz)) 0 0 (va_A ((rd__w rd fa fat tp (nI len) (nI pos) (nI kd) vl tka au rw rc rp k_ft ft k_fw fw k_fcn fcn k_fpn fpn)) sz) := by
  refine Met.ofW (cc := cX4_scanSign) (maxL := 1) (ret := none) (by decide) rfl ?_
  intro p e s m args below meth c s₁ B hml hv
  obtain ⟨rfl, rfl, hP, hK, hD0⟩ := hv
  have hx := B.exec
  have hb := B.bytes
  have hr := B.returns
  have hts := atoms_spec (ws := vs_C_4_scanSign) B.pre
  have v_1 := hts (.fieldLink RX4 55 "ClockReach$Reader" "text" "[I") (List.mem_cons_of_mem _ cm_216)
  have v_2 := hts (.fieldLink RX4 60 "ClockReach$Reader" "position" "I") (List.mem_cons_of_mem _ cm_218)
  have v_3 := hts (.fieldLink RX4 78 "ClockReach$Reader" "kind" "I") (List.mem_cons_of_mem _ cm_222)
  have hown : s.vm.findClass RX4 = some m.cls := findClass_of_methodNamed B.named
  have hlocks := B.notSynchronized
  have hiX4 : ∀ w ∈ wsX40, w ∈ vs_C_4_scanSign := fun _ h => List.mem_cons_of_mem _ (cm_X4 h)
  have hD := hD0.self (sz := s.heap.size)
  generalize hAe : va_A ((rd__w rd fa fat tp (nI len) (nI pos) (nI kd) vl tka au rw rc rp k_ft ft k_fw fw k_fcn fcn k_fpn fpn)) s.heap.size = A at hD ⊢
  have hA : ∀ q : Nat, s.heap.size ≤ q → A q := fun q h => by rw [← hAe]; exact Or.inr h
  have hS : va_S A s.heap s.heap [] := va_S.rf
  have hl := lv_entry ([.ref rd]) (n := 1) (Nat.le_of_ble_eq_true rfl)
  rw [lg_entry_eq]
  generalize (lg_sl ([.ref rd]) ++ List.replicate (1 - (lg_sl ([.ref rd])).length) Slot.unset).toArray = ls at hl ⊢
  have hl : lv_has ls 1 [(0, .ref rd)] := hl
  refine lv_aload_n hx hb eX4_scanSign_0 rfl (lv_at hl 0 rfl) ?_
  refine va_get (D := (dC, dI)) (ci := 4) (v := .ref tp) (C := RX4) (T := TX4) (N := 12) hx hb hts hiX4 hown hK hP 0 rfl rfl 2 (by decide) v_1 (fun _ h9 => h9) rfl eX4_scanSign_1 ?_
  refine lv_aload_n hx hb eX4_scanSign_4 rfl (lv_at hl 0 rfl) ?_
  refine va_get (D := (dC, dI)) (ci := 4) (v := .int (nI pos)) (C := RX4) (T := TX4) (N := 12) hx hb hts hiX4 hown hK hP 0 rfl rfl 4 (by decide) v_2 (fun _ h9 => h9) rfl eX4_scanSign_5 ?_
  refine va_iald hx hb hK hP 1 0 rfl rfl (vp_in_nI (n := pos) (Nat.lt_of_le_of_lt hpos (Nat.le_of_ble_eq_true rfl)) (Nat.le_of_ble_eq_true rfl)) eX4_scanSign_8 ?_
  refine lv_topi (fun y_1 ey_1 => ?_)
  refine pu_join (fun H locs ls st => ∃ (g_2 : Nat), st = [] ∧ g_2 ≤ 7 ∧ va_P (dC, dI) vwCl (rd__w rd fa fat tp (nI len) (nI pos) (nI g_2) vl tka au rw rc rp k_ft ft k_fw fw k_fcn fcn k_fpn fpn) H ∧ va_D A (rd__w rd fa fat tp (nI len) (nI pos) (nI g_2) vl tka au rw rc rp k_ft ft k_fw fw k_fcn fcn k_fpn fpn) ∧ va_S A s.heap H locs ∧ lv_has ls 1 [(0, .ref rd)]) 79 ?_ (fun j_3 => ?_)
  · rintro H locs ls st ⟨g_2, rfl, hg_2, hP, hD, hS, hl⟩
    refine lv_aload_n hx hb eX4_scanSign_79 rfl (lv_at hl 0 rfl) ?_
    refine lv_dup hx hb eX4_scanSign_80 rfl ?_
    refine va_get (D := (dC, dI)) (ci := 4) (v := .int (nI pos)) (C := RX4) (T := TX4) (N := 12) hx hb hts hiX4 hown hK hP 0 rfl rfl 4 (by decide) v_2 (fun _ h9 => h9) rfl eX4_scanSign_81 ?_
    refine lv_iconst (v := 1) hx hb eX4_scanSign_84 (by decide) ?_
    refine lv_iadd hx hb eX4_scanSign_85 ?_
    refine lv_topi (fun y_4 ey_4 => ?_)
    obtain rfl : y_4 = (nI (pos + 1)) := ey_4.trans (nI_add pos 1)
    refine va_put (D := (dC, dI)) (ci := 4) (v := .int (nI (pos + 1))) (ty := .int) (C := RX4) (T := TX4) (N := 12) hx hb hts hiX4 tyX4 tyX4_ok nmX4 hown hK hP hD hS 0 rfl rfl 4 (by decide) v_2 (fun _ h9 => h9) rfl (by decide +kernel) rfl rfl (Nat.le_of_ble_eq_true rfl) eX4_scanSign_86 (fun H locs hP hD hS => ?_)
    have hP : va_P (dC, dI) vwCl (rd__w rd fa fat tp (nI len) (nI (pos + 1)) (nI g_2) vl tka au rw rc rp k_ft ft k_fw fw k_fcn fcn k_fpn fpn) H := hP
    have hD : va_D A (rd__w rd fa fat tp (nI len) (nI (pos + 1)) (nI g_2) vl tka au rw rc rp k_ft ft k_fw fw k_fcn fcn k_fpn fpn) := hD
    exact W.vret hx hb hr (fun t ht hW => ⟨⟨(), rfl, trivial, ⟨(pos + 1), g_2, ⟨by rw [ht]; exact hP, va_K.moved hW.alike hK, hD⟩, (by omega), (Nat.le_trans hg_2 (Nat.le_of_ble_eq_true rfl))⟩⟩, hS.F ht⟩) hS.2.2 eX4_scanSign_89
  by_cases w_5 : y_1 = 59
  · subst w_5
    refine lv_tableIn (tgt := 65) (off := 56) hx hb eX4_scanSign_9 (by decide) (by decide) rfl (by decide) ?_
    refine lv_aload_n hx hb eX4_scanSign_65 rfl (lv_at hl 0 rfl) ?_
    refine lv_bipush (v := 7) hx hb eX4_scanSign_66 (by decide) ?_
    refine va_put (D := (dC, dI)) (ci := 4) (v := .int 7) (ty := .int) (C := RX4) (T := TX4) (N := 12) hx hb hts hiX4 tyX4 tyX4_ok nmX4 hown hK hP hD hS 0 rfl rfl 5 (by decide) v_3 (fun _ h9 => h9) rfl (by decide +kernel) rfl rfl (Nat.le_of_ble_eq_true rfl) eX4_scanSign_68 (fun H locs hP hD hS => ?_)
    have hP : va_P (dC, dI) vwCl (rd__w rd fa fat tp (nI len) (nI pos) 7 vl tka au rw rc rp k_ft ft k_fw fw k_fcn fcn k_fpn fpn) H := hP
    have hD : va_D A (rd__w rd fa fat tp (nI len) (nI pos) 7 vl tka au rw rc rp k_ft ft k_fw fw k_fcn fcn k_fpn fpn) := hD
    refine lv_goto (tgt := 79) hx hb eX4_scanSign_71 (by decide) ?_
    exact j_3 _ _ _ _ ⟨7, rfl, (Nat.le_of_ble_eq_true rfl), hP, hD, hS, lv_sub hl [0] rfl⟩
  by_cases w_6 : y_1 = 60
  · subst w_6
    refine lv_tableIn (tgt := 40) (off := 31) hx hb eX4_scanSign_9 (by decide) (by decide) rfl (by decide) ?_
    refine lv_aload_n hx hb eX4_scanSign_40 rfl (lv_at hl 0 rfl) ?_
    refine lv_iconst (v := 4) hx hb eX4_scanSign_41 (by decide) ?_
    refine va_put (D := (dC, dI)) (ci := 4) (v := .int 4) (ty := .int) (C := RX4) (T := TX4) (N := 12) hx hb hts hiX4 tyX4 tyX4_ok nmX4 hown hK hP hD hS 0 rfl rfl 5 (by decide) v_3 (fun _ h9 => h9) rfl (by decide +kernel) rfl rfl (Nat.le_of_ble_eq_true rfl) eX4_scanSign_42 (fun H locs hP hD hS => ?_)
    have hP : va_P (dC, dI) vwCl (rd__w rd fa fat tp (nI len) (nI pos) 4 vl tka au rw rc rp k_ft ft k_fw fw k_fcn fcn k_fpn fpn) H := hP
    have hD : va_D A (rd__w rd fa fat tp (nI len) (nI pos) 4 vl tka au rw rc rp k_ft ft k_fw fw k_fcn fcn k_fpn fpn) := hD
    refine lv_goto (tgt := 79) hx hb eX4_scanSign_45 (by decide) ?_
    exact j_3 _ _ _ _ ⟨4, rfl, (Nat.le_of_ble_eq_true rfl), hP, hD, hS, lv_sub hl [0] rfl⟩
  by_cases w_7 : y_1 = 61
  · subst w_7
    refine lv_tableIn (tgt := 48) (off := 39) hx hb eX4_scanSign_9 (by decide) (by decide) rfl (by decide) ?_
    refine lv_aload_n hx hb eX4_scanSign_48 rfl (lv_at hl 0 rfl) ?_
    refine lv_iconst (v := 5) hx hb eX4_scanSign_49 (by decide) ?_
    refine va_put (D := (dC, dI)) (ci := 4) (v := .int 5) (ty := .int) (C := RX4) (T := TX4) (N := 12) hx hb hts hiX4 tyX4 tyX4_ok nmX4 hown hK hP hD hS 0 rfl rfl 5 (by decide) v_3 (fun _ h9 => h9) rfl (by decide +kernel) rfl rfl (Nat.le_of_ble_eq_true rfl) eX4_scanSign_50 (fun H locs hP hD hS => ?_)
    have hP : va_P (dC, dI) vwCl (rd__w rd fa fat tp (nI len) (nI pos) 5 vl tka au rw rc rp k_ft ft k_fw fw k_fcn fcn k_fpn fpn) H := hP
    have hD : va_D A (rd__w rd fa fat tp (nI len) (nI pos) 5 vl tka au rw rc rp k_ft ft k_fw fw k_fcn fcn k_fpn fpn) := hD
    refine lv_goto (tgt := 79) hx hb eX4_scanSign_53 (by decide) ?_
    exact j_3 _ _ _ _ ⟨5, rfl, (Nat.le_of_ble_eq_true rfl), hP, hD, hS, lv_sub hl [0] rfl⟩
  by_cases w_8 : y_1 = 62
  · subst w_8
    refine lv_tableIn (tgt := 56) (off := 47) hx hb eX4_scanSign_9 (by decide) (by decide) rfl (by decide) ?_
    refine lv_aload_n hx hb eX4_scanSign_56 rfl (lv_at hl 0 rfl) ?_
    refine lv_bipush (v := 6) hx hb eX4_scanSign_57 (by decide) ?_
    refine va_put (D := (dC, dI)) (ci := 4) (v := .int 6) (ty := .int) (C := RX4) (T := TX4) (N := 12) hx hb hts hiX4 tyX4 tyX4_ok nmX4 hown hK hP hD hS 0 rfl rfl 5 (by decide) v_3 (fun _ h9 => h9) rfl (by decide +kernel) rfl rfl (Nat.le_of_ble_eq_true rfl) eX4_scanSign_59 (fun H locs hP hD hS => ?_)
    have hP : va_P (dC, dI) vwCl (rd__w rd fa fat tp (nI len) (nI pos) 6 vl tka au rw rc rp k_ft ft k_fw fw k_fcn fcn k_fpn fpn) H := hP
    have hD : va_D A (rd__w rd fa fat tp (nI len) (nI pos) 6 vl tka au rw rc rp k_ft ft k_fw fw k_fcn fcn k_fpn fpn) := hD
    refine lv_goto (tgt := 79) hx hb eX4_scanSign_62 (by decide) ?_
    exact j_3 _ _ _ _ ⟨6, rfl, (Nat.le_of_ble_eq_true rfl), hP, hD, hS, lv_sub hl [0] rfl⟩
  refine lv_tableOut (tgt := 74) hx hb eX4_scanSign_9 (by
      have zw_5 : Int32.toInt y_1 ≠ 59 := fun g => w_5 ((fa_eq _ _).mpr g)
      have zw_6 : Int32.toInt y_1 ≠ 60 := fun g => w_6 ((fa_eq _ _).mpr g)
      have zw_7 : Int32.toInt y_1 ≠ 61 := fun g => w_7 ((fa_eq _ _).mpr g)
      have zw_8 : Int32.toInt y_1 ≠ 62 := fun g => w_8 ((fa_eq _ _).mpr g)
      omega) (by decide) ?_
  refine lv_aload_n hx hb eX4_scanSign_74 rfl (lv_at hl 0 rfl) ?_
  refine lv_iconst (v := 0) hx hb eX4_scanSign_75 (by decide) ?_
  refine va_put (D := (dC, dI)) (ci := 4) (v := .int 0) (ty := .int) (C := RX4) (T := TX4) (N := 12) hx hb hts hiX4 tyX4 tyX4_ok nmX4 hown hK hP hD hS 0 rfl rfl 5 (by decide) v_3 (fun _ h9 => h9) rfl (by decide +kernel) rfl rfl (Nat.le_of_ble_eq_true rfl) eX4_scanSign_76 (fun H locs hP hD hS => ?_)
  have hP : va_P (dC, dI) vwCl (rd__w rd fa fat tp (nI len) (nI pos) 0 vl tka au rw rc rp k_ft ft k_fw fw k_fcn fcn k_fpn fpn) H := hP
  have hD : va_D A (rd__w rd fa fat tp (nI len) (nI pos) 0 vl tka au rw rc rp k_ft ft k_fw fw k_fcn fcn k_fpn fpn) := hD
  exact j_3 _ _ _ _ ⟨0, rfl, (Nat.le_of_ble_eq_true rfl), hP, hD, hS, lv_sub hl [0] rfl⟩
theorem eX4_scanWord_0 : decode cX4_scanWord 0 = .ok (.aload_n 0, 1) := by decide +kernel
theorem eX4_scanWord_1 : decode cX4_scanWord 1 = .ok (.iconst 0, 1) := by decide +kernel
theorem eX4_scanWord_2 : decode cX4_scanWord 2 = .ok (.putfield 127, 3) := by decide +kernel
theorem eX4_scanWord_5 : decode cX4_scanWord 5 = .ok (.aload_n 0, 1) := by decide +kernel
theorem eX4_scanWord_6 : decode cX4_scanWord 6 = .ok (.getfield 60, 3) := by decide +kernel
theorem eX4_scanWord_9 : decode cX4_scanWord 9 = .ok (.aload_n 0, 1) := by decide +kernel
theorem eX4_scanWord_10 : decode cX4_scanWord 10 = .ok (.getfield 58, 3) := by decide +kernel
theorem eX4_scanWord_13 : decode cX4_scanWord 13 = .ok (.if_icmp .ge 70, 3) := by decide +kernel
theorem eX4_scanWord_16 : decode cX4_scanWord 16 = .ok (.aload_n 0, 1) := by decide +kernel
theorem eX4_scanWord_17 : decode cX4_scanWord 17 = .ok (.getfield 55, 3) := by decide +kernel
theorem eX4_scanWord_20 : decode cX4_scanWord 20 = .ok (.aload_n 0, 1) := by decide +kernel
theorem eX4_scanWord_21 : decode cX4_scanWord 21 = .ok (.getfield 60, 3) := by decide +kernel
theorem eX4_scanWord_24 : decode cX4_scanWord 24 = .ok (.iaload, 1) := by decide +kernel
theorem eX4_scanWord_25 : decode cX4_scanWord 25 = .ok (.bipush 97, 2) := by decide +kernel
theorem eX4_scanWord_27 : decode cX4_scanWord 27 = .ok (.if_icmp .lt 56, 3) := by decide +kernel
theorem eX4_scanWord_30 : decode cX4_scanWord 30 = .ok (.aload_n 0, 1) := by decide +kernel
theorem eX4_scanWord_31 : decode cX4_scanWord 31 = .ok (.getfield 55, 3) := by decide +kernel
theorem eX4_scanWord_34 : decode cX4_scanWord 34 = .ok (.aload_n 0, 1) := by decide +kernel
theorem eX4_scanWord_35 : decode cX4_scanWord 35 = .ok (.getfield 60, 3) := by decide +kernel
theorem eX4_scanWord_38 : decode cX4_scanWord 38 = .ok (.iaload, 1) := by decide +kernel
theorem eX4_scanWord_39 : decode cX4_scanWord 39 = .ok (.bipush 122, 2) := by decide +kernel
theorem eX4_scanWord_41 : decode cX4_scanWord 41 = .ok (.if_icmp .gt 42, 3) := by decide +kernel
theorem eX4_scanWord_44 : decode cX4_scanWord 44 = .ok (.aload_n 0, 1) := by decide +kernel
theorem eX4_scanWord_45 : decode cX4_scanWord 45 = .ok (.aload_n 0, 1) := by decide +kernel
theorem eX4_scanWord_46 : decode cX4_scanWord 46 = .ok (.getfield 127, 3) := by decide +kernel
theorem eX4_scanWord_49 : decode cX4_scanWord 49 = .ok (.bipush 32, 2) := by decide +kernel
theorem eX4_scanWord_51 : decode cX4_scanWord 51 = .ok (.imul, 1) := by decide +kernel
theorem eX4_scanWord_52 : decode cX4_scanWord 52 = .ok (.aload_n 0, 1) := by decide +kernel
theorem eX4_scanWord_53 : decode cX4_scanWord 53 = .ok (.getfield 55, 3) := by decide +kernel
theorem eX4_scanWord_56 : decode cX4_scanWord 56 = .ok (.aload_n 0, 1) := by decide +kernel
theorem eX4_scanWord_57 : decode cX4_scanWord 57 = .ok (.getfield 60, 3) := by decide +kernel
theorem eX4_scanWord_60 : decode cX4_scanWord 60 = .ok (.iaload, 1) := by decide +kernel
theorem eX4_scanWord_61 : decode cX4_scanWord 61 = .ok (.iadd, 1) := by decide +kernel
theorem eX4_scanWord_62 : decode cX4_scanWord 62 = .ok (.bipush 97, 2) := by decide +kernel
theorem eX4_scanWord_64 : decode cX4_scanWord 64 = .ok (.isub, 1) := by decide +kernel
theorem eX4_scanWord_65 : decode cX4_scanWord 65 = .ok (.iconst 1, 1) := by decide +kernel
theorem eX4_scanWord_66 : decode cX4_scanWord 66 = .ok (.iadd, 1) := by decide +kernel
theorem eX4_scanWord_67 : decode cX4_scanWord 67 = .ok (.putfield 127, 3) := by decide +kernel
theorem eX4_scanWord_70 : decode cX4_scanWord 70 = .ok (.aload_n 0, 1) := by decide +kernel
theorem eX4_scanWord_71 : decode cX4_scanWord 71 = .ok (.dup, 1) := by decide +kernel
theorem eX4_scanWord_72 : decode cX4_scanWord 72 = .ok (.getfield 60, 3) := by decide +kernel
theorem eX4_scanWord_75 : decode cX4_scanWord 75 = .ok (.iconst 1, 1) := by decide +kernel
theorem eX4_scanWord_76 : decode cX4_scanWord 76 = .ok (.iadd, 1) := by decide +kernel
theorem eX4_scanWord_77 : decode cX4_scanWord 77 = .ok (.putfield 60, 3) := by decide +kernel
theorem eX4_scanWord_80 : decode cX4_scanWord 80 = .ok (.goto (-75), 3) := by decide +kernel
theorem eX4_scanWord_83 : decode cX4_scanWord 83 = .ok (.aload_n 0, 1) := by decide +kernel
theorem eX4_scanWord_84 : decode cX4_scanWord 84 = .ok (.aload_n 0, 1) := by decide +kernel
theorem eX4_scanWord_85 : decode cX4_scanWord 85 = .ok (.getfield 60, 3) := by decide +kernel
theorem eX4_scanWord_88 : decode cX4_scanWord 88 = .ok (.aload_n 0, 1) := by decide +kernel
theorem eX4_scanWord_89 : decode cX4_scanWord 89 = .ok (.getfield 118, 3) := by decide +kernel
theorem eX4_scanWord_92 : decode cX4_scanWord 92 = .ok (.isub, 1) := by decide +kernel
theorem eX4_scanWord_93 : decode cX4_scanWord 93 = .ok (.bipush 6, 2) := by decide +kernel
theorem eX4_scanWord_95 : decode cX4_scanWord 95 = .ok (.if_icmp .le 7, 3) := by decide +kernel
theorem eX4_scanWord_98 : decode cX4_scanWord 98 = .ok (.iconst 0, 1) := by decide +kernel
theorem eX4_scanWord_99 : decode cX4_scanWord 99 = .ok (.goto 4, 3) := by decide +kernel
theorem eX4_scanWord_102 : decode cX4_scanWord 102 = .ok (.iconst 2, 1) := by decide +kernel
theorem eX4_scanWord_103 : decode cX4_scanWord 103 = .ok (.putfield 78, 3) := by decide +kernel
theorem eX4_scanWord_106 : decode cX4_scanWord 106 = .ok (.iconst 0, 1) := by decide +kernel
theorem eX4_scanWord_107 : decode cX4_scanWord 107 = .ok (.istore_n 1, 1) := by decide +kernel
theorem eX4_scanWord_108 : decode cX4_scanWord 108 = .ok (.iload_n 1, 1) := by decide +kernel
theorem eX4_scanWord_109 : decode cX4_scanWord 109 = .ok (.aload_n 0, 1) := by decide +kernel
theorem eX4_scanWord_110 : decode cX4_scanWord 110 = .ok (.getfield 35, 3) := by decide +kernel
theorem eX4_scanWord_113 : decode cX4_scanWord 113 = .ok (.arraylength, 1) := by decide +kernel
theorem eX4_scanWord_114 : decode cX4_scanWord 114 = .ok (.if_icmp .ge 38, 3) := by decide +kernel
theorem eX4_scanWord_117 : decode cX4_scanWord 117 = .ok (.aload_n 0, 1) := by decide +kernel
theorem eX4_scanWord_118 : decode cX4_scanWord 118 = .ok (.getfield 78, 3) := by decide +kernel
theorem eX4_scanWord_121 : decode cX4_scanWord 121 = .ok (.iconst 2, 1) := by decide +kernel
theorem eX4_scanWord_122 : decode cX4_scanWord 122 = .ok (.if_icmp .ne 30, 3) := by decide +kernel
theorem eX4_scanWord_125 : decode cX4_scanWord 125 = .ok (.aload_n 0, 1) := by decide +kernel
theorem eX4_scanWord_126 : decode cX4_scanWord 126 = .ok (.getfield 35, 3) := by decide +kernel
theorem eX4_scanWord_129 : decode cX4_scanWord 129 = .ok (.iload_n 1, 1) := by decide +kernel
theorem eX4_scanWord_130 : decode cX4_scanWord 130 = .ok (.iaload, 1) := by decide +kernel
theorem eX4_scanWord_131 : decode cX4_scanWord 131 = .ok (.aload_n 0, 1) := by decide +kernel
theorem eX4_scanWord_132 : decode cX4_scanWord 132 = .ok (.getfield 127, 3) := by decide +kernel
theorem eX4_scanWord_135 : decode cX4_scanWord 135 = .ok (.if_icmp .ne 11, 3) := by decide +kernel
theorem eX4_scanWord_138 : decode cX4_scanWord 138 = .ok (.aload_n 0, 1) := by decide +kernel
theorem eX4_scanWord_139 : decode cX4_scanWord 139 = .ok (.bipush 8, 2) := by decide +kernel
theorem eX4_scanWord_141 : decode cX4_scanWord 141 = .ok (.iload_n 1, 1) := by decide +kernel
theorem eX4_scanWord_142 : decode cX4_scanWord 142 = .ok (.iadd, 1) := by decide +kernel
theorem eX4_scanWord_143 : decode cX4_scanWord 143 = .ok (.putfield 78, 3) := by decide +kernel
theorem eX4_scanWord_146 : decode cX4_scanWord 146 = .ok (.iinc 1 1, 3) := by decide +kernel
theorem eX4_scanWord_149 : decode cX4_scanWord 149 = .ok (.goto (-41), 3) := by decide +kernel
theorem eX4_scanWord_152 : decode cX4_scanWord 152 = .ok (.return_, 1) := by decide +kernel
abbrev vs_C_4_scanWord : List Cond := .code yX4_scanWord cX4_scanWord 2 none :: CM
set_option maxHeartbeats 4000000 in
set_option maxRecDepth 100000 in
theorem c_C_4_scanWord (l : Launch) (dC : Nat → ClassId) (dI : Nat → Nat → Nat) (sz : Nat) (rd : Nat) (fa : Int32) (fat : Int32) (tp : Nat) (len : Nat) (pos : Nat) (kd : Nat) (vl : Int32) (tka : Int32) (au : Nat) (rw : Nat) (rc : Nat) (rp : Nat) (k_ft : ClassId) (ft : Nat → Int32) (k_fw : ClassId) (fw : Nat → Int32) (k_fcn : ClassId) (fcn : Nat → Int32) (k_fpn : ClassId) (fpn : Nat → Int32) (hlen : len ≤ 900) (hpos : pos ≤ 900) (hkd : kd ≤ 15) : Met l yX4_scanWord vs_C_4_scanWord ({ frames := 0, cells := 0, slots := 0, locals := 0 }) (va_Pc [.ref rd] (pu_B (dC, dI) (rd__w rd fa fat tp (nI len) (nI pos) (nI kd) vl tka au rw rc rp k_ft ft k_fw fw k_fcn fcn k_fpn fpn) (rd__t k_ft k_fw k_fcn k_fpn) sz)) (va_Qv (fun (_ : Unit) => True) (fun _ t => ∃ (z_pos : Nat) (z_kd : Nat) (z_vl : Int32), pu_E (dC, dI) (rd__w rd fa fat tp (nI len) (nI z_pos) (nI z_kd) z_vl tka au rw rc rp k_ft ft k_fw fw k_fcn fcn k_fpn fpn) (rd__t k_ft k_fw k_fcn k_fpn) (va_A ((rd__w rd fa fat tp (nI len) (nI pos) (nI kd) vl tka au rw rc rp k_ft ft k_fw fw k_fcn fcn k_fpn fpn)) sz) t ∧ (z_pos ≤ 900) ∧ (z_kd ≤ 15)) (va_A ((rd__w rd fa fat tp (nI len) (nI pos) (nI kd) vl tka au rw rc rp k_ft ft k_fw fw k_fcn fcn k_fpn fpn)) sz)) 0 0 (va_A ((rd__w rd fa fat tp (nI len) (nI pos) (nI kd) vl tka au rw rc rp k_ft ft k_fw fw k_fcn fcn k_fpn fpn)) sz) := by
  refine Met.ofW (cc := cX4_scanWord) (maxL := 2) (ret := none) (by decide) rfl ?_
  intro p e s m args below meth c s₁ B hml hv
  obtain ⟨rfl, rfl, hP, hK, hD0⟩ := hv
  have hx := B.exec
  have hb := B.bytes
  have hr := B.returns
  have hts := atoms_spec (ws := vs_C_4_scanWord) B.pre
  have v_1 := hts (.fieldLink RX4 127 "ClockReach$Reader" "value" "I") (List.mem_cons_of_mem _ cm_239)
  have v_2 := hts (.fieldLink RX4 60 "ClockReach$Reader" "position" "I") (List.mem_cons_of_mem _ cm_218)
  have v_3 := hts (.fieldLink RX4 58 "ClockReach$Reader" "length" "I") (List.mem_cons_of_mem _ cm_217)
  have v_4 := hts (.fieldLink RX4 55 "ClockReach$Reader" "text" "[I") (List.mem_cons_of_mem _ cm_216)
  have v_5 := hts (.fieldLink RX4 118 "ClockReach$Reader" "tokenAt" "I") (List.mem_cons_of_mem _ cm_234)
  have v_6 := hts (.fieldLink RX4 78 "ClockReach$Reader" "kind" "I") (List.mem_cons_of_mem _ cm_222)
  have v_7 := hts (.fieldLink RX4 35 "ClockReach$Reader" "words" "[I") (List.mem_cons_of_mem _ cm_240)
  have hown : s.vm.findClass RX4 = some m.cls := findClass_of_methodNamed B.named
  have hlocks := B.notSynchronized
  have hiX4 : ∀ w ∈ wsX40, w ∈ vs_C_4_scanWord := fun _ h => List.mem_cons_of_mem _ (cm_X4 h)
  have hD := hD0.self (sz := s.heap.size)
  generalize hAe : va_A ((rd__w rd fa fat tp (nI len) (nI pos) (nI kd) vl tka au rw rc rp k_ft ft k_fw fw k_fcn fcn k_fpn fpn)) s.heap.size = A at hD ⊢
  have hA : ∀ q : Nat, s.heap.size ≤ q → A q := fun q h => by rw [← hAe]; exact Or.inr h
  have hS : va_S A s.heap s.heap [] := va_S.rf
  have hl := lv_entry ([.ref rd]) (n := 2) (Nat.le_of_ble_eq_true rfl)
  rw [lg_entry_eq]
  generalize (lg_sl ([.ref rd]) ++ List.replicate (2 - (lg_sl ([.ref rd])).length) Slot.unset).toArray = ls at hl ⊢
  have hl : lv_has ls 2 [(0, .ref rd)] := hl
  refine lv_aload_n hx hb eX4_scanWord_0 rfl (lv_at hl 0 rfl) ?_
  refine lv_iconst (v := 0) hx hb eX4_scanWord_1 (by decide) ?_
  refine va_put (D := (dC, dI)) (ci := 4) (v := .int 0) (ty := .int) (C := RX4) (T := TX4) (N := 12) hx hb hts hiX4 tyX4 tyX4_ok nmX4 hown hK hP hD hS 0 rfl rfl 6 (by decide) v_1 (fun _ h9 => h9) rfl (by decide +kernel) rfl rfl (Nat.le_of_ble_eq_true rfl) eX4_scanWord_2 (fun H locs hP hD hS => ?_)
  have hP : va_P (dC, dI) vwCl (rd__w rd fa fat tp (nI len) (nI pos) (nI kd) 0 tka au rw rc rp k_ft ft k_fw fw k_fcn fcn k_fpn fpn) H := hP
  have hD : va_D A (rd__w rd fa fat tp (nI len) (nI pos) (nI kd) 0 tka au rw rc rp k_ft ft k_fw fw k_fcn fcn k_fpn fpn) := hD
  refine pu_while (fun nn H locs ls => ∃ (g_3 : Nat) (g_4 : Int32), nn = 900 - g_3 ∧ g_3 ≤ 900 ∧ va_P (dC, dI) vwCl (rd__w rd fa fat tp (nI len) (nI g_3) (nI kd) g_4 tka au rw rc rp k_ft ft k_fw fw k_fcn fcn k_fpn fpn) H ∧ va_D A (rd__w rd fa fat tp (nI len) (nI g_3) (nI kd) g_4 tka au rw rc rp k_ft ft k_fw fw k_fcn fcn k_fpn fpn) ∧ va_S A s.heap H locs ∧ lv_has ls 2 [(0, .ref rd)]) 5 ?_ _ _ _ _ ⟨pos, 0, rfl, hpos, hP, hD, hS, lv_sub hl [0] rfl⟩
  rintro nn ih_5 H locs ls ⟨g_3, g_4, rfl, hg_3, hP, hD, hS, hl⟩
  refine lv_aload_n hx hb eX4_scanWord_5 rfl (lv_at hl 0 rfl) ?_
  refine va_get (D := (dC, dI)) (ci := 4) (v := .int (nI g_3)) (C := RX4) (T := TX4) (N := 12) hx hb hts hiX4 hown hK hP 0 rfl rfl 4 (by decide) v_2 (fun _ h9 => h9) rfl eX4_scanWord_6 ?_
  refine lv_aload_n hx hb eX4_scanWord_9 rfl (lv_at hl 0 rfl) ?_
  refine va_get (D := (dC, dI)) (ci := 4) (v := .int (nI len)) (C := RX4) (T := TX4) (N := 12) hx hb hts hiX4 hown hK hP 0 rfl rfl 3 (by decide) v_3 (fun _ h9 => h9) rfl eX4_scanWord_10 ?_
  refine pu_join (fun H locs ls st => st = [] ∧ va_P (dC, dI) vwCl (rd__w rd fa fat tp (nI len) (nI g_3) (nI kd) g_4 tka au rw rc rp k_ft ft k_fw fw k_fcn fcn k_fpn fpn) H ∧ va_D A (rd__w rd fa fat tp (nI len) (nI g_3) (nI kd) g_4 tka au rw rc rp k_ft ft k_fw fw k_fcn fcn k_fpn fpn) ∧ va_S A s.heap H locs ∧ lv_has ls 2 [(0, .ref rd)]) 83 ?_ (fun j_6 => ?_)
  · rintro H locs ls st ⟨rfl, hP, hD, hS, hl⟩
    refine lv_aload_n hx hb eX4_scanWord_83 rfl (lv_at hl 0 rfl) ?_
    refine lv_aload_n hx hb eX4_scanWord_84 rfl (lv_at hl 0 rfl) ?_
    refine va_get (D := (dC, dI)) (ci := 4) (v := .int (nI g_3)) (C := RX4) (T := TX4) (N := 12) hx hb hts hiX4 hown hK hP 0 rfl rfl 4 (by decide) v_2 (fun _ h9 => h9) rfl eX4_scanWord_85 ?_
    refine lv_aload_n hx hb eX4_scanWord_88 rfl (lv_at hl 0 rfl) ?_
    refine va_get (D := (dC, dI)) (ci := 4) (v := .int tka) (C := RX4) (T := TX4) (N := 12) hx hb hts hiX4 hown hK hP 0 rfl rfl 7 (by decide) v_5 (fun _ h9 => h9) rfl eX4_scanWord_89 ?_
    refine lv_isub hx hb eX4_scanWord_92 ?_
    refine lv_topi (fun y_7 ey_7 => ?_)
    refine lv_bipush (v := 6) hx hb eX4_scanWord_93 (by decide) ?_
    refine pu_join (fun H locs ls st => ∃ (g_8 : Nat), st = [.int (nI g_8), .ref rd] ∧ g_8 ≤ 2 ∧ va_P (dC, dI) vwCl (rd__w rd fa fat tp (nI len) (nI g_3) (nI kd) g_4 tka au rw rc rp k_ft ft k_fw fw k_fcn fcn k_fpn fpn) H ∧ va_D A (rd__w rd fa fat tp (nI len) (nI g_3) (nI kd) g_4 tka au rw rc rp k_ft ft k_fw fw k_fcn fcn k_fpn fpn) ∧ va_S A s.heap H locs ∧ lv_has ls 2 [(0, .ref rd)]) 103 ?_ (fun j_9 => ?_)
    · rintro H locs ls st ⟨g_8, rfl, hg_8, hP, hD, hS, hl⟩
      refine va_put (D := (dC, dI)) (ci := 4) (v := .int (nI g_8)) (ty := .int) (C := RX4) (T := TX4) (N := 12) hx hb hts hiX4 tyX4 tyX4_ok nmX4 hown hK hP hD hS 0 rfl rfl 5 (by decide) v_6 (fun _ h9 => h9) rfl (by decide +kernel) rfl rfl (Nat.le_of_ble_eq_true rfl) eX4_scanWord_103 (fun H locs hP hD hS => ?_)
      have hP : va_P (dC, dI) vwCl (rd__w rd fa fat tp (nI len) (nI g_3) (nI g_8) g_4 tka au rw rc rp k_ft ft k_fw fw k_fcn fcn k_fpn fpn) H := hP
      have hD : va_D A (rd__w rd fa fat tp (nI len) (nI g_3) (nI g_8) g_4 tka au rw rc rp k_ft ft k_fw fw k_fcn fcn k_fpn fpn) := hD
      refine lv_iconst (v := 0) hx hb eX4_scanWord_106 (by decide) ?_
      refine lv_istore_n (lv' := [(1, .int 0), (0, .ref rd)]) hx hb eX4_scanWord_107 rfl hl (by decide) rfl (fun ls hl => ?_)
      refine pu_while (fun nn H locs ls => ∃ (g_12 : Nat) (g_13 : Nat), nn = 8 - g_13 ∧ g_12 ≤ 15 ∧ g_13 ≤ 8 ∧ va_P (dC, dI) vwCl (rd__w rd fa fat tp (nI len) (nI g_3) (nI g_12) g_4 tka au rw rc rp k_ft ft k_fw fw k_fcn fcn k_fpn fpn) H ∧ va_D A (rd__w rd fa fat tp (nI len) (nI g_3) (nI g_12) g_4 tka au rw rc rp k_ft ft k_fw fw k_fcn fcn k_fpn fpn) ∧ va_S A s.heap H locs ∧ lv_has ls 2 [(0, .ref rd), (1, .int (nI g_13))]) 108 ?_ _ _ _ _ ⟨g_8, 0, rfl, (Nat.le_trans hg_8 (Nat.le_of_ble_eq_true rfl)), (Nat.le_of_ble_eq_true rfl), hP, hD, hS, lv_sub hl [1, 0] rfl⟩
      rintro nn ih_14 H locs ls ⟨g_12, g_13, rfl, hg_12, hg_13, hP, hD, hS, hl⟩
      refine lv_iload_n hx hb eX4_scanWord_108 rfl (lv_at hl 1 rfl) ?_
      refine lv_aload_n hx hb eX4_scanWord_109 rfl (lv_at hl 0 rfl) ?_
      refine va_get (D := (dC, dI)) (ci := 4) (v := .ref rw) (C := RX4) (T := TX4) (N := 12) hx hb hts hiX4 hown hK hP 0 rfl rfl 9 (by decide) v_7 (fun _ h9 => h9) rfl eX4_scanWord_110 ?_
      refine va_alen (v := 8) hx hb hK hP 2 1 rfl rfl rfl eX4_scanWord_113 ?_
      refine lv_icmp_ge (tgt := 152) hx hb eX4_scanWord_114 (by decide) (fun c_15 => ?_) (fun c_15 => ?_)
      · have c_15 : 8 ≤ g_13 := (nI_leI (a := 8) (b := g_13) (Nat.le_of_ble_eq_true rfl) (Nat.lt_of_le_of_lt hg_13 (Nat.le_of_ble_eq_true rfl))).mp c_15
        exact W.vret hx hb hr (fun t ht hW => ⟨⟨(), rfl, trivial, ⟨g_3, g_12, g_4, ⟨by rw [ht]; exact hP, va_K.moved hW.alike hK, hD⟩, hg_3, hg_12⟩⟩, hS.F ht⟩) hS.2.2 eX4_scanWord_152
      · have c_15 : ¬ 8 ≤ g_13 := fun z => c_15 ((nI_leI (a := 8) (b := g_13) (Nat.le_of_ble_eq_true rfl) (Nat.lt_of_le_of_lt hg_13 (Nat.le_of_ble_eq_true rfl))).mpr z)
        refine lv_aload_n hx hb eX4_scanWord_117 rfl (lv_at hl 0 rfl) ?_
        refine va_get (D := (dC, dI)) (ci := 4) (v := .int (nI g_12)) (C := RX4) (T := TX4) (N := 12) hx hb hts hiX4 hown hK hP 0 rfl rfl 5 (by decide) v_6 (fun _ h9 => h9) rfl eX4_scanWord_118 ?_
        refine lv_iconst (v := 2) hx hb eX4_scanWord_121 (by decide) ?_
        refine lv_icmp_ne (tgt := 152) hx hb eX4_scanWord_122 (by decide) (fun c_16 => ?_) (fun c_16 => ?_)
        · have c_16 : ¬ g_12 = 2 := fun z => c_16 ((nI_eq (a := g_12) (b := 2) (Nat.lt_of_le_of_lt hg_12 (Nat.le_of_ble_eq_true rfl)) (Nat.le_of_ble_eq_true rfl)).mpr z)
          exact W.vret hx hb hr (fun t ht hW => ⟨⟨(), rfl, trivial, ⟨g_3, g_12, g_4, ⟨by rw [ht]; exact hP, va_K.moved hW.alike hK, hD⟩, hg_3, hg_12⟩⟩, hS.F ht⟩) hS.2.2 eX4_scanWord_152
        · have c_16 : g_12 = 2 := (nI_eq (a := g_12) (b := 2) (Nat.lt_of_le_of_lt hg_12 (Nat.le_of_ble_eq_true rfl)) (Nat.le_of_ble_eq_true rfl)).mp c_16
          refine lv_aload_n hx hb eX4_scanWord_125 rfl (lv_at hl 0 rfl) ?_
          refine va_get (D := (dC, dI)) (ci := 4) (v := .ref rw) (C := RX4) (T := TX4) (N := 12) hx hb hts hiX4 hown hK hP 0 rfl rfl 9 (by decide) v_7 (fun _ h9 => h9) rfl eX4_scanWord_126 ?_
          refine lv_iload_n hx hb eX4_scanWord_129 rfl (lv_at hl 1 rfl) ?_
          refine va_iald hx hb hK hP 2 1 rfl rfl (vp_in_nI (n := g_13) (by omega) (Nat.le_of_ble_eq_true rfl)) eX4_scanWord_130 ?_
          refine lv_topi (fun y_17 ey_17 => ?_)
          refine lv_aload_n hx hb eX4_scanWord_131 rfl (lv_at hl 0 rfl) ?_
          refine va_get (D := (dC, dI)) (ci := 4) (v := .int g_4) (C := RX4) (T := TX4) (N := 12) hx hb hts hiX4 hown hK hP 0 rfl rfl 6 (by decide) v_1 (fun _ h9 => h9) rfl eX4_scanWord_132 ?_
          refine pu_join (fun H locs ls st => ∃ (g_18 : Nat), st = [] ∧ (2 ≤ g_18 ∧ g_18 ≤ 15) ∧ va_P (dC, dI) vwCl (rd__w rd fa fat tp (nI len) (nI g_3) (nI g_18) g_4 tka au rw rc rp k_ft ft k_fw fw k_fcn fcn k_fpn fpn) H ∧ va_D A (rd__w rd fa fat tp (nI len) (nI g_3) (nI g_18) g_4 tka au rw rc rp k_ft ft k_fw fw k_fcn fcn k_fpn fpn) ∧ va_S A s.heap H locs ∧ lv_has ls 2 [(0, .ref rd), (1, .int (nI g_13))]) 146 ?_ (fun j_19 => ?_)
          · rintro H locs ls st ⟨g_18, rfl, hg_18, hP, hD, hS, hl⟩
            refine lv_iinc (v := (nI (g_13 + 1))) (lv' := [(1, .int (nI (g_13 + 1))), (0, .ref rd)]) hx hb eX4_scanWord_146 hl (k := 1) rfl (nI_1 _) (by decide) rfl (fun ls hl => ?_)
            refine lv_goto (tgt := 108) hx hb eX4_scanWord_149 (by decide) ?_
            exact ih_14 (8 - (g_13 + 1)) (by omega) _ _ _ ⟨g_18, (g_13 + 1), rfl, hg_18.2, (by omega), hP, hD, hS, lv_sub hl [1, 0] rfl⟩
          refine lv_icmp_ne (tgt := 146) hx hb eX4_scanWord_135 (by decide) (fun c_20 => ?_) (fun c_20 => ?_)
          · exact j_19 _ _ _ _ ⟨g_12, rfl, ⟨by omega, by omega⟩, hP, hD, hS, lv_sub hl [0, 1] rfl⟩
          · refine lv_aload_n hx hb eX4_scanWord_138 rfl (lv_at hl 0 rfl) ?_
            refine lv_bipush (v := 8) hx hb eX4_scanWord_139 (by decide) ?_
            refine lv_iload_n hx hb eX4_scanWord_141 rfl (lv_at hl 1 rfl) ?_
            refine lv_iadd hx hb eX4_scanWord_142 ?_
            refine lv_topi (fun y_21 ey_21 => ?_)
            obtain rfl : y_21 = (nI (8 + g_13)) := ey_21.trans (nI_add 8 g_13)
            refine va_put (D := (dC, dI)) (ci := 4) (v := .int (nI (8 + g_13))) (ty := .int) (C := RX4) (T := TX4) (N := 12) hx hb hts hiX4 tyX4 tyX4_ok nmX4 hown hK hP hD hS 0 rfl rfl 5 (by decide) v_6 (fun _ h9 => h9) rfl (by decide +kernel) rfl rfl (Nat.le_of_ble_eq_true rfl) eX4_scanWord_143 (fun H locs hP hD hS => ?_)
            have hP : va_P (dC, dI) vwCl (rd__w rd fa fat tp (nI len) (nI g_3) (nI (8 + g_13)) g_4 tka au rw rc rp k_ft ft k_fw fw k_fcn fcn k_fpn fpn) H := hP
            have hD : va_D A (rd__w rd fa fat tp (nI len) (nI g_3) (nI (8 + g_13)) g_4 tka au rw rc rp k_ft ft k_fw fw k_fcn fcn k_fpn fpn) := hD
            exact j_19 _ _ _ _ ⟨(8 + g_13), rfl, ⟨by omega, by omega⟩, hP, hD, hS, lv_sub hl [0, 1] rfl⟩
    refine lv_icmp_le (tgt := 102) hx hb eX4_scanWord_95 (by decide) (fun c_22 => ?_) (fun c_22 => ?_)
    · refine lv_iconst (v := 2) hx hb eX4_scanWord_102 (by decide) ?_
      exact j_9 _ _ _ _ ⟨2, rfl, (Nat.le_of_ble_eq_true rfl), hP, hD, hS, lv_sub hl [0] rfl⟩
    · refine lv_iconst (v := 0) hx hb eX4_scanWord_98 (by decide) ?_
      refine lv_goto (tgt := 103) hx hb eX4_scanWord_99 (by decide) ?_
      exact j_9 _ _ _ _ ⟨0, rfl, (Nat.le_of_ble_eq_true rfl), hP, hD, hS, lv_sub hl [0] rfl⟩
  refine lv_icmp_ge (tgt := 83) hx hb eX4_scanWord_13 (by decide) (fun c_23 => ?_) (fun c_23 => ?_)
  · have c_23 : len ≤ g_3 := (nI_leI (a := len) (b := g_3) (Nat.lt_of_le_of_lt hlen (Nat.le_of_ble_eq_true rfl)) (Nat.lt_of_le_of_lt hg_3 (Nat.le_of_ble_eq_true rfl))).mp c_23
    exact j_6 _ _ _ _ ⟨rfl, hP, hD, hS, lv_sub hl [0] rfl⟩
  · have c_23 : ¬ len ≤ g_3 := fun z => c_23 ((nI_leI (a := len) (b := g_3) (Nat.lt_of_le_of_lt hlen (Nat.le_of_ble_eq_true rfl)) (Nat.lt_of_le_of_lt hg_3 (Nat.le_of_ble_eq_true rfl))).mpr z)
    refine lv_aload_n hx hb eX4_scanWord_16 rfl (lv_at hl 0 rfl) ?_
    refine va_get (D := (dC, dI)) (ci := 4) (v := .ref tp) (C := RX4) (T := TX4) (N := 12) hx hb hts hiX4 hown hK hP 0 rfl rfl 2 (by decide) v_4 (fun _ h9 => h9) rfl eX4_scanWord_17 ?_
    refine lv_aload_n hx hb eX4_scanWord_20 rfl (lv_at hl 0 rfl) ?_
    refine va_get (D := (dC, dI)) (ci := 4) (v := .int (nI g_3)) (C := RX4) (T := TX4) (N := 12) hx hb hts hiX4 hown hK hP 0 rfl rfl 4 (by decide) v_2 (fun _ h9 => h9) rfl eX4_scanWord_21 ?_
    refine va_iald hx hb hK hP 1 0 rfl rfl (vp_in_nI (n := g_3) (by omega) (Nat.le_of_ble_eq_true rfl)) eX4_scanWord_24 ?_
    refine lv_topi (fun y_24 ey_24 => ?_)
    refine lv_bipush (v := 97) hx hb eX4_scanWord_25 (by decide) ?_
    refine lv_icmp_lt (tgt := 83) hx hb eX4_scanWord_27 (by decide) (fun c_25 => ?_) (fun c_25 => ?_)
    · exact j_6 _ _ _ _ ⟨rfl, hP, hD, hS, lv_sub hl [0] rfl⟩
    · refine lv_aload_n hx hb eX4_scanWord_30 rfl (lv_at hl 0 rfl) ?_
      refine va_get (D := (dC, dI)) (ci := 4) (v := .ref tp) (C := RX4) (T := TX4) (N := 12) hx hb hts hiX4 hown hK hP 0 rfl rfl 2 (by decide) v_4 (fun _ h9 => h9) rfl eX4_scanWord_31 ?_
      refine lv_aload_n hx hb eX4_scanWord_34 rfl (lv_at hl 0 rfl) ?_
      refine va_get (D := (dC, dI)) (ci := 4) (v := .int (nI g_3)) (C := RX4) (T := TX4) (N := 12) hx hb hts hiX4 hown hK hP 0 rfl rfl 4 (by decide) v_2 (fun _ h9 => h9) rfl eX4_scanWord_35 ?_
      refine va_iald hx hb hK hP 1 0 rfl rfl (vp_in_nI (n := g_3) (by omega) (Nat.le_of_ble_eq_true rfl)) eX4_scanWord_38 ?_
      refine lv_topi (fun y_26 ey_26 => ?_)
      refine lv_bipush (v := 122) hx hb eX4_scanWord_39 (by decide) ?_
      refine lv_icmp_gt (tgt := 83) hx hb eX4_scanWord_41 (by decide) (fun c_27 => ?_) (fun c_27 => ?_)
      · exact j_6 _ _ _ _ ⟨rfl, hP, hD, hS, lv_sub hl [0] rfl⟩
      · refine lv_aload_n hx hb eX4_scanWord_44 rfl (lv_at hl 0 rfl) ?_
        refine lv_aload_n hx hb eX4_scanWord_45 rfl (lv_at hl 0 rfl) ?_
        refine va_get (D := (dC, dI)) (ci := 4) (v := .int g_4) (C := RX4) (T := TX4) (N := 12) hx hb hts hiX4 hown hK hP 0 rfl rfl 6 (by decide) v_1 (fun _ h9 => h9) rfl eX4_scanWord_46 ?_
        refine lv_bipush (v := 32) hx hb eX4_scanWord_49 (by decide) ?_
        refine lv_imul hx hb eX4_scanWord_51 ?_
        refine lv_topi (fun y_28 ey_28 => ?_)
        refine lv_aload_n hx hb eX4_scanWord_52 rfl (lv_at hl 0 rfl) ?_
        refine va_get (D := (dC, dI)) (ci := 4) (v := .ref tp) (C := RX4) (T := TX4) (N := 12) hx hb hts hiX4 hown hK hP 0 rfl rfl 2 (by decide) v_4 (fun _ h9 => h9) rfl eX4_scanWord_53 ?_
        refine lv_aload_n hx hb eX4_scanWord_56 rfl (lv_at hl 0 rfl) ?_
        refine va_get (D := (dC, dI)) (ci := 4) (v := .int (nI g_3)) (C := RX4) (T := TX4) (N := 12) hx hb hts hiX4 hown hK hP 0 rfl rfl 4 (by decide) v_2 (fun _ h9 => h9) rfl eX4_scanWord_57 ?_
        refine va_iald hx hb hK hP 1 0 rfl rfl (vp_in_nI (n := g_3) (by omega) (Nat.le_of_ble_eq_true rfl)) eX4_scanWord_60 ?_
        refine lv_topi (fun y_29 ey_29 => ?_)
        refine lv_iadd hx hb eX4_scanWord_61 ?_
        refine lv_topi (fun y_30 ey_30 => ?_)
        refine lv_bipush (v := 97) hx hb eX4_scanWord_62 (by decide) ?_
        refine lv_isub hx hb eX4_scanWord_64 ?_
        refine lv_topi (fun y_31 ey_31 => ?_)
        refine lv_iconst (v := 1) hx hb eX4_scanWord_65 (by decide) ?_
        refine lv_iadd hx hb eX4_scanWord_66 ?_
        refine lv_topi (fun y_32 ey_32 => ?_)
        refine va_put (D := (dC, dI)) (ci := 4) (v := .int y_32) (ty := .int) (C := RX4) (T := TX4) (N := 12) hx hb hts hiX4 tyX4 tyX4_ok nmX4 hown hK hP hD hS 0 rfl rfl 6 (by decide) v_1 (fun _ h9 => h9) rfl (by decide +kernel) rfl rfl (Nat.le_of_ble_eq_true rfl) eX4_scanWord_67 (fun H locs hP hD hS => ?_)
        have hP : va_P (dC, dI) vwCl (rd__w rd fa fat tp (nI len) (nI g_3) (nI kd) y_32 tka au rw rc rp k_ft ft k_fw fw k_fcn fcn k_fpn fpn) H := hP
        have hD : va_D A (rd__w rd fa fat tp (nI len) (nI g_3) (nI kd) y_32 tka au rw rc rp k_ft ft k_fw fw k_fcn fcn k_fpn fpn) := hD
        refine lv_aload_n hx hb eX4_scanWord_70 rfl (lv_at hl 0 rfl) ?_
        refine lv_dup hx hb eX4_scanWord_71 rfl ?_
        refine va_get (D := (dC, dI)) (ci := 4) (v := .int (nI g_3)) (C := RX4) (T := TX4) (N := 12) hx hb hts hiX4 hown hK hP 0 rfl rfl 4 (by decide) v_2 (fun _ h9 => h9) rfl eX4_scanWord_72 ?_
        refine lv_iconst (v := 1) hx hb eX4_scanWord_75 (by decide) ?_
        refine lv_iadd hx hb eX4_scanWord_76 ?_
        refine lv_topi (fun y_33 ey_33 => ?_)
        obtain rfl : y_33 = (nI (g_3 + 1)) := ey_33.trans (nI_add g_3 1)
        refine va_put (D := (dC, dI)) (ci := 4) (v := .int (nI (g_3 + 1))) (ty := .int) (C := RX4) (T := TX4) (N := 12) hx hb hts hiX4 tyX4 tyX4_ok nmX4 hown hK hP hD hS 0 rfl rfl 4 (by decide) v_2 (fun _ h9 => h9) rfl (by decide +kernel) rfl rfl (Nat.le_of_ble_eq_true rfl) eX4_scanWord_77 (fun H locs hP hD hS => ?_)
        have hP : va_P (dC, dI) vwCl (rd__w rd fa fat tp (nI len) (nI (g_3 + 1)) (nI kd) y_32 tka au rw rc rp k_ft ft k_fw fw k_fcn fcn k_fpn fpn) H := hP
        have hD : va_D A (rd__w rd fa fat tp (nI len) (nI (g_3 + 1)) (nI kd) y_32 tka au rw rc rp k_ft ft k_fw fw k_fcn fcn k_fpn fpn) := hD
        refine lv_goto (tgt := 5) hx hb eX4_scanWord_80 (by decide) ?_
        exact ih_5 (900 - (g_3 + 1)) (by omega) _ _ _ ⟨(g_3 + 1), y_32, rfl, (by omega), hP, hD, hS, lv_sub hl [0] rfl⟩
theorem eX4_scanNumber_0 : decode cX4_scanNumber 0 = .ok (.aload_n 0, 1) := by decide +kernel
theorem eX4_scanNumber_1 : decode cX4_scanNumber 1 = .ok (.iconst 0, 1) := by decide +kernel
theorem eX4_scanNumber_2 : decode cX4_scanNumber 2 = .ok (.putfield 127, 3) := by decide +kernel
theorem eX4_scanNumber_5 : decode cX4_scanNumber 5 = .ok (.aload_n 0, 1) := by decide +kernel
theorem eX4_scanNumber_6 : decode cX4_scanNumber 6 = .ok (.getfield 60, 3) := by decide +kernel
theorem eX4_scanNumber_9 : decode cX4_scanNumber 9 = .ok (.aload_n 0, 1) := by decide +kernel
theorem eX4_scanNumber_10 : decode cX4_scanNumber 10 = .ok (.getfield 58, 3) := by decide +kernel
theorem eX4_scanNumber_13 : decode cX4_scanNumber 13 = .ok (.if_icmp .ge 68, 3) := by decide +kernel
theorem eX4_scanNumber_16 : decode cX4_scanNumber 16 = .ok (.aload_n 0, 1) := by decide +kernel
theorem eX4_scanNumber_17 : decode cX4_scanNumber 17 = .ok (.getfield 55, 3) := by decide +kernel
theorem eX4_scanNumber_20 : decode cX4_scanNumber 20 = .ok (.aload_n 0, 1) := by decide +kernel
theorem eX4_scanNumber_21 : decode cX4_scanNumber 21 = .ok (.getfield 60, 3) := by decide +kernel
theorem eX4_scanNumber_24 : decode cX4_scanNumber 24 = .ok (.iaload, 1) := by decide +kernel
theorem eX4_scanNumber_25 : decode cX4_scanNumber 25 = .ok (.bipush 48, 2) := by decide +kernel
theorem eX4_scanNumber_27 : decode cX4_scanNumber 27 = .ok (.if_icmp .lt 54, 3) := by decide +kernel
theorem eX4_scanNumber_30 : decode cX4_scanNumber 30 = .ok (.aload_n 0, 1) := by decide +kernel
theorem eX4_scanNumber_31 : decode cX4_scanNumber 31 = .ok (.getfield 55, 3) := by decide +kernel
theorem eX4_scanNumber_34 : decode cX4_scanNumber 34 = .ok (.aload_n 0, 1) := by decide +kernel
theorem eX4_scanNumber_35 : decode cX4_scanNumber 35 = .ok (.getfield 60, 3) := by decide +kernel
theorem eX4_scanNumber_38 : decode cX4_scanNumber 38 = .ok (.iaload, 1) := by decide +kernel
theorem eX4_scanNumber_39 : decode cX4_scanNumber 39 = .ok (.bipush 57, 2) := by decide +kernel
theorem eX4_scanNumber_41 : decode cX4_scanNumber 41 = .ok (.if_icmp .gt 40, 3) := by decide +kernel
theorem eX4_scanNumber_44 : decode cX4_scanNumber 44 = .ok (.aload_n 0, 1) := by decide +kernel
theorem eX4_scanNumber_45 : decode cX4_scanNumber 45 = .ok (.aload_n 0, 1) := by decide +kernel
theorem eX4_scanNumber_46 : decode cX4_scanNumber 46 = .ok (.getfield 127, 3) := by decide +kernel
theorem eX4_scanNumber_49 : decode cX4_scanNumber 49 = .ok (.bipush 10, 2) := by decide +kernel
theorem eX4_scanNumber_51 : decode cX4_scanNumber 51 = .ok (.imul, 1) := by decide +kernel
theorem eX4_scanNumber_52 : decode cX4_scanNumber 52 = .ok (.aload_n 0, 1) := by decide +kernel
theorem eX4_scanNumber_53 : decode cX4_scanNumber 53 = .ok (.getfield 55, 3) := by decide +kernel
theorem eX4_scanNumber_56 : decode cX4_scanNumber 56 = .ok (.aload_n 0, 1) := by decide +kernel
theorem eX4_scanNumber_57 : decode cX4_scanNumber 57 = .ok (.getfield 60, 3) := by decide +kernel
theorem eX4_scanNumber_60 : decode cX4_scanNumber 60 = .ok (.iaload, 1) := by decide +kernel
theorem eX4_scanNumber_61 : decode cX4_scanNumber 61 = .ok (.iadd, 1) := by decide +kernel
theorem eX4_scanNumber_62 : decode cX4_scanNumber 62 = .ok (.bipush 48, 2) := by decide +kernel
theorem eX4_scanNumber_64 : decode cX4_scanNumber 64 = .ok (.isub, 1) := by decide +kernel
theorem eX4_scanNumber_65 : decode cX4_scanNumber 65 = .ok (.putfield 127, 3) := by decide +kernel
theorem eX4_scanNumber_68 : decode cX4_scanNumber 68 = .ok (.aload_n 0, 1) := by decide +kernel
theorem eX4_scanNumber_69 : decode cX4_scanNumber 69 = .ok (.dup, 1) := by decide +kernel
theorem eX4_scanNumber_70 : decode cX4_scanNumber 70 = .ok (.getfield 60, 3) := by decide +kernel
theorem eX4_scanNumber_73 : decode cX4_scanNumber 73 = .ok (.iconst 1, 1) := by decide +kernel
theorem eX4_scanNumber_74 : decode cX4_scanNumber 74 = .ok (.iadd, 1) := by decide +kernel
theorem eX4_scanNumber_75 : decode cX4_scanNumber 75 = .ok (.putfield 60, 3) := by decide +kernel
theorem eX4_scanNumber_78 : decode cX4_scanNumber 78 = .ok (.goto (-73), 3) := by decide +kernel
theorem eX4_scanNumber_81 : decode cX4_scanNumber 81 = .ok (.aload_n 0, 1) := by decide +kernel
theorem eX4_scanNumber_82 : decode cX4_scanNumber 82 = .ok (.getfield 60, 3) := by decide +kernel
theorem eX4_scanNumber_85 : decode cX4_scanNumber 85 = .ok (.aload_n 0, 1) := by decide +kernel
theorem eX4_scanNumber_86 : decode cX4_scanNumber 86 = .ok (.getfield 58, 3) := by decide +kernel
theorem eX4_scanNumber_89 : decode cX4_scanNumber 89 = .ok (.if_icmp .ge 35, 3) := by decide +kernel
theorem eX4_scanNumber_92 : decode cX4_scanNumber 92 = .ok (.aload_n 0, 1) := by decide +kernel
theorem eX4_scanNumber_93 : decode cX4_scanNumber 93 = .ok (.getfield 55, 3) := by decide +kernel
theorem eX4_scanNumber_96 : decode cX4_scanNumber 96 = .ok (.aload_n 0, 1) := by decide +kernel
theorem eX4_scanNumber_97 : decode cX4_scanNumber 97 = .ok (.getfield 60, 3) := by decide +kernel
theorem eX4_scanNumber_100 : decode cX4_scanNumber 100 = .ok (.iaload, 1) := by decide +kernel
theorem eX4_scanNumber_101 : decode cX4_scanNumber 101 = .ok (.bipush 97, 2) := by decide +kernel
theorem eX4_scanNumber_103 : decode cX4_scanNumber 103 = .ok (.if_icmp .lt 21, 3) := by decide +kernel
theorem eX4_scanNumber_106 : decode cX4_scanNumber 106 = .ok (.aload_n 0, 1) := by decide +kernel
theorem eX4_scanNumber_107 : decode cX4_scanNumber 107 = .ok (.getfield 55, 3) := by decide +kernel
theorem eX4_scanNumber_110 : decode cX4_scanNumber 110 = .ok (.aload_n 0, 1) := by decide +kernel
theorem eX4_scanNumber_111 : decode cX4_scanNumber 111 = .ok (.getfield 60, 3) := by decide +kernel
theorem eX4_scanNumber_114 : decode cX4_scanNumber 114 = .ok (.iaload, 1) := by decide +kernel
theorem eX4_scanNumber_115 : decode cX4_scanNumber 115 = .ok (.bipush 122, 2) := by decide +kernel
theorem eX4_scanNumber_117 : decode cX4_scanNumber 117 = .ok (.if_icmp .gt 7, 3) := by decide +kernel
theorem eX4_scanNumber_120 : decode cX4_scanNumber 120 = .ok (.iconst 1, 1) := by decide +kernel
theorem eX4_scanNumber_121 : decode cX4_scanNumber 121 = .ok (.goto 4, 3) := by decide +kernel
theorem eX4_scanNumber_124 : decode cX4_scanNumber 124 = .ok (.iconst 0, 1) := by decide +kernel
theorem eX4_scanNumber_125 : decode cX4_scanNumber 125 = .ok (.istore_n 1, 1) := by decide +kernel
theorem eX4_scanNumber_126 : decode cX4_scanNumber 126 = .ok (.aload_n 0, 1) := by decide +kernel
theorem eX4_scanNumber_127 : decode cX4_scanNumber 127 = .ok (.aload_n 0, 1) := by decide +kernel
theorem eX4_scanNumber_128 : decode cX4_scanNumber 128 = .ok (.getfield 60, 3) := by decide +kernel
theorem eX4_scanNumber_131 : decode cX4_scanNumber 131 = .ok (.aload_n 0, 1) := by decide +kernel
theorem eX4_scanNumber_132 : decode cX4_scanNumber 132 = .ok (.getfield 118, 3) := by decide +kernel
theorem eX4_scanNumber_135 : decode cX4_scanNumber 135 = .ok (.isub, 1) := by decide +kernel
theorem eX4_scanNumber_136 : decode cX4_scanNumber 136 = .ok (.iconst 3, 1) := by decide +kernel
theorem eX4_scanNumber_137 : decode cX4_scanNumber 137 = .ok (.if_icmp .gt 7, 3) := by decide +kernel
theorem eX4_scanNumber_140 : decode cX4_scanNumber 140 = .ok (.iload_n 1, 1) := by decide +kernel
theorem eX4_scanNumber_141 : decode cX4_scanNumber 141 = .ok (.ifCond .eq 7, 3) := by decide +kernel
theorem eX4_scanNumber_144 : decode cX4_scanNumber 144 = .ok (.iconst 0, 1) := by decide +kernel
theorem eX4_scanNumber_145 : decode cX4_scanNumber 145 = .ok (.goto 4, 3) := by decide +kernel
theorem eX4_scanNumber_148 : decode cX4_scanNumber 148 = .ok (.iconst 3, 1) := by decide +kernel
theorem eX4_scanNumber_149 : decode cX4_scanNumber 149 = .ok (.putfield 78, 3) := by decide +kernel
theorem eX4_scanNumber_152 : decode cX4_scanNumber 152 = .ok (.return_, 1) := by decide +kernel
abbrev vs_C_4_scanNumber : List Cond := .code yX4_scanNumber cX4_scanNumber 2 none :: CM
set_option maxHeartbeats 4000000 in
set_option maxRecDepth 100000 in
theorem c_C_4_scanNumber (l : Launch) (dC : Nat → ClassId) (dI : Nat → Nat → Nat) (sz : Nat) (rd : Nat) (fa : Int32) (fat : Int32) (tp : Nat) (len : Nat) (pos : Nat) (kd : Nat) (vl : Int32) (tka : Int32) (au : Nat) (rw : Nat) (rc : Nat) (rp : Nat) (k_ft : ClassId) (ft : Nat → Int32) (k_fw : ClassId) (fw : Nat → Int32) (k_fcn : ClassId) (fcn : Nat → Int32) (k_fpn : ClassId) (fpn : Nat → Int32) (hlen : len ≤ 900) (hpos : pos ≤ 900) (hkd : kd ≤ 15) : Met l yX4_scanNumber vs_C_4_scanNumber ({ frames := 0, cells := 0, slots := 0, locals := 0 }) (va_Pc [.ref rd] (pu_B (dC, dI) (rd__w rd fa fat tp (nI len) (nI pos) (nI kd) vl tka au rw rc rp k_ft ft k_fw fw k_fcn fcn k_fpn fpn) (rd__t k_ft k_fw k_fcn k_fpn) sz)) (va_Qv (fun (_ : Unit) => True) (fun _ t => ∃ (z_pos : Nat) (z_kd : Nat) (z_vl : Int32), pu_E (dC, dI) (rd__w rd fa fat tp (nI len) (nI z_pos) (nI z_kd) z_vl tka au rw rc rp k_ft ft k_fw fw k_fcn fcn k_fpn fpn) (rd__t k_ft k_fw k_fcn k_fpn) (va_A ((rd__w rd fa fat tp (nI len) (nI pos) (nI kd) vl tka au rw rc rp k_ft ft k_fw fw k_fcn fcn k_fpn fpn)) sz) t ∧ (z_pos ≤ 900) ∧ (z_kd ≤ 15)) (va_A ((rd__w rd fa fat tp (nI len) (nI pos) (nI kd) vl tka au rw rc rp k_ft ft k_fw fw k_fcn fcn k_fpn fpn)) sz)) 0 0 (va_A ((rd__w rd fa fat tp (nI len) (nI pos) (nI kd) vl tka au rw rc rp k_ft ft k_fw fw k_fcn fcn k_fpn fpn)) sz) := by
  refine Met.ofW (cc := cX4_scanNumber) (maxL := 2) (ret := none) (by decide) rfl ?_
  intro p e s m args below meth c s₁ B hml hv
  obtain ⟨rfl, rfl, hP, hK, hD0⟩ := hv
  have hx := B.exec
  have hb := B.bytes
  have hr := B.returns
  have hts := atoms_spec (ws := vs_C_4_scanNumber) B.pre
  have v_1 := hts (.fieldLink RX4 127 "ClockReach$Reader" "value" "I") (List.mem_cons_of_mem _ cm_239)
  have v_2 := hts (.fieldLink RX4 60 "ClockReach$Reader" "position" "I") (List.mem_cons_of_mem _ cm_218)
  have v_3 := hts (.fieldLink RX4 58 "ClockReach$Reader" "length" "I") (List.mem_cons_of_mem _ cm_217)
  have v_4 := hts (.fieldLink RX4 55 "ClockReach$Reader" "text" "[I") (List.mem_cons_of_mem _ cm_216)
  have v_5 := hts (.fieldLink RX4 118 "ClockReach$Reader" "tokenAt" "I") (List.mem_cons_of_mem _ cm_234)
  have v_6 := hts (.fieldLink RX4 78 "ClockReach$Reader" "kind" "I") (List.mem_cons_of_mem _ cm_222)
  have hown : s.vm.findClass RX4 = some m.cls := findClass_of_methodNamed B.named
  have hlocks := B.notSynchronized
  have hiX4 : ∀ w ∈ wsX40, w ∈ vs_C_4_scanNumber := fun _ h => List.mem_cons_of_mem _ (cm_X4 h)
  have hD := hD0.self (sz := s.heap.size)
  generalize hAe : va_A ((rd__w rd fa fat tp (nI len) (nI pos) (nI kd) vl tka au rw rc rp k_ft ft k_fw fw k_fcn fcn k_fpn fpn)) s.heap.size = A at hD ⊢
  have hA : ∀ q : Nat, s.heap.size ≤ q → A q := fun q h => by rw [← hAe]; exact Or.inr h
  have hS : va_S A s.heap s.heap [] := va_S.rf
  have hl := lv_entry ([.ref rd]) (n := 2) (Nat.le_of_ble_eq_true rfl)
  rw [lg_entry_eq]
  generalize (lg_sl ([.ref rd]) ++ List.replicate (2 - (lg_sl ([.ref rd])).length) Slot.unset).toArray = ls at hl ⊢
  have hl : lv_has ls 2 [(0, .ref rd)] := hl
  refine lv_aload_n hx hb eX4_scanNumber_0 rfl (lv_at hl 0 rfl) ?_
  refine lv_iconst (v := 0) hx hb eX4_scanNumber_1 (by decide) ?_
  refine va_put (D := (dC, dI)) (ci := 4) (v := .int 0) (ty := .int) (C := RX4) (T := TX4) (N := 12) hx hb hts hiX4 tyX4 tyX4_ok nmX4 hown hK hP hD hS 0 rfl rfl 6 (by decide) v_1 (fun _ h9 => h9) rfl (by decide +kernel) rfl rfl (Nat.le_of_ble_eq_true rfl) eX4_scanNumber_2 (fun H locs hP hD hS => ?_)
  have hP : va_P (dC, dI) vwCl (rd__w rd fa fat tp (nI len) (nI pos) (nI kd) 0 tka au rw rc rp k_ft ft k_fw fw k_fcn fcn k_fpn fpn) H := hP
  have hD : va_D A (rd__w rd fa fat tp (nI len) (nI pos) (nI kd) 0 tka au rw rc rp k_ft ft k_fw fw k_fcn fcn k_fpn fpn) := hD
  refine pu_while (fun nn H locs ls => ∃ (g_3 : Nat) (g_4 : Int32), nn = 900 - g_3 ∧ g_3 ≤ 900 ∧ va_P (dC, dI) vwCl (rd__w rd fa fat tp (nI len) (nI g_3) (nI kd) g_4 tka au rw rc rp k_ft ft k_fw fw k_fcn fcn k_fpn fpn) H ∧ va_D A (rd__w rd fa fat tp (nI len) (nI g_3) (nI kd) g_4 tka au rw rc rp k_ft ft k_fw fw k_fcn fcn k_fpn fpn) ∧ va_S A s.heap H locs ∧ lv_has ls 2 [(0, .ref rd)]) 5 ?_ _ _ _ _ ⟨pos, 0, rfl, hpos, hP, hD, hS, lv_sub hl [0] rfl⟩
  rintro nn ih_5 H locs ls ⟨g_3, g_4, rfl, hg_3, hP, hD, hS, hl⟩
  refine lv_aload_n hx hb eX4_scanNumber_5 rfl (lv_at hl 0 rfl) ?_
  refine va_get (D := (dC, dI)) (ci := 4) (v := .int (nI g_3)) (C := RX4) (T := TX4) (N := 12) hx hb hts hiX4 hown hK hP 0 rfl rfl 4 (by decide) v_2 (fun _ h9 => h9) rfl eX4_scanNumber_6 ?_
  refine lv_aload_n hx hb eX4_scanNumber_9 rfl (lv_at hl 0 rfl) ?_
  refine va_get (D := (dC, dI)) (ci := 4) (v := .int (nI len)) (C := RX4) (T := TX4) (N := 12) hx hb hts hiX4 hown hK hP 0 rfl rfl 3 (by decide) v_3 (fun _ h9 => h9) rfl eX4_scanNumber_10 ?_
  refine pu_join (fun H locs ls st => st = [] ∧ va_P (dC, dI) vwCl (rd__w rd fa fat tp (nI len) (nI g_3) (nI kd) g_4 tka au rw rc rp k_ft ft k_fw fw k_fcn fcn k_fpn fpn) H ∧ va_D A (rd__w rd fa fat tp (nI len) (nI g_3) (nI kd) g_4 tka au rw rc rp k_ft ft k_fw fw k_fcn fcn k_fpn fpn) ∧ va_S A s.heap H locs ∧ lv_has ls 2 [(0, .ref rd)]) 81 ?_ (fun j_6 => ?_)
  · rintro H locs ls st ⟨rfl, hP, hD, hS, hl⟩
    refine lv_aload_n hx hb eX4_scanNumber_81 rfl (lv_at hl 0 rfl) ?_
    refine va_get (D := (dC, dI)) (ci := 4) (v := .int (nI g_3)) (C := RX4) (T := TX4) (N := 12) hx hb hts hiX4 hown hK hP 0 rfl rfl 4 (by decide) v_2 (fun _ h9 => h9) rfl eX4_scanNumber_82 ?_
    refine lv_aload_n hx hb eX4_scanNumber_85 rfl (lv_at hl 0 rfl) ?_
    refine va_get (D := (dC, dI)) (ci := 4) (v := .int (nI len)) (C := RX4) (T := TX4) (N := 12) hx hb hts hiX4 hown hK hP 0 rfl rfl 3 (by decide) v_3 (fun _ h9 => h9) rfl eX4_scanNumber_86 ?_
    refine pu_join (fun H locs ls st => ∃ (g_7 : Nat), st = [.int (nI g_7)] ∧ g_7 ≤ 1 ∧ va_P (dC, dI) vwCl (rd__w rd fa fat tp (nI len) (nI g_3) (nI kd) g_4 tka au rw rc rp k_ft ft k_fw fw k_fcn fcn k_fpn fpn) H ∧ va_D A (rd__w rd fa fat tp (nI len) (nI g_3) (nI kd) g_4 tka au rw rc rp k_ft ft k_fw fw k_fcn fcn k_fpn fpn) ∧ va_S A s.heap H locs ∧ lv_has ls 2 [(0, .ref rd)]) 125 ?_ (fun j_8 => ?_)
    · rintro H locs ls st ⟨g_7, rfl, hg_7, hP, hD, hS, hl⟩
      refine lv_istore_n (lv' := [(1, .int (nI g_7)), (0, .ref rd)]) hx hb eX4_scanNumber_125 rfl hl (by decide) rfl (fun ls hl => ?_)
      refine lv_aload_n hx hb eX4_scanNumber_126 rfl (lv_at hl 1 rfl) ?_
      refine lv_aload_n hx hb eX4_scanNumber_127 rfl (lv_at hl 1 rfl) ?_
      refine va_get (D := (dC, dI)) (ci := 4) (v := .int (nI g_3)) (C := RX4) (T := TX4) (N := 12) hx hb hts hiX4 hown hK hP 0 rfl rfl 4 (by decide) v_2 (fun _ h9 => h9) rfl eX4_scanNumber_128 ?_
      refine lv_aload_n hx hb eX4_scanNumber_131 rfl (lv_at hl 1 rfl) ?_
      refine va_get (D := (dC, dI)) (ci := 4) (v := .int tka) (C := RX4) (T := TX4) (N := 12) hx hb hts hiX4 hown hK hP 0 rfl rfl 7 (by decide) v_5 (fun _ h9 => h9) rfl eX4_scanNumber_132 ?_
      refine lv_isub hx hb eX4_scanNumber_135 ?_
      refine lv_topi (fun y_9 ey_9 => ?_)
      refine lv_iconst (v := 3) hx hb eX4_scanNumber_136 (by decide) ?_
      refine lv_icmp_gt (tgt := 144) hx hb eX4_scanNumber_137 (by decide) (fun c_10 => ?_) (fun c_10 => ?_)
      · refine lv_iconst (v := 0) hx hb eX4_scanNumber_144 (by decide) ?_
        refine lv_goto (tgt := 149) hx hb eX4_scanNumber_145 (by decide) ?_
        refine va_put (D := (dC, dI)) (ci := 4) (v := .int 0) (ty := .int) (C := RX4) (T := TX4) (N := 12) hx hb hts hiX4 tyX4 tyX4_ok nmX4 hown hK hP hD hS 0 rfl rfl 5 (by decide) v_6 (fun _ h9 => h9) rfl (by decide +kernel) rfl rfl (Nat.le_of_ble_eq_true rfl) eX4_scanNumber_149 (fun H locs hP hD hS => ?_)
        have hP : va_P (dC, dI) vwCl (rd__w rd fa fat tp (nI len) (nI g_3) 0 g_4 tka au rw rc rp k_ft ft k_fw fw k_fcn fcn k_fpn fpn) H := hP
        have hD : va_D A (rd__w rd fa fat tp (nI len) (nI g_3) 0 g_4 tka au rw rc rp k_ft ft k_fw fw k_fcn fcn k_fpn fpn) := hD
        exact W.vret hx hb hr (fun t ht hW => ⟨⟨(), rfl, trivial, ⟨g_3, 0, g_4, ⟨by rw [ht]; exact hP, va_K.moved hW.alike hK, hD⟩, hg_3, (Nat.le_of_ble_eq_true rfl)⟩⟩, hS.F ht⟩) hS.2.2 eX4_scanNumber_152
      · refine lv_iload_n hx hb eX4_scanNumber_140 rfl (lv_at hl 0 rfl) ?_
        refine lv_if_eq (tgt := 148) hx hb eX4_scanNumber_141 (by decide) (fun c_11 => ?_) (fun c_11 => ?_)
        · have c_11 : g_7 = 0 := (nI_eq (a := g_7) (b := 0) (Nat.lt_of_le_of_lt hg_7 (Nat.le_of_ble_eq_true rfl)) (Nat.le_of_ble_eq_true rfl)).mp c_11
          refine lv_iconst (v := 3) hx hb eX4_scanNumber_148 (by decide) ?_
          refine va_put (D := (dC, dI)) (ci := 4) (v := .int 3) (ty := .int) (C := RX4) (T := TX4) (N := 12) hx hb hts hiX4 tyX4 tyX4_ok nmX4 hown hK hP hD hS 0 rfl rfl 5 (by decide) v_6 (fun _ h9 => h9) rfl (by decide +kernel) rfl rfl (Nat.le_of_ble_eq_true rfl) eX4_scanNumber_149 (fun H locs hP hD hS => ?_)
          have hP : va_P (dC, dI) vwCl (rd__w rd fa fat tp (nI len) (nI g_3) 3 g_4 tka au rw rc rp k_ft ft k_fw fw k_fcn fcn k_fpn fpn) H := hP
          have hD : va_D A (rd__w rd fa fat tp (nI len) (nI g_3) 3 g_4 tka au rw rc rp k_ft ft k_fw fw k_fcn fcn k_fpn fpn) := hD
          exact W.vret hx hb hr (fun t ht hW => ⟨⟨(), rfl, trivial, ⟨g_3, 3, g_4, ⟨by rw [ht]; exact hP, va_K.moved hW.alike hK, hD⟩, hg_3, (Nat.le_of_ble_eq_true rfl)⟩⟩, hS.F ht⟩) hS.2.2 eX4_scanNumber_152
        · have c_11 : ¬ g_7 = 0 := fun z => c_11 ((nI_eq (a := g_7) (b := 0) (Nat.lt_of_le_of_lt hg_7 (Nat.le_of_ble_eq_true rfl)) (Nat.le_of_ble_eq_true rfl)).mpr z)
          refine lv_iconst (v := 0) hx hb eX4_scanNumber_144 (by decide) ?_
          refine lv_goto (tgt := 149) hx hb eX4_scanNumber_145 (by decide) ?_
          refine va_put (D := (dC, dI)) (ci := 4) (v := .int 0) (ty := .int) (C := RX4) (T := TX4) (N := 12) hx hb hts hiX4 tyX4 tyX4_ok nmX4 hown hK hP hD hS 0 rfl rfl 5 (by decide) v_6 (fun _ h9 => h9) rfl (by decide +kernel) rfl rfl (Nat.le_of_ble_eq_true rfl) eX4_scanNumber_149 (fun H locs hP hD hS => ?_)
          have hP : va_P (dC, dI) vwCl (rd__w rd fa fat tp (nI len) (nI g_3) 0 g_4 tka au rw rc rp k_ft ft k_fw fw k_fcn fcn k_fpn fpn) H := hP
          have hD : va_D A (rd__w rd fa fat tp (nI len) (nI g_3) 0 g_4 tka au rw rc rp k_ft ft k_fw fw k_fcn fcn k_fpn fpn) := hD
          exact W.vret hx hb hr (fun t ht hW => ⟨⟨(), rfl, trivial, ⟨g_3, 0, g_4, ⟨by rw [ht]; exact hP, va_K.moved hW.alike hK, hD⟩, hg_3, (Nat.le_of_ble_eq_true rfl)⟩⟩, hS.F ht⟩) hS.2.2 eX4_scanNumber_152
    refine lv_icmp_ge (tgt := 124) hx hb eX4_scanNumber_89 (by decide) (fun c_12 => ?_) (fun c_12 => ?_)
    · have c_12 : len ≤ g_3 := (nI_leI (a := len) (b := g_3) (Nat.lt_of_le_of_lt hlen (Nat.le_of_ble_eq_true rfl)) (Nat.lt_of_le_of_lt hg_3 (Nat.le_of_ble_eq_true rfl))).mp c_12
      refine lv_iconst (v := 0) hx hb eX4_scanNumber_124 (by decide) ?_
      exact j_8 _ _ _ _ ⟨0, rfl, (Nat.le_of_ble_eq_true rfl), hP, hD, hS, lv_sub hl [0] rfl⟩
    · have c_12 : ¬ len ≤ g_3 := fun z => c_12 ((nI_leI (a := len) (b := g_3) (Nat.lt_of_le_of_lt hlen (Nat.le_of_ble_eq_true rfl)) (Nat.lt_of_le_of_lt hg_3 (Nat.le_of_ble_eq_true rfl))).mpr z)
      refine lv_aload_n hx hb eX4_scanNumber_92 rfl (lv_at hl 0 rfl) ?_
      refine va_get (D := (dC, dI)) (ci := 4) (v := .ref tp) (C := RX4) (T := TX4) (N := 12) hx hb hts hiX4 hown hK hP 0 rfl rfl 2 (by decide) v_4 (fun _ h9 => h9) rfl eX4_scanNumber_93 ?_
      refine lv_aload_n hx hb eX4_scanNumber_96 rfl (lv_at hl 0 rfl) ?_
      refine va_get (D := (dC, dI)) (ci := 4) (v := .int (nI g_3)) (C := RX4) (T := TX4) (N := 12) hx hb hts hiX4 hown hK hP 0 rfl rfl 4 (by decide) v_2 (fun _ h9 => h9) rfl eX4_scanNumber_97 ?_
      refine va_iald hx hb hK hP 1 0 rfl rfl (vp_in_nI (n := g_3) (by omega) (Nat.le_of_ble_eq_true rfl)) eX4_scanNumber_100 ?_
      refine lv_topi (fun y_13 ey_13 => ?_)
      refine lv_bipush (v := 97) hx hb eX4_scanNumber_101 (by decide) ?_
      refine lv_icmp_lt (tgt := 124) hx hb eX4_scanNumber_103 (by decide) (fun c_14 => ?_) (fun c_14 => ?_)
      · refine lv_iconst (v := 0) hx hb eX4_scanNumber_124 (by decide) ?_
        exact j_8 _ _ _ _ ⟨0, rfl, (Nat.le_of_ble_eq_true rfl), hP, hD, hS, lv_sub hl [0] rfl⟩
      · refine lv_aload_n hx hb eX4_scanNumber_106 rfl (lv_at hl 0 rfl) ?_
        refine va_get (D := (dC, dI)) (ci := 4) (v := .ref tp) (C := RX4) (T := TX4) (N := 12) hx hb hts hiX4 hown hK hP 0 rfl rfl 2 (by decide) v_4 (fun _ h9 => h9) rfl eX4_scanNumber_107 ?_
        refine lv_aload_n hx hb eX4_scanNumber_110 rfl (lv_at hl 0 rfl) ?_
        refine va_get (D := (dC, dI)) (ci := 4) (v := .int (nI g_3)) (C := RX4) (T := TX4) (N := 12) hx hb hts hiX4 hown hK hP 0 rfl rfl 4 (by decide) v_2 (fun _ h9 => h9) rfl eX4_scanNumber_111 ?_
        refine va_iald hx hb hK hP 1 0 rfl rfl (vp_in_nI (n := g_3) (by omega) (Nat.le_of_ble_eq_true rfl)) eX4_scanNumber_114 ?_
        refine lv_topi (fun y_15 ey_15 => ?_)
        refine lv_bipush (v := 122) hx hb eX4_scanNumber_115 (by decide) ?_
        refine lv_icmp_gt (tgt := 124) hx hb eX4_scanNumber_117 (by decide) (fun c_16 => ?_) (fun c_16 => ?_)
        · refine lv_iconst (v := 0) hx hb eX4_scanNumber_124 (by decide) ?_
          exact j_8 _ _ _ _ ⟨0, rfl, (Nat.le_of_ble_eq_true rfl), hP, hD, hS, lv_sub hl [0] rfl⟩
        · refine lv_iconst (v := 1) hx hb eX4_scanNumber_120 (by decide) ?_
          refine lv_goto (tgt := 125) hx hb eX4_scanNumber_121 (by decide) ?_
          exact j_8 _ _ _ _ ⟨1, rfl, (Nat.le_of_ble_eq_true rfl), hP, hD, hS, lv_sub hl [0] rfl⟩
  refine lv_icmp_ge (tgt := 81) hx hb eX4_scanNumber_13 (by decide) (fun c_17 => ?_) (fun c_17 => ?_)
  · have c_17 : len ≤ g_3 := (nI_leI (a := len) (b := g_3) (Nat.lt_of_le_of_lt hlen (Nat.le_of_ble_eq_true rfl)) (Nat.lt_of_le_of_lt hg_3 (Nat.le_of_ble_eq_true rfl))).mp c_17
    exact j_6 _ _ _ _ ⟨rfl, hP, hD, hS, lv_sub hl [0] rfl⟩
  · have c_17 : ¬ len ≤ g_3 := fun z => c_17 ((nI_leI (a := len) (b := g_3) (Nat.lt_of_le_of_lt hlen (Nat.le_of_ble_eq_true rfl)) (Nat.lt_of_le_of_lt hg_3 (Nat.le_of_ble_eq_true rfl))).mpr z)
    refine lv_aload_n hx hb eX4_scanNumber_16 rfl (lv_at hl 0 rfl) ?_
    refine va_get (D := (dC, dI)) (ci := 4) (v := .ref tp) (C := RX4) (T := TX4) (N := 12) hx hb hts hiX4 hown hK hP 0 rfl rfl 2 (by decide) v_4 (fun _ h9 => h9) rfl eX4_scanNumber_17 ?_
    refine lv_aload_n hx hb eX4_scanNumber_20 rfl (lv_at hl 0 rfl) ?_
    refine va_get (D := (dC, dI)) (ci := 4) (v := .int (nI g_3)) (C := RX4) (T := TX4) (N := 12) hx hb hts hiX4 hown hK hP 0 rfl rfl 4 (by decide) v_2 (fun _ h9 => h9) rfl eX4_scanNumber_21 ?_
    refine va_iald hx hb hK hP 1 0 rfl rfl (vp_in_nI (n := g_3) (by omega) (Nat.le_of_ble_eq_true rfl)) eX4_scanNumber_24 ?_
    refine lv_topi (fun y_18 ey_18 => ?_)
    refine lv_bipush (v := 48) hx hb eX4_scanNumber_25 (by decide) ?_
    refine lv_icmp_lt (tgt := 81) hx hb eX4_scanNumber_27 (by decide) (fun c_19 => ?_) (fun c_19 => ?_)
    · exact j_6 _ _ _ _ ⟨rfl, hP, hD, hS, lv_sub hl [0] rfl⟩
    · refine lv_aload_n hx hb eX4_scanNumber_30 rfl (lv_at hl 0 rfl) ?_
      refine va_get (D := (dC, dI)) (ci := 4) (v := .ref tp) (C := RX4) (T := TX4) (N := 12) hx hb hts hiX4 hown hK hP 0 rfl rfl 2 (by decide) v_4 (fun _ h9 => h9) rfl eX4_scanNumber_31 ?_
      refine lv_aload_n hx hb eX4_scanNumber_34 rfl (lv_at hl 0 rfl) ?_
      refine va_get (D := (dC, dI)) (ci := 4) (v := .int (nI g_3)) (C := RX4) (T := TX4) (N := 12) hx hb hts hiX4 hown hK hP 0 rfl rfl 4 (by decide) v_2 (fun _ h9 => h9) rfl eX4_scanNumber_35 ?_
      refine va_iald hx hb hK hP 1 0 rfl rfl (vp_in_nI (n := g_3) (by omega) (Nat.le_of_ble_eq_true rfl)) eX4_scanNumber_38 ?_
      refine lv_topi (fun y_20 ey_20 => ?_)
      refine lv_bipush (v := 57) hx hb eX4_scanNumber_39 (by decide) ?_
      refine lv_icmp_gt (tgt := 81) hx hb eX4_scanNumber_41 (by decide) (fun c_21 => ?_) (fun c_21 => ?_)
      · exact j_6 _ _ _ _ ⟨rfl, hP, hD, hS, lv_sub hl [0] rfl⟩
      · refine lv_aload_n hx hb eX4_scanNumber_44 rfl (lv_at hl 0 rfl) ?_
        refine lv_aload_n hx hb eX4_scanNumber_45 rfl (lv_at hl 0 rfl) ?_
        refine va_get (D := (dC, dI)) (ci := 4) (v := .int g_4) (C := RX4) (T := TX4) (N := 12) hx hb hts hiX4 hown hK hP 0 rfl rfl 6 (by decide) v_1 (fun _ h9 => h9) rfl eX4_scanNumber_46 ?_
        refine lv_bipush (v := 10) hx hb eX4_scanNumber_49 (by decide) ?_
        refine lv_imul hx hb eX4_scanNumber_51 ?_
        refine lv_topi (fun y_22 ey_22 => ?_)
        refine lv_aload_n hx hb eX4_scanNumber_52 rfl (lv_at hl 0 rfl) ?_
        refine va_get (D := (dC, dI)) (ci := 4) (v := .ref tp) (C := RX4) (T := TX4) (N := 12) hx hb hts hiX4 hown hK hP 0 rfl rfl 2 (by decide) v_4 (fun _ h9 => h9) rfl eX4_scanNumber_53 ?_
        refine lv_aload_n hx hb eX4_scanNumber_56 rfl (lv_at hl 0 rfl) ?_
        refine va_get (D := (dC, dI)) (ci := 4) (v := .int (nI g_3)) (C := RX4) (T := TX4) (N := 12) hx hb hts hiX4 hown hK hP 0 rfl rfl 4 (by decide) v_2 (fun _ h9 => h9) rfl eX4_scanNumber_57 ?_
        refine va_iald hx hb hK hP 1 0 rfl rfl (vp_in_nI (n := g_3) (by omega) (Nat.le_of_ble_eq_true rfl)) eX4_scanNumber_60 ?_
        refine lv_topi (fun y_23 ey_23 => ?_)
        refine lv_iadd hx hb eX4_scanNumber_61 ?_
        refine lv_topi (fun y_24 ey_24 => ?_)
        refine lv_bipush (v := 48) hx hb eX4_scanNumber_62 (by decide) ?_
        refine lv_isub hx hb eX4_scanNumber_64 ?_
        refine lv_topi (fun y_25 ey_25 => ?_)
        refine va_put (D := (dC, dI)) (ci := 4) (v := .int y_25) (ty := .int) (C := RX4) (T := TX4) (N := 12) hx hb hts hiX4 tyX4 tyX4_ok nmX4 hown hK hP hD hS 0 rfl rfl 6 (by decide) v_1 (fun _ h9 => h9) rfl (by decide +kernel) rfl rfl (Nat.le_of_ble_eq_true rfl) eX4_scanNumber_65 (fun H locs hP hD hS => ?_)
        have hP : va_P (dC, dI) vwCl (rd__w rd fa fat tp (nI len) (nI g_3) (nI kd) y_25 tka au rw rc rp k_ft ft k_fw fw k_fcn fcn k_fpn fpn) H := hP
        have hD : va_D A (rd__w rd fa fat tp (nI len) (nI g_3) (nI kd) y_25 tka au rw rc rp k_ft ft k_fw fw k_fcn fcn k_fpn fpn) := hD
        refine lv_aload_n hx hb eX4_scanNumber_68 rfl (lv_at hl 0 rfl) ?_
        refine lv_dup hx hb eX4_scanNumber_69 rfl ?_
        refine va_get (D := (dC, dI)) (ci := 4) (v := .int (nI g_3)) (C := RX4) (T := TX4) (N := 12) hx hb hts hiX4 hown hK hP 0 rfl rfl 4 (by decide) v_2 (fun _ h9 => h9) rfl eX4_scanNumber_70 ?_
        refine lv_iconst (v := 1) hx hb eX4_scanNumber_73 (by decide) ?_
        refine lv_iadd hx hb eX4_scanNumber_74 ?_
        refine lv_topi (fun y_26 ey_26 => ?_)
        obtain rfl : y_26 = (nI (g_3 + 1)) := ey_26.trans (nI_add g_3 1)
        refine va_put (D := (dC, dI)) (ci := 4) (v := .int (nI (g_3 + 1))) (ty := .int) (C := RX4) (T := TX4) (N := 12) hx hb hts hiX4 tyX4 tyX4_ok nmX4 hown hK hP hD hS 0 rfl rfl 4 (by decide) v_2 (fun _ h9 => h9) rfl (by decide +kernel) rfl rfl (Nat.le_of_ble_eq_true rfl) eX4_scanNumber_75 (fun H locs hP hD hS => ?_)
        have hP : va_P (dC, dI) vwCl (rd__w rd fa fat tp (nI len) (nI (g_3 + 1)) (nI kd) y_25 tka au rw rc rp k_ft ft k_fw fw k_fcn fcn k_fpn fpn) H := hP
        have hD : va_D A (rd__w rd fa fat tp (nI len) (nI (g_3 + 1)) (nI kd) y_25 tka au rw rc rp k_ft ft k_fw fw k_fcn fcn k_fpn fpn) := hD
        refine lv_goto (tgt := 5) hx hb eX4_scanNumber_78 (by decide) ?_
        exact ih_5 (900 - (g_3 + 1)) (by omega) _ _ _ ⟨(g_3 + 1), y_25, rfl, (by omega), hP, hD, hS, lv_sub hl [0] rfl⟩
theorem eX4_advance_0 : decode cX4_advance 0 = .ok (.aload_n 0, 1) := by decide +kernel
theorem eX4_advance_1 : decode cX4_advance 1 = .ok (.getfield 60, 3) := by decide +kernel
theorem eX4_advance_4 : decode cX4_advance 4 = .ok (.aload_n 0, 1) := by decide +kernel
theorem eX4_advance_5 : decode cX4_advance 5 = .ok (.getfield 58, 3) := by decide +kernel
theorem eX4_advance_8 : decode cX4_advance 8 = .ok (.if_icmp .ge 44, 3) := by decide +kernel
theorem eX4_advance_11 : decode cX4_advance 11 = .ok (.aload_n 0, 1) := by decide +kernel
theorem eX4_advance_12 : decode cX4_advance 12 = .ok (.getfield 55, 3) := by decide +kernel
theorem eX4_advance_15 : decode cX4_advance 15 = .ok (.aload_n 0, 1) := by decide +kernel
theorem eX4_advance_16 : decode cX4_advance 16 = .ok (.getfield 60, 3) := by decide +kernel
theorem eX4_advance_19 : decode cX4_advance 19 = .ok (.iaload, 1) := by decide +kernel
theorem eX4_advance_20 : decode cX4_advance 20 = .ok (.bipush 32, 2) := by decide +kernel
theorem eX4_advance_22 : decode cX4_advance 22 = .ok (.if_icmp .eq 17, 3) := by decide +kernel
theorem eX4_advance_25 : decode cX4_advance 25 = .ok (.aload_n 0, 1) := by decide +kernel
theorem eX4_advance_26 : decode cX4_advance 26 = .ok (.getfield 55, 3) := by decide +kernel
theorem eX4_advance_29 : decode cX4_advance 29 = .ok (.aload_n 0, 1) := by decide +kernel
theorem eX4_advance_30 : decode cX4_advance 30 = .ok (.getfield 60, 3) := by decide +kernel
theorem eX4_advance_33 : decode cX4_advance 33 = .ok (.iaload, 1) := by decide +kernel
theorem eX4_advance_34 : decode cX4_advance 34 = .ok (.bipush 10, 2) := by decide +kernel
theorem eX4_advance_36 : decode cX4_advance 36 = .ok (.if_icmp .ne 16, 3) := by decide +kernel
theorem eX4_advance_39 : decode cX4_advance 39 = .ok (.aload_n 0, 1) := by decide +kernel
theorem eX4_advance_40 : decode cX4_advance 40 = .ok (.dup, 1) := by decide +kernel
theorem eX4_advance_41 : decode cX4_advance 41 = .ok (.getfield 60, 3) := by decide +kernel
theorem eX4_advance_44 : decode cX4_advance 44 = .ok (.iconst 1, 1) := by decide +kernel
theorem eX4_advance_45 : decode cX4_advance 45 = .ok (.iadd, 1) := by decide +kernel
theorem eX4_advance_46 : decode cX4_advance 46 = .ok (.putfield 60, 3) := by decide +kernel
theorem eX4_advance_49 : decode cX4_advance 49 = .ok (.goto (-49), 3) := by decide +kernel
theorem eX4_advance_52 : decode cX4_advance 52 = .ok (.aload_n 0, 1) := by decide +kernel
theorem eX4_advance_53 : decode cX4_advance 53 = .ok (.aload_n 0, 1) := by decide +kernel
theorem eX4_advance_54 : decode cX4_advance 54 = .ok (.getfield 60, 3) := by decide +kernel
theorem eX4_advance_57 : decode cX4_advance 57 = .ok (.putfield 118, 3) := by decide +kernel
theorem eX4_advance_60 : decode cX4_advance 60 = .ok (.aload_n 0, 1) := by decide +kernel
theorem eX4_advance_61 : decode cX4_advance 61 = .ok (.getfield 60, 3) := by decide +kernel
theorem eX4_advance_64 : decode cX4_advance 64 = .ok (.aload_n 0, 1) := by decide +kernel
theorem eX4_advance_65 : decode cX4_advance 65 = .ok (.getfield 58, 3) := by decide +kernel
theorem eX4_advance_68 : decode cX4_advance 68 = .ok (.if_icmp .lt 11, 3) := by decide +kernel
theorem eX4_advance_71 : decode cX4_advance 71 = .ok (.aload_n 0, 1) := by decide +kernel
theorem eX4_advance_72 : decode cX4_advance 72 = .ok (.iconst 1, 1) := by decide +kernel
theorem eX4_advance_73 : decode cX4_advance 73 = .ok (.putfield 78, 3) := by decide +kernel
theorem eX4_advance_76 : decode cX4_advance 76 = .ok (.goto 77, 3) := by decide +kernel
theorem eX4_advance_79 : decode cX4_advance 79 = .ok (.aload_n 0, 1) := by decide +kernel
theorem eX4_advance_80 : decode cX4_advance 80 = .ok (.getfield 55, 3) := by decide +kernel
theorem eX4_advance_83 : decode cX4_advance 83 = .ok (.aload_n 0, 1) := by decide +kernel
theorem eX4_advance_84 : decode cX4_advance 84 = .ok (.getfield 60, 3) := by decide +kernel
theorem eX4_advance_87 : decode cX4_advance 87 = .ok (.iaload, 1) := by decide +kernel
theorem eX4_advance_88 : decode cX4_advance 88 = .ok (.bipush 97, 2) := by decide +kernel
theorem eX4_advance_90 : decode cX4_advance 90 = .ok (.if_icmp .lt 24, 3) := by decide +kernel
theorem eX4_advance_93 : decode cX4_advance 93 = .ok (.aload_n 0, 1) := by decide +kernel
theorem eX4_advance_94 : decode cX4_advance 94 = .ok (.getfield 55, 3) := by decide +kernel
theorem eX4_advance_97 : decode cX4_advance 97 = .ok (.aload_n 0, 1) := by decide +kernel
theorem eX4_advance_98 : decode cX4_advance 98 = .ok (.getfield 60, 3) := by decide +kernel
theorem eX4_advance_101 : decode cX4_advance 101 = .ok (.iaload, 1) := by decide +kernel
theorem eX4_advance_102 : decode cX4_advance 102 = .ok (.bipush 122, 2) := by decide +kernel
theorem eX4_advance_104 : decode cX4_advance 104 = .ok (.if_icmp .gt 10, 3) := by decide +kernel
theorem eX4_advance_107 : decode cX4_advance 107 = .ok (.aload_n 0, 1) := by decide +kernel
theorem eX4_advance_108 : decode cX4_advance 108 = .ok (.invokevirtual 170, 3) := by decide +kernel
theorem eX4_advance_111 : decode cX4_advance 111 = .ok (.goto 42, 3) := by decide +kernel
theorem eX4_advance_114 : decode cX4_advance 114 = .ok (.aload_n 0, 1) := by decide +kernel
theorem eX4_advance_115 : decode cX4_advance 115 = .ok (.getfield 55, 3) := by decide +kernel
theorem eX4_advance_118 : decode cX4_advance 118 = .ok (.aload_n 0, 1) := by decide +kernel
theorem eX4_advance_119 : decode cX4_advance 119 = .ok (.getfield 60, 3) := by decide +kernel
theorem eX4_advance_122 : decode cX4_advance 122 = .ok (.iaload, 1) := by decide +kernel
theorem eX4_advance_123 : decode cX4_advance 123 = .ok (.bipush 48, 2) := by decide +kernel
theorem eX4_advance_125 : decode cX4_advance 125 = .ok (.if_icmp .lt 24, 3) := by decide +kernel
theorem eX4_advance_128 : decode cX4_advance 128 = .ok (.aload_n 0, 1) := by decide +kernel
theorem eX4_advance_129 : decode cX4_advance 129 = .ok (.getfield 55, 3) := by decide +kernel
theorem eX4_advance_132 : decode cX4_advance 132 = .ok (.aload_n 0, 1) := by decide +kernel
theorem eX4_advance_133 : decode cX4_advance 133 = .ok (.getfield 60, 3) := by decide +kernel
theorem eX4_advance_136 : decode cX4_advance 136 = .ok (.iaload, 1) := by decide +kernel
theorem eX4_advance_137 : decode cX4_advance 137 = .ok (.bipush 57, 2) := by decide +kernel
theorem eX4_advance_139 : decode cX4_advance 139 = .ok (.if_icmp .gt 10, 3) := by decide +kernel
theorem eX4_advance_142 : decode cX4_advance 142 = .ok (.aload_n 0, 1) := by decide +kernel
theorem eX4_advance_143 : decode cX4_advance 143 = .ok (.invokevirtual 173, 3) := by decide +kernel
theorem eX4_advance_146 : decode cX4_advance 146 = .ok (.goto 7, 3) := by decide +kernel
theorem eX4_advance_149 : decode cX4_advance 149 = .ok (.aload_n 0, 1) := by decide +kernel
theorem eX4_advance_150 : decode cX4_advance 150 = .ok (.invokevirtual 176, 3) := by decide +kernel
theorem eX4_advance_153 : decode cX4_advance 153 = .ok (.return_, 1) := by decide +kernel
abbrev vs_C_4_advance : List Cond := .code yX4_advance cX4_advance 1 none :: CM
theorem g_C_4_advance_C_4_scanSign : GoodIn vs_C_4_advance (wsV RX4 176 RX4 yX4_scanSign vs_C_4_scanSign) := cm_gV cm_245 cm_246 cm_247 cm_232 cm_248
theorem g_C_4_advance_C_4_scanNumber : GoodIn vs_C_4_advance (wsV RX4 173 RX4 yX4_scanNumber vs_C_4_scanNumber) := cm_gV cm_241 cm_242 cm_243 cm_232 cm_244
theorem g_C_4_advance_C_4_scanWord : GoodIn vs_C_4_advance (wsV RX4 170 RX4 yX4_scanWord vs_C_4_scanWord) := cm_gV cm_235 cm_236 cm_237 cm_232 cm_238
set_option maxHeartbeats 4000000 in
set_option maxRecDepth 100000 in
theorem c_C_4_advance (l : Launch) (dC : Nat → ClassId) (dI : Nat → Nat → Nat) (sz : Nat) (rd : Nat) (fa : Int32) (fat : Int32) (tp : Nat) (len : Nat) (pos : Nat) (kd : Nat) (vl : Int32) (tka : Int32) (au : Nat) (rw : Nat) (rc : Nat) (rp : Nat) (k_ft : ClassId) (ft : Nat → Int32) (k_fw : ClassId) (fw : Nat → Int32) (k_fcn : ClassId) (fcn : Nat → Int32) (k_fpn : ClassId) (fpn : Nat → Int32) (hlen : len ≤ 900) (hpos : pos ≤ 900) (hkd : kd ≤ 15) : Met l yX4_advance vs_C_4_advance ({ frames := 1, cells := 0, slots := 0, locals := 21 }) (va_Pc [.ref rd] (pu_B (dC, dI) (rd__w rd fa fat tp (nI len) (nI pos) (nI kd) vl tka au rw rc rp k_ft ft k_fw fw k_fcn fcn k_fpn fpn) (rd__t k_ft k_fw k_fcn k_fpn) sz)) (va_Qv (fun (_ : Unit) => True) (fun _ t => ∃ (z_pos : Nat) (z_kd : Nat) (z_vl : Int32) (z_tka : Int32), pu_E (dC, dI) (rd__w rd fa fat tp (nI len) (nI z_pos) (nI z_kd) z_vl z_tka au rw rc rp k_ft ft k_fw fw k_fcn fcn k_fpn fpn) (rd__t k_ft k_fw k_fcn k_fpn) (va_A ((rd__w rd fa fat tp (nI len) (nI pos) (nI kd) vl tka au rw rc rp k_ft ft k_fw fw k_fcn fcn k_fpn fpn)) sz) t ∧ (z_pos ≤ 900) ∧ (z_kd ≤ 15)) (va_A ((rd__w rd fa fat tp (nI len) (nI pos) (nI kd) vl tka au rw rc rp k_ft ft k_fw fw k_fcn fcn k_fpn fpn)) sz)) 0 0 (va_A ((rd__w rd fa fat tp (nI len) (nI pos) (nI kd) vl tka au rw rc rp k_ft ft k_fw fw k_fcn fcn k_fpn fpn)) sz) := by
  refine Met.ofW (cc := cX4_advance) (maxL := 1) (ret := none) (by decide) rfl ?_
  intro p e s m args below meth c s₁ B hml hv
  obtain ⟨rfl, rfl, hP, hK, hD0⟩ := hv
  have hx := B.exec
  have hb := B.bytes
  have hr := B.returns
  have hts := atoms_spec (ws := vs_C_4_advance) B.pre
  have v_1 := hts (.fieldLink RX4 60 "ClockReach$Reader" "position" "I") (List.mem_cons_of_mem _ cm_218)
  have v_2 := hts (.fieldLink RX4 58 "ClockReach$Reader" "length" "I") (List.mem_cons_of_mem _ cm_217)
  have v_3 := hts (.fieldLink RX4 55 "ClockReach$Reader" "text" "[I") (List.mem_cons_of_mem _ cm_216)
  have v_4 := hts (.fieldLink RX4 118 "ClockReach$Reader" "tokenAt" "I") (List.mem_cons_of_mem _ cm_234)
  have v_18 := hts (.fieldLink RX4 78 "ClockReach$Reader" "kind" "I") (List.mem_cons_of_mem _ cm_222)
  have hown : s.vm.findClass RX4 = some m.cls := findClass_of_methodNamed B.named
  have hlocks := B.notSynchronized
  have hiX4 : ∀ w ∈ wsX40, w ∈ vs_C_4_advance := fun _ h => List.mem_cons_of_mem _ (cm_X4 h)
  have hD := hD0.self (sz := s.heap.size)
  generalize hAe : va_A ((rd__w rd fa fat tp (nI len) (nI pos) (nI kd) vl tka au rw rc rp k_ft ft k_fw fw k_fcn fcn k_fpn fpn)) s.heap.size = A at hD ⊢
  have hA : ∀ q : Nat, s.heap.size ≤ q → A q := fun q h => by rw [← hAe]; exact Or.inr h
  have hS : va_S A s.heap s.heap [] := va_S.rf
  have hl := lv_entry ([.ref rd]) (n := 1) (Nat.le_of_ble_eq_true rfl)
  rw [lg_entry_eq]
  generalize (lg_sl ([.ref rd]) ++ List.replicate (1 - (lg_sl ([.ref rd])).length) Slot.unset).toArray = ls at hl ⊢
  have hl : lv_has ls 1 [(0, .ref rd)] := hl
  refine pu_while (fun nn H locs ls => ∃ (g_2 : Nat), nn = 900 - g_2 ∧ g_2 ≤ 900 ∧ va_P (dC, dI) vwCl (rd__w rd fa fat tp (nI len) (nI g_2) (nI kd) vl tka au rw rc rp k_ft ft k_fw fw k_fcn fcn k_fpn fpn) H ∧ va_D A (rd__w rd fa fat tp (nI len) (nI g_2) (nI kd) vl tka au rw rc rp k_ft ft k_fw fw k_fcn fcn k_fpn fpn) ∧ va_S A s.heap H locs ∧ lv_has ls 1 [(0, .ref rd)]) 0 ?_ _ _ _ _ ⟨pos, rfl, hpos, hP, hD, hS, lv_sub hl [0] rfl⟩
  rintro nn ih_3 H locs ls ⟨g_2, rfl, hg_2, hP, hD, hS, hl⟩
  refine lv_aload_n hx hb eX4_advance_0 rfl (lv_at hl 0 rfl) ?_
  refine va_get (D := (dC, dI)) (ci := 4) (v := .int (nI g_2)) (C := RX4) (T := TX4) (N := 12) hx hb hts hiX4 hown hK hP 0 rfl rfl 4 (by decide) v_1 (fun _ h9 => h9) rfl eX4_advance_1 ?_
  refine lv_aload_n hx hb eX4_advance_4 rfl (lv_at hl 0 rfl) ?_
  refine va_get (D := (dC, dI)) (ci := 4) (v := .int (nI len)) (C := RX4) (T := TX4) (N := 12) hx hb hts hiX4 hown hK hP 0 rfl rfl 3 (by decide) v_2 (fun _ h9 => h9) rfl eX4_advance_5 ?_
  refine pu_join (fun H locs ls st => st = [] ∧ va_P (dC, dI) vwCl (rd__w rd fa fat tp (nI len) (nI g_2) (nI kd) vl tka au rw rc rp k_ft ft k_fw fw k_fcn fcn k_fpn fpn) H ∧ va_D A (rd__w rd fa fat tp (nI len) (nI g_2) (nI kd) vl tka au rw rc rp k_ft ft k_fw fw k_fcn fcn k_fpn fpn) ∧ va_S A s.heap H locs ∧ lv_has ls 1 [(0, .ref rd)]) 52 ?_ (fun j_4 => ?_)
  · rintro H locs ls st ⟨rfl, hP, hD, hS, hl⟩
    refine lv_aload_n hx hb eX4_advance_52 rfl (lv_at hl 0 rfl) ?_
    refine lv_aload_n hx hb eX4_advance_53 rfl (lv_at hl 0 rfl) ?_
    refine va_get (D := (dC, dI)) (ci := 4) (v := .int (nI g_2)) (C := RX4) (T := TX4) (N := 12) hx hb hts hiX4 hown hK hP 0 rfl rfl 4 (by decide) v_1 (fun _ h9 => h9) rfl eX4_advance_54 ?_
    refine va_put (D := (dC, dI)) (ci := 4) (v := .int (nI g_2)) (ty := .int) (C := RX4) (T := TX4) (N := 12) hx hb hts hiX4 tyX4 tyX4_ok nmX4 hown hK hP hD hS 0 rfl rfl 7 (by decide) v_4 (fun _ h9 => h9) rfl (by decide +kernel) rfl rfl (Nat.le_of_ble_eq_true rfl) eX4_advance_57 (fun H locs hP hD hS => ?_)
    have hP : va_P (dC, dI) vwCl (rd__w rd fa fat tp (nI len) (nI g_2) (nI kd) vl (nI g_2) au rw rc rp k_ft ft k_fw fw k_fcn fcn k_fpn fpn) H := hP
    have hD : va_D A (rd__w rd fa fat tp (nI len) (nI g_2) (nI kd) vl (nI g_2) au rw rc rp k_ft ft k_fw fw k_fcn fcn k_fpn fpn) := hD
    refine lv_aload_n hx hb eX4_advance_60 rfl (lv_at hl 0 rfl) ?_
    refine va_get (D := (dC, dI)) (ci := 4) (v := .int (nI g_2)) (C := RX4) (T := TX4) (N := 12) hx hb hts hiX4 hown hK hP 0 rfl rfl 4 (by decide) v_1 (fun _ h9 => h9) rfl eX4_advance_61 ?_
    refine lv_aload_n hx hb eX4_advance_64 rfl (lv_at hl 0 rfl) ?_
    refine va_get (D := (dC, dI)) (ci := 4) (v := .int (nI len)) (C := RX4) (T := TX4) (N := 12) hx hb hts hiX4 hown hK hP 0 rfl rfl 3 (by decide) v_2 (fun _ h9 => h9) rfl eX4_advance_65 ?_
    refine lv_icmp_lt (tgt := 79) hx hb eX4_advance_68 (by decide) (fun c_5 => ?_) (fun c_5 => ?_)
    · have c_5 : g_2 < len := (nI_ltI (a := g_2) (b := len) (Nat.lt_of_le_of_lt hg_2 (Nat.le_of_ble_eq_true rfl)) (Nat.lt_of_le_of_lt hlen (Nat.le_of_ble_eq_true rfl))).mp c_5
      refine lv_aload_n hx hb eX4_advance_79 rfl (lv_at hl 0 rfl) ?_
      refine va_get (D := (dC, dI)) (ci := 4) (v := .ref tp) (C := RX4) (T := TX4) (N := 12) hx hb hts hiX4 hown hK hP 0 rfl rfl 2 (by decide) v_3 (fun _ h9 => h9) rfl eX4_advance_80 ?_
      refine lv_aload_n hx hb eX4_advance_83 rfl (lv_at hl 0 rfl) ?_
      refine va_get (D := (dC, dI)) (ci := 4) (v := .int (nI g_2)) (C := RX4) (T := TX4) (N := 12) hx hb hts hiX4 hown hK hP 0 rfl rfl 4 (by decide) v_1 (fun _ h9 => h9) rfl eX4_advance_84 ?_
      refine va_iald hx hb hK hP 1 0 rfl rfl (vp_in_nI (n := g_2) (by omega) (Nat.le_of_ble_eq_true rfl)) eX4_advance_87 ?_
      refine lv_topi (fun y_6 ey_6 => ?_)
      refine lv_bipush (v := 97) hx hb eX4_advance_88 (by decide) ?_
      refine lv_icmp_lt (tgt := 114) hx hb eX4_advance_90 (by decide) (fun c_7 => ?_) (fun c_7 => ?_)
      · refine lv_aload_n hx hb eX4_advance_114 rfl (lv_at hl 0 rfl) ?_
        refine va_get (D := (dC, dI)) (ci := 4) (v := .ref tp) (C := RX4) (T := TX4) (N := 12) hx hb hts hiX4 hown hK hP 0 rfl rfl 2 (by decide) v_3 (fun _ h9 => h9) rfl eX4_advance_115 ?_
        refine lv_aload_n hx hb eX4_advance_118 rfl (lv_at hl 0 rfl) ?_
        refine va_get (D := (dC, dI)) (ci := 4) (v := .int (nI g_2)) (C := RX4) (T := TX4) (N := 12) hx hb hts hiX4 hown hK hP 0 rfl rfl 4 (by decide) v_1 (fun _ h9 => h9) rfl eX4_advance_119 ?_
        refine va_iald hx hb hK hP 1 0 rfl rfl (vp_in_nI (n := g_2) (by omega) (Nat.le_of_ble_eq_true rfl)) eX4_advance_122 ?_
        refine lv_topi (fun y_8 ey_8 => ?_)
        refine lv_bipush (v := 48) hx hb eX4_advance_123 (by decide) ?_
        refine lv_icmp_lt (tgt := 149) hx hb eX4_advance_125 (by decide) (fun c_9 => ?_) (fun c_9 => ?_)
        · refine lv_aload_n hx hb eX4_advance_149 rfl (lv_at hl 0 rfl) ?_
          have hFc := pu_free hD hS hA
          refine va_callv (va_runV (As := []) (rest := []) ⟨hx, hb, hml, hown, hts⟩ (c_C_4_scanSign l dC dI _ rd fa fat tp len g_2 kd vl (nI g_2) au rw rc rp k_ft ft k_fw fw k_fcn fcn k_fpn fpn hlen (by omega) hkd) (cwV 0 hts g_C_4_advance_C_4_scanSign rfl rfl rfl (by decide +kernel) ⟨Nat.le_of_ble_eq_true rfl, Nat.le_of_ble_eq_true rfl⟩) ⟨pu_bl, va_recv hK hP (ci := 4) (q0 := 0) rfl rfl, pu_in hP hK hD⟩ rfl rfl hl.1 rfl (lv_room (Nat.le_of_ble_eq_true rfl)) eX4_advance_150 ⟨Nat.le_of_ble_eq_true rfl, Nat.le_of_ble_eq_true rfl⟩) hS (fun q _ h => hFc q h) hFc (fun u t H1 locs ht hvm hw hB hz1 hk1 hS => ?_)
          obtain ⟨z_pos_11, z_kd_12, ⟨hP1, -, hD1⟩, hz_pos_11, hz_kd_12⟩ := hB
          rw [ht] at hP1
          have hP := hP1
          have hD := pu_all hFc hD1
          clear hP1 hD1 hFc
          clear hk1 hz1 ht hvm
          generalize H1 = H at hP hS ⊢
          exact W.vret hx hb hr (fun t ht hW => ⟨⟨(), rfl, trivial, ⟨z_pos_11, z_kd_12, vl, (nI g_2), ⟨by rw [ht]; exact hP, va_K.moved hW.alike hK, hD⟩, hz_pos_11, hz_kd_12⟩⟩, hS.F ht⟩) hS.2.2 eX4_advance_153
        · refine lv_aload_n hx hb eX4_advance_128 rfl (lv_at hl 0 rfl) ?_
          refine va_get (D := (dC, dI)) (ci := 4) (v := .ref tp) (C := RX4) (T := TX4) (N := 12) hx hb hts hiX4 hown hK hP 0 rfl rfl 2 (by decide) v_3 (fun _ h9 => h9) rfl eX4_advance_129 ?_
          refine lv_aload_n hx hb eX4_advance_132 rfl (lv_at hl 0 rfl) ?_
          refine va_get (D := (dC, dI)) (ci := 4) (v := .int (nI g_2)) (C := RX4) (T := TX4) (N := 12) hx hb hts hiX4 hown hK hP 0 rfl rfl 4 (by decide) v_1 (fun _ h9 => h9) rfl eX4_advance_133 ?_
          refine va_iald hx hb hK hP 1 0 rfl rfl (vp_in_nI (n := g_2) (by omega) (Nat.le_of_ble_eq_true rfl)) eX4_advance_136 ?_
          refine lv_topi (fun y_13 ey_13 => ?_)
          refine lv_bipush (v := 57) hx hb eX4_advance_137 (by decide) ?_
          refine lv_icmp_gt (tgt := 149) hx hb eX4_advance_139 (by decide) (fun c_14 => ?_) (fun c_14 => ?_)
          · refine lv_aload_n hx hb eX4_advance_149 rfl (lv_at hl 0 rfl) ?_
            have hFc := pu_free hD hS hA
            refine va_callv (va_runV (As := []) (rest := []) ⟨hx, hb, hml, hown, hts⟩ (c_C_4_scanSign l dC dI _ rd fa fat tp len g_2 kd vl (nI g_2) au rw rc rp k_ft ft k_fw fw k_fcn fcn k_fpn fpn hlen (by omega) hkd) (cwV 0 hts g_C_4_advance_C_4_scanSign rfl rfl rfl (by decide +kernel) ⟨Nat.le_of_ble_eq_true rfl, Nat.le_of_ble_eq_true rfl⟩) ⟨pu_bl, va_recv hK hP (ci := 4) (q0 := 0) rfl rfl, pu_in hP hK hD⟩ rfl rfl hl.1 rfl (lv_room (Nat.le_of_ble_eq_true rfl)) eX4_advance_150 ⟨Nat.le_of_ble_eq_true rfl, Nat.le_of_ble_eq_true rfl⟩) hS (fun q _ h => hFc q h) hFc (fun u t H1 locs ht hvm hw hB hz1 hk1 hS => ?_)
            obtain ⟨z_pos_16, z_kd_17, ⟨hP1, -, hD1⟩, hz_pos_16, hz_kd_17⟩ := hB
            rw [ht] at hP1
            have hP := hP1
            have hD := pu_all hFc hD1
            clear hP1 hD1 hFc
            clear hk1 hz1 ht hvm
            generalize H1 = H at hP hS ⊢
            exact W.vret hx hb hr (fun t ht hW => ⟨⟨(), rfl, trivial, ⟨z_pos_16, z_kd_17, vl, (nI g_2), ⟨by rw [ht]; exact hP, va_K.moved hW.alike hK, hD⟩, hz_pos_16, hz_kd_17⟩⟩, hS.F ht⟩) hS.2.2 eX4_advance_153
          · refine lv_aload_n hx hb eX4_advance_142 rfl (lv_at hl 0 rfl) ?_
            have hFc := pu_free hD hS hA
            refine va_callv (va_runV (As := []) (rest := []) ⟨hx, hb, hml, hown, hts⟩ (c_C_4_scanNumber l dC dI _ rd fa fat tp len g_2 kd vl (nI g_2) au rw rc rp k_ft ft k_fw fw k_fcn fcn k_fpn fpn hlen hg_2 hkd) (cwV 0 hts g_C_4_advance_C_4_scanNumber rfl rfl rfl (by decide +kernel) ⟨Nat.le_of_ble_eq_true rfl, Nat.le_of_ble_eq_true rfl⟩) ⟨pu_bl, va_recv hK hP (ci := 4) (q0 := 0) rfl rfl, pu_in hP hK hD⟩ rfl rfl hl.1 rfl (lv_room (Nat.le_of_ble_eq_true rfl)) eX4_advance_143 ⟨Nat.le_of_ble_eq_true rfl, Nat.le_of_ble_eq_true rfl⟩) hS (fun q _ h => hFc q h) hFc (fun u t H1 locs ht hvm hw hB hz1 hk1 hS => ?_)
            obtain ⟨z_pos_19, z_kd_20, z_vl_21, ⟨hP1, -, hD1⟩, hz_pos_19, hz_kd_20⟩ := hB
            rw [ht] at hP1
            have hP := hP1
            have hD := pu_all hFc hD1
            clear hP1 hD1 hFc
            clear hk1 hz1 ht hvm
            generalize H1 = H at hP hS ⊢
            refine lv_goto (tgt := 153) hx hb eX4_advance_146 (by decide) ?_
            exact W.vret hx hb hr (fun t ht hW => ⟨⟨(), rfl, trivial, ⟨z_pos_19, z_kd_20, z_vl_21, (nI g_2), ⟨by rw [ht]; exact hP, va_K.moved hW.alike hK, hD⟩, hz_pos_19, hz_kd_20⟩⟩, hS.F ht⟩) hS.2.2 eX4_advance_153
      · refine lv_aload_n hx hb eX4_advance_93 rfl (lv_at hl 0 rfl) ?_
        refine va_get (D := (dC, dI)) (ci := 4) (v := .ref tp) (C := RX4) (T := TX4) (N := 12) hx hb hts hiX4 hown hK hP 0 rfl rfl 2 (by decide) v_3 (fun _ h9 => h9) rfl eX4_advance_94 ?_
        refine lv_aload_n hx hb eX4_advance_97 rfl (lv_at hl 0 rfl) ?_
        refine va_get (D := (dC, dI)) (ci := 4) (v := .int (nI g_2)) (C := RX4) (T := TX4) (N := 12) hx hb hts hiX4 hown hK hP 0 rfl rfl 4 (by decide) v_1 (fun _ h9 => h9) rfl eX4_advance_98 ?_
        refine va_iald hx hb hK hP 1 0 rfl rfl (vp_in_nI (n := g_2) (by omega) (Nat.le_of_ble_eq_true rfl)) eX4_advance_101 ?_
        refine lv_topi (fun y_22 ey_22 => ?_)
        refine lv_bipush (v := 122) hx hb eX4_advance_102 (by decide) ?_
        refine lv_icmp_gt (tgt := 114) hx hb eX4_advance_104 (by decide) (fun c_23 => ?_) (fun c_23 => ?_)
        · refine lv_aload_n hx hb eX4_advance_114 rfl (lv_at hl 0 rfl) ?_
          refine va_get (D := (dC, dI)) (ci := 4) (v := .ref tp) (C := RX4) (T := TX4) (N := 12) hx hb hts hiX4 hown hK hP 0 rfl rfl 2 (by decide) v_3 (fun _ h9 => h9) rfl eX4_advance_115 ?_
          refine lv_aload_n hx hb eX4_advance_118 rfl (lv_at hl 0 rfl) ?_
          refine va_get (D := (dC, dI)) (ci := 4) (v := .int (nI g_2)) (C := RX4) (T := TX4) (N := 12) hx hb hts hiX4 hown hK hP 0 rfl rfl 4 (by decide) v_1 (fun _ h9 => h9) rfl eX4_advance_119 ?_
          refine va_iald hx hb hK hP 1 0 rfl rfl (vp_in_nI (n := g_2) (by omega) (Nat.le_of_ble_eq_true rfl)) eX4_advance_122 ?_
          refine lv_topi (fun y_24 ey_24 => ?_)
          refine lv_bipush (v := 48) hx hb eX4_advance_123 (by decide) ?_
          refine lv_icmp_lt (tgt := 149) hx hb eX4_advance_125 (by decide) (fun c_25 => ?_) (fun c_25 => ?_)
          · refine lv_aload_n hx hb eX4_advance_149 rfl (lv_at hl 0 rfl) ?_
            have hFc := pu_free hD hS hA
            refine va_callv (va_runV (As := []) (rest := []) ⟨hx, hb, hml, hown, hts⟩ (c_C_4_scanSign l dC dI _ rd fa fat tp len g_2 kd vl (nI g_2) au rw rc rp k_ft ft k_fw fw k_fcn fcn k_fpn fpn hlen (by omega) hkd) (cwV 0 hts g_C_4_advance_C_4_scanSign rfl rfl rfl (by decide +kernel) ⟨Nat.le_of_ble_eq_true rfl, Nat.le_of_ble_eq_true rfl⟩) ⟨pu_bl, va_recv hK hP (ci := 4) (q0 := 0) rfl rfl, pu_in hP hK hD⟩ rfl rfl hl.1 rfl (lv_room (Nat.le_of_ble_eq_true rfl)) eX4_advance_150 ⟨Nat.le_of_ble_eq_true rfl, Nat.le_of_ble_eq_true rfl⟩) hS (fun q _ h => hFc q h) hFc (fun u t H1 locs ht hvm hw hB hz1 hk1 hS => ?_)
            obtain ⟨z_pos_27, z_kd_28, ⟨hP1, -, hD1⟩, hz_pos_27, hz_kd_28⟩ := hB
            rw [ht] at hP1
            have hP := hP1
            have hD := pu_all hFc hD1
            clear hP1 hD1 hFc
            clear hk1 hz1 ht hvm
            generalize H1 = H at hP hS ⊢
            exact W.vret hx hb hr (fun t ht hW => ⟨⟨(), rfl, trivial, ⟨z_pos_27, z_kd_28, vl, (nI g_2), ⟨by rw [ht]; exact hP, va_K.moved hW.alike hK, hD⟩, hz_pos_27, hz_kd_28⟩⟩, hS.F ht⟩) hS.2.2 eX4_advance_153
          · refine lv_aload_n hx hb eX4_advance_128 rfl (lv_at hl 0 rfl) ?_
            refine va_get (D := (dC, dI)) (ci := 4) (v := .ref tp) (C := RX4) (T := TX4) (N := 12) hx hb hts hiX4 hown hK hP 0 rfl rfl 2 (by decide) v_3 (fun _ h9 => h9) rfl eX4_advance_129 ?_
            refine lv_aload_n hx hb eX4_advance_132 rfl (lv_at hl 0 rfl) ?_
            refine va_get (D := (dC, dI)) (ci := 4) (v := .int (nI g_2)) (C := RX4) (T := TX4) (N := 12) hx hb hts hiX4 hown hK hP 0 rfl rfl 4 (by decide) v_1 (fun _ h9 => h9) rfl eX4_advance_133 ?_
            refine va_iald hx hb hK hP 1 0 rfl rfl (vp_in_nI (n := g_2) (by omega) (Nat.le_of_ble_eq_true rfl)) eX4_advance_136 ?_
            refine lv_topi (fun y_29 ey_29 => ?_)
            refine lv_bipush (v := 57) hx hb eX4_advance_137 (by decide) ?_
            refine lv_icmp_gt (tgt := 149) hx hb eX4_advance_139 (by decide) (fun c_30 => ?_) (fun c_30 => ?_)
            · refine lv_aload_n hx hb eX4_advance_149 rfl (lv_at hl 0 rfl) ?_
              have hFc := pu_free hD hS hA
              refine va_callv (va_runV (As := []) (rest := []) ⟨hx, hb, hml, hown, hts⟩ (c_C_4_scanSign l dC dI _ rd fa fat tp len g_2 kd vl (nI g_2) au rw rc rp k_ft ft k_fw fw k_fcn fcn k_fpn fpn hlen (by omega) hkd) (cwV 0 hts g_C_4_advance_C_4_scanSign rfl rfl rfl (by decide +kernel) ⟨Nat.le_of_ble_eq_true rfl, Nat.le_of_ble_eq_true rfl⟩) ⟨pu_bl, va_recv hK hP (ci := 4) (q0 := 0) rfl rfl, pu_in hP hK hD⟩ rfl rfl hl.1 rfl (lv_room (Nat.le_of_ble_eq_true rfl)) eX4_advance_150 ⟨Nat.le_of_ble_eq_true rfl, Nat.le_of_ble_eq_true rfl⟩) hS (fun q _ h => hFc q h) hFc (fun u t H1 locs ht hvm hw hB hz1 hk1 hS => ?_)
              obtain ⟨z_pos_32, z_kd_33, ⟨hP1, -, hD1⟩, hz_pos_32, hz_kd_33⟩ := hB
              rw [ht] at hP1
              have hP := hP1
              have hD := pu_all hFc hD1
              clear hP1 hD1 hFc
              clear hk1 hz1 ht hvm
              generalize H1 = H at hP hS ⊢
              exact W.vret hx hb hr (fun t ht hW => ⟨⟨(), rfl, trivial, ⟨z_pos_32, z_kd_33, vl, (nI g_2), ⟨by rw [ht]; exact hP, va_K.moved hW.alike hK, hD⟩, hz_pos_32, hz_kd_33⟩⟩, hS.F ht⟩) hS.2.2 eX4_advance_153
            · refine lv_aload_n hx hb eX4_advance_142 rfl (lv_at hl 0 rfl) ?_
              have hFc := pu_free hD hS hA
              refine va_callv (va_runV (As := []) (rest := []) ⟨hx, hb, hml, hown, hts⟩ (c_C_4_scanNumber l dC dI _ rd fa fat tp len g_2 kd vl (nI g_2) au rw rc rp k_ft ft k_fw fw k_fcn fcn k_fpn fpn hlen hg_2 hkd) (cwV 0 hts g_C_4_advance_C_4_scanNumber rfl rfl rfl (by decide +kernel) ⟨Nat.le_of_ble_eq_true rfl, Nat.le_of_ble_eq_true rfl⟩) ⟨pu_bl, va_recv hK hP (ci := 4) (q0 := 0) rfl rfl, pu_in hP hK hD⟩ rfl rfl hl.1 rfl (lv_room (Nat.le_of_ble_eq_true rfl)) eX4_advance_143 ⟨Nat.le_of_ble_eq_true rfl, Nat.le_of_ble_eq_true rfl⟩) hS (fun q _ h => hFc q h) hFc (fun u t H1 locs ht hvm hw hB hz1 hk1 hS => ?_)
              obtain ⟨z_pos_35, z_kd_36, z_vl_37, ⟨hP1, -, hD1⟩, hz_pos_35, hz_kd_36⟩ := hB
              rw [ht] at hP1
              have hP := hP1
              have hD := pu_all hFc hD1
              clear hP1 hD1 hFc
              clear hk1 hz1 ht hvm
              generalize H1 = H at hP hS ⊢
              refine lv_goto (tgt := 153) hx hb eX4_advance_146 (by decide) ?_
              exact W.vret hx hb hr (fun t ht hW => ⟨⟨(), rfl, trivial, ⟨z_pos_35, z_kd_36, z_vl_37, (nI g_2), ⟨by rw [ht]; exact hP, va_K.moved hW.alike hK, hD⟩, hz_pos_35, hz_kd_36⟩⟩, hS.F ht⟩) hS.2.2 eX4_advance_153
        · refine lv_aload_n hx hb eX4_advance_107 rfl (lv_at hl 0 rfl) ?_
          have hFc := pu_free hD hS hA
          refine va_callv (va_runV (As := []) (rest := []) ⟨hx, hb, hml, hown, hts⟩ (c_C_4_scanWord l dC dI _ rd fa fat tp len g_2 kd vl (nI g_2) au rw rc rp k_ft ft k_fw fw k_fcn fcn k_fpn fpn hlen hg_2 hkd) (cwV 0 hts g_C_4_advance_C_4_scanWord rfl rfl rfl (by decide +kernel) ⟨Nat.le_of_ble_eq_true rfl, Nat.le_of_ble_eq_true rfl⟩) ⟨pu_bl, va_recv hK hP (ci := 4) (q0 := 0) rfl rfl, pu_in hP hK hD⟩ rfl rfl hl.1 rfl (lv_room (Nat.le_of_ble_eq_true rfl)) eX4_advance_108 ⟨Nat.le_of_ble_eq_true rfl, Nat.le_of_ble_eq_true rfl⟩) hS (fun q _ h => hFc q h) hFc (fun u t H1 locs ht hvm hw hB hz1 hk1 hS => ?_)
          obtain ⟨z_pos_39, z_kd_40, z_vl_41, ⟨hP1, -, hD1⟩, hz_pos_39, hz_kd_40⟩ := hB
          rw [ht] at hP1
          have hP := hP1
          have hD := pu_all hFc hD1
          clear hP1 hD1 hFc
          clear hk1 hz1 ht hvm
          generalize H1 = H at hP hS ⊢
          refine lv_goto (tgt := 153) hx hb eX4_advance_111 (by decide) ?_
          exact W.vret hx hb hr (fun t ht hW => ⟨⟨(), rfl, trivial, ⟨z_pos_39, z_kd_40, z_vl_41, (nI g_2), ⟨by rw [ht]; exact hP, va_K.moved hW.alike hK, hD⟩, hz_pos_39, hz_kd_40⟩⟩, hS.F ht⟩) hS.2.2 eX4_advance_153
    · have c_5 : ¬ g_2 < len := fun z => c_5 ((nI_ltI (a := g_2) (b := len) (Nat.lt_of_le_of_lt hg_2 (Nat.le_of_ble_eq_true rfl)) (Nat.lt_of_le_of_lt hlen (Nat.le_of_ble_eq_true rfl))).mpr z)
      refine lv_aload_n hx hb eX4_advance_71 rfl (lv_at hl 0 rfl) ?_
      refine lv_iconst (v := 1) hx hb eX4_advance_72 (by decide) ?_
      refine va_put (D := (dC, dI)) (ci := 4) (v := .int 1) (ty := .int) (C := RX4) (T := TX4) (N := 12) hx hb hts hiX4 tyX4 tyX4_ok nmX4 hown hK hP hD hS 0 rfl rfl 5 (by decide) v_18 (fun _ h9 => h9) rfl (by decide +kernel) rfl rfl (Nat.le_of_ble_eq_true rfl) eX4_advance_73 (fun H locs hP hD hS => ?_)
      have hP : va_P (dC, dI) vwCl (rd__w rd fa fat tp (nI len) (nI g_2) 1 vl (nI g_2) au rw rc rp k_ft ft k_fw fw k_fcn fcn k_fpn fpn) H := hP
      have hD : va_D A (rd__w rd fa fat tp (nI len) (nI g_2) 1 vl (nI g_2) au rw rc rp k_ft ft k_fw fw k_fcn fcn k_fpn fpn) := hD
      refine lv_goto (tgt := 153) hx hb eX4_advance_76 (by decide) ?_
      exact W.vret hx hb hr (fun t ht hW => ⟨⟨(), rfl, trivial, ⟨g_2, 1, vl, (nI g_2), ⟨by rw [ht]; exact hP, va_K.moved hW.alike hK, hD⟩, hg_2, (Nat.le_of_ble_eq_true rfl)⟩⟩, hS.F ht⟩) hS.2.2 eX4_advance_153
  refine lv_icmp_ge (tgt := 52) hx hb eX4_advance_8 (by decide) (fun c_42 => ?_) (fun c_42 => ?_)
  · have c_42 : len ≤ g_2 := (nI_leI (a := len) (b := g_2) (Nat.lt_of_le_of_lt hlen (Nat.le_of_ble_eq_true rfl)) (Nat.lt_of_le_of_lt hg_2 (Nat.le_of_ble_eq_true rfl))).mp c_42
    exact j_4 _ _ _ _ ⟨rfl, hP, hD, hS, lv_sub hl [0] rfl⟩
  · have c_42 : ¬ len ≤ g_2 := fun z => c_42 ((nI_leI (a := len) (b := g_2) (Nat.lt_of_le_of_lt hlen (Nat.le_of_ble_eq_true rfl)) (Nat.lt_of_le_of_lt hg_2 (Nat.le_of_ble_eq_true rfl))).mpr z)
    refine lv_aload_n hx hb eX4_advance_11 rfl (lv_at hl 0 rfl) ?_
    refine va_get (D := (dC, dI)) (ci := 4) (v := .ref tp) (C := RX4) (T := TX4) (N := 12) hx hb hts hiX4 hown hK hP 0 rfl rfl 2 (by decide) v_3 (fun _ h9 => h9) rfl eX4_advance_12 ?_
    refine lv_aload_n hx hb eX4_advance_15 rfl (lv_at hl 0 rfl) ?_
    refine va_get (D := (dC, dI)) (ci := 4) (v := .int (nI g_2)) (C := RX4) (T := TX4) (N := 12) hx hb hts hiX4 hown hK hP 0 rfl rfl 4 (by decide) v_1 (fun _ h9 => h9) rfl eX4_advance_16 ?_
    refine va_iald hx hb hK hP 1 0 rfl rfl (vp_in_nI (n := g_2) (by omega) (Nat.le_of_ble_eq_true rfl)) eX4_advance_19 ?_
    refine lv_topi (fun y_43 ey_43 => ?_)
    refine lv_bipush (v := 32) hx hb eX4_advance_20 (by decide) ?_
    refine lv_icmp_eq (tgt := 39) hx hb eX4_advance_22 (by decide) (fun c_44 => ?_) (fun c_44 => ?_)
    · refine lv_aload_n hx hb eX4_advance_39 rfl (lv_at hl 0 rfl) ?_
      refine lv_dup hx hb eX4_advance_40 rfl ?_
      refine va_get (D := (dC, dI)) (ci := 4) (v := .int (nI g_2)) (C := RX4) (T := TX4) (N := 12) hx hb hts hiX4 hown hK hP 0 rfl rfl 4 (by decide) v_1 (fun _ h9 => h9) rfl eX4_advance_41 ?_
      refine lv_iconst (v := 1) hx hb eX4_advance_44 (by decide) ?_
      refine lv_iadd hx hb eX4_advance_45 ?_
      refine lv_topi (fun y_45 ey_45 => ?_)
      obtain rfl : y_45 = (nI (g_2 + 1)) := ey_45.trans (nI_add g_2 1)
      refine va_put (D := (dC, dI)) (ci := 4) (v := .int (nI (g_2 + 1))) (ty := .int) (C := RX4) (T := TX4) (N := 12) hx hb hts hiX4 tyX4 tyX4_ok nmX4 hown hK hP hD hS 0 rfl rfl 4 (by decide) v_1 (fun _ h9 => h9) rfl (by decide +kernel) rfl rfl (Nat.le_of_ble_eq_true rfl) eX4_advance_46 (fun H locs hP hD hS => ?_)
      have hP : va_P (dC, dI) vwCl (rd__w rd fa fat tp (nI len) (nI (g_2 + 1)) (nI kd) vl tka au rw rc rp k_ft ft k_fw fw k_fcn fcn k_fpn fpn) H := hP
      have hD : va_D A (rd__w rd fa fat tp (nI len) (nI (g_2 + 1)) (nI kd) vl tka au rw rc rp k_ft ft k_fw fw k_fcn fcn k_fpn fpn) := hD
      refine lv_goto (tgt := 0) hx hb eX4_advance_49 (by decide) ?_
      exact ih_3 (900 - (g_2 + 1)) (by omega) _ _ _ ⟨(g_2 + 1), rfl, (by omega), hP, hD, hS, lv_sub hl [0] rfl⟩
    · refine lv_aload_n hx hb eX4_advance_25 rfl (lv_at hl 0 rfl) ?_
      refine va_get (D := (dC, dI)) (ci := 4) (v := .ref tp) (C := RX4) (T := TX4) (N := 12) hx hb hts hiX4 hown hK hP 0 rfl rfl 2 (by decide) v_3 (fun _ h9 => h9) rfl eX4_advance_26 ?_
      refine lv_aload_n hx hb eX4_advance_29 rfl (lv_at hl 0 rfl) ?_
      refine va_get (D := (dC, dI)) (ci := 4) (v := .int (nI g_2)) (C := RX4) (T := TX4) (N := 12) hx hb hts hiX4 hown hK hP 0 rfl rfl 4 (by decide) v_1 (fun _ h9 => h9) rfl eX4_advance_30 ?_
      refine va_iald hx hb hK hP 1 0 rfl rfl (vp_in_nI (n := g_2) (by omega) (Nat.le_of_ble_eq_true rfl)) eX4_advance_33 ?_
      refine lv_topi (fun y_46 ey_46 => ?_)
      refine lv_bipush (v := 10) hx hb eX4_advance_34 (by decide) ?_
      refine lv_icmp_ne (tgt := 52) hx hb eX4_advance_36 (by decide) (fun c_47 => ?_) (fun c_47 => ?_)
      · exact j_4 _ _ _ _ ⟨rfl, hP, hD, hS, lv_sub hl [0] rfl⟩
      · refine lv_aload_n hx hb eX4_advance_39 rfl (lv_at hl 0 rfl) ?_
        refine lv_dup hx hb eX4_advance_40 rfl ?_
        refine va_get (D := (dC, dI)) (ci := 4) (v := .int (nI g_2)) (C := RX4) (T := TX4) (N := 12) hx hb hts hiX4 hown hK hP 0 rfl rfl 4 (by decide) v_1 (fun _ h9 => h9) rfl eX4_advance_41 ?_
        refine lv_iconst (v := 1) hx hb eX4_advance_44 (by decide) ?_
        refine lv_iadd hx hb eX4_advance_45 ?_
        refine lv_topi (fun y_48 ey_48 => ?_)
        obtain rfl : y_48 = (nI (g_2 + 1)) := ey_48.trans (nI_add g_2 1)
        refine va_put (D := (dC, dI)) (ci := 4) (v := .int (nI (g_2 + 1))) (ty := .int) (C := RX4) (T := TX4) (N := 12) hx hb hts hiX4 tyX4 tyX4_ok nmX4 hown hK hP hD hS 0 rfl rfl 4 (by decide) v_1 (fun _ h9 => h9) rfl (by decide +kernel) rfl rfl (Nat.le_of_ble_eq_true rfl) eX4_advance_46 (fun H locs hP hD hS => ?_)
        have hP : va_P (dC, dI) vwCl (rd__w rd fa fat tp (nI len) (nI (g_2 + 1)) (nI kd) vl tka au rw rc rp k_ft ft k_fw fw k_fcn fcn k_fpn fpn) H := hP
        have hD : va_D A (rd__w rd fa fat tp (nI len) (nI (g_2 + 1)) (nI kd) vl tka au rw rc rp k_ft ft k_fw fw k_fcn fcn k_fpn fpn) := hD
        refine lv_goto (tgt := 0) hx hb eX4_advance_49 (by decide) ?_
        exact ih_3 (900 - (g_2 + 1)) (by omega) _ _ _ ⟨(g_2 + 1), rfl, (by omega), hP, hD, hS, lv_sub hl [0] rfl⟩
theorem eX4_readsStop_0 : decode cX4_readsStop 0 = .ok (.aload_n 0, 1) := by decide +kernel
theorem eX4_readsStop_1 : decode cX4_readsStop 1 = .ok (.getfield 78, 3) := by decide +kernel
theorem eX4_readsStop_4 : decode cX4_readsStop 4 = .ok (.bipush 7, 2) := by decide +kernel
theorem eX4_readsStop_6 : decode cX4_readsStop 6 = .ok (.if_icmp .eq 8, 3) := by decide +kernel
theorem eX4_readsStop_9 : decode cX4_readsStop 9 = .ok (.aload_n 0, 1) := by decide +kernel
theorem eX4_readsStop_10 : decode cX4_readsStop 10 = .ok (.invokevirtual 94, 3) := by decide +kernel
theorem eX4_readsStop_13 : decode cX4_readsStop 13 = .ok (.ireturn, 1) := by decide +kernel
theorem eX4_readsStop_14 : decode cX4_readsStop 14 = .ok (.aload_n 0, 1) := by decide +kernel
theorem eX4_readsStop_15 : decode cX4_readsStop 15 = .ok (.invokevirtual 75, 3) := by decide +kernel
theorem eX4_readsStop_18 : decode cX4_readsStop 18 = .ok (.iconst 1, 1) := by decide +kernel
theorem eX4_readsStop_19 : decode cX4_readsStop 19 = .ok (.ireturn, 1) := by decide +kernel
abbrev vs_C_4_readsStop : List Cond := .code yX4_readsStop cX4_readsStop 1 (some .boolean) :: CM
theorem g_C_4_readsStop_C_4_advance : GoodIn vs_C_4_readsStop (wsV RX4 75 RX4 yX4_advance vs_C_4_advance) := cm_gV cm_229 cm_230 cm_231 cm_232 cm_233
theorem g_C_4_readsStop_C_4_refuseToken : GoodIn vs_C_4_readsStop (wsV RX4 94 RX4 yX4_refuseToken vs_C_4_refuseToken) := cm_gV cm_264 cm_265 cm_266 cm_232 cm_267
set_option maxHeartbeats 4000000 in
set_option maxRecDepth 100000 in
theorem c_C_4_readsStop (l : Launch) (dC : Nat → ClassId) (dI : Nat → Nat → Nat) (sz : Nat) (rd : Nat) (fa : Int32) (fat : Int32) (tp : Nat) (len : Nat) (pos : Nat) (kd : Nat) (vl : Int32) (tka : Int32) (au : Nat) (rw : Nat) (rc : Nat) (rp : Nat) (k_ft : ClassId) (ft : Nat → Int32) (k_fw : ClassId) (fw : Nat → Int32) (k_fcn : ClassId) (fcn : Nat → Int32) (k_fpn : ClassId) (fpn : Nat → Int32) (hlen : len ≤ 900) (hpos : pos ≤ 900) (hkd : kd ≤ 15) : Met l yX4_readsStop vs_C_4_readsStop ({ frames := 2, cells := 0, slots := 0, locals := 41 }) (va_Pc [.ref rd] (pu_B (dC, dI) (rd__w rd fa fat tp (nI len) (nI pos) (nI kd) vl tka au rw rc rp k_ft ft k_fw fw k_fcn fcn k_fpn fpn) (rd__t k_ft k_fw k_fcn k_fpn) sz)) (va_Qi (fun (r : Int32) (_ : Unit) => ∃ v : Nat, v ≤ 1 ∧ r = nI v) (fun _ t => ∃ (z_fa : Int32) (z_fat : Int32) (z_pos : Nat) (z_kd : Nat) (z_vl : Int32) (z_tka : Int32), pu_E (dC, dI) (rd__w rd z_fa z_fat tp (nI len) (nI z_pos) (nI z_kd) z_vl z_tka au rw rc rp k_ft ft k_fw fw k_fcn fcn k_fpn fpn) (rd__t k_ft k_fw k_fcn k_fpn) (va_A ((rd__w rd fa fat tp (nI len) (nI pos) (nI kd) vl tka au rw rc rp k_ft ft k_fw fw k_fcn fcn k_fpn fpn)) sz) t ∧ (z_pos ≤ 900) ∧ (z_kd ≤ 15)) (va_A ((rd__w rd fa fat tp (nI len) (nI pos) (nI kd) vl tka au rw rc rp k_ft ft k_fw fw k_fcn fcn k_fpn fpn)) sz)) 0 0 (va_A ((rd__w rd fa fat tp (nI len) (nI pos) (nI kd) vl tka au rw rc rp k_ft ft k_fw fw k_fcn fcn k_fpn fpn)) sz) := by
  refine Met.ofW (cc := cX4_readsStop) (maxL := 1) (ret := (some .boolean)) (by decide) rfl ?_
  intro p e s m args below meth c s₁ B hml hv
  obtain ⟨rfl, rfl, hP, hK, hD0⟩ := hv
  have hx := B.exec
  have hb := B.bytes
  have hr := B.returns
  have hts := atoms_spec (ws := vs_C_4_readsStop) B.pre
  have v_1 := hts (.fieldLink RX4 78 "ClockReach$Reader" "kind" "I") (List.mem_cons_of_mem _ cm_222)
  have hown : s.vm.findClass RX4 = some m.cls := findClass_of_methodNamed B.named
  have hlocks := B.notSynchronized
  have hiX4 : ∀ w ∈ wsX40, w ∈ vs_C_4_readsStop := fun _ h => List.mem_cons_of_mem _ (cm_X4 h)
  have hD := hD0.self (sz := s.heap.size)
  generalize hAe : va_A ((rd__w rd fa fat tp (nI len) (nI pos) (nI kd) vl tka au rw rc rp k_ft ft k_fw fw k_fcn fcn k_fpn fpn)) s.heap.size = A at hD ⊢
  have hA : ∀ q : Nat, s.heap.size ≤ q → A q := fun q h => by rw [← hAe]; exact Or.inr h
  have hS : va_S A s.heap s.heap [] := va_S.rf
  have hl := lv_entry ([.ref rd]) (n := 1) (Nat.le_of_ble_eq_true rfl)
  rw [lg_entry_eq]
  generalize (lg_sl ([.ref rd]) ++ List.replicate (1 - (lg_sl ([.ref rd])).length) Slot.unset).toArray = ls at hl ⊢
  have hl : lv_has ls 1 [(0, .ref rd)] := hl
  refine lv_aload_n hx hb eX4_readsStop_0 rfl (lv_at hl 0 rfl) ?_
  refine va_get (D := (dC, dI)) (ci := 4) (v := .int (nI kd)) (C := RX4) (T := TX4) (N := 12) hx hb hts hiX4 hown hK hP 0 rfl rfl 5 (by decide) v_1 (fun _ h9 => h9) rfl eX4_readsStop_1 ?_
  refine lv_bipush (v := 7) hx hb eX4_readsStop_4 (by decide) ?_
  refine lv_icmp_eq (tgt := 14) hx hb eX4_readsStop_6 (by decide) (fun c_1 => ?_) (fun c_1 => ?_)
  · have c_1 : kd = 7 := (nI_eq (a := kd) (b := 7) (Nat.lt_of_le_of_lt hkd (Nat.le_of_ble_eq_true rfl)) (Nat.le_of_ble_eq_true rfl)).mp c_1
    refine lv_aload_n hx hb eX4_readsStop_14 rfl (lv_at hl 0 rfl) ?_
    have hFc := pu_free hD hS hA
    refine va_callv (va_runV (As := []) (rest := []) ⟨hx, hb, hml, hown, hts⟩ (c_C_4_advance l dC dI _ rd fa fat tp len pos kd vl tka au rw rc rp k_ft ft k_fw fw k_fcn fcn k_fpn fpn hlen hpos hkd) (cwV 0 hts g_C_4_readsStop_C_4_advance rfl rfl rfl (by decide +kernel) ⟨Nat.le_of_ble_eq_true rfl, Nat.le_of_ble_eq_true rfl⟩) ⟨pu_bl, va_recv hK hP (ci := 4) (q0 := 0) rfl rfl, pu_in hP hK hD⟩ rfl rfl hl.1 rfl (lv_room (Nat.le_of_ble_eq_true rfl)) eX4_readsStop_15 ⟨Nat.le_of_ble_eq_true rfl, Nat.le_of_ble_eq_true rfl⟩) hS (fun q _ h => hFc q h) hFc (fun u t H1 locs ht hvm hw hB hz1 hk1 hS => ?_)
    obtain ⟨z_pos_3, z_kd_4, z_vl_5, z_tka_6, ⟨hP1, -, hD1⟩, hz_pos_3, hz_kd_4⟩ := hB
    rw [ht] at hP1
    have hP := hP1
    have hD := pu_all hFc hD1
    clear hP1 hD1 hFc
    clear hk1 hz1 ht hvm
    generalize H1 = H at hP hS ⊢
    refine lv_iconst (v := 1) hx hb eX4_readsStop_18 (by decide) ?_
    exact W.zret (v := 1) (ty := .boolean) hx hb hr (rfl) (fun t ht hW => ⟨⟨1, (), rfl, ⟨1, (Nat.le_of_ble_eq_true rfl), rfl⟩, ⟨fa, fat, z_pos_3, z_kd_4, z_vl_5, z_tka_6, ⟨by rw [ht]; exact hP, va_K.moved hW.alike hK, hD⟩, hz_pos_3, hz_kd_4⟩⟩, hS.F ht⟩) hS.2.2 eX4_readsStop_19
  · have c_1 : ¬ kd = 7 := fun z => c_1 ((nI_eq (a := kd) (b := 7) (Nat.lt_of_le_of_lt hkd (Nat.le_of_ble_eq_true rfl)) (Nat.le_of_ble_eq_true rfl)).mpr z)
    refine lv_aload_n hx hb eX4_readsStop_9 rfl (lv_at hl 0 rfl) ?_
    have hFc := pu_free hD hS hA
    refine va_calli (va_runV (As := []) (rest := []) ⟨hx, hb, hml, hown, hts⟩ (c_C_4_refuseToken l dC dI _ rd fa fat tp len pos kd vl tka au rw rc rp k_ft ft k_fw fw k_fcn fcn k_fpn fpn hlen hpos hkd) (cwV 0 hts g_C_4_readsStop_C_4_refuseToken rfl rfl rfl (by decide +kernel) ⟨Nat.le_of_ble_eq_true rfl, Nat.le_of_ble_eq_true rfl⟩) ⟨pu_bl, va_recv hK hP (ci := 4) (q0 := 0) rfl rfl, pu_in hP hK hD⟩ rfl rfl hl.1 rfl (lv_room (Nat.le_of_ble_eq_true rfl)) eX4_readsStop_10 ⟨Nat.le_of_ble_eq_true rfl, Nat.le_of_ble_eq_true rfl⟩) hS (fun q _ h => hFc q h) hFc (fun r_7 u t H1 locs ht hvm hw hB hz1 hk1 hS => ?_)
    obtain ⟨z_fa_8, z_fat_9, ⟨hP1, -, hD1⟩⟩ := hB
    rw [ht] at hP1
    have hP := hP1
    have hD := pu_all hFc hD1
    clear hP1 hD1 hFc
    clear hk1 hz1 ht hvm
    generalize H1 = H at hP hS ⊢
    obtain rfl : r_7 = 0 := hw
    exact W.zret (v := 0) (ty := .boolean) hx hb hr (rfl) (fun t ht hW => ⟨⟨0, (), rfl, ⟨0, (Nat.le_of_ble_eq_true rfl), rfl⟩, ⟨z_fa_8, z_fat_9, pos, kd, vl, tka, ⟨by rw [ht]; exact hP, va_K.moved hW.alike hK, hD⟩, hpos, hkd⟩⟩, hS.F ht⟩) hS.2.2 eX4_readsStop_13
theorem eX4_indexOf_0 : decode cX4_indexOf 0 = .ok (.iconst 0, 1) := by decide +kernel
theorem eX4_indexOf_1 : decode cX4_indexOf 1 = .ok (.istore_n 3, 1) := by decide +kernel
theorem eX4_indexOf_2 : decode cX4_indexOf 2 = .ok (.iload_n 3, 1) := by decide +kernel
theorem eX4_indexOf_3 : decode cX4_indexOf 3 = .ok (.iload_n 2, 1) := by decide +kernel
theorem eX4_indexOf_4 : decode cX4_indexOf 4 = .ok (.if_icmp .ge 21, 3) := by decide +kernel
theorem eX4_indexOf_7 : decode cX4_indexOf 7 = .ok (.aload_n 1, 1) := by decide +kernel
theorem eX4_indexOf_8 : decode cX4_indexOf 8 = .ok (.iload_n 3, 1) := by decide +kernel
theorem eX4_indexOf_9 : decode cX4_indexOf 9 = .ok (.iaload, 1) := by decide +kernel
theorem eX4_indexOf_10 : decode cX4_indexOf 10 = .ok (.aload_n 0, 1) := by decide +kernel
theorem eX4_indexOf_11 : decode cX4_indexOf 11 = .ok (.getfield 127, 3) := by decide +kernel
theorem eX4_indexOf_14 : decode cX4_indexOf 14 = .ok (.if_icmp .ne 5, 3) := by decide +kernel
theorem eX4_indexOf_17 : decode cX4_indexOf 17 = .ok (.iload_n 3, 1) := by decide +kernel
theorem eX4_indexOf_18 : decode cX4_indexOf 18 = .ok (.ireturn, 1) := by decide +kernel
theorem eX4_indexOf_19 : decode cX4_indexOf 19 = .ok (.iinc 3 1, 3) := by decide +kernel
theorem eX4_indexOf_22 : decode cX4_indexOf 22 = .ok (.goto (-20), 3) := by decide +kernel
theorem eX4_indexOf_25 : decode cX4_indexOf 25 = .ok (.iconst (-1), 1) := by decide +kernel
theorem eX4_indexOf_26 : decode cX4_indexOf 26 = .ok (.ireturn, 1) := by decide +kernel
abbrev vs_C_4_indexOf_c : List Cond := .code yX4_indexOf cX4_indexOf 4 (some .int) :: CM
set_option maxHeartbeats 4000000 in
set_option maxRecDepth 100000 in
theorem c_C_4_indexOf_c (l : Launch) (dC : Nat → ClassId) (dI : Nat → Nat → Nat) (sz : Nat) (rd : Nat) (fa : Int32) (fat : Int32) (tp : Nat) (len : Nat) (pos : Nat) (kd : Nat) (vl : Int32) (tka : Int32) (au : Nat) (rw : Nat) (rc : Nat) (rp : Nat) (k_ft : ClassId) (ft : Nat → Int32) (k_fw : ClassId) (fw : Nat → Int32) (k_fcn : ClassId) (fcn : Nat → Int32) (k_fpn : ClassId) (fpn : Nat → Int32) (a1 : Nat) (hlen : len ≤ 900) (hpos : pos ≤ 900) (hkd : kd ≤ 15) (ha1 : a1 ≤ 3) : Met l yX4_indexOf vs_C_4_indexOf_c ({ frames := 0, cells := 0, slots := 0, locals := 0 }) (va_Pc [.ref rd, .ref rc, .int (nI a1)] (pu_B (dC, dI) (rd__w rd fa fat tp (nI len) (nI pos) (nI kd) vl tka au rw rc rp k_ft ft k_fw fw k_fcn fcn k_fpn fpn) (rd__t k_ft k_fw k_fcn k_fpn) sz)) (va_Qi (fun (r : Int32) (_ : Unit) => r = -1 ∨ ∃ v : Nat, v ≤ 2 ∧ r = nI v) (fun _ _ => True) (va_A [] sz)) 0 0 (va_A [] sz) := by
  refine Met.ofW (cc := cX4_indexOf) (maxL := 4) (ret := (some .int)) (by decide) rfl ?_
  intro p e s m args below meth c s₁ B hml hv
  obtain ⟨rfl, rfl, hP, hK, hD0⟩ := hv
  have hx := B.exec
  have hb := B.bytes
  have hr := B.returns
  have hts := atoms_spec (ws := vs_C_4_indexOf_c) B.pre
  have v_1 := hts (.fieldLink RX4 127 "ClockReach$Reader" "value" "I") (List.mem_cons_of_mem _ cm_239)
  have hown : s.vm.findClass RX4 = some m.cls := findClass_of_methodNamed B.named
  have hlocks := B.notSynchronized
  have hiX4 : ∀ w ∈ wsX40, w ∈ vs_C_4_indexOf_c := fun _ h => List.mem_cons_of_mem _ (cm_X4 h)
  have hD := hD0
  have hA : ∀ q : Nat, s.heap.size ≤ q → va_A [] s.heap.size q := fun _ h => Or.inr h
  have hS : va_S (va_A [] s.heap.size) s.heap s.heap [] := va_S.rf
  have hl := lv_entry ([.ref rd, .ref rc, .int (nI a1)]) (n := 4) (Nat.le_of_ble_eq_true rfl)
  rw [lg_entry_eq]
  generalize (lg_sl ([.ref rd, .ref rc, .int (nI a1)]) ++ List.replicate (4 - (lg_sl ([.ref rd, .ref rc, .int (nI a1)])).length) Slot.unset).toArray = ls at hl ⊢
  have hl : lv_has ls 4 [(0, .ref rd), (1, .ref rc), (2, .int (nI a1))] := hl
  refine lv_iconst (v := 0) hx hb eX4_indexOf_0 (by decide) ?_
  refine lv_istore_n (lv' := [(3, .int 0), (0, .ref rd), (1, .ref rc), (2, .int (nI a1))]) hx hb eX4_indexOf_1 rfl hl (by decide) rfl (fun ls hl => ?_)
  refine pu_while (fun nn H locs ls => ∃ (g_2 : Nat), nn = 3 - g_2 ∧ g_2 ≤ 3 ∧ va_P (dC, dI) vwCl (rd__w rd fa fat tp (nI len) (nI pos) (nI kd) vl tka au rw rc rp k_ft ft k_fw fw k_fcn fcn k_fpn fpn) H ∧ va_D (fun _ => True) (rd__w rd fa fat tp (nI len) (nI pos) (nI kd) vl tka au rw rc rp k_ft ft k_fw fw k_fcn fcn k_fpn fpn) ∧ va_S (va_A [] s.heap.size) s.heap H locs ∧ lv_has ls 4 [(0, .ref rd), (1, .ref rc), (2, .int (nI a1)), (3, .int (nI g_2))]) 2 ?_ _ _ _ _ ⟨0, rfl, (Nat.le_of_ble_eq_true rfl), hP, hD, hS, lv_sub hl [1, 2, 3, 0] rfl⟩
  rintro nn ih_3 H locs ls ⟨g_2, rfl, hg_2, hP, hD, hS, hl⟩
  refine lv_iload_n hx hb eX4_indexOf_2 rfl (lv_at hl 3 rfl) ?_
  refine lv_iload_n hx hb eX4_indexOf_3 rfl (lv_at hl 2 rfl) ?_
  refine lv_icmp_ge (tgt := 25) hx hb eX4_indexOf_4 (by decide) (fun c_4 => ?_) (fun c_4 => ?_)
  · have c_4 : a1 ≤ g_2 := (nI_leI (a := a1) (b := g_2) (Nat.lt_of_le_of_lt ha1 (Nat.le_of_ble_eq_true rfl)) (Nat.lt_of_le_of_lt hg_2 (Nat.le_of_ble_eq_true rfl))).mp c_4
    refine lv_iconst (v := (-1)) hx hb eX4_indexOf_25 (by decide) ?_
    exact W.iret (v := (-1)) hx hb hr (fun t ht hW => ⟨⟨(-1), (), rfl, Or.inl rfl, trivial⟩, hS.F ht⟩) hS.2.2 eX4_indexOf_26
  · have c_4 : ¬ a1 ≤ g_2 := fun z => c_4 ((nI_leI (a := a1) (b := g_2) (Nat.lt_of_le_of_lt ha1 (Nat.le_of_ble_eq_true rfl)) (Nat.lt_of_le_of_lt hg_2 (Nat.le_of_ble_eq_true rfl))).mpr z)
    refine lv_aload_n hx hb eX4_indexOf_7 rfl (lv_at hl 1 rfl) ?_
    refine lv_iload_n hx hb eX4_indexOf_8 rfl (lv_at hl 3 rfl) ?_
    refine va_iald hx hb hK hP 3 2 rfl rfl (vp_in_nI (n := g_2) (by omega) (Nat.le_of_ble_eq_true rfl)) eX4_indexOf_9 ?_
    refine lv_topi (fun y_5 ey_5 => ?_)
    refine lv_aload_n hx hb eX4_indexOf_10 rfl (lv_at hl 0 rfl) ?_
    refine va_get (D := (dC, dI)) (ci := 4) (v := .int vl) (C := RX4) (T := TX4) (N := 12) hx hb hts hiX4 hown hK hP 0 rfl rfl 6 (by decide) v_1 (fun _ h9 => h9) rfl eX4_indexOf_11 ?_
    refine lv_icmp_ne (tgt := 19) hx hb eX4_indexOf_14 (by decide) (fun c_6 => ?_) (fun c_6 => ?_)
    · refine lv_iinc (v := (nI (g_2 + 1))) (lv' := [(3, .int (nI (g_2 + 1))), (0, .ref rd), (1, .ref rc), (2, .int (nI a1))]) hx hb eX4_indexOf_19 hl (k := 3) rfl (nI_1 _) (by decide) rfl (fun ls hl => ?_)
      refine lv_goto (tgt := 2) hx hb eX4_indexOf_22 (by decide) ?_
      exact ih_3 (3 - (g_2 + 1)) (by omega) _ _ _ ⟨(g_2 + 1), rfl, (by omega), hP, hD, hS, lv_sub hl [1, 2, 3, 0] rfl⟩
    · refine lv_iload_n hx hb eX4_indexOf_17 rfl (lv_at hl 3 rfl) ?_
      exact W.iret (v := (nI g_2)) hx hb hr (fun t ht hW => ⟨⟨(nI g_2), (), rfl, Or.inr ⟨g_2, (by omega), rfl⟩, trivial⟩, hS.F ht⟩) hS.2.2 eX4_indexOf_18
abbrev vs_C_4_indexOf_p : List Cond := .code yX4_indexOf cX4_indexOf 4 (some .int) :: CM
set_option maxHeartbeats 4000000 in
set_option maxRecDepth 100000 in
theorem c_C_4_indexOf_p (l : Launch) (dC : Nat → ClassId) (dI : Nat → Nat → Nat) (sz : Nat) (rd : Nat) (fa : Int32) (fat : Int32) (tp : Nat) (len : Nat) (pos : Nat) (kd : Nat) (vl : Int32) (tka : Int32) (au : Nat) (rw : Nat) (rc : Nat) (rp : Nat) (k_ft : ClassId) (ft : Nat → Int32) (k_fw : ClassId) (fw : Nat → Int32) (k_fcn : ClassId) (fcn : Nat → Int32) (k_fpn : ClassId) (fpn : Nat → Int32) (a1 : Nat) (hlen : len ≤ 900) (hpos : pos ≤ 900) (hkd : kd ≤ 15) (ha1 : a1 ≤ 8) : Met l yX4_indexOf vs_C_4_indexOf_p ({ frames := 0, cells := 0, slots := 0, locals := 0 }) (va_Pc [.ref rd, .ref rp, .int (nI a1)] (pu_B (dC, dI) (rd__w rd fa fat tp (nI len) (nI pos) (nI kd) vl tka au rw rc rp k_ft ft k_fw fw k_fcn fcn k_fpn fpn) (rd__t k_ft k_fw k_fcn k_fpn) sz)) (va_Qi (fun (r : Int32) (_ : Unit) => r = -1 ∨ ∃ v : Nat, v ≤ 7 ∧ r = nI v) (fun _ _ => True) (va_A [] sz)) 0 0 (va_A [] sz) := by
  refine Met.ofW (cc := cX4_indexOf) (maxL := 4) (ret := (some .int)) (by decide) rfl ?_
  intro p e s m args below meth c s₁ B hml hv
  obtain ⟨rfl, rfl, hP, hK, hD0⟩ := hv
  have hx := B.exec
  have hb := B.bytes
  have hr := B.returns
  have hts := atoms_spec (ws := vs_C_4_indexOf_p) B.pre
  have v_1 := hts (.fieldLink RX4 127 "ClockReach$Reader" "value" "I") (List.mem_cons_of_mem _ cm_239)
  have hown : s.vm.findClass RX4 = some m.cls := findClass_of_methodNamed B.named
  have hlocks := B.notSynchronized
  have hiX4 : ∀ w ∈ wsX40, w ∈ vs_C_4_indexOf_p := fun _ h => List.mem_cons_of_mem _ (cm_X4 h)
  have hD := hD0
  have hA : ∀ q : Nat, s.heap.size ≤ q → va_A [] s.heap.size q := fun _ h => Or.inr h
  have hS : va_S (va_A [] s.heap.size) s.heap s.heap [] := va_S.rf
  have hl := lv_entry ([.ref rd, .ref rp, .int (nI a1)]) (n := 4) (Nat.le_of_ble_eq_true rfl)
  rw [lg_entry_eq]
  generalize (lg_sl ([.ref rd, .ref rp, .int (nI a1)]) ++ List.replicate (4 - (lg_sl ([.ref rd, .ref rp, .int (nI a1)])).length) Slot.unset).toArray = ls at hl ⊢
  have hl : lv_has ls 4 [(0, .ref rd), (1, .ref rp), (2, .int (nI a1))] := hl
  refine lv_iconst (v := 0) hx hb eX4_indexOf_0 (by decide) ?_
  refine lv_istore_n (lv' := [(3, .int 0), (0, .ref rd), (1, .ref rp), (2, .int (nI a1))]) hx hb eX4_indexOf_1 rfl hl (by decide) rfl (fun ls hl => ?_)
  refine pu_while (fun nn H locs ls => ∃ (g_2 : Nat), nn = 8 - g_2 ∧ g_2 ≤ 8 ∧ va_P (dC, dI) vwCl (rd__w rd fa fat tp (nI len) (nI pos) (nI kd) vl tka au rw rc rp k_ft ft k_fw fw k_fcn fcn k_fpn fpn) H ∧ va_D (fun _ => True) (rd__w rd fa fat tp (nI len) (nI pos) (nI kd) vl tka au rw rc rp k_ft ft k_fw fw k_fcn fcn k_fpn fpn) ∧ va_S (va_A [] s.heap.size) s.heap H locs ∧ lv_has ls 4 [(0, .ref rd), (1, .ref rp), (2, .int (nI a1)), (3, .int (nI g_2))]) 2 ?_ _ _ _ _ ⟨0, rfl, (Nat.le_of_ble_eq_true rfl), hP, hD, hS, lv_sub hl [1, 2, 3, 0] rfl⟩
  rintro nn ih_3 H locs ls ⟨g_2, rfl, hg_2, hP, hD, hS, hl⟩
  refine lv_iload_n hx hb eX4_indexOf_2 rfl (lv_at hl 3 rfl) ?_
  refine lv_iload_n hx hb eX4_indexOf_3 rfl (lv_at hl 2 rfl) ?_
  refine lv_icmp_ge (tgt := 25) hx hb eX4_indexOf_4 (by decide) (fun c_4 => ?_) (fun c_4 => ?_)
  · have c_4 : a1 ≤ g_2 := (nI_leI (a := a1) (b := g_2) (Nat.lt_of_le_of_lt ha1 (Nat.le_of_ble_eq_true rfl)) (Nat.lt_of_le_of_lt hg_2 (Nat.le_of_ble_eq_true rfl))).mp c_4
    refine lv_iconst (v := (-1)) hx hb eX4_indexOf_25 (by decide) ?_
    exact W.iret (v := (-1)) hx hb hr (fun t ht hW => ⟨⟨(-1), (), rfl, Or.inl rfl, trivial⟩, hS.F ht⟩) hS.2.2 eX4_indexOf_26
  · have c_4 : ¬ a1 ≤ g_2 := fun z => c_4 ((nI_leI (a := a1) (b := g_2) (Nat.lt_of_le_of_lt ha1 (Nat.le_of_ble_eq_true rfl)) (Nat.lt_of_le_of_lt hg_2 (Nat.le_of_ble_eq_true rfl))).mpr z)
    refine lv_aload_n hx hb eX4_indexOf_7 rfl (lv_at hl 1 rfl) ?_
    refine lv_iload_n hx hb eX4_indexOf_8 rfl (lv_at hl 3 rfl) ?_
    refine va_iald hx hb hK hP 4 3 rfl rfl (vp_in_nI (n := g_2) (by omega) (Nat.le_of_ble_eq_true rfl)) eX4_indexOf_9 ?_
    refine lv_topi (fun y_5 ey_5 => ?_)
    refine lv_aload_n hx hb eX4_indexOf_10 rfl (lv_at hl 0 rfl) ?_
    refine va_get (D := (dC, dI)) (ci := 4) (v := .int vl) (C := RX4) (T := TX4) (N := 12) hx hb hts hiX4 hown hK hP 0 rfl rfl 6 (by decide) v_1 (fun _ h9 => h9) rfl eX4_indexOf_11 ?_
    refine lv_icmp_ne (tgt := 19) hx hb eX4_indexOf_14 (by decide) (fun c_6 => ?_) (fun c_6 => ?_)
    · refine lv_iinc (v := (nI (g_2 + 1))) (lv' := [(3, .int (nI (g_2 + 1))), (0, .ref rd), (1, .ref rp), (2, .int (nI a1))]) hx hb eX4_indexOf_19 hl (k := 3) rfl (nI_1 _) (by decide) rfl (fun ls hl => ?_)
      refine lv_goto (tgt := 2) hx hb eX4_indexOf_22 (by decide) ?_
      exact ih_3 (8 - (g_2 + 1)) (by omega) _ _ _ ⟨(g_2 + 1), rfl, (by omega), hP, hD, hS, lv_sub hl [1, 2, 3, 0] rfl⟩
    · refine lv_iload_n hx hb eX4_indexOf_17 rfl (lv_at hl 3 rfl) ?_
      exact W.iret (v := (nI g_2)) hx hb hr (fun t ht hW => ⟨⟨(nI g_2), (), rfl, Or.inr ⟨g_2, (by omega), rfl⟩, trivial⟩, hS.F ht⟩) hS.2.2 eX4_indexOf_18
theorem eX4_toldName_0 : decode cX4_toldName 0 = .ok (.aload_n 0, 1) := by decide +kernel
theorem eX4_toldName_1 : decode cX4_toldName 1 = .ok (.getfield 78, 3) := by decide +kernel
theorem eX4_toldName_4 : decode cX4_toldName 4 = .ok (.iconst 2, 1) := by decide +kernel
theorem eX4_toldName_5 : decode cX4_toldName 5 = .ok (.if_icmp .eq 10, 3) := by decide +kernel
theorem eX4_toldName_8 : decode cX4_toldName 8 = .ok (.aload_n 0, 1) := by decide +kernel
theorem eX4_toldName_9 : decode cX4_toldName 9 = .ok (.invokevirtual 94, 3) := by decide +kernel
theorem eX4_toldName_12 : decode cX4_toldName 12 = .ok (.pop, 1) := by decide +kernel
theorem eX4_toldName_13 : decode cX4_toldName 13 = .ok (.iconst (-1), 1) := by decide +kernel
theorem eX4_toldName_14 : decode cX4_toldName 14 = .ok (.ireturn, 1) := by decide +kernel
theorem eX4_toldName_15 : decode cX4_toldName 15 = .ok (.aload_n 0, 1) := by decide +kernel
theorem eX4_toldName_16 : decode cX4_toldName 16 = .ok (.aload_n 1, 1) := by decide +kernel
theorem eX4_toldName_17 : decode cX4_toldName 17 = .ok (.iload_n 2, 1) := by decide +kernel
theorem eX4_toldName_18 : decode cX4_toldName 18 = .ok (.invokevirtual 167, 3) := by decide +kernel
theorem eX4_toldName_21 : decode cX4_toldName 21 = .ok (.istore_n 3, 1) := by decide +kernel
theorem eX4_toldName_22 : decode cX4_toldName 22 = .ok (.iload_n 3, 1) := by decide +kernel
theorem eX4_toldName_23 : decode cX4_toldName 23 = .ok (.iconst (-1), 1) := by decide +kernel
theorem eX4_toldName_24 : decode cX4_toldName 24 = .ok (.if_icmp .ne 9, 3) := by decide +kernel
theorem eX4_toldName_27 : decode cX4_toldName 27 = .ok (.aload_n 0, 1) := by decide +kernel
theorem eX4_toldName_28 : decode cX4_toldName 28 = .ok (.iconst 3, 1) := by decide +kernel
theorem eX4_toldName_29 : decode cX4_toldName 29 = .ok (.invokevirtual 103, 3) := by decide +kernel
theorem eX4_toldName_32 : decode cX4_toldName 32 = .ok (.pop, 1) := by decide +kernel
theorem eX4_toldName_33 : decode cX4_toldName 33 = .ok (.iload_n 3, 1) := by decide +kernel
theorem eX4_toldName_34 : decode cX4_toldName 34 = .ok (.ireturn, 1) := by decide +kernel
abbrev vs_C_4_toldName_c : List Cond := .code yX4_toldName cX4_toldName 4 (some .int) :: CM
theorem g_C_4_toldName_c_C_4_indexOf_c : GoodIn vs_C_4_toldName_c (wsV RX4 167 RX4 yX4_indexOf vs_C_4_indexOf_c) := cm_gV cm_268 cm_269 cm_270 cm_232 cm_271
theorem g_C_4_toldName_c_C_4_refuse : GoodIn vs_C_4_toldName_c (wsV RX4 103 RX4 yX4_refuse vs_C_4_refuse) := cm_gV cm_255 cm_256 cm_257 cm_232 cm_258
theorem g_C_4_toldName_c_C_4_refuseToken : GoodIn vs_C_4_toldName_c (wsV RX4 94 RX4 yX4_refuseToken vs_C_4_refuseToken) := cm_gV cm_264 cm_265 cm_266 cm_232 cm_267
set_option maxHeartbeats 4000000 in
set_option maxRecDepth 100000 in
theorem c_C_4_toldName_c (l : Launch) (dC : Nat → ClassId) (dI : Nat → Nat → Nat) (sz : Nat) (rd : Nat) (fa : Int32) (fat : Int32) (tp : Nat) (len : Nat) (pos : Nat) (kd : Nat) (vl : Int32) (tka : Int32) (au : Nat) (rw : Nat) (rc : Nat) (rp : Nat) (k_ft : ClassId) (ft : Nat → Int32) (k_fw : ClassId) (fw : Nat → Int32) (k_fcn : ClassId) (fcn : Nat → Int32) (k_fpn : ClassId) (fpn : Nat → Int32) (a1 : Nat) (hlen : len ≤ 900) (hpos : pos ≤ 900) (hkd : kd ≤ 15) (ha1 : a1 ≤ 3) : Met l yX4_toldName vs_C_4_toldName_c ({ frames := 2, cells := 0, slots := 0, locals := 41 }) (va_Pc [.ref rd, .ref rc, .int (nI a1)] (pu_B (dC, dI) (rd__w rd fa fat tp (nI len) (nI pos) (nI kd) vl tka au rw rc rp k_ft ft k_fw fw k_fcn fcn k_fpn fpn) (rd__t k_ft k_fw k_fcn k_fpn) sz)) (va_Qi (fun (r : Int32) (_ : Unit) => r = -1 ∨ ∃ v : Nat, v ≤ 2 ∧ r = nI v) (fun _ t => ∃ (z_fa : Int32) (z_fat : Int32), pu_E (dC, dI) (rd__w rd z_fa z_fat tp (nI len) (nI pos) (nI kd) vl tka au rw rc rp k_ft ft k_fw fw k_fcn fcn k_fpn fpn) (rd__t k_ft k_fw k_fcn k_fpn) (va_A ((rd__w rd fa fat tp (nI len) (nI pos) (nI kd) vl tka au rw rc rp k_ft ft k_fw fw k_fcn fcn k_fpn fpn)) sz) t) (va_A ((rd__w rd fa fat tp (nI len) (nI pos) (nI kd) vl tka au rw rc rp k_ft ft k_fw fw k_fcn fcn k_fpn fpn)) sz)) 0 0 (va_A ((rd__w rd fa fat tp (nI len) (nI pos) (nI kd) vl tka au rw rc rp k_ft ft k_fw fw k_fcn fcn k_fpn fpn)) sz) := by
  refine Met.ofW (cc := cX4_toldName) (maxL := 4) (ret := (some .int)) (by decide) rfl ?_
  intro p e s m args below meth c s₁ B hml hv
  obtain ⟨rfl, rfl, hP, hK, hD0⟩ := hv
  have hx := B.exec
  have hb := B.bytes
  have hr := B.returns
  have hts := atoms_spec (ws := vs_C_4_toldName_c) B.pre
  have v_1 := hts (.fieldLink RX4 78 "ClockReach$Reader" "kind" "I") (List.mem_cons_of_mem _ cm_222)
  have hown : s.vm.findClass RX4 = some m.cls := findClass_of_methodNamed B.named
  have hlocks := B.notSynchronized
  have hiX4 : ∀ w ∈ wsX40, w ∈ vs_C_4_toldName_c := fun _ h => List.mem_cons_of_mem _ (cm_X4 h)
  have hD := hD0.self (sz := s.heap.size)
  generalize hAe : va_A ((rd__w rd fa fat tp (nI len) (nI pos) (nI kd) vl tka au rw rc rp k_ft ft k_fw fw k_fcn fcn k_fpn fpn)) s.heap.size = A at hD ⊢
  have hA : ∀ q : Nat, s.heap.size ≤ q → A q := fun q h => by rw [← hAe]; exact Or.inr h
  have hS : va_S A s.heap s.heap [] := va_S.rf
  have hl := lv_entry ([.ref rd, .ref rc, .int (nI a1)]) (n := 4) (Nat.le_of_ble_eq_true rfl)
  rw [lg_entry_eq]
  generalize (lg_sl ([.ref rd, .ref rc, .int (nI a1)]) ++ List.replicate (4 - (lg_sl ([.ref rd, .ref rc, .int (nI a1)])).length) Slot.unset).toArray = ls at hl ⊢
  have hl : lv_has ls 4 [(0, .ref rd), (1, .ref rc), (2, .int (nI a1))] := hl
  refine lv_aload_n hx hb eX4_toldName_0 rfl (lv_at hl 0 rfl) ?_
  refine va_get (D := (dC, dI)) (ci := 4) (v := .int (nI kd)) (C := RX4) (T := TX4) (N := 12) hx hb hts hiX4 hown hK hP 0 rfl rfl 5 (by decide) v_1 (fun _ h9 => h9) rfl eX4_toldName_1 ?_
  refine lv_iconst (v := 2) hx hb eX4_toldName_4 (by decide) ?_
  refine lv_icmp_eq (tgt := 15) hx hb eX4_toldName_5 (by decide) (fun c_1 => ?_) (fun c_1 => ?_)
  · have c_1 : kd = 2 := (nI_eq (a := kd) (b := 2) (Nat.lt_of_le_of_lt hkd (Nat.le_of_ble_eq_true rfl)) (Nat.le_of_ble_eq_true rfl)).mp c_1
    refine lv_aload_n hx hb eX4_toldName_15 rfl (lv_at hl 0 rfl) ?_
    refine lv_aload_n hx hb eX4_toldName_16 rfl (lv_at hl 1 rfl) ?_
    refine lv_iload_n hx hb eX4_toldName_17 rfl (lv_at hl 2 rfl) ?_
    refine va_calli (va_runV (As := [.ref rc, .int (nI a1)]) (rest := []) ⟨hx, hb, hml, hown, hts⟩ (c_C_4_indexOf_c l dC dI _ rd fa fat tp len pos kd vl tka au rw rc rp k_ft ft k_fw fw k_fcn fcn k_fpn fpn a1 hlen hpos hkd ha1) (cwV 2 hts g_C_4_toldName_c_C_4_indexOf_c rfl rfl rfl (by decide +kernel) ⟨Nat.le_of_ble_eq_true rfl, Nat.le_of_ble_eq_true rfl⟩) ⟨pu_bl, va_recv hK hP (ci := 4) (q0 := 0) rfl rfl, pu_in hP hK hD⟩ rfl rfl hl.1 rfl (lv_room (Nat.le_of_ble_eq_true rfl)) eX4_toldName_18 ⟨Nat.le_of_ble_eq_true rfl, Nat.le_of_ble_eq_true rfl⟩) hS (fun q _ h => pu_fr hS hA q h) (pu_fr hS hA) (fun r_2 u t H1 locs ht hvm hw hB hz1 hk1 hS => ?_)
    have hP := pu_keep hP hk1
    clear hk1 hz1 ht hvm
    generalize H1 = H at hP hS ⊢
    rcases hw with rfl | ⟨u_3, hu_3, rfl⟩
    · refine lv_istore_n (lv' := [(3, .int (-1)), (0, .ref rd), (1, .ref rc), (2, .int (nI a1))]) hx hb eX4_toldName_21 rfl hl (by decide) rfl (fun ls hl => ?_)
      refine lv_iload_n hx hb eX4_toldName_22 rfl (lv_at hl 0 rfl) ?_
      refine lv_iconst (v := (-1)) hx hb eX4_toldName_23 (by decide) ?_
      refine lv_icmp_ne (tgt := 33) hx hb eX4_toldName_24 (by decide) (fun z => absurd z (by decide)) (fun _ => ?_)
      refine lv_aload_n hx hb eX4_toldName_27 rfl (lv_at hl 1 rfl) ?_
      refine lv_iconst (v := 3) hx hb eX4_toldName_28 (by decide) ?_
      have hFc := pu_free hD hS hA
      refine va_calli (va_runV (As := [.int 3]) (rest := []) ⟨hx, hb, hml, hown, hts⟩ (c_C_4_refuse l dC dI _ rd fa fat tp len pos kd vl tka au rw rc rp k_ft ft k_fw fw k_fcn fcn k_fpn fpn 3 hlen hpos hkd) (cwV 1 hts g_C_4_toldName_c_C_4_refuse rfl rfl rfl (by decide +kernel) ⟨Nat.le_of_ble_eq_true rfl, Nat.le_of_ble_eq_true rfl⟩) ⟨pu_bl, va_recv hK hP (ci := 4) (q0 := 0) rfl rfl, pu_in hP hK hD⟩ rfl rfl hl.1 rfl (lv_room (Nat.le_of_ble_eq_true rfl)) eX4_toldName_29 ⟨Nat.le_of_ble_eq_true rfl, Nat.le_of_ble_eq_true rfl⟩) hS (fun q _ h => hFc q h) hFc (fun r_4 u t H1 locs ht hvm hw hB hz1 hk1 hS => ?_)
      obtain ⟨z_fa_5, z_fat_6, ⟨hP1, -, hD1⟩⟩ := hB
      rw [ht] at hP1
      have hP := hP1
      have hD := pu_all hFc hD1
      clear hP1 hD1 hFc
      clear hk1 hz1 ht hvm
      generalize H1 = H at hP hS ⊢
      obtain rfl : r_4 = 0 := hw
      refine lv_pop hx hb eX4_toldName_32 rfl ?_
      refine lv_iload_n hx hb eX4_toldName_33 rfl (lv_at hl 0 rfl) ?_
      exact W.iret (v := (-1)) hx hb hr (fun t ht hW => ⟨⟨(-1), (), rfl, Or.inl rfl, ⟨z_fa_5, z_fat_6, ⟨by rw [ht]; exact hP, va_K.moved hW.alike hK, hD⟩⟩⟩, hS.F ht⟩) hS.2.2 eX4_toldName_34
    · refine lv_istore_n (lv' := [(3, .int (nI u_3)), (0, .ref rd), (1, .ref rc), (2, .int (nI a1))]) hx hb eX4_toldName_21 rfl hl (by decide) rfl (fun ls hl => ?_)
      refine lv_iload_n hx hb eX4_toldName_22 rfl (lv_at hl 0 rfl) ?_
      refine lv_iconst (v := (-1)) hx hb eX4_toldName_23 (by decide) ?_
      refine lv_icmp_ne (tgt := 33) hx hb eX4_toldName_24 (by decide) (fun _ => ?_) (fun z => absurd z (pu_nneg (n := u_3) (by omega) (by decide)))
      refine lv_iload_n hx hb eX4_toldName_33 rfl (lv_at hl 0 rfl) ?_
      exact W.iret (v := (nI u_3)) hx hb hr (fun t ht hW => ⟨⟨(nI u_3), (), rfl, Or.inr ⟨u_3, hu_3, rfl⟩, ⟨fa, fat, ⟨by rw [ht]; exact hP, va_K.moved hW.alike hK, hD⟩⟩⟩, hS.F ht⟩) hS.2.2 eX4_toldName_34
  · have c_1 : ¬ kd = 2 := fun z => c_1 ((nI_eq (a := kd) (b := 2) (Nat.lt_of_le_of_lt hkd (Nat.le_of_ble_eq_true rfl)) (Nat.le_of_ble_eq_true rfl)).mpr z)
    refine lv_aload_n hx hb eX4_toldName_8 rfl (lv_at hl 0 rfl) ?_
    have hFc := pu_free hD hS hA
    refine va_calli (va_runV (As := []) (rest := []) ⟨hx, hb, hml, hown, hts⟩ (c_C_4_refuseToken l dC dI _ rd fa fat tp len pos kd vl tka au rw rc rp k_ft ft k_fw fw k_fcn fcn k_fpn fpn hlen hpos hkd) (cwV 0 hts g_C_4_toldName_c_C_4_refuseToken rfl rfl rfl (by decide +kernel) ⟨Nat.le_of_ble_eq_true rfl, Nat.le_of_ble_eq_true rfl⟩) ⟨pu_bl, va_recv hK hP (ci := 4) (q0 := 0) rfl rfl, pu_in hP hK hD⟩ rfl rfl hl.1 rfl (lv_room (Nat.le_of_ble_eq_true rfl)) eX4_toldName_9 ⟨Nat.le_of_ble_eq_true rfl, Nat.le_of_ble_eq_true rfl⟩) hS (fun q _ h => hFc q h) hFc (fun r_7 u t H1 locs ht hvm hw hB hz1 hk1 hS => ?_)
    obtain ⟨z_fa_8, z_fat_9, ⟨hP1, -, hD1⟩⟩ := hB
    rw [ht] at hP1
    have hP := hP1
    have hD := pu_all hFc hD1
    clear hP1 hD1 hFc
    clear hk1 hz1 ht hvm
    generalize H1 = H at hP hS ⊢
    obtain rfl : r_7 = 0 := hw
    refine lv_pop hx hb eX4_toldName_12 rfl ?_
    refine lv_iconst (v := (-1)) hx hb eX4_toldName_13 (by decide) ?_
    exact W.iret (v := (-1)) hx hb hr (fun t ht hW => ⟨⟨(-1), (), rfl, Or.inl rfl, ⟨z_fa_8, z_fat_9, ⟨by rw [ht]; exact hP, va_K.moved hW.alike hK, hD⟩⟩⟩, hS.F ht⟩) hS.2.2 eX4_toldName_14
abbrev vs_C_4_toldName_p : List Cond := .code yX4_toldName cX4_toldName 4 (some .int) :: CM
theorem g_C_4_toldName_p_C_4_indexOf_p : GoodIn vs_C_4_toldName_p (wsV RX4 167 RX4 yX4_indexOf vs_C_4_indexOf_p) := cm_gV cm_268 cm_269 cm_270 cm_232 cm_271
theorem g_C_4_toldName_p_C_4_refuse : GoodIn vs_C_4_toldName_p (wsV RX4 103 RX4 yX4_refuse vs_C_4_refuse) := cm_gV cm_255 cm_256 cm_257 cm_232 cm_258
theorem g_C_4_toldName_p_C_4_refuseToken : GoodIn vs_C_4_toldName_p (wsV RX4 94 RX4 yX4_refuseToken vs_C_4_refuseToken) := cm_gV cm_264 cm_265 cm_266 cm_232 cm_267
set_option maxHeartbeats 4000000 in
set_option maxRecDepth 100000 in
theorem c_C_4_toldName_p (l : Launch) (dC : Nat → ClassId) (dI : Nat → Nat → Nat) (sz : Nat) (rd : Nat) (fa : Int32) (fat : Int32) (tp : Nat) (len : Nat) (pos : Nat) (kd : Nat) (vl : Int32) (tka : Int32) (au : Nat) (rw : Nat) (rc : Nat) (rp : Nat) (k_ft : ClassId) (ft : Nat → Int32) (k_fw : ClassId) (fw : Nat → Int32) (k_fcn : ClassId) (fcn : Nat → Int32) (k_fpn : ClassId) (fpn : Nat → Int32) (a1 : Nat) (hlen : len ≤ 900) (hpos : pos ≤ 900) (hkd : kd ≤ 15) (ha1 : a1 ≤ 8) : Met l yX4_toldName vs_C_4_toldName_p ({ frames := 2, cells := 0, slots := 0, locals := 41 }) (va_Pc [.ref rd, .ref rp, .int (nI a1)] (pu_B (dC, dI) (rd__w rd fa fat tp (nI len) (nI pos) (nI kd) vl tka au rw rc rp k_ft ft k_fw fw k_fcn fcn k_fpn fpn) (rd__t k_ft k_fw k_fcn k_fpn) sz)) (va_Qi (fun (r : Int32) (_ : Unit) => r = -1 ∨ ∃ v : Nat, v ≤ 7 ∧ r = nI v) (fun _ t => ∃ (z_fa : Int32) (z_fat : Int32), pu_E (dC, dI) (rd__w rd z_fa z_fat tp (nI len) (nI pos) (nI kd) vl tka au rw rc rp k_ft ft k_fw fw k_fcn fcn k_fpn fpn) (rd__t k_ft k_fw k_fcn k_fpn) (va_A ((rd__w rd fa fat tp (nI len) (nI pos) (nI kd) vl tka au rw rc rp k_ft ft k_fw fw k_fcn fcn k_fpn fpn)) sz) t) (va_A ((rd__w rd fa fat tp (nI len) (nI pos) (nI kd) vl tka au rw rc rp k_ft ft k_fw fw k_fcn fcn k_fpn fpn)) sz)) 0 0 (va_A ((rd__w rd fa fat tp (nI len) (nI pos) (nI kd) vl tka au rw rc rp k_ft ft k_fw fw k_fcn fcn k_fpn fpn)) sz) := by
  refine Met.ofW (cc := cX4_toldName) (maxL := 4) (ret := (some .int)) (by decide) rfl ?_
  intro p e s m args below meth c s₁ B hml hv
  obtain ⟨rfl, rfl, hP, hK, hD0⟩ := hv
  have hx := B.exec
  have hb := B.bytes
  have hr := B.returns
  have hts := atoms_spec (ws := vs_C_4_toldName_p) B.pre
  have v_1 := hts (.fieldLink RX4 78 "ClockReach$Reader" "kind" "I") (List.mem_cons_of_mem _ cm_222)
  have hown : s.vm.findClass RX4 = some m.cls := findClass_of_methodNamed B.named
  have hlocks := B.notSynchronized
  have hiX4 : ∀ w ∈ wsX40, w ∈ vs_C_4_toldName_p := fun _ h => List.mem_cons_of_mem _ (cm_X4 h)
  have hD := hD0.self (sz := s.heap.size)
  generalize hAe : va_A ((rd__w rd fa fat tp (nI len) (nI pos) (nI kd) vl tka au rw rc rp k_ft ft k_fw fw k_fcn fcn k_fpn fpn)) s.heap.size = A at hD ⊢
  have hA : ∀ q : Nat, s.heap.size ≤ q → A q := fun q h => by rw [← hAe]; exact Or.inr h
  have hS : va_S A s.heap s.heap [] := va_S.rf
  have hl := lv_entry ([.ref rd, .ref rp, .int (nI a1)]) (n := 4) (Nat.le_of_ble_eq_true rfl)
  rw [lg_entry_eq]
  generalize (lg_sl ([.ref rd, .ref rp, .int (nI a1)]) ++ List.replicate (4 - (lg_sl ([.ref rd, .ref rp, .int (nI a1)])).length) Slot.unset).toArray = ls at hl ⊢
  have hl : lv_has ls 4 [(0, .ref rd), (1, .ref rp), (2, .int (nI a1))] := hl
  refine lv_aload_n hx hb eX4_toldName_0 rfl (lv_at hl 0 rfl) ?_
  refine va_get (D := (dC, dI)) (ci := 4) (v := .int (nI kd)) (C := RX4) (T := TX4) (N := 12) hx hb hts hiX4 hown hK hP 0 rfl rfl 5 (by decide) v_1 (fun _ h9 => h9) rfl eX4_toldName_1 ?_
  refine lv_iconst (v := 2) hx hb eX4_toldName_4 (by decide) ?_
  refine lv_icmp_eq (tgt := 15) hx hb eX4_toldName_5 (by decide) (fun c_1 => ?_) (fun c_1 => ?_)
  · have c_1 : kd = 2 := (nI_eq (a := kd) (b := 2) (Nat.lt_of_le_of_lt hkd (Nat.le_of_ble_eq_true rfl)) (Nat.le_of_ble_eq_true rfl)).mp c_1
    refine lv_aload_n hx hb eX4_toldName_15 rfl (lv_at hl 0 rfl) ?_
    refine lv_aload_n hx hb eX4_toldName_16 rfl (lv_at hl 1 rfl) ?_
    refine lv_iload_n hx hb eX4_toldName_17 rfl (lv_at hl 2 rfl) ?_
    refine va_calli (va_runV (As := [.ref rp, .int (nI a1)]) (rest := []) ⟨hx, hb, hml, hown, hts⟩ (c_C_4_indexOf_p l dC dI _ rd fa fat tp len pos kd vl tka au rw rc rp k_ft ft k_fw fw k_fcn fcn k_fpn fpn a1 hlen hpos hkd ha1) (cwV 2 hts g_C_4_toldName_p_C_4_indexOf_p rfl rfl rfl (by decide +kernel) ⟨Nat.le_of_ble_eq_true rfl, Nat.le_of_ble_eq_true rfl⟩) ⟨pu_bl, va_recv hK hP (ci := 4) (q0 := 0) rfl rfl, pu_in hP hK hD⟩ rfl rfl hl.1 rfl (lv_room (Nat.le_of_ble_eq_true rfl)) eX4_toldName_18 ⟨Nat.le_of_ble_eq_true rfl, Nat.le_of_ble_eq_true rfl⟩) hS (fun q _ h => pu_fr hS hA q h) (pu_fr hS hA) (fun r_2 u t H1 locs ht hvm hw hB hz1 hk1 hS => ?_)
    have hP := pu_keep hP hk1
    clear hk1 hz1 ht hvm
    generalize H1 = H at hP hS ⊢
    rcases hw with rfl | ⟨u_3, hu_3, rfl⟩
    · refine lv_istore_n (lv' := [(3, .int (-1)), (0, .ref rd), (1, .ref rp), (2, .int (nI a1))]) hx hb eX4_toldName_21 rfl hl (by decide) rfl (fun ls hl => ?_)
      refine lv_iload_n hx hb eX4_toldName_22 rfl (lv_at hl 0 rfl) ?_
      refine lv_iconst (v := (-1)) hx hb eX4_toldName_23 (by decide) ?_
      refine lv_icmp_ne (tgt := 33) hx hb eX4_toldName_24 (by decide) (fun z => absurd z (by decide)) (fun _ => ?_)
      refine lv_aload_n hx hb eX4_toldName_27 rfl (lv_at hl 1 rfl) ?_
      refine lv_iconst (v := 3) hx hb eX4_toldName_28 (by decide) ?_
      have hFc := pu_free hD hS hA
      refine va_calli (va_runV (As := [.int 3]) (rest := []) ⟨hx, hb, hml, hown, hts⟩ (c_C_4_refuse l dC dI _ rd fa fat tp len pos kd vl tka au rw rc rp k_ft ft k_fw fw k_fcn fcn k_fpn fpn 3 hlen hpos hkd) (cwV 1 hts g_C_4_toldName_p_C_4_refuse rfl rfl rfl (by decide +kernel) ⟨Nat.le_of_ble_eq_true rfl, Nat.le_of_ble_eq_true rfl⟩) ⟨pu_bl, va_recv hK hP (ci := 4) (q0 := 0) rfl rfl, pu_in hP hK hD⟩ rfl rfl hl.1 rfl (lv_room (Nat.le_of_ble_eq_true rfl)) eX4_toldName_29 ⟨Nat.le_of_ble_eq_true rfl, Nat.le_of_ble_eq_true rfl⟩) hS (fun q _ h => hFc q h) hFc (fun r_4 u t H1 locs ht hvm hw hB hz1 hk1 hS => ?_)
      obtain ⟨z_fa_5, z_fat_6, ⟨hP1, -, hD1⟩⟩ := hB
      rw [ht] at hP1
      have hP := hP1
      have hD := pu_all hFc hD1
      clear hP1 hD1 hFc
      clear hk1 hz1 ht hvm
      generalize H1 = H at hP hS ⊢
      obtain rfl : r_4 = 0 := hw
      refine lv_pop hx hb eX4_toldName_32 rfl ?_
      refine lv_iload_n hx hb eX4_toldName_33 rfl (lv_at hl 0 rfl) ?_
      exact W.iret (v := (-1)) hx hb hr (fun t ht hW => ⟨⟨(-1), (), rfl, Or.inl rfl, ⟨z_fa_5, z_fat_6, ⟨by rw [ht]; exact hP, va_K.moved hW.alike hK, hD⟩⟩⟩, hS.F ht⟩) hS.2.2 eX4_toldName_34
    · refine lv_istore_n (lv' := [(3, .int (nI u_3)), (0, .ref rd), (1, .ref rp), (2, .int (nI a1))]) hx hb eX4_toldName_21 rfl hl (by decide) rfl (fun ls hl => ?_)
      refine lv_iload_n hx hb eX4_toldName_22 rfl (lv_at hl 0 rfl) ?_
      refine lv_iconst (v := (-1)) hx hb eX4_toldName_23 (by decide) ?_
      refine lv_icmp_ne (tgt := 33) hx hb eX4_toldName_24 (by decide) (fun _ => ?_) (fun z => absurd z (pu_nneg (n := u_3) (by omega) (by decide)))
      refine lv_iload_n hx hb eX4_toldName_33 rfl (lv_at hl 0 rfl) ?_
      exact W.iret (v := (nI u_3)) hx hb hr (fun t ht hW => ⟨⟨(nI u_3), (), rfl, Or.inr ⟨u_3, hu_3, rfl⟩, ⟨fa, fat, ⟨by rw [ht]; exact hP, va_K.moved hW.alike hK, hD⟩⟩⟩, hS.F ht⟩) hS.2.2 eX4_toldName_34
  · have c_1 : ¬ kd = 2 := fun z => c_1 ((nI_eq (a := kd) (b := 2) (Nat.lt_of_le_of_lt hkd (Nat.le_of_ble_eq_true rfl)) (Nat.le_of_ble_eq_true rfl)).mpr z)
    refine lv_aload_n hx hb eX4_toldName_8 rfl (lv_at hl 0 rfl) ?_
    have hFc := pu_free hD hS hA
    refine va_calli (va_runV (As := []) (rest := []) ⟨hx, hb, hml, hown, hts⟩ (c_C_4_refuseToken l dC dI _ rd fa fat tp len pos kd vl tka au rw rc rp k_ft ft k_fw fw k_fcn fcn k_fpn fpn hlen hpos hkd) (cwV 0 hts g_C_4_toldName_p_C_4_refuseToken rfl rfl rfl (by decide +kernel) ⟨Nat.le_of_ble_eq_true rfl, Nat.le_of_ble_eq_true rfl⟩) ⟨pu_bl, va_recv hK hP (ci := 4) (q0 := 0) rfl rfl, pu_in hP hK hD⟩ rfl rfl hl.1 rfl (lv_room (Nat.le_of_ble_eq_true rfl)) eX4_toldName_9 ⟨Nat.le_of_ble_eq_true rfl, Nat.le_of_ble_eq_true rfl⟩) hS (fun q _ h => hFc q h) hFc (fun r_7 u t H1 locs ht hvm hw hB hz1 hk1 hS => ?_)
    obtain ⟨z_fa_8, z_fat_9, ⟨hP1, -, hD1⟩⟩ := hB
    rw [ht] at hP1
    have hP := hP1
    have hD := pu_all hFc hD1
    clear hP1 hD1 hFc
    clear hk1 hz1 ht hvm
    generalize H1 = H at hP hS ⊢
    obtain rfl : r_7 = 0 := hw
    refine lv_pop hx hb eX4_toldName_12 rfl ?_
    refine lv_iconst (v := (-1)) hx hb eX4_toldName_13 (by decide) ?_
    exact W.iret (v := (-1)) hx hb hr (fun t ht hW => ⟨⟨(-1), (), rfl, Or.inl rfl, ⟨z_fa_8, z_fat_9, ⟨by rw [ht]; exact hP, va_K.moved hW.alike hK, hD⟩⟩⟩, hS.F ht⟩) hS.2.2 eX4_toldName_14
theorem eX4_isNewName_0 : decode cX4_isNewName 0 = .ok (.aload_n 0, 1) := by decide +kernel
theorem eX4_isNewName_1 : decode cX4_isNewName 1 = .ok (.getfield 78, 3) := by decide +kernel
theorem eX4_isNewName_4 : decode cX4_isNewName 4 = .ok (.iconst 2, 1) := by decide +kernel
theorem eX4_isNewName_5 : decode cX4_isNewName 5 = .ok (.if_icmp .eq 8, 3) := by decide +kernel
theorem eX4_isNewName_8 : decode cX4_isNewName 8 = .ok (.aload_n 0, 1) := by decide +kernel
theorem eX4_isNewName_9 : decode cX4_isNewName 9 = .ok (.invokevirtual 94, 3) := by decide +kernel
theorem eX4_isNewName_12 : decode cX4_isNewName 12 = .ok (.ireturn, 1) := by decide +kernel
theorem eX4_isNewName_13 : decode cX4_isNewName 13 = .ok (.aload_n 0, 1) := by decide +kernel
theorem eX4_isNewName_14 : decode cX4_isNewName 14 = .ok (.aload_n 0, 1) := by decide +kernel
theorem eX4_isNewName_15 : decode cX4_isNewName 15 = .ok (.getfield 39, 3) := by decide +kernel
theorem eX4_isNewName_18 : decode cX4_isNewName 18 = .ok (.aload_n 0, 1) := by decide +kernel
theorem eX4_isNewName_19 : decode cX4_isNewName 19 = .ok (.getfield 66, 3) := by decide +kernel
theorem eX4_isNewName_22 : decode cX4_isNewName 22 = .ok (.getfield 121, 3) := by decide +kernel
theorem eX4_isNewName_25 : decode cX4_isNewName 25 = .ok (.invokevirtual 167, 3) := by decide +kernel
theorem eX4_isNewName_28 : decode cX4_isNewName 28 = .ok (.iconst (-1), 1) := by decide +kernel
theorem eX4_isNewName_29 : decode cX4_isNewName 29 = .ok (.if_icmp .ne 22, 3) := by decide +kernel
theorem eX4_isNewName_32 : decode cX4_isNewName 32 = .ok (.aload_n 0, 1) := by decide +kernel
theorem eX4_isNewName_33 : decode cX4_isNewName 33 = .ok (.aload_n 0, 1) := by decide +kernel
theorem eX4_isNewName_34 : decode cX4_isNewName 34 = .ok (.getfield 42, 3) := by decide +kernel
theorem eX4_isNewName_37 : decode cX4_isNewName 37 = .ok (.aload_n 0, 1) := by decide +kernel
theorem eX4_isNewName_38 : decode cX4_isNewName 38 = .ok (.getfield 66, 3) := by decide +kernel
theorem eX4_isNewName_41 : decode cX4_isNewName 41 = .ok (.getfield 100, 3) := by decide +kernel
theorem eX4_isNewName_44 : decode cX4_isNewName 44 = .ok (.invokevirtual 167, 3) := by decide +kernel
theorem eX4_isNewName_47 : decode cX4_isNewName 47 = .ok (.iconst (-1), 1) := by decide +kernel
theorem eX4_isNewName_48 : decode cX4_isNewName 48 = .ok (.if_icmp .eq 7, 3) := by decide +kernel
theorem eX4_isNewName_51 : decode cX4_isNewName 51 = .ok (.iconst 1, 1) := by decide +kernel
theorem eX4_isNewName_52 : decode cX4_isNewName 52 = .ok (.goto 4, 3) := by decide +kernel
theorem eX4_isNewName_55 : decode cX4_isNewName 55 = .ok (.iconst 0, 1) := by decide +kernel
theorem eX4_isNewName_56 : decode cX4_isNewName 56 = .ok (.istore_n 1, 1) := by decide +kernel
theorem eX4_isNewName_57 : decode cX4_isNewName 57 = .ok (.iload_n 1, 1) := by decide +kernel
theorem eX4_isNewName_58 : decode cX4_isNewName 58 = .ok (.ifCond .eq 11, 3) := by decide +kernel
theorem eX4_isNewName_61 : decode cX4_isNewName 61 = .ok (.aload_n 0, 1) := by decide +kernel
theorem eX4_isNewName_62 : decode cX4_isNewName 62 = .ok (.iconst 3, 1) := by decide +kernel
theorem eX4_isNewName_63 : decode cX4_isNewName 63 = .ok (.invokevirtual 103, 3) := by decide +kernel
theorem eX4_isNewName_66 : decode cX4_isNewName 66 = .ok (.ifCond .eq 7, 3) := by decide +kernel
theorem eX4_isNewName_69 : decode cX4_isNewName 69 = .ok (.iconst 1, 1) := by decide +kernel
theorem eX4_isNewName_70 : decode cX4_isNewName 70 = .ok (.goto 4, 3) := by decide +kernel
theorem eX4_isNewName_73 : decode cX4_isNewName 73 = .ok (.iconst 0, 1) := by decide +kernel
theorem eX4_isNewName_74 : decode cX4_isNewName 74 = .ok (.ireturn, 1) := by decide +kernel
abbrev vs_C_4_isNewName : List Cond := .code yX4_isNewName cX4_isNewName 2 (some .boolean) :: CM
theorem g_C_4_isNewName_C_4_refuse : GoodIn vs_C_4_isNewName (wsV RX4 103 RX4 yX4_refuse vs_C_4_refuse) := cm_gV cm_255 cm_256 cm_257 cm_232 cm_258
theorem g_C_4_isNewName_C_4_indexOf_c : GoodIn vs_C_4_isNewName (wsV RX4 167 RX4 yX4_indexOf vs_C_4_indexOf_c) := cm_gV cm_268 cm_269 cm_270 cm_232 cm_271
theorem g_C_4_isNewName_C_4_indexOf_p : GoodIn vs_C_4_isNewName (wsV RX4 167 RX4 yX4_indexOf vs_C_4_indexOf_p) := cm_gV cm_268 cm_269 cm_270 cm_232 cm_271
theorem g_C_4_isNewName_C_4_refuseToken : GoodIn vs_C_4_isNewName (wsV RX4 94 RX4 yX4_refuseToken vs_C_4_refuseToken) := cm_gV cm_264 cm_265 cm_266 cm_232 cm_267
set_option maxHeartbeats 4000000 in
set_option maxRecDepth 100000 in
theorem c_C_4_isNewName (l : Launch) (dC : Nat → ClassId) (dI : Nat → Nat → Nat) (sz : Nat) (rd : Nat) (fa : Int32) (fat : Int32) (tp : Nat) (len : Nat) (pos : Nat) (kd : Nat) (vl : Int32) (tka : Int32) (au : Nat) (rw : Nat) (rc : Nat) (rp : Nat) (k_ft : ClassId) (ft : Nat → Int32) (k_fw : ClassId) (fw : Nat → Int32) (k_fcn : ClassId) (fcn : Nat → Int32) (k_fpn : ClassId) (fpn : Nat → Int32) (nc : Nat) (np : Nat) (ne : Nat) (st0 : Int32) (q4 : Nat) (q5 : Nat) (q6 : Nat) (q7 : Nat) (q8 : Nat) (q9 : Nat) (q10 : Nat) (q11 : Nat) (q12 : Nat) (q13 : Nat) (q14 : Nat) (q15 : Nat) (q16 : Nat) (k_f4 : ClassId) (f4 : Nat → Int32) (k_f5 : ClassId) (q_f5 : Nat → Nat) (k_f6 : ClassId) (q_f6 : Nat → Nat) (k_f7 : ClassId) (f7 : Nat → Int32) (k_f8 : ClassId) (q_f8 : Nat → Nat) (k_f9 : ClassId) (q_f9 : Nat → Nat) (k_f10 : ClassId) (f10 : Nat → Int32) (k_f11 : ClassId) (f11 : Nat → Int32) (k_f12 : ClassId) (f12 : Nat → Int32) (k_f13 : ClassId) (f13 : Nat → Int32) (k_f14 : ClassId) (f14 : Nat → Int32) (k_f15 : ClassId) (f15 : Nat → Int32) (k_f16 : ClassId) (f16 : Nat → Int32) (hlen : len ≤ 900) (hpos : pos ≤ 900) (hkd : kd ≤ 15) (hnc : nc ≤ 3) (hnp : np ≤ 8) (hne : ne ≤ 14) (hst0 : pm1 7 st0) : Met l yX4_isNewName vs_C_4_isNewName ({ frames := 2, cells := 0, slots := 0, locals := 41 }) (va_Pc [.ref rd] (pu_B (dC, dI) (ra__w rd fa fat tp (nI len) (nI pos) (nI kd) vl tka au rw rc rp k_ft ft k_fw fw k_fcn fcn k_fpn fpn (nI nc) (nI np) (nI ne) st0 q4 q5 q6 q7 q8 q9 q10 q11 q12 q13 q14 q15 q16 k_f4 f4 k_f5 (bN 7 q_f5) k_f6 (bN 7 q_f6) k_f7 f7 k_f8 (bN 4 q_f8) k_f9 (bN 2 q_f9) k_f10 f10 k_f11 f11 k_f12 f12 k_f13 f13 k_f14 f14 k_f15 f15 k_f16 f16) (ra__t k_ft k_fw k_fcn k_fpn k_f4 k_f5 k_f6 k_f7 k_f8 k_f9 k_f10 k_f11 k_f12 k_f13 k_f14 k_f15 k_f16) sz)) (va_Qi (fun (r : Int32) (_ : Unit) => ∃ v : Nat, v ≤ 1 ∧ r = nI v) (fun _ t => ∃ (z_fa : Int32) (z_fat : Int32), pu_E (dC, dI) (ra__w rd z_fa z_fat tp (nI len) (nI pos) (nI kd) vl tka au rw rc rp k_ft ft k_fw fw k_fcn fcn k_fpn fpn (nI nc) (nI np) (nI ne) st0 q4 q5 q6 q7 q8 q9 q10 q11 q12 q13 q14 q15 q16 k_f4 f4 k_f5 (bN 7 q_f5) k_f6 (bN 7 q_f6) k_f7 f7 k_f8 (bN 4 q_f8) k_f9 (bN 2 q_f9) k_f10 f10 k_f11 f11 k_f12 f12 k_f13 f13 k_f14 f14 k_f15 f15 k_f16 f16) (ra__t k_ft k_fw k_fcn k_fpn k_f4 k_f5 k_f6 k_f7 k_f8 k_f9 k_f10 k_f11 k_f12 k_f13 k_f14 k_f15 k_f16) (va_A ((ra__w rd fa fat tp (nI len) (nI pos) (nI kd) vl tka au rw rc rp k_ft ft k_fw fw k_fcn fcn k_fpn fpn (nI nc) (nI np) (nI ne) st0 q4 q5 q6 q7 q8 q9 q10 q11 q12 q13 q14 q15 q16 k_f4 f4 k_f5 (bN 7 q_f5) k_f6 (bN 7 q_f6) k_f7 f7 k_f8 (bN 4 q_f8) k_f9 (bN 2 q_f9) k_f10 f10 k_f11 f11 k_f12 f12 k_f13 f13 k_f14 f14 k_f15 f15 k_f16 f16)) sz) t) (va_A ((ra__w rd fa fat tp (nI len) (nI pos) (nI kd) vl tka au rw rc rp k_ft ft k_fw fw k_fcn fcn k_fpn fpn (nI nc) (nI np) (nI ne) st0 q4 q5 q6 q7 q8 q9 q10 q11 q12 q13 q14 q15 q16 k_f4 f4 k_f5 (bN 7 q_f5) k_f6 (bN 7 q_f6) k_f7 f7 k_f8 (bN 4 q_f8) k_f9 (bN 2 q_f9) k_f10 f10 k_f11 f11 k_f12 f12 k_f13 f13 k_f14 f14 k_f15 f15 k_f16 f16)) sz)) 0 0 (va_A ((ra__w rd fa fat tp (nI len) (nI pos) (nI kd) vl tka au rw rc rp k_ft ft k_fw fw k_fcn fcn k_fpn fpn (nI nc) (nI np) (nI ne) st0 q4 q5 q6 q7 q8 q9 q10 q11 q12 q13 q14 q15 q16 k_f4 f4 k_f5 (bN 7 q_f5) k_f6 (bN 7 q_f6) k_f7 f7 k_f8 (bN 4 q_f8) k_f9 (bN 2 q_f9) k_f10 f10 k_f11 f11 k_f12 f12 k_f13 f13 k_f14 f14 k_f15 f15 k_f16 f16)) sz) := by
  refine Met.ofW (cc := cX4_isNewName) (maxL := 2) (ret := (some .boolean)) (by decide) rfl ?_
  intro p e s m args below meth c s₁ B hml hv
  obtain ⟨rfl, rfl, hP, hK, hD0⟩ := hv
  have hx := B.exec
  have hb := B.bytes
  have hr := B.returns
  have hts := atoms_spec (ws := vs_C_4_isNewName) B.pre
  have v_1 := hts (.fieldLink RX4 78 "ClockReach$Reader" "kind" "I") (List.mem_cons_of_mem _ cm_222)
  have v_2 := hts (.fieldLink RX4 39 "ClockReach$Reader" "clockNames" "[I") (List.mem_cons_of_mem _ cm_254)
  have v_3 := hts (.fieldLink RX4 66 "ClockReach$Reader" "into" "LClockReach$Automaton;") (List.mem_cons_of_mem _ cm_221)
  have v_4 := hts (.fieldLink RX4 121 "ClockReach$Automaton" "clocks" "I") (List.mem_cons_of_mem _ cm_253)
  have v_10 := hts (.fieldLink RX4 42 "ClockReach$Reader" "placeNames" "[I") (List.mem_cons_of_mem _ cm_263)
  have v_11 := hts (.fieldLink RX4 100 "ClockReach$Automaton" "places" "I") (List.mem_cons_of_mem _ cm_223)
  have hown : s.vm.findClass RX4 = some m.cls := findClass_of_methodNamed B.named
  have hlocks := B.notSynchronized
  have hiX0 : ∀ w ∈ wsX00, w ∈ vs_C_4_isNewName := fun _ h => List.mem_cons_of_mem _ (cm_X0 h)
  have hiX4 : ∀ w ∈ wsX40, w ∈ vs_C_4_isNewName := fun _ h => List.mem_cons_of_mem _ (cm_X4 h)
  have hD := hD0.self (sz := s.heap.size)
  generalize hAe : va_A ((ra__w rd fa fat tp (nI len) (nI pos) (nI kd) vl tka au rw rc rp k_ft ft k_fw fw k_fcn fcn k_fpn fpn (nI nc) (nI np) (nI ne) st0 q4 q5 q6 q7 q8 q9 q10 q11 q12 q13 q14 q15 q16 k_f4 f4 k_f5 (bN 7 q_f5) k_f6 (bN 7 q_f6) k_f7 f7 k_f8 (bN 4 q_f8) k_f9 (bN 2 q_f9) k_f10 f10 k_f11 f11 k_f12 f12 k_f13 f13 k_f14 f14 k_f15 f15 k_f16 f16)) s.heap.size = A at hD ⊢
  have hA : ∀ q : Nat, s.heap.size ≤ q → A q := fun q h => by rw [← hAe]; exact Or.inr h
  have hS : va_S A s.heap s.heap [] := va_S.rf
  have hl := lv_entry ([.ref rd]) (n := 2) (Nat.le_of_ble_eq_true rfl)
  rw [lg_entry_eq]
  generalize (lg_sl ([.ref rd]) ++ List.replicate (2 - (lg_sl ([.ref rd])).length) Slot.unset).toArray = ls at hl ⊢
  have hl : lv_has ls 2 [(0, .ref rd)] := hl
  refine lv_aload_n hx hb eX4_isNewName_0 rfl (lv_at hl 0 rfl) ?_
  refine va_get (D := (dC, dI)) (ci := 4) (v := .int (nI kd)) (C := RX4) (T := TX4) (N := 12) hx hb hts hiX4 hown hK hP 0 rfl rfl 5 (by decide) v_1 (fun _ h9 => h9) rfl eX4_isNewName_1 ?_
  refine lv_iconst (v := 2) hx hb eX4_isNewName_4 (by decide) ?_
  refine lv_icmp_eq (tgt := 13) hx hb eX4_isNewName_5 (by decide) (fun c_1 => ?_) (fun c_1 => ?_)
  · have c_1 : kd = 2 := (nI_eq (a := kd) (b := 2) (Nat.lt_of_le_of_lt hkd (Nat.le_of_ble_eq_true rfl)) (Nat.le_of_ble_eq_true rfl)).mp c_1
    refine lv_aload_n hx hb eX4_isNewName_13 rfl (lv_at hl 0 rfl) ?_
    refine lv_aload_n hx hb eX4_isNewName_14 rfl (lv_at hl 0 rfl) ?_
    refine va_get (D := (dC, dI)) (ci := 4) (v := .ref rc) (C := RX4) (T := TX4) (N := 12) hx hb hts hiX4 hown hK hP 0 rfl rfl 10 (by decide) v_2 (fun _ h9 => h9) rfl eX4_isNewName_15 ?_
    refine lv_aload_n hx hb eX4_isNewName_18 rfl (lv_at hl 0 rfl) ?_
    refine va_get (D := (dC, dI)) (ci := 4) (v := .ref au) (C := RX4) (T := TX4) (N := 12) hx hb hts hiX4 hown hK hP 0 rfl rfl 8 (by decide) v_3 (fun _ h9 => h9) rfl eX4_isNewName_19 ?_
    refine va_get (D := (dC, dI)) (ci := 0) (v := .int (nI nc)) (C := RX0) (T := TX0) (N := 17) hx hb hts hiX0 hown hK hP 5 rfl rfl 0 (by decide) v_4 (fun _ h9 => h9) rfl eX4_isNewName_22 ?_
    refine pu_join (fun H locs ls st => ∃ (g_2 : Nat), st = [.int (nI g_2)] ∧ g_2 ≤ 1 ∧ va_P (dC, dI) vwCl (ra__w rd fa fat tp (nI len) (nI pos) (nI kd) vl tka au rw rc rp k_ft ft k_fw fw k_fcn fcn k_fpn fpn (nI nc) (nI np) (nI ne) st0 q4 q5 q6 q7 q8 q9 q10 q11 q12 q13 q14 q15 q16 k_f4 f4 k_f5 (bN 7 q_f5) k_f6 (bN 7 q_f6) k_f7 f7 k_f8 (bN 4 q_f8) k_f9 (bN 2 q_f9) k_f10 f10 k_f11 f11 k_f12 f12 k_f13 f13 k_f14 f14 k_f15 f15 k_f16 f16) H ∧ va_D A (ra__w rd fa fat tp (nI len) (nI pos) (nI kd) vl tka au rw rc rp k_ft ft k_fw fw k_fcn fcn k_fpn fpn (nI nc) (nI np) (nI ne) st0 q4 q5 q6 q7 q8 q9 q10 q11 q12 q13 q14 q15 q16 k_f4 f4 k_f5 (bN 7 q_f5) k_f6 (bN 7 q_f6) k_f7 f7 k_f8 (bN 4 q_f8) k_f9 (bN 2 q_f9) k_f10 f10 k_f11 f11 k_f12 f12 k_f13 f13 k_f14 f14 k_f15 f15 k_f16 f16) ∧ va_S A s.heap H locs ∧ lv_has ls 2 [(0, .ref rd)]) 56 ?_ (fun j_3 => ?_)
    · rintro H locs ls st ⟨g_2, rfl, hg_2, hP, hD, hS, hl⟩
      refine lv_istore_n (lv' := [(1, .int (nI g_2)), (0, .ref rd)]) hx hb eX4_isNewName_56 rfl hl (by decide) rfl (fun ls hl => ?_)
      refine lv_iload_n hx hb eX4_isNewName_57 rfl (lv_at hl 0 rfl) ?_
      refine lv_if_eq (tgt := 69) hx hb eX4_isNewName_58 (by decide) (fun c_4 => ?_) (fun c_4 => ?_)
      · have c_4 : g_2 = 0 := (nI_eq (a := g_2) (b := 0) (Nat.lt_of_le_of_lt hg_2 (Nat.le_of_ble_eq_true rfl)) (Nat.le_of_ble_eq_true rfl)).mp c_4
        refine lv_iconst (v := 1) hx hb eX4_isNewName_69 (by decide) ?_
        refine lv_goto (tgt := 74) hx hb eX4_isNewName_70 (by decide) ?_
        exact W.zret (v := 1) (ty := .boolean) hx hb hr (rfl) (fun t ht hW => ⟨⟨1, (), rfl, ⟨1, (Nat.le_of_ble_eq_true rfl), rfl⟩, ⟨fa, fat, ⟨by rw [ht]; exact hP, va_K.moved hW.alike hK, hD⟩⟩⟩, hS.F ht⟩) hS.2.2 eX4_isNewName_74
      · have c_4 : ¬ g_2 = 0 := fun z => c_4 ((nI_eq (a := g_2) (b := 0) (Nat.lt_of_le_of_lt hg_2 (Nat.le_of_ble_eq_true rfl)) (Nat.le_of_ble_eq_true rfl)).mpr z)
        refine lv_aload_n hx hb eX4_isNewName_61 rfl (lv_at hl 1 rfl) ?_
        refine lv_iconst (v := 3) hx hb eX4_isNewName_62 (by decide) ?_
        have hPc : va_P (dC, dI) vwCl (rd__w rd fa fat tp (nI len) (nI pos) (nI kd) vl tka au rw rc rp k_ft ft k_fw fw k_fcn fcn k_fpn fpn) _ := hP.sub [0, 1, 2, 3, 4] rfl
        have hDc := hD.sub (ws' := (rd__w rd fa fat tp (nI len) (nI pos) (nI kd) vl tka au rw rc rp k_ft ft k_fw fw k_fcn fcn k_fpn fpn)) [0, 1, 2, 3, 4] (by decide) rfl
        have hKc : va_K (dC, dI) vwCl (rd__t k_ft k_fw k_fcn k_fpn) s := hK.sub [0, 1, 2, 3] rfl
        have hFc := pu_free hDc hS hA
        refine va_calli (va_runV (As := [.int 3]) (rest := []) ⟨hx, hb, hml, hown, hts⟩ (c_C_4_refuse l dC dI _ rd fa fat tp len pos kd vl tka au rw rc rp k_ft ft k_fw fw k_fcn fcn k_fpn fpn 3 hlen hpos hkd) (cwV 1 hts g_C_4_isNewName_C_4_refuse rfl rfl rfl (by decide +kernel) ⟨Nat.le_of_ble_eq_true rfl, Nat.le_of_ble_eq_true rfl⟩) ⟨pu_bl, va_recv hK hP (ci := 4) (q0 := 0) rfl rfl, pu_in hPc hKc hDc⟩ rfl rfl hl.1 rfl (lv_room (Nat.le_of_ble_eq_true rfl)) eX4_isNewName_63 ⟨Nat.le_of_ble_eq_true rfl, Nat.le_of_ble_eq_true rfl⟩) hS (fun q _ h => hFc q h) hFc (fun r_5 u t H1 locs ht hvm hw hB hz1 hk1 hS => ?_)
        obtain ⟨z_fa_6, z_fat_7, ⟨hP1, -, hD1⟩⟩ := hB
        rw [ht] at hP1
        obtain ⟨hP, hD⟩ := pu_put (ws' := (ra__w rd z_fa_6 z_fat_7 tp (nI len) (nI pos) (nI kd) vl tka au rw rc rp k_ft ft k_fw fw k_fcn fcn k_fpn fpn (nI nc) (nI np) (nI ne) st0 q4 q5 q6 q7 q8 q9 q10 q11 q12 q13 q14 q15 q16 k_f4 f4 k_f5 (bN 7 q_f5) k_f6 (bN 7 q_f6) k_f7 f7 k_f8 (bN 4 q_f8) k_f9 (bN 2 q_f9) k_f10 f10 k_f11 f11 k_f12 f12 k_f13 f13 k_f14 f14 k_f15 f15 k_f16 f16)) (w1 := (rd__w rd z_fa_6 z_fat_7 tp (nI len) (nI pos) (nI kd) vl tka au rw rc rp k_ft ft k_fw fw k_fcn fcn k_fpn fpn)) hP hD [0, 1, 2, 3, 4] rfl hk1 hP1 rfl rfl
        clear hP1 hD1 hFc hPc hDc hKc
        clear hk1 hz1 ht hvm
        generalize H1 = H at hP hS ⊢
        obtain rfl : r_5 = 0 := hw
        refine lv_if_eq (tgt := 73) hx hb eX4_isNewName_66 (by decide) (fun _ => ?_) (fun z => absurd z (by decide))
        refine lv_iconst (v := 0) hx hb eX4_isNewName_73 (by decide) ?_
        exact W.zret (v := 0) (ty := .boolean) hx hb hr (rfl) (fun t ht hW => ⟨⟨0, (), rfl, ⟨0, (Nat.le_of_ble_eq_true rfl), rfl⟩, ⟨z_fa_6, z_fat_7, ⟨by rw [ht]; exact hP, va_K.moved hW.alike hK, hD⟩⟩⟩, hS.F ht⟩) hS.2.2 eX4_isNewName_74
    have hPc : va_P (dC, dI) vwCl (rd__w rd fa fat tp (nI len) (nI pos) (nI kd) vl tka au rw rc rp k_ft ft k_fw fw k_fcn fcn k_fpn fpn) _ := hP.sub [0, 1, 2, 3, 4] rfl
    have hDc := hD.sub (ws' := (rd__w rd fa fat tp (nI len) (nI pos) (nI kd) vl tka au rw rc rp k_ft ft k_fw fw k_fcn fcn k_fpn fpn)) [0, 1, 2, 3, 4] (by decide) rfl
    have hKc : va_K (dC, dI) vwCl (rd__t k_ft k_fw k_fcn k_fpn) s := hK.sub [0, 1, 2, 3] rfl
    refine va_calli (va_runV (As := [.ref rc, .int (nI nc)]) (rest := []) ⟨hx, hb, hml, hown, hts⟩ (c_C_4_indexOf_c l dC dI _ rd fa fat tp len pos kd vl tka au rw rc rp k_ft ft k_fw fw k_fcn fcn k_fpn fpn nc hlen hpos hkd hnc) (cwV 2 hts g_C_4_isNewName_C_4_indexOf_c rfl rfl rfl (by decide +kernel) ⟨Nat.le_of_ble_eq_true rfl, Nat.le_of_ble_eq_true rfl⟩) ⟨pu_bl, va_recv hK hP (ci := 4) (q0 := 0) rfl rfl, pu_in hPc hKc hDc⟩ rfl rfl hl.1 rfl (lv_room (Nat.le_of_ble_eq_true rfl)) eX4_isNewName_25 ⟨Nat.le_of_ble_eq_true rfl, Nat.le_of_ble_eq_true rfl⟩) hS (fun q _ h => pu_fr hS hA q h) (pu_fr hS hA) (fun r_8 u t H1 locs ht hvm hw hB hz1 hk1 hS => ?_)
    have hP := pu_keep hP hk1
    clear hk1 hz1 ht hvm
    generalize H1 = H at hP hS ⊢
    rcases hw with rfl | ⟨u_9, hu_9, rfl⟩
    · refine lv_iconst (v := (-1)) hx hb eX4_isNewName_28 (by decide) ?_
      refine lv_icmp_ne (tgt := 51) hx hb eX4_isNewName_29 (by decide) (fun z => absurd z (by decide)) (fun _ => ?_)
      refine lv_aload_n hx hb eX4_isNewName_32 rfl (lv_at hl 0 rfl) ?_
      refine lv_aload_n hx hb eX4_isNewName_33 rfl (lv_at hl 0 rfl) ?_
      refine va_get (D := (dC, dI)) (ci := 4) (v := .ref rp) (C := RX4) (T := TX4) (N := 12) hx hb hts hiX4 hown hK hP 0 rfl rfl 11 (by decide) v_10 (fun _ h9 => h9) rfl eX4_isNewName_34 ?_
      refine lv_aload_n hx hb eX4_isNewName_37 rfl (lv_at hl 0 rfl) ?_
      refine va_get (D := (dC, dI)) (ci := 4) (v := .ref au) (C := RX4) (T := TX4) (N := 12) hx hb hts hiX4 hown hK hP 0 rfl rfl 8 (by decide) v_3 (fun _ h9 => h9) rfl eX4_isNewName_38 ?_
      refine va_get (D := (dC, dI)) (ci := 0) (v := .int (nI np)) (C := RX0) (T := TX0) (N := 17) hx hb hts hiX0 hown hK hP 5 rfl rfl 1 (by decide) v_11 (fun _ h9 => h9) rfl eX4_isNewName_41 ?_
      have hPc : va_P (dC, dI) vwCl (rd__w rd fa fat tp (nI len) (nI pos) (nI kd) vl tka au rw rc rp k_ft ft k_fw fw k_fcn fcn k_fpn fpn) _ := hP.sub [0, 1, 2, 3, 4] rfl
      have hDc := hD.sub (ws' := (rd__w rd fa fat tp (nI len) (nI pos) (nI kd) vl tka au rw rc rp k_ft ft k_fw fw k_fcn fcn k_fpn fpn)) [0, 1, 2, 3, 4] (by decide) rfl
      have hKc : va_K (dC, dI) vwCl (rd__t k_ft k_fw k_fcn k_fpn) s := hK.sub [0, 1, 2, 3] rfl
      refine va_calli (va_runV (As := [.ref rp, .int (nI np)]) (rest := []) ⟨hx, hb, hml, hown, hts⟩ (c_C_4_indexOf_p l dC dI _ rd fa fat tp len pos kd vl tka au rw rc rp k_ft ft k_fw fw k_fcn fcn k_fpn fpn np hlen hpos hkd hnp) (cwV 2 hts g_C_4_isNewName_C_4_indexOf_p rfl rfl rfl (by decide +kernel) ⟨Nat.le_of_ble_eq_true rfl, Nat.le_of_ble_eq_true rfl⟩) ⟨pu_bl, va_recv hK hP (ci := 4) (q0 := 0) rfl rfl, pu_in hPc hKc hDc⟩ rfl rfl hl.1 rfl (lv_room (Nat.le_of_ble_eq_true rfl)) eX4_isNewName_44 ⟨Nat.le_of_ble_eq_true rfl, Nat.le_of_ble_eq_true rfl⟩) hS (fun q _ h => pu_fr hS hA q h) (pu_fr hS hA) (fun r_10 u t H1 locs ht hvm hw hB hz1 hk1 hS => ?_)
      have hP := pu_keep hP hk1
      clear hk1 hz1 ht hvm
      generalize H1 = H at hP hS ⊢
      rcases hw with rfl | ⟨u_11, hu_11, rfl⟩
      · refine lv_iconst (v := (-1)) hx hb eX4_isNewName_47 (by decide) ?_
        refine lv_icmp_eq (tgt := 55) hx hb eX4_isNewName_48 (by decide) (fun _ => ?_) (fun z => absurd z (by decide))
        refine lv_iconst (v := 0) hx hb eX4_isNewName_55 (by decide) ?_
        exact j_3 _ _ _ _ ⟨0, rfl, (Nat.le_of_ble_eq_true rfl), hP, hD, hS, lv_sub hl [0] rfl⟩
      · refine lv_iconst (v := (-1)) hx hb eX4_isNewName_47 (by decide) ?_
        refine lv_icmp_eq (tgt := 55) hx hb eX4_isNewName_48 (by decide) (fun z => absurd z (pu_nneg (n := u_11) (by omega) (by decide))) (fun _ => ?_)
        refine lv_iconst (v := 1) hx hb eX4_isNewName_51 (by decide) ?_
        refine lv_goto (tgt := 56) hx hb eX4_isNewName_52 (by decide) ?_
        exact j_3 _ _ _ _ ⟨1, rfl, (Nat.le_of_ble_eq_true rfl), hP, hD, hS, lv_sub hl [0] rfl⟩
    · refine lv_iconst (v := (-1)) hx hb eX4_isNewName_28 (by decide) ?_
      refine lv_icmp_ne (tgt := 51) hx hb eX4_isNewName_29 (by decide) (fun _ => ?_) (fun z => absurd z (pu_nneg (n := u_9) (by omega) (by decide)))
      refine lv_iconst (v := 1) hx hb eX4_isNewName_51 (by decide) ?_
      refine lv_goto (tgt := 56) hx hb eX4_isNewName_52 (by decide) ?_
      exact j_3 _ _ _ _ ⟨1, rfl, (Nat.le_of_ble_eq_true rfl), hP, hD, hS, lv_sub hl [0] rfl⟩
  · have c_1 : ¬ kd = 2 := fun z => c_1 ((nI_eq (a := kd) (b := 2) (Nat.lt_of_le_of_lt hkd (Nat.le_of_ble_eq_true rfl)) (Nat.le_of_ble_eq_true rfl)).mpr z)
    refine lv_aload_n hx hb eX4_isNewName_8 rfl (lv_at hl 0 rfl) ?_
    have hPc : va_P (dC, dI) vwCl (rd__w rd fa fat tp (nI len) (nI pos) (nI kd) vl tka au rw rc rp k_ft ft k_fw fw k_fcn fcn k_fpn fpn) _ := hP.sub [0, 1, 2, 3, 4] rfl
    have hDc := hD.sub (ws' := (rd__w rd fa fat tp (nI len) (nI pos) (nI kd) vl tka au rw rc rp k_ft ft k_fw fw k_fcn fcn k_fpn fpn)) [0, 1, 2, 3, 4] (by decide) rfl
    have hKc : va_K (dC, dI) vwCl (rd__t k_ft k_fw k_fcn k_fpn) s := hK.sub [0, 1, 2, 3] rfl
    have hFc := pu_free hDc hS hA
    refine va_calli (va_runV (As := []) (rest := []) ⟨hx, hb, hml, hown, hts⟩ (c_C_4_refuseToken l dC dI _ rd fa fat tp len pos kd vl tka au rw rc rp k_ft ft k_fw fw k_fcn fcn k_fpn fpn hlen hpos hkd) (cwV 0 hts g_C_4_isNewName_C_4_refuseToken rfl rfl rfl (by decide +kernel) ⟨Nat.le_of_ble_eq_true rfl, Nat.le_of_ble_eq_true rfl⟩) ⟨pu_bl, va_recv hK hP (ci := 4) (q0 := 0) rfl rfl, pu_in hPc hKc hDc⟩ rfl rfl hl.1 rfl (lv_room (Nat.le_of_ble_eq_true rfl)) eX4_isNewName_9 ⟨Nat.le_of_ble_eq_true rfl, Nat.le_of_ble_eq_true rfl⟩) hS (fun q _ h => hFc q h) hFc (fun r_12 u t H1 locs ht hvm hw hB hz1 hk1 hS => ?_)
    obtain ⟨z_fa_13, z_fat_14, ⟨hP1, -, hD1⟩⟩ := hB
    rw [ht] at hP1
    obtain ⟨hP, hD⟩ := pu_put (ws' := (ra__w rd z_fa_13 z_fat_14 tp (nI len) (nI pos) (nI kd) vl tka au rw rc rp k_ft ft k_fw fw k_fcn fcn k_fpn fpn (nI nc) (nI np) (nI ne) st0 q4 q5 q6 q7 q8 q9 q10 q11 q12 q13 q14 q15 q16 k_f4 f4 k_f5 (bN 7 q_f5) k_f6 (bN 7 q_f6) k_f7 f7 k_f8 (bN 4 q_f8) k_f9 (bN 2 q_f9) k_f10 f10 k_f11 f11 k_f12 f12 k_f13 f13 k_f14 f14 k_f15 f15 k_f16 f16)) (w1 := (rd__w rd z_fa_13 z_fat_14 tp (nI len) (nI pos) (nI kd) vl tka au rw rc rp k_ft ft k_fw fw k_fcn fcn k_fpn fpn)) hP hD [0, 1, 2, 3, 4] rfl hk1 hP1 rfl rfl
    clear hP1 hD1 hFc hPc hDc hKc
    clear hk1 hz1 ht hvm
    generalize H1 = H at hP hS ⊢
    obtain rfl : r_12 = 0 := hw
    exact W.zret (v := 0) (ty := .boolean) hx hb hr (rfl) (fun t ht hW => ⟨⟨0, (), rfl, ⟨0, (Nat.le_of_ble_eq_true rfl), rfl⟩, ⟨z_fa_13, z_fat_14, ⟨by rw [ht]; exact hP, va_K.moved hW.alike hK, hD⟩⟩⟩, hS.F ht⟩) hS.2.2 eX4_isNewName_12
theorem eX4_readHow_0 : decode cX4_readHow 0 = .ok (.aload_n 0, 1) := by decide +kernel
theorem eX4_readHow_1 : decode cX4_readHow 1 = .ok (.getfield 78, 3) := by decide +kernel
theorem eX4_readHow_4 : decode cX4_readHow 4 = .ok (.istore_n 2, 1) := by decide +kernel
theorem eX4_readHow_5 : decode cX4_readHow 5 = .ok (.iload_n 2, 1) := by decide +kernel
theorem eX4_readHow_6 : decode cX4_readHow 6 = .ok (.iconst 4, 1) := by decide +kernel
theorem eX4_readHow_7 : decode cX4_readHow 7 = .ok (.if_icmp .eq 25, 3) := by decide +kernel
theorem eX4_readHow_10 : decode cX4_readHow 10 = .ok (.iload_n 1, 1) := by decide +kernel
theorem eX4_readHow_11 : decode cX4_readHow 11 = .ok (.ifCond .ne 14, 3) := by decide +kernel
theorem eX4_readHow_14 : decode cX4_readHow 14 = .ok (.iload_n 2, 1) := by decide +kernel
theorem eX4_readHow_15 : decode cX4_readHow 15 = .ok (.iconst 5, 1) := by decide +kernel
theorem eX4_readHow_16 : decode cX4_readHow 16 = .ok (.if_icmp .eq 16, 3) := by decide +kernel
theorem eX4_readHow_19 : decode cX4_readHow 19 = .ok (.iload_n 2, 1) := by decide +kernel
theorem eX4_readHow_20 : decode cX4_readHow 20 = .ok (.bipush 6, 2) := by decide +kernel
theorem eX4_readHow_22 : decode cX4_readHow 22 = .ok (.if_icmp .eq 10, 3) := by decide +kernel
theorem eX4_readHow_25 : decode cX4_readHow 25 = .ok (.aload_n 0, 1) := by decide +kernel
theorem eX4_readHow_26 : decode cX4_readHow 26 = .ok (.invokevirtual 94, 3) := by decide +kernel
theorem eX4_readHow_29 : decode cX4_readHow 29 = .ok (.pop, 1) := by decide +kernel
theorem eX4_readHow_30 : decode cX4_readHow 30 = .ok (.iconst (-1), 1) := by decide +kernel
theorem eX4_readHow_31 : decode cX4_readHow 31 = .ok (.ireturn, 1) := by decide +kernel
theorem eX4_readHow_32 : decode cX4_readHow 32 = .ok (.aload_n 0, 1) := by decide +kernel
theorem eX4_readHow_33 : decode cX4_readHow 33 = .ok (.invokevirtual 75, 3) := by decide +kernel
theorem eX4_readHow_36 : decode cX4_readHow 36 = .ok (.iload_n 2, 1) := by decide +kernel
theorem eX4_readHow_37 : decode cX4_readHow 37 = .ok (.iconst 5, 1) := by decide +kernel
theorem eX4_readHow_38 : decode cX4_readHow 38 = .ok (.if_icmp .ne 5, 3) := by decide +kernel
theorem eX4_readHow_41 : decode cX4_readHow 41 = .ok (.iconst 2, 1) := by decide +kernel
theorem eX4_readHow_42 : decode cX4_readHow 42 = .ok (.ireturn, 1) := by decide +kernel
theorem eX4_readHow_43 : decode cX4_readHow 43 = .ok (.aload_n 0, 1) := by decide +kernel
theorem eX4_readHow_44 : decode cX4_readHow 44 = .ok (.getfield 78, 3) := by decide +kernel
theorem eX4_readHow_47 : decode cX4_readHow 47 = .ok (.iconst 5, 1) := by decide +kernel
theorem eX4_readHow_48 : decode cX4_readHow 48 = .ok (.if_icmp .eq 14, 3) := by decide +kernel
theorem eX4_readHow_51 : decode cX4_readHow 51 = .ok (.iload_n 2, 1) := by decide +kernel
theorem eX4_readHow_52 : decode cX4_readHow 52 = .ok (.iconst 4, 1) := by decide +kernel
theorem eX4_readHow_53 : decode cX4_readHow 53 = .ok (.if_icmp .ne 7, 3) := by decide +kernel
theorem eX4_readHow_56 : decode cX4_readHow 56 = .ok (.iconst 0, 1) := by decide +kernel
theorem eX4_readHow_57 : decode cX4_readHow 57 = .ok (.goto 4, 3) := by decide +kernel
theorem eX4_readHow_60 : decode cX4_readHow 60 = .ok (.iconst 4, 1) := by decide +kernel
theorem eX4_readHow_61 : decode cX4_readHow 61 = .ok (.ireturn, 1) := by decide +kernel
theorem eX4_readHow_62 : decode cX4_readHow 62 = .ok (.aload_n 0, 1) := by decide +kernel
theorem eX4_readHow_63 : decode cX4_readHow 63 = .ok (.invokevirtual 75, 3) := by decide +kernel
theorem eX4_readHow_66 : decode cX4_readHow 66 = .ok (.iload_n 2, 1) := by decide +kernel
theorem eX4_readHow_67 : decode cX4_readHow 67 = .ok (.iconst 4, 1) := by decide +kernel
theorem eX4_readHow_68 : decode cX4_readHow 68 = .ok (.if_icmp .ne 7, 3) := by decide +kernel
theorem eX4_readHow_71 : decode cX4_readHow 71 = .ok (.iconst 1, 1) := by decide +kernel
theorem eX4_readHow_72 : decode cX4_readHow 72 = .ok (.goto 4, 3) := by decide +kernel
theorem eX4_readHow_75 : decode cX4_readHow 75 = .ok (.iconst 3, 1) := by decide +kernel
theorem eX4_readHow_76 : decode cX4_readHow 76 = .ok (.ireturn, 1) := by decide +kernel
abbrev vs_C_4_readHow : List Cond := .code yX4_readHow cX4_readHow 3 (some .int) :: CM
theorem g_C_4_readHow_C_4_advance : GoodIn vs_C_4_readHow (wsV RX4 75 RX4 yX4_advance vs_C_4_advance) := cm_gV cm_229 cm_230 cm_231 cm_232 cm_233
theorem g_C_4_readHow_C_4_refuseToken : GoodIn vs_C_4_readHow (wsV RX4 94 RX4 yX4_refuseToken vs_C_4_refuseToken) := cm_gV cm_264 cm_265 cm_266 cm_232 cm_267
set_option maxHeartbeats 4000000 in
set_option maxRecDepth 100000 in
theorem c_C_4_readHow (l : Launch) (dC : Nat → ClassId) (dI : Nat → Nat → Nat) (sz : Nat) (rd : Nat) (fa : Int32) (fat : Int32) (tp : Nat) (len : Nat) (pos : Nat) (kd : Nat) (vl : Int32) (tka : Int32) (au : Nat) (rw : Nat) (rc : Nat) (rp : Nat) (k_ft : ClassId) (ft : Nat → Int32) (k_fw : ClassId) (fw : Nat → Int32) (k_fcn : ClassId) (fcn : Nat → Int32) (k_fpn : ClassId) (fpn : Nat → Int32) (a0 : Nat) (hlen : len ≤ 900) (hpos : pos ≤ 900) (hkd : kd ≤ 15) (ha0 : a0 ≤ 1) : Met l yX4_readHow vs_C_4_readHow ({ frames := 2, cells := 0, slots := 0, locals := 41 }) (va_Pc [.ref rd, .int (nI a0)] (pu_B (dC, dI) (rd__w rd fa fat tp (nI len) (nI pos) (nI kd) vl tka au rw rc rp k_ft ft k_fw fw k_fcn fcn k_fpn fpn) (rd__t k_ft k_fw k_fcn k_fpn) sz)) (va_Qi (fun (r : Int32) (_ : Unit) => r = -1 ∨ ∃ v : Nat, v ≤ 4 ∧ r = nI v) (fun _ t => ∃ (z_fa : Int32) (z_fat : Int32) (z_pos : Nat) (z_kd : Nat) (z_vl : Int32) (z_tka : Int32), pu_E (dC, dI) (rd__w rd z_fa z_fat tp (nI len) (nI z_pos) (nI z_kd) z_vl z_tka au rw rc rp k_ft ft k_fw fw k_fcn fcn k_fpn fpn) (rd__t k_ft k_fw k_fcn k_fpn) (va_A ((rd__w rd fa fat tp (nI len) (nI pos) (nI kd) vl tka au rw rc rp k_ft ft k_fw fw k_fcn fcn k_fpn fpn)) sz) t ∧ (z_pos ≤ 900) ∧ (z_kd ≤ 15)) (va_A ((rd__w rd fa fat tp (nI len) (nI pos) (nI kd) vl tka au rw rc rp k_ft ft k_fw fw k_fcn fcn k_fpn fpn)) sz)) 0 0 (va_A ((rd__w rd fa fat tp (nI len) (nI pos) (nI kd) vl tka au rw rc rp k_ft ft k_fw fw k_fcn fcn k_fpn fpn)) sz) := by
  refine Met.ofW (cc := cX4_readHow) (maxL := 3) (ret := (some .int)) (by decide) rfl ?_
  intro p e s m args below meth c s₁ B hml hv
  obtain ⟨rfl, rfl, hP, hK, hD0⟩ := hv
  have hx := B.exec
  have hb := B.bytes
  have hr := B.returns
  have hts := atoms_spec (ws := vs_C_4_readHow) B.pre
  have v_1 := hts (.fieldLink RX4 78 "ClockReach$Reader" "kind" "I") (List.mem_cons_of_mem _ cm_222)
  have hown : s.vm.findClass RX4 = some m.cls := findClass_of_methodNamed B.named
  have hlocks := B.notSynchronized
  have hiX4 : ∀ w ∈ wsX40, w ∈ vs_C_4_readHow := fun _ h => List.mem_cons_of_mem _ (cm_X4 h)
  have hD := hD0.self (sz := s.heap.size)
  generalize hAe : va_A ((rd__w rd fa fat tp (nI len) (nI pos) (nI kd) vl tka au rw rc rp k_ft ft k_fw fw k_fcn fcn k_fpn fpn)) s.heap.size = A at hD ⊢
  have hA : ∀ q : Nat, s.heap.size ≤ q → A q := fun q h => by rw [← hAe]; exact Or.inr h
  have hS : va_S A s.heap s.heap [] := va_S.rf
  have hl := lv_entry ([.ref rd, .int (nI a0)]) (n := 3) (Nat.le_of_ble_eq_true rfl)
  rw [lg_entry_eq]
  generalize (lg_sl ([.ref rd, .int (nI a0)]) ++ List.replicate (3 - (lg_sl ([.ref rd, .int (nI a0)])).length) Slot.unset).toArray = ls at hl ⊢
  have hl : lv_has ls 3 [(0, .ref rd), (1, .int (nI a0))] := hl
  refine lv_aload_n hx hb eX4_readHow_0 rfl (lv_at hl 0 rfl) ?_
  refine va_get (D := (dC, dI)) (ci := 4) (v := .int (nI kd)) (C := RX4) (T := TX4) (N := 12) hx hb hts hiX4 hown hK hP 0 rfl rfl 5 (by decide) v_1 (fun _ h9 => h9) rfl eX4_readHow_1 ?_
  refine lv_istore_n (lv' := [(2, .int (nI kd)), (0, .ref rd), (1, .int (nI a0))]) hx hb eX4_readHow_4 rfl hl (by decide) rfl (fun ls hl => ?_)
  refine lv_iload_n hx hb eX4_readHow_5 rfl (lv_at hl 0 rfl) ?_
  refine lv_iconst (v := 4) hx hb eX4_readHow_6 (by decide) ?_
  refine lv_icmp_eq (tgt := 32) hx hb eX4_readHow_7 (by decide) (fun c_1 => ?_) (fun c_1 => ?_)
  · have c_1 : kd = 4 := (nI_eq (a := kd) (b := 4) (Nat.lt_of_le_of_lt hkd (Nat.le_of_ble_eq_true rfl)) (Nat.le_of_ble_eq_true rfl)).mp c_1
    refine lv_aload_n hx hb eX4_readHow_32 rfl (lv_at hl 1 rfl) ?_
    have hFc := pu_free hD hS hA
    refine va_callv (va_runV (As := []) (rest := []) ⟨hx, hb, hml, hown, hts⟩ (c_C_4_advance l dC dI _ rd fa fat tp len pos kd vl tka au rw rc rp k_ft ft k_fw fw k_fcn fcn k_fpn fpn hlen hpos hkd) (cwV 0 hts g_C_4_readHow_C_4_advance rfl rfl rfl (by decide +kernel) ⟨Nat.le_of_ble_eq_true rfl, Nat.le_of_ble_eq_true rfl⟩) ⟨pu_bl, va_recv hK hP (ci := 4) (q0 := 0) rfl rfl, pu_in hP hK hD⟩ rfl rfl hl.1 rfl (lv_room (Nat.le_of_ble_eq_true rfl)) eX4_readHow_33 ⟨Nat.le_of_ble_eq_true rfl, Nat.le_of_ble_eq_true rfl⟩) hS (fun q _ h => hFc q h) hFc (fun u t H1 locs ht hvm hw hB hz1 hk1 hS => ?_)
    obtain ⟨z_pos_3, z_kd_4, z_vl_5, z_tka_6, ⟨hP1, -, hD1⟩, hz_pos_3, hz_kd_4⟩ := hB
    rw [ht] at hP1
    have hP := hP1
    have hD := pu_all hFc hD1
    clear hP1 hD1 hFc
    clear hk1 hz1 ht hvm
    generalize H1 = H at hP hS ⊢
    refine lv_iload_n hx hb eX4_readHow_36 rfl (lv_at hl 0 rfl) ?_
    refine lv_iconst (v := 5) hx hb eX4_readHow_37 (by decide) ?_
    refine lv_icmp_ne (tgt := 43) hx hb eX4_readHow_38 (by decide) (fun c_7 => ?_) (fun c_7 => ?_)
    · have c_7 : ¬ kd = 5 := fun z => c_7 ((nI_eq (a := kd) (b := 5) (Nat.lt_of_le_of_lt hkd (Nat.le_of_ble_eq_true rfl)) (Nat.le_of_ble_eq_true rfl)).mpr z)
      refine lv_aload_n hx hb eX4_readHow_43 rfl (lv_at hl 1 rfl) ?_
      refine va_get (D := (dC, dI)) (ci := 4) (v := .int (nI z_kd_4)) (C := RX4) (T := TX4) (N := 12) hx hb hts hiX4 hown hK hP 0 rfl rfl 5 (by decide) v_1 (fun _ h9 => h9) rfl eX4_readHow_44 ?_
      refine lv_iconst (v := 5) hx hb eX4_readHow_47 (by decide) ?_
      refine lv_icmp_eq (tgt := 62) hx hb eX4_readHow_48 (by decide) (fun c_8 => ?_) (fun c_8 => ?_)
      · have c_8 : z_kd_4 = 5 := (nI_eq (a := z_kd_4) (b := 5) (Nat.lt_of_le_of_lt hz_kd_4 (Nat.le_of_ble_eq_true rfl)) (Nat.le_of_ble_eq_true rfl)).mp c_8
        refine lv_aload_n hx hb eX4_readHow_62 rfl (lv_at hl 1 rfl) ?_
        have hFc := pu_free hD hS hA
        refine va_callv (va_runV (As := []) (rest := []) ⟨hx, hb, hml, hown, hts⟩ (c_C_4_advance l dC dI _ rd fa fat tp len z_pos_3 z_kd_4 z_vl_5 z_tka_6 au rw rc rp k_ft ft k_fw fw k_fcn fcn k_fpn fpn hlen hz_pos_3 hz_kd_4) (cwV 0 hts g_C_4_readHow_C_4_advance rfl rfl rfl (by decide +kernel) ⟨Nat.le_of_ble_eq_true rfl, Nat.le_of_ble_eq_true rfl⟩) ⟨pu_bl, va_recv hK hP (ci := 4) (q0 := 0) rfl rfl, pu_in hP hK hD⟩ rfl rfl hl.1 rfl (lv_room (Nat.le_of_ble_eq_true rfl)) eX4_readHow_63 ⟨Nat.le_of_ble_eq_true rfl, Nat.le_of_ble_eq_true rfl⟩) hS (fun q _ h => hFc q h) hFc (fun u t H1 locs ht hvm hw hB hz1 hk1 hS => ?_)
        obtain ⟨z_pos_10, z_kd_11, z_vl_12, z_tka_13, ⟨hP1, -, hD1⟩, hz_pos_10, hz_kd_11⟩ := hB
        rw [ht] at hP1
        have hP := hP1
        have hD := pu_all hFc hD1
        clear hP1 hD1 hFc
        clear hk1 hz1 ht hvm
        generalize H1 = H at hP hS ⊢
        refine lv_iload_n hx hb eX4_readHow_66 rfl (lv_at hl 0 rfl) ?_
        refine lv_iconst (v := 4) hx hb eX4_readHow_67 (by decide) ?_
        refine lv_icmp_ne (tgt := 75) hx hb eX4_readHow_68 (by decide) (fun c_14 => ?_) (fun c_14 => ?_)
        · have c_14 : ¬ kd = 4 := fun z => c_14 ((nI_eq (a := kd) (b := 4) (Nat.lt_of_le_of_lt hkd (Nat.le_of_ble_eq_true rfl)) (Nat.le_of_ble_eq_true rfl)).mpr z)
          exfalso
          omega
        · have c_14 : kd = 4 := (nI_eq (a := kd) (b := 4) (Nat.lt_of_le_of_lt hkd (Nat.le_of_ble_eq_true rfl)) (Nat.le_of_ble_eq_true rfl)).mp c_14
          refine lv_iconst (v := 1) hx hb eX4_readHow_71 (by decide) ?_
          refine lv_goto (tgt := 76) hx hb eX4_readHow_72 (by decide) ?_
          exact W.iret (v := 1) hx hb hr (fun t ht hW => ⟨⟨1, (), rfl, Or.inr ⟨1, (Nat.le_of_ble_eq_true rfl), rfl⟩, ⟨fa, fat, z_pos_10, z_kd_11, z_vl_12, z_tka_13, ⟨by rw [ht]; exact hP, va_K.moved hW.alike hK, hD⟩, hz_pos_10, hz_kd_11⟩⟩, hS.F ht⟩) hS.2.2 eX4_readHow_76
      · have c_8 : ¬ z_kd_4 = 5 := fun z => c_8 ((nI_eq (a := z_kd_4) (b := 5) (Nat.lt_of_le_of_lt hz_kd_4 (Nat.le_of_ble_eq_true rfl)) (Nat.le_of_ble_eq_true rfl)).mpr z)
        refine lv_iload_n hx hb eX4_readHow_51 rfl (lv_at hl 0 rfl) ?_
        refine lv_iconst (v := 4) hx hb eX4_readHow_52 (by decide) ?_
        refine lv_icmp_ne (tgt := 60) hx hb eX4_readHow_53 (by decide) (fun c_15 => ?_) (fun c_15 => ?_)
        · have c_15 : ¬ kd = 4 := fun z => c_15 ((nI_eq (a := kd) (b := 4) (Nat.lt_of_le_of_lt hkd (Nat.le_of_ble_eq_true rfl)) (Nat.le_of_ble_eq_true rfl)).mpr z)
          exfalso
          omega
        · have c_15 : kd = 4 := (nI_eq (a := kd) (b := 4) (Nat.lt_of_le_of_lt hkd (Nat.le_of_ble_eq_true rfl)) (Nat.le_of_ble_eq_true rfl)).mp c_15
          refine lv_iconst (v := 0) hx hb eX4_readHow_56 (by decide) ?_
          refine lv_goto (tgt := 61) hx hb eX4_readHow_57 (by decide) ?_
          exact W.iret (v := 0) hx hb hr (fun t ht hW => ⟨⟨0, (), rfl, Or.inr ⟨0, (Nat.le_of_ble_eq_true rfl), rfl⟩, ⟨fa, fat, z_pos_3, z_kd_4, z_vl_5, z_tka_6, ⟨by rw [ht]; exact hP, va_K.moved hW.alike hK, hD⟩, hz_pos_3, hz_kd_4⟩⟩, hS.F ht⟩) hS.2.2 eX4_readHow_61
    · have c_7 : kd = 5 := (nI_eq (a := kd) (b := 5) (Nat.lt_of_le_of_lt hkd (Nat.le_of_ble_eq_true rfl)) (Nat.le_of_ble_eq_true rfl)).mp c_7
      exfalso
      omega
  · have c_1 : ¬ kd = 4 := fun z => c_1 ((nI_eq (a := kd) (b := 4) (Nat.lt_of_le_of_lt hkd (Nat.le_of_ble_eq_true rfl)) (Nat.le_of_ble_eq_true rfl)).mpr z)
    refine lv_iload_n hx hb eX4_readHow_10 rfl (lv_at hl 2 rfl) ?_
    refine lv_if_ne (tgt := 25) hx hb eX4_readHow_11 (by decide) (fun c_16 => ?_) (fun c_16 => ?_)
    · have c_16 : ¬ a0 = 0 := fun z => c_16 ((nI_eq (a := a0) (b := 0) (Nat.lt_of_le_of_lt ha0 (Nat.le_of_ble_eq_true rfl)) (Nat.le_of_ble_eq_true rfl)).mpr z)
      refine lv_aload_n hx hb eX4_readHow_25 rfl (lv_at hl 1 rfl) ?_
      have hFc := pu_free hD hS hA
      refine va_calli (va_runV (As := []) (rest := []) ⟨hx, hb, hml, hown, hts⟩ (c_C_4_refuseToken l dC dI _ rd fa fat tp len pos kd vl tka au rw rc rp k_ft ft k_fw fw k_fcn fcn k_fpn fpn hlen hpos hkd) (cwV 0 hts g_C_4_readHow_C_4_refuseToken rfl rfl rfl (by decide +kernel) ⟨Nat.le_of_ble_eq_true rfl, Nat.le_of_ble_eq_true rfl⟩) ⟨pu_bl, va_recv hK hP (ci := 4) (q0 := 0) rfl rfl, pu_in hP hK hD⟩ rfl rfl hl.1 rfl (lv_room (Nat.le_of_ble_eq_true rfl)) eX4_readHow_26 ⟨Nat.le_of_ble_eq_true rfl, Nat.le_of_ble_eq_true rfl⟩) hS (fun q _ h => hFc q h) hFc (fun r_17 u t H1 locs ht hvm hw hB hz1 hk1 hS => ?_)
      obtain ⟨z_fa_18, z_fat_19, ⟨hP1, -, hD1⟩⟩ := hB
      rw [ht] at hP1
      have hP := hP1
      have hD := pu_all hFc hD1
      clear hP1 hD1 hFc
      clear hk1 hz1 ht hvm
      generalize H1 = H at hP hS ⊢
      obtain rfl : r_17 = 0 := hw
      refine lv_pop hx hb eX4_readHow_29 rfl ?_
      refine lv_iconst (v := (-1)) hx hb eX4_readHow_30 (by decide) ?_
      exact W.iret (v := (-1)) hx hb hr (fun t ht hW => ⟨⟨(-1), (), rfl, Or.inl rfl, ⟨z_fa_18, z_fat_19, pos, kd, vl, tka, ⟨by rw [ht]; exact hP, va_K.moved hW.alike hK, hD⟩, hpos, hkd⟩⟩, hS.F ht⟩) hS.2.2 eX4_readHow_31
    · have c_16 : a0 = 0 := (nI_eq (a := a0) (b := 0) (Nat.lt_of_le_of_lt ha0 (Nat.le_of_ble_eq_true rfl)) (Nat.le_of_ble_eq_true rfl)).mp c_16
      refine lv_iload_n hx hb eX4_readHow_14 rfl (lv_at hl 0 rfl) ?_
      refine lv_iconst (v := 5) hx hb eX4_readHow_15 (by decide) ?_
      refine lv_icmp_eq (tgt := 32) hx hb eX4_readHow_16 (by decide) (fun c_20 => ?_) (fun c_20 => ?_)
      · have c_20 : kd = 5 := (nI_eq (a := kd) (b := 5) (Nat.lt_of_le_of_lt hkd (Nat.le_of_ble_eq_true rfl)) (Nat.le_of_ble_eq_true rfl)).mp c_20
        refine lv_aload_n hx hb eX4_readHow_32 rfl (lv_at hl 1 rfl) ?_
        have hFc := pu_free hD hS hA
        refine va_callv (va_runV (As := []) (rest := []) ⟨hx, hb, hml, hown, hts⟩ (c_C_4_advance l dC dI _ rd fa fat tp len pos kd vl tka au rw rc rp k_ft ft k_fw fw k_fcn fcn k_fpn fpn hlen hpos hkd) (cwV 0 hts g_C_4_readHow_C_4_advance rfl rfl rfl (by decide +kernel) ⟨Nat.le_of_ble_eq_true rfl, Nat.le_of_ble_eq_true rfl⟩) ⟨pu_bl, va_recv hK hP (ci := 4) (q0 := 0) rfl rfl, pu_in hP hK hD⟩ rfl rfl hl.1 rfl (lv_room (Nat.le_of_ble_eq_true rfl)) eX4_readHow_33 ⟨Nat.le_of_ble_eq_true rfl, Nat.le_of_ble_eq_true rfl⟩) hS (fun q _ h => hFc q h) hFc (fun u t H1 locs ht hvm hw hB hz1 hk1 hS => ?_)
        obtain ⟨z_pos_22, z_kd_23, z_vl_24, z_tka_25, ⟨hP1, -, hD1⟩, hz_pos_22, hz_kd_23⟩ := hB
        rw [ht] at hP1
        have hP := hP1
        have hD := pu_all hFc hD1
        clear hP1 hD1 hFc
        clear hk1 hz1 ht hvm
        generalize H1 = H at hP hS ⊢
        refine lv_iload_n hx hb eX4_readHow_36 rfl (lv_at hl 0 rfl) ?_
        refine lv_iconst (v := 5) hx hb eX4_readHow_37 (by decide) ?_
        refine lv_icmp_ne (tgt := 43) hx hb eX4_readHow_38 (by decide) (fun c_26 => ?_) (fun c_26 => ?_)
        · have c_26 : ¬ kd = 5 := fun z => c_26 ((nI_eq (a := kd) (b := 5) (Nat.lt_of_le_of_lt hkd (Nat.le_of_ble_eq_true rfl)) (Nat.le_of_ble_eq_true rfl)).mpr z)
          exfalso
          omega
        · have c_26 : kd = 5 := (nI_eq (a := kd) (b := 5) (Nat.lt_of_le_of_lt hkd (Nat.le_of_ble_eq_true rfl)) (Nat.le_of_ble_eq_true rfl)).mp c_26
          refine lv_iconst (v := 2) hx hb eX4_readHow_41 (by decide) ?_
          exact W.iret (v := 2) hx hb hr (fun t ht hW => ⟨⟨2, (), rfl, Or.inr ⟨2, (Nat.le_of_ble_eq_true rfl), rfl⟩, ⟨fa, fat, z_pos_22, z_kd_23, z_vl_24, z_tka_25, ⟨by rw [ht]; exact hP, va_K.moved hW.alike hK, hD⟩, hz_pos_22, hz_kd_23⟩⟩, hS.F ht⟩) hS.2.2 eX4_readHow_42
      · have c_20 : ¬ kd = 5 := fun z => c_20 ((nI_eq (a := kd) (b := 5) (Nat.lt_of_le_of_lt hkd (Nat.le_of_ble_eq_true rfl)) (Nat.le_of_ble_eq_true rfl)).mpr z)
        refine lv_iload_n hx hb eX4_readHow_19 rfl (lv_at hl 0 rfl) ?_
        refine lv_bipush (v := 6) hx hb eX4_readHow_20 (by decide) ?_
        refine lv_icmp_eq (tgt := 32) hx hb eX4_readHow_22 (by decide) (fun c_27 => ?_) (fun c_27 => ?_)
        · have c_27 : kd = 6 := (nI_eq (a := kd) (b := 6) (Nat.lt_of_le_of_lt hkd (Nat.le_of_ble_eq_true rfl)) (Nat.le_of_ble_eq_true rfl)).mp c_27
          refine lv_aload_n hx hb eX4_readHow_32 rfl (lv_at hl 1 rfl) ?_
          have hFc := pu_free hD hS hA
          refine va_callv (va_runV (As := []) (rest := []) ⟨hx, hb, hml, hown, hts⟩ (c_C_4_advance l dC dI _ rd fa fat tp len pos kd vl tka au rw rc rp k_ft ft k_fw fw k_fcn fcn k_fpn fpn hlen hpos hkd) (cwV 0 hts g_C_4_readHow_C_4_advance rfl rfl rfl (by decide +kernel) ⟨Nat.le_of_ble_eq_true rfl, Nat.le_of_ble_eq_true rfl⟩) ⟨pu_bl, va_recv hK hP (ci := 4) (q0 := 0) rfl rfl, pu_in hP hK hD⟩ rfl rfl hl.1 rfl (lv_room (Nat.le_of_ble_eq_true rfl)) eX4_readHow_33 ⟨Nat.le_of_ble_eq_true rfl, Nat.le_of_ble_eq_true rfl⟩) hS (fun q _ h => hFc q h) hFc (fun u t H1 locs ht hvm hw hB hz1 hk1 hS => ?_)
          obtain ⟨z_pos_29, z_kd_30, z_vl_31, z_tka_32, ⟨hP1, -, hD1⟩, hz_pos_29, hz_kd_30⟩ := hB
          rw [ht] at hP1
          have hP := hP1
          have hD := pu_all hFc hD1
          clear hP1 hD1 hFc
          clear hk1 hz1 ht hvm
          generalize H1 = H at hP hS ⊢
          refine lv_iload_n hx hb eX4_readHow_36 rfl (lv_at hl 0 rfl) ?_
          refine lv_iconst (v := 5) hx hb eX4_readHow_37 (by decide) ?_
          refine lv_icmp_ne (tgt := 43) hx hb eX4_readHow_38 (by decide) (fun c_33 => ?_) (fun c_33 => ?_)
          · have c_33 : ¬ kd = 5 := fun z => c_33 ((nI_eq (a := kd) (b := 5) (Nat.lt_of_le_of_lt hkd (Nat.le_of_ble_eq_true rfl)) (Nat.le_of_ble_eq_true rfl)).mpr z)
            refine lv_aload_n hx hb eX4_readHow_43 rfl (lv_at hl 1 rfl) ?_
            refine va_get (D := (dC, dI)) (ci := 4) (v := .int (nI z_kd_30)) (C := RX4) (T := TX4) (N := 12) hx hb hts hiX4 hown hK hP 0 rfl rfl 5 (by decide) v_1 (fun _ h9 => h9) rfl eX4_readHow_44 ?_
            refine lv_iconst (v := 5) hx hb eX4_readHow_47 (by decide) ?_
            refine lv_icmp_eq (tgt := 62) hx hb eX4_readHow_48 (by decide) (fun c_34 => ?_) (fun c_34 => ?_)
            · have c_34 : z_kd_30 = 5 := (nI_eq (a := z_kd_30) (b := 5) (Nat.lt_of_le_of_lt hz_kd_30 (Nat.le_of_ble_eq_true rfl)) (Nat.le_of_ble_eq_true rfl)).mp c_34
              refine lv_aload_n hx hb eX4_readHow_62 rfl (lv_at hl 1 rfl) ?_
              have hFc := pu_free hD hS hA
              refine va_callv (va_runV (As := []) (rest := []) ⟨hx, hb, hml, hown, hts⟩ (c_C_4_advance l dC dI _ rd fa fat tp len z_pos_29 z_kd_30 z_vl_31 z_tka_32 au rw rc rp k_ft ft k_fw fw k_fcn fcn k_fpn fpn hlen hz_pos_29 hz_kd_30) (cwV 0 hts g_C_4_readHow_C_4_advance rfl rfl rfl (by decide +kernel) ⟨Nat.le_of_ble_eq_true rfl, Nat.le_of_ble_eq_true rfl⟩) ⟨pu_bl, va_recv hK hP (ci := 4) (q0 := 0) rfl rfl, pu_in hP hK hD⟩ rfl rfl hl.1 rfl (lv_room (Nat.le_of_ble_eq_true rfl)) eX4_readHow_63 ⟨Nat.le_of_ble_eq_true rfl, Nat.le_of_ble_eq_true rfl⟩) hS (fun q _ h => hFc q h) hFc (fun u t H1 locs ht hvm hw hB hz1 hk1 hS => ?_)
              obtain ⟨z_pos_36, z_kd_37, z_vl_38, z_tka_39, ⟨hP1, -, hD1⟩, hz_pos_36, hz_kd_37⟩ := hB
              rw [ht] at hP1
              have hP := hP1
              have hD := pu_all hFc hD1
              clear hP1 hD1 hFc
              clear hk1 hz1 ht hvm
              generalize H1 = H at hP hS ⊢
              refine lv_iload_n hx hb eX4_readHow_66 rfl (lv_at hl 0 rfl) ?_
              refine lv_iconst (v := 4) hx hb eX4_readHow_67 (by decide) ?_
              refine lv_icmp_ne (tgt := 75) hx hb eX4_readHow_68 (by decide) (fun c_40 => ?_) (fun c_40 => ?_)
              · have c_40 : ¬ kd = 4 := fun z => c_40 ((nI_eq (a := kd) (b := 4) (Nat.lt_of_le_of_lt hkd (Nat.le_of_ble_eq_true rfl)) (Nat.le_of_ble_eq_true rfl)).mpr z)
                refine lv_iconst (v := 3) hx hb eX4_readHow_75 (by decide) ?_
                exact W.iret (v := 3) hx hb hr (fun t ht hW => ⟨⟨3, (), rfl, Or.inr ⟨3, (Nat.le_of_ble_eq_true rfl), rfl⟩, ⟨fa, fat, z_pos_36, z_kd_37, z_vl_38, z_tka_39, ⟨by rw [ht]; exact hP, va_K.moved hW.alike hK, hD⟩, hz_pos_36, hz_kd_37⟩⟩, hS.F ht⟩) hS.2.2 eX4_readHow_76
              · have c_40 : kd = 4 := (nI_eq (a := kd) (b := 4) (Nat.lt_of_le_of_lt hkd (Nat.le_of_ble_eq_true rfl)) (Nat.le_of_ble_eq_true rfl)).mp c_40
                exfalso
                omega
            · have c_34 : ¬ z_kd_30 = 5 := fun z => c_34 ((nI_eq (a := z_kd_30) (b := 5) (Nat.lt_of_le_of_lt hz_kd_30 (Nat.le_of_ble_eq_true rfl)) (Nat.le_of_ble_eq_true rfl)).mpr z)
              refine lv_iload_n hx hb eX4_readHow_51 rfl (lv_at hl 0 rfl) ?_
              refine lv_iconst (v := 4) hx hb eX4_readHow_52 (by decide) ?_
              refine lv_icmp_ne (tgt := 60) hx hb eX4_readHow_53 (by decide) (fun c_41 => ?_) (fun c_41 => ?_)
              · have c_41 : ¬ kd = 4 := fun z => c_41 ((nI_eq (a := kd) (b := 4) (Nat.lt_of_le_of_lt hkd (Nat.le_of_ble_eq_true rfl)) (Nat.le_of_ble_eq_true rfl)).mpr z)
                refine lv_iconst (v := 4) hx hb eX4_readHow_60 (by decide) ?_
                exact W.iret (v := 4) hx hb hr (fun t ht hW => ⟨⟨4, (), rfl, Or.inr ⟨4, (Nat.le_of_ble_eq_true rfl), rfl⟩, ⟨fa, fat, z_pos_29, z_kd_30, z_vl_31, z_tka_32, ⟨by rw [ht]; exact hP, va_K.moved hW.alike hK, hD⟩, hz_pos_29, hz_kd_30⟩⟩, hS.F ht⟩) hS.2.2 eX4_readHow_61
              · have c_41 : kd = 4 := (nI_eq (a := kd) (b := 4) (Nat.lt_of_le_of_lt hkd (Nat.le_of_ble_eq_true rfl)) (Nat.le_of_ble_eq_true rfl)).mp c_41
                exfalso
                omega
          · have c_33 : kd = 5 := (nI_eq (a := kd) (b := 5) (Nat.lt_of_le_of_lt hkd (Nat.le_of_ble_eq_true rfl)) (Nat.le_of_ble_eq_true rfl)).mp c_33
            exfalso
            omega
        · have c_27 : ¬ kd = 6 := fun z => c_27 ((nI_eq (a := kd) (b := 6) (Nat.lt_of_le_of_lt hkd (Nat.le_of_ble_eq_true rfl)) (Nat.le_of_ble_eq_true rfl)).mpr z)
          refine lv_aload_n hx hb eX4_readHow_25 rfl (lv_at hl 1 rfl) ?_
          have hFc := pu_free hD hS hA
          refine va_calli (va_runV (As := []) (rest := []) ⟨hx, hb, hml, hown, hts⟩ (c_C_4_refuseToken l dC dI _ rd fa fat tp len pos kd vl tka au rw rc rp k_ft ft k_fw fw k_fcn fcn k_fpn fpn hlen hpos hkd) (cwV 0 hts g_C_4_readHow_C_4_refuseToken rfl rfl rfl (by decide +kernel) ⟨Nat.le_of_ble_eq_true rfl, Nat.le_of_ble_eq_true rfl⟩) ⟨pu_bl, va_recv hK hP (ci := 4) (q0 := 0) rfl rfl, pu_in hP hK hD⟩ rfl rfl hl.1 rfl (lv_room (Nat.le_of_ble_eq_true rfl)) eX4_readHow_26 ⟨Nat.le_of_ble_eq_true rfl, Nat.le_of_ble_eq_true rfl⟩) hS (fun q _ h => hFc q h) hFc (fun r_42 u t H1 locs ht hvm hw hB hz1 hk1 hS => ?_)
          obtain ⟨z_fa_43, z_fat_44, ⟨hP1, -, hD1⟩⟩ := hB
          rw [ht] at hP1
          have hP := hP1
          have hD := pu_all hFc hD1
          clear hP1 hD1 hFc
          clear hk1 hz1 ht hvm
          generalize H1 = H at hP hS ⊢
          obtain rfl : r_42 = 0 := hw
          refine lv_pop hx hb eX4_readHow_29 rfl ?_
          refine lv_iconst (v := (-1)) hx hb eX4_readHow_30 (by decide) ?_
          exact W.iret (v := (-1)) hx hb hr (fun t ht hW => ⟨⟨(-1), (), rfl, Or.inl rfl, ⟨z_fa_43, z_fat_44, pos, kd, vl, tka, ⟨by rw [ht]; exact hP, va_K.moved hW.alike hK, hD⟩, hpos, hkd⟩⟩, hS.F ht⟩) hS.2.2 eX4_readHow_31
