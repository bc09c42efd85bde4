theorem eX0_addCondition_0 : decode cX0_addCondition 0 = .ok (.iload_n 1, 1) := by decide +kernel
theorem eX0_addCondition_1 : decode cX0_addCondition 1 = .ok (.aload_n 0, 1) := by decide +kernel
theorem eX0_addCondition_2 : decode cX0_addCondition 2 = .ok (.getfield 29, 3) := by decide +kernel
theorem eX0_addCondition_5 : decode cX0_addCondition 5 = .ok (.iload_n 1, 1) := by decide +kernel
theorem eX0_addCondition_6 : decode cX0_addCondition 6 = .ok (.iaload, 1) := by decide +kernel
theorem eX0_addCondition_7 : decode cX0_addCondition 7 = .ok (.invokestatic 65, 3) := by decide +kernel
theorem eX0_addCondition_10 : decode cX0_addCondition 10 = .ok (.istore 5, 2) := by decide +kernel
theorem eX0_addCondition_12 : decode cX0_addCondition 12 = .ok (.aload_n 0, 1) := by decide +kernel
theorem eX0_addCondition_13 : decode cX0_addCondition 13 = .ok (.getfield 32, 3) := by decide +kernel
theorem eX0_addCondition_16 : decode cX0_addCondition 16 = .ok (.iload 5, 2) := by decide +kernel
theorem eX0_addCondition_18 : decode cX0_addCondition 18 = .ok (.iload_n 2, 1) := by decide +kernel
theorem eX0_addCondition_19 : decode cX0_addCondition 19 = .ok (.iastore, 1) := by decide +kernel
theorem eX0_addCondition_20 : decode cX0_addCondition 20 = .ok (.aload_n 0, 1) := by decide +kernel
theorem eX0_addCondition_21 : decode cX0_addCondition 21 = .ok (.getfield 35, 3) := by decide +kernel
theorem eX0_addCondition_24 : decode cX0_addCondition 24 = .ok (.iload 5, 2) := by decide +kernel
theorem eX0_addCondition_26 : decode cX0_addCondition 26 = .ok (.iload_n 3, 1) := by decide +kernel
theorem eX0_addCondition_27 : decode cX0_addCondition 27 = .ok (.iastore, 1) := by decide +kernel
theorem eX0_addCondition_28 : decode cX0_addCondition 28 = .ok (.aload_n 0, 1) := by decide +kernel
theorem eX0_addCondition_29 : decode cX0_addCondition 29 = .ok (.getfield 38, 3) := by decide +kernel
theorem eX0_addCondition_32 : decode cX0_addCondition 32 = .ok (.iload 5, 2) := by decide +kernel
theorem eX0_addCondition_34 : decode cX0_addCondition 34 = .ok (.iload 4, 2) := by decide +kernel
theorem eX0_addCondition_36 : decode cX0_addCondition 36 = .ok (.iastore, 1) := by decide +kernel
theorem eX0_addCondition_37 : decode cX0_addCondition 37 = .ok (.aload_n 0, 1) := by decide +kernel
theorem eX0_addCondition_38 : decode cX0_addCondition 38 = .ok (.iload 5, 2) := by decide +kernel
theorem eX0_addCondition_40 : decode cX0_addCondition 40 = .ok (.invokevirtual 69, 3) := by decide +kernel
theorem eX0_addCondition_43 : decode cX0_addCondition 43 = .ok (.aload_n 0, 1) := by decide +kernel
theorem eX0_addCondition_44 : decode cX0_addCondition 44 = .ok (.getfield 29, 3) := by decide +kernel
theorem eX0_addCondition_47 : decode cX0_addCondition 47 = .ok (.iload_n 1, 1) := by decide +kernel
theorem eX0_addCondition_48 : decode cX0_addCondition 48 = .ok (.dup2, 1) := by decide +kernel
theorem eX0_addCondition_49 : decode cX0_addCondition 49 = .ok (.iaload, 1) := by decide +kernel
theorem eX0_addCondition_50 : decode cX0_addCondition 50 = .ok (.iconst 1, 1) := by decide +kernel
theorem eX0_addCondition_51 : decode cX0_addCondition 51 = .ok (.iadd, 1) := by decide +kernel
theorem eX0_addCondition_52 : decode cX0_addCondition 52 = .ok (.iastore, 1) := by decide +kernel
theorem eX0_addCondition_53 : decode cX0_addCondition 53 = .ok (.return_, 1) := by decide +kernel
abbrev vs_E_0_addCondition : List Cond := .code yX0_addCondition cX0_addCondition 6 none :: CM
theorem g_E_0_addCondition_E_0_slot : GoodIn vs_E_0_addCondition (va_wsS RX0 65 yX0_slot vs_E_0_slot) := cm_gS cm_17 cm_18 cm_19 cm_1
theorem g_E_0_addCondition_E_0_setBounds : GoodIn vs_E_0_addCondition (wsV RX0 69 RX0 yX0_setBounds vs_E_0_setBounds) := cm_gV cm_20 cm_21 cm_22 cm_19 cm_23
noncomputable def sp_E_0_addCondition (q_f8 : Nat → Nat) (q_f9 : Nat → Nat) (f10 : Nat → Int32) (f11 : Nat → Int32) (f12 : Nat → Int32) (f13 : Nat → Int32) (a0 : Nat) (a1 : Nat) (p2 : Int32) (p3 : Int32) (c0 : Nat) : (Nat → Int32) × (Nat → Nat) × (Nat → Nat) × (Nat → Int32) × (Nat → Int32) × (Nat → Int32) := (slet (updN q_f9 (a0 * 4 + c0) a1) (fun q_4 => (slet (upd f10 (a0 * 4 + c0) p2) (fun f_5 => (slet (upd f11 (a0 * 4 + c0) p3) (fun f_6 => (slet (sp_E_0_setBounds f_5 f_6 f12 f13 (a0 * 4 + c0)) (fun (z_f13_8, z_f12_9) => (slet (updN q_f8 a0 (c0 + 1)) (fun q_13 => (z_f13_8, q_13, q_4, f_5, f_6, z_f12_9)))))))))))
set_option maxHeartbeats 4000000 in
set_option maxRecDepth 100000 in
theorem c_E_0_addCondition (l : Launch) (dC : Nat → ClassId) (dI : Nat → Nat → Nat) (sz : Nat) (au : Nat) (nc : Nat) (np : Nat) (ne : Nat) (st0 : Int32) (q4 : Nat) (q5 : Nat) (q6 : Nat) (q7 : Nat) (q8 : Nat) (q9 : Nat) (q10 : Nat) (q11 : Nat) (q12 : Nat) (q13 : Nat) (q14 : Nat) (q15 : Nat) (q16 : Nat) (k_f4 : ClassId) (f4 : Nat → Int32) (k_f5 : ClassId) (q_f5 : Nat → Nat) (k_f6 : ClassId) (q_f6 : Nat → Nat) (k_f7 : ClassId) (f7 : Nat → Int32) (k_f8 : ClassId) (q_f8 : Nat → Nat) (k_f9 : ClassId) (q_f9 : Nat → Nat) (k_f10 : ClassId) (f10 : Nat → Int32) (k_f11 : ClassId) (f11 : Nat → Int32) (k_f12 : ClassId) (f12 : Nat → Int32) (k_f13 : ClassId) (f13 : Nat → Int32) (k_f14 : ClassId) (f14 : Nat → Int32) (k_f15 : ClassId) (f15 : Nat → Int32) (k_f16 : ClassId) (f16 : Nat → Int32) (a0 : Nat) (a1 : Nat) (p2 : Int32) (p3 : Int32) (c0 : Nat) (hc0 : c0 ≤ 3) (hnc : nc ≤ 3) (hnp : np ≤ 8) (hne : ne ≤ 14) (hst0 : pm1 7 st0) (ha0 : a0 ≤ 21) (ha1 : a1 ≤ 2) (hq0 : bN 4 q_f8 (nI a0).toNatClampNeg = nI c0) : Met l yX0_addCondition vs_E_0_addCondition ({ frames := 1, cells := 0, slots := 0, locals := 23 }) (va_Pc [.ref au, .int (nI a0), .int (nI a1), .int p2, .int p3] (pu_B (dC, dI) (au__w au (nI nc) (nI np) (nI ne) st0 q4 q5 q6 q7 q8 q9 q10 q11 q12 q13 q14 q15 q16 k_f4 f4 k_f5 (bN 7 q_f5) k_f6 (bN 7 q_f6) k_f7 f7 k_f8 (bN 4 q_f8) k_f9 (bN 2 q_f9) k_f10 f10 k_f11 f11 k_f12 f12 k_f13 f13 k_f14 f14 k_f15 f15 k_f16 f16) (au__t k_f4 k_f5 k_f6 k_f7 k_f8 k_f9 k_f10 k_f11 k_f12 k_f13 k_f14 k_f15 k_f16) sz)) (va_Qv (fun (_ : Unit) => True) (fun _ t => ∃ (z_f13 : Nat → Int32) (z_f8 : Nat → Nat) (z_f9 : Nat → Nat) (z_f10 : Nat → Int32) (z_f11 : Nat → Int32) (z_f12 : Nat → Int32), pu_E (dC, dI) (au__w au (nI nc) (nI np) (nI ne) st0 q4 q5 q6 q7 q8 q9 q10 q11 q12 q13 q14 q15 q16 k_f4 f4 k_f5 (bN 7 q_f5) k_f6 (bN 7 q_f6) k_f7 f7 k_f8 (bN 4 z_f8) k_f9 (bN 2 z_f9) k_f10 z_f10 k_f11 z_f11 k_f12 z_f12 k_f13 z_f13 k_f14 f14 k_f15 f15 k_f16 f16) (au__t k_f4 k_f5 k_f6 k_f7 k_f8 k_f9 k_f10 k_f11 k_f12 k_f13 k_f14 k_f15 k_f16) (va_A ((au__w au (nI nc) (nI np) (nI ne) st0 q4 q5 q6 q7 q8 q9 q10 q11 q12 q13 q14 q15 q16 k_f4 f4 k_f5 (bN 7 q_f5) k_f6 (bN 7 q_f6) k_f7 f7 k_f8 (bN 4 q_f8) k_f9 (bN 2 q_f9) k_f10 f10 k_f11 f11 k_f12 f12 k_f13 f13 k_f14 f14 k_f15 f15 k_f16 f16)) sz) t ∧ (bN 4 z_f8 (nI a0).toNatClampNeg = nI (c0 + 1)) ∧ (co a0 q_f8 z_f8) ∧ ((z_f13, z_f8, z_f9, z_f10, z_f11, z_f12) = (sp_E_0_addCondition q_f8 q_f9 f10 f11 f12 f13 a0 a1 p2 p3 c0))) (va_A ((au__w au (nI nc) (nI np) (nI ne) st0 q4 q5 q6 q7 q8 q9 q10 q11 q12 q13 q14 q15 q16 k_f4 f4 k_f5 (bN 7 q_f5) k_f6 (bN 7 q_f6) k_f7 f7 k_f8 (bN 4 q_f8) k_f9 (bN 2 q_f9) k_f10 f10 k_f11 f11 k_f12 f12 k_f13 f13 k_f14 f14 k_f15 f15 k_f16 f16)) sz)) 0 0 (va_A ((au__w au (nI nc) (nI np) (nI ne) st0 q4 q5 q6 q7 q8 q9 q10 q11 q12 q13 q14 q15 q16 k_f4 f4 k_f5 (bN 7 q_f5) k_f6 (bN 7 q_f6) k_f7 f7 k_f8 (bN 4 q_f8) k_f9 (bN 2 q_f9) k_f10 f10 k_f11 f11 k_f12 f12 k_f13 f13 k_f14 f14 k_f15 f15 k_f16 f16)) sz) := by
  refine Met.ofW (cc := cX0_addCondition) (maxL := 6) (ret := none) (by decide) rfl ?_
  intro p e s m args below meth c s₁ B hml hv
  obtain ⟨rfl, rfl, hP, hK, hD0⟩ := hv
  have hx := B.exec
  have hb := B.bytes
  have hr := B.returns
  have hts := atoms_spec (ws := vs_E_0_addCondition) B.pre
  have v_1 := hts (.fieldLink RX0 29 "ClockReach$Automaton" "counts" "[I") (List.mem_cons_of_mem _ cm_8)
  have v_6 := hts (.fieldLink RX0 32 "ClockReach$Automaton" "conditionClocks" "[I") (List.mem_cons_of_mem _ cm_14)
  have v_7 := hts (.fieldLink RX0 35 "ClockReach$Automaton" "hows" "[I") (List.mem_cons_of_mem _ cm_15)
  have v_8 := hts (.fieldLink RX0 38 "ClockReach$Automaton" "numbers" "[I") (List.mem_cons_of_mem _ cm_16)
  have hown : s.vm.findClass RX0 = some m.cls := findClass_of_methodNamed B.named
  have hlocks := B.notSynchronized
  have hiX0 : ∀ w ∈ wsX00, w ∈ vs_E_0_addCondition := fun _ h => List.mem_cons_of_mem _ (cm_X0 h)
  have hD := hD0.self (sz := s.heap.size)
  generalize hAe : va_A ((au__w au (nI nc) (nI np) (nI ne) st0 q4 q5 q6 q7 q8 q9 q10 q11 q12 q13 q14 q15 q16 k_f4 f4 k_f5 (bN 7 q_f5) k_f6 (bN 7 q_f6) k_f7 f7 k_f8 (bN 4 q_f8) k_f9 (bN 2 q_f9) k_f10 f10 k_f11 f11 k_f12 f12 k_f13 f13 k_f14 f14 k_f15 f15 k_f16 f16)) s.heap.size = A at hD ⊢
  have hA : ∀ q : Nat, s.heap.size ≤ q → A q := fun q h => by rw [← hAe]; exact Or.inr h
  have hS : va_S A s.heap s.heap [] := va_S.rf
  have hl := lv_entry ([.ref au, .int (nI a0), .int (nI a1), .int p2, .int p3]) (n := 6) (Nat.le_of_ble_eq_true rfl)
  rw [lg_entry_eq]
  generalize (lg_sl ([.ref au, .int (nI a0), .int (nI a1), .int p2, .int p3]) ++ List.replicate (6 - (lg_sl ([.ref au, .int (nI a0), .int (nI a1), .int p2, .int p3])).length) Slot.unset).toArray = ls at hl ⊢
  have hl : lv_has ls 6 [(0, .ref au), (1, .int (nI a0)), (2, .int (nI a1)), (3, .int p2), (4, .int p3)] := hl
  obtain ⟨RR, hRR⟩ : ∃ x, x = (sp_E_0_addCondition q_f8 q_f9 f10 f11 f12 f13 a0 a1 p2 p3 c0) := ⟨_, rfl⟩
  have hsp := hRR
  refine lv_iload_n hx hb eX0_addCondition_0 rfl (lv_at hl 1 rfl) ?_
  refine lv_aload_n hx hb eX0_addCondition_1 rfl (lv_at hl 0 rfl) ?_
  refine va_get (D := (dC, dI)) (ci := 0) (v := .ref q8) (C := RX0) (T := TX0) (N := 17) hx hb hts hiX0 hown hK hP 0 rfl rfl 8 (by decide) v_1 (fun _ h9 => h9) rfl eX0_addCondition_2 ?_
  refine lv_iload_n hx hb eX0_addCondition_5 rfl (lv_at hl 1 rfl) ?_
  refine va_iald hx hb hK hP 5 4 rfl rfl (vp_in_nI (n := a0) (Nat.lt_of_le_of_lt ha0 (Nat.le_of_ble_eq_true rfl)) (Nat.le_of_ble_eq_true rfl)) eX0_addCondition_6 ?_
  refine lv_topi (fun y_1 ey_1 => ?_)
  obtain rfl : y_1 = nI c0 := ey_1.trans hq0
  refine va_calli (va_runS (As := [.int (nI a0), .int (nI c0)]) (rest := []) ⟨hx, hb, hml, hown, hts⟩ (c_E_0_slot l dC dI _ a0 c0 ha0 (by omega)) (va_cwS 2 hts g_E_0_addCondition_E_0_slot rfl rfl rfl (by decide +kernel) ⟨Nat.le_of_ble_eq_true rfl, Nat.le_of_ble_eq_true rfl⟩) ⟨pu_bl, pu_in (hP.sub [] rfl) (hK.sub [] rfl) (hD.sub [] (by decide) rfl)⟩ rfl rfl hl.1 rfl (lv_room (Nat.le_of_ble_eq_true rfl)) eX0_addCondition_7 ⟨Nat.le_of_ble_eq_true rfl, Nat.le_of_ble_eq_true rfl⟩) hS (fun q _ h => pu_fr hS hA q h) (pu_fr hS hA) (fun r_3 u t H1 locs ht hvm hw hB hz1 hk1 hS => ?_)
  have hP := pu_keep hP hk1
  clear hk1 hz1 ht hvm
  generalize H1 = H at hP hS ⊢
  obtain rfl : r_3 = nI (a0 * 4 + c0) := hw
  refine lv_istore (lv' := [(5, .int (nI (a0 * 4 + c0))), (0, .ref au), (1, .int (nI a0)), (2, .int (nI a1)), (3, .int p2), (4, .int p3)]) hx hb eX0_addCondition_10 hl (by decide) rfl (fun ls hl => ?_)
  refine lv_aload_n hx hb eX0_addCondition_12 rfl (lv_at hl 1 rfl) ?_
  refine va_get (D := (dC, dI)) (ci := 0) (v := .ref q9) (C := RX0) (T := TX0) (N := 17) hx hb hts hiX0 hown hK hP 0 rfl rfl 9 (by decide) v_6 (fun _ h9 => h9) rfl eX0_addCondition_13 ?_
  refine lv_iload hx hb eX0_addCondition_16 (lv_at hl 0 rfl) ?_
  refine lv_iload_n hx hb eX0_addCondition_18 rfl (lv_at hl 3 rfl) ?_
  refine va_iast hx hb hK hP hD hS 6 5 rfl rfl (vp_in_nI (n := (a0 * 4 + c0)) (by omega) (Nat.le_of_ble_eq_true rfl)) eX0_addCondition_19 (fun H locs hP hD hS => ?_)
  obtain ⟨q_4, eq_4, kq_4, oq_4, xq_4⟩ := bN_upx 2 q_f9 (n := (a0 * 4 + c0)) (v := a1) (by first | omega | exact Nat.lt_trans (zx16 (by omega) (by omega) (by omega)) (Nat.le_of_ble_eq_true rfl) | exact Nat.lt_trans (zy16 (by omega) (by omega)) (Nat.le_of_ble_eq_true rfl) | exact Nat.lt_trans (zx25 (by omega) (by omega) (by omega)) (Nat.le_of_ble_eq_true rfl) | exact Nat.lt_trans (zy25 (by omega) (by omega)) (Nat.le_of_ble_eq_true rfl)) ha1
  have hP : va_P (dC, dI) vwCl (au__w au (nI nc) (nI np) (nI ne) st0 q4 q5 q6 q7 q8 q9 q10 q11 q12 q13 q14 q15 q16 k_f4 f4 k_f5 (bN 7 q_f5) k_f6 (bN 7 q_f6) k_f7 f7 k_f8 (bN 4 q_f8) k_f9 (bN 2 q_4) k_f10 f10 k_f11 f11 k_f12 f12 k_f13 f13 k_f14 f14 k_f15 f15 k_f16 f16) H := by rw [← eq_4]; exact hP
  have hD : va_D A (au__w au (nI nc) (nI np) (nI ne) st0 q4 q5 q6 q7 q8 q9 q10 q11 q12 q13 q14 q15 q16 k_f4 f4 k_f5 (bN 7 q_f5) k_f6 (bN 7 q_f6) k_f7 f7 k_f8 (bN 4 q_f8) k_f9 (bN 2 q_4) k_f10 f10 k_f11 f11 k_f12 f12 k_f13 f13 k_f14 f14 k_f15 f15 k_f16 f16) := by rw [← eq_4]; exact hD
  have hsp := hsp.trans (slet_eq xq_4)
  refine lv_aload_n hx hb eX0_addCondition_20 rfl (lv_at hl 1 rfl) ?_
  refine va_get (D := (dC, dI)) (ci := 0) (v := .ref q10) (C := RX0) (T := TX0) (N := 17) hx hb hts hiX0 hown hK hP 0 rfl rfl 10 (by decide) v_7 (fun _ h9 => h9) rfl eX0_addCondition_21 ?_
  refine lv_iload hx hb eX0_addCondition_24 (lv_at hl 0 rfl) ?_
  refine lv_iload_n hx hb eX0_addCondition_26 rfl (lv_at hl 4 rfl) ?_
  refine va_iast hx hb hK hP hD hS 7 6 rfl rfl (vp_in_nI (n := (a0 * 4 + c0)) (by omega) (Nat.le_of_ble_eq_true rfl)) eX0_addCondition_27 (fun H locs hP hD hS => ?_)
  obtain ⟨f_5, ef_5, xf_5⟩ := up_x f10 (n := (a0 * 4 + c0)) p2 (by first | omega | exact Nat.lt_trans (zx16 (by omega) (by omega) (by omega)) (Nat.le_of_ble_eq_true rfl) | exact Nat.lt_trans (zy16 (by omega) (by omega)) (Nat.le_of_ble_eq_true rfl) | exact Nat.lt_trans (zx25 (by omega) (by omega) (by omega)) (Nat.le_of_ble_eq_true rfl) | exact Nat.lt_trans (zy25 (by omega) (by omega)) (Nat.le_of_ble_eq_true rfl))
  have hP : va_P (dC, dI) vwCl (au__w au (nI nc) (nI np) (nI ne) st0 q4 q5 q6 q7 q8 q9 q10 q11 q12 q13 q14 q15 q16 k_f4 f4 k_f5 (bN 7 q_f5) k_f6 (bN 7 q_f6) k_f7 f7 k_f8 (bN 4 q_f8) k_f9 (bN 2 q_4) k_f10 f_5 k_f11 f11 k_f12 f12 k_f13 f13 k_f14 f14 k_f15 f15 k_f16 f16) H := by rw [← ef_5]; exact hP
  have hD : va_D A (au__w au (nI nc) (nI np) (nI ne) st0 q4 q5 q6 q7 q8 q9 q10 q11 q12 q13 q14 q15 q16 k_f4 f4 k_f5 (bN 7 q_f5) k_f6 (bN 7 q_f6) k_f7 f7 k_f8 (bN 4 q_f8) k_f9 (bN 2 q_4) k_f10 f_5 k_f11 f11 k_f12 f12 k_f13 f13 k_f14 f14 k_f15 f15 k_f16 f16) := by rw [← ef_5]; exact hD
  have hsp := hsp.trans (slet_eq xf_5)
  refine lv_aload_n hx hb eX0_addCondition_28 rfl (lv_at hl 1 rfl) ?_
  refine va_get (D := (dC, dI)) (ci := 0) (v := .ref q11) (C := RX0) (T := TX0) (N := 17) hx hb hts hiX0 hown hK hP 0 rfl rfl 11 (by decide) v_8 (fun _ h9 => h9) rfl eX0_addCondition_29 ?_
  refine lv_iload hx hb eX0_addCondition_32 (lv_at hl 0 rfl) ?_
  refine lv_iload hx hb eX0_addCondition_34 (lv_at hl 5 rfl) ?_
  refine va_iast hx hb hK hP hD hS 8 7 rfl rfl (vp_in_nI (n := (a0 * 4 + c0)) (by omega) (Nat.le_of_ble_eq_true rfl)) eX0_addCondition_36 (fun H locs hP hD hS => ?_)
  obtain ⟨f_6, ef_6, xf_6⟩ := up_x f11 (n := (a0 * 4 + c0)) p3 (by first | omega | exact Nat.lt_trans (zx16 (by omega) (by omega) (by omega)) (Nat.le_of_ble_eq_true rfl) | exact Nat.lt_trans (zy16 (by omega) (by omega)) (Nat.le_of_ble_eq_true rfl) | exact Nat.lt_trans (zx25 (by omega) (by omega) (by omega)) (Nat.le_of_ble_eq_true rfl) | exact Nat.lt_trans (zy25 (by omega) (by omega)) (Nat.le_of_ble_eq_true rfl))
  have hP : va_P (dC, dI) vwCl (au__w au (nI nc) (nI np) (nI ne) st0 q4 q5 q6 q7 q8 q9 q10 q11 q12 q13 q14 q15 q16 k_f4 f4 k_f5 (bN 7 q_f5) k_f6 (bN 7 q_f6) k_f7 f7 k_f8 (bN 4 q_f8) k_f9 (bN 2 q_4) k_f10 f_5 k_f11 f_6 k_f12 f12 k_f13 f13 k_f14 f14 k_f15 f15 k_f16 f16) H := by rw [← ef_6]; exact hP
  have hD : va_D A (au__w au (nI nc) (nI np) (nI ne) st0 q4 q5 q6 q7 q8 q9 q10 q11 q12 q13 q14 q15 q16 k_f4 f4 k_f5 (bN 7 q_f5) k_f6 (bN 7 q_f6) k_f7 f7 k_f8 (bN 4 q_f8) k_f9 (bN 2 q_4) k_f10 f_5 k_f11 f_6 k_f12 f12 k_f13 f13 k_f14 f14 k_f15 f15 k_f16 f16) := by rw [← ef_6]; exact hD
  have hsp := hsp.trans (slet_eq xf_6)
  refine lv_aload_n hx hb eX0_addCondition_37 rfl (lv_at hl 1 rfl) ?_
  refine lv_iload hx hb eX0_addCondition_38 (lv_at hl 0 rfl) ?_
  have hFc := pu_free hD hS hA
  refine va_callv (va_runV (As := [.int (nI (a0 * 4 + c0))]) (rest := []) ⟨hx, hb, hml, hown, hts⟩ (c_E_0_setBounds l dC dI _ au nc np ne st0 q4 q5 q6 q7 q8 q9 q10 q11 q12 q13 q14 q15 q16 k_f4 f4 k_f5 q_f5 k_f6 q_f6 k_f7 f7 k_f8 q_f8 k_f9 q_4 k_f10 f_5 k_f11 f_6 k_f12 f12 k_f13 f13 k_f14 f14 k_f15 f15 k_f16 f16 (a0 * 4 + c0) hnc hnp hne (hst0) (by omega)) (cwV 1 hts g_E_0_addCondition_E_0_setBounds rfl rfl rfl (by decide +kernel) ⟨Nat.le_of_ble_eq_true rfl, Nat.le_of_ble_eq_true rfl⟩) ⟨pu_bl, va_recv hK hP (ci := 0) (q0 := 0) rfl rfl, pu_in hP hK hD⟩ rfl rfl hl.1 rfl (lv_room (Nat.le_of_ble_eq_true rfl)) eX0_addCondition_40 ⟨Nat.le_of_ble_eq_true rfl, Nat.le_of_ble_eq_true rfl⟩) hS (fun q _ h => hFc q h) hFc (fun u t H1 locs ht hvm hw hB hz1 hk1 hS => ?_)
  obtain ⟨z_f13_8, z_f12_9, ⟨hP1, -, hD1⟩, xr_7_0⟩ := hB
  rw [ht] at hP1
  have hP := hP1
  have hD := pu_all hFc hD1
  clear hP1 hD1 hFc
  clear hk1 hz1 ht hvm
  generalize H1 = H at hP hS ⊢
  have hsp := hsp.trans (slet_eq xr_7_0)
  refine lv_aload_n hx hb eX0_addCondition_43 rfl (lv_at hl 1 rfl) ?_
  refine va_get (D := (dC, dI)) (ci := 0) (v := .ref q8) (C := RX0) (T := TX0) (N := 17) hx hb hts hiX0 hown hK hP 0 rfl rfl 8 (by decide) v_1 (fun _ h9 => h9) rfl eX0_addCondition_44 ?_
  refine lv_iload_n hx hb eX0_addCondition_47 rfl (lv_at hl 2 rfl) ?_
  refine lv_dup2_11 hx hb eX0_addCondition_48 rfl rfl ?_
  refine va_iald hx hb hK hP 5 4 rfl rfl (vp_in_nI (n := a0) (Nat.lt_of_le_of_lt ha0 (Nat.le_of_ble_eq_true rfl)) (Nat.le_of_ble_eq_true rfl)) eX0_addCondition_49 ?_
  refine lv_topi (fun y_10 ey_10 => ?_)
  obtain rfl : y_10 = nI c0 := ey_10.trans hq0
  refine lv_iconst (v := 1) hx hb eX0_addCondition_50 (by decide) ?_
  refine lv_iadd hx hb eX0_addCondition_51 ?_
  refine lv_topi (fun y_12 ey_12 => ?_)
  obtain rfl : y_12 = (nI (c0 + 1)) := ey_12.trans (nI_add c0 1)
  refine va_iast hx hb hK hP hD hS 5 4 rfl rfl (vp_in_nI (n := a0) (Nat.lt_of_le_of_lt ha0 (Nat.le_of_ble_eq_true rfl)) (Nat.le_of_ble_eq_true rfl)) eX0_addCondition_52 (fun H locs hP hD hS => ?_)
  obtain ⟨q_13, eq_13, kq_13, oq_13, xq_13⟩ := bN_upx 4 q_f8 (n := a0) (v := (c0 + 1)) (Nat.lt_of_le_of_lt ha0 (Nat.le_of_ble_eq_true rfl)) (by omega)
  have hP : va_P (dC, dI) vwCl (au__w au (nI nc) (nI np) (nI ne) st0 q4 q5 q6 q7 q8 q9 q10 q11 q12 q13 q14 q15 q16 k_f4 f4 k_f5 (bN 7 q_f5) k_f6 (bN 7 q_f6) k_f7 f7 k_f8 (bN 4 q_13) k_f9 (bN 2 q_4) k_f10 f_5 k_f11 f_6 k_f12 z_f12_9 k_f13 z_f13_8 k_f14 f14 k_f15 f15 k_f16 f16) H := by rw [← eq_13]; exact hP
  have hD : va_D A (au__w au (nI nc) (nI np) (nI ne) st0 q4 q5 q6 q7 q8 q9 q10 q11 q12 q13 q14 q15 q16 k_f4 f4 k_f5 (bN 7 q_f5) k_f6 (bN 7 q_f6) k_f7 f7 k_f8 (bN 4 q_13) k_f9 (bN 2 q_4) k_f10 f_5 k_f11 f_6 k_f12 z_f12_9 k_f13 z_f13_8 k_f14 f14 k_f15 f15 k_f16 f16) := by rw [← eq_13]; exact hD
  have hsp := hsp.trans (slet_eq xq_13)
  exact W.vret hx hb hr (fun t ht hW => ⟨⟨(), rfl, trivial, ⟨z_f13_8, q_13, q_4, f_5, f_6, z_f12_9, ⟨by rw [ht]; exact hP, va_K.moved hW.alike hK, hD⟩, kq_13, co_step co_refl rfl (by omega) oq_13, (hsp.symm.trans hRR)⟩⟩, hS.F ht⟩) hS.2.2 eX0_addCondition_53
theorem eX0_clear_0 : decode cX0_clear 0 = .ok (.aload_n 0, 1) := by decide +kernel
theorem eX0_clear_1 : decode cX0_clear 1 = .ok (.iconst 0, 1) := by decide +kernel
theorem eX0_clear_2 : decode cX0_clear 2 = .ok (.putfield 56, 3) := by decide +kernel
theorem eX0_clear_5 : decode cX0_clear 5 = .ok (.aload_n 0, 1) := by decide +kernel
theorem eX0_clear_6 : decode cX0_clear 6 = .ok (.iconst 0, 1) := by decide +kernel
theorem eX0_clear_7 : decode cX0_clear 7 = .ok (.putfield 59, 3) := by decide +kernel
theorem eX0_clear_10 : decode cX0_clear 10 = .ok (.aload_n 0, 1) := by decide +kernel
theorem eX0_clear_11 : decode cX0_clear 11 = .ok (.iconst 0, 1) := by decide +kernel
theorem eX0_clear_12 : decode cX0_clear 12 = .ok (.putfield 62, 3) := by decide +kernel
theorem eX0_clear_15 : decode cX0_clear 15 = .ok (.aload_n 0, 1) := by decide +kernel
theorem eX0_clear_16 : decode cX0_clear 16 = .ok (.iconst (-1), 1) := by decide +kernel
theorem eX0_clear_17 : decode cX0_clear 17 = .ok (.putfield 9, 3) := by decide +kernel
theorem eX0_clear_20 : decode cX0_clear 20 = .ok (.iconst 0, 1) := by decide +kernel
theorem eX0_clear_21 : decode cX0_clear 21 = .ok (.istore_n 1, 1) := by decide +kernel
theorem eX0_clear_22 : decode cX0_clear 22 = .ok (.iload_n 1, 1) := by decide +kernel
theorem eX0_clear_23 : decode cX0_clear 23 = .ok (.bipush 8, 2) := by decide +kernel
theorem eX0_clear_25 : decode cX0_clear 25 = .ok (.if_icmp .ge 16, 3) := by decide +kernel
theorem eX0_clear_28 : decode cX0_clear 28 = .ok (.aload_n 0, 1) := by decide +kernel
theorem eX0_clear_29 : decode cX0_clear 29 = .ok (.getfield 15, 3) := by decide +kernel
theorem eX0_clear_32 : decode cX0_clear 32 = .ok (.iload_n 1, 1) := by decide +kernel
theorem eX0_clear_33 : decode cX0_clear 33 = .ok (.iconst 0, 1) := by decide +kernel
theorem eX0_clear_34 : decode cX0_clear 34 = .ok (.bastore, 1) := by decide +kernel
theorem eX0_clear_35 : decode cX0_clear 35 = .ok (.iinc 1 1, 3) := by decide +kernel
theorem eX0_clear_38 : decode cX0_clear 38 = .ok (.goto (-16), 3) := by decide +kernel
theorem eX0_clear_41 : decode cX0_clear 41 = .ok (.iconst 0, 1) := by decide +kernel
theorem eX0_clear_42 : decode cX0_clear 42 = .ok (.istore_n 1, 1) := by decide +kernel
theorem eX0_clear_43 : decode cX0_clear 43 = .ok (.iload_n 1, 1) := by decide +kernel
theorem eX0_clear_44 : decode cX0_clear 44 = .ok (.bipush 22, 2) := by decide +kernel
theorem eX0_clear_46 : decode cX0_clear 46 = .ok (.if_icmp .ge 16, 3) := by decide +kernel
theorem eX0_clear_49 : decode cX0_clear 49 = .ok (.aload_n 0, 1) := by decide +kernel
theorem eX0_clear_50 : decode cX0_clear 50 = .ok (.getfield 29, 3) := by decide +kernel
theorem eX0_clear_53 : decode cX0_clear 53 = .ok (.iload_n 1, 1) := by decide +kernel
theorem eX0_clear_54 : decode cX0_clear 54 = .ok (.iconst 0, 1) := by decide +kernel
theorem eX0_clear_55 : decode cX0_clear 55 = .ok (.iastore, 1) := by decide +kernel
theorem eX0_clear_56 : decode cX0_clear 56 = .ok (.iinc 1 1, 3) := by decide +kernel
theorem eX0_clear_59 : decode cX0_clear 59 = .ok (.goto (-16), 3) := by decide +kernel
theorem eX0_clear_62 : decode cX0_clear 62 = .ok (.return_, 1) := by decide +kernel
abbrev vs_E_0_clear : List Cond := .code yX0_clear cX0_clear 2 none :: CM
noncomputable def sp_E_0_clear_L1 (g_3 : Nat → Int32) : ((Nat → Nat) × Nat) → ((Nat → Nat) × Nat) ⊕ ((Nat → Int32) × (Nat → Nat)) := fun (g_15, g_16) => (if 22 ≤ g_16 then (Sum.inr (g_3, g_15)) else (slet (updN g_15 g_16 0) (fun q_25 => (Sum.inl (q_25, (g_16 + 1))))))
noncomputable def sp_E_0_clear_L2 (q_f8 : Nat → Nat) : ((Nat → Int32) × Nat) → ((Nat → Int32) × Nat) ⊕ ((Nat → Int32) × (Nat → Nat)) := fun (g_3, g_4) => (if 8 ≤ g_4 then (Sum.inr (itrv (α := (Nat → Nat) × Nat) (β := ((Nat → Int32) × (Nat → Nat))) default (sp_E_0_clear_L1 g_3) (q_f8, 0))) else (slet (upd g_3 g_4 (vp_nar .boolean 0)) (fun f_26 => (Sum.inl (f_26, (g_4 + 1))))))
noncomputable def sp_E_0_clear (f4 : Nat → Int32) (q_f8 : Nat → Nat) : (Nat → Int32) × (Nat → Nat) := (itrv (α := (Nat → Int32) × Nat) (β := ((Nat → Int32) × (Nat → Nat))) default (sp_E_0_clear_L2 q_f8) (f4, 0))
set_option maxHeartbeats 4000000 in
set_option maxRecDepth 100000 in
theorem c_E_0_clear (l : Launch) (dC : Nat → ClassId) (dI : Nat → Nat → Nat) (sz : Nat) (au : Nat) (nc : Nat) (np : Nat) (ne : Nat) (st0 : Int32) (q4 : Nat) (q5 : Nat) (q6 : Nat) (q7 : Nat) (q8 : Nat) (q9 : Nat) (q10 : Nat) (q11 : Nat) (q12 : Nat) (q13 : Nat) (q14 : Nat) (q15 : Nat) (q16 : Nat) (k_f4 : ClassId) (f4 : Nat → Int32) (k_f5 : ClassId) (q_f5 : Nat → Nat) (k_f6 : ClassId) (q_f6 : Nat → Nat) (k_f7 : ClassId) (f7 : Nat → Int32) (k_f8 : ClassId) (q_f8 : Nat → Nat) (k_f9 : ClassId) (q_f9 : Nat → Nat) (k_f10 : ClassId) (f10 : Nat → Int32) (k_f11 : ClassId) (f11 : Nat → Int32) (k_f12 : ClassId) (f12 : Nat → Int32) (k_f13 : ClassId) (f13 : Nat → Int32) (k_f14 : ClassId) (f14 : Nat → Int32) (k_f15 : ClassId) (f15 : Nat → Int32) (k_f16 : ClassId) (f16 : Nat → Int32) (hnc : nc ≤ 3) (hnp : np ≤ 8) (hne : ne ≤ 14) (hst0 : pm1 7 st0) : Met l yX0_clear vs_E_0_clear ({ frames := 0, cells := 0, slots := 0, locals := 0 }) (va_Pc [.ref au] (pu_B (dC, dI) (au__w au (nI nc) (nI np) (nI ne) st0 q4 q5 q6 q7 q8 q9 q10 q11 q12 q13 q14 q15 q16 k_f4 f4 k_f5 (bN 7 q_f5) k_f6 (bN 7 q_f6) k_f7 f7 k_f8 (bN 4 q_f8) k_f9 (bN 2 q_f9) k_f10 f10 k_f11 f11 k_f12 f12 k_f13 f13 k_f14 f14 k_f15 f15 k_f16 f16) (au__t k_f4 k_f5 k_f6 k_f7 k_f8 k_f9 k_f10 k_f11 k_f12 k_f13 k_f14 k_f15 k_f16) sz)) (va_Qv (fun (_ : Unit) => True) (fun _ t => ∃ (z_f4 : Nat → Int32) (z_f8 : Nat → Nat), pu_E (dC, dI) (au__w au 0 0 0 (-1) q4 q5 q6 q7 q8 q9 q10 q11 q12 q13 q14 q15 q16 k_f4 z_f4 k_f5 (bN 7 q_f5) k_f6 (bN 7 q_f6) k_f7 f7 k_f8 (bN 4 z_f8) k_f9 (bN 2 q_f9) k_f10 f10 k_f11 f11 k_f12 f12 k_f13 f13 k_f14 f14 k_f15 f15 k_f16 f16) (au__t k_f4 k_f5 k_f6 k_f7 k_f8 k_f9 k_f10 k_f11 k_f12 k_f13 k_f14 k_f15 k_f16) (va_A ((au__w au (nI nc) (nI np) (nI ne) st0 q4 q5 q6 q7 q8 q9 q10 q11 q12 q13 q14 q15 q16 k_f4 f4 k_f5 (bN 7 q_f5) k_f6 (bN 7 q_f6) k_f7 f7 k_f8 (bN 4 q_f8) k_f9 (bN 2 q_f9) k_f10 f10 k_f11 f11 k_f12 f12 k_f13 f13 k_f14 f14 k_f15 f15 k_f16 f16)) sz) t ∧ (cz 0 0 z_f8) ∧ ((z_f4, z_f8) = (sp_E_0_clear f4 q_f8))) (va_A ((au__w au (nI nc) (nI np) (nI ne) st0 q4 q5 q6 q7 q8 q9 q10 q11 q12 q13 q14 q15 q16 k_f4 f4 k_f5 (bN 7 q_f5) k_f6 (bN 7 q_f6) k_f7 f7 k_f8 (bN 4 q_f8) k_f9 (bN 2 q_f9) k_f10 f10 k_f11 f11 k_f12 f12 k_f13 f13 k_f14 f14 k_f15 f15 k_f16 f16)) sz)) 0 0 (va_A ((au__w au (nI nc) (nI np) (nI ne) st0 q4 q5 q6 q7 q8 q9 q10 q11 q12 q13 q14 q15 q16 k_f4 f4 k_f5 (bN 7 q_f5) k_f6 (bN 7 q_f6) k_f7 f7 k_f8 (bN 4 q_f8) k_f9 (bN 2 q_f9) k_f10 f10 k_f11 f11 k_f12 f12 k_f13 f13 k_f14 f14 k_f15 f15 k_f16 f16)) sz) := by
  refine Met.ofW (cc := cX0_clear) (maxL := 2) (ret := none) (by decide) rfl ?_
  intro p e s m args below meth c s₁ B hml hv
  obtain ⟨rfl, rfl, hP, hK, hD0⟩ := hv
  have hx := B.exec
  have hb := B.bytes
  have hr := B.returns
  have hts := atoms_spec (ws := vs_E_0_clear) B.pre
  have v_1 := hts (.fieldLink RX0 56 "ClockReach$Automaton" "clocks" "I") (List.mem_cons_of_mem _ cm_3)
  have v_2 := hts (.fieldLink RX0 59 "ClockReach$Automaton" "places" "I") (List.mem_cons_of_mem _ cm_4)
  have v_3 := hts (.fieldLink RX0 62 "ClockReach$Automaton" "edges" "I") (List.mem_cons_of_mem _ cm_5)
  have v_4 := hts (.fieldLink RX0 9 "ClockReach$Automaton" "start" "I") (List.mem_cons_of_mem _ cm_6)
  have v_5 := hts (.fieldLink RX0 15 "ClockReach$Automaton" "hurried" "[Z") (List.mem_cons_of_mem _ cm_7)
  have v_6 := hts (.fieldLink RX0 29 "ClockReach$Automaton" "counts" "[I") (List.mem_cons_of_mem _ cm_8)
  have hown : s.vm.findClass RX0 = some m.cls := findClass_of_methodNamed B.named
  have hlocks := B.notSynchronized
  have hiX0 : ∀ w ∈ wsX00, w ∈ vs_E_0_clear := fun _ h => List.mem_cons_of_mem _ (cm_X0 h)
  have hD := hD0.self (sz := s.heap.size)
  generalize hAe : va_A ((au__w au (nI nc) (nI np) (nI ne) st0 q4 q5 q6 q7 q8 q9 q10 q11 q12 q13 q14 q15 q16 k_f4 f4 k_f5 (bN 7 q_f5) k_f6 (bN 7 q_f6) k_f7 f7 k_f8 (bN 4 q_f8) k_f9 (bN 2 q_f9) k_f10 f10 k_f11 f11 k_f12 f12 k_f13 f13 k_f14 f14 k_f15 f15 k_f16 f16)) s.heap.size = A at hD ⊢
  have hA : ∀ q : Nat, s.heap.size ≤ q → A q := fun q h => by rw [← hAe]; exact Or.inr h
  have hS : va_S A s.heap s.heap [] := va_S.rf
  have hl := lv_entry ([.ref au]) (n := 2) (Nat.le_of_ble_eq_true rfl)
  rw [lg_entry_eq]
  generalize (lg_sl ([.ref au]) ++ List.replicate (2 - (lg_sl ([.ref au])).length) Slot.unset).toArray = ls at hl ⊢
  have hl : lv_has ls 2 [(0, .ref au)] := hl
  obtain ⟨RR, hRR⟩ : ∃ x, x = (sp_E_0_clear f4 q_f8) := ⟨_, rfl⟩
  have hsp := hRR
  refine lv_aload_n hx hb eX0_clear_0 rfl (lv_at hl 0 rfl) ?_
  refine lv_iconst (v := 0) hx hb eX0_clear_1 (by decide) ?_
  refine va_put (D := (dC, dI)) (ci := 0) (v := .int 0) (ty := .int) (C := RX0) (T := TX0) (N := 17) hx hb hts hiX0 tyX0 tyX0_ok nmX0 hown hK hP hD hS 0 rfl rfl 0 (by decide) v_1 (fun _ h9 => h9) rfl (by decide +kernel) rfl rfl (Nat.le_of_ble_eq_true rfl) eX0_clear_2 (fun H locs hP hD hS => ?_)
  have hP : va_P (dC, dI) vwCl (au__w au 0 (nI np) (nI ne) st0 q4 q5 q6 q7 q8 q9 q10 q11 q12 q13 q14 q15 q16 k_f4 f4 k_f5 (bN 7 q_f5) k_f6 (bN 7 q_f6) k_f7 f7 k_f8 (bN 4 q_f8) k_f9 (bN 2 q_f9) k_f10 f10 k_f11 f11 k_f12 f12 k_f13 f13 k_f14 f14 k_f15 f15 k_f16 f16) H := hP
  have hD : va_D A (au__w au 0 (nI np) (nI ne) st0 q4 q5 q6 q7 q8 q9 q10 q11 q12 q13 q14 q15 q16 k_f4 f4 k_f5 (bN 7 q_f5) k_f6 (bN 7 q_f6) k_f7 f7 k_f8 (bN 4 q_f8) k_f9 (bN 2 q_f9) k_f10 f10 k_f11 f11 k_f12 f12 k_f13 f13 k_f14 f14 k_f15 f15 k_f16 f16) := hD
  refine lv_aload_n hx hb eX0_clear_5 rfl (lv_at hl 0 rfl) ?_
  refine lv_iconst (v := 0) hx hb eX0_clear_6 (by decide) ?_
  refine va_put (D := (dC, dI)) (ci := 0) (v := .int 0) (ty := .int) (C := RX0) (T := TX0) (N := 17) hx hb hts hiX0 tyX0 tyX0_ok nmX0 hown hK hP hD hS 0 rfl rfl 1 (by decide) v_2 (fun _ h9 => h9) rfl (by decide +kernel) rfl rfl (Nat.le_of_ble_eq_true rfl) eX0_clear_7 (fun H locs hP hD hS => ?_)
  have hP : va_P (dC, dI) vwCl (au__w au 0 0 (nI ne) st0 q4 q5 q6 q7 q8 q9 q10 q11 q12 q13 q14 q15 q16 k_f4 f4 k_f5 (bN 7 q_f5) k_f6 (bN 7 q_f6) k_f7 f7 k_f8 (bN 4 q_f8) k_f9 (bN 2 q_f9) k_f10 f10 k_f11 f11 k_f12 f12 k_f13 f13 k_f14 f14 k_f15 f15 k_f16 f16) H := hP
  have hD : va_D A (au__w au 0 0 (nI ne) st0 q4 q5 q6 q7 q8 q9 q10 q11 q12 q13 q14 q15 q16 k_f4 f4 k_f5 (bN 7 q_f5) k_f6 (bN 7 q_f6) k_f7 f7 k_f8 (bN 4 q_f8) k_f9 (bN 2 q_f9) k_f10 f10 k_f11 f11 k_f12 f12 k_f13 f13 k_f14 f14 k_f15 f15 k_f16 f16) := hD
  refine lv_aload_n hx hb eX0_clear_10 rfl (lv_at hl 0 rfl) ?_
  refine lv_iconst (v := 0) hx hb eX0_clear_11 (by decide) ?_
  refine va_put (D := (dC, dI)) (ci := 0) (v := .int 0) (ty := .int) (C := RX0) (T := TX0) (N := 17) hx hb hts hiX0 tyX0 tyX0_ok nmX0 hown hK hP hD hS 0 rfl rfl 2 (by decide) v_3 (fun _ h9 => h9) rfl (by decide +kernel) rfl rfl (Nat.le_of_ble_eq_true rfl) eX0_clear_12 (fun H locs hP hD hS => ?_)
  have hP : va_P (dC, dI) vwCl (au__w au 0 0 0 st0 q4 q5 q6 q7 q8 q9 q10 q11 q12 q13 q14 q15 q16 k_f4 f4 k_f5 (bN 7 q_f5) k_f6 (bN 7 q_f6) k_f7 f7 k_f8 (bN 4 q_f8) k_f9 (bN 2 q_f9) k_f10 f10 k_f11 f11 k_f12 f12 k_f13 f13 k_f14 f14 k_f15 f15 k_f16 f16) H := hP
  have hD : va_D A (au__w au 0 0 0 st0 q4 q5 q6 q7 q8 q9 q10 q11 q12 q13 q14 q15 q16 k_f4 f4 k_f5 (bN 7 q_f5) k_f6 (bN 7 q_f6) k_f7 f7 k_f8 (bN 4 q_f8) k_f9 (bN 2 q_f9) k_f10 f10 k_f11 f11 k_f12 f12 k_f13 f13 k_f14 f14 k_f15 f15 k_f16 f16) := hD
  refine lv_aload_n hx hb eX0_clear_15 rfl (lv_at hl 0 rfl) ?_
  refine lv_iconst (v := (-1)) hx hb eX0_clear_16 (by decide) ?_
  refine va_put (D := (dC, dI)) (ci := 0) (v := .int (-1)) (ty := .int) (C := RX0) (T := TX0) (N := 17) hx hb hts hiX0 tyX0 tyX0_ok nmX0 hown hK hP hD hS 0 rfl rfl 3 (by decide) v_4 (fun _ h9 => h9) rfl (by decide +kernel) rfl rfl (Nat.le_of_ble_eq_true rfl) eX0_clear_17 (fun H locs hP hD hS => ?_)
  have hP : va_P (dC, dI) vwCl (au__w au 0 0 0 (-1) q4 q5 q6 q7 q8 q9 q10 q11 q12 q13 q14 q15 q16 k_f4 f4 k_f5 (bN 7 q_f5) k_f6 (bN 7 q_f6) k_f7 f7 k_f8 (bN 4 q_f8) k_f9 (bN 2 q_f9) k_f10 f10 k_f11 f11 k_f12 f12 k_f13 f13 k_f14 f14 k_f15 f15 k_f16 f16) H := hP
  have hD : va_D A (au__w au 0 0 0 (-1) q4 q5 q6 q7 q8 q9 q10 q11 q12 q13 q14 q15 q16 k_f4 f4 k_f5 (bN 7 q_f5) k_f6 (bN 7 q_f6) k_f7 f7 k_f8 (bN 4 q_f8) k_f9 (bN 2 q_f9) k_f10 f10 k_f11 f11 k_f12 f12 k_f13 f13 k_f14 f14 k_f15 f15 k_f16 f16) := hD
  refine lv_iconst (v := 0) hx hb eX0_clear_20 (by decide) ?_
  refine lv_istore_n (lv' := [(1, .int 0), (0, .ref au)]) hx hb eX0_clear_21 rfl hl (by decide) rfl (fun ls hl => ?_)
  obtain ⟨lf_6, dlf_6, hlf_6, hsp⟩ := itr_ex hsp
  delta sp_E_0_clear_L2 at hlf_6
  refine pu_while (fun nn H locs ls => ∃ (g_3 : Nat → Int32) (g_4 : Nat), nn = 8 - g_4 ∧ g_4 ≤ 8 ∧ RR = itrv dlf_6 lf_6 (g_3, g_4) ∧ va_P (dC, dI) vwCl (au__w au 0 0 0 (-1) q4 q5 q6 q7 q8 q9 q10 q11 q12 q13 q14 q15 q16 k_f4 g_3 k_f5 (bN 7 q_f5) k_f6 (bN 7 q_f6) k_f7 f7 k_f8 (bN 4 q_f8) k_f9 (bN 2 q_f9) k_f10 f10 k_f11 f11 k_f12 f12 k_f13 f13 k_f14 f14 k_f15 f15 k_f16 f16) H ∧ va_D A (au__w au 0 0 0 (-1) q4 q5 q6 q7 q8 q9 q10 q11 q12 q13 q14 q15 q16 k_f4 g_3 k_f5 (bN 7 q_f5) k_f6 (bN 7 q_f6) k_f7 f7 k_f8 (bN 4 q_f8) k_f9 (bN 2 q_f9) k_f10 f10 k_f11 f11 k_f12 f12 k_f13 f13 k_f14 f14 k_f15 f15 k_f16 f16) ∧ va_S A s.heap H locs ∧ lv_has ls 2 [(0, .ref au), (1, .int (nI g_4))]) 22 ?_ _ _ _ _ ⟨f4, 0, rfl, (Nat.le_of_ble_eq_true rfl), hsp, hP, hD, hS, lv_sub hl [1, 0] rfl⟩
  rintro nn ih_5 H locs ls ⟨g_3, g_4, rfl, hg_4, he_8, hP, hD, hS, hl⟩
  obtain ⟨S_7, hsp, hin_9, hout_10⟩ := itr_step hlf_6 he_8
  refine lv_iload_n hx hb eX0_clear_22 rfl (lv_at hl 1 rfl) ?_
  refine lv_bipush (v := 8) hx hb eX0_clear_23 (by decide) ?_
  refine lv_icmp_ge (tgt := 41) hx hb eX0_clear_25 (by decide) (fun c_11 => ?_) (fun c_11 => ?_)
  · have c_11 : 8 ≤ g_4 := (nI_leI (a := 8) (b := g_4) (Nat.le_of_ble_eq_true rfl) (Nat.lt_of_le_of_lt hg_4 (Nat.le_of_ble_eq_true rfl))).mp c_11
    have hsp := hsp.trans (if_pos c_11)
    have hsp := hout_10 _ hsp
    refine lv_iconst (v := 0) hx hb eX0_clear_41 (by decide) ?_
    refine lv_istore_n (lv' := [(1, .int 0), (0, .ref au)]) hx hb eX0_clear_42 rfl hl (by decide) rfl (fun ls hl => ?_)
    obtain ⟨lf_19, dlf_19, hlf_19, hsp⟩ := itr_ex hsp
    delta sp_E_0_clear_L1 at hlf_19
    refine pu_while (fun nn H locs ls => ∃ (g_15 : Nat → Nat) (g_16 : Nat), nn = 22 - g_16 ∧ g_16 ≤ 22 ∧ zc g_16 g_15 ∧ RR = itrv dlf_19 lf_19 (g_15, g_16) ∧ va_P (dC, dI) vwCl (au__w au 0 0 0 (-1) q4 q5 q6 q7 q8 q9 q10 q11 q12 q13 q14 q15 q16 k_f4 g_3 k_f5 (bN 7 q_f5) k_f6 (bN 7 q_f6) k_f7 f7 k_f8 (bN 4 g_15) k_f9 (bN 2 q_f9) k_f10 f10 k_f11 f11 k_f12 f12 k_f13 f13 k_f14 f14 k_f15 f15 k_f16 f16) H ∧ va_D A (au__w au 0 0 0 (-1) q4 q5 q6 q7 q8 q9 q10 q11 q12 q13 q14 q15 q16 k_f4 g_3 k_f5 (bN 7 q_f5) k_f6 (bN 7 q_f6) k_f7 f7 k_f8 (bN 4 g_15) k_f9 (bN 2 q_f9) k_f10 f10 k_f11 f11 k_f12 f12 k_f13 f13 k_f14 f14 k_f15 f15 k_f16 f16) ∧ va_S A s.heap H locs ∧ lv_has ls 2 [(0, .ref au), (1, .int (nI g_16))]) 43 ?_ _ _ _ _ ⟨q_f8, 0, rfl, (Nat.le_of_ble_eq_true rfl), zc_0, hsp, hP, hD, hS, lv_sub hl [1, 0] rfl⟩
    rintro nn ih_18 H locs ls ⟨g_15, g_16, rfl, hg_16, he_17, he_21, hP, hD, hS, hl⟩
    obtain ⟨S_20, hsp, hin_22, hout_23⟩ := itr_step hlf_19 he_21
    refine lv_iload_n hx hb eX0_clear_43 rfl (lv_at hl 1 rfl) ?_
    refine lv_bipush (v := 22) hx hb eX0_clear_44 (by decide) ?_
    refine lv_icmp_ge (tgt := 62) hx hb eX0_clear_46 (by decide) (fun c_24 => ?_) (fun c_24 => ?_)
    · have c_24 : 22 ≤ g_16 := (nI_leI (a := 22) (b := g_16) (Nat.le_of_ble_eq_true rfl) (Nat.lt_of_le_of_lt hg_16 (Nat.le_of_ble_eq_true rfl))).mp c_24
      have hsp := hsp.trans (if_pos c_24)
      have hsp := hout_23 _ hsp
      exact W.vret hx hb hr (fun t ht hW => ⟨⟨(), rfl, trivial, ⟨g_3, g_15, ⟨by rw [ht]; exact hP, va_K.moved hW.alike hK, hD⟩, zc_cz (by assumption) (by omega), (hsp.symm.trans hRR)⟩⟩, hS.F ht⟩) hS.2.2 eX0_clear_62
    · have c_24 : ¬ 22 ≤ g_16 := fun z => c_24 ((nI_leI (a := 22) (b := g_16) (Nat.le_of_ble_eq_true rfl) (Nat.lt_of_le_of_lt hg_16 (Nat.le_of_ble_eq_true rfl))).mpr z)
      have hsp := hsp.trans (if_neg c_24)
      refine lv_aload_n hx hb eX0_clear_49 rfl (lv_at hl 0 rfl) ?_
      refine va_get (D := (dC, dI)) (ci := 0) (v := .ref q8) (C := RX0) (T := TX0) (N := 17) hx hb hts hiX0 hown hK hP 0 rfl rfl 8 (by decide) v_6 (fun _ h9 => h9) rfl eX0_clear_50 ?_
      refine lv_iload_n hx hb eX0_clear_53 rfl (lv_at hl 1 rfl) ?_
      refine lv_iconst (v := 0) hx hb eX0_clear_54 (by decide) ?_
      refine va_iast hx hb hK hP hD hS 5 4 rfl rfl (vp_in_nI (n := g_16) (by omega) (Nat.le_of_ble_eq_true rfl)) eX0_clear_55 (fun H locs hP hD hS => ?_)
      obtain ⟨q_25, eq_25, kq_25, oq_25, xq_25⟩ := bN_upx 4 g_15 (n := g_16) (v := 0) (Nat.lt_of_le_of_lt hg_16 (Nat.le_of_ble_eq_true rfl)) (Nat.le_of_ble_eq_true rfl)
      have hP : va_P (dC, dI) vwCl (au__w au 0 0 0 (-1) q4 q5 q6 q7 q8 q9 q10 q11 q12 q13 q14 q15 q16 k_f4 g_3 k_f5 (bN 7 q_f5) k_f6 (bN 7 q_f6) k_f7 f7 k_f8 (bN 4 q_25) k_f9 (bN 2 q_f9) k_f10 f10 k_f11 f11 k_f12 f12 k_f13 f13 k_f14 f14 k_f15 f15 k_f16 f16) H := by rw [← eq_25]; exact hP
      have hD : va_D A (au__w au 0 0 0 (-1) q4 q5 q6 q7 q8 q9 q10 q11 q12 q13 q14 q15 q16 k_f4 g_3 k_f5 (bN 7 q_f5) k_f6 (bN 7 q_f6) k_f7 f7 k_f8 (bN 4 q_25) k_f9 (bN 2 q_f9) k_f10 f10 k_f11 f11 k_f12 f12 k_f13 f13 k_f14 f14 k_f15 f15 k_f16 f16) := by rw [← eq_25]; exact hD
      have hsp := hsp.trans (slet_eq xq_25)
      refine lv_iinc (v := (nI (g_16 + 1))) (lv' := [(1, .int (nI (g_16 + 1))), (0, .ref au)]) hx hb eX0_clear_56 hl (k := 1) rfl (nI_1 _) (by decide) rfl (fun ls hl => ?_)
      refine lv_goto (tgt := 43) hx hb eX0_clear_59 (by decide) ?_
      exact ih_18 (22 - (g_16 + 1)) (by omega) _ _ _ ⟨q_25, (g_16 + 1), rfl, (by omega), zc_step (by assumption) (by omega) kq_25 oq_25, hin_22 _ hsp, hP, hD, hS, lv_sub hl [1, 0] rfl⟩
  · have c_11 : ¬ 8 ≤ g_4 := fun z => c_11 ((nI_leI (a := 8) (b := g_4) (Nat.le_of_ble_eq_true rfl) (Nat.lt_of_le_of_lt hg_4 (Nat.le_of_ble_eq_true rfl))).mpr z)
    have hsp := hsp.trans (if_neg c_11)
    refine lv_aload_n hx hb eX0_clear_28 rfl (lv_at hl 0 rfl) ?_
    refine va_get (D := (dC, dI)) (ci := 0) (v := .ref q4) (C := RX0) (T := TX0) (N := 17) hx hb hts hiX0 hown hK hP 0 rfl rfl 4 (by decide) v_5 (fun _ h9 => h9) rfl eX0_clear_29 ?_
    refine lv_iload_n hx hb eX0_clear_32 rfl (lv_at hl 1 rfl) ?_
    refine lv_iconst (v := 0) hx hb eX0_clear_33 (by decide) ?_
    refine va_zast hx hb hK hP hD hS 1 0 rfl rfl (vp_in_nI (n := g_4) (by omega) (Nat.le_of_ble_eq_true rfl)) eX0_clear_34 (fun H locs hP hD hS => ?_)
    obtain ⟨f_26, ef_26, xf_26⟩ := up_x g_3 (n := g_4) (vp_nar .boolean 0) (Nat.lt_of_le_of_lt hg_4 (Nat.le_of_ble_eq_true rfl))
    have hP : va_P (dC, dI) vwCl (au__w au 0 0 0 (-1) q4 q5 q6 q7 q8 q9 q10 q11 q12 q13 q14 q15 q16 k_f4 f_26 k_f5 (bN 7 q_f5) k_f6 (bN 7 q_f6) k_f7 f7 k_f8 (bN 4 q_f8) k_f9 (bN 2 q_f9) k_f10 f10 k_f11 f11 k_f12 f12 k_f13 f13 k_f14 f14 k_f15 f15 k_f16 f16) H := by rw [← ef_26]; exact hP
    have hD : va_D A (au__w au 0 0 0 (-1) q4 q5 q6 q7 q8 q9 q10 q11 q12 q13 q14 q15 q16 k_f4 f_26 k_f5 (bN 7 q_f5) k_f6 (bN 7 q_f6) k_f7 f7 k_f8 (bN 4 q_f8) k_f9 (bN 2 q_f9) k_f10 f10 k_f11 f11 k_f12 f12 k_f13 f13 k_f14 f14 k_f15 f15 k_f16 f16) := by rw [← ef_26]; exact hD
    have hsp := hsp.trans (slet_eq xf_26)
    refine lv_iinc (v := (nI (g_4 + 1))) (lv' := [(1, .int (nI (g_4 + 1))), (0, .ref au)]) hx hb eX0_clear_35 hl (k := 1) rfl (nI_1 _) (by decide) rfl (fun ls hl => ?_)
    refine lv_goto (tgt := 22) hx hb eX0_clear_38 (by decide) ?_
    exact ih_5 (8 - (g_4 + 1)) (by omega) _ _ _ ⟨f_26, (g_4 + 1), rfl, (by omega), hin_9 _ hsp, hP, hD, hS, lv_sub hl [1, 0] rfl⟩
theorem eX4_readsStop_0 : decode cX4_readsStop 0 = .ok (.aload_n 0, 1) := by decide +kernel
theorem eX4_readsStop_1 : decode cX4_readsStop 1 = .ok (.getfield 78, 3) := by decide +kernel
theorem eX4_readsStop_4 : decode cX4_readsStop 4 = .ok (.bipush 7, 2) := by decide +kernel
theorem eX4_readsStop_6 : decode cX4_readsStop 6 = .ok (.if_icmp .eq 8, 3) := by decide +kernel
theorem eX4_readsStop_9 : decode cX4_readsStop 9 = .ok (.aload_n 0, 1) := by decide +kernel
theorem eX4_readsStop_10 : decode cX4_readsStop 10 = .ok (.invokevirtual 94, 3) := by decide +kernel
theorem eX4_readsStop_13 : decode cX4_readsStop 13 = .ok (.ireturn, 1) := by decide +kernel
theorem eX4_readsStop_14 : decode cX4_readsStop 14 = .ok (.aload_n 0, 1) := by decide +kernel
theorem eX4_readsStop_15 : decode cX4_readsStop 15 = .ok (.invokevirtual 75, 3) := by decide +kernel
theorem eX4_readsStop_18 : decode cX4_readsStop 18 = .ok (.iconst 1, 1) := by decide +kernel
theorem eX4_readsStop_19 : decode cX4_readsStop 19 = .ok (.ireturn, 1) := by decide +kernel
abbrev vs_E_4_readsStop : List Cond := .code yX4_readsStop cX4_readsStop 1 (some .boolean) :: CM
theorem g_E_4_readsStop_E_4_advance : GoodIn vs_E_4_readsStop (wsV RX4 75 RX4 yX4_advance vs_E_4_advance) := cm_gV cm_229 cm_230 cm_231 cm_232 cm_233
theorem g_E_4_readsStop_E_4_refuseToken : GoodIn vs_E_4_readsStop (wsV RX4 94 RX4 yX4_refuseToken vs_E_4_refuseToken) := cm_gV cm_264 cm_265 cm_266 cm_232 cm_267
noncomputable def sp_E_4_readsStop (fa : Int32) (fat : Int32) (len : Nat) (pos : Nat) (kd : Nat) (vl : Int32) (tka : Int32) (ft : Nat → Int32) (fw : Nat → Int32) : Nat × Int32 × Int32 × Nat × Nat × Int32 × Int32 := (if kd = 7 then (slet (sp_E_4_advance len pos vl ft fw) (fun (z_pos_3, z_kd_4, z_vl_5, z_tka_6) => (1, fa, fat, z_pos_3, z_kd_4, z_vl_5, z_tka_6))) else (slet (sp_E_4_refuseToken kd tka) (fun (z_fa_8, z_fat_9) => (0, z_fa_8, z_fat_9, pos, kd, vl, tka))))
set_option maxHeartbeats 4000000 in
set_option maxRecDepth 100000 in
theorem c_E_4_readsStop (l : Launch) (dC : Nat → ClassId) (dI : Nat → Nat → Nat) (sz : Nat) (rd : Nat) (fa : Int32) (fat : Int32) (tp : Nat) (len : Nat) (pos : Nat) (kd : Nat) (vl : Int32) (tka : Int32) (au : Nat) (rw : Nat) (rc : Nat) (rp : Nat) (k_ft : ClassId) (ft : Nat → Int32) (k_fw : ClassId) (fw : Nat → Int32) (k_fcn : ClassId) (fcn : Nat → Int32) (k_fpn : ClassId) (fpn : Nat → Int32) (hlen : len ≤ 900) (hpos : pos ≤ 900) (hkd : kd ≤ 15) : Met l yX4_readsStop vs_E_4_readsStop ({ frames := 2, cells := 0, slots := 0, locals := 41 }) (va_Pc [.ref rd] (pu_B (dC, dI) (rd__w rd fa fat tp (nI len) (nI pos) (nI kd) vl tka au rw rc rp k_ft ft k_fw fw k_fcn fcn k_fpn fpn) (rd__t k_ft k_fw k_fcn k_fpn) sz)) (va_Qi (fun (r : Int32) (_ : Unit) => ∃ v : Nat, v ≤ 1 ∧ r = nI v ∧ v = (sp_E_4_readsStop fa fat len pos kd vl tka ft fw).1) (fun _ t => ∃ (z_fa : Int32) (z_fat : Int32) (z_pos : Nat) (z_kd : Nat) (z_vl : Int32) (z_tka : Int32), pu_E (dC, dI) (rd__w rd z_fa z_fat tp (nI len) (nI z_pos) (nI z_kd) z_vl z_tka au rw rc rp k_ft ft k_fw fw k_fcn fcn k_fpn fpn) (rd__t k_ft k_fw k_fcn k_fpn) (va_A ((rd__w rd fa fat tp (nI len) (nI pos) (nI kd) vl tka au rw rc rp k_ft ft k_fw fw k_fcn fcn k_fpn fpn)) sz) t ∧ (z_pos ≤ 900) ∧ (z_kd ≤ 15) ∧ ((z_fa, z_fat, z_pos, z_kd, z_vl, z_tka) = (sp_E_4_readsStop fa fat len pos kd vl tka ft fw).2)) (va_A ((rd__w rd fa fat tp (nI len) (nI pos) (nI kd) vl tka au rw rc rp k_ft ft k_fw fw k_fcn fcn k_fpn fpn)) sz)) 0 0 (va_A ((rd__w rd fa fat tp (nI len) (nI pos) (nI kd) vl tka au rw rc rp k_ft ft k_fw fw k_fcn fcn k_fpn fpn)) sz) := by
  refine Met.ofW (cc := cX4_readsStop) (maxL := 1) (ret := (some .boolean)) (by decide) rfl ?_
  intro p e s m args below meth c s₁ B hml hv
  obtain ⟨rfl, rfl, hP, hK, hD0⟩ := hv
  have hx := B.exec
  have hb := B.bytes
  have hr := B.returns
  have hts := atoms_spec (ws := vs_E_4_readsStop) B.pre
  have v_1 := hts (.fieldLink RX4 78 "ClockReach$Reader" "kind" "I") (List.mem_cons_of_mem _ cm_222)
  have hown : s.vm.findClass RX4 = some m.cls := findClass_of_methodNamed B.named
  have hlocks := B.notSynchronized
  have hiX4 : ∀ w ∈ wsX40, w ∈ vs_E_4_readsStop := fun _ h => List.mem_cons_of_mem _ (cm_X4 h)
  have hD := hD0.self (sz := s.heap.size)
  generalize hAe : va_A ((rd__w rd fa fat tp (nI len) (nI pos) (nI kd) vl tka au rw rc rp k_ft ft k_fw fw k_fcn fcn k_fpn fpn)) s.heap.size = A at hD ⊢
  have hA : ∀ q : Nat, s.heap.size ≤ q → A q := fun q h => by rw [← hAe]; exact Or.inr h
  have hS : va_S A s.heap s.heap [] := va_S.rf
  have hl := lv_entry ([.ref rd]) (n := 1) (Nat.le_of_ble_eq_true rfl)
  rw [lg_entry_eq]
  generalize (lg_sl ([.ref rd]) ++ List.replicate (1 - (lg_sl ([.ref rd])).length) Slot.unset).toArray = ls at hl ⊢
  have hl : lv_has ls 1 [(0, .ref rd)] := hl
  obtain ⟨RR, hRR⟩ : ∃ x, x = (sp_E_4_readsStop fa fat len pos kd vl tka ft fw) := ⟨_, rfl⟩
  have hsp := hRR
  refine lv_aload_n hx hb eX4_readsStop_0 rfl (lv_at hl 0 rfl) ?_
  refine va_get (D := (dC, dI)) (ci := 4) (v := .int (nI kd)) (C := RX4) (T := TX4) (N := 12) hx hb hts hiX4 hown hK hP 0 rfl rfl 5 (by decide) v_1 (fun _ h9 => h9) rfl eX4_readsStop_1 ?_
  refine lv_bipush (v := 7) hx hb eX4_readsStop_4 (by decide) ?_
  refine lv_icmp_eq (tgt := 14) hx hb eX4_readsStop_6 (by decide) (fun c_1 => ?_) (fun c_1 => ?_)
  · have c_1 : kd = 7 := (nI_eq (a := kd) (b := 7) (Nat.lt_of_le_of_lt hkd (Nat.le_of_ble_eq_true rfl)) (Nat.le_of_ble_eq_true rfl)).mp c_1
    have hsp := hsp.trans (if_pos c_1)
    refine lv_aload_n hx hb eX4_readsStop_14 rfl (lv_at hl 0 rfl) ?_
    have hFc := pu_free hD hS hA
    refine va_callv (va_runV (As := []) (rest := []) ⟨hx, hb, hml, hown, hts⟩ (c_E_4_advance l dC dI _ rd fa fat tp len pos kd vl tka au rw rc rp k_ft ft k_fw fw k_fcn fcn k_fpn fpn hlen hpos hkd) (cwV 0 hts g_E_4_readsStop_E_4_advance rfl rfl rfl (by decide +kernel) ⟨Nat.le_of_ble_eq_true rfl, Nat.le_of_ble_eq_true rfl⟩) ⟨pu_bl, va_recv hK hP (ci := 4) (q0 := 0) rfl rfl, pu_in hP hK hD⟩ rfl rfl hl.1 rfl (lv_room (Nat.le_of_ble_eq_true rfl)) eX4_readsStop_15 ⟨Nat.le_of_ble_eq_true rfl, Nat.le_of_ble_eq_true rfl⟩) hS (fun q _ h => hFc q h) hFc (fun u t H1 locs ht hvm hw hB hz1 hk1 hS => ?_)
    obtain ⟨z_pos_3, z_kd_4, z_vl_5, z_tka_6, ⟨hP1, -, hD1⟩, hz_pos_3, hz_kd_4, xr_2_0⟩ := hB
    rw [ht] at hP1
    have hP := hP1
    have hD := pu_all hFc hD1
    clear hP1 hD1 hFc
    clear hk1 hz1 ht hvm
    generalize H1 = H at hP hS ⊢
    have hsp := hsp.trans (slet_eq xr_2_0)
    refine lv_iconst (v := 1) hx hb eX4_readsStop_18 (by decide) ?_
    exact W.zret (v := 1) (ty := .boolean) hx hb hr (rfl) (fun t ht hW => ⟨⟨1, (), rfl, ⟨1, (Nat.le_of_ble_eq_true rfl), rfl, (congrArg Prod.fst (hsp.symm.trans hRR))⟩, ⟨fa, fat, z_pos_3, z_kd_4, z_vl_5, z_tka_6, ⟨by rw [ht]; exact hP, va_K.moved hW.alike hK, hD⟩, hz_pos_3, hz_kd_4, (congrArg Prod.snd (hsp.symm.trans hRR))⟩⟩, hS.F ht⟩) hS.2.2 eX4_readsStop_19
  · have c_1 : ¬ kd = 7 := fun z => c_1 ((nI_eq (a := kd) (b := 7) (Nat.lt_of_le_of_lt hkd (Nat.le_of_ble_eq_true rfl)) (Nat.le_of_ble_eq_true rfl)).mpr z)
    have hsp := hsp.trans (if_neg c_1)
    refine lv_aload_n hx hb eX4_readsStop_9 rfl (lv_at hl 0 rfl) ?_
    have hFc := pu_free hD hS hA
    refine va_calli (va_runV (As := []) (rest := []) ⟨hx, hb, hml, hown, hts⟩ (c_E_4_refuseToken l dC dI _ rd fa fat tp len pos kd vl tka au rw rc rp k_ft ft k_fw fw k_fcn fcn k_fpn fpn hlen hpos hkd) (cwV 0 hts g_E_4_readsStop_E_4_refuseToken rfl rfl rfl (by decide +kernel) ⟨Nat.le_of_ble_eq_true rfl, Nat.le_of_ble_eq_true rfl⟩) ⟨pu_bl, va_recv hK hP (ci := 4) (q0 := 0) rfl rfl, pu_in hP hK hD⟩ rfl rfl hl.1 rfl (lv_room (Nat.le_of_ble_eq_true rfl)) eX4_readsStop_10 ⟨Nat.le_of_ble_eq_true rfl, Nat.le_of_ble_eq_true rfl⟩) hS (fun q _ h => hFc q h) hFc (fun r_7 u t H1 locs ht hvm hw hB hz1 hk1 hS => ?_)
    obtain ⟨z_fa_8, z_fat_9, ⟨hP1, -, hD1⟩, xr_7_0⟩ := hB
    rw [ht] at hP1
    have hP := hP1
    have hD := pu_all hFc hD1
    clear hP1 hD1 hFc
    clear hk1 hz1 ht hvm
    generalize H1 = H at hP hS ⊢
    have hsp := hsp.trans (slet_eq xr_7_0)
    obtain rfl : r_7 = 0 := hw
    exact W.zret (v := 0) (ty := .boolean) hx hb hr (rfl) (fun t ht hW => ⟨⟨0, (), rfl, ⟨0, (Nat.le_of_ble_eq_true rfl), rfl, (congrArg Prod.fst (hsp.symm.trans hRR))⟩, ⟨z_fa_8, z_fat_9, pos, kd, vl, tka, ⟨by rw [ht]; exact hP, va_K.moved hW.alike hK, hD⟩, hpos, hkd, (congrArg Prod.snd (hsp.symm.trans hRR))⟩⟩, hS.F ht⟩) hS.2.2 eX4_readsStop_13
theorem eX4_indexOf_0 : decode cX4_indexOf 0 = .ok (.iconst 0, 1) := by decide +kernel
theorem eX4_indexOf_1 : decode cX4_indexOf 1 = .ok (.istore_n 3, 1) := by decide +kernel
theorem eX4_indexOf_2 : decode cX4_indexOf 2 = .ok (.iload_n 3, 1) := by decide +kernel
theorem eX4_indexOf_3 : decode cX4_indexOf 3 = .ok (.iload_n 2, 1) := by decide +kernel
theorem eX4_indexOf_4 : decode cX4_indexOf 4 = .ok (.if_icmp .ge 21, 3) := by decide +kernel
theorem eX4_indexOf_7 : decode cX4_indexOf 7 = .ok (.aload_n 1, 1) := by decide +kernel
theorem eX4_indexOf_8 : decode cX4_indexOf 8 = .ok (.iload_n 3, 1) := by decide +kernel
theorem eX4_indexOf_9 : decode cX4_indexOf 9 = .ok (.iaload, 1) := by decide +kernel
theorem eX4_indexOf_10 : decode cX4_indexOf 10 = .ok (.aload_n 0, 1) := by decide +kernel
theorem eX4_indexOf_11 : decode cX4_indexOf 11 = .ok (.getfield 127, 3) := by decide +kernel
theorem eX4_indexOf_14 : decode cX4_indexOf 14 = .ok (.if_icmp .ne 5, 3) := by decide +kernel
theorem eX4_indexOf_17 : decode cX4_indexOf 17 = .ok (.iload_n 3, 1) := by decide +kernel
theorem eX4_indexOf_18 : decode cX4_indexOf 18 = .ok (.ireturn, 1) := by decide +kernel
theorem eX4_indexOf_19 : decode cX4_indexOf 19 = .ok (.iinc 3 1, 3) := by decide +kernel
theorem eX4_indexOf_22 : decode cX4_indexOf 22 = .ok (.goto (-20), 3) := by decide +kernel
theorem eX4_indexOf_25 : decode cX4_indexOf 25 = .ok (.iconst (-1), 1) := by decide +kernel
theorem eX4_indexOf_26 : decode cX4_indexOf 26 = .ok (.ireturn, 1) := by decide +kernel
abbrev vs_E_4_indexOf_c : List Cond := .code yX4_indexOf cX4_indexOf 4 (some .int) :: CM
noncomputable def sp_E_4_indexOf_c_L1 (vl : Int32) (fcn : Nat → Int32) (a1 : Nat) : (Nat) → (Nat) ⊕ (Nat) := fun g_2 => (if a1 ≤ g_2 then (Sum.inr 0) else (slet (fcn g_2) (fun y_10 => (if (y_10 : Int32) = vl then (Sum.inr (g_2 + 1)) else (Sum.inl (g_2 + 1))))))
noncomputable def sp_E_4_indexOf_c (vl : Int32) (fcn : Nat → Int32) (a1 : Nat) : Nat := (itrv (α := Nat) (β := (Nat)) default (sp_E_4_indexOf_c_L1 vl fcn a1) 0)
set_option maxHeartbeats 4000000 in
set_option maxRecDepth 100000 in
theorem c_E_4_indexOf_c (l : Launch) (dC : Nat → ClassId) (dI : Nat → Nat → Nat) (sz : Nat) (rd : Nat) (fa : Int32) (fat : Int32) (tp : Nat) (len : Nat) (pos : Nat) (kd : Nat) (vl : Int32) (tka : Int32) (au : Nat) (rw : Nat) (rc : Nat) (rp : Nat) (k_ft : ClassId) (ft : Nat → Int32) (k_fw : ClassId) (fw : Nat → Int32) (k_fcn : ClassId) (fcn : Nat → Int32) (k_fpn : ClassId) (fpn : Nat → Int32) (a1 : Nat) (hlen : len ≤ 900) (hpos : pos ≤ 900) (hkd : kd ≤ 15) (ha1 : a1 ≤ 3) : Met l yX4_indexOf vs_E_4_indexOf_c ({ frames := 0, cells := 0, slots := 0, locals := 0 }) (va_Pc [.ref rd, .ref rc, .int (nI a1)] (pu_B (dC, dI) (rd__w rd fa fat tp (nI len) (nI pos) (nI kd) vl tka au rw rc rp k_ft ft k_fw fw k_fcn fcn k_fpn fpn) (rd__t k_ft k_fw k_fcn k_fpn) sz)) (va_Qi (fun (r : Int32) (_ : Unit) => ∃ v : Nat, v ≤ 3 ∧ r = mI v ∧ v = (sp_E_4_indexOf_c vl fcn a1)) (fun _ _ => True) (va_A [] sz)) 0 0 (va_A [] sz) := by
  refine Met.ofW (cc := cX4_indexOf) (maxL := 4) (ret := (some .int)) (by decide) rfl ?_
  intro p e s m args below meth c s₁ B hml hv
  obtain ⟨rfl, rfl, hP, hK, hD0⟩ := hv
  have hx := B.exec
  have hb := B.bytes
  have hr := B.returns
  have hts := atoms_spec (ws := vs_E_4_indexOf_c) B.pre
  have v_1 := hts (.fieldLink RX4 127 "ClockReach$Reader" "value" "I") (List.mem_cons_of_mem _ cm_239)
  have hown : s.vm.findClass RX4 = some m.cls := findClass_of_methodNamed B.named
  have hlocks := B.notSynchronized
  have hiX4 : ∀ w ∈ wsX40, w ∈ vs_E_4_indexOf_c := fun _ h => List.mem_cons_of_mem _ (cm_X4 h)
  have hD := hD0
  have hA : ∀ q : Nat, s.heap.size ≤ q → va_A [] s.heap.size q := fun _ h => Or.inr h
  have hS : va_S (va_A [] s.heap.size) s.heap s.heap [] := va_S.rf
  have hl := lv_entry ([.ref rd, .ref rc, .int (nI a1)]) (n := 4) (Nat.le_of_ble_eq_true rfl)
  rw [lg_entry_eq]
  generalize (lg_sl ([.ref rd, .ref rc, .int (nI a1)]) ++ List.replicate (4 - (lg_sl ([.ref rd, .ref rc, .int (nI a1)])).length) Slot.unset).toArray = ls at hl ⊢
  have hl : lv_has ls 4 [(0, .ref rd), (1, .ref rc), (2, .int (nI a1))] := hl
  obtain ⟨RR, hRR⟩ : ∃ x, x = (sp_E_4_indexOf_c vl fcn a1) := ⟨_, rfl⟩
  have hsp := hRR
  refine lv_iconst (v := 0) hx hb eX4_indexOf_0 (by decide) ?_
  refine lv_istore_n (lv' := [(3, .int 0), (0, .ref rd), (1, .ref rc), (2, .int (nI a1))]) hx hb eX4_indexOf_1 rfl hl (by decide) rfl (fun ls hl => ?_)
  obtain ⟨lf_4, dlf_4, hlf_4, hsp⟩ := itr_ex hsp
  delta sp_E_4_indexOf_c_L1 at hlf_4
  refine pu_while (fun nn H locs ls => ∃ (g_2 : Nat), nn = 3 - g_2 ∧ g_2 ≤ 3 ∧ RR = itrv dlf_4 lf_4 g_2 ∧ va_P (dC, dI) vwCl (rd__w rd fa fat tp (nI len) (nI pos) (nI kd) vl tka au rw rc rp k_ft ft k_fw fw k_fcn fcn k_fpn fpn) H ∧ va_D (fun _ => True) (rd__w rd fa fat tp (nI len) (nI pos) (nI kd) vl tka au rw rc rp k_ft ft k_fw fw k_fcn fcn k_fpn fpn) ∧ va_S (va_A [] s.heap.size) s.heap H locs ∧ lv_has ls 4 [(0, .ref rd), (1, .ref rc), (2, .int (nI a1)), (3, .int (nI g_2))]) 2 ?_ _ _ _ _ ⟨0, rfl, (Nat.le_of_ble_eq_true rfl), hsp, hP, hD, hS, lv_sub hl [1, 2, 3, 0] rfl⟩
  rintro nn ih_3 H locs ls ⟨g_2, rfl, hg_2, he_6, hP, hD, hS, hl⟩
  obtain ⟨S_5, hsp, hin_7, hout_8⟩ := itr_step hlf_4 he_6
  refine lv_iload_n hx hb eX4_indexOf_2 rfl (lv_at hl 3 rfl) ?_
  refine lv_iload_n hx hb eX4_indexOf_3 rfl (lv_at hl 2 rfl) ?_
  refine lv_icmp_ge (tgt := 25) hx hb eX4_indexOf_4 (by decide) (fun c_9 => ?_) (fun c_9 => ?_)
  · have c_9 : a1 ≤ g_2 := (nI_leI (a := a1) (b := g_2) (Nat.lt_of_le_of_lt ha1 (Nat.le_of_ble_eq_true rfl)) (Nat.lt_of_le_of_lt hg_2 (Nat.le_of_ble_eq_true rfl))).mp c_9
    have hsp := hsp.trans (if_pos c_9)
    have hsp := hout_8 _ hsp
    refine lv_iconst (v := (-1)) hx hb eX4_indexOf_25 (by decide) ?_
    exact W.iret (v := (-1)) hx hb hr (fun t ht hW => ⟨⟨(-1), (), rfl, ⟨0, by omega, rfl, (hsp.symm.trans hRR)⟩, trivial⟩, hS.F ht⟩) hS.2.2 eX4_indexOf_26
  · have c_9 : ¬ a1 ≤ g_2 := fun z => c_9 ((nI_leI (a := a1) (b := g_2) (Nat.lt_of_le_of_lt ha1 (Nat.le_of_ble_eq_true rfl)) (Nat.lt_of_le_of_lt hg_2 (Nat.le_of_ble_eq_true rfl))).mpr z)
    have hsp := hsp.trans (if_neg c_9)
    refine lv_aload_n hx hb eX4_indexOf_7 rfl (lv_at hl 1 rfl) ?_
    refine lv_iload_n hx hb eX4_indexOf_8 rfl (lv_at hl 3 rfl) ?_
    refine va_iald hx hb hK hP 3 2 rfl rfl (vp_in_nI (n := g_2) (by omega) (Nat.le_of_ble_eq_true rfl)) eX4_indexOf_9 ?_
    refine lv_topi (fun y_10 ey_10 => ?_)
    have ey_10 : y_10 = fcn g_2 := ey_10.trans (congrArg fcn (nI_clamp (n := g_2) (Nat.lt_of_le_of_lt hg_2 (Nat.le_of_ble_eq_true rfl))))
    have hsp := hsp.trans (slet_eq ey_10)
    refine lv_aload_n hx hb eX4_indexOf_10 rfl (lv_at hl 0 rfl) ?_
    refine va_get (D := (dC, dI)) (ci := 4) (v := .int vl) (C := RX4) (T := TX4) (N := 12) hx hb hts hiX4 hown hK hP 0 rfl rfl 6 (by decide) v_1 (fun _ h9 => h9) rfl eX4_indexOf_11 ?_
    refine lv_icmp_ne (tgt := 19) hx hb eX4_indexOf_14 (by decide) (fun c_11 => ?_) (fun c_11 => ?_)
    · have hcc_11 := c_11
      have hsp := hsp.trans (if_neg c_11)
      refine lv_iinc (v := (nI (g_2 + 1))) (lv' := [(3, .int (nI (g_2 + 1))), (0, .ref rd), (1, .ref rc), (2, .int (nI a1))]) hx hb eX4_indexOf_19 hl (k := 3) rfl (nI_1 _) (by decide) rfl (fun ls hl => ?_)
      refine lv_goto (tgt := 2) hx hb eX4_indexOf_22 (by decide) ?_
      exact ih_3 (3 - (g_2 + 1)) (by omega) _ _ _ ⟨(g_2 + 1), rfl, (by omega), hin_7 _ hsp, hP, hD, hS, lv_sub hl [1, 2, 3, 0] rfl⟩
    · have hcc_11 := c_11
      have hsp := hsp.trans (if_pos c_11)
      have hsp := hout_8 _ hsp
      refine lv_iload_n hx hb eX4_indexOf_17 rfl (lv_at hl 3 rfl) ?_
      exact W.iret (v := (nI g_2)) hx hb hr (fun t ht hW => ⟨⟨(nI g_2), (), rfl, ⟨g_2 + 1, by omega, rfl, (hsp.symm.trans hRR)⟩, trivial⟩, hS.F ht⟩) hS.2.2 eX4_indexOf_18
abbrev vs_E_4_indexOf_p : List Cond := .code yX4_indexOf cX4_indexOf 4 (some .int) :: CM
noncomputable def sp_E_4_indexOf_p_L1 (vl : Int32) (fpn : Nat → Int32) (a1 : Nat) : (Nat) → (Nat) ⊕ (Nat) := fun g_2 => (if a1 ≤ g_2 then (Sum.inr 0) else (slet (fpn g_2) (fun y_10 => (if (y_10 : Int32) = vl then (Sum.inr (g_2 + 1)) else (Sum.inl (g_2 + 1))))))
noncomputable def sp_E_4_indexOf_p (vl : Int32) (fpn : Nat → Int32) (a1 : Nat) : Nat := (itrv (α := Nat) (β := (Nat)) default (sp_E_4_indexOf_p_L1 vl fpn a1) 0)
set_option maxHeartbeats 4000000 in
set_option maxRecDepth 100000 in
theorem c_E_4_indexOf_p (l : Launch) (dC : Nat → ClassId) (dI : Nat → Nat → Nat) (sz : Nat) (rd : Nat) (fa : Int32) (fat : Int32) (tp : Nat) (len : Nat) (pos : Nat) (kd : Nat) (vl : Int32) (tka : Int32) (au : Nat) (rw : Nat) (rc : Nat) (rp : Nat) (k_ft : ClassId) (ft : Nat → Int32) (k_fw : ClassId) (fw : Nat → Int32) (k_fcn : ClassId) (fcn : Nat → Int32) (k_fpn : ClassId) (fpn : Nat → Int32) (a1 : Nat) (hlen : len ≤ 900) (hpos : pos ≤ 900) (hkd : kd ≤ 15) (ha1 : a1 ≤ 8) : Met l yX4_indexOf vs_E_4_indexOf_p ({ frames := 0, cells := 0, slots := 0, locals := 0 }) (va_Pc [.ref rd, .ref rp, .int (nI a1)] (pu_B (dC, dI) (rd__w rd fa fat tp (nI len) (nI pos) (nI kd) vl tka au rw rc rp k_ft ft k_fw fw k_fcn fcn k_fpn fpn) (rd__t k_ft k_fw k_fcn k_fpn) sz)) (va_Qi (fun (r : Int32) (_ : Unit) => ∃ v : Nat, v ≤ 8 ∧ r = mI v ∧ v = (sp_E_4_indexOf_p vl fpn a1)) (fun _ _ => True) (va_A [] sz)) 0 0 (va_A [] sz) := by
  refine Met.ofW (cc := cX4_indexOf) (maxL := 4) (ret := (some .int)) (by decide) rfl ?_
  intro p e s m args below meth c s₁ B hml hv
  obtain ⟨rfl, rfl, hP, hK, hD0⟩ := hv
  have hx := B.exec
  have hb := B.bytes
  have hr := B.returns
  have hts := atoms_spec (ws := vs_E_4_indexOf_p) B.pre
  have v_1 := hts (.fieldLink RX4 127 "ClockReach$Reader" "value" "I") (List.mem_cons_of_mem _ cm_239)
  have hown : s.vm.findClass RX4 = some m.cls := findClass_of_methodNamed B.named
  have hlocks := B.notSynchronized
  have hiX4 : ∀ w ∈ wsX40, w ∈ vs_E_4_indexOf_p := fun _ h => List.mem_cons_of_mem _ (cm_X4 h)
  have hD := hD0
  have hA : ∀ q : Nat, s.heap.size ≤ q → va_A [] s.heap.size q := fun _ h => Or.inr h
  have hS : va_S (va_A [] s.heap.size) s.heap s.heap [] := va_S.rf
  have hl := lv_entry ([.ref rd, .ref rp, .int (nI a1)]) (n := 4) (Nat.le_of_ble_eq_true rfl)
  rw [lg_entry_eq]
  generalize (lg_sl ([.ref rd, .ref rp, .int (nI a1)]) ++ List.replicate (4 - (lg_sl ([.ref rd, .ref rp, .int (nI a1)])).length) Slot.unset).toArray = ls at hl ⊢
  have hl : lv_has ls 4 [(0, .ref rd), (1, .ref rp), (2, .int (nI a1))] := hl
  obtain ⟨RR, hRR⟩ : ∃ x, x = (sp_E_4_indexOf_p vl fpn a1) := ⟨_, rfl⟩
  have hsp := hRR
  refine lv_iconst (v := 0) hx hb eX4_indexOf_0 (by decide) ?_
  refine lv_istore_n (lv' := [(3, .int 0), (0, .ref rd), (1, .ref rp), (2, .int (nI a1))]) hx hb eX4_indexOf_1 rfl hl (by decide) rfl (fun ls hl => ?_)
  obtain ⟨lf_4, dlf_4, hlf_4, hsp⟩ := itr_ex hsp
  delta sp_E_4_indexOf_p_L1 at hlf_4
  refine pu_while (fun nn H locs ls => ∃ (g_2 : Nat), nn = 8 - g_2 ∧ g_2 ≤ 8 ∧ RR = itrv dlf_4 lf_4 g_2 ∧ va_P (dC, dI) vwCl (rd__w rd fa fat tp (nI len) (nI pos) (nI kd) vl tka au rw rc rp k_ft ft k_fw fw k_fcn fcn k_fpn fpn) H ∧ va_D (fun _ => True) (rd__w rd fa fat tp (nI len) (nI pos) (nI kd) vl tka au rw rc rp k_ft ft k_fw fw k_fcn fcn k_fpn fpn) ∧ va_S (va_A [] s.heap.size) s.heap H locs ∧ lv_has ls 4 [(0, .ref rd), (1, .ref rp), (2, .int (nI a1)), (3, .int (nI g_2))]) 2 ?_ _ _ _ _ ⟨0, rfl, (Nat.le_of_ble_eq_true rfl), hsp, hP, hD, hS, lv_sub hl [1, 2, 3, 0] rfl⟩
  rintro nn ih_3 H locs ls ⟨g_2, rfl, hg_2, he_6, hP, hD, hS, hl⟩
  obtain ⟨S_5, hsp, hin_7, hout_8⟩ := itr_step hlf_4 he_6
  refine lv_iload_n hx hb eX4_indexOf_2 rfl (lv_at hl 3 rfl) ?_
  refine lv_iload_n hx hb eX4_indexOf_3 rfl (lv_at hl 2 rfl) ?_
  refine lv_icmp_ge (tgt := 25) hx hb eX4_indexOf_4 (by decide) (fun c_9 => ?_) (fun c_9 => ?_)
  · have c_9 : a1 ≤ g_2 := (nI_leI (a := a1) (b := g_2) (Nat.lt_of_le_of_lt ha1 (Nat.le_of_ble_eq_true rfl)) (Nat.lt_of_le_of_lt hg_2 (Nat.le_of_ble_eq_true rfl))).mp c_9
    have hsp := hsp.trans (if_pos c_9)
    have hsp := hout_8 _ hsp
    refine lv_iconst (v := (-1)) hx hb eX4_indexOf_25 (by decide) ?_
    exact W.iret (v := (-1)) hx hb hr (fun t ht hW => ⟨⟨(-1), (), rfl, ⟨0, by omega, rfl, (hsp.symm.trans hRR)⟩, trivial⟩, hS.F ht⟩) hS.2.2 eX4_indexOf_26
  · have c_9 : ¬ a1 ≤ g_2 := fun z => c_9 ((nI_leI (a := a1) (b := g_2) (Nat.lt_of_le_of_lt ha1 (Nat.le_of_ble_eq_true rfl)) (Nat.lt_of_le_of_lt hg_2 (Nat.le_of_ble_eq_true rfl))).mpr z)
    have hsp := hsp.trans (if_neg c_9)
    refine lv_aload_n hx hb eX4_indexOf_7 rfl (lv_at hl 1 rfl) ?_
    refine lv_iload_n hx hb eX4_indexOf_8 rfl (lv_at hl 3 rfl) ?_
    refine va_iald hx hb hK hP 4 3 rfl rfl (vp_in_nI (n := g_2) (by omega) (Nat.le_of_ble_eq_true rfl)) eX4_indexOf_9 ?_
    refine lv_topi (fun y_10 ey_10 => ?_)
    have ey_10 : y_10 = fpn g_2 := ey_10.trans (congrArg fpn (nI_clamp (n := g_2) (Nat.lt_of_le_of_lt hg_2 (Nat.le_of_ble_eq_true rfl))))
    have hsp := hsp.trans (slet_eq ey_10)
    refine lv_aload_n hx hb eX4_indexOf_10 rfl (lv_at hl 0 rfl) ?_
    refine va_get (D := (dC, dI)) (ci := 4) (v := .int vl) (C := RX4) (T := TX4) (N := 12) hx hb hts hiX4 hown hK hP 0 rfl rfl 6 (by decide) v_1 (fun _ h9 => h9) rfl eX4_indexOf_11 ?_
    refine lv_icmp_ne (tgt := 19) hx hb eX4_indexOf_14 (by decide) (fun c_11 => ?_) (fun c_11 => ?_)
    · have hcc_11 := c_11
      have hsp := hsp.trans (if_neg c_11)
      refine lv_iinc (v := (nI (g_2 + 1))) (lv' := [(3, .int (nI (g_2 + 1))), (0, .ref rd), (1, .ref rp), (2, .int (nI a1))]) hx hb eX4_indexOf_19 hl (k := 3) rfl (nI_1 _) (by decide) rfl (fun ls hl => ?_)
      refine lv_goto (tgt := 2) hx hb eX4_indexOf_22 (by decide) ?_
      exact ih_3 (8 - (g_2 + 1)) (by omega) _ _ _ ⟨(g_2 + 1), rfl, (by omega), hin_7 _ hsp, hP, hD, hS, lv_sub hl [1, 2, 3, 0] rfl⟩
    · have hcc_11 := c_11
      have hsp := hsp.trans (if_pos c_11)
      have hsp := hout_8 _ hsp
      refine lv_iload_n hx hb eX4_indexOf_17 rfl (lv_at hl 3 rfl) ?_
      exact W.iret (v := (nI g_2)) hx hb hr (fun t ht hW => ⟨⟨(nI g_2), (), rfl, ⟨g_2 + 1, by omega, rfl, (hsp.symm.trans hRR)⟩, trivial⟩, hS.F ht⟩) hS.2.2 eX4_indexOf_18
theorem eX4_toldName_0 : decode cX4_toldName 0 = .ok (.aload_n 0, 1) := by decide +kernel
theorem eX4_toldName_1 : decode cX4_toldName 1 = .ok (.getfield 78, 3) := by decide +kernel
theorem eX4_toldName_4 : decode cX4_toldName 4 = .ok (.iconst 2, 1) := by decide +kernel
theorem eX4_toldName_5 : decode cX4_toldName 5 = .ok (.if_icmp .eq 10, 3) := by decide +kernel
theorem eX4_toldName_8 : decode cX4_toldName 8 = .ok (.aload_n 0, 1) := by decide +kernel
theorem eX4_toldName_9 : decode cX4_toldName 9 = .ok (.invokevirtual 94, 3) := by decide +kernel
theorem eX4_toldName_12 : decode cX4_toldName 12 = .ok (.pop, 1) := by decide +kernel
theorem eX4_toldName_13 : decode cX4_toldName 13 = .ok (.iconst (-1), 1) := by decide +kernel
theorem eX4_toldName_14 : decode cX4_toldName 14 = .ok (.ireturn, 1) := by decide +kernel
theorem eX4_toldName_15 : decode cX4_toldName 15 = .ok (.aload_n 0, 1) := by decide +kernel
theorem eX4_toldName_16 : decode cX4_toldName 16 = .ok (.aload_n 1, 1) := by decide +kernel
theorem eX4_toldName_17 : decode cX4_toldName 17 = .ok (.iload_n 2, 1) := by decide +kernel
theorem eX4_toldName_18 : decode cX4_toldName 18 = .ok (.invokevirtual 167, 3) := by decide +kernel
theorem eX4_toldName_21 : decode cX4_toldName 21 = .ok (.istore_n 3, 1) := by decide +kernel
theorem eX4_toldName_22 : decode cX4_toldName 22 = .ok (.iload_n 3, 1) := by decide +kernel
theorem eX4_toldName_23 : decode cX4_toldName 23 = .ok (.iconst (-1), 1) := by decide +kernel
theorem eX4_toldName_24 : decode cX4_toldName 24 = .ok (.if_icmp .ne 9, 3) := by decide +kernel
theorem eX4_toldName_27 : decode cX4_toldName 27 = .ok (.aload_n 0, 1) := by decide +kernel
theorem eX4_toldName_28 : decode cX4_toldName 28 = .ok (.iconst 3, 1) := by decide +kernel
theorem eX4_toldName_29 : decode cX4_toldName 29 = .ok (.invokevirtual 103, 3) := by decide +kernel
theorem eX4_toldName_32 : decode cX4_toldName 32 = .ok (.pop, 1) := by decide +kernel
theorem eX4_toldName_33 : decode cX4_toldName 33 = .ok (.iload_n 3, 1) := by decide +kernel
theorem eX4_toldName_34 : decode cX4_toldName 34 = .ok (.ireturn, 1) := by decide +kernel
abbrev vs_E_4_toldName_c : List Cond := .code yX4_toldName cX4_toldName 4 (some .int) :: CM
theorem g_E_4_toldName_c_E_4_indexOf_c : GoodIn vs_E_4_toldName_c (wsV RX4 167 RX4 yX4_indexOf vs_E_4_indexOf_c) := cm_gV cm_268 cm_269 cm_270 cm_232 cm_271
theorem g_E_4_toldName_c_E_4_refuse : GoodIn vs_E_4_toldName_c (wsV RX4 103 RX4 yX4_refuse vs_E_4_refuse) := cm_gV cm_255 cm_256 cm_257 cm_232 cm_258
theorem g_E_4_toldName_c_E_4_refuseToken : GoodIn vs_E_4_toldName_c (wsV RX4 94 RX4 yX4_refuseToken vs_E_4_refuseToken) := cm_gV cm_264 cm_265 cm_266 cm_232 cm_267
noncomputable def sp_E_4_toldName_c (fa : Int32) (fat : Int32) (kd : Nat) (vl : Int32) (tka : Int32) (fcn : Nat → Int32) (a1 : Nat) : Nat × Int32 × Int32 := (if kd = 2 then (slet (sp_E_4_indexOf_c vl fcn a1) (fun u_3 => (if u_3 = 0 then (slet (sp_E_4_refuse tka 3) (fun (z_fa_6, z_fat_7) => (0, z_fa_6, z_fat_7))) else (slet (u_3 - 1) (fun n_4 => ((n_4 + 1), fa, fat)))))) else (slet (sp_E_4_refuseToken kd tka) (fun (z_fa_9, z_fat_10) => (0, z_fa_9, z_fat_10))))
set_option maxHeartbeats 4000000 in
set_option maxRecDepth 100000 in
theorem c_E_4_toldName_c (l : Launch) (dC : Nat → ClassId) (dI : Nat → Nat → Nat) (sz : Nat) (rd : Nat) (fa : Int32) (fat : Int32) (tp : Nat) (len : Nat) (pos : Nat) (kd : Nat) (vl : Int32) (tka : Int32) (au : Nat) (rw : Nat) (rc : Nat) (rp : Nat) (k_ft : ClassId) (ft : Nat → Int32) (k_fw : ClassId) (fw : Nat → Int32) (k_fcn : ClassId) (fcn : Nat → Int32) (k_fpn : ClassId) (fpn : Nat → Int32) (a1 : Nat) (hlen : len ≤ 900) (hpos : pos ≤ 900) (hkd : kd ≤ 15) (ha1 : a1 ≤ 3) : Met l yX4_toldName vs_E_4_toldName_c ({ frames := 2, cells := 0, slots := 0, locals := 41 }) (va_Pc [.ref rd, .ref rc, .int (nI a1)] (pu_B (dC, dI) (rd__w rd fa fat tp (nI len) (nI pos) (nI kd) vl tka au rw rc rp k_ft ft k_fw fw k_fcn fcn k_fpn fpn) (rd__t k_ft k_fw k_fcn k_fpn) sz)) (va_Qi (fun (r : Int32) (_ : Unit) => ∃ v : Nat, v ≤ 3 ∧ r = mI v ∧ v = (sp_E_4_toldName_c fa fat kd vl tka fcn a1).1) (fun _ t => ∃ (z_fa : Int32) (z_fat : Int32), pu_E (dC, dI) (rd__w rd z_fa z_fat tp (nI len) (nI pos) (nI kd) vl tka au rw rc rp k_ft ft k_fw fw k_fcn fcn k_fpn fpn) (rd__t k_ft k_fw k_fcn k_fpn) (va_A ((rd__w rd fa fat tp (nI len) (nI pos) (nI kd) vl tka au rw rc rp k_ft ft k_fw fw k_fcn fcn k_fpn fpn)) sz) t ∧ ((z_fa, z_fat) = (sp_E_4_toldName_c fa fat kd vl tka fcn a1).2)) (va_A ((rd__w rd fa fat tp (nI len) (nI pos) (nI kd) vl tka au rw rc rp k_ft ft k_fw fw k_fcn fcn k_fpn fpn)) sz)) 0 0 (va_A ((rd__w rd fa fat tp (nI len) (nI pos) (nI kd) vl tka au rw rc rp k_ft ft k_fw fw k_fcn fcn k_fpn fpn)) sz) := by
  refine Met.ofW (cc := cX4_toldName) (maxL := 4) (ret := (some .int)) (by decide) rfl ?_
  intro p e s m args below meth c s₁ B hml hv
  obtain ⟨rfl, rfl, hP, hK, hD0⟩ := hv
  have hx := B.exec
  have hb := B.bytes
  have hr := B.returns
  have hts := atoms_spec (ws := vs_E_4_toldName_c) B.pre
  have v_1 := hts (.fieldLink RX4 78 "ClockReach$Reader" "kind" "I") (List.mem_cons_of_mem _ cm_222)
  have hown : s.vm.findClass RX4 = some m.cls := findClass_of_methodNamed B.named
  have hlocks := B.notSynchronized
  have hiX4 : ∀ w ∈ wsX40, w ∈ vs_E_4_toldName_c := fun _ h => List.mem_cons_of_mem _ (cm_X4 h)
  have hD := hD0.self (sz := s.heap.size)
  generalize hAe : va_A ((rd__w rd fa fat tp (nI len) (nI pos) (nI kd) vl tka au rw rc rp k_ft ft k_fw fw k_fcn fcn k_fpn fpn)) s.heap.size = A at hD ⊢
  have hA : ∀ q : Nat, s.heap.size ≤ q → A q := fun q h => by rw [← hAe]; exact Or.inr h
  have hS : va_S A s.heap s.heap [] := va_S.rf
  have hl := lv_entry ([.ref rd, .ref rc, .int (nI a1)]) (n := 4) (Nat.le_of_ble_eq_true rfl)
  rw [lg_entry_eq]
  generalize (lg_sl ([.ref rd, .ref rc, .int (nI a1)]) ++ List.replicate (4 - (lg_sl ([.ref rd, .ref rc, .int (nI a1)])).length) Slot.unset).toArray = ls at hl ⊢
  have hl : lv_has ls 4 [(0, .ref rd), (1, .ref rc), (2, .int (nI a1))] := hl
  obtain ⟨RR, hRR⟩ : ∃ x, x = (sp_E_4_toldName_c fa fat kd vl tka fcn a1) := ⟨_, rfl⟩
  have hsp := hRR
  refine lv_aload_n hx hb eX4_toldName_0 rfl (lv_at hl 0 rfl) ?_
  refine va_get (D := (dC, dI)) (ci := 4) (v := .int (nI kd)) (C := RX4) (T := TX4) (N := 12) hx hb hts hiX4 hown hK hP 0 rfl rfl 5 (by decide) v_1 (fun _ h9 => h9) rfl eX4_toldName_1 ?_
  refine lv_iconst (v := 2) hx hb eX4_toldName_4 (by decide) ?_
  refine lv_icmp_eq (tgt := 15) hx hb eX4_toldName_5 (by decide) (fun c_1 => ?_) (fun c_1 => ?_)
  · have c_1 : kd = 2 := (nI_eq (a := kd) (b := 2) (Nat.lt_of_le_of_lt hkd (Nat.le_of_ble_eq_true rfl)) (Nat.le_of_ble_eq_true rfl)).mp c_1
    have hsp := hsp.trans (if_pos c_1)
    refine lv_aload_n hx hb eX4_toldName_15 rfl (lv_at hl 0 rfl) ?_
    refine lv_aload_n hx hb eX4_toldName_16 rfl (lv_at hl 1 rfl) ?_
    refine lv_iload_n hx hb eX4_toldName_17 rfl (lv_at hl 2 rfl) ?_
    refine va_calli (va_runV (As := [.ref rc, .int (nI a1)]) (rest := []) ⟨hx, hb, hml, hown, hts⟩ (c_E_4_indexOf_c l dC dI _ rd fa fat tp len pos kd vl tka au rw rc rp k_ft ft k_fw fw k_fcn fcn k_fpn fpn a1 hlen hpos hkd ha1) (cwV 2 hts g_E_4_toldName_c_E_4_indexOf_c rfl rfl rfl (by decide +kernel) ⟨Nat.le_of_ble_eq_true rfl, Nat.le_of_ble_eq_true rfl⟩) ⟨pu_bl, va_recv hK hP (ci := 4) (q0 := 0) rfl rfl, pu_in hP hK hD⟩ rfl rfl hl.1 rfl (lv_room (Nat.le_of_ble_eq_true rfl)) eX4_toldName_18 ⟨Nat.le_of_ble_eq_true rfl, Nat.le_of_ble_eq_true rfl⟩) hS (fun q _ h => pu_fr hS hA q h) (pu_fr hS hA) (fun r_2 u t H1 locs ht hvm hw hB hz1 hk1 hS => ?_)
    have hP := pu_keep hP hk1
    clear hk1 hz1 ht hvm
    generalize H1 = H at hP hS ⊢
    obtain ⟨u_3, hu_3, mu_3, iu_3⟩ := hw
    have hsp := hsp.trans (slet_eq iu_3)
    rcases mI_get u_3 with ⟨zn_4, wn_4⟩ | ⟨n_4, zn_4, wn_4⟩
    · obtain rfl : r_2 = -1 := mu_3.trans wn_4
      have hsp := hsp.trans (if_pos zn_4)
      refine lv_istore_n (lv' := [(3, .int (-1)), (0, .ref rd), (1, .ref rc), (2, .int (nI a1))]) hx hb eX4_toldName_21 rfl hl (by decide) rfl (fun ls hl => ?_)
      refine lv_iload_n hx hb eX4_toldName_22 rfl (lv_at hl 0 rfl) ?_
      refine lv_iconst (v := (-1)) hx hb eX4_toldName_23 (by decide) ?_
      refine lv_icmp_ne (tgt := 33) hx hb eX4_toldName_24 (by decide) (fun z => absurd z (by decide)) (fun _ => ?_)
      refine lv_aload_n hx hb eX4_toldName_27 rfl (lv_at hl 1 rfl) ?_
      refine lv_iconst (v := 3) hx hb eX4_toldName_28 (by decide) ?_
      have hFc := pu_free hD hS hA
      refine va_calli (va_runV (As := [.int 3]) (rest := []) ⟨hx, hb, hml, hown, hts⟩ (c_E_4_refuse l dC dI _ rd fa fat tp len pos kd vl tka au rw rc rp k_ft ft k_fw fw k_fcn fcn k_fpn fpn 3 hlen hpos hkd) (cwV 1 hts g_E_4_toldName_c_E_4_refuse rfl rfl rfl (by decide +kernel) ⟨Nat.le_of_ble_eq_true rfl, Nat.le_of_ble_eq_true rfl⟩) ⟨pu_bl, va_recv hK hP (ci := 4) (q0 := 0) rfl rfl, pu_in hP hK hD⟩ rfl rfl hl.1 rfl (lv_room (Nat.le_of_ble_eq_true rfl)) eX4_toldName_29 ⟨Nat.le_of_ble_eq_true rfl, Nat.le_of_ble_eq_true rfl⟩) hS (fun q _ h => hFc q h) hFc (fun r_5 u t H1 locs ht hvm hw hB hz1 hk1 hS => ?_)
      obtain ⟨z_fa_6, z_fat_7, ⟨hP1, -, hD1⟩, xr_5_0⟩ := hB
      rw [ht] at hP1
      have hP := hP1
      have hD := pu_all hFc hD1
      clear hP1 hD1 hFc
      clear hk1 hz1 ht hvm
      generalize H1 = H at hP hS ⊢
      have hsp := hsp.trans (slet_eq xr_5_0)
      obtain rfl : r_5 = 0 := hw
      refine lv_pop hx hb eX4_toldName_32 rfl ?_
      refine lv_iload_n hx hb eX4_toldName_33 rfl (lv_at hl 0 rfl) ?_
      exact W.iret (v := (-1)) hx hb hr (fun t ht hW => ⟨⟨(-1), (), rfl, ⟨0, by omega, rfl, (congrArg Prod.fst (hsp.symm.trans hRR))⟩, ⟨z_fa_6, z_fat_7, ⟨by rw [ht]; exact hP, va_K.moved hW.alike hK, hD⟩, (congrArg Prod.snd (hsp.symm.trans hRR))⟩⟩, hS.F ht⟩) hS.2.2 eX4_toldName_34
    · obtain rfl : r_2 = nI n_4 := mu_3.trans wn_4
      have hn_4 : n_4 ≤ 2 := by omega
      have hsp := hsp.trans (if_neg (by omega))
      have hsp := hsp.trans (slet_eq (by omega : n_4 = u_3 - 1))
      refine lv_istore_n (lv' := [(3, .int (nI n_4)), (0, .ref rd), (1, .ref rc), (2, .int (nI a1))]) hx hb eX4_toldName_21 rfl hl (by decide) rfl (fun ls hl => ?_)
      refine lv_iload_n hx hb eX4_toldName_22 rfl (lv_at hl 0 rfl) ?_
      refine lv_iconst (v := (-1)) hx hb eX4_toldName_23 (by decide) ?_
      refine lv_icmp_ne (tgt := 33) hx hb eX4_toldName_24 (by decide) (fun _ => ?_) (fun z => absurd z (pu_nneg (n := n_4) (by omega) (by decide)))
      refine lv_iload_n hx hb eX4_toldName_33 rfl (lv_at hl 0 rfl) ?_
      exact W.iret (v := (nI n_4)) hx hb hr (fun t ht hW => ⟨⟨(nI n_4), (), rfl, ⟨n_4 + 1, by omega, rfl, (congrArg Prod.fst (hsp.symm.trans hRR))⟩, ⟨fa, fat, ⟨by rw [ht]; exact hP, va_K.moved hW.alike hK, hD⟩, (congrArg Prod.snd (hsp.symm.trans hRR))⟩⟩, hS.F ht⟩) hS.2.2 eX4_toldName_34
  · have c_1 : ¬ kd = 2 := fun z => c_1 ((nI_eq (a := kd) (b := 2) (Nat.lt_of_le_of_lt hkd (Nat.le_of_ble_eq_true rfl)) (Nat.le_of_ble_eq_true rfl)).mpr z)
    have hsp := hsp.trans (if_neg c_1)
    refine lv_aload_n hx hb eX4_toldName_8 rfl (lv_at hl 0 rfl) ?_
    have hFc := pu_free hD hS hA
    refine va_calli (va_runV (As := []) (rest := []) ⟨hx, hb, hml, hown, hts⟩ (c_E_4_refuseToken l dC dI _ rd fa fat tp len pos kd vl tka au rw rc rp k_ft ft k_fw fw k_fcn fcn k_fpn fpn hlen hpos hkd) (cwV 0 hts g_E_4_toldName_c_E_4_refuseToken rfl rfl rfl (by decide +kernel) ⟨Nat.le_of_ble_eq_true rfl, Nat.le_of_ble_eq_true rfl⟩) ⟨pu_bl, va_recv hK hP (ci := 4) (q0 := 0) rfl rfl, pu_in hP hK hD⟩ rfl rfl hl.1 rfl (lv_room (Nat.le_of_ble_eq_true rfl)) eX4_toldName_9 ⟨Nat.le_of_ble_eq_true rfl, Nat.le_of_ble_eq_true rfl⟩) hS (fun q _ h => hFc q h) hFc (fun r_8 u t H1 locs ht hvm hw hB hz1 hk1 hS => ?_)
    obtain ⟨z_fa_9, z_fat_10, ⟨hP1, -, hD1⟩, xr_8_0⟩ := hB
    rw [ht] at hP1
    have hP := hP1
    have hD := pu_all hFc hD1
    clear hP1 hD1 hFc
    clear hk1 hz1 ht hvm
    generalize H1 = H at hP hS ⊢
    have hsp := hsp.trans (slet_eq xr_8_0)
    obtain rfl : r_8 = 0 := hw
    refine lv_pop hx hb eX4_toldName_12 rfl ?_
    refine lv_iconst (v := (-1)) hx hb eX4_toldName_13 (by decide) ?_
    exact W.iret (v := (-1)) hx hb hr (fun t ht hW => ⟨⟨(-1), (), rfl, ⟨0, by omega, rfl, (congrArg Prod.fst (hsp.symm.trans hRR))⟩, ⟨z_fa_9, z_fat_10, ⟨by rw [ht]; exact hP, va_K.moved hW.alike hK, hD⟩, (congrArg Prod.snd (hsp.symm.trans hRR))⟩⟩, hS.F ht⟩) hS.2.2 eX4_toldName_14
abbrev vs_E_4_toldName_p : List Cond := .code yX4_toldName cX4_toldName 4 (some .int) :: CM
theorem g_E_4_toldName_p_E_4_indexOf_p : GoodIn vs_E_4_toldName_p (wsV RX4 167 RX4 yX4_indexOf vs_E_4_indexOf_p) := cm_gV cm_268 cm_269 cm_270 cm_232 cm_271
theorem g_E_4_toldName_p_E_4_refuse : GoodIn vs_E_4_toldName_p (wsV RX4 103 RX4 yX4_refuse vs_E_4_refuse) := cm_gV cm_255 cm_256 cm_257 cm_232 cm_258
theorem g_E_4_toldName_p_E_4_refuseToken : GoodIn vs_E_4_toldName_p (wsV RX4 94 RX4 yX4_refuseToken vs_E_4_refuseToken) := cm_gV cm_264 cm_265 cm_266 cm_232 cm_267
noncomputable def sp_E_4_toldName_p (fa : Int32) (fat : Int32) (kd : Nat) (vl : Int32) (tka : Int32) (fpn : Nat → Int32) (a1 : Nat) : Nat × Int32 × Int32 := (if kd = 2 then (slet (sp_E_4_indexOf_p vl fpn a1) (fun u_3 => (if u_3 = 0 then (slet (sp_E_4_refuse tka 3) (fun (z_fa_6, z_fat_7) => (0, z_fa_6, z_fat_7))) else (slet (u_3 - 1) (fun n_4 => ((n_4 + 1), fa, fat)))))) else (slet (sp_E_4_refuseToken kd tka) (fun (z_fa_9, z_fat_10) => (0, z_fa_9, z_fat_10))))
set_option maxHeartbeats 4000000 in
set_option maxRecDepth 100000 in
theorem c_E_4_toldName_p (l : Launch) (dC : Nat → ClassId) (dI : Nat → Nat → Nat) (sz : Nat) (rd : Nat) (fa : Int32) (fat : Int32) (tp : Nat) (len : Nat) (pos : Nat) (kd : Nat) (vl : Int32) (tka : Int32) (au : Nat) (rw : Nat) (rc : Nat) (rp : Nat) (k_ft : ClassId) (ft : Nat → Int32) (k_fw : ClassId) (fw : Nat → Int32) (k_fcn : ClassId) (fcn : Nat → Int32) (k_fpn : ClassId) (fpn : Nat → Int32) (a1 : Nat) (hlen : len ≤ 900) (hpos : pos ≤ 900) (hkd : kd ≤ 15) (ha1 : a1 ≤ 8) : Met l yX4_toldName vs_E_4_toldName_p ({ frames := 2, cells := 0, slots := 0, locals := 41 }) (va_Pc [.ref rd, .ref rp, .int (nI a1)] (pu_B (dC, dI) (rd__w rd fa fat tp (nI len) (nI pos) (nI kd) vl tka au rw rc rp k_ft ft k_fw fw k_fcn fcn k_fpn fpn) (rd__t k_ft k_fw k_fcn k_fpn) sz)) (va_Qi (fun (r : Int32) (_ : Unit) => ∃ v : Nat, v ≤ 8 ∧ r = mI v ∧ v = (sp_E_4_toldName_p fa fat kd vl tka fpn a1).1) (fun _ t => ∃ (z_fa : Int32) (z_fat : Int32), pu_E (dC, dI) (rd__w rd z_fa z_fat tp (nI len) (nI pos) (nI kd) vl tka au rw rc rp k_ft ft k_fw fw k_fcn fcn k_fpn fpn) (rd__t k_ft k_fw k_fcn k_fpn) (va_A ((rd__w rd fa fat tp (nI len) (nI pos) (nI kd) vl tka au rw rc rp k_ft ft k_fw fw k_fcn fcn k_fpn fpn)) sz) t ∧ ((z_fa, z_fat) = (sp_E_4_toldName_p fa fat kd vl tka fpn a1).2)) (va_A ((rd__w rd fa fat tp (nI len) (nI pos) (nI kd) vl tka au rw rc rp k_ft ft k_fw fw k_fcn fcn k_fpn fpn)) sz)) 0 0 (va_A ((rd__w rd fa fat tp (nI len) (nI pos) (nI kd) vl tka au rw rc rp k_ft ft k_fw fw k_fcn fcn k_fpn fpn)) sz) := by
  refine Met.ofW (cc := cX4_toldName) (maxL := 4) (ret := (some .int)) (by decide) rfl ?_
  intro p e s m args below meth c s₁ B hml hv
  obtain ⟨rfl, rfl, hP, hK, hD0⟩ := hv
  have hx := B.exec
  have hb := B.bytes
  have hr := B.returns
  have hts := atoms_spec (ws := vs_E_4_toldName_p) B.pre
  have v_1 := hts (.fieldLink RX4 78 "ClockReach$Reader" "kind" "I") (List.mem_cons_of_mem _ cm_222)
  have hown : s.vm.findClass RX4 = some m.cls := findClass_of_methodNamed B.named
  have hlocks := B.notSynchronized
  have hiX4 : ∀ w ∈ wsX40, w ∈ vs_E_4_toldName_p := fun _ h => List.mem_cons_of_mem _ (cm_X4 h)
  have hD := hD0.self (sz := s.heap.size)
  generalize hAe : va_A ((rd__w rd fa fat tp (nI len) (nI pos) (nI kd) vl tka au rw rc rp k_ft ft k_fw fw k_fcn fcn k_fpn fpn)) s.heap.size = A at hD ⊢
  have hA : ∀ q : Nat, s.heap.size ≤ q → A q := fun q h => by rw [← hAe]; exact Or.inr h
  have hS : va_S A s.heap s.heap [] := va_S.rf
  have hl := lv_entry ([.ref rd, .ref rp, .int (nI a1)]) (n := 4) (Nat.le_of_ble_eq_true rfl)
  rw [lg_entry_eq]
  generalize (lg_sl ([.ref rd, .ref rp, .int (nI a1)]) ++ List.replicate (4 - (lg_sl ([.ref rd, .ref rp, .int (nI a1)])).length) Slot.unset).toArray = ls at hl ⊢
  have hl : lv_has ls 4 [(0, .ref rd), (1, .ref rp), (2, .int (nI a1))] := hl
  obtain ⟨RR, hRR⟩ : ∃ x, x = (sp_E_4_toldName_p fa fat kd vl tka fpn a1) := ⟨_, rfl⟩
  have hsp := hRR
  refine lv_aload_n hx hb eX4_toldName_0 rfl (lv_at hl 0 rfl) ?_
  refine va_get (D := (dC, dI)) (ci := 4) (v := .int (nI kd)) (C := RX4) (T := TX4) (N := 12) hx hb hts hiX4 hown hK hP 0 rfl rfl 5 (by decide) v_1 (fun _ h9 => h9) rfl eX4_toldName_1 ?_
  refine lv_iconst (v := 2) hx hb eX4_toldName_4 (by decide) ?_
  refine lv_icmp_eq (tgt := 15) hx hb eX4_toldName_5 (by decide) (fun c_1 => ?_) (fun c_1 => ?_)
  · have c_1 : kd = 2 := (nI_eq (a := kd) (b := 2) (Nat.lt_of_le_of_lt hkd (Nat.le_of_ble_eq_true rfl)) (Nat.le_of_ble_eq_true rfl)).mp c_1
    have hsp := hsp.trans (if_pos c_1)
    refine lv_aload_n hx hb eX4_toldName_15 rfl (lv_at hl 0 rfl) ?_
    refine lv_aload_n hx hb eX4_toldName_16 rfl (lv_at hl 1 rfl) ?_
    refine lv_iload_n hx hb eX4_toldName_17 rfl (lv_at hl 2 rfl) ?_
    refine va_calli (va_runV (As := [.ref rp, .int (nI a1)]) (rest := []) ⟨hx, hb, hml, hown, hts⟩ (c_E_4_indexOf_p l dC dI _ rd fa fat tp len pos kd vl tka au rw rc rp k_ft ft k_fw fw k_fcn fcn k_fpn fpn a1 hlen hpos hkd ha1) (cwV 2 hts g_E_4_toldName_p_E_4_indexOf_p rfl rfl rfl (by decide +kernel) ⟨Nat.le_of_ble_eq_true rfl, Nat.le_of_ble_eq_true rfl⟩) ⟨pu_bl, va_recv hK hP (ci := 4) (q0 := 0) rfl rfl, pu_in hP hK hD⟩ rfl rfl hl.1 rfl (lv_room (Nat.le_of_ble_eq_true rfl)) eX4_toldName_18 ⟨Nat.le_of_ble_eq_true rfl, Nat.le_of_ble_eq_true rfl⟩) hS (fun q _ h => pu_fr hS hA q h) (pu_fr hS hA) (fun r_2 u t H1 locs ht hvm hw hB hz1 hk1 hS => ?_)
    have hP := pu_keep hP hk1
    clear hk1 hz1 ht hvm
    generalize H1 = H at hP hS ⊢
    obtain ⟨u_3, hu_3, mu_3, iu_3⟩ := hw
    have hsp := hsp.trans (slet_eq iu_3)
    rcases mI_get u_3 with ⟨zn_4, wn_4⟩ | ⟨n_4, zn_4, wn_4⟩
    · obtain rfl : r_2 = -1 := mu_3.trans wn_4
      have hsp := hsp.trans (if_pos zn_4)
      refine lv_istore_n (lv' := [(3, .int (-1)), (0, .ref rd), (1, .ref rp), (2, .int (nI a1))]) hx hb eX4_toldName_21 rfl hl (by decide) rfl (fun ls hl => ?_)
      refine lv_iload_n hx hb eX4_toldName_22 rfl (lv_at hl 0 rfl) ?_
      refine lv_iconst (v := (-1)) hx hb eX4_toldName_23 (by decide) ?_
      refine lv_icmp_ne (tgt := 33) hx hb eX4_toldName_24 (by decide) (fun z => absurd z (by decide)) (fun _ => ?_)
      refine lv_aload_n hx hb eX4_toldName_27 rfl (lv_at hl 1 rfl) ?_
      refine lv_iconst (v := 3) hx hb eX4_toldName_28 (by decide) ?_
      have hFc := pu_free hD hS hA
      refine va_calli (va_runV (As := [.int 3]) (rest := []) ⟨hx, hb, hml, hown, hts⟩ (c_E_4_refuse l dC dI _ rd fa fat tp len pos kd vl tka au rw rc rp k_ft ft k_fw fw k_fcn fcn k_fpn fpn 3 hlen hpos hkd) (cwV 1 hts g_E_4_toldName_p_E_4_refuse rfl rfl rfl (by decide +kernel) ⟨Nat.le_of_ble_eq_true rfl, Nat.le_of_ble_eq_true rfl⟩) ⟨pu_bl, va_recv hK hP (ci := 4) (q0 := 0) rfl rfl, pu_in hP hK hD⟩ rfl rfl hl.1 rfl (lv_room (Nat.le_of_ble_eq_true rfl)) eX4_toldName_29 ⟨Nat.le_of_ble_eq_true rfl, Nat.le_of_ble_eq_true rfl⟩) hS (fun q _ h => hFc q h) hFc (fun r_5 u t H1 locs ht hvm hw hB hz1 hk1 hS => ?_)
      obtain ⟨z_fa_6, z_fat_7, ⟨hP1, -, hD1⟩, xr_5_0⟩ := hB
      rw [ht] at hP1
      have hP := hP1
      have hD := pu_all hFc hD1
      clear hP1 hD1 hFc
      clear hk1 hz1 ht hvm
      generalize H1 = H at hP hS ⊢
      have hsp := hsp.trans (slet_eq xr_5_0)
      obtain rfl : r_5 = 0 := hw
      refine lv_pop hx hb eX4_toldName_32 rfl ?_
      refine lv_iload_n hx hb eX4_toldName_33 rfl (lv_at hl 0 rfl) ?_
      exact W.iret (v := (-1)) hx hb hr (fun t ht hW => ⟨⟨(-1), (), rfl, ⟨0, by omega, rfl, (congrArg Prod.fst (hsp.symm.trans hRR))⟩, ⟨z_fa_6, z_fat_7, ⟨by rw [ht]; exact hP, va_K.moved hW.alike hK, hD⟩, (congrArg Prod.snd (hsp.symm.trans hRR))⟩⟩, hS.F ht⟩) hS.2.2 eX4_toldName_34
    · obtain rfl : r_2 = nI n_4 := mu_3.trans wn_4
      have hn_4 : n_4 ≤ 7 := by omega
      have hsp := hsp.trans (if_neg (by omega))
      have hsp := hsp.trans (slet_eq (by omega : n_4 = u_3 - 1))
      refine lv_istore_n (lv' := [(3, .int (nI n_4)), (0, .ref rd), (1, .ref rp), (2, .int (nI a1))]) hx hb eX4_toldName_21 rfl hl (by decide) rfl (fun ls hl => ?_)
      refine lv_iload_n hx hb eX4_toldName_22 rfl (lv_at hl 0 rfl) ?_
      refine lv_iconst (v := (-1)) hx hb eX4_toldName_23 (by decide) ?_
      refine lv_icmp_ne (tgt := 33) hx hb eX4_toldName_24 (by decide) (fun _ => ?_) (fun z => absurd z (pu_nneg (n := n_4) (by omega) (by decide)))
      refine lv_iload_n hx hb eX4_toldName_33 rfl (lv_at hl 0 rfl) ?_
      exact W.iret (v := (nI n_4)) hx hb hr (fun t ht hW => ⟨⟨(nI n_4), (), rfl, ⟨n_4 + 1, by omega, rfl, (congrArg Prod.fst (hsp.symm.trans hRR))⟩, ⟨fa, fat, ⟨by rw [ht]; exact hP, va_K.moved hW.alike hK, hD⟩, (congrArg Prod.snd (hsp.symm.trans hRR))⟩⟩, hS.F ht⟩) hS.2.2 eX4_toldName_34
  · have c_1 : ¬ kd = 2 := fun z => c_1 ((nI_eq (a := kd) (b := 2) (Nat.lt_of_le_of_lt hkd (Nat.le_of_ble_eq_true rfl)) (Nat.le_of_ble_eq_true rfl)).mpr z)
    have hsp := hsp.trans (if_neg c_1)
    refine lv_aload_n hx hb eX4_toldName_8 rfl (lv_at hl 0 rfl) ?_
    have hFc := pu_free hD hS hA
    refine va_calli (va_runV (As := []) (rest := []) ⟨hx, hb, hml, hown, hts⟩ (c_E_4_refuseToken l dC dI _ rd fa fat tp len pos kd vl tka au rw rc rp k_ft ft k_fw fw k_fcn fcn k_fpn fpn hlen hpos hkd) (cwV 0 hts g_E_4_toldName_p_E_4_refuseToken rfl rfl rfl (by decide +kernel) ⟨Nat.le_of_ble_eq_true rfl, Nat.le_of_ble_eq_true rfl⟩) ⟨pu_bl, va_recv hK hP (ci := 4) (q0 := 0) rfl rfl, pu_in hP hK hD⟩ rfl rfl hl.1 rfl (lv_room (Nat.le_of_ble_eq_true rfl)) eX4_toldName_9 ⟨Nat.le_of_ble_eq_true rfl, Nat.le_of_ble_eq_true rfl⟩) hS (fun q _ h => hFc q h) hFc (fun r_8 u t H1 locs ht hvm hw hB hz1 hk1 hS => ?_)
    obtain ⟨z_fa_9, z_fat_10, ⟨hP1, -, hD1⟩, xr_8_0⟩ := hB
    rw [ht] at hP1
    have hP := hP1
    have hD := pu_all hFc hD1
    clear hP1 hD1 hFc
    clear hk1 hz1 ht hvm
    generalize H1 = H at hP hS ⊢
    have hsp := hsp.trans (slet_eq xr_8_0)
    obtain rfl : r_8 = 0 := hw
    refine lv_pop hx hb eX4_toldName_12 rfl ?_
    refine lv_iconst (v := (-1)) hx hb eX4_toldName_13 (by decide) ?_
    exact W.iret (v := (-1)) hx hb hr (fun t ht hW => ⟨⟨(-1), (), rfl, ⟨0, by omega, rfl, (congrArg Prod.fst (hsp.symm.trans hRR))⟩, ⟨z_fa_9, z_fat_10, ⟨by rw [ht]; exact hP, va_K.moved hW.alike hK, hD⟩, (congrArg Prod.snd (hsp.symm.trans hRR))⟩⟩, hS.F ht⟩) hS.2.2 eX4_toldName_14
theorem eX4_isNewName_0 : decode cX4_isNewName 0 = .ok (.aload_n 0, 1) := by decide +kernel
theorem eX4_isNewName_1 : decode cX4_isNewName 1 = .ok (.getfield 78, 3) := by decide +kernel
theorem eX4_isNewName_4 : decode cX4_isNewName 4 = .ok (.iconst 2, 1) := by decide +kernel
theorem eX4_isNewName_5 : decode cX4_isNewName 5 = .ok (.if_icmp .eq 8, 3) := by decide +kernel
theorem eX4_isNewName_8 : decode cX4_isNewName 8 = .ok (.aload_n 0, 1) := by decide +kernel
theorem eX4_isNewName_9 : decode cX4_isNewName 9 = .ok (.invokevirtual 94, 3) := by decide +kernel
theorem eX4_isNewName_12 : decode cX4_isNewName 12 = .ok (.ireturn, 1) := by decide +kernel
theorem eX4_isNewName_13 : decode cX4_isNewName 13 = .ok (.aload_n 0, 1) := by decide +kernel
theorem eX4_isNewName_14 : decode cX4_isNewName 14 = .ok (.aload_n 0, 1) := by decide +kernel
theorem eX4_isNewName_15 : decode cX4_isNewName 15 = .ok (.getfield 39, 3) := by decide +kernel
theorem eX4_isNewName_18 : decode cX4_isNewName 18 = .ok (.aload_n 0, 1) := by decide +kernel
theorem eX4_isNewName_19 : decode cX4_isNewName 19 = .ok (.getfield 66, 3) := by decide +kernel
theorem eX4_isNewName_22 : decode cX4_isNewName 22 = .ok (.getfield 121, 3) := by decide +kernel
theorem eX4_isNewName_25 : decode cX4_isNewName 25 = .ok (.invokevirtual 167, 3) := by decide +kernel
theorem eX4_isNewName_28 : decode cX4_isNewName 28 = .ok (.iconst (-1), 1) := by decide +kernel
theorem eX4_isNewName_29 : decode cX4_isNewName 29 = .ok (.if_icmp .ne 22, 3) := by decide +kernel
theorem eX4_isNewName_32 : decode cX4_isNewName 32 = .ok (.aload_n 0, 1) := by decide +kernel
theorem eX4_isNewName_33 : decode cX4_isNewName 33 = .ok (.aload_n 0, 1) := by decide +kernel
theorem eX4_isNewName_34 : decode cX4_isNewName 34 = .ok (.getfield 42, 3) := by decide +kernel
theorem eX4_isNewName_37 : decode cX4_isNewName 37 = .ok (.aload_n 0, 1) := by decide +kernel
theorem eX4_isNewName_38 : decode cX4_isNewName 38 = .ok (.getfield 66, 3) := by decide +kernel
theorem eX4_isNewName_41 : decode cX4_isNewName 41 = .ok (.getfield 100, 3) := by decide +kernel
theorem eX4_isNewName_44 : decode cX4_isNewName 44 = .ok (.invokevirtual 167, 3) := by decide +kernel
theorem eX4_isNewName_47 : decode cX4_isNewName 47 = .ok (.iconst (-1), 1) := by decide +kernel
theorem eX4_isNewName_48 : decode cX4_isNewName 48 = .ok (.if_icmp .eq 7, 3) := by decide +kernel
theorem eX4_isNewName_51 : decode cX4_isNewName 51 = .ok (.iconst 1, 1) := by decide +kernel
theorem eX4_isNewName_52 : decode cX4_isNewName 52 = .ok (.goto 4, 3) := by decide +kernel
theorem eX4_isNewName_55 : decode cX4_isNewName 55 = .ok (.iconst 0, 1) := by decide +kernel
theorem eX4_isNewName_56 : decode cX4_isNewName 56 = .ok (.istore_n 1, 1) := by decide +kernel
theorem eX4_isNewName_57 : decode cX4_isNewName 57 = .ok (.iload_n 1, 1) := by decide +kernel
theorem eX4_isNewName_58 : decode cX4_isNewName 58 = .ok (.ifCond .eq 11, 3) := by decide +kernel
theorem eX4_isNewName_61 : decode cX4_isNewName 61 = .ok (.aload_n 0, 1) := by decide +kernel
theorem eX4_isNewName_62 : decode cX4_isNewName 62 = .ok (.iconst 3, 1) := by decide +kernel
theorem eX4_isNewName_63 : decode cX4_isNewName 63 = .ok (.invokevirtual 103, 3) := by decide +kernel
theorem eX4_isNewName_66 : decode cX4_isNewName 66 = .ok (.ifCond .eq 7, 3) := by decide +kernel
theorem eX4_isNewName_69 : decode cX4_isNewName 69 = .ok (.iconst 1, 1) := by decide +kernel
theorem eX4_isNewName_70 : decode cX4_isNewName 70 = .ok (.goto 4, 3) := by decide +kernel
theorem eX4_isNewName_73 : decode cX4_isNewName 73 = .ok (.iconst 0, 1) := by decide +kernel
theorem eX4_isNewName_74 : decode cX4_isNewName 74 = .ok (.ireturn, 1) := by decide +kernel
abbrev vs_E_4_isNewName : List Cond := .code yX4_isNewName cX4_isNewName 2 (some .boolean) :: CM
theorem g_E_4_isNewName_E_4_refuse : GoodIn vs_E_4_isNewName (wsV RX4 103 RX4 yX4_refuse vs_E_4_refuse) := cm_gV cm_255 cm_256 cm_257 cm_232 cm_258
theorem g_E_4_isNewName_E_4_indexOf_c : GoodIn vs_E_4_isNewName (wsV RX4 167 RX4 yX4_indexOf vs_E_4_indexOf_c) := cm_gV cm_268 cm_269 cm_270 cm_232 cm_271
theorem g_E_4_isNewName_E_4_indexOf_p : GoodIn vs_E_4_isNewName (wsV RX4 167 RX4 yX4_indexOf vs_E_4_indexOf_p) := cm_gV cm_268 cm_269 cm_270 cm_232 cm_271
theorem g_E_4_isNewName_E_4_refuseToken : GoodIn vs_E_4_isNewName (wsV RX4 94 RX4 yX4_refuseToken vs_E_4_refuseToken) := cm_gV cm_264 cm_265 cm_266 cm_232 cm_267
noncomputable def sp_E_4_isNewName (fa : Int32) (fat : Int32) (kd : Nat) (vl : Int32) (tka : Int32) (fcn : Nat → Int32) (fpn : Nat → Int32) (nc : Nat) (np : Nat) : Nat × Int32 × Int32 := (if kd = 2 then (slet (α := Nat) (slet (sp_E_4_indexOf_c vl fcn nc) (fun u_11 => (if u_11 = 0 then (slet (sp_E_4_indexOf_p vl fpn np) (fun u_14 => (if u_14 = 0 then 0 else (slet (u_14 - 1) (fun n_15 => 1))))) else (slet (u_11 - 1) (fun n_12 => 1))))) (fun g_2 => (if g_2 = 0 then (1, fa, fat) else (slet (sp_E_4_refuse tka 3) (fun (z_fa_8, z_fat_9) => (0, z_fa_8, z_fat_9)))))) else (slet (sp_E_4_refuseToken kd tka) (fun (z_fa_17, z_fat_18) => (0, z_fa_17, z_fat_18))))
set_option maxHeartbeats 4000000 in
set_option maxRecDepth 100000 in
theorem c_E_4_isNewName (l : Launch) (dC : Nat → ClassId) (dI : Nat → Nat → Nat) (sz : Nat) (rd : Nat) (fa : Int32) (fat : Int32) (tp : Nat) (len : Nat) (pos : Nat) (kd : Nat) (vl : Int32) (tka : Int32) (au : Nat) (rw : Nat) (rc : Nat) (rp : Nat) (k_ft : ClassId) (ft : Nat → Int32) (k_fw : ClassId) (fw : Nat → Int32) (k_fcn : ClassId) (fcn : Nat → Int32) (k_fpn : ClassId) (fpn : Nat → Int32) (nc : Nat) (np : Nat) (ne : Nat) (st0 : Int32) (q4 : Nat) (q5 : Nat) (q6 : Nat) (q7 : Nat) (q8 : Nat) (q9 : Nat) (q10 : Nat) (q11 : Nat) (q12 : Nat) (q13 : Nat) (q14 : Nat) (q15 : Nat) (q16 : Nat) (k_f4 : ClassId) (f4 : Nat → Int32) (k_f5 : ClassId) (q_f5 : Nat → Nat) (k_f6 : ClassId) (q_f6 : Nat → Nat) (k_f7 : ClassId) (f7 : Nat → Int32) (k_f8 : ClassId) (q_f8 : Nat → Nat) (k_f9 : ClassId) (q_f9 : Nat → Nat) (k_f10 : ClassId) (f10 : Nat → Int32) (k_f11 : ClassId) (f11 : Nat → Int32) (k_f12 : ClassId) (f12 : Nat → Int32) (k_f13 : ClassId) (f13 : Nat → Int32) (k_f14 : ClassId) (f14 : Nat → Int32) (k_f15 : ClassId) (f15 : Nat → Int32) (k_f16 : ClassId) (f16 : Nat → Int32) (hlen : len ≤ 900) (hpos : pos ≤ 900) (hkd : kd ≤ 15) (hnc : nc ≤ 3) (hnp : np ≤ 8) (hne : ne ≤ 14) (hst0 : pm1 7 st0) : Met l yX4_isNewName vs_E_4_isNewName ({ frames := 2, cells := 0, slots := 0, locals := 41 }) (va_Pc [.ref rd] (pu_B (dC, dI) (ra__w rd fa fat tp (nI len) (nI pos) (nI kd) vl tka au rw rc rp k_ft ft k_fw fw k_fcn fcn k_fpn fpn (nI nc) (nI np) (nI ne) st0 q4 q5 q6 q7 q8 q9 q10 q11 q12 q13 q14 q15 q16 k_f4 f4 k_f5 (bN 7 q_f5) k_f6 (bN 7 q_f6) k_f7 f7 k_f8 (bN 4 q_f8) k_f9 (bN 2 q_f9) k_f10 f10 k_f11 f11 k_f12 f12 k_f13 f13 k_f14 f14 k_f15 f15 k_f16 f16) (ra__t k_ft k_fw k_fcn k_fpn k_f4 k_f5 k_f6 k_f7 k_f8 k_f9 k_f10 k_f11 k_f12 k_f13 k_f14 k_f15 k_f16) sz)) (va_Qi (fun (r : Int32) (_ : Unit) => ∃ v : Nat, v ≤ 1 ∧ r = nI v ∧ v = (sp_E_4_isNewName fa fat kd vl tka fcn fpn nc np).1) (fun _ t => ∃ (z_fa : Int32) (z_fat : Int32), pu_E (dC, dI) (ra__w rd z_fa z_fat tp (nI len) (nI pos) (nI kd) vl tka au rw rc rp k_ft ft k_fw fw k_fcn fcn k_fpn fpn (nI nc) (nI np) (nI ne) st0 q4 q5 q6 q7 q8 q9 q10 q11 q12 q13 q14 q15 q16 k_f4 f4 k_f5 (bN 7 q_f5) k_f6 (bN 7 q_f6) k_f7 f7 k_f8 (bN 4 q_f8) k_f9 (bN 2 q_f9) k_f10 f10 k_f11 f11 k_f12 f12 k_f13 f13 k_f14 f14 k_f15 f15 k_f16 f16) (ra__t k_ft k_fw k_fcn k_fpn k_f4 k_f5 k_f6 k_f7 k_f8 k_f9 k_f10 k_f11 k_f12 k_f13 k_f14 k_f15 k_f16) (va_A ((ra__w rd fa fat tp (nI len) (nI pos) (nI kd) vl tka au rw rc rp k_ft ft k_fw fw k_fcn fcn k_fpn fpn (nI nc) (nI np) (nI ne) st0 q4 q5 q6 q7 q8 q9 q10 q11 q12 q13 q14 q15 q16 k_f4 f4 k_f5 (bN 7 q_f5) k_f6 (bN 7 q_f6) k_f7 f7 k_f8 (bN 4 q_f8) k_f9 (bN 2 q_f9) k_f10 f10 k_f11 f11 k_f12 f12 k_f13 f13 k_f14 f14 k_f15 f15 k_f16 f16)) sz) t ∧ ((z_fa, z_fat) = (sp_E_4_isNewName fa fat kd vl tka fcn fpn nc np).2)) (va_A ((ra__w rd fa fat tp (nI len) (nI pos) (nI kd) vl tka au rw rc rp k_ft ft k_fw fw k_fcn fcn k_fpn fpn (nI nc) (nI np) (nI ne) st0 q4 q5 q6 q7 q8 q9 q10 q11 q12 q13 q14 q15 q16 k_f4 f4 k_f5 (bN 7 q_f5) k_f6 (bN 7 q_f6) k_f7 f7 k_f8 (bN 4 q_f8) k_f9 (bN 2 q_f9) k_f10 f10 k_f11 f11 k_f12 f12 k_f13 f13 k_f14 f14 k_f15 f15 k_f16 f16)) sz)) 0 0 (va_A ((ra__w rd fa fat tp (nI len) (nI pos) (nI kd) vl tka au rw rc rp k_ft ft k_fw fw k_fcn fcn k_fpn fpn (nI nc) (nI np) (nI ne) st0 q4 q5 q6 q7 q8 q9 q10 q11 q12 q13 q14 q15 q16 k_f4 f4 k_f5 (bN 7 q_f5) k_f6 (bN 7 q_f6) k_f7 f7 k_f8 (bN 4 q_f8) k_f9 (bN 2 q_f9) k_f10 f10 k_f11 f11 k_f12 f12 k_f13 f13 k_f14 f14 k_f15 f15 k_f16 f16)) sz) := by
  refine Met.ofW (cc := cX4_isNewName) (maxL := 2) (ret := (some .boolean)) (by decide) rfl ?_
  intro p e s m args below meth c s₁ B hml hv
  obtain ⟨rfl, rfl, hP, hK, hD0⟩ := hv
  have hx := B.exec
  have hb := B.bytes
  have hr := B.returns
  have hts := atoms_spec (ws := vs_E_4_isNewName) B.pre
  have v_1 := hts (.fieldLink RX4 78 "ClockReach$Reader" "kind" "I") (List.mem_cons_of_mem _ cm_222)
  have v_2 := hts (.fieldLink RX4 39 "ClockReach$Reader" "clockNames" "[I") (List.mem_cons_of_mem _ cm_254)
  have v_3 := hts (.fieldLink RX4 66 "ClockReach$Reader" "into" "LClockReach$Automaton;") (List.mem_cons_of_mem _ cm_221)
  have v_4 := hts (.fieldLink RX4 121 "ClockReach$Automaton" "clocks" "I") (List.mem_cons_of_mem _ cm_253)
  have v_10 := hts (.fieldLink RX4 42 "ClockReach$Reader" "placeNames" "[I") (List.mem_cons_of_mem _ cm_263)
  have v_11 := hts (.fieldLink RX4 100 "ClockReach$Automaton" "places" "I") (List.mem_cons_of_mem _ cm_223)
  have hown : s.vm.findClass RX4 = some m.cls := findClass_of_methodNamed B.named
  have hlocks := B.notSynchronized
  have hiX0 : ∀ w ∈ wsX00, w ∈ vs_E_4_isNewName := fun _ h => List.mem_cons_of_mem _ (cm_X0 h)
  have hiX4 : ∀ w ∈ wsX40, w ∈ vs_E_4_isNewName := fun _ h => List.mem_cons_of_mem _ (cm_X4 h)
  have hD := hD0.self (sz := s.heap.size)
  generalize hAe : va_A ((ra__w rd fa fat tp (nI len) (nI pos) (nI kd) vl tka au rw rc rp k_ft ft k_fw fw k_fcn fcn k_fpn fpn (nI nc) (nI np) (nI ne) st0 q4 q5 q6 q7 q8 q9 q10 q11 q12 q13 q14 q15 q16 k_f4 f4 k_f5 (bN 7 q_f5) k_f6 (bN 7 q_f6) k_f7 f7 k_f8 (bN 4 q_f8) k_f9 (bN 2 q_f9) k_f10 f10 k_f11 f11 k_f12 f12 k_f13 f13 k_f14 f14 k_f15 f15 k_f16 f16)) s.heap.size = A at hD ⊢
  have hA : ∀ q : Nat, s.heap.size ≤ q → A q := fun q h => by rw [← hAe]; exact Or.inr h
  have hS : va_S A s.heap s.heap [] := va_S.rf
  have hl := lv_entry ([.ref rd]) (n := 2) (Nat.le_of_ble_eq_true rfl)
  rw [lg_entry_eq]
  generalize (lg_sl ([.ref rd]) ++ List.replicate (2 - (lg_sl ([.ref rd])).length) Slot.unset).toArray = ls at hl ⊢
  have hl : lv_has ls 2 [(0, .ref rd)] := hl
  obtain ⟨RR, hRR⟩ : ∃ x, x = (sp_E_4_isNewName fa fat kd vl tka fcn fpn nc np) := ⟨_, rfl⟩
  have hsp := hRR
  refine lv_aload_n hx hb eX4_isNewName_0 rfl (lv_at hl 0 rfl) ?_
  refine va_get (D := (dC, dI)) (ci := 4) (v := .int (nI kd)) (C := RX4) (T := TX4) (N := 12) hx hb hts hiX4 hown hK hP 0 rfl rfl 5 (by decide) v_1 (fun _ h9 => h9) rfl eX4_isNewName_1 ?_
  refine lv_iconst (v := 2) hx hb eX4_isNewName_4 (by decide) ?_
  refine lv_icmp_eq (tgt := 13) hx hb eX4_isNewName_5 (by decide) (fun c_1 => ?_) (fun c_1 => ?_)
  · have c_1 : kd = 2 := (nI_eq (a := kd) (b := 2) (Nat.lt_of_le_of_lt hkd (Nat.le_of_ble_eq_true rfl)) (Nat.le_of_ble_eq_true rfl)).mp c_1
    have hsp := hsp.trans (if_pos c_1)
    refine lv_aload_n hx hb eX4_isNewName_13 rfl (lv_at hl 0 rfl) ?_
    refine lv_aload_n hx hb eX4_isNewName_14 rfl (lv_at hl 0 rfl) ?_
    refine va_get (D := (dC, dI)) (ci := 4) (v := .ref rc) (C := RX4) (T := TX4) (N := 12) hx hb hts hiX4 hown hK hP 0 rfl rfl 10 (by decide) v_2 (fun _ h9 => h9) rfl eX4_isNewName_15 ?_
    refine lv_aload_n hx hb eX4_isNewName_18 rfl (lv_at hl 0 rfl) ?_
    refine va_get (D := (dC, dI)) (ci := 4) (v := .ref au) (C := RX4) (T := TX4) (N := 12) hx hb hts hiX4 hown hK hP 0 rfl rfl 8 (by decide) v_3 (fun _ h9 => h9) rfl eX4_isNewName_19 ?_
    refine va_get (D := (dC, dI)) (ci := 0) (v := .int (nI nc)) (C := RX0) (T := TX0) (N := 17) hx hb hts hiX0 hown hK hP 5 rfl rfl 0 (by decide) v_4 (fun _ h9 => h9) rfl eX4_isNewName_22 ?_
    obtain ⟨JR_4, hJR_4, hsp⟩ := slet_ex hsp
    refine pu_join (fun H locs ls st => ∃ (g_2 : Nat), st = [.int (nI g_2)] ∧ g_2 ≤ 1 ∧ g_2 = JR_4 ∧ va_P (dC, dI) vwCl (ra__w rd fa fat tp (nI len) (nI pos) (nI kd) vl tka au rw rc rp k_ft ft k_fw fw k_fcn fcn k_fpn fpn (nI nc) (nI np) (nI ne) st0 q4 q5 q6 q7 q8 q9 q10 q11 q12 q13 q14 q15 q16 k_f4 f4 k_f5 (bN 7 q_f5) k_f6 (bN 7 q_f6) k_f7 f7 k_f8 (bN 4 q_f8) k_f9 (bN 2 q_f9) k_f10 f10 k_f11 f11 k_f12 f12 k_f13 f13 k_f14 f14 k_f15 f15 k_f16 f16) H ∧ va_D A (ra__w rd fa fat tp (nI len) (nI pos) (nI kd) vl tka au rw rc rp k_ft ft k_fw fw k_fcn fcn k_fpn fpn (nI nc) (nI np) (nI ne) st0 q4 q5 q6 q7 q8 q9 q10 q11 q12 q13 q14 q15 q16 k_f4 f4 k_f5 (bN 7 q_f5) k_f6 (bN 7 q_f6) k_f7 f7 k_f8 (bN 4 q_f8) k_f9 (bN 2 q_f9) k_f10 f10 k_f11 f11 k_f12 f12 k_f13 f13 k_f14 f14 k_f15 f15 k_f16 f16) ∧ va_S A s.heap H locs ∧ lv_has ls 2 [(0, .ref rd)]) 56 ?_ (fun j_3 => ?_)
    · rintro H locs ls st ⟨g_2, rfl, hg_2, he_5, hP, hD, hS, hl⟩
      rw [← he_5] at hsp
      refine lv_istore_n (lv' := [(1, .int (nI g_2)), (0, .ref rd)]) hx hb eX4_isNewName_56 rfl hl (by decide) rfl (fun ls hl => ?_)
      refine lv_iload_n hx hb eX4_isNewName_57 rfl (lv_at hl 0 rfl) ?_
      refine lv_if_eq (tgt := 69) hx hb eX4_isNewName_58 (by decide) (fun c_6 => ?_) (fun c_6 => ?_)
      · have c_6 : g_2 = 0 := (nI_eq (a := g_2) (b := 0) (Nat.lt_of_le_of_lt hg_2 (Nat.le_of_ble_eq_true rfl)) (Nat.le_of_ble_eq_true rfl)).mp c_6
        have hsp := hsp.trans (if_pos c_6)
        refine lv_iconst (v := 1) hx hb eX4_isNewName_69 (by decide) ?_
        refine lv_goto (tgt := 74) hx hb eX4_isNewName_70 (by decide) ?_
        exact W.zret (v := 1) (ty := .boolean) hx hb hr (rfl) (fun t ht hW => ⟨⟨1, (), rfl, ⟨1, (Nat.le_of_ble_eq_true rfl), rfl, (congrArg Prod.fst (hsp.symm.trans hRR))⟩, ⟨fa, fat, ⟨by rw [ht]; exact hP, va_K.moved hW.alike hK, hD⟩, (congrArg Prod.snd (hsp.symm.trans hRR))⟩⟩, hS.F ht⟩) hS.2.2 eX4_isNewName_74
      · have c_6 : ¬ g_2 = 0 := fun z => c_6 ((nI_eq (a := g_2) (b := 0) (Nat.lt_of_le_of_lt hg_2 (Nat.le_of_ble_eq_true rfl)) (Nat.le_of_ble_eq_true rfl)).mpr z)
        have hsp := hsp.trans (if_neg c_6)
        refine lv_aload_n hx hb eX4_isNewName_61 rfl (lv_at hl 1 rfl) ?_
        refine lv_iconst (v := 3) hx hb eX4_isNewName_62 (by decide) ?_
        have hPc : va_P (dC, dI) vwCl (rd__w rd fa fat tp (nI len) (nI pos) (nI kd) vl tka au rw rc rp k_ft ft k_fw fw k_fcn fcn k_fpn fpn) _ := hP.sub [0, 1, 2, 3, 4] rfl
        have hDc := hD.sub (ws' := (rd__w rd fa fat tp (nI len) (nI pos) (nI kd) vl tka au rw rc rp k_ft ft k_fw fw k_fcn fcn k_fpn fpn)) [0, 1, 2, 3, 4] (by decide) rfl
        have hKc : va_K (dC, dI) vwCl (rd__t k_ft k_fw k_fcn k_fpn) s := hK.sub [0, 1, 2, 3] rfl
        have hFc := pu_free hDc hS hA
        refine va_calli (va_runV (As := [.int 3]) (rest := []) ⟨hx, hb, hml, hown, hts⟩ (c_E_4_refuse l dC dI _ rd fa fat tp len pos kd vl tka au rw rc rp k_ft ft k_fw fw k_fcn fcn k_fpn fpn 3 hlen hpos hkd) (cwV 1 hts g_E_4_isNewName_E_4_refuse rfl rfl rfl (by decide +kernel) ⟨Nat.le_of_ble_eq_true rfl, Nat.le_of_ble_eq_true rfl⟩) ⟨pu_bl, va_recv hK hP (ci := 4) (q0 := 0) rfl rfl, pu_in hPc hKc hDc⟩ rfl rfl hl.1 rfl (lv_room (Nat.le_of_ble_eq_true rfl)) eX4_isNewName_63 ⟨Nat.le_of_ble_eq_true rfl, Nat.le_of_ble_eq_true rfl⟩) hS (fun q _ h => hFc q h) hFc (fun r_7 u t H1 locs ht hvm hw hB hz1 hk1 hS => ?_)
        obtain ⟨z_fa_8, z_fat_9, ⟨hP1, -, hD1⟩, xr_7_0⟩ := hB
        rw [ht] at hP1
        obtain ⟨hP, hD⟩ := pj_a (X := (ra__w rd fa fat tp (nI len) (nI pos) (nI kd) vl tka au rw rc rp k_ft ft k_fw fw k_fcn fcn k_fpn fpn (nI nc) (nI np) (nI ne) st0 q4 q5 q6 q7 q8 q9 q10 q11 q12 q13 q14 q15 q16 k_f4 f4 k_f5 (bN 7 q_f5) k_f6 (bN 7 q_f6) k_f7 f7 k_f8 (bN 4 q_f8) k_f9 (bN 2 q_f9) k_f10 f10 k_f11 f11 k_f12 f12 k_f13 f13 k_f14 f14 k_f15 f15 k_f16 f16)) (X' := (ra__w rd z_fa_8 z_fat_9 tp (nI len) (nI pos) (nI kd) vl tka au rw rc rp k_ft ft k_fw fw k_fcn fcn k_fpn fpn (nI nc) (nI np) (nI ne) st0 q4 q5 q6 q7 q8 q9 q10 q11 q12 q13 q14 q15 q16 k_f4 f4 k_f5 (bN 7 q_f5) k_f6 (bN 7 q_f6) k_f7 f7 k_f8 (bN 4 q_f8) k_f9 (bN 2 q_f9) k_f10 f10 k_f11 f11 k_f12 f12 k_f13 f13 k_f14 f14 k_f15 f15 k_f16 f16)) (wc := (rd__w rd fa fat tp (nI len) (nI pos) (nI kd) vl tka au rw rc rp k_ft ft k_fw fw k_fcn fcn k_fpn fpn)) (w1 := (rd__w rd z_fa_8 z_fat_9 tp (nI len) (nI pos) (nI kd) vl tka au rw rc rp k_ft ft k_fw fw k_fcn fcn k_fpn fpn)) hP hD [0, 1, 2, 3, 4] [0, 1, 2, 3, 4, 10, 11, 12, 13, 14, 15, 16, 17, 18, 19, 20, 21, 22, 23] 5 rfl hk1 hP1 rfl rfl rfl (by decide)
        clear hP1 hD1 hFc hPc hDc hKc
        clear hk1 hz1 ht hvm
        generalize H1 = H at hP hS ⊢
        have hsp := hsp.trans (slet_eq xr_7_0)
        obtain rfl : r_7 = 0 := hw
        refine lv_if_eq (tgt := 73) hx hb eX4_isNewName_66 (by decide) (fun _ => ?_) (fun z => absurd z (by decide))
        refine lv_iconst (v := 0) hx hb eX4_isNewName_73 (by decide) ?_
        exact W.zret (v := 0) (ty := .boolean) hx hb hr (rfl) (fun t ht hW => ⟨⟨0, (), rfl, ⟨0, (Nat.le_of_ble_eq_true rfl), rfl, (congrArg Prod.fst (hsp.symm.trans hRR))⟩, ⟨z_fa_8, z_fat_9, ⟨by rw [ht]; exact hP, va_K.moved hW.alike hK, hD⟩, (congrArg Prod.snd (hsp.symm.trans hRR))⟩⟩, hS.F ht⟩) hS.2.2 eX4_isNewName_74
    have hsp := hJR_4
    have hPc : va_P (dC, dI) vwCl (rd__w rd fa fat tp (nI len) (nI pos) (nI kd) vl tka au rw rc rp k_ft ft k_fw fw k_fcn fcn k_fpn fpn) _ := hP.sub [0, 1, 2, 3, 4] rfl
    have hDc := hD.sub (ws' := (rd__w rd fa fat tp (nI len) (nI pos) (nI kd) vl tka au rw rc rp k_ft ft k_fw fw k_fcn fcn k_fpn fpn)) [0, 1, 2, 3, 4] (by decide) rfl
    have hKc : va_K (dC, dI) vwCl (rd__t k_ft k_fw k_fcn k_fpn) s := hK.sub [0, 1, 2, 3] rfl
    refine va_calli (va_runV (As := [.ref rc, .int (nI nc)]) (rest := []) ⟨hx, hb, hml, hown, hts⟩ (c_E_4_indexOf_c l dC dI _ rd fa fat tp len pos kd vl tka au rw rc rp k_ft ft k_fw fw k_fcn fcn k_fpn fpn nc hlen hpos hkd hnc) (cwV 2 hts g_E_4_isNewName_E_4_indexOf_c rfl rfl rfl (by decide +kernel) ⟨Nat.le_of_ble_eq_true rfl, Nat.le_of_ble_eq_true rfl⟩) ⟨pu_bl, va_recv hK hP (ci := 4) (q0 := 0) rfl rfl, pu_in hPc hKc hDc⟩ rfl rfl hl.1 rfl (lv_room (Nat.le_of_ble_eq_true rfl)) eX4_isNewName_25 ⟨Nat.le_of_ble_eq_true rfl, Nat.le_of_ble_eq_true rfl⟩) hS (fun q _ h => pu_fr hS hA q h) (pu_fr hS hA) (fun r_10 u t H1 locs ht hvm hw hB hz1 hk1 hS => ?_)
    have hP := pu_keep hP hk1
    clear hk1 hz1 ht hvm
    generalize H1 = H at hP hS ⊢
    obtain ⟨u_11, hu_11, mu_11, iu_11⟩ := hw
    have hsp := hsp.trans (slet_eq iu_11)
    rcases mI_get u_11 with ⟨zn_12, wn_12⟩ | ⟨n_12, zn_12, wn_12⟩
    · obtain rfl : r_10 = -1 := mu_11.trans wn_12
      have hsp := hsp.trans (if_pos zn_12)
      refine lv_iconst (v := (-1)) hx hb eX4_isNewName_28 (by decide) ?_
      refine lv_icmp_ne (tgt := 51) hx hb eX4_isNewName_29 (by decide) (fun z => absurd z (by decide)) (fun _ => ?_)
      refine lv_aload_n hx hb eX4_isNewName_32 rfl (lv_at hl 0 rfl) ?_
      refine lv_aload_n hx hb eX4_isNewName_33 rfl (lv_at hl 0 rfl) ?_
      refine va_get (D := (dC, dI)) (ci := 4) (v := .ref rp) (C := RX4) (T := TX4) (N := 12) hx hb hts hiX4 hown hK hP 0 rfl rfl 11 (by decide) v_10 (fun _ h9 => h9) rfl eX4_isNewName_34 ?_
      refine lv_aload_n hx hb eX4_isNewName_37 rfl (lv_at hl 0 rfl) ?_
      refine va_get (D := (dC, dI)) (ci := 4) (v := .ref au) (C := RX4) (T := TX4) (N := 12) hx hb hts hiX4 hown hK hP 0 rfl rfl 8 (by decide) v_3 (fun _ h9 => h9) rfl eX4_isNewName_38 ?_
      refine va_get (D := (dC, dI)) (ci := 0) (v := .int (nI np)) (C := RX0) (T := TX0) (N := 17) hx hb hts hiX0 hown hK hP 5 rfl rfl 1 (by decide) v_11 (fun _ h9 => h9) rfl eX4_isNewName_41 ?_
      have hPc : va_P (dC, dI) vwCl (rd__w rd fa fat tp (nI len) (nI pos) (nI kd) vl tka au rw rc rp k_ft ft k_fw fw k_fcn fcn k_fpn fpn) _ := hP.sub [0, 1, 2, 3, 4] rfl
      have hDc := hD.sub (ws' := (rd__w rd fa fat tp (nI len) (nI pos) (nI kd) vl tka au rw rc rp k_ft ft k_fw fw k_fcn fcn k_fpn fpn)) [0, 1, 2, 3, 4] (by decide) rfl
      have hKc : va_K (dC, dI) vwCl (rd__t k_ft k_fw k_fcn k_fpn) s := hK.sub [0, 1, 2, 3] rfl
      refine va_calli (va_runV (As := [.ref rp, .int (nI np)]) (rest := []) ⟨hx, hb, hml, hown, hts⟩ (c_E_4_indexOf_p l dC dI _ rd fa fat tp len pos kd vl tka au rw rc rp k_ft ft k_fw fw k_fcn fcn k_fpn fpn np hlen hpos hkd hnp) (cwV 2 hts g_E_4_isNewName_E_4_indexOf_p rfl rfl rfl (by decide +kernel) ⟨Nat.le_of_ble_eq_true rfl, Nat.le_of_ble_eq_true rfl⟩) ⟨pu_bl, va_recv hK hP (ci := 4) (q0 := 0) rfl rfl, pu_in hPc hKc hDc⟩ rfl rfl hl.1 rfl (lv_room (Nat.le_of_ble_eq_true rfl)) eX4_isNewName_44 ⟨Nat.le_of_ble_eq_true rfl, Nat.le_of_ble_eq_true rfl⟩) hS (fun q _ h => pu_fr hS hA q h) (pu_fr hS hA) (fun r_13 u t H1 locs ht hvm hw hB hz1 hk1 hS => ?_)
      have hP := pu_keep hP hk1
      clear hk1 hz1 ht hvm
      generalize H1 = H at hP hS ⊢
      obtain ⟨u_14, hu_14, mu_14, iu_14⟩ := hw
      have hsp := hsp.trans (slet_eq iu_14)
      rcases mI_get u_14 with ⟨zn_15, wn_15⟩ | ⟨n_15, zn_15, wn_15⟩
      · obtain rfl : r_13 = -1 := mu_14.trans wn_15
        have hsp := hsp.trans (if_pos zn_15)
        refine lv_iconst (v := (-1)) hx hb eX4_isNewName_47 (by decide) ?_
        refine lv_icmp_eq (tgt := 55) hx hb eX4_isNewName_48 (by decide) (fun _ => ?_) (fun z => absurd z (by decide))
        refine lv_iconst (v := 0) hx hb eX4_isNewName_55 (by decide) ?_
        exact j_3 _ _ _ _ ⟨0, rfl, (Nat.le_of_ble_eq_true rfl), hsp.symm, hP, hD, hS, lv_sub hl [0] rfl⟩
      · obtain rfl : r_13 = nI n_15 := mu_14.trans wn_15
        have hn_15 : n_15 ≤ 7 := by omega
        have hsp := hsp.trans (if_neg (by omega))
        have hsp := hsp.trans (slet_eq (by omega : n_15 = u_14 - 1))
        refine lv_iconst (v := (-1)) hx hb eX4_isNewName_47 (by decide) ?_
        refine lv_icmp_eq (tgt := 55) hx hb eX4_isNewName_48 (by decide) (fun z => absurd z (pu_nneg (n := n_15) (by omega) (by decide))) (fun _ => ?_)
        refine lv_iconst (v := 1) hx hb eX4_isNewName_51 (by decide) ?_
        refine lv_goto (tgt := 56) hx hb eX4_isNewName_52 (by decide) ?_
        exact j_3 _ _ _ _ ⟨1, rfl, (Nat.le_of_ble_eq_true rfl), hsp.symm, hP, hD, hS, lv_sub hl [0] rfl⟩
    · obtain rfl : r_10 = nI n_12 := mu_11.trans wn_12
      have hn_12 : n_12 ≤ 2 := by omega
      have hsp := hsp.trans (if_neg (by omega))
      have hsp := hsp.trans (slet_eq (by omega : n_12 = u_11 - 1))
      refine lv_iconst (v := (-1)) hx hb eX4_isNewName_28 (by decide) ?_
      refine lv_icmp_ne (tgt := 51) hx hb eX4_isNewName_29 (by decide) (fun _ => ?_) (fun z => absurd z (pu_nneg (n := n_12) (by omega) (by decide)))
      refine lv_iconst (v := 1) hx hb eX4_isNewName_51 (by decide) ?_
      refine lv_goto (tgt := 56) hx hb eX4_isNewName_52 (by decide) ?_
      exact j_3 _ _ _ _ ⟨1, rfl, (Nat.le_of_ble_eq_true rfl), hsp.symm, hP, hD, hS, lv_sub hl [0] rfl⟩
  · have c_1 : ¬ kd = 2 := fun z => c_1 ((nI_eq (a := kd) (b := 2) (Nat.lt_of_le_of_lt hkd (Nat.le_of_ble_eq_true rfl)) (Nat.le_of_ble_eq_true rfl)).mpr z)
    have hsp := hsp.trans (if_neg c_1)
    refine lv_aload_n hx hb eX4_isNewName_8 rfl (lv_at hl 0 rfl) ?_
    have hPc : va_P (dC, dI) vwCl (rd__w rd fa fat tp (nI len) (nI pos) (nI kd) vl tka au rw rc rp k_ft ft k_fw fw k_fcn fcn k_fpn fpn) _ := hP.sub [0, 1, 2, 3, 4] rfl
    have hDc := hD.sub (ws' := (rd__w rd fa fat tp (nI len) (nI pos) (nI kd) vl tka au rw rc rp k_ft ft k_fw fw k_fcn fcn k_fpn fpn)) [0, 1, 2, 3, 4] (by decide) rfl
    have hKc : va_K (dC, dI) vwCl (rd__t k_ft k_fw k_fcn k_fpn) s := hK.sub [0, 1, 2, 3] rfl
    have hFc := pu_free hDc hS hA
    refine va_calli (va_runV (As := []) (rest := []) ⟨hx, hb, hml, hown, hts⟩ (c_E_4_refuseToken l dC dI _ rd fa fat tp len pos kd vl tka au rw rc rp k_ft ft k_fw fw k_fcn fcn k_fpn fpn hlen hpos hkd) (cwV 0 hts g_E_4_isNewName_E_4_refuseToken rfl rfl rfl (by decide +kernel) ⟨Nat.le_of_ble_eq_true rfl, Nat.le_of_ble_eq_true rfl⟩) ⟨pu_bl, va_recv hK hP (ci := 4) (q0 := 0) rfl rfl, pu_in hPc hKc hDc⟩ rfl rfl hl.1 rfl (lv_room (Nat.le_of_ble_eq_true rfl)) eX4_isNewName_9 ⟨Nat.le_of_ble_eq_true rfl, Nat.le_of_ble_eq_true rfl⟩) hS (fun q _ h => hFc q h) hFc (fun r_16 u t H1 locs ht hvm hw hB hz1 hk1 hS => ?_)
    obtain ⟨z_fa_17, z_fat_18, ⟨hP1, -, hD1⟩, xr_16_0⟩ := hB
    rw [ht] at hP1
    obtain ⟨hP, hD⟩ := pj_a (X := (ra__w rd fa fat tp (nI len) (nI pos) (nI kd) vl tka au rw rc rp k_ft ft k_fw fw k_fcn fcn k_fpn fpn (nI nc) (nI np) (nI ne) st0 q4 q5 q6 q7 q8 q9 q10 q11 q12 q13 q14 q15 q16 k_f4 f4 k_f5 (bN 7 q_f5) k_f6 (bN 7 q_f6) k_f7 f7 k_f8 (bN 4 q_f8) k_f9 (bN 2 q_f9) k_f10 f10 k_f11 f11 k_f12 f12 k_f13 f13 k_f14 f14 k_f15 f15 k_f16 f16)) (X' := (ra__w rd z_fa_17 z_fat_18 tp (nI len) (nI pos) (nI kd) vl tka au rw rc rp k_ft ft k_fw fw k_fcn fcn k_fpn fpn (nI nc) (nI np) (nI ne) st0 q4 q5 q6 q7 q8 q9 q10 q11 q12 q13 q14 q15 q16 k_f4 f4 k_f5 (bN 7 q_f5) k_f6 (bN 7 q_f6) k_f7 f7 k_f8 (bN 4 q_f8) k_f9 (bN 2 q_f9) k_f10 f10 k_f11 f11 k_f12 f12 k_f13 f13 k_f14 f14 k_f15 f15 k_f16 f16)) (wc := (rd__w rd fa fat tp (nI len) (nI pos) (nI kd) vl tka au rw rc rp k_ft ft k_fw fw k_fcn fcn k_fpn fpn)) (w1 := (rd__w rd z_fa_17 z_fat_18 tp (nI len) (nI pos) (nI kd) vl tka au rw rc rp k_ft ft k_fw fw k_fcn fcn k_fpn fpn)) hP hD [0, 1, 2, 3, 4] [0, 1, 2, 3, 4, 10, 11, 12, 13, 14, 15, 16, 17, 18, 19, 20, 21, 22, 23] 5 rfl hk1 hP1 rfl rfl rfl (by decide)
    clear hP1 hD1 hFc hPc hDc hKc
    clear hk1 hz1 ht hvm
    generalize H1 = H at hP hS ⊢
    have hsp := hsp.trans (slet_eq xr_16_0)
    obtain rfl : r_16 = 0 := hw
    exact W.zret (v := 0) (ty := .boolean) hx hb hr (rfl) (fun t ht hW => ⟨⟨0, (), rfl, ⟨0, (Nat.le_of_ble_eq_true rfl), rfl, (congrArg Prod.fst (hsp.symm.trans hRR))⟩, ⟨z_fa_17, z_fat_18, ⟨by rw [ht]; exact hP, va_K.moved hW.alike hK, hD⟩, (congrArg Prod.snd (hsp.symm.trans hRR))⟩⟩, hS.F ht⟩) hS.2.2 eX4_isNewName_12
theorem eX4_readHow_0 : decode cX4_readHow 0 = .ok (.aload_n 0, 1) := by decide +kernel
theorem eX4_readHow_1 : decode cX4_readHow 1 = .ok (.getfield 78, 3) := by decide +kernel
theorem eX4_readHow_4 : decode cX4_readHow 4 = .ok (.istore_n 2, 1) := by decide +kernel
theorem eX4_readHow_5 : decode cX4_readHow 5 = .ok (.iload_n 2, 1) := by decide +kernel
theorem eX4_readHow_6 : decode cX4_readHow 6 = .ok (.iconst 4, 1) := by decide +kernel
theorem eX4_readHow_7 : decode cX4_readHow 7 = .ok (.if_icmp .eq 25, 3) := by decide +kernel
theorem eX4_readHow_10 : decode cX4_readHow 10 = .ok (.iload_n 1, 1) := by decide +kernel
theorem eX4_readHow_11 : decode cX4_readHow 11 = .ok (.ifCond .ne 14, 3) := by decide +kernel
theorem eX4_readHow_14 : decode cX4_readHow 14 = .ok (.iload_n 2, 1) := by decide +kernel
theorem eX4_readHow_15 : decode cX4_readHow 15 = .ok (.iconst 5, 1) := by decide +kernel
theorem eX4_readHow_16 : decode cX4_readHow 16 = .ok (.if_icmp .eq 16, 3) := by decide +kernel
theorem eX4_readHow_19 : decode cX4_readHow 19 = .ok (.iload_n 2, 1) := by decide +kernel
theorem eX4_readHow_20 : decode cX4_readHow 20 = .ok (.bipush 6, 2) := by decide +kernel
theorem eX4_readHow_22 : decode cX4_readHow 22 = .ok (.if_icmp .eq 10, 3) := by decide +kernel
theorem eX4_readHow_25 : decode cX4_readHow 25 = .ok (.aload_n 0, 1) := by decide +kernel
theorem eX4_readHow_26 : decode cX4_readHow 26 = .ok (.invokevirtual 94, 3) := by decide +kernel
theorem eX4_readHow_29 : decode cX4_readHow 29 = .ok (.pop, 1) := by decide +kernel
theorem eX4_readHow_30 : decode cX4_readHow 30 = .ok (.iconst (-1), 1) := by decide +kernel
theorem eX4_readHow_31 : decode cX4_readHow 31 = .ok (.ireturn, 1) := by decide +kernel
theorem eX4_readHow_32 : decode cX4_readHow 32 = .ok (.aload_n 0, 1) := by decide +kernel
theorem eX4_readHow_33 : decode cX4_readHow 33 = .ok (.invokevirtual 75, 3) := by decide +kernel
theorem eX4_readHow_36 : decode cX4_readHow 36 = .ok (.iload_n 2, 1) := by decide +kernel
theorem eX4_readHow_37 : decode cX4_readHow 37 = .ok (.iconst 5, 1) := by decide +kernel
theorem eX4_readHow_38 : decode cX4_readHow 38 = .ok (.if_icmp .ne 5, 3) := by decide +kernel
theorem eX4_readHow_41 : decode cX4_readHow 41 = .ok (.iconst 2, 1) := by decide +kernel
theorem eX4_readHow_42 : decode cX4_readHow 42 = .ok (.ireturn, 1) := by decide +kernel
theorem eX4_readHow_43 : decode cX4_readHow 43 = .ok (.aload_n 0, 1) := by decide +kernel
theorem eX4_readHow_44 : decode cX4_readHow 44 = .ok (.getfield 78, 3) := by decide +kernel
theorem eX4_readHow_47 : decode cX4_readHow 47 = .ok (.iconst 5, 1) := by decide +kernel
theorem eX4_readHow_48 : decode cX4_readHow 48 = .ok (.if_icmp .eq 14, 3) := by decide +kernel
theorem eX4_readHow_51 : decode cX4_readHow 51 = .ok (.iload_n 2, 1) := by decide +kernel
theorem eX4_readHow_52 : decode cX4_readHow 52 = .ok (.iconst 4, 1) := by decide +kernel
theorem eX4_readHow_53 : decode cX4_readHow 53 = .ok (.if_icmp .ne 7, 3) := by decide +kernel
theorem eX4_readHow_56 : decode cX4_readHow 56 = .ok (.iconst 0, 1) := by decide +kernel
theorem eX4_readHow_57 : decode cX4_readHow 57 = .ok (.goto 4, 3) := by decide +kernel
theorem eX4_readHow_60 : decode cX4_readHow 60 = .ok (.iconst 4, 1) := by decide +kernel
theorem eX4_readHow_61 : decode cX4_readHow 61 = .ok (.ireturn, 1) := by decide +kernel
theorem eX4_readHow_62 : decode cX4_readHow 62 = .ok (.aload_n 0, 1) := by decide +kernel
theorem eX4_readHow_63 : decode cX4_readHow 63 = .ok (.invokevirtual 75, 3) := by decide +kernel
theorem eX4_readHow_66 : decode cX4_readHow 66 = .ok (.iload_n 2, 1) := by decide +kernel
theorem eX4_readHow_67 : decode cX4_readHow 67 = .ok (.iconst 4, 1) := by decide +kernel
theorem eX4_readHow_68 : decode cX4_readHow 68 = .ok (.if_icmp .ne 7, 3) := by decide +kernel
theorem eX4_readHow_71 : decode cX4_readHow 71 = .ok (.iconst 1, 1) := by decide +kernel
theorem eX4_readHow_72 : decode cX4_readHow 72 = .ok (.goto 4, 3) := by decide +kernel
theorem eX4_readHow_75 : decode cX4_readHow 75 = .ok (.iconst 3, 1) := by decide +kernel
theorem eX4_readHow_76 : decode cX4_readHow 76 = .ok (.ireturn, 1) := by decide +kernel
abbrev vs_E_4_readHow : List Cond := .code yX4_readHow cX4_readHow 3 (some .int) :: CM
theorem g_E_4_readHow_E_4_advance : GoodIn vs_E_4_readHow (wsV RX4 75 RX4 yX4_advance vs_E_4_advance) := cm_gV cm_229 cm_230 cm_231 cm_232 cm_233
theorem g_E_4_readHow_E_4_refuseToken : GoodIn vs_E_4_readHow (wsV RX4 94 RX4 yX4_refuseToken vs_E_4_refuseToken) := cm_gV cm_264 cm_265 cm_266 cm_232 cm_267
noncomputable def sp_E_4_readHow (fa : Int32) (fat : Int32) (len : Nat) (pos : Nat) (kd : Nat) (vl : Int32) (tka : Int32) (ft : Nat → Int32) (fw : Nat → Int32) (a0 : Nat) : Nat × Int32 × Int32 × Nat × Nat × Int32 × Int32 := (if kd = 4 then (slet (sp_E_4_advance len pos vl ft fw) (fun (z_pos_3, z_kd_4, z_vl_5, z_tka_6) => (if z_kd_4 = 5 then (slet (sp_E_4_advance len z_pos_3 z_vl_5 ft fw) (fun (z_pos_10, z_kd_11, z_vl_12, z_tka_13) => ((1 + 1), fa, fat, z_pos_10, z_kd_11, z_vl_12, z_tka_13))) else ((0 + 1), fa, fat, z_pos_3, z_kd_4, z_vl_5, z_tka_6)))) else (if a0 = 0 then (if kd = 5 then (slet (sp_E_4_advance len pos vl ft fw) (fun (z_pos_22, z_kd_23, z_vl_24, z_tka_25) => ((2 + 1), fa, fat, z_pos_22, z_kd_23, z_vl_24, z_tka_25))) else (if kd = 6 then (slet (sp_E_4_advance len pos vl ft fw) (fun (z_pos_29, z_kd_30, z_vl_31, z_tka_32) => (if z_kd_30 = 5 then (slet (sp_E_4_advance len z_pos_29 z_vl_31 ft fw) (fun (z_pos_36, z_kd_37, z_vl_38, z_tka_39) => ((3 + 1), fa, fat, z_pos_36, z_kd_37, z_vl_38, z_tka_39))) else ((4 + 1), fa, fat, z_pos_29, z_kd_30, z_vl_31, z_tka_32)))) else (slet (sp_E_4_refuseToken kd tka) (fun (z_fa_43, z_fat_44) => (0, z_fa_43, z_fat_44, pos, kd, vl, tka))))) else (slet (sp_E_4_refuseToken kd tka) (fun (z_fa_18, z_fat_19) => (0, z_fa_18, z_fat_19, pos, kd, vl, tka)))))
set_option maxHeartbeats 4000000 in
set_option maxRecDepth 100000 in
theorem c_E_4_readHow (l : Launch) (dC : Nat → ClassId) (dI : Nat → Nat → Nat) (sz : Nat) (rd : Nat) (fa : Int32) (fat : Int32) (tp : Nat) (len : Nat) (pos : Nat) (kd : Nat) (vl : Int32) (tka : Int32) (au : Nat) (rw : Nat) (rc : Nat) (rp : Nat) (k_ft : ClassId) (ft : Nat → Int32) (k_fw : ClassId) (fw : Nat → Int32) (k_fcn : ClassId) (fcn : Nat → Int32) (k_fpn : ClassId) (fpn : Nat → Int32) (a0 : Nat) (hlen : len ≤ 900) (hpos : pos ≤ 900) (hkd : kd ≤ 15) (ha0 : a0 ≤ 1) : Met l yX4_readHow vs_E_4_readHow ({ frames := 2, cells := 0, slots := 0, locals := 41 }) (va_Pc [.ref rd, .int (nI a0)] (pu_B (dC, dI) (rd__w rd fa fat tp (nI len) (nI pos) (nI kd) vl tka au rw rc rp k_ft ft k_fw fw k_fcn fcn k_fpn fpn) (rd__t k_ft k_fw k_fcn k_fpn) sz)) (va_Qi (fun (r : Int32) (_ : Unit) => ∃ v : Nat, v ≤ 5 ∧ r = mI v ∧ v = (sp_E_4_readHow fa fat len pos kd vl tka ft fw a0).1) (fun _ t => ∃ (z_fa : Int32) (z_fat : Int32) (z_pos : Nat) (z_kd : Nat) (z_vl : Int32) (z_tka : Int32), pu_E (dC, dI) (rd__w rd z_fa z_fat tp (nI len) (nI z_pos) (nI z_kd) z_vl z_tka au rw rc rp k_ft ft k_fw fw k_fcn fcn k_fpn fpn) (rd__t k_ft k_fw k_fcn k_fpn) (va_A ((rd__w rd fa fat tp (nI len) (nI pos) (nI kd) vl tka au rw rc rp k_ft ft k_fw fw k_fcn fcn k_fpn fpn)) sz) t ∧ (z_pos ≤ 900) ∧ (z_kd ≤ 15) ∧ ((z_fa, z_fat, z_pos, z_kd, z_vl, z_tka) = (sp_E_4_readHow fa fat len pos kd vl tka ft fw a0).2)) (va_A ((rd__w rd fa fat tp (nI len) (nI pos) (nI kd) vl tka au rw rc rp k_ft ft k_fw fw k_fcn fcn k_fpn fpn)) sz)) 0 0 (va_A ((rd__w rd fa fat tp (nI len) (nI pos) (nI kd) vl tka au rw rc rp k_ft ft k_fw fw k_fcn fcn k_fpn fpn)) sz) := by
  refine Met.ofW (cc := cX4_readHow) (maxL := 3) (ret := (some .int)) (by decide) rfl ?_
  intro p e s m args below meth c s₁ B hml hv
  obtain ⟨rfl, rfl, hP, hK, hD0⟩ := hv
  have hx := B.exec
  have hb := B.bytes
  have hr := B.returns
  have hts := atoms_spec (ws := vs_E_4_readHow) B.pre
  have v_1 := hts (.fieldLink RX4 78 "ClockReach$Reader" "kind" "I") (List.mem_cons_of_mem _ cm_222)
  have hown : s.vm.findClass RX4 = some m.cls := findClass_of_methodNamed B.named
  have hlocks := B.notSynchronized
  have hiX4 : ∀ w ∈ wsX40, w ∈ vs_E_4_readHow := fun _ h => List.mem_cons_of_mem _ (cm_X4 h)
  have hD := hD0.self (sz := s.heap.size)
  generalize hAe : va_A ((rd__w rd fa fat tp (nI len) (nI pos) (nI kd) vl tka au rw rc rp k_ft ft k_fw fw k_fcn fcn k_fpn fpn)) s.heap.size = A at hD ⊢
  have hA : ∀ q : Nat, s.heap.size ≤ q → A q := fun q h => by rw [← hAe]; exact Or.inr h
  have hS : va_S A s.heap s.heap [] := va_S.rf
  have hl := lv_entry ([.ref rd, .int (nI a0)]) (n := 3) (Nat.le_of_ble_eq_true rfl)
  rw [lg_entry_eq]
  generalize (lg_sl ([.ref rd, .int (nI a0)]) ++ List.replicate (3 - (lg_sl ([.ref rd, .int (nI a0)])).length) Slot.unset).toArray = ls at hl ⊢
  have hl : lv_has ls 3 [(0, .ref rd), (1, .int (nI a0))] := hl
  obtain ⟨RR, hRR⟩ : ∃ x, x = (sp_E_4_readHow fa fat len pos kd vl tka ft fw a0) := ⟨_, rfl⟩
  have hsp := hRR
  refine lv_aload_n hx hb eX4_readHow_0 rfl (lv_at hl 0 rfl) ?_
  refine va_get (D := (dC, dI)) (ci := 4) (v := .int (nI kd)) (C := RX4) (T := TX4) (N := 12) hx hb hts hiX4 hown hK hP 0 rfl rfl 5 (by decide) v_1 (fun _ h9 => h9) rfl eX4_readHow_1 ?_
  refine lv_istore_n (lv' := [(2, .int (nI kd)), (0, .ref rd), (1, .int (nI a0))]) hx hb eX4_readHow_4 rfl hl (by decide) rfl (fun ls hl => ?_)
  refine lv_iload_n hx hb eX4_readHow_5 rfl (lv_at hl 0 rfl) ?_
  refine lv_iconst (v := 4) hx hb eX4_readHow_6 (by decide) ?_
  refine lv_icmp_eq (tgt := 32) hx hb eX4_readHow_7 (by decide) (fun c_1 => ?_) (fun c_1 => ?_)
  · have c_1 : kd = 4 := (nI_eq (a := kd) (b := 4) (Nat.lt_of_le_of_lt hkd (Nat.le_of_ble_eq_true rfl)) (Nat.le_of_ble_eq_true rfl)).mp c_1
    have hsp := hsp.trans (if_pos c_1)
    refine lv_aload_n hx hb eX4_readHow_32 rfl (lv_at hl 1 rfl) ?_
    have hFc := pu_free hD hS hA
    refine va_callv (va_runV (As := []) (rest := []) ⟨hx, hb, hml, hown, hts⟩ (c_E_4_advance l dC dI _ rd fa fat tp len pos kd vl tka au rw rc rp k_ft ft k_fw fw k_fcn fcn k_fpn fpn hlen hpos hkd) (cwV 0 hts g_E_4_readHow_E_4_advance rfl rfl rfl (by decide +kernel) ⟨Nat.le_of_ble_eq_true rfl, Nat.le_of_ble_eq_true rfl⟩) ⟨pu_bl, va_recv hK hP (ci := 4) (q0 := 0) rfl rfl, pu_in hP hK hD⟩ rfl rfl hl.1 rfl (lv_room (Nat.le_of_ble_eq_true rfl)) eX4_readHow_33 ⟨Nat.le_of_ble_eq_true rfl, Nat.le_of_ble_eq_true rfl⟩) hS (fun q _ h => hFc q h) hFc (fun u t H1 locs ht hvm hw hB hz1 hk1 hS => ?_)
    obtain ⟨z_pos_3, z_kd_4, z_vl_5, z_tka_6, ⟨hP1, -, hD1⟩, hz_pos_3, hz_kd_4, xr_2_0⟩ := hB
    rw [ht] at hP1
    have hP := hP1
    have hD := pu_all hFc hD1
    clear hP1 hD1 hFc
    clear hk1 hz1 ht hvm
    generalize H1 = H at hP hS ⊢
    have hsp := hsp.trans (slet_eq xr_2_0)
    refine lv_iload_n hx hb eX4_readHow_36 rfl (lv_at hl 0 rfl) ?_
    refine lv_iconst (v := 5) hx hb eX4_readHow_37 (by decide) ?_
    refine lv_icmp_ne (tgt := 43) hx hb eX4_readHow_38 (by decide) (fun c_7 => ?_) (fun c_7 => ?_)
    · have c_7 : ¬ kd = 5 := fun z => c_7 ((nI_eq (a := kd) (b := 5) (Nat.lt_of_le_of_lt hkd (Nat.le_of_ble_eq_true rfl)) (Nat.le_of_ble_eq_true rfl)).mpr z)
      refine lv_aload_n hx hb eX4_readHow_43 rfl (lv_at hl 1 rfl) ?_
      refine va_get (D := (dC, dI)) (ci := 4) (v := .int (nI z_kd_4)) (C := RX4) (T := TX4) (N := 12) hx hb hts hiX4 hown hK hP 0 rfl rfl 5 (by decide) v_1 (fun _ h9 => h9) rfl eX4_readHow_44 ?_
      refine lv_iconst (v := 5) hx hb eX4_readHow_47 (by decide) ?_
      refine lv_icmp_eq (tgt := 62) hx hb eX4_readHow_48 (by decide) (fun c_8 => ?_) (fun c_8 => ?_)
      · have c_8 : z_kd_4 = 5 := (nI_eq (a := z_kd_4) (b := 5) (Nat.lt_of_le_of_lt hz_kd_4 (Nat.le_of_ble_eq_true rfl)) (Nat.le_of_ble_eq_true rfl)).mp c_8
        have hsp := hsp.trans (if_pos c_8)
        refine lv_aload_n hx hb eX4_readHow_62 rfl (lv_at hl 1 rfl) ?_
        have hFc := pu_free hD hS hA
        refine va_callv (va_runV (As := []) (rest := []) ⟨hx, hb, hml, hown, hts⟩ (c_E_4_advance l dC dI _ rd fa fat tp len z_pos_3 z_kd_4 z_vl_5 z_tka_6 au rw rc rp k_ft ft k_fw fw k_fcn fcn k_fpn fpn hlen hz_pos_3 hz_kd_4) (cwV 0 hts g_E_4_readHow_E_4_advance rfl rfl rfl (by decide +kernel) ⟨Nat.le_of_ble_eq_true rfl, Nat.le_of_ble_eq_true rfl⟩) ⟨pu_bl, va_recv hK hP (ci := 4) (q0 := 0) rfl rfl, pu_in hP hK hD⟩ rfl rfl hl.1 rfl (lv_room (Nat.le_of_ble_eq_true rfl)) eX4_readHow_63 ⟨Nat.le_of_ble_eq_true rfl, Nat.le_of_ble_eq_true rfl⟩) hS (fun q _ h => hFc q h) hFc (fun u t H1 locs ht hvm hw hB hz1 hk1 hS => ?_)
        obtain ⟨z_pos_10, z_kd_11, z_vl_12, z_tka_13, ⟨hP1, -, hD1⟩, hz_pos_10, hz_kd_11, xr_9_0⟩ := hB
        rw [ht] at hP1
        have hP := hP1
        have hD := pu_all hFc hD1
        clear hP1 hD1 hFc
        clear hk1 hz1 ht hvm
        generalize H1 = H at hP hS ⊢
        have hsp := hsp.trans (slet_eq xr_9_0)
        refine lv_iload_n hx hb eX4_readHow_66 rfl (lv_at hl 0 rfl) ?_
        refine lv_iconst (v := 4) hx hb eX4_readHow_67 (by decide) ?_
        refine lv_icmp_ne (tgt := 75) hx hb eX4_readHow_68 (by decide) (fun c_14 => ?_) (fun c_14 => ?_)
        · have c_14 : ¬ kd = 4 := fun z => c_14 ((nI_eq (a := kd) (b := 4) (Nat.lt_of_le_of_lt hkd (Nat.le_of_ble_eq_true rfl)) (Nat.le_of_ble_eq_true rfl)).mpr z)
          exfalso
          omega
        · have c_14 : kd = 4 := (nI_eq (a := kd) (b := 4) (Nat.lt_of_le_of_lt hkd (Nat.le_of_ble_eq_true rfl)) (Nat.le_of_ble_eq_true rfl)).mp c_14
          refine lv_iconst (v := 1) hx hb eX4_readHow_71 (by decide) ?_
          refine lv_goto (tgt := 76) hx hb eX4_readHow_72 (by decide) ?_
          exact W.iret (v := 1) hx hb hr (fun t ht hW => ⟨⟨1, (), rfl, ⟨1 + 1, by omega, rfl, (congrArg Prod.fst (hsp.symm.trans hRR))⟩, ⟨fa, fat, z_pos_10, z_kd_11, z_vl_12, z_tka_13, ⟨by rw [ht]; exact hP, va_K.moved hW.alike hK, hD⟩, hz_pos_10, hz_kd_11, (congrArg Prod.snd (hsp.symm.trans hRR))⟩⟩, hS.F ht⟩) hS.2.2 eX4_readHow_76
      · have c_8 : ¬ z_kd_4 = 5 := fun z => c_8 ((nI_eq (a := z_kd_4) (b := 5) (Nat.lt_of_le_of_lt hz_kd_4 (Nat.le_of_ble_eq_true rfl)) (Nat.le_of_ble_eq_true rfl)).mpr z)
        have hsp := hsp.trans (if_neg c_8)
        refine lv_iload_n hx hb eX4_readHow_51 rfl (lv_at hl 0 rfl) ?_
        refine lv_iconst (v := 4) hx hb eX4_readHow_52 (by decide) ?_
        refine lv_icmp_ne (tgt := 60) hx hb eX4_readHow_53 (by decide) (fun c_15 => ?_) (fun c_15 => ?_)
        · have c_15 : ¬ kd = 4 := fun z => c_15 ((nI_eq (a := kd) (b := 4) (Nat.lt_of_le_of_lt hkd (Nat.le_of_ble_eq_true rfl)) (Nat.le_of_ble_eq_true rfl)).mpr z)
          exfalso
          omega
        · have c_15 : kd = 4 := (nI_eq (a := kd) (b := 4) (Nat.lt_of_le_of_lt hkd (Nat.le_of_ble_eq_true rfl)) (Nat.le_of_ble_eq_true rfl)).mp c_15
          refine lv_iconst (v := 0) hx hb eX4_readHow_56 (by decide) ?_
          refine lv_goto (tgt := 61) hx hb eX4_readHow_57 (by decide) ?_
          exact W.iret (v := 0) hx hb hr (fun t ht hW => ⟨⟨0, (), rfl, ⟨0 + 1, by omega, rfl, (congrArg Prod.fst (hsp.symm.trans hRR))⟩, ⟨fa, fat, z_pos_3, z_kd_4, z_vl_5, z_tka_6, ⟨by rw [ht]; exact hP, va_K.moved hW.alike hK, hD⟩, hz_pos_3, hz_kd_4, (congrArg Prod.snd (hsp.symm.trans hRR))⟩⟩, hS.F ht⟩) hS.2.2 eX4_readHow_61
    · have c_7 : kd = 5 := (nI_eq (a := kd) (b := 5) (Nat.lt_of_le_of_lt hkd (Nat.le_of_ble_eq_true rfl)) (Nat.le_of_ble_eq_true rfl)).mp c_7
      exfalso
      omega
  · have c_1 : ¬ kd = 4 := fun z => c_1 ((nI_eq (a := kd) (b := 4) (Nat.lt_of_le_of_lt hkd (Nat.le_of_ble_eq_true rfl)) (Nat.le_of_ble_eq_true rfl)).mpr z)
    have hsp := hsp.trans (if_neg c_1)
    refine lv_iload_n hx hb eX4_readHow_10 rfl (lv_at hl 2 rfl) ?_
    refine lv_if_ne (tgt := 25) hx hb eX4_readHow_11 (by decide) (fun c_16 => ?_) (fun c_16 => ?_)
    · have c_16 : ¬ a0 = 0 := fun z => c_16 ((nI_eq (a := a0) (b := 0) (Nat.lt_of_le_of_lt ha0 (Nat.le_of_ble_eq_true rfl)) (Nat.le_of_ble_eq_true rfl)).mpr z)
      have hsp := hsp.trans (if_neg c_16)
      refine lv_aload_n hx hb eX4_readHow_25 rfl (lv_at hl 1 rfl) ?_
      have hFc := pu_free hD hS hA
      refine va_calli (va_runV (As := []) (rest := []) ⟨hx, hb, hml, hown, hts⟩ (c_E_4_refuseToken l dC dI _ rd fa fat tp len pos kd vl tka au rw rc rp k_ft ft k_fw fw k_fcn fcn k_fpn fpn hlen hpos hkd) (cwV 0 hts g_E_4_readHow_E_4_refuseToken rfl rfl rfl (by decide +kernel) ⟨Nat.le_of_ble_eq_true rfl, Nat.le_of_ble_eq_true rfl⟩) ⟨pu_bl, va_recv hK hP (ci := 4) (q0 := 0) rfl rfl, pu_in hP hK hD⟩ rfl rfl hl.1 rfl (lv_room (Nat.le_of_ble_eq_true rfl)) eX4_readHow_26 ⟨Nat.le_of_ble_eq_true rfl, Nat.le_of_ble_eq_true rfl⟩) hS (fun q _ h => hFc q h) hFc (fun r_17 u t H1 locs ht hvm hw hB hz1 hk1 hS => ?_)
      obtain ⟨z_fa_18, z_fat_19, ⟨hP1, -, hD1⟩, xr_17_0⟩ := hB
      rw [ht] at hP1
      have hP := hP1
      have hD := pu_all hFc hD1
      clear hP1 hD1 hFc
      clear hk1 hz1 ht hvm
      generalize H1 = H at hP hS ⊢
      have hsp := hsp.trans (slet_eq xr_17_0)
      obtain rfl : r_17 = 0 := hw
      refine lv_pop hx hb eX4_readHow_29 rfl ?_
      refine lv_iconst (v := (-1)) hx hb eX4_readHow_30 (by decide) ?_
      exact W.iret (v := (-1)) hx hb hr (fun t ht hW => ⟨⟨(-1), (), rfl, ⟨0, by omega, rfl, (congrArg Prod.fst (hsp.symm.trans hRR))⟩, ⟨z_fa_18, z_fat_19, pos, kd, vl, tka, ⟨by rw [ht]; exact hP, va_K.moved hW.alike hK, hD⟩, hpos, hkd, (congrArg Prod.snd (hsp.symm.trans hRR))⟩⟩, hS.F ht⟩) hS.2.2 eX4_readHow_31
    · have c_16 : a0 = 0 := (nI_eq (a := a0) (b := 0) (Nat.lt_of_le_of_lt ha0 (Nat.le_of_ble_eq_true rfl)) (Nat.le_of_ble_eq_true rfl)).mp c_16
      have hsp := hsp.trans (if_pos c_16)
      refine lv_iload_n hx hb eX4_readHow_14 rfl (lv_at hl 0 rfl) ?_
      refine lv_iconst (v := 5) hx hb eX4_readHow_15 (by decide) ?_
      refine lv_icmp_eq (tgt := 32) hx hb eX4_readHow_16 (by decide) (fun c_20 => ?_) (fun c_20 => ?_)
      · have c_20 : kd = 5 := (nI_eq (a := kd) (b := 5) (Nat.lt_of_le_of_lt hkd (Nat.le_of_ble_eq_true rfl)) (Nat.le_of_ble_eq_true rfl)).mp c_20
        have hsp := hsp.trans (if_pos c_20)
        refine lv_aload_n hx hb eX4_readHow_32 rfl (lv_at hl 1 rfl) ?_
        have hFc := pu_free hD hS hA
        refine va_callv (va_runV (As := []) (rest := []) ⟨hx, hb, hml, hown, hts⟩ (c_E_4_advance l dC dI _ rd fa fat tp len pos kd vl tka au rw rc rp k_ft ft k_fw fw k_fcn fcn k_fpn fpn hlen hpos hkd) (cwV 0 hts g_E_4_readHow_E_4_advance rfl rfl rfl (by decide +kernel) ⟨Nat.le_of_ble_eq_true rfl, Nat.le_of_ble_eq_true rfl⟩) ⟨pu_bl, va_recv hK hP (ci := 4) (q0 := 0) rfl rfl, pu_in hP hK hD⟩ rfl rfl hl.1 rfl (lv_room (Nat.le_of_ble_eq_true rfl)) eX4_readHow_33 ⟨Nat.le_of_ble_eq_true rfl, Nat.le_of_ble_eq_true rfl⟩) hS (fun q _ h => hFc q h) hFc (fun u t H1 locs ht hvm hw hB hz1 hk1 hS => ?_)
        obtain ⟨z_pos_22, z_kd_23, z_vl_24, z_tka_25, ⟨hP1, -, hD1⟩, hz_pos_22, hz_kd_23, xr_21_0⟩ := hB
        rw [ht] at hP1
        have hP := hP1
        have hD := pu_all hFc hD1
        clear hP1 hD1 hFc
        clear hk1 hz1 ht hvm
        generalize H1 = H at hP hS ⊢
        have hsp := hsp.trans (slet_eq xr_21_0)
        refine lv_iload_n hx hb eX4_readHow_36 rfl (lv_at hl 0 rfl) ?_
        refine lv_iconst (v := 5) hx hb eX4_readHow_37 (by decide) ?_
        refine lv_icmp_ne (tgt := 43) hx hb eX4_readHow_38 (by decide) (fun c_26 => ?_) (fun c_26 => ?_)
        · have c_26 : ¬ kd = 5 := fun z => c_26 ((nI_eq (a := kd) (b := 5) (Nat.lt_of_le_of_lt hkd (Nat.le_of_ble_eq_true rfl)) (Nat.le_of_ble_eq_true rfl)).mpr z)
          exfalso
          omega
        · have c_26 : kd = 5 := (nI_eq (a := kd) (b := 5) (Nat.lt_of_le_of_lt hkd (Nat.le_of_ble_eq_true rfl)) (Nat.le_of_ble_eq_true rfl)).mp c_26
          refine lv_iconst (v := 2) hx hb eX4_readHow_41 (by decide) ?_
          exact W.iret (v := 2) hx hb hr (fun t ht hW => ⟨⟨2, (), rfl, ⟨2 + 1, by omega, rfl, (congrArg Prod.fst (hsp.symm.trans hRR))⟩, ⟨fa, fat, z_pos_22, z_kd_23, z_vl_24, z_tka_25, ⟨by rw [ht]; exact hP, va_K.moved hW.alike hK, hD⟩, hz_pos_22, hz_kd_23, (congrArg Prod.snd (hsp.symm.trans hRR))⟩⟩, hS.F ht⟩) hS.2.2 eX4_readHow_42
      · have c_20 : ¬ kd = 5 := fun z => c_20 ((nI_eq (a := kd) (b := 5) (Nat.lt_of_le_of_lt hkd (Nat.le_of_ble_eq_true rfl)) (Nat.le_of_ble_eq_true rfl)).mpr z)
        have hsp := hsp.trans (if_neg c_20)
        refine lv_iload_n hx hb eX4_readHow_19 rfl (lv_at hl 0 rfl) ?_
        refine lv_bipush (v := 6) hx hb eX4_readHow_20 (by decide) ?_
        refine lv_icmp_eq (tgt := 32) hx hb eX4_readHow_22 (by decide) (fun c_27 => ?_) (fun c_27 => ?_)
        · have c_27 : kd = 6 := (nI_eq (a := kd) (b := 6) (Nat.lt_of_le_of_lt hkd (Nat.le_of_ble_eq_true rfl)) (Nat.le_of_ble_eq_true rfl)).mp c_27
          have hsp := hsp.trans (if_pos c_27)
          refine lv_aload_n hx hb eX4_readHow_32 rfl (lv_at hl 1 rfl) ?_
          have hFc := pu_free hD hS hA
          refine va_callv (va_runV (As := []) (rest := []) ⟨hx, hb, hml, hown, hts⟩ (c_E_4_advance l dC dI _ rd fa fat tp len pos kd vl tka au rw rc rp k_ft ft k_fw fw k_fcn fcn k_fpn fpn hlen hpos hkd) (cwV 0 hts g_E_4_readHow_E_4_advance rfl rfl rfl (by decide +kernel) ⟨Nat.le_of_ble_eq_true rfl, Nat.le_of_ble_eq_true rfl⟩) ⟨pu_bl, va_recv hK hP (ci := 4) (q0 := 0) rfl rfl, pu_in hP hK hD⟩ rfl rfl hl.1 rfl (lv_room (Nat.le_of_ble_eq_true rfl)) eX4_readHow_33 ⟨Nat.le_of_ble_eq_true rfl, Nat.le_of_ble_eq_true rfl⟩) hS (fun q _ h => hFc q h) hFc (fun u t H1 locs ht hvm hw hB hz1 hk1 hS => ?_)
          obtain ⟨z_pos_29, z_kd_30, z_vl_31, z_tka_32, ⟨hP1, -, hD1⟩, hz_pos_29, hz_kd_30, xr_28_0⟩ := hB
          rw [ht] at hP1
          have hP := hP1
          have hD := pu_all hFc hD1
          clear hP1 hD1 hFc
          clear hk1 hz1 ht hvm
          generalize H1 = H at hP hS ⊢
          have hsp := hsp.trans (slet_eq xr_28_0)
          refine lv_iload_n hx hb eX4_readHow_36 rfl (lv_at hl 0 rfl) ?_
          refine lv_iconst (v := 5) hx hb eX4_readHow_37 (by decide) ?_
          refine lv_icmp_ne (tgt := 43) hx hb eX4_readHow_38 (by decide) (fun c_33 => ?_) (fun c_33 => ?_)
          · have c_33 : ¬ kd = 5 := fun z => c_33 ((nI_eq (a := kd) (b := 5) (Nat.lt_of_le_of_lt hkd (Nat.le_of_ble_eq_true rfl)) (Nat.le_of_ble_eq_true rfl)).mpr z)
            refine lv_aload_n hx hb eX4_readHow_43 rfl (lv_at hl 1 rfl) ?_
            refine va_get (D := (dC, dI)) (ci := 4) (v := .int (nI z_kd_30)) (C := RX4) (T := TX4) (N := 12) hx hb hts hiX4 hown hK hP 0 rfl rfl 5 (by decide) v_1 (fun _ h9 => h9) rfl eX4_readHow_44 ?_
            refine lv_iconst (v := 5) hx hb eX4_readHow_47 (by decide) ?_
            refine lv_icmp_eq (tgt := 62) hx hb eX4_readHow_48 (by decide) (fun c_34 => ?_) (fun c_34 => ?_)
            · have c_34 : z_kd_30 = 5 := (nI_eq (a := z_kd_30) (b := 5) (Nat.lt_of_le_of_lt hz_kd_30 (Nat.le_of_ble_eq_true rfl)) (Nat.le_of_ble_eq_true rfl)).mp c_34
              have hsp := hsp.trans (if_pos c_34)
              refine lv_aload_n hx hb eX4_readHow_62 rfl (lv_at hl 1 rfl) ?_
              have hFc := pu_free hD hS hA
              refine va_callv (va_runV (As := []) (rest := []) ⟨hx, hb, hml, hown, hts⟩ (c_E_4_advance l dC dI _ rd fa fat tp len z_pos_29 z_kd_30 z_vl_31 z_tka_32 au rw rc rp k_ft ft k_fw fw k_fcn fcn k_fpn fpn hlen hz_pos_29 hz_kd_30) (cwV 0 hts g_E_4_readHow_E_4_advance rfl rfl rfl (by decide +kernel) ⟨Nat.le_of_ble_eq_true rfl, Nat.le_of_ble_eq_true rfl⟩) ⟨pu_bl, va_recv hK hP (ci := 4) (q0 := 0) rfl rfl, pu_in hP hK hD⟩ rfl rfl hl.1 rfl (lv_room (Nat.le_of_ble_eq_true rfl)) eX4_readHow_63 ⟨Nat.le_of_ble_eq_true rfl, Nat.le_of_ble_eq_true rfl⟩) hS (fun q _ h => hFc q h) hFc (fun u t H1 locs ht hvm hw hB hz1 hk1 hS => ?_)
              obtain ⟨z_pos_36, z_kd_37, z_vl_38, z_tka_39, ⟨hP1, -, hD1⟩, hz_pos_36, hz_kd_37, xr_35_0⟩ := hB
              rw [ht] at hP1
              have hP := hP1
              have hD := pu_all hFc hD1
              clear hP1 hD1 hFc
              clear hk1 hz1 ht hvm
              generalize H1 = H at hP hS ⊢
              have hsp := hsp.trans (slet_eq xr_35_0)
              refine lv_iload_n hx hb eX4_readHow_66 rfl (lv_at hl 0 rfl) ?_
              refine lv_iconst (v := 4) hx hb eX4_readHow_67 (by decide) ?_
              refine lv_icmp_ne (tgt := 75) hx hb eX4_readHow_68 (by decide) (fun c_40 => ?_) (fun c_40 => ?_)
              · have c_40 : ¬ kd = 4 := fun z => c_40 ((nI_eq (a := kd) (b := 4) (Nat.lt_of_le_of_lt hkd (Nat.le_of_ble_eq_true rfl)) (Nat.le_of_ble_eq_true rfl)).mpr z)
                refine lv_iconst (v := 3) hx hb eX4_readHow_75 (by decide) ?_
                exact W.iret (v := 3) hx hb hr (fun t ht hW => ⟨⟨3, (), rfl, ⟨3 + 1, by omega, rfl, (congrArg Prod.fst (hsp.symm.trans hRR))⟩, ⟨fa, fat, z_pos_36, z_kd_37, z_vl_38, z_tka_39, ⟨by rw [ht]; exact hP, va_K.moved hW.alike hK, hD⟩, hz_pos_36, hz_kd_37, (congrArg Prod.snd (hsp.symm.trans hRR))⟩⟩, hS.F ht⟩) hS.2.2 eX4_readHow_76
              · have c_40 : kd = 4 := (nI_eq (a := kd) (b := 4) (Nat.lt_of_le_of_lt hkd (Nat.le_of_ble_eq_true rfl)) (Nat.le_of_ble_eq_true rfl)).mp c_40
                exfalso
                omega
            · have c_34 : ¬ z_kd_30 = 5 := fun z => c_34 ((nI_eq (a := z_kd_30) (b := 5) (Nat.lt_of_le_of_lt hz_kd_30 (Nat.le_of_ble_eq_true rfl)) (Nat.le_of_ble_eq_true rfl)).mpr z)
              have hsp := hsp.trans (if_neg c_34)
              refine lv_iload_n hx hb eX4_readHow_51 rfl (lv_at hl 0 rfl) ?_
              refine lv_iconst (v := 4) hx hb eX4_readHow_52 (by decide) ?_
              refine lv_icmp_ne (tgt := 60) hx hb eX4_readHow_53 (by decide) (fun c_41 => ?_) (fun c_41 => ?_)
              · have c_41 : ¬ kd = 4 := fun z => c_41 ((nI_eq (a := kd) (b := 4) (Nat.lt_of_le_of_lt hkd (Nat.le_of_ble_eq_true rfl)) (Nat.le_of_ble_eq_true rfl)).mpr z)
                refine lv_iconst (v := 4) hx hb eX4_readHow_60 (by decide) ?_
                exact W.iret (v := 4) hx hb hr (fun t ht hW => ⟨⟨4, (), rfl, ⟨4 + 1, by omega, rfl, (congrArg Prod.fst (hsp.symm.trans hRR))⟩, ⟨fa, fat, z_pos_29, z_kd_30, z_vl_31, z_tka_32, ⟨by rw [ht]; exact hP, va_K.moved hW.alike hK, hD⟩, hz_pos_29, hz_kd_30, (congrArg Prod.snd (hsp.symm.trans hRR))⟩⟩, hS.F ht⟩) hS.2.2 eX4_readHow_61
              · have c_41 : kd = 4 := (nI_eq (a := kd) (b := 4) (Nat.lt_of_le_of_lt hkd (Nat.le_of_ble_eq_true rfl)) (Nat.le_of_ble_eq_true rfl)).mp c_41
                exfalso
                omega
          · have c_33 : kd = 5 := (nI_eq (a := kd) (b := 5) (Nat.lt_of_le_of_lt hkd (Nat.le_of_ble_eq_true rfl)) (Nat.le_of_ble_eq_true rfl)).mp c_33
            exfalso
            omega
        · have c_27 : ¬ kd = 6 := fun z => c_27 ((nI_eq (a := kd) (b := 6) (Nat.lt_of_le_of_lt hkd (Nat.le_of_ble_eq_true rfl)) (Nat.le_of_ble_eq_true rfl)).mpr z)
          have hsp := hsp.trans (if_neg c_27)
          refine lv_aload_n hx hb eX4_readHow_25 rfl (lv_at hl 1 rfl) ?_
          have hFc := pu_free hD hS hA
          refine va_calli (va_runV (As := []) (rest := []) ⟨hx, hb, hml, hown, hts⟩ (c_E_4_refuseToken l dC dI _ rd fa fat tp len pos kd vl tka au rw rc rp k_ft ft k_fw fw k_fcn fcn k_fpn fpn hlen hpos hkd) (cwV 0 hts g_E_4_readHow_E_4_refuseToken rfl rfl rfl (by decide +kernel) ⟨Nat.le_of_ble_eq_true rfl, Nat.le_of_ble_eq_true rfl⟩) ⟨pu_bl, va_recv hK hP (ci := 4) (q0 := 0) rfl rfl, pu_in hP hK hD⟩ rfl rfl hl.1 rfl (lv_room (Nat.le_of_ble_eq_true rfl)) eX4_readHow_26 ⟨Nat.le_of_ble_eq_true rfl, Nat.le_of_ble_eq_true rfl⟩) hS (fun q _ h => hFc q h) hFc (fun r_42 u t H1 locs ht hvm hw hB hz1 hk1 hS => ?_)
          obtain ⟨z_fa_43, z_fat_44, ⟨hP1, -, hD1⟩, xr_42_0⟩ := hB
          rw [ht] at hP1
          have hP := hP1
          have hD := pu_all hFc hD1
          clear hP1 hD1 hFc
          clear hk1 hz1 ht hvm
          generalize H1 = H at hP hS ⊢
          have hsp := hsp.trans (slet_eq xr_42_0)
          obtain rfl : r_42 = 0 := hw
          refine lv_pop hx hb eX4_readHow_29 rfl ?_
          refine lv_iconst (v := (-1)) hx hb eX4_readHow_30 (by decide) ?_
          exact W.iret (v := (-1)) hx hb hr (fun t ht hW => ⟨⟨(-1), (), rfl, ⟨0, by omega, rfl, (congrArg Prod.fst (hsp.symm.trans hRR))⟩, ⟨z_fa_43, z_fat_44, pos, kd, vl, tka, ⟨by rw [ht]; exact hP, va_K.moved hW.alike hK, hD⟩, hpos, hkd, (congrArg Prod.snd (hsp.symm.trans hRR))⟩⟩, hS.F ht⟩) hS.2.2 eX4_readHow_31
