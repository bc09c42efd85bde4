theorem eX7_ticks_0 : decode cX7_ticks 0 = .ok (.iload_n 0, 1) := by decide +kernel
theorem eX7_ticks_1 : decode cX7_ticks 1 = .ok (.ldc 17, 2) := by decide +kernel
theorem eX7_ticks_3 : decode cX7_ticks 3 = .ok (.if_icmp .ne 6, 3) := by decide +kernel
theorem eX7_ticks_6 : decode cX7_ticks 6 = .ok (.ldc 17, 2) := by decide +kernel
theorem eX7_ticks_8 : decode cX7_ticks 8 = .ok (.ireturn, 1) := by decide +kernel
theorem eX7_ticks_9 : decode cX7_ticks 9 = .ok (.iload_n 0, 1) := by decide +kernel
theorem eX7_ticks_10 : decode cX7_ticks 10 = .ok (.iconst 1, 1) := by decide +kernel
theorem eX7_ticks_11 : decode cX7_ticks 11 = .ok (.ishr, 1) := by decide +kernel
theorem eX7_ticks_12 : decode cX7_ticks 12 = .ok (.sipush 256, 3) := by decide +kernel
theorem eX7_ticks_15 : decode cX7_ticks 15 = .ok (.imul, 1) := by decide +kernel
theorem eX7_ticks_16 : decode cX7_ticks 16 = .ok (.iconst 1, 1) := by decide +kernel
theorem eX7_ticks_17 : decode cX7_ticks 17 = .ok (.isub, 1) := by decide +kernel
theorem eX7_ticks_18 : decode cX7_ticks 18 = .ok (.iload_n 0, 1) := by decide +kernel
theorem eX7_ticks_19 : decode cX7_ticks 19 = .ok (.iconst 1, 1) := by decide +kernel
theorem eX7_ticks_20 : decode cX7_ticks 20 = .ok (.iand, 1) := by decide +kernel
theorem eX7_ticks_21 : decode cX7_ticks 21 = .ok (.iadd, 1) := by decide +kernel
theorem eX7_ticks_22 : decode cX7_ticks 22 = .ok (.ireturn, 1) := by decide +kernel
abbrev vs_E_7_ticks : List Cond := .code yX7_ticks cX7_ticks 1 (some .int) :: CM
noncomputable def sp_E_7_ticks (p0 : Int32) : Int32 := (if (p0 : Int32) = 2147483647 then 2147483647 else (slet ((p0 : Int32) >>> ((1 : Int32) &&& 31)) (fun y_2 => (slet ((y_2 : Int32) * 256) (fun y_3 => (slet ((y_3 : Int32) - 1) (fun y_4 => (slet ((p0 : Int32) &&& (1 : Int32)) (fun y_5 => (slet ((y_4 : Int32) + y_5) (fun y_6 => y_6)))))))))))
set_option maxHeartbeats 4000000 in
set_option maxRecDepth 100000 in
theorem c_E_7_ticks (l : Launch) (dC : Nat → ClassId) (dI : Nat → Nat → Nat) (sz : Nat) (p0 : Int32)  : Met l yX7_ticks vs_E_7_ticks ({ frames := 0, cells := 0, slots := 0, locals := 0 }) (va_Pc [.int p0] (pu_B (dC, dI) [] [] sz)) (va_Qi (fun (r : Int32) (_ : Unit) => r = (sp_E_7_ticks p0)) (fun _ _ => True) (va_A [] sz)) 0 0 (va_A [] sz) := by
  refine Met.ofW (cc := cX7_ticks) (maxL := 1) (ret := (some .int)) (by decide) rfl ?_
  intro p e s m args below meth c s₁ B hml hv
  obtain ⟨rfl, rfl, hP, hK, hD0⟩ := hv
  have hx := B.exec
  have hb := B.bytes
  have hr := B.returns
  have hts := atoms_spec (ws := vs_E_7_ticks) B.pre
  have v_1 := hts (.constant RX7 17 (2147483647)) (List.mem_cons_of_mem _ cm_49)
  have hown : s.vm.findClass RX7 = some m.cls := findClass_of_methodNamed B.named
  have hlocks := B.notSynchronized
  have hD := hD0
  have hA : ∀ q : Nat, s.heap.size ≤ q → va_A [] s.heap.size q := fun _ h => Or.inr h
  have hS : va_S (va_A [] s.heap.size) s.heap s.heap [] := va_S.rf
  have hl := lv_entry ([.int p0]) (n := 1) (Nat.le_of_ble_eq_true rfl)
  rw [lg_entry_eq]
  generalize (lg_sl ([.int p0]) ++ List.replicate (1 - (lg_sl ([.int p0])).length) Slot.unset).toArray = ls at hl ⊢
  have hl : lv_has ls 1 [(0, .int p0)] := hl
  obtain ⟨RR, hRR⟩ : ∃ x, x = (sp_E_7_ticks p0) := ⟨_, rfl⟩
  have hsp := hRR
  refine lv_iload_n hx hb eX7_ticks_0 rfl (lv_at hl 0 rfl) ?_
  refine lv_ldc hx hb hown v_1 eX7_ticks_1 ?_
  refine lv_icmp_ne (tgt := 9) hx hb eX7_ticks_3 (by decide) (fun c_1 => ?_) (fun c_1 => ?_)
  · have hcc_1 := c_1
    have hsp := hsp.trans (if_neg c_1)
    refine lv_iload_n hx hb eX7_ticks_9 rfl (lv_at hl 0 rfl) ?_
    refine lv_iconst (v := 1) hx hb eX7_ticks_10 (by decide) ?_
    refine lv_ishr hx hb eX7_ticks_11 ?_
    refine lv_topi (fun y_2 ey_2 => ?_)
    have hsp := hsp.trans (slet_eq ey_2)
    refine lv_sipush (v := 256) hx hb eX7_ticks_12 (by decide) ?_
    refine lv_imul hx hb eX7_ticks_15 ?_
    refine lv_topi (fun y_3 ey_3 => ?_)
    have hsp := hsp.trans (slet_eq ey_3)
    refine lv_iconst (v := 1) hx hb eX7_ticks_16 (by decide) ?_
    refine lv_isub hx hb eX7_ticks_17 ?_
    refine lv_topi (fun y_4 ey_4 => ?_)
    have hsp := hsp.trans (slet_eq ey_4)
    refine lv_iload_n hx hb eX7_ticks_18 rfl (lv_at hl 0 rfl) ?_
    refine lv_iconst (v := 1) hx hb eX7_ticks_19 (by decide) ?_
    refine lv_iand hx hb eX7_ticks_20 ?_
    refine lv_topi (fun y_5 ey_5 => ?_)
    have hsp := hsp.trans (slet_eq ey_5)
    refine lv_iadd hx hb eX7_ticks_21 ?_
    refine lv_topi (fun y_6 ey_6 => ?_)
    have hsp := hsp.trans (slet_eq ey_6)
    exact W.iret (v := y_6) hx hb hr (fun t ht hW => ⟨⟨y_6, (), rfl, (hsp.symm.trans hRR), trivial⟩, hS.F ht⟩) hS.2.2 eX7_ticks_22
  · have hcc_1 := c_1
    have hsp := hsp.trans (if_pos c_1)
    refine lv_ldc hx hb hown v_1 eX7_ticks_6 ?_
    exact W.iret (v := 2147483647) hx hb hr (fun t ht hW => ⟨⟨2147483647, (), rfl, (hsp.symm.trans hRR), trivial⟩, hS.F ht⟩) hS.2.2 eX7_ticks_8
theorem eX0_holdsAt_0 : decode cX0_holdsAt 0 = .ok (.iconst 0, 1) := by decide +kernel
theorem eX0_holdsAt_1 : decode cX0_holdsAt 1 = .ok (.istore_n 3, 1) := by decide +kernel
theorem eX0_holdsAt_2 : decode cX0_holdsAt 2 = .ok (.iload_n 3, 1) := by decide +kernel
theorem eX0_holdsAt_3 : decode cX0_holdsAt 3 = .ok (.aload_n 0, 1) := by decide +kernel
theorem eX0_holdsAt_4 : decode cX0_holdsAt 4 = .ok (.getfield 29, 3) := by decide +kernel
theorem eX0_holdsAt_7 : decode cX0_holdsAt 7 = .ok (.iload_n 1, 1) := by decide +kernel
theorem eX0_holdsAt_8 : decode cX0_holdsAt 8 = .ok (.iaload, 1) := by decide +kernel
theorem eX0_holdsAt_9 : decode cX0_holdsAt 9 = .ok (.if_icmp .ge 60, 3) := by decide +kernel
theorem eX0_holdsAt_12 : decode cX0_holdsAt 12 = .ok (.iload_n 1, 1) := by decide +kernel
theorem eX0_holdsAt_13 : decode cX0_holdsAt 13 = .ok (.iload_n 3, 1) := by decide +kernel
theorem eX0_holdsAt_14 : decode cX0_holdsAt 14 = .ok (.invokestatic 65, 3) := by decide +kernel
theorem eX0_holdsAt_17 : decode cX0_holdsAt 17 = .ok (.istore 4, 2) := by decide +kernel
theorem eX0_holdsAt_19 : decode cX0_holdsAt 19 = .ok (.aload_n 2, 1) := by decide +kernel
theorem eX0_holdsAt_20 : decode cX0_holdsAt 20 = .ok (.aload_n 0, 1) := by decide +kernel
theorem eX0_holdsAt_21 : decode cX0_holdsAt 21 = .ok (.getfield 32, 3) := by decide +kernel
theorem eX0_holdsAt_24 : decode cX0_holdsAt 24 = .ok (.iload 4, 2) := by decide +kernel
theorem eX0_holdsAt_26 : decode cX0_holdsAt 26 = .ok (.iaload, 1) := by decide +kernel
theorem eX0_holdsAt_27 : decode cX0_holdsAt 27 = .ok (.iaload, 1) := by decide +kernel
theorem eX0_holdsAt_28 : decode cX0_holdsAt 28 = .ok (.istore 5, 2) := by decide +kernel
theorem eX0_holdsAt_30 : decode cX0_holdsAt 30 = .ok (.iload 5, 2) := by decide +kernel
theorem eX0_holdsAt_32 : decode cX0_holdsAt 32 = .ok (.aload_n 0, 1) := by decide +kernel
theorem eX0_holdsAt_33 : decode cX0_holdsAt 33 = .ok (.getfield 41, 3) := by decide +kernel
theorem eX0_holdsAt_36 : decode cX0_holdsAt 36 = .ok (.iload 4, 2) := by decide +kernel
theorem eX0_holdsAt_38 : decode cX0_holdsAt 38 = .ok (.iaload, 1) := by decide +kernel
theorem eX0_holdsAt_39 : decode cX0_holdsAt 39 = .ok (.invokestatic 102, 3) := by decide +kernel
theorem eX0_holdsAt_42 : decode cX0_holdsAt 42 = .ok (.if_icmp .gt 19, 3) := by decide +kernel
theorem eX0_holdsAt_45 : decode cX0_holdsAt 45 = .ok (.iload 5, 2) := by decide +kernel
theorem eX0_holdsAt_47 : decode cX0_holdsAt 47 = .ok (.ineg, 1) := by decide +kernel
theorem eX0_holdsAt_48 : decode cX0_holdsAt 48 = .ok (.aload_n 0, 1) := by decide +kernel
theorem eX0_holdsAt_49 : decode cX0_holdsAt 49 = .ok (.getfield 44, 3) := by decide +kernel
theorem eX0_holdsAt_52 : decode cX0_holdsAt 52 = .ok (.iload 4, 2) := by decide +kernel
theorem eX0_holdsAt_54 : decode cX0_holdsAt 54 = .ok (.iaload, 1) := by decide +kernel
theorem eX0_holdsAt_55 : decode cX0_holdsAt 55 = .ok (.invokestatic 102, 3) := by decide +kernel
theorem eX0_holdsAt_58 : decode cX0_holdsAt 58 = .ok (.if_icmp .le 5, 3) := by decide +kernel
theorem eX0_holdsAt_61 : decode cX0_holdsAt 61 = .ok (.iconst 0, 1) := by decide +kernel
theorem eX0_holdsAt_62 : decode cX0_holdsAt 62 = .ok (.ireturn, 1) := by decide +kernel
theorem eX0_holdsAt_63 : decode cX0_holdsAt 63 = .ok (.iinc 3 1, 3) := by decide +kernel
theorem eX0_holdsAt_66 : decode cX0_holdsAt 66 = .ok (.goto (-64), 3) := by decide +kernel
theorem eX0_holdsAt_69 : decode cX0_holdsAt 69 = .ok (.iconst 1, 1) := by decide +kernel
theorem eX0_holdsAt_70 : decode cX0_holdsAt 70 = .ok (.ireturn, 1) := by decide +kernel
abbrev vs_E_0_holdsAt : List Cond := .code yX0_holdsAt cX0_holdsAt 6 (some .boolean) :: CM
theorem g_E_0_holdsAt_E_0_slot : GoodIn vs_E_0_holdsAt (va_wsS RX0 65 yX0_slot vs_E_0_slot) := cm_gS cm_17 cm_18 cm_19 cm_1
theorem g_E_0_holdsAt_E_7_ticks : GoodIn vs_E_0_holdsAt (va_wsS RX0 102 yX7_ticks vs_E_7_ticks) := cm_gS cm_67 cm_68 cm_45 cm_69
noncomputable def sp_E_0_holdsAt_L1 (q_f8 : Nat → Nat) (q_f9 : Nat → Nat) (f12 : Nat → Int32) (f13 : Nat → Int32) (ftt : Nat → Int32) (a0 : Nat) : (Nat) → (Nat) ⊕ (Nat) := fun g_2 => (slet (min (q_f8 a0) 4) (fun u_10 => (if u_10 ≤ g_2 then (Sum.inr 1) else (slet (min (q_f9 (a0 * 4 + g_2)) 2) (fun u_14 => (slet (ftt u_14) (fun y_15 => (slet (f12 (a0 * 4 + g_2)) (fun y_16 => (slet (sp_E_7_ticks y_16) (fun r_17 => (if (r_17 : Int32) < y_15 then (Sum.inr 0) else (slet (-(y_15 : Int32)) (fun y_19 => (slet (f13 (a0 * 4 + g_2)) (fun y_20 => (slet (sp_E_7_ticks y_20) (fun r_21 => (if (y_19 : Int32) ≤ r_21 then (Sum.inl (g_2 + 1)) else (Sum.inr 0))))))))))))))))))))
noncomputable def sp_E_0_holdsAt (q_f8 : Nat → Nat) (q_f9 : Nat → Nat) (f12 : Nat → Int32) (f13 : Nat → Int32) (ftt : Nat → Int32) (a0 : Nat) : Nat := (itrv (α := Nat) (β := (Nat)) default (sp_E_0_holdsAt_L1 q_f8 q_f9 f12 f13 ftt a0) 0)
set_option maxHeartbeats 4000000 in
set_option maxRecDepth 100000 in
theorem c_E_0_holdsAt (l : Launch) (dC : Nat → ClassId) (dI : Nat → Nat → Nat) (sz : Nat) (au : Nat) (nc : Nat) (np : Nat) (ne : Nat) (st0 : Int32) (q4 : Nat) (q5 : Nat) (q6 : Nat) (q7 : Nat) (q8 : Nat) (q9 : Nat) (q10 : Nat) (q11 : Nat) (q12 : Nat) (q13 : Nat) (q14 : Nat) (q15 : Nat) (q16 : Nat) (k_f4 : ClassId) (f4 : Nat → Int32) (k_f5 : ClassId) (q_f5 : Nat → Nat) (k_f6 : ClassId) (q_f6 : Nat → Nat) (k_f7 : ClassId) (f7 : Nat → Int32) (k_f8 : ClassId) (q_f8 : Nat → Nat) (k_f9 : ClassId) (q_f9 : Nat → Nat) (k_f10 : ClassId) (f10 : Nat → Int32) (k_f11 : ClassId) (f11 : Nat → Int32) (k_f12 : ClassId) (f12 : Nat → Int32) (k_f13 : ClassId) (f13 : Nat → Int32) (k_f14 : ClassId) (f14 : Nat → Int32) (k_f15 : ClassId) (f15 : Nat → Int32) (k_f16 : ClassId) (f16 : Nat → Int32) (tt : Nat) (k_ftt : ClassId) (ftt : Nat → Int32) (a0 : Nat) (hnc : nc ≤ 3) (hnp : np ≤ 8) (hne : ne ≤ 14) (hst0 : pm1 7 st0) (ha0 : a0 ≤ 21) : Met l yX0_holdsAt vs_E_0_holdsAt ({ frames := 1, cells := 0, slots := 0, locals := 21 }) (va_Pc [.ref au, .int (nI a0), .ref tt] (pu_B (dC, dI) (at__w au (nI nc) (nI np) (nI ne) st0 q4 q5 q6 q7 q8 q9 q10 q11 q12 q13 q14 q15 q16 k_f4 f4 k_f5 (bN 7 q_f5) k_f6 (bN 7 q_f6) k_f7 f7 k_f8 (bN 4 q_f8) k_f9 (bN 2 q_f9) k_f10 f10 k_f11 f11 k_f12 f12 k_f13 f13 k_f14 f14 k_f15 f15 k_f16 f16 tt k_ftt ftt) (at__t k_f4 k_f5 k_f6 k_f7 k_f8 k_f9 k_f10 k_f11 k_f12 k_f13 k_f14 k_f15 k_f16 k_ftt) sz)) (va_Qi (fun (r : Int32) (_ : Unit) => ∃ v : Nat, v ≤ 1 ∧ r = nI v ∧ v = (sp_E_0_holdsAt q_f8 q_f9 f12 f13 ftt a0)) (fun _ _ => True) (va_A [] sz)) 0 0 (va_A [] sz) := by
  refine Met.ofW (cc := cX0_holdsAt) (maxL := 6) (ret := (some .boolean)) (by decide) rfl ?_
  intro p e s m args below meth c s₁ B hml hv
  obtain ⟨rfl, rfl, hP, hK, hD0⟩ := hv
  have hx := B.exec
  have hb := B.bytes
  have hr := B.returns
  have hts := atoms_spec (ws := vs_E_0_holdsAt) B.pre
  have v_1 := hts (.fieldLink RX0 29 "ClockReach$Automaton" "counts" "[I") (List.mem_cons_of_mem _ cm_8)
  have v_6 := hts (.fieldLink RX0 32 "ClockReach$Automaton" "conditionClocks" "[I") (List.mem_cons_of_mem _ cm_14)
  have v_7 := hts (.fieldLink RX0 41 "ClockReach$Automaton" "ceilings" "[I") (List.mem_cons_of_mem _ cm_24)
  have v_12 := hts (.fieldLink RX0 44 "ClockReach$Automaton" "floors" "[I") (List.mem_cons_of_mem _ cm_26)
  have hown : s.vm.findClass RX0 = some m.cls := findClass_of_methodNamed B.named
  have hlocks := B.notSynchronized
  have hiX0 : ∀ w ∈ wsX00, w ∈ vs_E_0_holdsAt := fun _ h => List.mem_cons_of_mem _ (cm_X0 h)
  have hD := hD0
  have hA : ∀ q : Nat, s.heap.size ≤ q → va_A [] s.heap.size q := fun _ h => Or.inr h
  have hS : va_S (va_A [] s.heap.size) s.heap s.heap [] := va_S.rf
  have hl := lv_entry ([.ref au, .int (nI a0), .ref tt]) (n := 6) (Nat.le_of_ble_eq_true rfl)
  rw [lg_entry_eq]
  generalize (lg_sl ([.ref au, .int (nI a0), .ref tt]) ++ List.replicate (6 - (lg_sl ([.ref au, .int (nI a0), .ref tt])).length) Slot.unset).toArray = ls at hl ⊢
  have hl : lv_has ls 6 [(0, .ref au), (1, .int (nI a0)), (2, .ref tt)] := hl
  obtain ⟨RR, hRR⟩ : ∃ x, x = (sp_E_0_holdsAt q_f8 q_f9 f12 f13 ftt a0) := ⟨_, rfl⟩
  have hsp := hRR
  refine lv_iconst (v := 0) hx hb eX0_holdsAt_0 (by decide) ?_
  refine lv_istore_n (lv' := [(3, .int 0), (0, .ref au), (1, .int (nI a0)), (2, .ref tt)]) hx hb eX0_holdsAt_1 rfl hl (by decide) rfl (fun ls hl => ?_)
  obtain ⟨lf_4, dlf_4, hlf_4, hsp⟩ := itr_ex hsp
  delta sp_E_0_holdsAt_L1 at hlf_4
  refine pu_while (fun nn H locs ls => ∃ (g_2 : Nat), nn = 4 - g_2 ∧ g_2 ≤ 4 ∧ RR = itrv dlf_4 lf_4 g_2 ∧ va_P (dC, dI) vwCl (at__w au (nI nc) (nI np) (nI ne) st0 q4 q5 q6 q7 q8 q9 q10 q11 q12 q13 q14 q15 q16 k_f4 f4 k_f5 (bN 7 q_f5) k_f6 (bN 7 q_f6) k_f7 f7 k_f8 (bN 4 q_f8) k_f9 (bN 2 q_f9) k_f10 f10 k_f11 f11 k_f12 f12 k_f13 f13 k_f14 f14 k_f15 f15 k_f16 f16 tt k_ftt ftt) H ∧ va_D (fun _ => True) (at__w au (nI nc) (nI np) (nI ne) st0 q4 q5 q6 q7 q8 q9 q10 q11 q12 q13 q14 q15 q16 k_f4 f4 k_f5 (bN 7 q_f5) k_f6 (bN 7 q_f6) k_f7 f7 k_f8 (bN 4 q_f8) k_f9 (bN 2 q_f9) k_f10 f10 k_f11 f11 k_f12 f12 k_f13 f13 k_f14 f14 k_f15 f15 k_f16 f16 tt k_ftt ftt) ∧ va_S (va_A [] s.heap.size) s.heap H locs ∧ lv_has ls 6 [(0, .ref au), (1, .int (nI a0)), (2, .ref tt), (3, .int (nI g_2))]) 2 ?_ _ _ _ _ ⟨0, rfl, (Nat.le_of_ble_eq_true rfl), hsp, hP, hD, hS, lv_sub hl [1, 2, 3, 0] rfl⟩
  rintro nn ih_3 H locs ls ⟨g_2, rfl, hg_2, he_6, hP, hD, hS, hl⟩
  obtain ⟨S_5, hsp, hin_7, hout_8⟩ := itr_step hlf_4 he_6
  refine lv_iload_n hx hb eX0_holdsAt_2 rfl (lv_at hl 3 rfl) ?_
  refine lv_aload_n hx hb eX0_holdsAt_3 rfl (lv_at hl 0 rfl) ?_
  refine va_get (D := (dC, dI)) (ci := 0) (v := .ref q8) (C := RX0) (T := TX0) (N := 17) hx hb hts hiX0 hown hK hP 0 rfl rfl 8 (by decide) v_1 (fun _ h9 => h9) rfl eX0_holdsAt_4 ?_
  refine lv_iload_n hx hb eX0_holdsAt_7 rfl (lv_at hl 1 rfl) ?_
  refine va_iald hx hb hK hP 5 4 rfl rfl (vp_in_nI (n := a0) (Nat.lt_of_le_of_lt ha0 (Nat.le_of_ble_eq_true rfl)) (Nat.le_of_ble_eq_true rfl)) eX0_holdsAt_8 ?_
  refine lv_topi (fun y_9 ey_9 => ?_)
  obtain ⟨u_10, hu_10, qu_10, xu_10⟩ := bN_getx 4 q_f8 (n := a0) (Nat.lt_of_le_of_lt ha0 (Nat.le_of_ble_eq_true rfl))
  obtain rfl : y_9 = nI u_10 := ey_9.trans qu_10
  have hsp := hsp.trans (slet_eq xu_10)
  refine lv_icmp_ge (tgt := 69) hx hb eX0_holdsAt_9 (by decide) (fun c_11 => ?_) (fun c_11 => ?_)
  · have c_11 : u_10 ≤ g_2 := (nI_leI (a := u_10) (b := g_2) (Nat.lt_of_le_of_lt hu_10 (Nat.le_of_ble_eq_true rfl)) (Nat.lt_of_le_of_lt hg_2 (Nat.le_of_ble_eq_true rfl))).mp c_11
    have hsp := hsp.trans (if_pos c_11)
    have hsp := hout_8 _ hsp
    refine lv_iconst (v := 1) hx hb eX0_holdsAt_69 (by decide) ?_
    exact W.zret (v := 1) (ty := .boolean) hx hb hr (rfl) (fun t ht hW => ⟨⟨1, (), rfl, ⟨1, (Nat.le_of_ble_eq_true rfl), rfl, (hsp.symm.trans hRR)⟩, trivial⟩, hS.F ht⟩) hS.2.2 eX0_holdsAt_70
  · have c_11 : ¬ u_10 ≤ g_2 := fun z => c_11 ((nI_leI (a := u_10) (b := g_2) (Nat.lt_of_le_of_lt hu_10 (Nat.le_of_ble_eq_true rfl)) (Nat.lt_of_le_of_lt hg_2 (Nat.le_of_ble_eq_true rfl))).mpr z)
    have hsp := hsp.trans (if_neg c_11)
    refine lv_iload_n hx hb eX0_holdsAt_12 rfl (lv_at hl 1 rfl) ?_
    refine lv_iload_n hx hb eX0_holdsAt_13 rfl (lv_at hl 3 rfl) ?_
    refine va_calli (va_runS (As := [.int (nI a0), .int (nI g_2)]) (rest := []) ⟨hx, hb, hml, hown, hts⟩ (c_E_0_slot l dC dI _ a0 g_2 ha0 hg_2) (va_cwS 2 hts g_E_0_holdsAt_E_0_slot rfl rfl rfl (by decide +kernel) ⟨Nat.le_of_ble_eq_true rfl, Nat.le_of_ble_eq_true rfl⟩) ⟨pu_bl, pu_in (hP.sub [] rfl) (hK.sub [] rfl) (hD.sub [] (by decide) rfl)⟩ rfl rfl hl.1 rfl (lv_room (Nat.le_of_ble_eq_true rfl)) eX0_holdsAt_14 ⟨Nat.le_of_ble_eq_true rfl, Nat.le_of_ble_eq_true rfl⟩) hS (fun q _ h => pu_fr hS hA q h) (pu_fr hS hA) (fun r_12 u t H1 locs ht hvm hw hB hz1 hk1 hS => ?_)
    have hP := pu_keep hP hk1
    clear hk1 hz1 ht hvm
    generalize H1 = H at hP hS ⊢
    obtain rfl : r_12 = nI (a0 * 4 + g_2) := hw
    refine lv_istore (lv' := [(4, .int (nI (a0 * 4 + g_2))), (0, .ref au), (1, .int (nI a0)), (2, .ref tt), (3, .int (nI g_2))]) hx hb eX0_holdsAt_17 hl (by decide) rfl (fun ls hl => ?_)
    refine lv_aload_n hx hb eX0_holdsAt_19 rfl (lv_at hl 3 rfl) ?_
    refine lv_aload_n hx hb eX0_holdsAt_20 rfl (lv_at hl 1 rfl) ?_
    refine va_get (D := (dC, dI)) (ci := 0) (v := .ref q9) (C := RX0) (T := TX0) (N := 17) hx hb hts hiX0 hown hK hP 0 rfl rfl 9 (by decide) v_6 (fun _ h9 => h9) rfl eX0_holdsAt_21 ?_
    refine lv_iload hx hb eX0_holdsAt_24 (lv_at hl 0 rfl) ?_
    refine va_iald hx hb hK hP 6 5 rfl rfl (vp_in_nI (n := (a0 * 4 + g_2)) (by omega) (Nat.le_of_ble_eq_true rfl)) eX0_holdsAt_26 ?_
    refine lv_topi (fun y_13 ey_13 => ?_)
    obtain ⟨u_14, hu_14, qu_14, xu_14⟩ := bN_getx 2 q_f9 (n := (a0 * 4 + g_2)) (by first | omega | exact Nat.lt_trans (zx16 (by omega) (by omega) (by omega)) (Nat.le_of_ble_eq_true rfl) | exact Nat.lt_trans (zy16 (by omega) (by omega)) (Nat.le_of_ble_eq_true rfl) | exact Nat.lt_trans (zx25 (by omega) (by omega) (by omega)) (Nat.le_of_ble_eq_true rfl) | exact Nat.lt_trans (zy25 (by omega) (by omega)) (Nat.le_of_ble_eq_true rfl))
    obtain rfl : y_13 = nI u_14 := ey_13.trans qu_14
    have hsp := hsp.trans (slet_eq xu_14)
    refine va_iald hx hb hK hP 14 13 rfl rfl (vp_in_nI (n := u_14) (Nat.lt_of_le_of_lt hu_14 (Nat.le_of_ble_eq_true rfl)) (Nat.le_of_ble_eq_true rfl)) eX0_holdsAt_27 ?_
    refine lv_topi (fun y_15 ey_15 => ?_)
    have ey_15 : y_15 = ftt u_14 := ey_15.trans (congrArg ftt (nI_clamp (n := u_14) (Nat.lt_of_le_of_lt hu_14 (Nat.le_of_ble_eq_true rfl))))
    have hsp := hsp.trans (slet_eq ey_15)
    refine lv_istore (lv' := [(5, .int y_15), (4, .int (nI (a0 * 4 + g_2))), (0, .ref au), (1, .int (nI a0)), (2, .ref tt), (3, .int (nI g_2))]) hx hb eX0_holdsAt_28 hl (by decide) rfl (fun ls hl => ?_)
    refine lv_iload hx hb eX0_holdsAt_30 (lv_at hl 0 rfl) ?_
    refine lv_aload_n hx hb eX0_holdsAt_32 rfl (lv_at hl 2 rfl) ?_
    refine va_get (D := (dC, dI)) (ci := 0) (v := .ref q12) (C := RX0) (T := TX0) (N := 17) hx hb hts hiX0 hown hK hP 0 rfl rfl 12 (by decide) v_7 (fun _ h9 => h9) rfl eX0_holdsAt_33 ?_
    refine lv_iload hx hb eX0_holdsAt_36 (lv_at hl 1 rfl) ?_
    refine va_iald hx hb hK hP 9 8 rfl rfl (vp_in_nI (n := (a0 * 4 + g_2)) (by omega) (Nat.le_of_ble_eq_true rfl)) eX0_holdsAt_38 ?_
    refine lv_topi (fun y_16 ey_16 => ?_)
    have ey_16 : y_16 = f12 (a0 * 4 + g_2) := ey_16.trans (congrArg f12 (nI_clamp (n := (a0 * 4 + g_2)) (by first | omega | exact Nat.lt_trans (zx16 (by omega) (by omega) (by omega)) (Nat.le_of_ble_eq_true rfl) | exact Nat.lt_trans (zy16 (by omega) (by omega)) (Nat.le_of_ble_eq_true rfl) | exact Nat.lt_trans (zx25 (by omega) (by omega) (by omega)) (Nat.le_of_ble_eq_true rfl) | exact Nat.lt_trans (zy25 (by omega) (by omega)) (Nat.le_of_ble_eq_true rfl))))
    have hsp := hsp.trans (slet_eq ey_16)
    refine va_calli (va_runS (As := [.int y_16]) (rest := [.int y_15]) ⟨hx, hb, hml, hown, hts⟩ (c_E_7_ticks l dC dI _ y_16) (va_cwS 1 hts g_E_0_holdsAt_E_7_ticks rfl rfl rfl (by decide +kernel) ⟨Nat.le_of_ble_eq_true rfl, Nat.le_of_ble_eq_true rfl⟩) ⟨pu_bl, pu_in (hP.sub [] rfl) (hK.sub [] rfl) (hD.sub [] (by decide) rfl)⟩ rfl rfl hl.1 rfl (lv_room (Nat.le_of_ble_eq_true rfl)) eX0_holdsAt_39 ⟨Nat.le_of_ble_eq_true rfl, Nat.le_of_ble_eq_true rfl⟩) hS (fun q _ h => pu_fr hS hA q h) (pu_fr hS hA) (fun r_17 u t H1 locs ht hvm hw hB hz1 hk1 hS => ?_)
    have hP := pu_keep hP hk1
    clear hk1 hz1 ht hvm
    generalize H1 = H at hP hS ⊢
    have ir_17 := hw
    have hsp := hsp.trans (slet_eq ir_17)
    refine lv_icmp_gt (tgt := 61) hx hb eX0_holdsAt_42 (by decide) (fun c_18 => ?_) (fun c_18 => ?_)
    · have hcc_18 := c_18
      have hsp := hsp.trans (if_pos c_18)
      have hsp := hout_8 _ hsp
      refine lv_iconst (v := 0) hx hb eX0_holdsAt_61 (by decide) ?_
      exact W.zret (v := 0) (ty := .boolean) hx hb hr (rfl) (fun t ht hW => ⟨⟨0, (), rfl, ⟨0, (Nat.le_of_ble_eq_true rfl), rfl, (hsp.symm.trans hRR)⟩, trivial⟩, hS.F ht⟩) hS.2.2 eX0_holdsAt_62
    · have hcc_18 := c_18
      have hsp := hsp.trans (if_neg c_18)
      refine lv_iload hx hb eX0_holdsAt_45 (lv_at hl 0 rfl) ?_
      refine lv_ineg hx hb eX0_holdsAt_47 ?_
      refine lv_topi (fun y_19 ey_19 => ?_)
      have hsp := hsp.trans (slet_eq ey_19)
      refine lv_aload_n hx hb eX0_holdsAt_48 rfl (lv_at hl 2 rfl) ?_
      refine va_get (D := (dC, dI)) (ci := 0) (v := .ref q13) (C := RX0) (T := TX0) (N := 17) hx hb hts hiX0 hown hK hP 0 rfl rfl 13 (by decide) v_12 (fun _ h9 => h9) rfl eX0_holdsAt_49 ?_
      refine lv_iload hx hb eX0_holdsAt_52 (lv_at hl 1 rfl) ?_
      refine va_iald hx hb hK hP 10 9 rfl rfl (vp_in_nI (n := (a0 * 4 + g_2)) (by omega) (Nat.le_of_ble_eq_true rfl)) eX0_holdsAt_54 ?_
      refine lv_topi (fun y_20 ey_20 => ?_)
      have ey_20 : y_20 = f13 (a0 * 4 + g_2) := ey_20.trans (congrArg f13 (nI_clamp (n := (a0 * 4 + g_2)) (by first | omega | exact Nat.lt_trans (zx16 (by omega) (by omega) (by omega)) (Nat.le_of_ble_eq_true rfl) | exact Nat.lt_trans (zy16 (by omega) (by omega)) (Nat.le_of_ble_eq_true rfl) | exact Nat.lt_trans (zx25 (by omega) (by omega) (by omega)) (Nat.le_of_ble_eq_true rfl) | exact Nat.lt_trans (zy25 (by omega) (by omega)) (Nat.le_of_ble_eq_true rfl))))
      have hsp := hsp.trans (slet_eq ey_20)
      refine va_calli (va_runS (As := [.int y_20]) (rest := [.int y_19]) ⟨hx, hb, hml, hown, hts⟩ (c_E_7_ticks l dC dI _ y_20) (va_cwS 1 hts g_E_0_holdsAt_E_7_ticks rfl rfl rfl (by decide +kernel) ⟨Nat.le_of_ble_eq_true rfl, Nat.le_of_ble_eq_true rfl⟩) ⟨pu_bl, pu_in (hP.sub [] rfl) (hK.sub [] rfl) (hD.sub [] (by decide) rfl)⟩ rfl rfl hl.1 rfl (lv_room (Nat.le_of_ble_eq_true rfl)) eX0_holdsAt_55 ⟨Nat.le_of_ble_eq_true rfl, Nat.le_of_ble_eq_true rfl⟩) hS (fun q _ h => pu_fr hS hA q h) (pu_fr hS hA) (fun r_21 u t H1 locs ht hvm hw hB hz1 hk1 hS => ?_)
      have hP := pu_keep hP hk1
      clear hk1 hz1 ht hvm
      generalize H1 = H at hP hS ⊢
      have ir_21 := hw
      have hsp := hsp.trans (slet_eq ir_21)
      refine lv_icmp_le (tgt := 63) hx hb eX0_holdsAt_58 (by decide) (fun c_22 => ?_) (fun c_22 => ?_)
      · have hcc_22 := c_22
        have hsp := hsp.trans (if_pos c_22)
        refine lv_iinc (v := (nI (g_2 + 1))) (lv' := [(3, .int (nI (g_2 + 1))), (5, .int y_15), (4, .int (nI (a0 * 4 + g_2))), (0, .ref au), (1, .int (nI a0)), (2, .ref tt)]) hx hb eX0_holdsAt_63 hl (k := 5) rfl (nI_1 _) (by decide) rfl (fun ls hl => ?_)
        refine lv_goto (tgt := 2) hx hb eX0_holdsAt_66 (by decide) ?_
        exact ih_3 (4 - (g_2 + 1)) (by omega) _ _ _ ⟨(g_2 + 1), rfl, (by omega), hin_7 _ hsp, hP, hD, hS, lv_sub hl [3, 4, 5, 0] rfl⟩
      · have hcc_22 := c_22
        have hsp := hsp.trans (if_neg c_22)
        have hsp := hout_8 _ hsp
        refine lv_iconst (v := 0) hx hb eX0_holdsAt_61 (by decide) ?_
        exact W.zret (v := 0) (ty := .boolean) hx hb hr (rfl) (fun t ht hW => ⟨⟨0, (), rfl, ⟨0, (Nat.le_of_ble_eq_true rfl), rfl, (hsp.symm.trans hRR)⟩, trivial⟩, hS.F ht⟩) hS.2.2 eX0_holdsAt_62
theorem eX3_pass_0 : decode cX3_pass 0 = .ok (.aload_n 0, 1) := by decide +kernel
theorem eX3_pass_1 : decode cX3_pass 1 = .ok (.dup, 1) := by decide +kernel
theorem eX3_pass_2 : decode cX3_pass 2 = .ok (.getfield 34, 3) := by decide +kernel
theorem eX3_pass_5 : decode cX3_pass 5 = .ok (.iload_n 1, 1) := by decide +kernel
theorem eX3_pass_6 : decode cX3_pass 6 = .ok (.iadd, 1) := by decide +kernel
theorem eX3_pass_7 : decode cX3_pass 7 = .ok (.putfield 34, 3) := by decide +kernel
theorem eX3_pass_10 : decode cX3_pass 10 = .ok (.iconst 0, 1) := by decide +kernel
theorem eX3_pass_11 : decode cX3_pass 11 = .ok (.istore_n 2, 1) := by decide +kernel
theorem eX3_pass_12 : decode cX3_pass 12 = .ok (.iload_n 2, 1) := by decide +kernel
theorem eX3_pass_13 : decode cX3_pass 13 = .ok (.iconst 3, 1) := by decide +kernel
theorem eX3_pass_14 : decode cX3_pass 14 = .ok (.if_icmp .ge 19, 3) := by decide +kernel
theorem eX3_pass_17 : decode cX3_pass 17 = .ok (.aload_n 0, 1) := by decide +kernel
theorem eX3_pass_18 : decode cX3_pass 18 = .ok (.getfield 9, 3) := by decide +kernel
theorem eX3_pass_21 : decode cX3_pass 21 = .ok (.iload_n 2, 1) := by decide +kernel
theorem eX3_pass_22 : decode cX3_pass 22 = .ok (.dup2, 1) := by decide +kernel
theorem eX3_pass_23 : decode cX3_pass 23 = .ok (.iaload, 1) := by decide +kernel
theorem eX3_pass_24 : decode cX3_pass 24 = .ok (.iload_n 1, 1) := by decide +kernel
theorem eX3_pass_25 : decode cX3_pass 25 = .ok (.iadd, 1) := by decide +kernel
theorem eX3_pass_26 : decode cX3_pass 26 = .ok (.iastore, 1) := by decide +kernel
theorem eX3_pass_27 : decode cX3_pass 27 = .ok (.iinc 2 1, 3) := by decide +kernel
theorem eX3_pass_30 : decode cX3_pass 30 = .ok (.goto (-18), 3) := by decide +kernel
theorem eX3_pass_33 : decode cX3_pass 33 = .ok (.return_, 1) := by decide +kernel
abbrev vs_E_3_pass : List Cond := .code yX3_pass cX3_pass 3 none :: CM
noncomputable def sp_E_3_pass_L1 (p0 : Int32) (y_1 : Int32) : ((Nat → Int32) × Nat) → ((Nat → Int32) × Nat) ⊕ ((Nat → Int32) × Int32) := fun (g_4, g_5) => (if 3 ≤ g_5 then (Sum.inr (g_4, y_1)) else (slet (g_4 g_5) (fun y_13 => (slet ((y_13 : Int32) + p0) (fun y_14 => (slet (upd g_4 g_5 y_14) (fun f_15 => (Sum.inl (f_15, (g_5 + 1))))))))))
noncomputable def sp_E_3_pass (ti : Int32) (ftm : Nat → Int32) (p0 : Int32) : (Nat → Int32) × Int32 := (slet ((ti : Int32) + p0) (fun y_1 => (itrv (α := (Nat → Int32) × Nat) (β := ((Nat → Int32) × Int32)) default (sp_E_3_pass_L1 p0 y_1) (ftm, 0))))
set_option maxHeartbeats 4000000 in
set_option maxRecDepth 100000 in
theorem c_E_3_pass (l : Launch) (dC : Nat → ClassId) (dI : Nat → Nat → Nat) (sz : Nat) (py : Nat) (on : Nat) (si : Nat) (ti : Int32) (tm : Nat) (bh : Nat) (k_ftm : ClassId) (ftm : Nat → Int32) (k_fbh : ClassId) (fbh : Nat → Int32) (p0 : Int32) (hon : on ≤ 1) (hsi : si ≤ 7) : Met l yX3_pass vs_E_3_pass ({ frames := 0, cells := 0, slots := 0, locals := 0 }) (va_Pc [.ref py, .int p0] (pu_B (dC, dI) (py__w py (nI on) (nI si) ti tm bh k_ftm ftm k_fbh fbh) (py__t k_ftm k_fbh) sz)) (va_Qv (fun (_ : Unit) => True) (fun _ t => ∃ (z_ftm : Nat → Int32) (z_ti : Int32), pu_E (dC, dI) (py__w py (nI on) (nI si) z_ti tm bh k_ftm z_ftm k_fbh fbh) (py__t k_ftm k_fbh) (va_A ((py__w py (nI on) (nI si) ti tm bh k_ftm ftm k_fbh fbh)) sz) t ∧ ((z_ftm, z_ti) = (sp_E_3_pass ti ftm p0))) (va_A ((py__w py (nI on) (nI si) ti tm bh k_ftm ftm k_fbh fbh)) sz)) 0 0 (va_A ((py__w py (nI on) (nI si) ti tm bh k_ftm ftm k_fbh fbh)) sz) := by
  refine Met.ofW (cc := cX3_pass) (maxL := 3) (ret := none) (by decide) rfl ?_
  intro p e s m args below meth c s₁ B hml hv
  obtain ⟨rfl, rfl, hP, hK, hD0⟩ := hv
  have hx := B.exec
  have hb := B.bytes
  have hr := B.returns
  have hts := atoms_spec (ws := vs_E_3_pass) B.pre
  have v_1 := hts (.fieldLink RX3 34 "ClockReach$Play" "time" "I") (List.mem_cons_of_mem _ cm_175)
  have v_2 := hts (.fieldLink RX3 9 "ClockReach$Play" "times" "[I") (List.mem_cons_of_mem _ cm_176)
  have hown : s.vm.findClass RX3 = some m.cls := findClass_of_methodNamed B.named
  have hlocks := B.notSynchronized
  have hiX3 : ∀ w ∈ wsX30, w ∈ vs_E_3_pass := fun _ h => List.mem_cons_of_mem _ (cm_X3 h)
  have hD := hD0.self (sz := s.heap.size)
  generalize hAe : va_A ((py__w py (nI on) (nI si) ti tm bh k_ftm ftm k_fbh fbh)) s.heap.size = A at hD ⊢
  have hA : ∀ q : Nat, s.heap.size ≤ q → A q := fun q h => by rw [← hAe]; exact Or.inr h
  have hS : va_S A s.heap s.heap [] := va_S.rf
  have hl := lv_entry ([.ref py, .int p0]) (n := 3) (Nat.le_of_ble_eq_true rfl)
  rw [lg_entry_eq]
  generalize (lg_sl ([.ref py, .int p0]) ++ List.replicate (3 - (lg_sl ([.ref py, .int p0])).length) Slot.unset).toArray = ls at hl ⊢
  have hl : lv_has ls 3 [(0, .ref py), (1, .int p0)] := hl
  obtain ⟨RR, hRR⟩ : ∃ x, x = (sp_E_3_pass ti ftm p0) := ⟨_, rfl⟩
  have hsp := hRR
  refine lv_aload_n hx hb eX3_pass_0 rfl (lv_at hl 0 rfl) ?_
  refine lv_dup hx hb eX3_pass_1 rfl ?_
  refine va_get (D := (dC, dI)) (ci := 3) (v := .int ti) (C := RX3) (T := TX3) (N := 5) hx hb hts hiX3 hown hK hP 0 rfl rfl 2 (by decide) v_1 (fun _ h9 => h9) rfl eX3_pass_2 ?_
  refine lv_iload_n hx hb eX3_pass_5 rfl (lv_at hl 1 rfl) ?_
  refine lv_iadd hx hb eX3_pass_6 ?_
  refine lv_topi (fun y_1 ey_1 => ?_)
  have hsp := hsp.trans (slet_eq ey_1)
  refine va_put (D := (dC, dI)) (ci := 3) (v := .int y_1) (ty := .int) (C := RX3) (T := TX3) (N := 5) hx hb hts hiX3 tyX3 tyX3_ok nmX3 hown hK hP hD hS 0 rfl rfl 2 (by decide) v_1 (fun _ h9 => h9) rfl (by decide +kernel) rfl rfl (Nat.le_of_ble_eq_true rfl) eX3_pass_7 (fun H locs hP hD hS => ?_)
  have hP : va_P (dC, dI) vwCl (py__w py (nI on) (nI si) y_1 tm bh k_ftm ftm k_fbh fbh) H := hP
  have hD : va_D A (py__w py (nI on) (nI si) y_1 tm bh k_ftm ftm k_fbh fbh) := hD
  refine lv_iconst (v := 0) hx hb eX3_pass_10 (by decide) ?_
  refine lv_istore_n (lv' := [(2, .int 0), (0, .ref py), (1, .int p0)]) hx hb eX3_pass_11 rfl hl (by decide) rfl (fun ls hl => ?_)
  obtain ⟨lf_7, dlf_7, hlf_7, hsp⟩ := itr_ex hsp
  delta sp_E_3_pass_L1 at hlf_7
  refine pu_while (fun nn H locs ls => ∃ (g_4 : Nat → Int32) (g_5 : Nat), nn = 3 - g_5 ∧ g_5 ≤ 3 ∧ RR = itrv dlf_7 lf_7 (g_4, g_5) ∧ va_P (dC, dI) vwCl (py__w py (nI on) (nI si) y_1 tm bh k_ftm g_4 k_fbh fbh) H ∧ va_D A (py__w py (nI on) (nI si) y_1 tm bh k_ftm g_4 k_fbh fbh) ∧ va_S A s.heap H locs ∧ lv_has ls 3 [(0, .ref py), (1, .int p0), (2, .int (nI g_5))]) 12 ?_ _ _ _ _ ⟨ftm, 0, rfl, (Nat.le_of_ble_eq_true rfl), hsp, hP, hD, hS, lv_sub hl [1, 2, 0] rfl⟩
  rintro nn ih_6 H locs ls ⟨g_4, g_5, rfl, hg_5, he_9, hP, hD, hS, hl⟩
  obtain ⟨S_8, hsp, hin_10, hout_11⟩ := itr_step hlf_7 he_9
  refine lv_iload_n hx hb eX3_pass_12 rfl (lv_at hl 2 rfl) ?_
  refine lv_iconst (v := 3) hx hb eX3_pass_13 (by decide) ?_
  refine lv_icmp_ge (tgt := 33) hx hb eX3_pass_14 (by decide) (fun c_12 => ?_) (fun c_12 => ?_)
  · have c_12 : 3 ≤ g_5 := (nI_leI (a := 3) (b := g_5) (Nat.le_of_ble_eq_true rfl) (Nat.lt_of_le_of_lt hg_5 (Nat.le_of_ble_eq_true rfl))).mp c_12
    have hsp := hsp.trans (if_pos c_12)
    have hsp := hout_11 _ hsp
    exact W.vret hx hb hr (fun t ht hW => ⟨⟨(), rfl, trivial, ⟨g_4, y_1, ⟨by rw [ht]; exact hP, va_K.moved hW.alike hK, hD⟩, (hsp.symm.trans hRR)⟩⟩, hS.F ht⟩) hS.2.2 eX3_pass_33
  · have c_12 : ¬ 3 ≤ g_5 := fun z => c_12 ((nI_leI (a := 3) (b := g_5) (Nat.le_of_ble_eq_true rfl) (Nat.lt_of_le_of_lt hg_5 (Nat.le_of_ble_eq_true rfl))).mpr z)
    have hsp := hsp.trans (if_neg c_12)
    refine lv_aload_n hx hb eX3_pass_17 rfl (lv_at hl 0 rfl) ?_
    refine va_get (D := (dC, dI)) (ci := 3) (v := .ref tm) (C := RX3) (T := TX3) (N := 5) hx hb hts hiX3 hown hK hP 0 rfl rfl 3 (by decide) v_2 (fun _ h9 => h9) rfl eX3_pass_18 ?_
    refine lv_iload_n hx hb eX3_pass_21 rfl (lv_at hl 2 rfl) ?_
    refine lv_dup2_11 hx hb eX3_pass_22 rfl rfl ?_
    refine va_iald hx hb hK hP 1 0 rfl rfl (vp_in_nI (n := g_5) (by omega) (Nat.le_of_ble_eq_true rfl)) eX3_pass_23 ?_
    refine lv_topi (fun y_13 ey_13 => ?_)
    have ey_13 : y_13 = g_4 g_5 := ey_13.trans (congrArg g_4 (nI_clamp (n := g_5) (Nat.lt_of_le_of_lt hg_5 (Nat.le_of_ble_eq_true rfl))))
    have hsp := hsp.trans (slet_eq ey_13)
    refine lv_iload_n hx hb eX3_pass_24 rfl (lv_at hl 1 rfl) ?_
    refine lv_iadd hx hb eX3_pass_25 ?_
    refine lv_topi (fun y_14 ey_14 => ?_)
    have hsp := hsp.trans (slet_eq ey_14)
    refine va_iast hx hb hK hP hD hS 1 0 rfl rfl (vp_in_nI (n := g_5) (by omega) (Nat.le_of_ble_eq_true rfl)) eX3_pass_26 (fun H locs hP hD hS => ?_)
    obtain ⟨f_15, ef_15, xf_15⟩ := up_x g_4 (n := g_5) y_14 (Nat.lt_of_le_of_lt hg_5 (Nat.le_of_ble_eq_true rfl))
    have hP : va_P (dC, dI) vwCl (py__w py (nI on) (nI si) y_1 tm bh k_ftm f_15 k_fbh fbh) H := by rw [← ef_15]; exact hP
    have hD : va_D A (py__w py (nI on) (nI si) y_1 tm bh k_ftm f_15 k_fbh fbh) := by rw [← ef_15]; exact hD
    have hsp := hsp.trans (slet_eq xf_15)
    refine lv_iinc (v := (nI (g_5 + 1))) (lv' := [(2, .int (nI (g_5 + 1))), (0, .ref py), (1, .int p0)]) hx hb eX3_pass_27 hl (k := 2) rfl (nI_1 _) (by decide) rfl (fun ls hl => ?_)
    refine lv_goto (tgt := 12) hx hb eX3_pass_30 (by decide) ?_
    exact ih_6 (3 - (g_5 + 1)) (by omega) _ _ _ ⟨f_15, (g_5 + 1), rfl, (by omega), hin_10 _ hsp, hP, hD, hS, lv_sub hl [1, 2, 0] rfl⟩
theorem eX3_startsIn_0 : decode cX3_startsIn 0 = .ok (.aload_n 0, 1) := by decide +kernel
theorem eX3_startsIn_1 : decode cX3_startsIn 1 = .ok (.iconst 0, 1) := by decide +kernel
theorem eX3_startsIn_2 : decode cX3_startsIn 2 = .ok (.putfield 18, 3) := by decide +kernel
theorem eX3_startsIn_5 : decode cX3_startsIn 5 = .ok (.aload_n 1, 1) := by decide +kernel
theorem eX3_startsIn_6 : decode cX3_startsIn 6 = .ok (.getfield 22, 3) := by decide +kernel
theorem eX3_startsIn_9 : decode cX3_startsIn 9 = .ok (.ifCond .ne 5, 3) := by decide +kernel
theorem eX3_startsIn_12 : decode cX3_startsIn 12 = .ok (.iconst 0, 1) := by decide +kernel
theorem eX3_startsIn_13 : decode cX3_startsIn 13 = .ok (.ireturn, 1) := by decide +kernel
abbrev vs_E_3_startsIn_0 : List Cond := .code yX3_startsIn cX3_startsIn 3 (some .boolean) :: CM
noncomputable def sp_E_3_startsIn_0 : Nat := 0
set_option maxHeartbeats 4000000 in
set_option maxRecDepth 100000 in
theorem c_E_3_startsIn_0 (l : Launch) (dC : Nat → ClassId) (dI : Nat → Nat → Nat) (sz : Nat) (py : Nat) (on : Nat) (si : Nat) (ti : Int32) (tm : Nat) (bh : Nat) (k_ftm : ClassId) (ftm : Nat → Int32) (k_fbh : ClassId) (fbh : Nat → Int32) (au : Nat) (nc : Nat) (ne : Nat) (st0 : Int32) (q4 : Nat) (q5 : Nat) (q6 : Nat) (q7 : Nat) (q8 : Nat) (q9 : Nat) (q10 : Nat) (q11 : Nat) (q12 : Nat) (q13 : Nat) (q14 : Nat) (q15 : Nat) (q16 : Nat) (k_f4 : ClassId) (f4 : Nat → Int32) (k_f5 : ClassId) (q_f5 : Nat → Nat) (k_f6 : ClassId) (q_f6 : Nat → Nat) (k_f7 : ClassId) (f7 : Nat → Int32) (k_f8 : ClassId) (q_f8 : Nat → Nat) (k_f9 : ClassId) (q_f9 : Nat → Nat) (k_f10 : ClassId) (f10 : Nat → Int32) (k_f11 : ClassId) (f11 : Nat → Int32) (k_f12 : ClassId) (f12 : Nat → Int32) (k_f13 : ClassId) (f13 : Nat → Int32) (k_f14 : ClassId) (f14 : Nat → Int32) (k_f15 : ClassId) (f15 : Nat → Int32) (k_f16 : ClassId) (f16 : Nat → Int32) (hon : on ≤ 1) (hsi : si ≤ 7) (hnc : nc ≤ 3) (hne : ne ≤ 14) (hst0 : pm1 7 st0) : Met l yX3_startsIn vs_E_3_startsIn_0 ({ frames := 0, cells := 0, slots := 0, locals := 0 }) (va_Pc [.ref py, .ref au] (pu_B (dC, dI) (pa__w py (nI on) (nI si) ti tm bh k_ftm ftm k_fbh fbh au (nI nc) 0 (nI ne) st0 q4 q5 q6 q7 q8 q9 q10 q11 q12 q13 q14 q15 q16 k_f4 f4 k_f5 (bN 7 q_f5) k_f6 (bN 7 q_f6) k_f7 f7 k_f8 (bN 4 q_f8) k_f9 (bN 2 q_f9) k_f10 f10 k_f11 f11 k_f12 f12 k_f13 f13 k_f14 f14 k_f15 f15 k_f16 f16) (pa__t k_ftm k_fbh k_f4 k_f5 k_f6 k_f7 k_f8 k_f9 k_f10 k_f11 k_f12 k_f13 k_f14 k_f15 k_f16) sz)) (va_Qi (fun (r : Int32) (_ : Unit) => r = 0) (fun _ t => ∃ (z_on : Nat), pu_E (dC, dI) (pa__w py (nI z_on) (nI si) ti tm bh k_ftm ftm k_fbh fbh au (nI nc) 0 (nI ne) st0 q4 q5 q6 q7 q8 q9 q10 q11 q12 q13 q14 q15 q16 k_f4 f4 k_f5 (bN 7 q_f5) k_f6 (bN 7 q_f6) k_f7 f7 k_f8 (bN 4 q_f8) k_f9 (bN 2 q_f9) k_f10 f10 k_f11 f11 k_f12 f12 k_f13 f13 k_f14 f14 k_f15 f15 k_f16 f16) (pa__t k_ftm k_fbh k_f4 k_f5 k_f6 k_f7 k_f8 k_f9 k_f10 k_f11 k_f12 k_f13 k_f14 k_f15 k_f16) (va_A ((pa__w py (nI on) (nI si) ti tm bh k_ftm ftm k_fbh fbh au (nI nc) 0 (nI ne) st0 q4 q5 q6 q7 q8 q9 q10 q11 q12 q13 q14 q15 q16 k_f4 f4 k_f5 (bN 7 q_f5) k_f6 (bN 7 q_f6) k_f7 f7 k_f8 (bN 4 q_f8) k_f9 (bN 2 q_f9) k_f10 f10 k_f11 f11 k_f12 f12 k_f13 f13 k_f14 f14 k_f15 f15 k_f16 f16)) sz) t ∧ (z_on ≤ 1) ∧ (z_on = sp_E_3_startsIn_0)) (va_A ((pa__w py (nI on) (nI si) ti tm bh k_ftm ftm k_fbh fbh au (nI nc) 0 (nI ne) st0 q4 q5 q6 q7 q8 q9 q10 q11 q12 q13 q14 q15 q16 k_f4 f4 k_f5 (bN 7 q_f5) k_f6 (bN 7 q_f6) k_f7 f7 k_f8 (bN 4 q_f8) k_f9 (bN 2 q_f9) k_f10 f10 k_f11 f11 k_f12 f12 k_f13 f13 k_f14 f14 k_f15 f15 k_f16 f16)) sz)) 0 0 (va_A ((pa__w py (nI on) (nI si) ti tm bh k_ftm ftm k_fbh fbh au (nI nc) 0 (nI ne) st0 q4 q5 q6 q7 q8 q9 q10 q11 q12 q13 q14 q15 q16 k_f4 f4 k_f5 (bN 7 q_f5) k_f6 (bN 7 q_f6) k_f7 f7 k_f8 (bN 4 q_f8) k_f9 (bN 2 q_f9) k_f10 f10 k_f11 f11 k_f12 f12 k_f13 f13 k_f14 f14 k_f15 f15 k_f16 f16)) sz) := by
  refine Met.ofW (cc := cX3_startsIn) (maxL := 3) (ret := (some .boolean)) (by decide) rfl ?_
  intro p e s m args below meth c s₁ B hml hv
  obtain ⟨rfl, rfl, hP, hK, hD0⟩ := hv
  have hx := B.exec
  have hb := B.bytes
  have hr := B.returns
  have hts := atoms_spec (ws := vs_E_3_startsIn_0) B.pre
  have v_1 := hts (.fieldLink RX3 18 "ClockReach$Play" "on" "Z") (List.mem_cons_of_mem _ cm_171)
  have v_2 := hts (.fieldLink RX3 22 "ClockReach$Automaton" "places" "I") (List.mem_cons_of_mem _ cm_172)
  have hown : s.vm.findClass RX3 = some m.cls := findClass_of_methodNamed B.named
  have hlocks := B.notSynchronized
  have hiX0 : ∀ w ∈ wsX00, w ∈ vs_E_3_startsIn_0 := fun _ h => List.mem_cons_of_mem _ (cm_X0 h)
  have hiX3 : ∀ w ∈ wsX30, w ∈ vs_E_3_startsIn_0 := fun _ h => List.mem_cons_of_mem _ (cm_X3 h)
  have hD := hD0.self (sz := s.heap.size)
  generalize hAe : va_A ((pa__w py (nI on) (nI si) ti tm bh k_ftm ftm k_fbh fbh au (nI nc) 0 (nI ne) st0 q4 q5 q6 q7 q8 q9 q10 q11 q12 q13 q14 q15 q16 k_f4 f4 k_f5 (bN 7 q_f5) k_f6 (bN 7 q_f6) k_f7 f7 k_f8 (bN 4 q_f8) k_f9 (bN 2 q_f9) k_f10 f10 k_f11 f11 k_f12 f12 k_f13 f13 k_f14 f14 k_f15 f15 k_f16 f16)) s.heap.size = A at hD ⊢
  have hA : ∀ q : Nat, s.heap.size ≤ q → A q := fun q h => by rw [← hAe]; exact Or.inr h
  have hS : va_S A s.heap s.heap [] := va_S.rf
  have hl := lv_entry ([.ref py, .ref au]) (n := 3) (Nat.le_of_ble_eq_true rfl)
  rw [lg_entry_eq]
  generalize (lg_sl ([.ref py, .ref au]) ++ List.replicate (3 - (lg_sl ([.ref py, .ref au])).length) Slot.unset).toArray = ls at hl ⊢
  have hl : lv_has ls 3 [(0, .ref py), (1, .ref au)] := hl
  obtain ⟨RR, hRR⟩ : ∃ x, x = sp_E_3_startsIn_0 := ⟨_, rfl⟩
  have hsp := hRR
  refine lv_aload_n hx hb eX3_startsIn_0 rfl (lv_at hl 0 rfl) ?_
  refine lv_iconst (v := 0) hx hb eX3_startsIn_1 (by decide) ?_
  refine va_put (D := (dC, dI)) (ci := 3) (v := .int 0) (ty := .boolean) (C := RX3) (T := TX3) (N := 5) hx hb hts hiX3 tyX3 tyX3_ok nmX3 hown hK hP hD hS 0 rfl rfl 0 (by decide) v_1 (fun _ h9 => h9) rfl (by decide +kernel) rfl rfl (Nat.le_of_ble_eq_true rfl) eX3_startsIn_2 (fun H locs hP hD hS => ?_)
  have hP : va_P (dC, dI) vwCl (pa__w py 0 (nI si) ti tm bh k_ftm ftm k_fbh fbh au (nI nc) 0 (nI ne) st0 q4 q5 q6 q7 q8 q9 q10 q11 q12 q13 q14 q15 q16 k_f4 f4 k_f5 (bN 7 q_f5) k_f6 (bN 7 q_f6) k_f7 f7 k_f8 (bN 4 q_f8) k_f9 (bN 2 q_f9) k_f10 f10 k_f11 f11 k_f12 f12 k_f13 f13 k_f14 f14 k_f15 f15 k_f16 f16) H := hP
  have hD : va_D A (pa__w py 0 (nI si) ti tm bh k_ftm ftm k_fbh fbh au (nI nc) 0 (nI ne) st0 q4 q5 q6 q7 q8 q9 q10 q11 q12 q13 q14 q15 q16 k_f4 f4 k_f5 (bN 7 q_f5) k_f6 (bN 7 q_f6) k_f7 f7 k_f8 (bN 4 q_f8) k_f9 (bN 2 q_f9) k_f10 f10 k_f11 f11 k_f12 f12 k_f13 f13 k_f14 f14 k_f15 f15 k_f16 f16) := hD
  refine lv_aload_n hx hb eX3_startsIn_5 rfl (lv_at hl 1 rfl) ?_
  refine va_get (D := (dC, dI)) (ci := 0) (v := .int 0) (C := RX0) (T := TX0) (N := 17) hx hb hts hiX0 hown hK hP 3 rfl rfl 1 (by decide) v_2 (fun _ h9 => h9) rfl eX3_startsIn_6 ?_
  refine lv_if_ne (tgt := 14) hx hb eX3_startsIn_9 (by decide) (fun z => absurd z (by decide)) (fun _ => ?_)
  refine lv_iconst (v := 0) hx hb eX3_startsIn_12 (by decide) ?_
  exact W.zret (v := 0) (ty := .boolean) hx hb hr (rfl) (fun t ht hW => ⟨⟨0, (), rfl, rfl, ⟨0, ⟨by rw [ht]; exact hP, va_K.moved hW.alike hK, hD⟩, (Nat.le_of_ble_eq_true rfl), (hsp.symm.trans hRR)⟩⟩, hS.F ht⟩) hS.2.2 eX3_startsIn_13
theorem eX3_startsIn_14 : decode cX3_startsIn 14 = .ok (.aload_n 0, 1) := by decide +kernel
theorem eX3_startsIn_15 : decode cX3_startsIn 15 = .ok (.aload_n 1, 1) := by decide +kernel
theorem eX3_startsIn_16 : decode cX3_startsIn 16 = .ok (.getfield 28, 3) := by decide +kernel
theorem eX3_startsIn_19 : decode cX3_startsIn 19 = .ok (.putfield 31, 3) := by decide +kernel
theorem eX3_startsIn_22 : decode cX3_startsIn 22 = .ok (.aload_n 0, 1) := by decide +kernel
theorem eX3_startsIn_23 : decode cX3_startsIn 23 = .ok (.iconst 0, 1) := by decide +kernel
theorem eX3_startsIn_24 : decode cX3_startsIn 24 = .ok (.putfield 34, 3) := by decide +kernel
theorem eX3_startsIn_27 : decode cX3_startsIn 27 = .ok (.iconst 0, 1) := by decide +kernel
theorem eX3_startsIn_28 : decode cX3_startsIn 28 = .ok (.istore_n 2, 1) := by decide +kernel
theorem eX3_startsIn_29 : decode cX3_startsIn 29 = .ok (.iload_n 2, 1) := by decide +kernel
theorem eX3_startsIn_30 : decode cX3_startsIn 30 = .ok (.iconst 3, 1) := by decide +kernel
theorem eX3_startsIn_31 : decode cX3_startsIn 31 = .ok (.if_icmp .ge 16, 3) := by decide +kernel
theorem eX3_startsIn_34 : decode cX3_startsIn 34 = .ok (.aload_n 0, 1) := by decide +kernel
theorem eX3_startsIn_35 : decode cX3_startsIn 35 = .ok (.getfield 9, 3) := by decide +kernel
theorem eX3_startsIn_38 : decode cX3_startsIn 38 = .ok (.iload_n 2, 1) := by decide +kernel
theorem eX3_startsIn_39 : decode cX3_startsIn 39 = .ok (.iconst 0, 1) := by decide +kernel
theorem eX3_startsIn_40 : decode cX3_startsIn 40 = .ok (.iastore, 1) := by decide +kernel
theorem eX3_startsIn_41 : decode cX3_startsIn 41 = .ok (.iinc 2 1, 3) := by decide +kernel
theorem eX3_startsIn_44 : decode cX3_startsIn 44 = .ok (.goto (-15), 3) := by decide +kernel
theorem eX3_startsIn_47 : decode cX3_startsIn 47 = .ok (.aload_n 0, 1) := by decide +kernel
theorem eX3_startsIn_48 : decode cX3_startsIn 48 = .ok (.aload_n 1, 1) := by decide +kernel
theorem eX3_startsIn_49 : decode cX3_startsIn 49 = .ok (.aload_n 0, 1) := by decide +kernel
theorem eX3_startsIn_50 : decode cX3_startsIn 50 = .ok (.getfield 31, 3) := by decide +kernel
theorem eX3_startsIn_53 : decode cX3_startsIn 53 = .ok (.invokestatic 37, 3) := by decide +kernel
theorem eX3_startsIn_56 : decode cX3_startsIn 56 = .ok (.aload_n 0, 1) := by decide +kernel
theorem eX3_startsIn_57 : decode cX3_startsIn 57 = .ok (.getfield 9, 3) := by decide +kernel
theorem eX3_startsIn_60 : decode cX3_startsIn 60 = .ok (.invokevirtual 41, 3) := by decide +kernel
theorem eX3_startsIn_63 : decode cX3_startsIn 63 = .ok (.putfield 18, 3) := by decide +kernel
theorem eX3_startsIn_66 : decode cX3_startsIn 66 = .ok (.aload_n 0, 1) := by decide +kernel
theorem eX3_startsIn_67 : decode cX3_startsIn 67 = .ok (.getfield 18, 3) := by decide +kernel
theorem eX3_startsIn_70 : decode cX3_startsIn 70 = .ok (.ireturn, 1) := by decide +kernel
abbrev vs_E_3_startsIn : List Cond := .code yX3_startsIn cX3_startsIn 3 (some .boolean) :: CM
theorem g_E_3_startsIn_E_0_hostOfPlace : GoodIn vs_E_3_startsIn (va_wsS RX3 37 yX0_hostOfPlace vs_E_0_hostOfPlace) := cm_gS cm_177 cm_55 cm_19 cm_0
theorem g_E_3_startsIn_E_0_holdsAt : GoodIn vs_E_3_startsIn (wsV RX3 41 RX0 yX0_holdsAt vs_E_0_holdsAt) := cm_gV cm_178 cm_179 cm_180 cm_19 cm_66
noncomputable def sp_E_3_startsIn_L1 (st0 : Nat) (q_f8 : Nat → Nat) (q_f9 : Nat → Nat) (f12 : Nat → Int32) (f13 : Nat → Int32) : ((Nat → Int32) × Nat) → ((Nat → Int32) × Nat) ⊕ (Nat × (Nat → Int32) × Nat × Nat × Int32) := fun (g_4, g_5) => (if 3 ≤ g_5 then (Sum.inr (slet (sp_E_0_holdsAt q_f8 q_f9 f12 f13 g_4 (14 + st0)) (fun u_15 => (u_15, g_4, u_15, st0, 0)))) else (slet (upd g_4 g_5 0) (fun f_16 => (Sum.inl (f_16, (g_5 + 1))))))
noncomputable def sp_E_3_startsIn (si : Nat) (ti : Int32) (ftm : Nat → Int32) (np : Nat) (st0 : Nat) (q_f8 : Nat → Nat) (q_f9 : Nat → Nat) (f12 : Nat → Int32) (f13 : Nat → Int32) : Nat × (Nat → Int32) × Nat × Nat × Int32 := (if np = 0 then (0, ftm, 0, si, ti) else (itrv (α := (Nat → Int32) × Nat) (β := (Nat × (Nat → Int32) × Nat × Nat × Int32)) default (sp_E_3_startsIn_L1 st0 q_f8 q_f9 f12 f13) (ftm, 0)))
set_option maxHeartbeats 4000000 in
set_option maxRecDepth 100000 in
theorem c_E_3_startsIn (l : Launch) (dC : Nat → ClassId) (dI : Nat → Nat → Nat) (sz : Nat) (py : Nat) (on : Nat) (si : Nat) (ti : Int32) (tm : Nat) (bh : Nat) (k_ftm : ClassId) (ftm : Nat → Int32) (k_fbh : ClassId) (fbh : Nat → Int32) (au : Nat) (nc : Nat) (np : Nat) (ne : Nat) (st0 : Nat) (q4 : Nat) (q5 : Nat) (q6 : Nat) (q7 : Nat) (q8 : Nat) (q9 : Nat) (q10 : Nat) (q11 : Nat) (q12 : Nat) (q13 : Nat) (q14 : Nat) (q15 : Nat) (q16 : Nat) (k_f4 : ClassId) (f4 : Nat → Int32) (k_f5 : ClassId) (q_f5 : Nat → Nat) (k_f6 : ClassId) (q_f6 : Nat → Nat) (k_f7 : ClassId) (f7 : Nat → Int32) (k_f8 : ClassId) (q_f8 : Nat → Nat) (k_f9 : ClassId) (q_f9 : Nat → Nat) (k_f10 : ClassId) (f10 : Nat → Int32) (k_f11 : ClassId) (f11 : Nat → Int32) (k_f12 : ClassId) (f12 : Nat → Int32) (k_f13 : ClassId) (f13 : Nat → Int32) (k_f14 : ClassId) (f14 : Nat → Int32) (k_f15 : ClassId) (f15 : Nat → Int32) (k_f16 : ClassId) (f16 : Nat → Int32) (hon : on ≤ 1) (hsi : si ≤ 7) (hnc : nc ≤ 3) (hnp : np ≤ 8) (hne : ne ≤ 14) (hst0 : st0 ≤ 7) : Met l yX3_startsIn vs_E_3_startsIn ({ frames := 2, cells := 0, slots := 0, locals := 46 }) (va_Pc [.ref py, .ref au] (pu_B (dC, dI) (pa__w py (nI on) (nI si) ti tm bh k_ftm ftm k_fbh fbh au (nI nc) (nI np) (nI ne) (nI st0) q4 q5 q6 q7 q8 q9 q10 q11 q12 q13 q14 q15 q16 k_f4 f4 k_f5 (bN 7 q_f5) k_f6 (bN 7 q_f6) k_f7 f7 k_f8 (bN 4 q_f8) k_f9 (bN 2 q_f9) k_f10 f10 k_f11 f11 k_f12 f12 k_f13 f13 k_f14 f14 k_f15 f15 k_f16 f16) (pa__t k_ftm k_fbh k_f4 k_f5 k_f6 k_f7 k_f8 k_f9 k_f10 k_f11 k_f12 k_f13 k_f14 k_f15 k_f16) sz)) (va_Qi (fun (r : Int32) (_ : Unit) => ∃ v : Nat, v ≤ 1 ∧ r = nI v ∧ v = (sp_E_3_startsIn si ti ftm np st0 q_f8 q_f9 f12 f13).1) (fun _ t => ∃ (z_ftm : Nat → Int32) (z_on : Nat) (z_si : Nat) (z_ti : Int32), pu_E (dC, dI) (pa__w py (nI z_on) (nI z_si) z_ti tm bh k_ftm z_ftm k_fbh fbh au (nI nc) (nI np) (nI ne) (nI st0) q4 q5 q6 q7 q8 q9 q10 q11 q12 q13 q14 q15 q16 k_f4 f4 k_f5 (bN 7 q_f5) k_f6 (bN 7 q_f6) k_f7 f7 k_f8 (bN 4 q_f8) k_f9 (bN 2 q_f9) k_f10 f10 k_f11 f11 k_f12 f12 k_f13 f13 k_f14 f14 k_f15 f15 k_f16 f16) (pa__t k_ftm k_fbh k_f4 k_f5 k_f6 k_f7 k_f8 k_f9 k_f10 k_f11 k_f12 k_f13 k_f14 k_f15 k_f16) (va_A ((pa__w py (nI on) (nI si) ti tm bh k_ftm ftm k_fbh fbh au (nI nc) (nI np) (nI ne) (nI st0) q4 q5 q6 q7 q8 q9 q10 q11 q12 q13 q14 q15 q16 k_f4 f4 k_f5 (bN 7 q_f5) k_f6 (bN 7 q_f6) k_f7 f7 k_f8 (bN 4 q_f8) k_f9 (bN 2 q_f9) k_f10 f10 k_f11 f11 k_f12 f12 k_f13 f13 k_f14 f14 k_f15 f15 k_f16 f16)) sz) t ∧ (z_on ≤ 1) ∧ (z_si ≤ 7) ∧ ((z_ftm, z_on, z_si, z_ti) = (sp_E_3_startsIn si ti ftm np st0 q_f8 q_f9 f12 f13).2)) (va_A ((pa__w py (nI on) (nI si) ti tm bh k_ftm ftm k_fbh fbh au (nI nc) (nI np) (nI ne) (nI st0) q4 q5 q6 q7 q8 q9 q10 q11 q12 q13 q14 q15 q16 k_f4 f4 k_f5 (bN 7 q_f5) k_f6 (bN 7 q_f6) k_f7 f7 k_f8 (bN 4 q_f8) k_f9 (bN 2 q_f9) k_f10 f10 k_f11 f11 k_f12 f12 k_f13 f13 k_f14 f14 k_f15 f15 k_f16 f16)) sz)) 0 0 (va_A ((pa__w py (nI on) (nI si) ti tm bh k_ftm ftm k_fbh fbh au (nI nc) (nI np) (nI ne) (nI st0) q4 q5 q6 q7 q8 q9 q10 q11 q12 q13 q14 q15 q16 k_f4 f4 k_f5 (bN 7 q_f5) k_f6 (bN 7 q_f6) k_f7 f7 k_f8 (bN 4 q_f8) k_f9 (bN 2 q_f9) k_f10 f10 k_f11 f11 k_f12 f12 k_f13 f13 k_f14 f14 k_f15 f15 k_f16 f16)) sz) := by
  refine Met.ofW (cc := cX3_startsIn) (maxL := 3) (ret := (some .boolean)) (by decide) rfl ?_
  intro p e s m args below meth c s₁ B hml hv
  obtain ⟨rfl, rfl, hP, hK, hD0⟩ := hv
  have hx := B.exec
  have hb := B.bytes
  have hr := B.returns
  have hts := atoms_spec (ws := vs_E_3_startsIn) B.pre
  have v_1 := hts (.fieldLink RX3 18 "ClockReach$Play" "on" "Z") (List.mem_cons_of_mem _ cm_171)
  have v_2 := hts (.fieldLink RX3 22 "ClockReach$Automaton" "places" "I") (List.mem_cons_of_mem _ cm_172)
  have v_3 := hts (.fieldLink RX3 28 "ClockReach$Automaton" "start" "I") (List.mem_cons_of_mem _ cm_173)
  have v_4 := hts (.fieldLink RX3 31 "ClockReach$Play" "site" "I") (List.mem_cons_of_mem _ cm_174)
  have v_5 := hts (.fieldLink RX3 34 "ClockReach$Play" "time" "I") (List.mem_cons_of_mem _ cm_175)
  have v_6 := hts (.fieldLink RX3 9 "ClockReach$Play" "times" "[I") (List.mem_cons_of_mem _ cm_176)
  have hown : s.vm.findClass RX3 = some m.cls := findClass_of_methodNamed B.named
  have hlocks := B.notSynchronized
  have hiX0 : ∀ w ∈ wsX00, w ∈ vs_E_3_startsIn := fun _ h => List.mem_cons_of_mem _ (cm_X0 h)
  have hiX3 : ∀ w ∈ wsX30, w ∈ vs_E_3_startsIn := fun _ h => List.mem_cons_of_mem _ (cm_X3 h)
  have hD := hD0.self (sz := s.heap.size)
  generalize hAe : va_A ((pa__w py (nI on) (nI si) ti tm bh k_ftm ftm k_fbh fbh au (nI nc) (nI np) (nI ne) (nI st0) q4 q5 q6 q7 q8 q9 q10 q11 q12 q13 q14 q15 q16 k_f4 f4 k_f5 (bN 7 q_f5) k_f6 (bN 7 q_f6) k_f7 f7 k_f8 (bN 4 q_f8) k_f9 (bN 2 q_f9) k_f10 f10 k_f11 f11 k_f12 f12 k_f13 f13 k_f14 f14 k_f15 f15 k_f16 f16)) s.heap.size = A at hD ⊢
  have hA : ∀ q : Nat, s.heap.size ≤ q → A q := fun q h => by rw [← hAe]; exact Or.inr h
  have hS : va_S A s.heap s.heap [] := va_S.rf
  have hl := lv_entry ([.ref py, .ref au]) (n := 3) (Nat.le_of_ble_eq_true rfl)
  rw [lg_entry_eq]
  generalize (lg_sl ([.ref py, .ref au]) ++ List.replicate (3 - (lg_sl ([.ref py, .ref au])).length) Slot.unset).toArray = ls at hl ⊢
  have hl : lv_has ls 3 [(0, .ref py), (1, .ref au)] := hl
  obtain ⟨RR, hRR⟩ : ∃ x, x = (sp_E_3_startsIn si ti ftm np st0 q_f8 q_f9 f12 f13) := ⟨_, rfl⟩
  have hsp := hRR
  refine lv_aload_n hx hb eX3_startsIn_0 rfl (lv_at hl 0 rfl) ?_
  refine lv_iconst (v := 0) hx hb eX3_startsIn_1 (by decide) ?_
  refine va_put (D := (dC, dI)) (ci := 3) (v := .int 0) (ty := .boolean) (C := RX3) (T := TX3) (N := 5) hx hb hts hiX3 tyX3 tyX3_ok nmX3 hown hK hP hD hS 0 rfl rfl 0 (by decide) v_1 (fun _ h9 => h9) rfl (by decide +kernel) rfl rfl (Nat.le_of_ble_eq_true rfl) eX3_startsIn_2 (fun H locs hP hD hS => ?_)
  have hP : va_P (dC, dI) vwCl (pa__w py 0 (nI si) ti tm bh k_ftm ftm k_fbh fbh au (nI nc) (nI np) (nI ne) (nI st0) q4 q5 q6 q7 q8 q9 q10 q11 q12 q13 q14 q15 q16 k_f4 f4 k_f5 (bN 7 q_f5) k_f6 (bN 7 q_f6) k_f7 f7 k_f8 (bN 4 q_f8) k_f9 (bN 2 q_f9) k_f10 f10 k_f11 f11 k_f12 f12 k_f13 f13 k_f14 f14 k_f15 f15 k_f16 f16) H := hP
  have hD : va_D A (pa__w py 0 (nI si) ti tm bh k_ftm ftm k_fbh fbh au (nI nc) (nI np) (nI ne) (nI st0) q4 q5 q6 q7 q8 q9 q10 q11 q12 q13 q14 q15 q16 k_f4 f4 k_f5 (bN 7 q_f5) k_f6 (bN 7 q_f6) k_f7 f7 k_f8 (bN 4 q_f8) k_f9 (bN 2 q_f9) k_f10 f10 k_f11 f11 k_f12 f12 k_f13 f13 k_f14 f14 k_f15 f15 k_f16 f16) := hD
  refine lv_aload_n hx hb eX3_startsIn_5 rfl (lv_at hl 1 rfl) ?_
  refine va_get (D := (dC, dI)) (ci := 0) (v := .int (nI np)) (C := RX0) (T := TX0) (N := 17) hx hb hts hiX0 hown hK hP 3 rfl rfl 1 (by decide) v_2 (fun _ h9 => h9) rfl eX3_startsIn_6 ?_
  refine lv_if_ne (tgt := 14) hx hb eX3_startsIn_9 (by decide) (fun c_1 => ?_) (fun c_1 => ?_)
  · have c_1 : ¬ np = 0 := fun z => c_1 ((nI_eq (a := np) (b := 0) (Nat.lt_of_le_of_lt hnp (Nat.le_of_ble_eq_true rfl)) (Nat.le_of_ble_eq_true rfl)).mpr z)
    have hsp := hsp.trans (if_neg c_1)
    refine lv_aload_n hx hb eX3_startsIn_14 rfl (lv_at hl 0 rfl) ?_
    refine lv_aload_n hx hb eX3_startsIn_15 rfl (lv_at hl 1 rfl) ?_
    refine va_get (D := (dC, dI)) (ci := 0) (v := .int (nI st0)) (C := RX0) (T := TX0) (N := 17) hx hb hts hiX0 hown hK hP 3 rfl rfl 3 (by decide) v_3 (fun _ h9 => h9) rfl eX3_startsIn_16 ?_
    refine va_put (D := (dC, dI)) (ci := 3) (v := .int (nI st0)) (ty := .int) (C := RX3) (T := TX3) (N := 5) hx hb hts hiX3 tyX3 tyX3_ok nmX3 hown hK hP hD hS 0 rfl rfl 1 (by decide) v_4 (fun _ h9 => h9) rfl (by decide +kernel) rfl rfl (Nat.le_of_ble_eq_true rfl) eX3_startsIn_19 (fun H locs hP hD hS => ?_)
    have hP : va_P (dC, dI) vwCl (pa__w py 0 (nI st0) ti tm bh k_ftm ftm k_fbh fbh au (nI nc) (nI np) (nI ne) (nI st0) q4 q5 q6 q7 q8 q9 q10 q11 q12 q13 q14 q15 q16 k_f4 f4 k_f5 (bN 7 q_f5) k_f6 (bN 7 q_f6) k_f7 f7 k_f8 (bN 4 q_f8) k_f9 (bN 2 q_f9) k_f10 f10 k_f11 f11 k_f12 f12 k_f13 f13 k_f14 f14 k_f15 f15 k_f16 f16) H := hP
    have hD : va_D A (pa__w py 0 (nI st0) ti tm bh k_ftm ftm k_fbh fbh au (nI nc) (nI np) (nI ne) (nI st0) q4 q5 q6 q7 q8 q9 q10 q11 q12 q13 q14 q15 q16 k_f4 f4 k_f5 (bN 7 q_f5) k_f6 (bN 7 q_f6) k_f7 f7 k_f8 (bN 4 q_f8) k_f9 (bN 2 q_f9) k_f10 f10 k_f11 f11 k_f12 f12 k_f13 f13 k_f14 f14 k_f15 f15 k_f16 f16) := hD
    refine lv_aload_n hx hb eX3_startsIn_22 rfl (lv_at hl 0 rfl) ?_
    refine lv_iconst (v := 0) hx hb eX3_startsIn_23 (by decide) ?_
    refine va_put (D := (dC, dI)) (ci := 3) (v := .int 0) (ty := .int) (C := RX3) (T := TX3) (N := 5) hx hb hts hiX3 tyX3 tyX3_ok nmX3 hown hK hP hD hS 0 rfl rfl 2 (by decide) v_5 (fun _ h9 => h9) rfl (by decide +kernel) rfl rfl (Nat.le_of_ble_eq_true rfl) eX3_startsIn_24 (fun H locs hP hD hS => ?_)
    have hP : va_P (dC, dI) vwCl (pa__w py 0 (nI st0) 0 tm bh k_ftm ftm k_fbh fbh au (nI nc) (nI np) (nI ne) (nI st0) q4 q5 q6 q7 q8 q9 q10 q11 q12 q13 q14 q15 q16 k_f4 f4 k_f5 (bN 7 q_f5) k_f6 (bN 7 q_f6) k_f7 f7 k_f8 (bN 4 q_f8) k_f9 (bN 2 q_f9) k_f10 f10 k_f11 f11 k_f12 f12 k_f13 f13 k_f14 f14 k_f15 f15 k_f16 f16) H := hP
    have hD : va_D A (pa__w py 0 (nI st0) 0 tm bh k_ftm ftm k_fbh fbh au (nI nc) (nI np) (nI ne) (nI st0) q4 q5 q6 q7 q8 q9 q10 q11 q12 q13 q14 q15 q16 k_f4 f4 k_f5 (bN 7 q_f5) k_f6 (bN 7 q_f6) k_f7 f7 k_f8 (bN 4 q_f8) k_f9 (bN 2 q_f9) k_f10 f10 k_f11 f11 k_f12 f12 k_f13 f13 k_f14 f14 k_f15 f15 k_f16 f16) := hD
    refine lv_iconst (v := 0) hx hb eX3_startsIn_27 (by decide) ?_
    refine lv_istore_n (lv' := [(2, .int 0), (0, .ref py), (1, .ref au)]) hx hb eX3_startsIn_28 rfl hl (by decide) rfl (fun ls hl => ?_)
    obtain ⟨lf_7, dlf_7, hlf_7, hsp⟩ := itr_ex hsp
    delta sp_E_3_startsIn_L1 at hlf_7
    refine pu_while (fun nn H locs ls => ∃ (g_4 : Nat → Int32) (g_5 : Nat), nn = 3 - g_5 ∧ g_5 ≤ 3 ∧ RR = itrv dlf_7 lf_7 (g_4, g_5) ∧ va_P (dC, dI) vwCl (pa__w py 0 (nI st0) 0 tm bh k_ftm g_4 k_fbh fbh au (nI nc) (nI np) (nI ne) (nI st0) q4 q5 q6 q7 q8 q9 q10 q11 q12 q13 q14 q15 q16 k_f4 f4 k_f5 (bN 7 q_f5) k_f6 (bN 7 q_f6) k_f7 f7 k_f8 (bN 4 q_f8) k_f9 (bN 2 q_f9) k_f10 f10 k_f11 f11 k_f12 f12 k_f13 f13 k_f14 f14 k_f15 f15 k_f16 f16) H ∧ va_D A (pa__w py 0 (nI st0) 0 tm bh k_ftm g_4 k_fbh fbh au (nI nc) (nI np) (nI ne) (nI st0) q4 q5 q6 q7 q8 q9 q10 q11 q12 q13 q14 q15 q16 k_f4 f4 k_f5 (bN 7 q_f5) k_f6 (bN 7 q_f6) k_f7 f7 k_f8 (bN 4 q_f8) k_f9 (bN 2 q_f9) k_f10 f10 k_f11 f11 k_f12 f12 k_f13 f13 k_f14 f14 k_f15 f15 k_f16 f16) ∧ va_S A s.heap H locs ∧ lv_has ls 3 [(0, .ref py), (1, .ref au), (2, .int (nI g_5))]) 29 ?_ _ _ _ _ ⟨ftm, 0, rfl, (Nat.le_of_ble_eq_true rfl), hsp, hP, hD, hS, lv_sub hl [1, 2, 0] rfl⟩
    rintro nn ih_6 H locs ls ⟨g_4, g_5, rfl, hg_5, he_9, hP, hD, hS, hl⟩
    obtain ⟨S_8, hsp, hin_10, hout_11⟩ := itr_step hlf_7 he_9
    refine lv_iload_n hx hb eX3_startsIn_29 rfl (lv_at hl 2 rfl) ?_
    refine lv_iconst (v := 3) hx hb eX3_startsIn_30 (by decide) ?_
    refine lv_icmp_ge (tgt := 47) hx hb eX3_startsIn_31 (by decide) (fun c_12 => ?_) (fun c_12 => ?_)
    · have c_12 : 3 ≤ g_5 := (nI_leI (a := 3) (b := g_5) (Nat.le_of_ble_eq_true rfl) (Nat.lt_of_le_of_lt hg_5 (Nat.le_of_ble_eq_true rfl))).mp c_12
      have hsp := hsp.trans (if_pos c_12)
      have hsp := hout_11 _ hsp
      refine lv_aload_n hx hb eX3_startsIn_47 rfl (lv_at hl 0 rfl) ?_
      refine lv_aload_n hx hb eX3_startsIn_48 rfl (lv_at hl 1 rfl) ?_
      refine lv_aload_n hx hb eX3_startsIn_49 rfl (lv_at hl 0 rfl) ?_
      refine va_get (D := (dC, dI)) (ci := 3) (v := .int (nI st0)) (C := RX3) (T := TX3) (N := 5) hx hb hts hiX3 hown hK hP 0 rfl rfl 1 (by decide) v_4 (fun _ h9 => h9) rfl eX3_startsIn_50 ?_
      refine va_calli (va_runS (As := [.int (nI st0)]) (rest := [.ref au, .ref py]) ⟨hx, hb, hml, hown, hts⟩ (c_E_0_hostOfPlace l dC dI _ st0 hst0) (va_cwS 1 hts g_E_3_startsIn_E_0_hostOfPlace rfl rfl rfl (by decide +kernel) ⟨Nat.le_of_ble_eq_true rfl, Nat.le_of_ble_eq_true rfl⟩) ⟨pu_bl, pu_in (hP.sub [] rfl) (hK.sub [] rfl) (hD.sub [] (by decide) rfl)⟩ rfl rfl hl.1 rfl (lv_room (Nat.le_of_ble_eq_true rfl)) eX3_startsIn_53 ⟨Nat.le_of_ble_eq_true rfl, Nat.le_of_ble_eq_true rfl⟩) hS (fun q _ h => pu_fr hS hA q h) (pu_fr hS hA) (fun r_13 u t H1 locs ht hvm hw hB hz1 hk1 hS => ?_)
      have hP := pu_keep hP hk1
      clear hk1 hz1 ht hvm
      generalize H1 = H at hP hS ⊢
      obtain rfl : r_13 = nI (14 + st0) := hw
      refine lv_aload_n hx hb eX3_startsIn_56 rfl (lv_at hl 0 rfl) ?_
      refine va_get (D := (dC, dI)) (ci := 3) (v := .ref tm) (C := RX3) (T := TX3) (N := 5) hx hb hts hiX3 hown hK hP 0 rfl rfl 3 (by decide) v_6 (fun _ h9 => h9) rfl eX3_startsIn_57 ?_
      have hPc : va_P (dC, dI) vwCl (at__w au (nI nc) (nI np) (nI ne) (nI st0) q4 q5 q6 q7 q8 q9 q10 q11 q12 q13 q14 q15 q16 k_f4 f4 k_f5 (bN 7 q_f5) k_f6 (bN 7 q_f6) k_f7 f7 k_f8 (bN 4 q_f8) k_f9 (bN 2 q_f9) k_f10 f10 k_f11 f11 k_f12 f12 k_f13 f13 k_f14 f14 k_f15 f15 k_f16 f16 tm k_ftm g_4) _ := hP.sub [3, 4, 5, 6, 7, 8, 9, 10, 11, 12, 13, 14, 15, 16, 1] rfl
      have hDc := hD.sub (ws' := (at__w au (nI nc) (nI np) (nI ne) (nI st0) q4 q5 q6 q7 q8 q9 q10 q11 q12 q13 q14 q15 q16 k_f4 f4 k_f5 (bN 7 q_f5) k_f6 (bN 7 q_f6) k_f7 f7 k_f8 (bN 4 q_f8) k_f9 (bN 2 q_f9) k_f10 f10 k_f11 f11 k_f12 f12 k_f13 f13 k_f14 f14 k_f15 f15 k_f16 f16 tm k_ftm g_4)) [3, 4, 5, 6, 7, 8, 9, 10, 11, 12, 13, 14, 15, 16, 1] (by decide) rfl
      have hKc : va_K (dC, dI) vwCl (at__t k_f4 k_f5 k_f6 k_f7 k_f8 k_f9 k_f10 k_f11 k_f12 k_f13 k_f14 k_f15 k_f16 k_ftm) s := hK.sub [2, 3, 4, 5, 6, 7, 8, 9, 10, 11, 12, 13, 14, 0] rfl
      refine va_calli (va_runV (As := [.int (nI (14 + st0)), .ref tm]) (rest := [.ref py]) ⟨hx, hb, hml, hown, hts⟩ (c_E_0_holdsAt l dC dI _ au nc np ne (nI st0) q4 q5 q6 q7 q8 q9 q10 q11 q12 q13 q14 q15 q16 k_f4 f4 k_f5 q_f5 k_f6 q_f6 k_f7 f7 k_f8 q_f8 k_f9 q_f9 k_f10 f10 k_f11 f11 k_f12 f12 k_f13 f13 k_f14 f14 k_f15 f15 k_f16 f16 tm k_ftm g_4 (14 + st0) hnc hnp hne (Or.inr ⟨st0, hst0, rfl⟩) (by omega)) (cwV 2 hts g_E_3_startsIn_E_0_holdsAt rfl rfl rfl (by decide +kernel) ⟨Nat.le_of_ble_eq_true rfl, Nat.le_of_ble_eq_true rfl⟩) ⟨pu_bl, va_recv hK hP (ci := 0) (q0 := 3) rfl rfl, pu_in hPc hKc hDc⟩ rfl rfl hl.1 rfl (lv_room (Nat.le_of_ble_eq_true rfl)) eX3_startsIn_60 ⟨Nat.le_of_ble_eq_true rfl, Nat.le_of_ble_eq_true rfl⟩) hS (fun q _ h => pu_fr hS hA q h) (pu_fr hS hA) (fun r_14 u t H1 locs ht hvm hw hB hz1 hk1 hS => ?_)
      have hP := pu_keep hP hk1
      clear hk1 hz1 ht hvm
      generalize H1 = H at hP hS ⊢
      obtain ⟨u_15, hu_15, rfl, iu_15⟩ := hw
      have hsp := hsp.trans (slet_eq iu_15)
      refine va_put (D := (dC, dI)) (ci := 3) (v := .int (nI u_15)) (ty := .boolean) (C := RX3) (T := TX3) (N := 5) hx hb hts hiX3 tyX3 tyX3_ok nmX3 hown hK hP hD hS 0 rfl rfl 0 (by decide) v_1 (fun _ h9 => h9) rfl (by decide +kernel) (pu_nz (pu_b1 (n := u_15) (by omega))) (pu_fz (pu_b1 (n := u_15) (by omega))) (Nat.le_of_ble_eq_true rfl) eX3_startsIn_63 (fun H locs hP hD hS => ?_)
      have hP : va_P (dC, dI) vwCl (pa__w py (nI u_15) (nI st0) 0 tm bh k_ftm g_4 k_fbh fbh au (nI nc) (nI np) (nI ne) (nI st0) q4 q5 q6 q7 q8 q9 q10 q11 q12 q13 q14 q15 q16 k_f4 f4 k_f5 (bN 7 q_f5) k_f6 (bN 7 q_f6) k_f7 f7 k_f8 (bN 4 q_f8) k_f9 (bN 2 q_f9) k_f10 f10 k_f11 f11 k_f12 f12 k_f13 f13 k_f14 f14 k_f15 f15 k_f16 f16) H := hP
      have hD : va_D A (pa__w py (nI u_15) (nI st0) 0 tm bh k_ftm g_4 k_fbh fbh au (nI nc) (nI np) (nI ne) (nI st0) q4 q5 q6 q7 q8 q9 q10 q11 q12 q13 q14 q15 q16 k_f4 f4 k_f5 (bN 7 q_f5) k_f6 (bN 7 q_f6) k_f7 f7 k_f8 (bN 4 q_f8) k_f9 (bN 2 q_f9) k_f10 f10 k_f11 f11 k_f12 f12 k_f13 f13 k_f14 f14 k_f15 f15 k_f16 f16) := hD
      refine lv_aload_n hx hb eX3_startsIn_66 rfl (lv_at hl 0 rfl) ?_
      refine va_get (D := (dC, dI)) (ci := 3) (v := .int (nI u_15)) (C := RX3) (T := TX3) (N := 5) hx hb hts hiX3 hown hK hP 0 rfl rfl 0 (by decide) v_1 (fun _ h9 => h9) rfl eX3_startsIn_67 ?_
      exact W.zret (v := (nI u_15)) (ty := .boolean) hx hb hr (pu_nz (pu_b1 (n := u_15) (by omega))) (fun t ht hW => ⟨⟨(nI u_15), (), rfl, ⟨u_15, hu_15, rfl, (congrArg Prod.fst (hsp.symm.trans hRR))⟩, ⟨g_4, u_15, st0, 0, ⟨by rw [ht]; exact hP, va_K.moved hW.alike hK, hD⟩, hu_15, hst0, (congrArg Prod.snd (hsp.symm.trans hRR))⟩⟩, hS.F ht⟩) hS.2.2 eX3_startsIn_70
    · have c_12 : ¬ 3 ≤ g_5 := fun z => c_12 ((nI_leI (a := 3) (b := g_5) (Nat.le_of_ble_eq_true rfl) (Nat.lt_of_le_of_lt hg_5 (Nat.le_of_ble_eq_true rfl))).mpr z)
      have hsp := hsp.trans (if_neg c_12)
      refine lv_aload_n hx hb eX3_startsIn_34 rfl (lv_at hl 0 rfl) ?_
      refine va_get (D := (dC, dI)) (ci := 3) (v := .ref tm) (C := RX3) (T := TX3) (N := 5) hx hb hts hiX3 hown hK hP 0 rfl rfl 3 (by decide) v_6 (fun _ h9 => h9) rfl eX3_startsIn_35 ?_
      refine lv_iload_n hx hb eX3_startsIn_38 rfl (lv_at hl 2 rfl) ?_
      refine lv_iconst (v := 0) hx hb eX3_startsIn_39 (by decide) ?_
      refine va_iast hx hb hK hP hD hS 1 0 rfl rfl (vp_in_nI (n := g_5) (by omega) (Nat.le_of_ble_eq_true rfl)) eX3_startsIn_40 (fun H locs hP hD hS => ?_)
      obtain ⟨f_16, ef_16, xf_16⟩ := up_x g_4 (n := g_5) 0 (Nat.lt_of_le_of_lt hg_5 (Nat.le_of_ble_eq_true rfl))
      have hP : va_P (dC, dI) vwCl (pa__w py 0 (nI st0) 0 tm bh k_ftm f_16 k_fbh fbh au (nI nc) (nI np) (nI ne) (nI st0) q4 q5 q6 q7 q8 q9 q10 q11 q12 q13 q14 q15 q16 k_f4 f4 k_f5 (bN 7 q_f5) k_f6 (bN 7 q_f6) k_f7 f7 k_f8 (bN 4 q_f8) k_f9 (bN 2 q_f9) k_f10 f10 k_f11 f11 k_f12 f12 k_f13 f13 k_f14 f14 k_f15 f15 k_f16 f16) H := by rw [← ef_16]; exact hP
      have hD : va_D A (pa__w py 0 (nI st0) 0 tm bh k_ftm f_16 k_fbh fbh au (nI nc) (nI np) (nI ne) (nI st0) q4 q5 q6 q7 q8 q9 q10 q11 q12 q13 q14 q15 q16 k_f4 f4 k_f5 (bN 7 q_f5) k_f6 (bN 7 q_f6) k_f7 f7 k_f8 (bN 4 q_f8) k_f9 (bN 2 q_f9) k_f10 f10 k_f11 f11 k_f12 f12 k_f13 f13 k_f14 f14 k_f15 f15 k_f16 f16) := by rw [← ef_16]; exact hD
      have hsp := hsp.trans (slet_eq xf_16)
      refine lv_iinc (v := (nI (g_5 + 1))) (lv' := [(2, .int (nI (g_5 + 1))), (0, .ref py), (1, .ref au)]) hx hb eX3_startsIn_41 hl (k := 2) rfl (nI_1 _) (by decide) rfl (fun ls hl => ?_)
      refine lv_goto (tgt := 29) hx hb eX3_startsIn_44 (by decide) ?_
      exact ih_6 (3 - (g_5 + 1)) (by omega) _ _ _ ⟨f_16, (g_5 + 1), rfl, (by omega), hin_10 _ hsp, hP, hD, hS, lv_sub hl [1, 2, 0] rfl⟩
  · have c_1 : np = 0 := (nI_eq (a := np) (b := 0) (Nat.lt_of_le_of_lt hnp (Nat.le_of_ble_eq_true rfl)) (Nat.le_of_ble_eq_true rfl)).mp c_1
    have hsp := hsp.trans (if_pos c_1)
    refine lv_iconst (v := 0) hx hb eX3_startsIn_12 (by decide) ?_
    exact W.zret (v := 0) (ty := .boolean) hx hb hr (rfl) (fun t ht hW => ⟨⟨0, (), rfl, ⟨0, (Nat.le_of_ble_eq_true rfl), rfl, (congrArg Prod.fst (hsp.symm.trans hRR))⟩, ⟨ftm, 0, si, ti, ⟨by rw [ht]; exact hP, va_K.moved hW.alike hK, hD⟩, (Nat.le_of_ble_eq_true rfl), hsi, (congrArg Prod.snd (hsp.symm.trans hRR))⟩⟩, hS.F ht⟩) hS.2.2 eX3_startsIn_13
theorem eX3_longestWait_0 : decode cX3_longestWait 0 = .ok (.aload_n 1, 1) := by decide +kernel
theorem eX3_longestWait_1 : decode cX3_longestWait 1 = .ok (.getfield 45, 3) := by decide +kernel
theorem eX3_longestWait_4 : decode cX3_longestWait 4 = .ok (.aload_n 0, 1) := by decide +kernel
theorem eX3_longestWait_5 : decode cX3_longestWait 5 = .ok (.getfield 31, 3) := by decide +kernel
theorem eX3_longestWait_8 : decode cX3_longestWait 8 = .ok (.baload, 1) := by decide +kernel
theorem eX3_longestWait_9 : decode cX3_longestWait 9 = .ok (.ifCond .eq 5, 3) := by decide +kernel
theorem eX3_longestWait_12 : decode cX3_longestWait 12 = .ok (.iconst 0, 1) := by decide +kernel
theorem eX3_longestWait_13 : decode cX3_longestWait 13 = .ok (.ireturn, 1) := by decide +kernel
theorem eX3_longestWait_14 : decode cX3_longestWait 14 = .ok (.ldc 51, 2) := by decide +kernel
theorem eX3_longestWait_16 : decode cX3_longestWait 16 = .ok (.istore_n 2, 1) := by decide +kernel
theorem eX3_longestWait_17 : decode cX3_longestWait 17 = .ok (.aload_n 0, 1) := by decide +kernel
theorem eX3_longestWait_18 : decode cX3_longestWait 18 = .ok (.getfield 31, 3) := by decide +kernel
theorem eX3_longestWait_21 : decode cX3_longestWait 21 = .ok (.invokestatic 37, 3) := by decide +kernel
theorem eX3_longestWait_24 : decode cX3_longestWait 24 = .ok (.istore_n 3, 1) := by decide +kernel
theorem eX3_longestWait_25 : decode cX3_longestWait 25 = .ok (.iconst 0, 1) := by decide +kernel
theorem eX3_longestWait_26 : decode cX3_longestWait 26 = .ok (.istore 4, 2) := by decide +kernel
theorem eX3_longestWait_28 : decode cX3_longestWait 28 = .ok (.iload 4, 2) := by decide +kernel
theorem eX3_longestWait_30 : decode cX3_longestWait 30 = .ok (.aload_n 1, 1) := by decide +kernel
theorem eX3_longestWait_31 : decode cX3_longestWait 31 = .ok (.getfield 52, 3) := by decide +kernel
theorem eX3_longestWait_34 : decode cX3_longestWait 34 = .ok (.iload_n 3, 1) := by decide +kernel
theorem eX3_longestWait_35 : decode cX3_longestWait 35 = .ok (.iaload, 1) := by decide +kernel
theorem eX3_longestWait_36 : decode cX3_longestWait 36 = .ok (.if_icmp .ge 45, 3) := by decide +kernel
theorem eX3_longestWait_39 : decode cX3_longestWait 39 = .ok (.iload_n 3, 1) := by decide +kernel
theorem eX3_longestWait_40 : decode cX3_longestWait 40 = .ok (.iload 4, 2) := by decide +kernel
theorem eX3_longestWait_42 : decode cX3_longestWait 42 = .ok (.invokestatic 55, 3) := by decide +kernel
theorem eX3_longestWait_45 : decode cX3_longestWait 45 = .ok (.istore 5, 2) := by decide +kernel
theorem eX3_longestWait_47 : decode cX3_longestWait 47 = .ok (.iload_n 2, 1) := by decide +kernel
theorem eX3_longestWait_48 : decode cX3_longestWait 48 = .ok (.aload_n 1, 1) := by decide +kernel
theorem eX3_longestWait_49 : decode cX3_longestWait 49 = .ok (.getfield 59, 3) := by decide +kernel
theorem eX3_longestWait_52 : decode cX3_longestWait 52 = .ok (.iload 5, 2) := by decide +kernel
theorem eX3_longestWait_54 : decode cX3_longestWait 54 = .ok (.iaload, 1) := by decide +kernel
theorem eX3_longestWait_55 : decode cX3_longestWait 55 = .ok (.invokestatic 62, 3) := by decide +kernel
theorem eX3_longestWait_58 : decode cX3_longestWait 58 = .ok (.aload_n 0, 1) := by decide +kernel
theorem eX3_longestWait_59 : decode cX3_longestWait 59 = .ok (.getfield 9, 3) := by decide +kernel
theorem eX3_longestWait_62 : decode cX3_longestWait 62 = .ok (.aload_n 1, 1) := by decide +kernel
theorem eX3_longestWait_63 : decode cX3_longestWait 63 = .ok (.getfield 67, 3) := by decide +kernel
theorem eX3_longestWait_66 : decode cX3_longestWait 66 = .ok (.iload 5, 2) := by decide +kernel
theorem eX3_longestWait_68 : decode cX3_longestWait 68 = .ok (.iaload, 1) := by decide +kernel
theorem eX3_longestWait_69 : decode cX3_longestWait 69 = .ok (.iaload, 1) := by decide +kernel
theorem eX3_longestWait_70 : decode cX3_longestWait 70 = .ok (.isub, 1) := by decide +kernel
theorem eX3_longestWait_71 : decode cX3_longestWait 71 = .ok (.invokestatic 70, 3) := by decide +kernel
theorem eX3_longestWait_74 : decode cX3_longestWait 74 = .ok (.istore_n 2, 1) := by decide +kernel
theorem eX3_longestWait_75 : decode cX3_longestWait 75 = .ok (.iinc 4 1, 3) := by decide +kernel
theorem eX3_longestWait_78 : decode cX3_longestWait 78 = .ok (.goto (-50), 3) := by decide +kernel
theorem eX3_longestWait_81 : decode cX3_longestWait 81 = .ok (.iload_n 2, 1) := by decide +kernel
theorem eX3_longestWait_82 : decode cX3_longestWait 82 = .ok (.ireturn, 1) := by decide +kernel
abbrev vs_E_3_longestWait : List Cond := .code yX3_longestWait cX3_longestWait 6 (some .int) :: CM
theorem g_E_3_longestWait_E_0_hostOfPlace : GoodIn vs_E_3_longestWait (va_wsS RX3 37 yX0_hostOfPlace vs_E_0_hostOfPlace) := cm_gS cm_177 cm_55 cm_19 cm_0
theorem g_E_3_longestWait_E_0_slot : GoodIn vs_E_3_longestWait (va_wsS RX3 55 yX0_slot vs_E_0_slot) := cm_gS cm_190 cm_18 cm_19 cm_1
theorem g_E_3_longestWait_E_7_ticks : GoodIn vs_E_3_longestWait (va_wsS RX3 62 yX7_ticks vs_E_7_ticks) := cm_gS cm_191 cm_68 cm_45 cm_69
noncomputable def sp_E_3_longestWait_L1 (si : Nat) (ftm : Nat → Int32) (q_f8 : Nat → Nat) (q_f9 : Nat → Nat) (f12 : Nat → Int32) : (Int32 × Nat) → (Int32 × Nat) ⊕ (Int32) := fun (g_6, g_7) => (slet (min (q_f8 (14 + si)) 4) (fun u_15 => (if u_15 ≤ g_7 then (Sum.inr g_6) else (slet (f12 ((14 + si) * 4 + g_7)) (fun y_18 => (slet (sp_E_7_ticks y_18) (fun r_19 => (slet (min (q_f9 ((14 + si) * 4 + g_7)) 2) (fun u_21 => (slet (ftm u_21) (fun y_22 => (slet ((r_19 : Int32) - y_22) (fun y_23 => (slet (if (y_23 : Int32) < g_6 then y_23 else g_6) (fun y_24 => (Sum.inl (y_24, (g_7 + 1))))))))))))))))))
noncomputable def sp_E_3_longestWait (si : Nat) (ftm : Nat → Int32) (f4 : Nat → Int32) (q_f8 : Nat → Nat) (q_f9 : Nat → Nat) (f12 : Nat → Int32) : Int32 := (slet (f4 si) (fun y_1 => (if (y_1 : Int32) = 0 then (itrv (α := Int32 × Nat) (β := (Int32)) default (sp_E_3_longestWait_L1 si ftm q_f8 q_f9 f12) (2147483647, 0)) else 0)))
set_option maxHeartbeats 4000000 in
set_option maxRecDepth 100000 in
theorem c_E_3_longestWait (l : Launch) (dC : Nat → ClassId) (dI : Nat → Nat → Nat) (sz : Nat) (py : Nat) (on : Nat) (si : Nat) (ti : Int32) (tm : Nat) (bh : Nat) (k_ftm : ClassId) (ftm : Nat → Int32) (k_fbh : ClassId) (fbh : Nat → Int32) (au : Nat) (nc : Nat) (np : Nat) (ne : Nat) (st0 : Int32) (q4 : Nat) (q5 : Nat) (q6 : Nat) (q7 : Nat) (q8 : Nat) (q9 : Nat) (q10 : Nat) (q11 : Nat) (q12 : Nat) (q13 : Nat) (q14 : Nat) (q15 : Nat) (q16 : Nat) (k_f4 : ClassId) (f4 : Nat → Int32) (k_f5 : ClassId) (q_f5 : Nat → Nat) (k_f6 : ClassId) (q_f6 : Nat → Nat) (k_f7 : ClassId) (f7 : Nat → Int32) (k_f8 : ClassId) (q_f8 : Nat → Nat) (k_f9 : ClassId) (q_f9 : Nat → Nat) (k_f10 : ClassId) (f10 : Nat → Int32) (k_f11 : ClassId) (f11 : Nat → Int32) (k_f12 : ClassId) (f12 : Nat → Int32) (k_f13 : ClassId) (f13 : Nat → Int32) (k_f14 : ClassId) (f14 : Nat → Int32) (k_f15 : ClassId) (f15 : Nat → Int32) (k_f16 : ClassId) (f16 : Nat → Int32) (hon : on ≤ 1) (hsi : si ≤ 7) (hnc : nc ≤ 3) (hnp : np ≤ 8) (hne : ne ≤ 14) (hst0 : pm1 7 st0) : Met l yX3_longestWait vs_E_3_longestWait ({ frames := 1, cells := 0, slots := 0, locals := 21 }) (va_Pc [.ref py, .ref au] (pu_B (dC, dI) (pa__w py (nI on) (nI si) ti tm bh k_ftm ftm k_fbh fbh au (nI nc) (nI np) (nI ne) st0 q4 q5 q6 q7 q8 q9 q10 q11 q12 q13 q14 q15 q16 k_f4 f4 k_f5 (bN 7 q_f5) k_f6 (bN 7 q_f6) k_f7 f7 k_f8 (bN 4 q_f8) k_f9 (bN 2 q_f9) k_f10 f10 k_f11 f11 k_f12 f12 k_f13 f13 k_f14 f14 k_f15 f15 k_f16 f16) (pa__t k_ftm k_fbh k_f4 k_f5 k_f6 k_f7 k_f8 k_f9 k_f10 k_f11 k_f12 k_f13 k_f14 k_f15 k_f16) sz)) (va_Qi (fun (r : Int32) (_ : Unit) => r = (sp_E_3_longestWait si ftm f4 q_f8 q_f9 f12)) (fun _ _ => True) (va_A [] sz)) 0 0 (va_A [] sz) := by
  refine Met.ofW (cc := cX3_longestWait) (maxL := 6) (ret := (some .int)) (by decide) rfl ?_
  intro p e s m args below meth c s₁ B hml hv
  obtain ⟨rfl, rfl, hP, hK, hD0⟩ := hv
  have hx := B.exec
  have hb := B.bytes
  have hr := B.returns
  have hts := atoms_spec (ws := vs_E_3_longestWait) B.pre
  have v_1 := hts (.fieldLink RX3 45 "ClockReach$Automaton" "hurried" "[Z") (List.mem_cons_of_mem _ cm_182)
  have v_2 := hts (.fieldLink RX3 31 "ClockReach$Play" "site" "I") (List.mem_cons_of_mem _ cm_174)
  have v_3 := hts (.constant RX3 51 (2147483647)) (List.mem_cons_of_mem _ cm_183)
  have v_8 := hts (.fieldLink RX3 52 "ClockReach$Automaton" "counts" "[I") (List.mem_cons_of_mem _ cm_184)
  have v_12 := hts (.fieldLink RX3 59 "ClockReach$Automaton" "ceilings" "[I") (List.mem_cons_of_mem _ cm_185)
  have v_17 := hts (.fieldLink RX3 9 "ClockReach$Play" "times" "[I") (List.mem_cons_of_mem _ cm_176)
  have v_18 := hts (.fieldLink RX3 67 "ClockReach$Automaton" "conditionClocks" "[I") (List.mem_cons_of_mem _ cm_186)
  have v_19 := hts (.methodLink RX3 70 Lib.Math.min.name) (List.mem_cons_of_mem _ cm_187)
  have v_20 := hts (.static Lib.Math.min.name) (List.mem_cons_of_mem _ cm_188)
  have v_21 := hts (.initialized "java/lang/Math") (List.mem_cons_of_mem _ cm_37)
  have v_22 := hts (.code Lib.Math.min.name Lib.Math.min.code 2 (some .int)) (List.mem_cons_of_mem _ cm_189)
  have hown : s.vm.findClass RX3 = some m.cls := findClass_of_methodNamed B.named
  have hlocks := B.notSynchronized
  have hiX0 : ∀ w ∈ wsX00, w ∈ vs_E_3_longestWait := fun _ h => List.mem_cons_of_mem _ (cm_X0 h)
  have hiX3 : ∀ w ∈ wsX30, w ∈ vs_E_3_longestWait := fun _ h => List.mem_cons_of_mem _ (cm_X3 h)
  have hD := hD0
  have hA : ∀ q : Nat, s.heap.size ≤ q → va_A [] s.heap.size q := fun _ h => Or.inr h
  have hS : va_S (va_A [] s.heap.size) s.heap s.heap [] := va_S.rf
  have hl := lv_entry ([.ref py, .ref au]) (n := 6) (Nat.le_of_ble_eq_true rfl)
  rw [lg_entry_eq]
  generalize (lg_sl ([.ref py, .ref au]) ++ List.replicate (6 - (lg_sl ([.ref py, .ref au])).length) Slot.unset).toArray = ls at hl ⊢
  have hl : lv_has ls 6 [(0, .ref py), (1, .ref au)] := hl
  obtain ⟨RR, hRR⟩ : ∃ x, x = (sp_E_3_longestWait si ftm f4 q_f8 q_f9 f12) := ⟨_, rfl⟩
  have hsp := hRR
  refine lv_aload_n hx hb eX3_longestWait_0 rfl (lv_at hl 1 rfl) ?_
  refine va_get (D := (dC, dI)) (ci := 0) (v := .ref q4) (C := RX0) (T := TX0) (N := 17) hx hb hts hiX0 hown hK hP 3 rfl rfl 4 (by decide) v_1 (fun _ h9 => h9) rfl eX3_longestWait_1 ?_
  refine lv_aload_n hx hb eX3_longestWait_4 rfl (lv_at hl 0 rfl) ?_
  refine va_get (D := (dC, dI)) (ci := 3) (v := .int (nI si)) (C := RX3) (T := TX3) (N := 5) hx hb hts hiX3 hown hK hP 0 rfl rfl 1 (by decide) v_2 (fun _ h9 => h9) rfl eX3_longestWait_5 ?_
  refine va_zald hx hb hK hP 4 2 rfl rfl (vp_in_nI (n := si) (Nat.lt_of_le_of_lt hsi (Nat.le_of_ble_eq_true rfl)) (Nat.le_of_ble_eq_true rfl)) eX3_longestWait_8 ?_
  refine lv_topi (fun y_1 ey_1 => ?_)
  have ey_1 : y_1 = f4 si := ey_1.trans (congrArg f4 (nI_clamp (n := si) (Nat.lt_of_le_of_lt hsi (Nat.le_of_ble_eq_true rfl))))
  have hsp := hsp.trans (slet_eq ey_1)
  refine lv_if_eq (tgt := 14) hx hb eX3_longestWait_9 (by decide) (fun c_2 => ?_) (fun c_2 => ?_)
  · have hcc_2 := c_2
    have hsp := hsp.trans (if_pos c_2)
    refine lv_ldc hx hb hown v_3 eX3_longestWait_14 ?_
    refine lv_istore_n (lv' := [(2, .int 2147483647), (0, .ref py), (1, .ref au)]) hx hb eX3_longestWait_16 rfl hl (by decide) rfl (fun ls hl => ?_)
    refine lv_aload_n hx hb eX3_longestWait_17 rfl (lv_at hl 1 rfl) ?_
    refine va_get (D := (dC, dI)) (ci := 3) (v := .int (nI si)) (C := RX3) (T := TX3) (N := 5) hx hb hts hiX3 hown hK hP 0 rfl rfl 1 (by decide) v_2 (fun _ h9 => h9) rfl eX3_longestWait_18 ?_
    refine va_calli (va_runS (As := [.int (nI si)]) (rest := []) ⟨hx, hb, hml, hown, hts⟩ (c_E_0_hostOfPlace l dC dI _ si hsi) (va_cwS 1 hts g_E_3_longestWait_E_0_hostOfPlace rfl rfl rfl (by decide +kernel) ⟨Nat.le_of_ble_eq_true rfl, Nat.le_of_ble_eq_true rfl⟩) ⟨pu_bl, pu_in (hP.sub [] rfl) (hK.sub [] rfl) (hD.sub [] (by decide) rfl)⟩ rfl rfl hl.1 rfl (lv_room (Nat.le_of_ble_eq_true rfl)) eX3_longestWait_21 ⟨Nat.le_of_ble_eq_true rfl, Nat.le_of_ble_eq_true rfl⟩) hS (fun q _ h => pu_fr hS hA q h) (pu_fr hS hA) (fun r_3 u t H1 locs ht hvm hw hB hz1 hk1 hS => ?_)
    have hP := pu_keep hP hk1
    clear hk1 hz1 ht hvm
    generalize H1 = H at hP hS ⊢
    obtain rfl : r_3 = nI (14 + si) := hw
    refine lv_istore_n (lv' := [(3, .int (nI (14 + si))), (2, .int 2147483647), (0, .ref py), (1, .ref au)]) hx hb eX3_longestWait_24 rfl hl (by decide) rfl (fun ls hl => ?_)
    refine lv_iconst (v := 0) hx hb eX3_longestWait_25 (by decide) ?_
    refine lv_istore (lv' := [(4, .int 0), (3, .int (nI (14 + si))), (2, .int 2147483647), (0, .ref py), (1, .ref au)]) hx hb eX3_longestWait_26 hl (by decide) rfl (fun ls hl => ?_)
    obtain ⟨lf_9, dlf_9, hlf_9, hsp⟩ := itr_ex hsp
    delta sp_E_3_longestWait_L1 at hlf_9
    refine pu_while (fun nn H locs ls => ∃ (g_6 : Int32) (g_7 : Nat), nn = 4 - g_7 ∧ g_7 ≤ 4 ∧ RR = itrv dlf_9 lf_9 (g_6, g_7) ∧ va_P (dC, dI) vwCl (pa__w py (nI on) (nI si) ti tm bh k_ftm ftm k_fbh fbh au (nI nc) (nI np) (nI ne) st0 q4 q5 q6 q7 q8 q9 q10 q11 q12 q13 q14 q15 q16 k_f4 f4 k_f5 (bN 7 q_f5) k_f6 (bN 7 q_f6) k_f7 f7 k_f8 (bN 4 q_f8) k_f9 (bN 2 q_f9) k_f10 f10 k_f11 f11 k_f12 f12 k_f13 f13 k_f14 f14 k_f15 f15 k_f16 f16) H ∧ va_D (fun _ => True) (pa__w py (nI on) (nI si) ti tm bh k_ftm ftm k_fbh fbh au (nI nc) (nI np) (nI ne) st0 q4 q5 q6 q7 q8 q9 q10 q11 q12 q13 q14 q15 q16 k_f4 f4 k_f5 (bN 7 q_f5) k_f6 (bN 7 q_f6) k_f7 f7 k_f8 (bN 4 q_f8) k_f9 (bN 2 q_f9) k_f10 f10 k_f11 f11 k_f12 f12 k_f13 f13 k_f14 f14 k_f15 f15 k_f16 f16) ∧ va_S (va_A [] s.heap.size) s.heap H locs ∧ lv_has ls 6 [(0, .ref py), (1, .ref au), (2, .int g_6), (3, .int (nI (14 + si))), (4, .int (nI g_7))]) 28 ?_ _ _ _ _ ⟨2147483647, 0, rfl, (Nat.le_of_ble_eq_true rfl), hsp, hP, hD, hS, lv_sub hl [3, 4, 2, 1, 0] rfl⟩
    rintro nn ih_8 H locs ls ⟨g_6, g_7, rfl, hg_7, he_11, hP, hD, hS, hl⟩
    obtain ⟨S_10, hsp, hin_12, hout_13⟩ := itr_step hlf_9 he_11
    refine lv_iload hx hb eX3_longestWait_28 (lv_at hl 4 rfl) ?_
    refine lv_aload_n hx hb eX3_longestWait_30 rfl (lv_at hl 1 rfl) ?_
    refine va_get (D := (dC, dI)) (ci := 0) (v := .ref q8) (C := RX0) (T := TX0) (N := 17) hx hb hts hiX0 hown hK hP 3 rfl rfl 8 (by decide) v_8 (fun _ h9 => h9) rfl eX3_longestWait_31 ?_
    refine lv_iload_n hx hb eX3_longestWait_34 rfl (lv_at hl 3 rfl) ?_
    refine va_iald hx hb hK hP 8 6 rfl rfl (vp_in_nI (n := (14 + si)) (by omega) (Nat.le_of_ble_eq_true rfl)) eX3_longestWait_35 ?_
    refine lv_topi (fun y_14 ey_14 => ?_)
    obtain ⟨u_15, hu_15, qu_15, xu_15⟩ := bN_getx 4 q_f8 (n := (14 + si)) (by omega)
    obtain rfl : y_14 = nI u_15 := ey_14.trans qu_15
    have hsp := hsp.trans (slet_eq xu_15)
    refine lv_icmp_ge (tgt := 81) hx hb eX3_longestWait_36 (by decide) (fun c_16 => ?_) (fun c_16 => ?_)
    · have c_16 : u_15 ≤ g_7 := (nI_leI (a := u_15) (b := g_7) (Nat.lt_of_le_of_lt hu_15 (Nat.le_of_ble_eq_true rfl)) (Nat.lt_of_le_of_lt hg_7 (Nat.le_of_ble_eq_true rfl))).mp c_16
      have hsp := hsp.trans (if_pos c_16)
      have hsp := hout_13 _ hsp
      refine lv_iload_n hx hb eX3_longestWait_81 rfl (lv_at hl 2 rfl) ?_
      exact W.iret (v := g_6) hx hb hr (fun t ht hW => ⟨⟨g_6, (), rfl, (hsp.symm.trans hRR), trivial⟩, hS.F ht⟩) hS.2.2 eX3_longestWait_82
    · have c_16 : ¬ u_15 ≤ g_7 := fun z => c_16 ((nI_leI (a := u_15) (b := g_7) (Nat.lt_of_le_of_lt hu_15 (Nat.le_of_ble_eq_true rfl)) (Nat.lt_of_le_of_lt hg_7 (Nat.le_of_ble_eq_true rfl))).mpr z)
      have hsp := hsp.trans (if_neg c_16)
      refine lv_iload_n hx hb eX3_longestWait_39 rfl (lv_at hl 3 rfl) ?_
      refine lv_iload hx hb eX3_longestWait_40 (lv_at hl 4 rfl) ?_
      refine va_calli (va_runS (As := [.int (nI (14 + si)), .int (nI g_7)]) (rest := []) ⟨hx, hb, hml, hown, hts⟩ (c_E_0_slot l dC dI _ (14 + si) g_7 (by omega) hg_7) (va_cwS 2 hts g_E_3_longestWait_E_0_slot rfl rfl rfl (by decide +kernel) ⟨Nat.le_of_ble_eq_true rfl, Nat.le_of_ble_eq_true rfl⟩) ⟨pu_bl, pu_in (hP.sub [] rfl) (hK.sub [] rfl) (hD.sub [] (by decide) rfl)⟩ rfl rfl hl.1 rfl (lv_room (Nat.le_of_ble_eq_true rfl)) eX3_longestWait_42 ⟨Nat.le_of_ble_eq_true rfl, Nat.le_of_ble_eq_true rfl⟩) hS (fun q _ h => pu_fr hS hA q h) (pu_fr hS hA) (fun r_17 u t H1 locs ht hvm hw hB hz1 hk1 hS => ?_)
      have hP := pu_keep hP hk1
      clear hk1 hz1 ht hvm
      generalize H1 = H at hP hS ⊢
      obtain rfl : r_17 = nI ((14 + si) * 4 + g_7) := hw
      refine lv_istore (lv' := [(5, .int (nI ((14 + si) * 4 + g_7))), (0, .ref py), (1, .ref au), (2, .int g_6), (3, .int (nI (14 + si))), (4, .int (nI g_7))]) hx hb eX3_longestWait_45 hl (by decide) rfl (fun ls hl => ?_)
      refine lv_iload_n hx hb eX3_longestWait_47 rfl (lv_at hl 3 rfl) ?_
      refine lv_aload_n hx hb eX3_longestWait_48 rfl (lv_at hl 2 rfl) ?_
      refine va_get (D := (dC, dI)) (ci := 0) (v := .ref q12) (C := RX0) (T := TX0) (N := 17) hx hb hts hiX0 hown hK hP 3 rfl rfl 12 (by decide) v_12 (fun _ h9 => h9) rfl eX3_longestWait_49 ?_
      refine lv_iload hx hb eX3_longestWait_52 (lv_at hl 0 rfl) ?_
      refine va_iald hx hb hK hP 12 10 rfl rfl (vp_in_nI (n := ((14 + si) * 4 + g_7)) (by omega) (Nat.le_of_ble_eq_true rfl)) eX3_longestWait_54 ?_
      refine lv_topi (fun y_18 ey_18 => ?_)
      have ey_18 : y_18 = f12 ((14 + si) * 4 + g_7) := ey_18.trans (congrArg f12 (nI_clamp (n := ((14 + si) * 4 + g_7)) (by first | omega | exact Nat.lt_trans (zx16 (by omega) (by omega) (by omega)) (Nat.le_of_ble_eq_true rfl) | exact Nat.lt_trans (zy16 (by omega) (by omega)) (Nat.le_of_ble_eq_true rfl) | exact Nat.lt_trans (zx25 (by omega) (by omega) (by omega)) (Nat.le_of_ble_eq_true rfl) | exact Nat.lt_trans (zy25 (by omega) (by omega)) (Nat.le_of_ble_eq_true rfl))))
      have hsp := hsp.trans (slet_eq ey_18)
      refine va_calli (va_runS (As := [.int y_18]) (rest := [.int g_6]) ⟨hx, hb, hml, hown, hts⟩ (c_E_7_ticks l dC dI _ y_18) (va_cwS 1 hts g_E_3_longestWait_E_7_ticks rfl rfl rfl (by decide +kernel) ⟨Nat.le_of_ble_eq_true rfl, Nat.le_of_ble_eq_true rfl⟩) ⟨pu_bl, pu_in (hP.sub [] rfl) (hK.sub [] rfl) (hD.sub [] (by decide) rfl)⟩ rfl rfl hl.1 rfl (lv_room (Nat.le_of_ble_eq_true rfl)) eX3_longestWait_55 ⟨Nat.le_of_ble_eq_true rfl, Nat.le_of_ble_eq_true rfl⟩) hS (fun q _ h => pu_fr hS hA q h) (pu_fr hS hA) (fun r_19 u t H1 locs ht hvm hw hB hz1 hk1 hS => ?_)
      have hP := pu_keep hP hk1
      clear hk1 hz1 ht hvm
      generalize H1 = H at hP hS ⊢
      have ir_19 := hw
      have hsp := hsp.trans (slet_eq ir_19)
      refine lv_aload_n hx hb eX3_longestWait_58 rfl (lv_at hl 1 rfl) ?_
      refine va_get (D := (dC, dI)) (ci := 3) (v := .ref tm) (C := RX3) (T := TX3) (N := 5) hx hb hts hiX3 hown hK hP 0 rfl rfl 3 (by decide) v_17 (fun _ h9 => h9) rfl eX3_longestWait_59 ?_
      refine lv_aload_n hx hb eX3_longestWait_62 rfl (lv_at hl 2 rfl) ?_
      refine va_get (D := (dC, dI)) (ci := 0) (v := .ref q9) (C := RX0) (T := TX0) (N := 17) hx hb hts hiX0 hown hK hP 3 rfl rfl 9 (by decide) v_18 (fun _ h9 => h9) rfl eX3_longestWait_63 ?_
      refine lv_iload hx hb eX3_longestWait_66 (lv_at hl 0 rfl) ?_
      refine va_iald hx hb hK hP 9 7 rfl rfl (vp_in_nI (n := ((14 + si) * 4 + g_7)) (by omega) (Nat.le_of_ble_eq_true rfl)) eX3_longestWait_68 ?_
      refine lv_topi (fun y_20 ey_20 => ?_)
      obtain ⟨u_21, hu_21, qu_21, xu_21⟩ := bN_getx 2 q_f9 (n := ((14 + si) * 4 + g_7)) (by first | omega | exact Nat.lt_trans (zx16 (by omega) (by omega) (by omega)) (Nat.le_of_ble_eq_true rfl) | exact Nat.lt_trans (zy16 (by omega) (by omega)) (Nat.le_of_ble_eq_true rfl) | exact Nat.lt_trans (zx25 (by omega) (by omega) (by omega)) (Nat.le_of_ble_eq_true rfl) | exact Nat.lt_trans (zy25 (by omega) (by omega)) (Nat.le_of_ble_eq_true rfl))
      obtain rfl : y_20 = nI u_21 := ey_20.trans qu_21
      have hsp := hsp.trans (slet_eq xu_21)
      refine va_iald hx hb hK hP 1 0 rfl rfl (vp_in_nI (n := u_21) (Nat.lt_of_le_of_lt hu_21 (Nat.le_of_ble_eq_true rfl)) (Nat.le_of_ble_eq_true rfl)) eX3_longestWait_69 ?_
      refine lv_topi (fun y_22 ey_22 => ?_)
      have ey_22 : y_22 = ftm u_21 := ey_22.trans (congrArg ftm (nI_clamp (n := u_21) (Nat.lt_of_le_of_lt hu_21 (Nat.le_of_ble_eq_true rfl))))
      have hsp := hsp.trans (slet_eq ey_22)
      refine lv_isub hx hb eX3_longestWait_70 ?_
      refine lv_topi (fun y_23 ey_23 => ?_)
      have hsp := hsp.trans (slet_eq ey_23)
      refine va_mmin hx hb (hml.trans hl.1.symm) hown v_19 v_20 v_21 v_22 (Nat.le_of_ble_eq_true rfl) (Nat.le_of_ble_eq_true rfl) (Nat.le_of_ble_eq_true rfl) (Nat.le_of_ble_eq_true rfl) eX3_longestWait_71 ?_
      refine lv_topi (fun y_24 ey_24 => ?_)
      have hsp := hsp.trans (slet_eq ey_24)
      refine lv_istore_n (lv' := [(2, .int y_24), (5, .int (nI ((14 + si) * 4 + g_7))), (0, .ref py), (1, .ref au), (3, .int (nI (14 + si))), (4, .int (nI g_7))]) hx hb eX3_longestWait_74 rfl hl (by decide) rfl (fun ls hl => ?_)
      refine lv_iinc (v := (nI (g_7 + 1))) (lv' := [(4, .int (nI (g_7 + 1))), (2, .int y_24), (5, .int (nI ((14 + si) * 4 + g_7))), (0, .ref py), (1, .ref au), (3, .int (nI (14 + si)))]) hx hb eX3_longestWait_75 hl (k := 5) rfl (nI_1 _) (by decide) rfl (fun ls hl => ?_)
      refine lv_goto (tgt := 28) hx hb eX3_longestWait_78 (by decide) ?_
      exact ih_8 (4 - (g_7 + 1)) (by omega) _ _ _ ⟨y_24, (g_7 + 1), rfl, (by omega), hin_12 _ hsp, hP, hD, hS, lv_sub hl [3, 4, 1, 5, 0] rfl⟩
  · have hcc_2 := c_2
    have hsp := hsp.trans (if_neg c_2)
    refine lv_iconst (v := 0) hx hb eX3_longestWait_12 (by decide) ?_
    exact W.iret (v := 0) hx hb hr (fun t ht hW => ⟨⟨0, (), rfl, (hsp.symm.trans hRR), trivial⟩, hS.F ht⟩) hS.2.2 eX3_longestWait_13
theorem eX3_opens_0 : decode cX3_opens 0 = .ok (.aload_n 1, 1) := by decide +kernel
theorem eX3_opens_1 : decode cX3_opens 1 = .ok (.getfield 75, 3) := by decide +kernel
theorem eX3_opens_4 : decode cX3_opens 4 = .ok (.iload_n 2, 1) := by decide +kernel
theorem eX3_opens_5 : decode cX3_opens 5 = .ok (.iaload, 1) := by decide +kernel
theorem eX3_opens_6 : decode cX3_opens 6 = .ok (.aload_n 0, 1) := by decide +kernel
theorem eX3_opens_7 : decode cX3_opens 7 = .ok (.getfield 31, 3) := by decide +kernel
theorem eX3_opens_10 : decode cX3_opens 10 = .ok (.if_icmp .ne 15, 3) := by decide +kernel
theorem eX3_opens_13 : decode cX3_opens 13 = .ok (.aload_n 1, 1) := by decide +kernel
theorem eX3_opens_14 : decode cX3_opens 14 = .ok (.iload_n 2, 1) := by decide +kernel
theorem eX3_opens_15 : decode cX3_opens 15 = .ok (.aload_n 0, 1) := by decide +kernel
theorem eX3_opens_16 : decode cX3_opens 16 = .ok (.getfield 9, 3) := by decide +kernel
theorem eX3_opens_19 : decode cX3_opens 19 = .ok (.invokevirtual 41, 3) := by decide +kernel
theorem eX3_opens_22 : decode cX3_opens 22 = .ok (.ifCond .ne 5, 3) := by decide +kernel
theorem eX3_opens_25 : decode cX3_opens 25 = .ok (.iconst 0, 1) := by decide +kernel
theorem eX3_opens_26 : decode cX3_opens 26 = .ok (.ireturn, 1) := by decide +kernel
theorem eX3_opens_27 : decode cX3_opens 27 = .ok (.iconst 0, 1) := by decide +kernel
theorem eX3_opens_28 : decode cX3_opens 28 = .ok (.istore_n 3, 1) := by decide +kernel
theorem eX3_opens_29 : decode cX3_opens 29 = .ok (.iload_n 3, 1) := by decide +kernel
theorem eX3_opens_30 : decode cX3_opens 30 = .ok (.iconst 3, 1) := by decide +kernel
theorem eX3_opens_31 : decode cX3_opens 31 = .ok (.if_icmp .ge 39, 3) := by decide +kernel
theorem eX3_opens_34 : decode cX3_opens 34 = .ok (.aload_n 0, 1) := by decide +kernel
theorem eX3_opens_35 : decode cX3_opens 35 = .ok (.getfield 15, 3) := by decide +kernel
theorem eX3_opens_38 : decode cX3_opens 38 = .ok (.iload_n 3, 1) := by decide +kernel
theorem eX3_opens_39 : decode cX3_opens 39 = .ok (.aload_n 1, 1) := by decide +kernel
theorem eX3_opens_40 : decode cX3_opens 40 = .ok (.getfield 78, 3) := by decide +kernel
theorem eX3_opens_43 : decode cX3_opens 43 = .ok (.iload_n 2, 1) := by decide +kernel
theorem eX3_opens_44 : decode cX3_opens 44 = .ok (.iaload, 1) := by decide +kernel
theorem eX3_opens_45 : decode cX3_opens 45 = .ok (.iload_n 3, 1) := by decide +kernel
theorem eX3_opens_46 : decode cX3_opens 46 = .ok (.ishr, 1) := by decide +kernel
theorem eX3_opens_47 : decode cX3_opens 47 = .ok (.iconst 1, 1) := by decide +kernel
theorem eX3_opens_48 : decode cX3_opens 48 = .ok (.iand, 1) := by decide +kernel
theorem eX3_opens_49 : decode cX3_opens 49 = .ok (.iconst 1, 1) := by decide +kernel
theorem eX3_opens_50 : decode cX3_opens 50 = .ok (.if_icmp .ne 7, 3) := by decide +kernel
theorem eX3_opens_53 : decode cX3_opens 53 = .ok (.iconst 0, 1) := by decide +kernel
theorem eX3_opens_54 : decode cX3_opens 54 = .ok (.goto 9, 3) := by decide +kernel
theorem eX3_opens_57 : decode cX3_opens 57 = .ok (.aload_n 0, 1) := by decide +kernel
theorem eX3_opens_58 : decode cX3_opens 58 = .ok (.getfield 9, 3) := by decide +kernel
theorem eX3_opens_61 : decode cX3_opens 61 = .ok (.iload_n 3, 1) := by decide +kernel
theorem eX3_opens_62 : decode cX3_opens 62 = .ok (.iaload, 1) := by decide +kernel
theorem eX3_opens_63 : decode cX3_opens 63 = .ok (.iastore, 1) := by decide +kernel
theorem eX3_opens_64 : decode cX3_opens 64 = .ok (.iinc 3 1, 3) := by decide +kernel
theorem eX3_opens_67 : decode cX3_opens 67 = .ok (.goto (-38), 3) := by decide +kernel
theorem eX3_opens_70 : decode cX3_opens 70 = .ok (.aload_n 1, 1) := by decide +kernel
theorem eX3_opens_71 : decode cX3_opens 71 = .ok (.aload_n 1, 1) := by decide +kernel
theorem eX3_opens_72 : decode cX3_opens 72 = .ok (.getfield 81, 3) := by decide +kernel
theorem eX3_opens_75 : decode cX3_opens 75 = .ok (.iload_n 2, 1) := by decide +kernel
theorem eX3_opens_76 : decode cX3_opens 76 = .ok (.iaload, 1) := by decide +kernel
theorem eX3_opens_77 : decode cX3_opens 77 = .ok (.invokestatic 37, 3) := by decide +kernel
theorem eX3_opens_80 : decode cX3_opens 80 = .ok (.aload_n 0, 1) := by decide +kernel
theorem eX3_opens_81 : decode cX3_opens 81 = .ok (.getfield 15, 3) := by decide +kernel
theorem eX3_opens_84 : decode cX3_opens 84 = .ok (.invokevirtual 41, 3) := by decide +kernel
theorem eX3_opens_87 : decode cX3_opens 87 = .ok (.ireturn, 1) := by decide +kernel
abbrev vs_E_3_opens : List Cond := .code yX3_opens cX3_opens 4 (some .boolean) :: CM
theorem g_E_3_opens_E_0_holdsAt : GoodIn vs_E_3_opens (wsV RX3 41 RX0 yX0_holdsAt vs_E_0_holdsAt) := cm_gV cm_178 cm_179 cm_180 cm_19 cm_66
theorem g_E_3_opens_E_0_hostOfPlace : GoodIn vs_E_3_opens (va_wsS RX3 37 yX0_hostOfPlace vs_E_0_hostOfPlace) := cm_gS cm_177 cm_55 cm_19 cm_0
noncomputable def sp_E_3_opens_L1 (ftm : Nat → Int32) (q_f6 : Nat → Nat) (f7 : Nat → Int32) (q_f8 : Nat → Nat) (q_f9 : Nat → Nat) (f12 : Nat → Int32) (f13 : Nat → Int32) (a1 : Nat) : ((Nat → Int32) × Nat) → ((Nat → Int32) × Nat) ⊕ (Nat × (Nat → Int32)) := fun (g_9, g_10) => (if 3 ≤ g_10 then (Sum.inr (slet (min (q_f6 a1) 7) (fun u_19 => (slet (sp_E_0_holdsAt q_f8 q_f9 f12 f13 g_9 (14 + u_19)) (fun u_22 => (u_22, g_9)))))) else (slet (f7 a1) (fun y_23 => (slet ((y_23 : Int32) >>> (((nI g_10) : Int32) &&& 31)) (fun y_24 => (slet ((y_24 : Int32) &&& (1 : Int32)) (fun y_25 => (slet (α := Int32) (if (y_25 : Int32) = 1 then 0 else (slet (ftm g_10) (fun y_32 => y_32))) (fun g_26 => (slet (upd g_9 g_10 g_26) (fun f_30 => (Sum.inl (f_30, (g_10 + 1))))))))))))))
noncomputable def sp_E_3_opens (si : Nat) (ftm : Nat → Int32) (fbh : Nat → Int32) (q_f5 : Nat → Nat) (q_f6 : Nat → Nat) (f7 : Nat → Int32) (q_f8 : Nat → Nat) (q_f9 : Nat → Nat) (f12 : Nat → Int32) (f13 : Nat → Int32) (a1 : Nat) : Nat × (Nat → Int32) := (slet (min (q_f5 a1) 7) (fun u_2 => (if u_2 = si then (slet (sp_E_0_holdsAt q_f8 q_f9 f12 f13 ftm a1) (fun u_5 => (if u_5 = 0 then (0, fbh) else (itrv (α := (Nat → Int32) × Nat) (β := (Nat × (Nat → Int32))) default (sp_E_3_opens_L1 ftm q_f6 f7 q_f8 q_f9 f12 f13 a1) (fbh, 0))))) else (0, fbh))))
set_option maxHeartbeats 4000000 in
set_option maxRecDepth 100000 in
theorem c_E_3_opens (l : Launch) (dC : Nat → ClassId) (dI : Nat → Nat → Nat) (sz : Nat) (py : Nat) (on : Nat) (si : Nat) (ti : Int32) (tm : Nat) (bh : Nat) (k_ftm : ClassId) (ftm : Nat → Int32) (k_fbh : ClassId) (fbh : Nat → Int32) (au : Nat) (nc : Nat) (np : Nat) (ne : Nat) (st0 : Int32) (q4 : Nat) (q5 : Nat) (q6 : Nat) (q7 : Nat) (q8 : Nat) (q9 : Nat) (q10 : Nat) (q11 : Nat) (q12 : Nat) (q13 : Nat) (q14 : Nat) (q15 : Nat) (q16 : Nat) (k_f4 : ClassId) (f4 : Nat → Int32) (k_f5 : ClassId) (q_f5 : Nat → Nat) (k_f6 : ClassId) (q_f6 : Nat → Nat) (k_f7 : ClassId) (f7 : Nat → Int32) (k_f8 : ClassId) (q_f8 : Nat → Nat) (k_f9 : ClassId) (q_f9 : Nat → Nat) (k_f10 : ClassId) (f10 : Nat → Int32) (k_f11 : ClassId) (f11 : Nat → Int32) (k_f12 : ClassId) (f12 : Nat → Int32) (k_f13 : ClassId) (f13 : Nat → Int32) (k_f14 : ClassId) (f14 : Nat → Int32) (k_f15 : ClassId) (f15 : Nat → Int32) (k_f16 : ClassId) (f16 : Nat → Int32) (a1 : Nat) (hon : on ≤ 1) (hsi : si ≤ 7) (hnc : nc ≤ 3) (hnp : np ≤ 8) (hne : ne ≤ 14) (hst0 : pm1 7 st0) (ha1 : a1 ≤ 13) : Met l yX3_opens vs_E_3_opens ({ frames := 2, cells := 0, slots := 0, locals := 46 }) (va_Pc [.ref py, .ref au, .int (nI a1)] (pu_B (dC, dI) (pa__w py (nI on) (nI si) ti tm bh k_ftm ftm k_fbh fbh au (nI nc) (nI np) (nI ne) st0 q4 q5 q6 q7 q8 q9 q10 q11 q12 q13 q14 q15 q16 k_f4 f4 k_f5 (bN 7 q_f5) k_f6 (bN 7 q_f6) k_f7 f7 k_f8 (bN 4 q_f8) k_f9 (bN 2 q_f9) k_f10 f10 k_f11 f11 k_f12 f12 k_f13 f13 k_f14 f14 k_f15 f15 k_f16 f16) (pa__t k_ftm k_fbh k_f4 k_f5 k_f6 k_f7 k_f8 k_f9 k_f10 k_f11 k_f12 k_f13 k_f14 k_f15 k_f16) sz)) (va_Qi (fun (r : Int32) (_ : Unit) => ∃ v : Nat, v ≤ 1 ∧ r = nI v ∧ v = (sp_E_3_opens si ftm fbh q_f5 q_f6 f7 q_f8 q_f9 f12 f13 a1).1) (fun _ t => ∃ (z_fbh : Nat → Int32), pu_E (dC, dI) (pa__w py (nI on) (nI si) ti tm bh k_ftm ftm k_fbh z_fbh au (nI nc) (nI np) (nI ne) st0 q4 q5 q6 q7 q8 q9 q10 q11 q12 q13 q14 q15 q16 k_f4 f4 k_f5 (bN 7 q_f5) k_f6 (bN 7 q_f6) k_f7 f7 k_f8 (bN 4 q_f8) k_f9 (bN 2 q_f9) k_f10 f10 k_f11 f11 k_f12 f12 k_f13 f13 k_f14 f14 k_f15 f15 k_f16 f16) (pa__t k_ftm k_fbh k_f4 k_f5 k_f6 k_f7 k_f8 k_f9 k_f10 k_f11 k_f12 k_f13 k_f14 k_f15 k_f16) (va_A ((pa__w py (nI on) (nI si) ti tm bh k_ftm ftm k_fbh fbh au (nI nc) (nI np) (nI ne) st0 q4 q5 q6 q7 q8 q9 q10 q11 q12 q13 q14 q15 q16 k_f4 f4 k_f5 (bN 7 q_f5) k_f6 (bN 7 q_f6) k_f7 f7 k_f8 (bN 4 q_f8) k_f9 (bN 2 q_f9) k_f10 f10 k_f11 f11 k_f12 f12 k_f13 f13 k_f14 f14 k_f15 f15 k_f16 f16)) sz) t ∧ (z_fbh = (sp_E_3_opens si ftm fbh q_f5 q_f6 f7 q_f8 q_f9 f12 f13 a1).2)) (va_A ((pa__w py (nI on) (nI si) ti tm bh k_ftm ftm k_fbh fbh au (nI nc) (nI np) (nI ne) st0 q4 q5 q6 q7 q8 q9 q10 q11 q12 q13 q14 q15 q16 k_f4 f4 k_f5 (bN 7 q_f5) k_f6 (bN 7 q_f6) k_f7 f7 k_f8 (bN 4 q_f8) k_f9 (bN 2 q_f9) k_f10 f10 k_f11 f11 k_f12 f12 k_f13 f13 k_f14 f14 k_f15 f15 k_f16 f16)) sz)) 0 0 (va_A ((pa__w py (nI on) (nI si) ti tm bh k_ftm ftm k_fbh fbh au (nI nc) (nI np) (nI ne) st0 q4 q5 q6 q7 q8 q9 q10 q11 q12 q13 q14 q15 q16 k_f4 f4 k_f5 (bN 7 q_f5) k_f6 (bN 7 q_f6) k_f7 f7 k_f8 (bN 4 q_f8) k_f9 (bN 2 q_f9) k_f10 f10 k_f11 f11 k_f12 f12 k_f13 f13 k_f14 f14 k_f15 f15 k_f16 f16)) sz) := by
  refine Met.ofW (cc := cX3_opens) (maxL := 4) (ret := (some .boolean)) (by decide) rfl ?_
  intro p e s m args below meth c s₁ B hml hv
  obtain ⟨rfl, rfl, hP, hK, hD0⟩ := hv
  have hx := B.exec
  have hb := B.bytes
  have hr := B.returns
  have hts := atoms_spec (ws := vs_E_3_opens) B.pre
  have v_1 := hts (.fieldLink RX3 75 "ClockReach$Automaton" "sources" "[I") (List.mem_cons_of_mem _ cm_194)
  have v_2 := hts (.fieldLink RX3 31 "ClockReach$Play" "site" "I") (List.mem_cons_of_mem _ cm_174)
  have v_3 := hts (.fieldLink RX3 9 "ClockReach$Play" "times" "[I") (List.mem_cons_of_mem _ cm_176)
  have v_9 := hts (.fieldLink RX3 15 "ClockReach$Play" "behind" "[I") (List.mem_cons_of_mem _ cm_195)
  have v_10 := hts (.fieldLink RX3 78 "ClockReach$Automaton" "resets" "[I") (List.mem_cons_of_mem _ cm_196)
  have v_11 := hts (.fieldLink RX3 81 "ClockReach$Automaton" "targets" "[I") (List.mem_cons_of_mem _ cm_197)
  have hown : s.vm.findClass RX3 = some m.cls := findClass_of_methodNamed B.named
  have hlocks := B.notSynchronized
  have hiX0 : ∀ w ∈ wsX00, w ∈ vs_E_3_opens := fun _ h => List.mem_cons_of_mem _ (cm_X0 h)
  have hiX3 : ∀ w ∈ wsX30, w ∈ vs_E_3_opens := fun _ h => List.mem_cons_of_mem _ (cm_X3 h)
  have hD := hD0.self (sz := s.heap.size)
  generalize hAe : va_A ((pa__w py (nI on) (nI si) ti tm bh k_ftm ftm k_fbh fbh au (nI nc) (nI np) (nI ne) st0 q4 q5 q6 q7 q8 q9 q10 q11 q12 q13 q14 q15 q16 k_f4 f4 k_f5 (bN 7 q_f5) k_f6 (bN 7 q_f6) k_f7 f7 k_f8 (bN 4 q_f8) k_f9 (bN 2 q_f9) k_f10 f10 k_f11 f11 k_f12 f12 k_f13 f13 k_f14 f14 k_f15 f15 k_f16 f16)) s.heap.size = A at hD ⊢
  have hA : ∀ q : Nat, s.heap.size ≤ q → A q := fun q h => by rw [← hAe]; exact Or.inr h
  have hS : va_S A s.heap s.heap [] := va_S.rf
  have hl := lv_entry ([.ref py, .ref au, .int (nI a1)]) (n := 4) (Nat.le_of_ble_eq_true rfl)
  rw [lg_entry_eq]
  generalize (lg_sl ([.ref py, .ref au, .int (nI a1)]) ++ List.replicate (4 - (lg_sl ([.ref py, .ref au, .int (nI a1)])).length) Slot.unset).toArray = ls at hl ⊢
  have hl : lv_has ls 4 [(0, .ref py), (1, .ref au), (2, .int (nI a1))] := hl
  obtain ⟨RR, hRR⟩ : ∃ x, x = (sp_E_3_opens si ftm fbh q_f5 q_f6 f7 q_f8 q_f9 f12 f13 a1) := ⟨_, rfl⟩
  have hsp := hRR
  refine lv_aload_n hx hb eX3_opens_0 rfl (lv_at hl 1 rfl) ?_
  refine va_get (D := (dC, dI)) (ci := 0) (v := .ref q5) (C := RX0) (T := TX0) (N := 17) hx hb hts hiX0 hown hK hP 3 rfl rfl 5 (by decide) v_1 (fun _ h9 => h9) rfl eX3_opens_1 ?_
  refine lv_iload_n hx hb eX3_opens_4 rfl (lv_at hl 2 rfl) ?_
  refine va_iald hx hb hK hP 5 3 rfl rfl (vp_in_nI (n := a1) (Nat.lt_of_le_of_lt ha1 (Nat.le_of_ble_eq_true rfl)) (Nat.le_of_ble_eq_true rfl)) eX3_opens_5 ?_
  refine lv_topi (fun y_1 ey_1 => ?_)
  obtain ⟨u_2, hu_2, qu_2, xu_2⟩ := bN_getx 7 q_f5 (n := a1) (Nat.lt_of_le_of_lt ha1 (Nat.le_of_ble_eq_true rfl))
  obtain rfl : y_1 = nI u_2 := ey_1.trans qu_2
  have hsp := hsp.trans (slet_eq xu_2)
  refine lv_aload_n hx hb eX3_opens_6 rfl (lv_at hl 0 rfl) ?_
  refine va_get (D := (dC, dI)) (ci := 3) (v := .int (nI si)) (C := RX3) (T := TX3) (N := 5) hx hb hts hiX3 hown hK hP 0 rfl rfl 1 (by decide) v_2 (fun _ h9 => h9) rfl eX3_opens_7 ?_
  refine lv_icmp_ne (tgt := 25) hx hb eX3_opens_10 (by decide) (fun c_3 => ?_) (fun c_3 => ?_)
  · have c_3 : ¬ u_2 = si := fun z => c_3 ((nI_eq (a := u_2) (b := si) (Nat.lt_of_le_of_lt hu_2 (Nat.le_of_ble_eq_true rfl)) (Nat.lt_of_le_of_lt hsi (Nat.le_of_ble_eq_true rfl))).mpr z)
    have hsp := hsp.trans (if_neg c_3)
    refine lv_iconst (v := 0) hx hb eX3_opens_25 (by decide) ?_
    exact W.zret (v := 0) (ty := .boolean) hx hb hr (rfl) (fun t ht hW => ⟨⟨0, (), rfl, ⟨0, (Nat.le_of_ble_eq_true rfl), rfl, (congrArg Prod.fst (hsp.symm.trans hRR))⟩, ⟨fbh, ⟨by rw [ht]; exact hP, va_K.moved hW.alike hK, hD⟩, (congrArg Prod.snd (hsp.symm.trans hRR))⟩⟩, hS.F ht⟩) hS.2.2 eX3_opens_26
  · have c_3 : u_2 = si := (nI_eq (a := u_2) (b := si) (Nat.lt_of_le_of_lt hu_2 (Nat.le_of_ble_eq_true rfl)) (Nat.lt_of_le_of_lt hsi (Nat.le_of_ble_eq_true rfl))).mp c_3
    have hsp := hsp.trans (if_pos c_3)
    refine lv_aload_n hx hb eX3_opens_13 rfl (lv_at hl 1 rfl) ?_
    refine lv_iload_n hx hb eX3_opens_14 rfl (lv_at hl 2 rfl) ?_
    refine lv_aload_n hx hb eX3_opens_15 rfl (lv_at hl 0 rfl) ?_
    refine va_get (D := (dC, dI)) (ci := 3) (v := .ref tm) (C := RX3) (T := TX3) (N := 5) hx hb hts hiX3 hown hK hP 0 rfl rfl 3 (by decide) v_3 (fun _ h9 => h9) rfl eX3_opens_16 ?_
    have hPc : va_P (dC, dI) vwCl (at__w au (nI nc) (nI np) (nI ne) st0 q4 q5 q6 q7 q8 q9 q10 q11 q12 q13 q14 q15 q16 k_f4 f4 k_f5 (bN 7 q_f5) k_f6 (bN 7 q_f6) k_f7 f7 k_f8 (bN 4 q_f8) k_f9 (bN 2 q_f9) k_f10 f10 k_f11 f11 k_f12 f12 k_f13 f13 k_f14 f14 k_f15 f15 k_f16 f16 tm k_ftm ftm) _ := hP.sub [3, 4, 5, 6, 7, 8, 9, 10, 11, 12, 13, 14, 15, 16, 1] rfl
    have hDc := hD.sub (ws' := (at__w au (nI nc) (nI np) (nI ne) st0 q4 q5 q6 q7 q8 q9 q10 q11 q12 q13 q14 q15 q16 k_f4 f4 k_f5 (bN 7 q_f5) k_f6 (bN 7 q_f6) k_f7 f7 k_f8 (bN 4 q_f8) k_f9 (bN 2 q_f9) k_f10 f10 k_f11 f11 k_f12 f12 k_f13 f13 k_f14 f14 k_f15 f15 k_f16 f16 tm k_ftm ftm)) [3, 4, 5, 6, 7, 8, 9, 10, 11, 12, 13, 14, 15, 16, 1] (by decide) rfl
    have hKc : va_K (dC, dI) vwCl (at__t k_f4 k_f5 k_f6 k_f7 k_f8 k_f9 k_f10 k_f11 k_f12 k_f13 k_f14 k_f15 k_f16 k_ftm) s := hK.sub [2, 3, 4, 5, 6, 7, 8, 9, 10, 11, 12, 13, 14, 0] rfl
    refine va_calli (va_runV (As := [.int (nI a1), .ref tm]) (rest := []) ⟨hx, hb, hml, hown, hts⟩ (c_E_0_holdsAt l dC dI _ au nc np ne st0 q4 q5 q6 q7 q8 q9 q10 q11 q12 q13 q14 q15 q16 k_f4 f4 k_f5 q_f5 k_f6 q_f6 k_f7 f7 k_f8 q_f8 k_f9 q_f9 k_f10 f10 k_f11 f11 k_f12 f12 k_f13 f13 k_f14 f14 k_f15 f15 k_f16 f16 tm k_ftm ftm a1 hnc hnp hne (hst0) (Nat.le_trans ha1 (Nat.le_of_ble_eq_true rfl))) (cwV 2 hts g_E_3_opens_E_0_holdsAt rfl rfl rfl (by decide +kernel) ⟨Nat.le_of_ble_eq_true rfl, Nat.le_of_ble_eq_true rfl⟩) ⟨pu_bl, va_recv hK hP (ci := 0) (q0 := 3) rfl rfl, pu_in hPc hKc hDc⟩ rfl rfl hl.1 rfl (lv_room (Nat.le_of_ble_eq_true rfl)) eX3_opens_19 ⟨Nat.le_of_ble_eq_true rfl, Nat.le_of_ble_eq_true rfl⟩) hS (fun q _ h => pu_fr hS hA q h) (pu_fr hS hA) (fun r_4 u t H1 locs ht hvm hw hB hz1 hk1 hS => ?_)
    have hP := pu_keep hP hk1
    clear hk1 hz1 ht hvm
    generalize H1 = H at hP hS ⊢
    obtain ⟨u_5, hu_5, rfl, iu_5⟩ := hw
    have hsp := hsp.trans (slet_eq iu_5)
    refine lv_if_ne (tgt := 27) hx hb eX3_opens_22 (by decide) (fun c_6 => ?_) (fun c_6 => ?_)
    · have c_6 : ¬ u_5 = 0 := fun z => c_6 ((nI_eq (a := u_5) (b := 0) (Nat.lt_of_le_of_lt hu_5 (Nat.le_of_ble_eq_true rfl)) (Nat.le_of_ble_eq_true rfl)).mpr z)
      have hsp := hsp.trans (if_neg c_6)
      refine lv_iconst (v := 0) hx hb eX3_opens_27 (by decide) ?_
      refine lv_istore_n (lv' := [(3, .int 0), (0, .ref py), (1, .ref au), (2, .int (nI a1))]) hx hb eX3_opens_28 rfl hl (by decide) rfl (fun ls hl => ?_)
      obtain ⟨lf_12, dlf_12, hlf_12, hsp⟩ := itr_ex hsp
      delta sp_E_3_opens_L1 at hlf_12
      refine pu_while (fun nn H locs ls => ∃ (g_9 : Nat → Int32) (g_10 : Nat), nn = 3 - g_10 ∧ g_10 ≤ 3 ∧ RR = itrv dlf_12 lf_12 (g_9, g_10) ∧ va_P (dC, dI) vwCl (pa__w py (nI on) (nI si) ti tm bh k_ftm ftm k_fbh g_9 au (nI nc) (nI np) (nI ne) st0 q4 q5 q6 q7 q8 q9 q10 q11 q12 q13 q14 q15 q16 k_f4 f4 k_f5 (bN 7 q_f5) k_f6 (bN 7 q_f6) k_f7 f7 k_f8 (bN 4 q_f8) k_f9 (bN 2 q_f9) k_f10 f10 k_f11 f11 k_f12 f12 k_f13 f13 k_f14 f14 k_f15 f15 k_f16 f16) H ∧ va_D A (pa__w py (nI on) (nI si) ti tm bh k_ftm ftm k_fbh g_9 au (nI nc) (nI np) (nI ne) st0 q4 q5 q6 q7 q8 q9 q10 q11 q12 q13 q14 q15 q16 k_f4 f4 k_f5 (bN 7 q_f5) k_f6 (bN 7 q_f6) k_f7 f7 k_f8 (bN 4 q_f8) k_f9 (bN 2 q_f9) k_f10 f10 k_f11 f11 k_f12 f12 k_f13 f13 k_f14 f14 k_f15 f15 k_f16 f16) ∧ va_S A s.heap H locs ∧ lv_has ls 4 [(0, .ref py), (1, .ref au), (2, .int (nI a1)), (3, .int (nI g_10))]) 29 ?_ _ _ _ _ ⟨fbh, 0, rfl, (Nat.le_of_ble_eq_true rfl), hsp, hP, hD, hS, lv_sub hl [1, 2, 3, 0] rfl⟩
      rintro nn ih_11 H locs ls ⟨g_9, g_10, rfl, hg_10, he_14, hP, hD, hS, hl⟩
      obtain ⟨S_13, hsp, hin_15, hout_16⟩ := itr_step hlf_12 he_14
      refine lv_iload_n hx hb eX3_opens_29 rfl (lv_at hl 3 rfl) ?_
      refine lv_iconst (v := 3) hx hb eX3_opens_30 (by decide) ?_
      refine lv_icmp_ge (tgt := 70) hx hb eX3_opens_31 (by decide) (fun c_17 => ?_) (fun c_17 => ?_)
      · have c_17 : 3 ≤ g_10 := (nI_leI (a := 3) (b := g_10) (Nat.le_of_ble_eq_true rfl) (Nat.lt_of_le_of_lt hg_10 (Nat.le_of_ble_eq_true rfl))).mp c_17
        have hsp := hsp.trans (if_pos c_17)
        have hsp := hout_16 _ hsp
        refine lv_aload_n hx hb eX3_opens_70 rfl (lv_at hl 1 rfl) ?_
        refine lv_aload_n hx hb eX3_opens_71 rfl (lv_at hl 1 rfl) ?_
        refine va_get (D := (dC, dI)) (ci := 0) (v := .ref q6) (C := RX0) (T := TX0) (N := 17) hx hb hts hiX0 hown hK hP 3 rfl rfl 6 (by decide) v_11 (fun _ h9 => h9) rfl eX3_opens_72 ?_
        refine lv_iload_n hx hb eX3_opens_75 rfl (lv_at hl 2 rfl) ?_
        refine va_iald hx hb hK hP 6 4 rfl rfl (vp_in_nI (n := a1) (Nat.lt_of_le_of_lt ha1 (Nat.le_of_ble_eq_true rfl)) (Nat.le_of_ble_eq_true rfl)) eX3_opens_76 ?_
        refine lv_topi (fun y_18 ey_18 => ?_)
        obtain ⟨u_19, hu_19, qu_19, xu_19⟩ := bN_getx 7 q_f6 (n := a1) (Nat.lt_of_le_of_lt ha1 (Nat.le_of_ble_eq_true rfl))
        obtain rfl : y_18 = nI u_19 := ey_18.trans qu_19
        have hsp := hsp.trans (slet_eq xu_19)
        refine va_calli (va_runS (As := [.int (nI u_19)]) (rest := [.ref au]) ⟨hx, hb, hml, hown, hts⟩ (c_E_0_hostOfPlace l dC dI _ u_19 hu_19) (va_cwS 1 hts g_E_3_opens_E_0_hostOfPlace rfl rfl rfl (by decide +kernel) ⟨Nat.le_of_ble_eq_true rfl, Nat.le_of_ble_eq_true rfl⟩) ⟨pu_bl, pu_in (hP.sub [] rfl) (hK.sub [] rfl) (hD.sub [] (by decide) rfl)⟩ rfl rfl hl.1 rfl (lv_room (Nat.le_of_ble_eq_true rfl)) eX3_opens_77 ⟨Nat.le_of_ble_eq_true rfl, Nat.le_of_ble_eq_true rfl⟩) hS (fun q _ h => pu_fr hS hA q h) (pu_fr hS hA) (fun r_20 u t H1 locs ht hvm hw hB hz1 hk1 hS => ?_)
        have hP := pu_keep hP hk1
        clear hk1 hz1 ht hvm
        generalize H1 = H at hP hS ⊢
        obtain rfl : r_20 = nI (14 + u_19) := hw
        refine lv_aload_n hx hb eX3_opens_80 rfl (lv_at hl 0 rfl) ?_
        refine va_get (D := (dC, dI)) (ci := 3) (v := .ref bh) (C := RX3) (T := TX3) (N := 5) hx hb hts hiX3 hown hK hP 0 rfl rfl 4 (by decide) v_9 (fun _ h9 => h9) rfl eX3_opens_81 ?_
        have hPc : va_P (dC, dI) vwCl (at__w au (nI nc) (nI np) (nI ne) st0 q4 q5 q6 q7 q8 q9 q10 q11 q12 q13 q14 q15 q16 k_f4 f4 k_f5 (bN 7 q_f5) k_f6 (bN 7 q_f6) k_f7 f7 k_f8 (bN 4 q_f8) k_f9 (bN 2 q_f9) k_f10 f10 k_f11 f11 k_f12 f12 k_f13 f13 k_f14 f14 k_f15 f15 k_f16 f16 bh k_fbh g_9) _ := hP.sub [3, 4, 5, 6, 7, 8, 9, 10, 11, 12, 13, 14, 15, 16, 2] rfl
        have hDc := hD.sub (ws' := (at__w au (nI nc) (nI np) (nI ne) st0 q4 q5 q6 q7 q8 q9 q10 q11 q12 q13 q14 q15 q16 k_f4 f4 k_f5 (bN 7 q_f5) k_f6 (bN 7 q_f6) k_f7 f7 k_f8 (bN 4 q_f8) k_f9 (bN 2 q_f9) k_f10 f10 k_f11 f11 k_f12 f12 k_f13 f13 k_f14 f14 k_f15 f15 k_f16 f16 bh k_fbh g_9)) [3, 4, 5, 6, 7, 8, 9, 10, 11, 12, 13, 14, 15, 16, 2] (by decide) rfl
        have hKc : va_K (dC, dI) vwCl (at__t k_f4 k_f5 k_f6 k_f7 k_f8 k_f9 k_f10 k_f11 k_f12 k_f13 k_f14 k_f15 k_f16 k_fbh) s := hK.sub [2, 3, 4, 5, 6, 7, 8, 9, 10, 11, 12, 13, 14, 1] rfl
        refine va_calli (va_runV (As := [.int (nI (14 + u_19)), .ref bh]) (rest := []) ⟨hx, hb, hml, hown, hts⟩ (c_E_0_holdsAt l dC dI _ au nc np ne st0 q4 q5 q6 q7 q8 q9 q10 q11 q12 q13 q14 q15 q16 k_f4 f4 k_f5 q_f5 k_f6 q_f6 k_f7 f7 k_f8 q_f8 k_f9 q_f9 k_f10 f10 k_f11 f11 k_f12 f12 k_f13 f13 k_f14 f14 k_f15 f15 k_f16 f16 bh k_fbh g_9 (14 + u_19) hnc hnp hne (hst0) (by omega)) (cwV 2 hts g_E_3_opens_E_0_holdsAt rfl rfl rfl (by decide +kernel) ⟨Nat.le_of_ble_eq_true rfl, Nat.le_of_ble_eq_true rfl⟩) ⟨pu_bl, va_recv hK hP (ci := 0) (q0 := 3) rfl rfl, pu_in hPc hKc hDc⟩ rfl rfl hl.1 rfl (lv_room (Nat.le_of_ble_eq_true rfl)) eX3_opens_84 ⟨Nat.le_of_ble_eq_true rfl, Nat.le_of_ble_eq_true rfl⟩) hS (fun q _ h => pu_fr hS hA q h) (pu_fr hS hA) (fun r_21 u t H1 locs ht hvm hw hB hz1 hk1 hS => ?_)
        have hP := pu_keep hP hk1
        clear hk1 hz1 ht hvm
        generalize H1 = H at hP hS ⊢
        obtain ⟨u_22, hu_22, rfl, iu_22⟩ := hw
        have hsp := hsp.trans (slet_eq iu_22)
        exact W.zret (v := (nI u_22)) (ty := .boolean) hx hb hr (pu_nz (pu_b1 (n := u_22) (by omega))) (fun t ht hW => ⟨⟨(nI u_22), (), rfl, ⟨u_22, hu_22, rfl, (congrArg Prod.fst (hsp.symm.trans hRR))⟩, ⟨g_9, ⟨by rw [ht]; exact hP, va_K.moved hW.alike hK, hD⟩, (congrArg Prod.snd (hsp.symm.trans hRR))⟩⟩, hS.F ht⟩) hS.2.2 eX3_opens_87
      · have c_17 : ¬ 3 ≤ g_10 := fun z => c_17 ((nI_leI (a := 3) (b := g_10) (Nat.le_of_ble_eq_true rfl) (Nat.lt_of_le_of_lt hg_10 (Nat.le_of_ble_eq_true rfl))).mpr z)
        have hsp := hsp.trans (if_neg c_17)
        refine lv_aload_n hx hb eX3_opens_34 rfl (lv_at hl 0 rfl) ?_
        refine va_get (D := (dC, dI)) (ci := 3) (v := .ref bh) (C := RX3) (T := TX3) (N := 5) hx hb hts hiX3 hown hK hP 0 rfl rfl 4 (by decide) v_9 (fun _ h9 => h9) rfl eX3_opens_35 ?_
        refine lv_iload_n hx hb eX3_opens_38 rfl (lv_at hl 3 rfl) ?_
        refine lv_aload_n hx hb eX3_opens_39 rfl (lv_at hl 1 rfl) ?_
        refine va_get (D := (dC, dI)) (ci := 0) (v := .ref q7) (C := RX0) (T := TX0) (N := 17) hx hb hts hiX0 hown hK hP 3 rfl rfl 7 (by decide) v_10 (fun _ h9 => h9) rfl eX3_opens_40 ?_
        refine lv_iload_n hx hb eX3_opens_43 rfl (lv_at hl 2 rfl) ?_
        refine va_iald hx hb hK hP 7 5 rfl rfl (vp_in_nI (n := a1) (Nat.lt_of_le_of_lt ha1 (Nat.le_of_ble_eq_true rfl)) (Nat.le_of_ble_eq_true rfl)) eX3_opens_44 ?_
        refine lv_topi (fun y_23 ey_23 => ?_)
        have ey_23 : y_23 = f7 a1 := ey_23.trans (congrArg f7 (nI_clamp (n := a1) (Nat.lt_of_le_of_lt ha1 (Nat.le_of_ble_eq_true rfl))))
        have hsp := hsp.trans (slet_eq ey_23)
        refine lv_iload_n hx hb eX3_opens_45 rfl (lv_at hl 3 rfl) ?_
        refine lv_ishr hx hb eX3_opens_46 ?_
        refine lv_topi (fun y_24 ey_24 => ?_)
        have hsp := hsp.trans (slet_eq ey_24)
        refine lv_iconst (v := 1) hx hb eX3_opens_47 (by decide) ?_
        refine lv_iand hx hb eX3_opens_48 ?_
        refine lv_topi (fun y_25 ey_25 => ?_)
        have hsp := hsp.trans (slet_eq ey_25)
        refine lv_iconst (v := 1) hx hb eX3_opens_49 (by decide) ?_
        obtain ⟨JR_28, hJR_28, hsp⟩ := slet_ex hsp
        refine pu_join (fun H locs ls st => ∃ (g_26 : Int32), st = [.int g_26, .int (nI g_10), .ref bh] ∧ g_26 = JR_28 ∧ va_P (dC, dI) vwCl (pa__w py (nI on) (nI si) ti tm bh k_ftm ftm k_fbh g_9 au (nI nc) (nI np) (nI ne) st0 q4 q5 q6 q7 q8 q9 q10 q11 q12 q13 q14 q15 q16 k_f4 f4 k_f5 (bN 7 q_f5) k_f6 (bN 7 q_f6) k_f7 f7 k_f8 (bN 4 q_f8) k_f9 (bN 2 q_f9) k_f10 f10 k_f11 f11 k_f12 f12 k_f13 f13 k_f14 f14 k_f15 f15 k_f16 f16) H ∧ va_D A (pa__w py (nI on) (nI si) ti tm bh k_ftm ftm k_fbh g_9 au (nI nc) (nI np) (nI ne) st0 q4 q5 q6 q7 q8 q9 q10 q11 q12 q13 q14 q15 q16 k_f4 f4 k_f5 (bN 7 q_f5) k_f6 (bN 7 q_f6) k_f7 f7 k_f8 (bN 4 q_f8) k_f9 (bN 2 q_f9) k_f10 f10 k_f11 f11 k_f12 f12 k_f13 f13 k_f14 f14 k_f15 f15 k_f16 f16) ∧ va_S A s.heap H locs ∧ lv_has ls 4 [(0, .ref py), (1, .ref au), (2, .int (nI a1)), (3, .int (nI g_10))]) 63 ?_ (fun j_27 => ?_)
        · rintro H locs ls st ⟨g_26, rfl, he_29, hP, hD, hS, hl⟩
          rw [← he_29] at hsp
          refine va_iast hx hb hK hP hD hS 2 1 rfl rfl (vp_in_nI (n := g_10) (by omega) (Nat.le_of_ble_eq_true rfl)) eX3_opens_63 (fun H locs hP hD hS => ?_)
          obtain ⟨f_30, ef_30, xf_30⟩ := up_x g_9 (n := g_10) g_26 (Nat.lt_of_le_of_lt hg_10 (Nat.le_of_ble_eq_true rfl))
          have hP : va_P (dC, dI) vwCl (pa__w py (nI on) (nI si) ti tm bh k_ftm ftm k_fbh f_30 au (nI nc) (nI np) (nI ne) st0 q4 q5 q6 q7 q8 q9 q10 q11 q12 q13 q14 q15 q16 k_f4 f4 k_f5 (bN 7 q_f5) k_f6 (bN 7 q_f6) k_f7 f7 k_f8 (bN 4 q_f8) k_f9 (bN 2 q_f9) k_f10 f10 k_f11 f11 k_f12 f12 k_f13 f13 k_f14 f14 k_f15 f15 k_f16 f16) H := by rw [← ef_30]; exact hP
          have hD : va_D A (pa__w py (nI on) (nI si) ti tm bh k_ftm ftm k_fbh f_30 au (nI nc) (nI np) (nI ne) st0 q4 q5 q6 q7 q8 q9 q10 q11 q12 q13 q14 q15 q16 k_f4 f4 k_f5 (bN 7 q_f5) k_f6 (bN 7 q_f6) k_f7 f7 k_f8 (bN 4 q_f8) k_f9 (bN 2 q_f9) k_f10 f10 k_f11 f11 k_f12 f12 k_f13 f13 k_f14 f14 k_f15 f15 k_f16 f16) := by rw [← ef_30]; exact hD
          have hsp := hsp.trans (slet_eq xf_30)
          refine lv_iinc (v := (nI (g_10 + 1))) (lv' := [(3, .int (nI (g_10 + 1))), (0, .ref py), (1, .ref au), (2, .int (nI a1))]) hx hb eX3_opens_64 hl (k := 3) rfl (nI_1 _) (by decide) rfl (fun ls hl => ?_)
          refine lv_goto (tgt := 29) hx hb eX3_opens_67 (by decide) ?_
          exact ih_11 (3 - (g_10 + 1)) (by omega) _ _ _ ⟨f_30, (g_10 + 1), rfl, (by omega), hin_15 _ hsp, hP, hD, hS, lv_sub hl [1, 2, 3, 0] rfl⟩
        have hsp := hJR_28
        refine lv_icmp_ne (tgt := 57) hx hb eX3_opens_50 (by decide) (fun c_31 => ?_) (fun c_31 => ?_)
        · have hcc_31 := c_31
          have hsp := hsp.trans (if_neg c_31)
          refine lv_aload_n hx hb eX3_opens_57 rfl (lv_at hl 0 rfl) ?_
          refine va_get (D := (dC, dI)) (ci := 3) (v := .ref tm) (C := RX3) (T := TX3) (N := 5) hx hb hts hiX3 hown hK hP 0 rfl rfl 3 (by decide) v_3 (fun _ h9 => h9) rfl eX3_opens_58 ?_
          refine lv_iload_n hx hb eX3_opens_61 rfl (lv_at hl 3 rfl) ?_
          refine va_iald hx hb hK hP 1 0 rfl rfl (vp_in_nI (n := g_10) (by omega) (Nat.le_of_ble_eq_true rfl)) eX3_opens_62 ?_
          refine lv_topi (fun y_32 ey_32 => ?_)
          have ey_32 : y_32 = ftm g_10 := ey_32.trans (congrArg ftm (nI_clamp (n := g_10) (Nat.lt_of_le_of_lt hg_10 (Nat.le_of_ble_eq_true rfl))))
          have hsp := hsp.trans (slet_eq ey_32)
          exact j_27 _ _ _ _ ⟨y_32, rfl, hsp.symm, hP, hD, hS, lv_sub hl [0, 1, 2, 3] rfl⟩
        · have hcc_31 := c_31
          have hsp := hsp.trans (if_pos c_31)
          refine lv_iconst (v := 0) hx hb eX3_opens_53 (by decide) ?_
          refine lv_goto (tgt := 63) hx hb eX3_opens_54 (by decide) ?_
          exact j_27 _ _ _ _ ⟨0, rfl, hsp.symm, hP, hD, hS, lv_sub hl [0, 1, 2, 3] rfl⟩
    · have c_6 : u_5 = 0 := (nI_eq (a := u_5) (b := 0) (Nat.lt_of_le_of_lt hu_5 (Nat.le_of_ble_eq_true rfl)) (Nat.le_of_ble_eq_true rfl)).mp c_6
      have hsp := hsp.trans (if_pos c_6)
      refine lv_iconst (v := 0) hx hb eX3_opens_25 (by decide) ?_
      exact W.zret (v := 0) (ty := .boolean) hx hb hr (rfl) (fun t ht hW => ⟨⟨0, (), rfl, ⟨0, (Nat.le_of_ble_eq_true rfl), rfl, (congrArg Prod.fst (hsp.symm.trans hRR))⟩, ⟨fbh, ⟨by rw [ht]; exact hP, va_K.moved hW.alike hK, hD⟩, (congrArg Prod.snd (hsp.symm.trans hRR))⟩⟩, hS.F ht⟩) hS.2.2 eX3_opens_26
theorem eX3_cross_0 : decode cX3_cross 0 = .ok (.iconst 0, 1) := by decide +kernel
theorem eX3_cross_1 : decode cX3_cross 1 = .ok (.istore_n 3, 1) := by decide +kernel
theorem eX3_cross_2 : decode cX3_cross 2 = .ok (.iload_n 3, 1) := by decide +kernel
theorem eX3_cross_3 : decode cX3_cross 3 = .ok (.iconst 3, 1) := by decide +kernel
theorem eX3_cross_4 : decode cX3_cross 4 = .ok (.if_icmp .ge 30, 3) := by decide +kernel
theorem eX3_cross_7 : decode cX3_cross 7 = .ok (.aload_n 1, 1) := by decide +kernel
theorem eX3_cross_8 : decode cX3_cross 8 = .ok (.getfield 78, 3) := by decide +kernel
theorem eX3_cross_11 : decode cX3_cross 11 = .ok (.iload_n 2, 1) := by decide +kernel
theorem eX3_cross_12 : decode cX3_cross 12 = .ok (.iaload, 1) := by decide +kernel
theorem eX3_cross_13 : decode cX3_cross 13 = .ok (.iload_n 3, 1) := by decide +kernel
theorem eX3_cross_14 : decode cX3_cross 14 = .ok (.ishr, 1) := by decide +kernel
theorem eX3_cross_15 : decode cX3_cross 15 = .ok (.iconst 1, 1) := by decide +kernel
theorem eX3_cross_16 : decode cX3_cross 16 = .ok (.iand, 1) := by decide +kernel
theorem eX3_cross_17 : decode cX3_cross 17 = .ok (.iconst 1, 1) := by decide +kernel
theorem eX3_cross_18 : decode cX3_cross 18 = .ok (.if_icmp .ne 10, 3) := by decide +kernel
theorem eX3_cross_21 : decode cX3_cross 21 = .ok (.aload_n 0, 1) := by decide +kernel
theorem eX3_cross_22 : decode cX3_cross 22 = .ok (.getfield 9, 3) := by decide +kernel
theorem eX3_cross_25 : decode cX3_cross 25 = .ok (.iload_n 3, 1) := by decide +kernel
theorem eX3_cross_26 : decode cX3_cross 26 = .ok (.iconst 0, 1) := by decide +kernel
theorem eX3_cross_27 : decode cX3_cross 27 = .ok (.iastore, 1) := by decide +kernel
theorem eX3_cross_28 : decode cX3_cross 28 = .ok (.iinc 3 1, 3) := by decide +kernel
theorem eX3_cross_31 : decode cX3_cross 31 = .ok (.goto (-29), 3) := by decide +kernel
theorem eX3_cross_34 : decode cX3_cross 34 = .ok (.aload_n 0, 1) := by decide +kernel
theorem eX3_cross_35 : decode cX3_cross 35 = .ok (.aload_n 1, 1) := by decide +kernel
theorem eX3_cross_36 : decode cX3_cross 36 = .ok (.getfield 81, 3) := by decide +kernel
theorem eX3_cross_39 : decode cX3_cross 39 = .ok (.iload_n 2, 1) := by decide +kernel
theorem eX3_cross_40 : decode cX3_cross 40 = .ok (.iaload, 1) := by decide +kernel
theorem eX3_cross_41 : decode cX3_cross 41 = .ok (.putfield 31, 3) := by decide +kernel
theorem eX3_cross_44 : decode cX3_cross 44 = .ok (.return_, 1) := by decide +kernel
abbrev vs_E_3_cross : List Cond := .code yX3_cross cX3_cross 4 none :: CM
noncomputable def sp_E_3_cross_L1 (q_f6 : Nat → Nat) (f7 : Nat → Int32) (a1 : Nat) : ((Nat → Int32) × Nat) → ((Nat → Int32) × Nat) ⊕ ((Nat → Int32) × Nat) := fun (g_3, g_4) => (if 3 ≤ g_4 then (Sum.inr (slet (min (q_f6 a1) 7) (fun u_13 => (g_3, u_13)))) else (slet (f7 a1) (fun y_14 => (slet ((y_14 : Int32) >>> (((nI g_4) : Int32) &&& 31)) (fun y_15 => (slet ((y_15 : Int32) &&& (1 : Int32)) (fun y_16 => (slet (α := (Nat → Int32)) (if (y_16 : Int32) = 1 then (slet (upd g_3 g_4 0) (fun f_22 => f_22)) else g_3) (fun g_17 => (Sum.inl (g_17, (g_4 + 1))))))))))))
noncomputable def sp_E_3_cross (ftm : Nat → Int32) (q_f6 : Nat → Nat) (f7 : Nat → Int32) (a1 : Nat) : (Nat → Int32) × Nat := (itrv (α := (Nat → Int32) × Nat) (β := ((Nat → Int32) × Nat)) default (sp_E_3_cross_L1 q_f6 f7 a1) (ftm, 0))
set_option maxHeartbeats 4000000 in
set_option maxRecDepth 100000 in
theorem c_E_3_cross (l : Launch) (dC : Nat → ClassId) (dI : Nat → Nat → Nat) (sz : Nat) (py : Nat) (on : Nat) (si : Nat) (ti : Int32) (tm : Nat) (bh : Nat) (k_ftm : ClassId) (ftm : Nat → Int32) (k_fbh : ClassId) (fbh : Nat → Int32) (au : Nat) (nc : Nat) (np : Nat) (ne : Nat) (st0 : Int32) (q4 : Nat) (q5 : Nat) (q6 : Nat) (q7 : Nat) (q8 : Nat) (q9 : Nat) (q10 : Nat) (q11 : Nat) (q12 : Nat) (q13 : Nat) (q14 : Nat) (q15 : Nat) (q16 : Nat) (k_f4 : ClassId) (f4 : Nat → Int32) (k_f5 : ClassId) (q_f5 : Nat → Nat) (k_f6 : ClassId) (q_f6 : Nat → Nat) (k_f7 : ClassId) (f7 : Nat → Int32) (k_f8 : ClassId) (q_f8 : Nat → Nat) (k_f9 : ClassId) (q_f9 : Nat → Nat) (k_f10 : ClassId) (f10 : Nat → Int32) (k_f11 : ClassId) (f11 : Nat → Int32) (k_f12 : ClassId) (f12 : Nat → Int32) (k_f13 : ClassId) (f13 : Nat → Int32) (k_f14 : ClassId) (f14 : Nat → Int32) (k_f15 : ClassId) (f15 : Nat → Int32) (k_f16 : ClassId) (f16 : Nat → Int32) (a1 : Nat) (hon : on ≤ 1) (hsi : si ≤ 7) (hnc : nc ≤ 3) (hnp : np ≤ 8) (hne : ne ≤ 14) (hst0 : pm1 7 st0) (ha1 : a1 ≤ 13) : Met l yX3_cross vs_E_3_cross ({ frames := 0, cells := 0, slots := 0, locals := 0 }) (va_Pc [.ref py, .ref au, .int (nI a1)] (pu_B (dC, dI) (pa__w py (nI on) (nI si) ti tm bh k_ftm ftm k_fbh fbh au (nI nc) (nI np) (nI ne) st0 q4 q5 q6 q7 q8 q9 q10 q11 q12 q13 q14 q15 q16 k_f4 f4 k_f5 (bN 7 q_f5) k_f6 (bN 7 q_f6) k_f7 f7 k_f8 (bN 4 q_f8) k_f9 (bN 2 q_f9) k_f10 f10 k_f11 f11 k_f12 f12 k_f13 f13 k_f14 f14 k_f15 f15 k_f16 f16) (pa__t k_ftm k_fbh k_f4 k_f5 k_f6 k_f7 k_f8 k_f9 k_f10 k_f11 k_f12 k_f13 k_f14 k_f15 k_f16) sz)) (va_Qv (fun (_ : Unit) => True) (fun _ t => ∃ (z_ftm : Nat → Int32) (z_si : Nat), pu_E (dC, dI) (pa__w py (nI on) (nI z_si) ti tm bh k_ftm z_ftm k_fbh fbh au (nI nc) (nI np) (nI ne) st0 q4 q5 q6 q7 q8 q9 q10 q11 q12 q13 q14 q15 q16 k_f4 f4 k_f5 (bN 7 q_f5) k_f6 (bN 7 q_f6) k_f7 f7 k_f8 (bN 4 q_f8) k_f9 (bN 2 q_f9) k_f10 f10 k_f11 f11 k_f12 f12 k_f13 f13 k_f14 f14 k_f15 f15 k_f16 f16) (pa__t k_ftm k_fbh k_f4 k_f5 k_f6 k_f7 k_f8 k_f9 k_f10 k_f11 k_f12 k_f13 k_f14 k_f15 k_f16) (va_A ((pa__w py (nI on) (nI si) ti tm bh k_ftm ftm k_fbh fbh au (nI nc) (nI np) (nI ne) st0 q4 q5 q6 q7 q8 q9 q10 q11 q12 q13 q14 q15 q16 k_f4 f4 k_f5 (bN 7 q_f5) k_f6 (bN 7 q_f6) k_f7 f7 k_f8 (bN 4 q_f8) k_f9 (bN 2 q_f9) k_f10 f10 k_f11 f11 k_f12 f12 k_f13 f13 k_f14 f14 k_f15 f15 k_f16 f16)) sz) t ∧ (z_si ≤ 7) ∧ ((z_ftm, z_si) = (sp_E_3_cross ftm q_f6 f7 a1))) (va_A ((pa__w py (nI on) (nI si) ti tm bh k_ftm ftm k_fbh fbh au (nI nc) (nI np) (nI ne) st0 q4 q5 q6 q7 q8 q9 q10 q11 q12 q13 q14 q15 q16 k_f4 f4 k_f5 (bN 7 q_f5) k_f6 (bN 7 q_f6) k_f7 f7 k_f8 (bN 4 q_f8) k_f9 (bN 2 q_f9) k_f10 f10 k_f11 f11 k_f12 f12 k_f13 f13 k_f14 f14 k_f15 f15 k_f16 f16)) sz)) 0 0 (va_A ((pa__w py (nI on) (nI si) ti tm bh k_ftm ftm k_fbh fbh au (nI nc) (nI np) (nI ne) st0 q4 q5 q6 q7 q8 q9 q10 q11 q12 q13 q14 q15 q16 k_f4 f4 k_f5 (bN 7 q_f5) k_f6 (bN 7 q_f6) k_f7 f7 k_f8 (bN 4 q_f8) k_f9 (bN 2 q_f9) k_f10 f10 k_f11 f11 k_f12 f12 k_f13 f13 k_f14 f14 k_f15 f15 k_f16 f16)) sz) := by
  refine Met.ofW (cc := cX3_cross) (maxL := 4) (ret := none) (by decide) rfl ?_
  intro p e s m args below meth c s₁ B hml hv
  obtain ⟨rfl, rfl, hP, hK, hD0⟩ := hv
  have hx := B.exec
  have hb := B.bytes
  have hr := B.returns
  have hts := atoms_spec (ws := vs_E_3_cross) B.pre
  have v_1 := hts (.fieldLink RX3 78 "ClockReach$Automaton" "resets" "[I") (List.mem_cons_of_mem _ cm_196)
  have v_2 := hts (.fieldLink RX3 9 "ClockReach$Play" "times" "[I") (List.mem_cons_of_mem _ cm_176)
  have v_3 := hts (.fieldLink RX3 81 "ClockReach$Automaton" "targets" "[I") (List.mem_cons_of_mem _ cm_197)
  have v_4 := hts (.fieldLink RX3 31 "ClockReach$Play" "site" "I") (List.mem_cons_of_mem _ cm_174)
  have hown : s.vm.findClass RX3 = some m.cls := findClass_of_methodNamed B.named
  have hlocks := B.notSynchronized
  have hiX0 : ∀ w ∈ wsX00, w ∈ vs_E_3_cross := fun _ h => List.mem_cons_of_mem _ (cm_X0 h)
  have hiX3 : ∀ w ∈ wsX30, w ∈ vs_E_3_cross := fun _ h => List.mem_cons_of_mem _ (cm_X3 h)
  have hD := hD0.self (sz := s.heap.size)
  generalize hAe : va_A ((pa__w py (nI on) (nI si) ti tm bh k_ftm ftm k_fbh fbh au (nI nc) (nI np) (nI ne) st0 q4 q5 q6 q7 q8 q9 q10 q11 q12 q13 q14 q15 q16 k_f4 f4 k_f5 (bN 7 q_f5) k_f6 (bN 7 q_f6) k_f7 f7 k_f8 (bN 4 q_f8) k_f9 (bN 2 q_f9) k_f10 f10 k_f11 f11 k_f12 f12 k_f13 f13 k_f14 f14 k_f15 f15 k_f16 f16)) s.heap.size = A at hD ⊢
  have hA : ∀ q : Nat, s.heap.size ≤ q → A q := fun q h => by rw [← hAe]; exact Or.inr h
  have hS : va_S A s.heap s.heap [] := va_S.rf
  have hl := lv_entry ([.ref py, .ref au, .int (nI a1)]) (n := 4) (Nat.le_of_ble_eq_true rfl)
  rw [lg_entry_eq]
  generalize (lg_sl ([.ref py, .ref au, .int (nI a1)]) ++ List.replicate (4 - (lg_sl ([.ref py, .ref au, .int (nI a1)])).length) Slot.unset).toArray = ls at hl ⊢
  have hl : lv_has ls 4 [(0, .ref py), (1, .ref au), (2, .int (nI a1))] := hl
  obtain ⟨RR, hRR⟩ : ∃ x, x = (sp_E_3_cross ftm q_f6 f7 a1) := ⟨_, rfl⟩
  have hsp := hRR
  refine lv_iconst (v := 0) hx hb eX3_cross_0 (by decide) ?_
  refine lv_istore_n (lv' := [(3, .int 0), (0, .ref py), (1, .ref au), (2, .int (nI a1))]) hx hb eX3_cross_1 rfl hl (by decide) rfl (fun ls hl => ?_)
  obtain ⟨lf_6, dlf_6, hlf_6, hsp⟩ := itr_ex hsp
  delta sp_E_3_cross_L1 at hlf_6
  refine pu_while (fun nn H locs ls => ∃ (g_3 : Nat → Int32) (g_4 : Nat), nn = 3 - g_4 ∧ g_4 ≤ 3 ∧ RR = itrv dlf_6 lf_6 (g_3, g_4) ∧ va_P (dC, dI) vwCl (pa__w py (nI on) (nI si) ti tm bh k_ftm g_3 k_fbh fbh au (nI nc) (nI np) (nI ne) st0 q4 q5 q6 q7 q8 q9 q10 q11 q12 q13 q14 q15 q16 k_f4 f4 k_f5 (bN 7 q_f5) k_f6 (bN 7 q_f6) k_f7 f7 k_f8 (bN 4 q_f8) k_f9 (bN 2 q_f9) k_f10 f10 k_f11 f11 k_f12 f12 k_f13 f13 k_f14 f14 k_f15 f15 k_f16 f16) H ∧ va_D A (pa__w py (nI on) (nI si) ti tm bh k_ftm g_3 k_fbh fbh au (nI nc) (nI np) (nI ne) st0 q4 q5 q6 q7 q8 q9 q10 q11 q12 q13 q14 q15 q16 k_f4 f4 k_f5 (bN 7 q_f5) k_f6 (bN 7 q_f6) k_f7 f7 k_f8 (bN 4 q_f8) k_f9 (bN 2 q_f9) k_f10 f10 k_f11 f11 k_f12 f12 k_f13 f13 k_f14 f14 k_f15 f15 k_f16 f16) ∧ va_S A s.heap H locs ∧ lv_has ls 4 [(0, .ref py), (1, .ref au), (2, .int (nI a1)), (3, .int (nI g_4))]) 2 ?_ _ _ _ _ ⟨ftm, 0, rfl, (Nat.le_of_ble_eq_true rfl), hsp, hP, hD, hS, lv_sub hl [1, 2, 3, 0] rfl⟩
  rintro nn ih_5 H locs ls ⟨g_3, g_4, rfl, hg_4, he_8, hP, hD, hS, hl⟩
  obtain ⟨S_7, hsp, hin_9, hout_10⟩ := itr_step hlf_6 he_8
  refine lv_iload_n hx hb eX3_cross_2 rfl (lv_at hl 3 rfl) ?_
  refine lv_iconst (v := 3) hx hb eX3_cross_3 (by decide) ?_
  refine lv_icmp_ge (tgt := 34) hx hb eX3_cross_4 (by decide) (fun c_11 => ?_) (fun c_11 => ?_)
  · have c_11 : 3 ≤ g_4 := (nI_leI (a := 3) (b := g_4) (Nat.le_of_ble_eq_true rfl) (Nat.lt_of_le_of_lt hg_4 (Nat.le_of_ble_eq_true rfl))).mp c_11
    have hsp := hsp.trans (if_pos c_11)
    have hsp := hout_10 _ hsp
    refine lv_aload_n hx hb eX3_cross_34 rfl (lv_at hl 0 rfl) ?_
    refine lv_aload_n hx hb eX3_cross_35 rfl (lv_at hl 1 rfl) ?_
    refine va_get (D := (dC, dI)) (ci := 0) (v := .ref q6) (C := RX0) (T := TX0) (N := 17) hx hb hts hiX0 hown hK hP 3 rfl rfl 6 (by decide) v_3 (fun _ h9 => h9) rfl eX3_cross_36 ?_
    refine lv_iload_n hx hb eX3_cross_39 rfl (lv_at hl 2 rfl) ?_
    refine va_iald hx hb hK hP 6 4 rfl rfl (vp_in_nI (n := a1) (Nat.lt_of_le_of_lt ha1 (Nat.le_of_ble_eq_true rfl)) (Nat.le_of_ble_eq_true rfl)) eX3_cross_40 ?_
    refine lv_topi (fun y_12 ey_12 => ?_)
    obtain ⟨u_13, hu_13, qu_13, xu_13⟩ := bN_getx 7 q_f6 (n := a1) (Nat.lt_of_le_of_lt ha1 (Nat.le_of_ble_eq_true rfl))
    obtain rfl : y_12 = nI u_13 := ey_12.trans qu_13
    have hsp := hsp.trans (slet_eq xu_13)
    refine va_put (D := (dC, dI)) (ci := 3) (v := .int (nI u_13)) (ty := .int) (C := RX3) (T := TX3) (N := 5) hx hb hts hiX3 tyX3 tyX3_ok nmX3 hown hK hP hD hS 0 rfl rfl 1 (by decide) v_4 (fun _ h9 => h9) rfl (by decide +kernel) rfl rfl (Nat.le_of_ble_eq_true rfl) eX3_cross_41 (fun H locs hP hD hS => ?_)
    have hP : va_P (dC, dI) vwCl (pa__w py (nI on) (nI u_13) ti tm bh k_ftm g_3 k_fbh fbh au (nI nc) (nI np) (nI ne) st0 q4 q5 q6 q7 q8 q9 q10 q11 q12 q13 q14 q15 q16 k_f4 f4 k_f5 (bN 7 q_f5) k_f6 (bN 7 q_f6) k_f7 f7 k_f8 (bN 4 q_f8) k_f9 (bN 2 q_f9) k_f10 f10 k_f11 f11 k_f12 f12 k_f13 f13 k_f14 f14 k_f15 f15 k_f16 f16) H := hP
    have hD : va_D A (pa__w py (nI on) (nI u_13) ti tm bh k_ftm g_3 k_fbh fbh au (nI nc) (nI np) (nI ne) st0 q4 q5 q6 q7 q8 q9 q10 q11 q12 q13 q14 q15 q16 k_f4 f4 k_f5 (bN 7 q_f5) k_f6 (bN 7 q_f6) k_f7 f7 k_f8 (bN 4 q_f8) k_f9 (bN 2 q_f9) k_f10 f10 k_f11 f11 k_f12 f12 k_f13 f13 k_f14 f14 k_f15 f15 k_f16 f16) := hD
    exact W.vret hx hb hr (fun t ht hW => ⟨⟨(), rfl, trivial, ⟨g_3, u_13, ⟨by rw [ht]; exact hP, va_K.moved hW.alike hK, hD⟩, hu_13, (hsp.symm.trans hRR)⟩⟩, hS.F ht⟩) hS.2.2 eX3_cross_44
  · have c_11 : ¬ 3 ≤ g_4 := fun z => c_11 ((nI_leI (a := 3) (b := g_4) (Nat.le_of_ble_eq_true rfl) (Nat.lt_of_le_of_lt hg_4 (Nat.le_of_ble_eq_true rfl))).mpr z)
    have hsp := hsp.trans (if_neg c_11)
    refine lv_aload_n hx hb eX3_cross_7 rfl (lv_at hl 1 rfl) ?_
    refine va_get (D := (dC, dI)) (ci := 0) (v := .ref q7) (C := RX0) (T := TX0) (N := 17) hx hb hts hiX0 hown hK hP 3 rfl rfl 7 (by decide) v_1 (fun _ h9 => h9) rfl eX3_cross_8 ?_
    refine lv_iload_n hx hb eX3_cross_11 rfl (lv_at hl 2 rfl) ?_
    refine va_iald hx hb hK hP 7 5 rfl rfl (vp_in_nI (n := a1) (Nat.lt_of_le_of_lt ha1 (Nat.le_of_ble_eq_true rfl)) (Nat.le_of_ble_eq_true rfl)) eX3_cross_12 ?_
    refine lv_topi (fun y_14 ey_14 => ?_)
    have ey_14 : y_14 = f7 a1 := ey_14.trans (congrArg f7 (nI_clamp (n := a1) (Nat.lt_of_le_of_lt ha1 (Nat.le_of_ble_eq_true rfl))))
    have hsp := hsp.trans (slet_eq ey_14)
    refine lv_iload_n hx hb eX3_cross_13 rfl (lv_at hl 3 rfl) ?_
    refine lv_ishr hx hb eX3_cross_14 ?_
    refine lv_topi (fun y_15 ey_15 => ?_)
    have hsp := hsp.trans (slet_eq ey_15)
    refine lv_iconst (v := 1) hx hb eX3_cross_15 (by decide) ?_
    refine lv_iand hx hb eX3_cross_16 ?_
    refine lv_topi (fun y_16 ey_16 => ?_)
    have hsp := hsp.trans (slet_eq ey_16)
    refine lv_iconst (v := 1) hx hb eX3_cross_17 (by decide) ?_
    obtain ⟨JR_19, hJR_19, hsp⟩ := slet_ex hsp
    refine pu_join (fun H locs ls st => ∃ (g_17 : Nat → Int32), st = [] ∧ g_17 = JR_19 ∧ va_P (dC, dI) vwCl (pa__w py (nI on) (nI si) ti tm bh k_ftm g_17 k_fbh fbh au (nI nc) (nI np) (nI ne) st0 q4 q5 q6 q7 q8 q9 q10 q11 q12 q13 q14 q15 q16 k_f4 f4 k_f5 (bN 7 q_f5) k_f6 (bN 7 q_f6) k_f7 f7 k_f8 (bN 4 q_f8) k_f9 (bN 2 q_f9) k_f10 f10 k_f11 f11 k_f12 f12 k_f13 f13 k_f14 f14 k_f15 f15 k_f16 f16) H ∧ va_D A (pa__w py (nI on) (nI si) ti tm bh k_ftm g_17 k_fbh fbh au (nI nc) (nI np) (nI ne) st0 q4 q5 q6 q7 q8 q9 q10 q11 q12 q13 q14 q15 q16 k_f4 f4 k_f5 (bN 7 q_f5) k_f6 (bN 7 q_f6) k_f7 f7 k_f8 (bN 4 q_f8) k_f9 (bN 2 q_f9) k_f10 f10 k_f11 f11 k_f12 f12 k_f13 f13 k_f14 f14 k_f15 f15 k_f16 f16) ∧ va_S A s.heap H locs ∧ lv_has ls 4 [(0, .ref py), (1, .ref au), (2, .int (nI a1)), (3, .int (nI g_4))]) 28 ?_ (fun j_18 => ?_)
    · rintro H locs ls st ⟨g_17, rfl, he_20, hP, hD, hS, hl⟩
      rw [← he_20] at hsp
      refine lv_iinc (v := (nI (g_4 + 1))) (lv' := [(3, .int (nI (g_4 + 1))), (0, .ref py), (1, .ref au), (2, .int (nI a1))]) hx hb eX3_cross_28 hl (k := 3) rfl (nI_1 _) (by decide) rfl (fun ls hl => ?_)
      refine lv_goto (tgt := 2) hx hb eX3_cross_31 (by decide) ?_
      exact ih_5 (3 - (g_4 + 1)) (by omega) _ _ _ ⟨g_17, (g_4 + 1), rfl, (by omega), hin_9 _ hsp, hP, hD, hS, lv_sub hl [1, 2, 3, 0] rfl⟩
    have hsp := hJR_19
    refine lv_icmp_ne (tgt := 28) hx hb eX3_cross_18 (by decide) (fun c_21 => ?_) (fun c_21 => ?_)
    · have hcc_21 := c_21
      have hsp := hsp.trans (if_neg c_21)
      exact j_18 _ _ _ _ ⟨g_3, rfl, hsp.symm, hP, hD, hS, lv_sub hl [0, 1, 2, 3] rfl⟩
    · have hcc_21 := c_21
      have hsp := hsp.trans (if_pos c_21)
      refine lv_aload_n hx hb eX3_cross_21 rfl (lv_at hl 0 rfl) ?_
      refine va_get (D := (dC, dI)) (ci := 3) (v := .ref tm) (C := RX3) (T := TX3) (N := 5) hx hb hts hiX3 hown hK hP 0 rfl rfl 3 (by decide) v_2 (fun _ h9 => h9) rfl eX3_cross_22 ?_
      refine lv_iload_n hx hb eX3_cross_25 rfl (lv_at hl 3 rfl) ?_
      refine lv_iconst (v := 0) hx hb eX3_cross_26 (by decide) ?_
      refine va_iast hx hb hK hP hD hS 1 0 rfl rfl (vp_in_nI (n := g_4) (by omega) (Nat.le_of_ble_eq_true rfl)) eX3_cross_27 (fun H locs hP hD hS => ?_)
      obtain ⟨f_22, ef_22, xf_22⟩ := up_x g_3 (n := g_4) 0 (Nat.lt_of_le_of_lt hg_4 (Nat.le_of_ble_eq_true rfl))
      have hP : va_P (dC, dI) vwCl (pa__w py (nI on) (nI si) ti tm bh k_ftm f_22 k_fbh fbh au (nI nc) (nI np) (nI ne) st0 q4 q5 q6 q7 q8 q9 q10 q11 q12 q13 q14 q15 q16 k_f4 f4 k_f5 (bN 7 q_f5) k_f6 (bN 7 q_f6) k_f7 f7 k_f8 (bN 4 q_f8) k_f9 (bN 2 q_f9) k_f10 f10 k_f11 f11 k_f12 f12 k_f13 f13 k_f14 f14 k_f15 f15 k_f16 f16) H := by rw [← ef_22]; exact hP
      have hD : va_D A (pa__w py (nI on) (nI si) ti tm bh k_ftm f_22 k_fbh fbh au (nI nc) (nI np) (nI ne) st0 q4 q5 q6 q7 q8 q9 q10 q11 q12 q13 q14 q15 q16 k_f4 f4 k_f5 (bN 7 q_f5) k_f6 (bN 7 q_f6) k_f7 f7 k_f8 (bN 4 q_f8) k_f9 (bN 2 q_f9) k_f10 f10 k_f11 f11 k_f12 f12 k_f13 f13 k_f14 f14 k_f15 f15 k_f16 f16) := by rw [← ef_22]; exact hD
      have hsp := hsp.trans (slet_eq xf_22)
      exact j_18 _ _ _ _ ⟨f_22, rfl, hsp.symm, hP, hD, hS, lv_sub hl [0, 1, 2, 3] rfl⟩
theorem eX3_openEdges_0 : decode cX3_openEdges 0 = .ok (.iconst 0, 1) := by decide +kernel
theorem eX3_openEdges_1 : decode cX3_openEdges 1 = .ok (.istore_n 2, 1) := by decide +kernel
theorem eX3_openEdges_2 : decode cX3_openEdges 2 = .ok (.iconst 0, 1) := by decide +kernel
theorem eX3_openEdges_3 : decode cX3_openEdges 3 = .ok (.istore_n 3, 1) := by decide +kernel
theorem eX3_openEdges_4 : decode cX3_openEdges 4 = .ok (.iload_n 3, 1) := by decide +kernel
theorem eX3_openEdges_5 : decode cX3_openEdges 5 = .ok (.aload_n 1, 1) := by decide +kernel
theorem eX3_openEdges_6 : decode cX3_openEdges 6 = .ok (.getfield 84, 3) := by decide +kernel
theorem eX3_openEdges_9 : decode cX3_openEdges 9 = .ok (.if_icmp .ge 24, 3) := by decide +kernel
theorem eX3_openEdges_12 : decode cX3_openEdges 12 = .ok (.aload_n 0, 1) := by decide +kernel
theorem eX3_openEdges_13 : decode cX3_openEdges 13 = .ok (.aload_n 1, 1) := by decide +kernel
theorem eX3_openEdges_14 : decode cX3_openEdges 14 = .ok (.iload_n 3, 1) := by decide +kernel
theorem eX3_openEdges_15 : decode cX3_openEdges 15 = .ok (.invokevirtual 87, 3) := by decide +kernel
theorem eX3_openEdges_18 : decode cX3_openEdges 18 = .ok (.ifCond .eq 9, 3) := by decide +kernel
theorem eX3_openEdges_21 : decode cX3_openEdges 21 = .ok (.iload_n 2, 1) := by decide +kernel
theorem eX3_openEdges_22 : decode cX3_openEdges 22 = .ok (.iconst 1, 1) := by decide +kernel
theorem eX3_openEdges_23 : decode cX3_openEdges 23 = .ok (.iload_n 3, 1) := by decide +kernel
theorem eX3_openEdges_24 : decode cX3_openEdges 24 = .ok (.ishl, 1) := by decide +kernel
theorem eX3_openEdges_25 : decode cX3_openEdges 25 = .ok (.ior, 1) := by decide +kernel
theorem eX3_openEdges_26 : decode cX3_openEdges 26 = .ok (.istore_n 2, 1) := by decide +kernel
theorem eX3_openEdges_27 : decode cX3_openEdges 27 = .ok (.iinc 3 1, 3) := by decide +kernel
theorem eX3_openEdges_30 : decode cX3_openEdges 30 = .ok (.goto (-26), 3) := by decide +kernel
theorem eX3_openEdges_33 : decode cX3_openEdges 33 = .ok (.iload_n 2, 1) := by decide +kernel
theorem eX3_openEdges_34 : decode cX3_openEdges 34 = .ok (.ireturn, 1) := by decide +kernel
abbrev vs_E_3_openEdges : List Cond := .code yX3_openEdges cX3_openEdges 4 (some .int) :: CM
theorem g_E_3_openEdges_E_3_opens : GoodIn vs_E_3_openEdges (wsV RX3 87 RX3 yX3_opens vs_E_3_opens) := cm_gV cm_201 cm_202 cm_203 cm_204 cm_193
noncomputable def sp_E_3_openEdges_L1 (si : Nat) (ftm : Nat → Int32) (ne : Nat) (q_f5 : Nat → Nat) (q_f6 : Nat → Nat) (f7 : Nat → Int32) (q_f8 : Nat → Nat) (q_f9 : Nat → Nat) (f12 : Nat → Int32) (f13 : Nat → Int32) : ((Nat → Int32) × Int32 × Nat) → ((Nat → Int32) × Int32 × Nat) ⊕ (Int32 × (Nat → Int32)) := fun (g_4, g_5, g_6) => (if ne ≤ g_6 then (Sum.inr (g_5, g_4)) else (slet (sp_E_3_opens si ftm g_4 q_f5 q_f6 f7 q_f8 q_f9 f12 f13 g_6) (fun (u_16, z_fbh_15) => (slet (α := Int32) (if u_16 = 0 then g_5 else (slet ((1 : Int32) <<< (((nI g_6) : Int32) &&& 31)) (fun y_22 => (slet ((g_5 : Int32) ||| (y_22 : Int32)) (fun y_23 => y_23))))) (fun g_17 => (Sum.inl (z_fbh_15, g_17, (g_6 + 1))))))))
noncomputable def sp_E_3_openEdges (si : Nat) (ftm : Nat → Int32) (fbh : Nat → Int32) (ne : Nat) (q_f5 : Nat → Nat) (q_f6 : Nat → Nat) (f7 : Nat → Int32) (q_f8 : Nat → Nat) (q_f9 : Nat → Nat) (f12 : Nat → Int32) (f13 : Nat → Int32) : Int32 × (Nat → Int32) := (itrv (α := (Nat → Int32) × Int32 × Nat) (β := (Int32 × (Nat → Int32))) default (sp_E_3_openEdges_L1 si ftm ne q_f5 q_f6 f7 q_f8 q_f9 f12 f13) (fbh, 0, 0))
set_option maxHeartbeats 4000000 in
set_option maxRecDepth 100000 in
theorem c_E_3_openEdges (l : Launch) (dC : Nat → ClassId) (dI : Nat → Nat → Nat) (sz : Nat) (py : Nat) (on : Nat) (si : Nat) (ti : Int32) (tm : Nat) (bh : Nat) (k_ftm : ClassId) (ftm : Nat → Int32) (k_fbh : ClassId) (fbh : Nat → Int32) (au : Nat) (nc : Nat) (np : Nat) (ne : Nat) (st0 : Int32) (q4 : Nat) (q5 : Nat) (q6 : Nat) (q7 : Nat) (q8 : Nat) (q9 : Nat) (q10 : Nat) (q11 : Nat) (q12 : Nat) (q13 : Nat) (q14 : Nat) (q15 : Nat) (q16 : Nat) (k_f4 : ClassId) (f4 : Nat → Int32) (k_f5 : ClassId) (q_f5 : Nat → Nat) (k_f6 : ClassId) (q_f6 : Nat → Nat) (k_f7 : ClassId) (f7 : Nat → Int32) (k_f8 : ClassId) (q_f8 : Nat → Nat) (k_f9 : ClassId) (q_f9 : Nat → Nat) (k_f10 : ClassId) (f10 : Nat → Int32) (k_f11 : ClassId) (f11 : Nat → Int32) (k_f12 : ClassId) (f12 : Nat → Int32) (k_f13 : ClassId) (f13 : Nat → Int32) (k_f14 : ClassId) (f14 : Nat → Int32) (k_f15 : ClassId) (f15 : Nat → Int32) (k_f16 : ClassId) (f16 : Nat → Int32) (hon : on ≤ 1) (hsi : si ≤ 7) (hnc : nc ≤ 3) (hnp : np ≤ 8) (hne : ne ≤ 14) (hst0 : pm1 7 st0) : Met l yX3_openEdges vs_E_3_openEdges ({ frames := 3, cells := 0, slots := 0, locals := 69 }) (va_Pc [.ref py, .ref au] (pu_B (dC, dI) (pa__w py (nI on) (nI si) ti tm bh k_ftm ftm k_fbh fbh au (nI nc) (nI np) (nI ne) st0 q4 q5 q6 q7 q8 q9 q10 q11 q12 q13 q14 q15 q16 k_f4 f4 k_f5 (bN 7 q_f5) k_f6 (bN 7 q_f6) k_f7 f7 k_f8 (bN 4 q_f8) k_f9 (bN 2 q_f9) k_f10 f10 k_f11 f11 k_f12 f12 k_f13 f13 k_f14 f14 k_f15 f15 k_f16 f16) (pa__t k_ftm k_fbh k_f4 k_f5 k_f6 k_f7 k_f8 k_f9 k_f10 k_f11 k_f12 k_f13 k_f14 k_f15 k_f16) sz)) (va_Qi (fun (r : Int32) (_ : Unit) => r = (sp_E_3_openEdges si ftm fbh ne q_f5 q_f6 f7 q_f8 q_f9 f12 f13).1) (fun _ t => ∃ (z_fbh : Nat → Int32), pu_E (dC, dI) (pa__w py (nI on) (nI si) ti tm bh k_ftm ftm k_fbh z_fbh au (nI nc) (nI np) (nI ne) st0 q4 q5 q6 q7 q8 q9 q10 q11 q12 q13 q14 q15 q16 k_f4 f4 k_f5 (bN 7 q_f5) k_f6 (bN 7 q_f6) k_f7 f7 k_f8 (bN 4 q_f8) k_f9 (bN 2 q_f9) k_f10 f10 k_f11 f11 k_f12 f12 k_f13 f13 k_f14 f14 k_f15 f15 k_f16 f16) (pa__t k_ftm k_fbh k_f4 k_f5 k_f6 k_f7 k_f8 k_f9 k_f10 k_f11 k_f12 k_f13 k_f14 k_f15 k_f16) (va_A ((pa__w py (nI on) (nI si) ti tm bh k_ftm ftm k_fbh fbh au (nI nc) (nI np) (nI ne) st0 q4 q5 q6 q7 q8 q9 q10 q11 q12 q13 q14 q15 q16 k_f4 f4 k_f5 (bN 7 q_f5) k_f6 (bN 7 q_f6) k_f7 f7 k_f8 (bN 4 q_f8) k_f9 (bN 2 q_f9) k_f10 f10 k_f11 f11 k_f12 f12 k_f13 f13 k_f14 f14 k_f15 f15 k_f16 f16)) sz) t ∧ (z_fbh = (sp_E_3_openEdges si ftm fbh ne q_f5 q_f6 f7 q_f8 q_f9 f12 f13).2)) (va_A ((pa__w py (nI on) (nI si) ti tm bh k_ftm ftm k_fbh fbh au (nI nc) (nI np) (nI ne) st0 q4 q5 q6 q7 q8 q9 q10 q11 q12 q13 q14 q15 q16 k_f4 f4 k_f5 (bN 7 q_f5) k_f6 (bN 7 q_f6) k_f7 f7 k_f8 (bN 4 q_f8) k_f9 (bN 2 q_f9) k_f10 f10 k_f11 f11 k_f12 f12 k_f13 f13 k_f14 f14 k_f15 f15 k_f16 f16)) sz)) 0 0 (va_A ((pa__w py (nI on) (nI si) ti tm bh k_ftm ftm k_fbh fbh au (nI nc) (nI np) (nI ne) st0 q4 q5 q6 q7 q8 q9 q10 q11 q12 q13 q14 q15 q16 k_f4 f4 k_f5 (bN 7 q_f5) k_f6 (bN 7 q_f6) k_f7 f7 k_f8 (bN 4 q_f8) k_f9 (bN 2 q_f9) k_f10 f10 k_f11 f11 k_f12 f12 k_f13 f13 k_f14 f14 k_f15 f15 k_f16 f16)) sz) := by
  refine Met.ofW (cc := cX3_openEdges) (maxL := 4) (ret := (some .int)) (by decide) rfl ?_
  intro p e s m args below meth c s₁ B hml hv
  obtain ⟨rfl, rfl, hP, hK, hD0⟩ := hv
  have hx := B.exec
  have hb := B.bytes
  have hr := B.returns
  have hts := atoms_spec (ws := vs_E_3_openEdges) B.pre
  have v_1 := hts (.fieldLink RX3 84 "ClockReach$Automaton" "edges" "I") (List.mem_cons_of_mem _ cm_200)
  have hown : s.vm.findClass RX3 = some m.cls := findClass_of_methodNamed B.named
  have hlocks := B.notSynchronized
  have hiX0 : ∀ w ∈ wsX00, w ∈ vs_E_3_openEdges := fun _ h => List.mem_cons_of_mem _ (cm_X0 h)
  have hD := hD0.self (sz := s.heap.size)
  generalize hAe : va_A ((pa__w py (nI on) (nI si) ti tm bh k_ftm ftm k_fbh fbh au (nI nc) (nI np) (nI ne) st0 q4 q5 q6 q7 q8 q9 q10 q11 q12 q13 q14 q15 q16 k_f4 f4 k_f5 (bN 7 q_f5) k_f6 (bN 7 q_f6) k_f7 f7 k_f8 (bN 4 q_f8) k_f9 (bN 2 q_f9) k_f10 f10 k_f11 f11 k_f12 f12 k_f13 f13 k_f14 f14 k_f15 f15 k_f16 f16)) s.heap.size = A at hD ⊢
  have hA : ∀ q : Nat, s.heap.size ≤ q → A q := fun q h => by rw [← hAe]; exact Or.inr h
  have hS : va_S A s.heap s.heap [] := va_S.rf
  have hl := lv_entry ([.ref py, .ref au]) (n := 4) (Nat.le_of_ble_eq_true rfl)
  rw [lg_entry_eq]
  generalize (lg_sl ([.ref py, .ref au]) ++ List.replicate (4 - (lg_sl ([.ref py, .ref au])).length) Slot.unset).toArray = ls at hl ⊢
  have hl : lv_has ls 4 [(0, .ref py), (1, .ref au)] := hl
  obtain ⟨RR, hRR⟩ : ∃ x, x = (sp_E_3_openEdges si ftm fbh ne q_f5 q_f6 f7 q_f8 q_f9 f12 f13) := ⟨_, rfl⟩
  have hsp := hRR
  refine lv_iconst (v := 0) hx hb eX3_openEdges_0 (by decide) ?_
  refine lv_istore_n (lv' := [(2, .int 0), (0, .ref py), (1, .ref au)]) hx hb eX3_openEdges_1 rfl hl (by decide) rfl (fun ls hl => ?_)
  refine lv_iconst (v := 0) hx hb eX3_openEdges_2 (by decide) ?_
  refine lv_istore_n (lv' := [(3, .int 0), (2, .int 0), (0, .ref py), (1, .ref au)]) hx hb eX3_openEdges_3 rfl hl (by decide) rfl (fun ls hl => ?_)
  obtain ⟨lf_8, dlf_8, hlf_8, hsp⟩ := itr_ex hsp
  delta sp_E_3_openEdges_L1 at hlf_8
  refine pu_while (fun nn H locs ls => ∃ (g_4 : Nat → Int32) (g_5 : Int32) (g_6 : Nat), nn = 14 - g_6 ∧ g_6 ≤ 14 ∧ RR = itrv dlf_8 lf_8 (g_4, g_5, g_6) ∧ va_P (dC, dI) vwCl (pa__w py (nI on) (nI si) ti tm bh k_ftm ftm k_fbh g_4 au (nI nc) (nI np) (nI ne) st0 q4 q5 q6 q7 q8 q9 q10 q11 q12 q13 q14 q15 q16 k_f4 f4 k_f5 (bN 7 q_f5) k_f6 (bN 7 q_f6) k_f7 f7 k_f8 (bN 4 q_f8) k_f9 (bN 2 q_f9) k_f10 f10 k_f11 f11 k_f12 f12 k_f13 f13 k_f14 f14 k_f15 f15 k_f16 f16) H ∧ va_D A (pa__w py (nI on) (nI si) ti tm bh k_ftm ftm k_fbh g_4 au (nI nc) (nI np) (nI ne) st0 q4 q5 q6 q7 q8 q9 q10 q11 q12 q13 q14 q15 q16 k_f4 f4 k_f5 (bN 7 q_f5) k_f6 (bN 7 q_f6) k_f7 f7 k_f8 (bN 4 q_f8) k_f9 (bN 2 q_f9) k_f10 f10 k_f11 f11 k_f12 f12 k_f13 f13 k_f14 f14 k_f15 f15 k_f16 f16) ∧ va_S A s.heap H locs ∧ lv_has ls 4 [(0, .ref py), (1, .ref au), (2, .int g_5), (3, .int (nI g_6))]) 4 ?_ _ _ _ _ ⟨fbh, 0, 0, rfl, (Nat.le_of_ble_eq_true rfl), hsp, hP, hD, hS, lv_sub hl [2, 3, 1, 0] rfl⟩
  rintro nn ih_7 H locs ls ⟨g_4, g_5, g_6, rfl, hg_6, he_10, hP, hD, hS, hl⟩
  obtain ⟨S_9, hsp, hin_11, hout_12⟩ := itr_step hlf_8 he_10
  refine lv_iload_n hx hb eX3_openEdges_4 rfl (lv_at hl 3 rfl) ?_
  refine lv_aload_n hx hb eX3_openEdges_5 rfl (lv_at hl 1 rfl) ?_
  refine va_get (D := (dC, dI)) (ci := 0) (v := .int (nI ne)) (C := RX0) (T := TX0) (N := 17) hx hb hts hiX0 hown hK hP 3 rfl rfl 2 (by decide) v_1 (fun _ h9 => h9) rfl eX3_openEdges_6 ?_
  refine lv_icmp_ge (tgt := 33) hx hb eX3_openEdges_9 (by decide) (fun c_13 => ?_) (fun c_13 => ?_)
  · have c_13 : ne ≤ g_6 := (nI_leI (a := ne) (b := g_6) (Nat.lt_of_le_of_lt hne (Nat.le_of_ble_eq_true rfl)) (Nat.lt_of_le_of_lt hg_6 (Nat.le_of_ble_eq_true rfl))).mp c_13
    have hsp := hsp.trans (if_pos c_13)
    have hsp := hout_12 _ hsp
    refine lv_iload_n hx hb eX3_openEdges_33 rfl (lv_at hl 2 rfl) ?_
    exact W.iret (v := g_5) hx hb hr (fun t ht hW => ⟨⟨g_5, (), rfl, (congrArg Prod.fst (hsp.symm.trans hRR)), ⟨g_4, ⟨by rw [ht]; exact hP, va_K.moved hW.alike hK, hD⟩, (congrArg Prod.snd (hsp.symm.trans hRR))⟩⟩, hS.F ht⟩) hS.2.2 eX3_openEdges_34
  · have c_13 : ¬ ne ≤ g_6 := fun z => c_13 ((nI_leI (a := ne) (b := g_6) (Nat.lt_of_le_of_lt hne (Nat.le_of_ble_eq_true rfl)) (Nat.lt_of_le_of_lt hg_6 (Nat.le_of_ble_eq_true rfl))).mpr z)
    have hsp := hsp.trans (if_neg c_13)
    refine lv_aload_n hx hb eX3_openEdges_12 rfl (lv_at hl 0 rfl) ?_
    refine lv_aload_n hx hb eX3_openEdges_13 rfl (lv_at hl 1 rfl) ?_
    refine lv_iload_n hx hb eX3_openEdges_14 rfl (lv_at hl 3 rfl) ?_
    have hFc := pu_free hD hS hA
    refine va_calli (va_runV (As := [.ref au, .int (nI g_6)]) (rest := []) ⟨hx, hb, hml, hown, hts⟩ (c_E_3_opens l dC dI _ py on si ti tm bh k_ftm ftm k_fbh g_4 au nc np ne st0 q4 q5 q6 q7 q8 q9 q10 q11 q12 q13 q14 q15 q16 k_f4 f4 k_f5 q_f5 k_f6 q_f6 k_f7 f7 k_f8 q_f8 k_f9 q_f9 k_f10 f10 k_f11 f11 k_f12 f12 k_f13 f13 k_f14 f14 k_f15 f15 k_f16 f16 g_6 hon hsi hnc hnp hne (hst0) (by omega)) (cwV 2 hts g_E_3_openEdges_E_3_opens rfl rfl rfl (by decide +kernel) ⟨Nat.le_of_ble_eq_true rfl, Nat.le_of_ble_eq_true rfl⟩) ⟨pu_bl, va_recv hK hP (ci := 3) (q0 := 0) rfl rfl, pu_in hP hK hD⟩ rfl rfl hl.1 rfl (lv_room (Nat.le_of_ble_eq_true rfl)) eX3_openEdges_15 ⟨Nat.le_of_ble_eq_true rfl, Nat.le_of_ble_eq_true rfl⟩) hS (fun q _ h => hFc q h) hFc (fun r_14 u t H1 locs ht hvm hw hB hz1 hk1 hS => ?_)
    obtain ⟨z_fbh_15, ⟨hP1, -, hD1⟩, xr_14_0⟩ := hB
    rw [ht] at hP1
    have hP := hP1
    have hD := pu_all hFc hD1
    clear hP1 hD1 hFc
    clear hk1 hz1 ht hvm
    generalize H1 = H at hP hS ⊢
    obtain ⟨u_16, hu_16, rfl, iu_16⟩ := hw
    have iu_16 : (u_16, z_fbh_15) = (sp_E_3_opens si ftm g_4 q_f5 q_f6 f7 q_f8 q_f9 f12 f13 g_6) := Prod.ext iu_16 xr_14_0
    have hsp := hsp.trans (slet_eq iu_16)
    obtain ⟨JR_19, hJR_19, hsp⟩ := slet_ex hsp
    refine pu_join (fun H locs ls st => ∃ (g_17 : Int32), st = [] ∧ g_17 = JR_19 ∧ va_P (dC, dI) vwCl (pa__w py (nI on) (nI si) ti tm bh k_ftm ftm k_fbh z_fbh_15 au (nI nc) (nI np) (nI ne) st0 q4 q5 q6 q7 q8 q9 q10 q11 q12 q13 q14 q15 q16 k_f4 f4 k_f5 (bN 7 q_f5) k_f6 (bN 7 q_f6) k_f7 f7 k_f8 (bN 4 q_f8) k_f9 (bN 2 q_f9) k_f10 f10 k_f11 f11 k_f12 f12 k_f13 f13 k_f14 f14 k_f15 f15 k_f16 f16) H ∧ va_D A (pa__w py (nI on) (nI si) ti tm bh k_ftm ftm k_fbh z_fbh_15 au (nI nc) (nI np) (nI ne) st0 q4 q5 q6 q7 q8 q9 q10 q11 q12 q13 q14 q15 q16 k_f4 f4 k_f5 (bN 7 q_f5) k_f6 (bN 7 q_f6) k_f7 f7 k_f8 (bN 4 q_f8) k_f9 (bN 2 q_f9) k_f10 f10 k_f11 f11 k_f12 f12 k_f13 f13 k_f14 f14 k_f15 f15 k_f16 f16) ∧ va_S A s.heap H locs ∧ lv_has ls 4 [(0, .ref py), (1, .ref au), (2, .int g_17), (3, .int (nI g_6))]) 27 ?_ (fun j_18 => ?_)
    · rintro H locs ls st ⟨g_17, rfl, he_20, hP, hD, hS, hl⟩
      rw [← he_20] at hsp
      refine lv_iinc (v := (nI (g_6 + 1))) (lv' := [(3, .int (nI (g_6 + 1))), (0, .ref py), (1, .ref au), (2, .int g_17)]) hx hb eX3_openEdges_27 hl (k := 3) rfl (nI_1 _) (by decide) rfl (fun ls hl => ?_)
      refine lv_goto (tgt := 4) hx hb eX3_openEdges_30 (by decide) ?_
      exact ih_7 (14 - (g_6 + 1)) (by omega) _ _ _ ⟨z_fbh_15, g_17, (g_6 + 1), rfl, (by omega), hin_11 _ hsp, hP, hD, hS, lv_sub hl [1, 2, 3, 0] rfl⟩
    have hsp := hJR_19
    refine lv_if_eq (tgt := 27) hx hb eX3_openEdges_18 (by decide) (fun c_21 => ?_) (fun c_21 => ?_)
    · have c_21 : u_16 = 0 := (nI_eq (a := u_16) (b := 0) (Nat.lt_of_le_of_lt hu_16 (Nat.le_of_ble_eq_true rfl)) (Nat.le_of_ble_eq_true rfl)).mp c_21
      have hsp := hsp.trans (if_pos c_21)
      exact j_18 _ _ _ _ ⟨g_5, rfl, hsp.symm, hP, hD, hS, lv_sub hl [0, 1, 2, 3] rfl⟩
    · have c_21 : ¬ u_16 = 0 := fun z => c_21 ((nI_eq (a := u_16) (b := 0) (Nat.lt_of_le_of_lt hu_16 (Nat.le_of_ble_eq_true rfl)) (Nat.le_of_ble_eq_true rfl)).mpr z)
      have hsp := hsp.trans (if_neg c_21)
      refine lv_iload_n hx hb eX3_openEdges_21 rfl (lv_at hl 2 rfl) ?_
      refine lv_iconst (v := 1) hx hb eX3_openEdges_22 (by decide) ?_
      refine lv_iload_n hx hb eX3_openEdges_23 rfl (lv_at hl 3 rfl) ?_
      refine lv_ishl hx hb eX3_openEdges_24 ?_
      refine lv_topi (fun y_22 ey_22 => ?_)
      have hsp := hsp.trans (slet_eq ey_22)
      refine lv_ior hx hb eX3_openEdges_25 ?_
      refine lv_topi (fun y_23 ey_23 => ?_)
      have hsp := hsp.trans (slet_eq ey_23)
      refine lv_istore_n (lv' := [(2, .int y_23), (0, .ref py), (1, .ref au), (3, .int (nI g_6))]) hx hb eX3_openEdges_26 rfl hl (by decide) rfl (fun ls hl => ?_)
      exact j_18 _ _ _ _ ⟨y_23, rfl, hsp.symm, hP, hD, hS, lv_sub hl [1, 2, 0, 3] rfl⟩
theorem eX3_goesBy_0 : decode cX3_goesBy 0 = .ok (.iload_n 2, 1) := by decide +kernel
theorem eX3_goesBy_1 : decode cX3_goesBy 1 = .ok (.ifCond .lt 12, 3) := by decide +kernel
theorem eX3_goesBy_4 : decode cX3_goesBy 4 = .ok (.iload_n 2, 1) := by decide +kernel
theorem eX3_goesBy_5 : decode cX3_goesBy 5 = .ok (.aload_n 0, 1) := by decide +kernel
theorem eX3_goesBy_6 : decode cX3_goesBy 6 = .ok (.aload_n 1, 1) := by decide +kernel
theorem eX3_goesBy_7 : decode cX3_goesBy 7 = .ok (.invokevirtual 91, 3) := by decide +kernel
theorem eX3_goesBy_10 : decode cX3_goesBy 10 = .ok (.if_icmp .le 5, 3) := by decide +kernel
theorem eX3_goesBy_13 : decode cX3_goesBy 13 = .ok (.iconst 0, 1) := by decide +kernel
theorem eX3_goesBy_14 : decode cX3_goesBy 14 = .ok (.ireturn, 1) := by decide +kernel
theorem eX3_goesBy_15 : decode cX3_goesBy 15 = .ok (.aload_n 0, 1) := by decide +kernel
theorem eX3_goesBy_16 : decode cX3_goesBy 16 = .ok (.iload_n 2, 1) := by decide +kernel
theorem eX3_goesBy_17 : decode cX3_goesBy 17 = .ok (.invokevirtual 95, 3) := by decide +kernel
theorem eX3_goesBy_20 : decode cX3_goesBy 20 = .ok (.aload_n 0, 1) := by decide +kernel
theorem eX3_goesBy_21 : decode cX3_goesBy 21 = .ok (.aload_n 1, 1) := by decide +kernel
theorem eX3_goesBy_22 : decode cX3_goesBy 22 = .ok (.iload_n 3, 1) := by decide +kernel
theorem eX3_goesBy_23 : decode cX3_goesBy 23 = .ok (.invokevirtual 87, 3) := by decide +kernel
theorem eX3_goesBy_26 : decode cX3_goesBy 26 = .ok (.ifCond .ne 5, 3) := by decide +kernel
theorem eX3_goesBy_29 : decode cX3_goesBy 29 = .ok (.iconst 0, 1) := by decide +kernel
theorem eX3_goesBy_30 : decode cX3_goesBy 30 = .ok (.ireturn, 1) := by decide +kernel
theorem eX3_goesBy_31 : decode cX3_goesBy 31 = .ok (.aload_n 0, 1) := by decide +kernel
theorem eX3_goesBy_32 : decode cX3_goesBy 32 = .ok (.aload_n 1, 1) := by decide +kernel
theorem eX3_goesBy_33 : decode cX3_goesBy 33 = .ok (.iload_n 3, 1) := by decide +kernel
theorem eX3_goesBy_34 : decode cX3_goesBy 34 = .ok (.invokevirtual 99, 3) := by decide +kernel
theorem eX3_goesBy_37 : decode cX3_goesBy 37 = .ok (.iconst 1, 1) := by decide +kernel
theorem eX3_goesBy_38 : decode cX3_goesBy 38 = .ok (.ireturn, 1) := by decide +kernel
abbrev vs_E_3_goesBy : List Cond := .code yX3_goesBy cX3_goesBy 4 (some .boolean) :: CM
theorem g_E_3_goesBy_E_3_longestWait : GoodIn vs_E_3_goesBy (wsV RX3 91 RX3 yX3_longestWait vs_E_3_longestWait) := cm_gV cm_206 cm_207 cm_208 cm_204 cm_181
theorem g_E_3_goesBy_E_3_pass : GoodIn vs_E_3_goesBy (wsV RX3 95 RX3 yX3_pass vs_E_3_pass) := cm_gV cm_209 cm_210 cm_211 cm_204 cm_192
theorem g_E_3_goesBy_E_3_opens : GoodIn vs_E_3_goesBy (wsV RX3 87 RX3 yX3_opens vs_E_3_opens) := cm_gV cm_201 cm_202 cm_203 cm_204 cm_193
theorem g_E_3_goesBy_E_3_cross : GoodIn vs_E_3_goesBy (wsV RX3 99 RX3 yX3_cross vs_E_3_cross) := cm_gV cm_212 cm_213 cm_214 cm_204 cm_198
noncomputable def sp_E_3_goesBy (si : Nat) (ti : Int32) (ftm : Nat → Int32) (fbh : Nat → Int32) (f4 : Nat → Int32) (q_f5 : Nat → Nat) (q_f6 : Nat → Nat) (f7 : Nat → Int32) (q_f8 : Nat → Nat) (q_f9 : Nat → Nat) (f12 : Nat → Int32) (f13 : Nat → Int32) (p1 : Int32) (a2 : Nat) : Nat × (Nat → Int32) × (Nat → Int32) × Nat × Int32 := (if (p1 : Int32) < 0 then (0, ftm, fbh, si, ti) else (slet (sp_E_3_longestWait si ftm f4 q_f8 q_f9 f12) (fun r_2 => (if (p1 : Int32) ≤ r_2 then (slet (sp_E_3_pass ti ftm p1) (fun (z_ftm_5, z_ti_6) => (slet (sp_E_3_opens si z_ftm_5 fbh q_f5 q_f6 f7 q_f8 q_f9 f12 f13 a2) (fun (u_9, z_fbh_8) => (if u_9 = 0 then (0, z_ftm_5, z_fbh_8, si, z_ti_6) else (slet (sp_E_3_cross z_ftm_5 q_f6 f7 a2) (fun (z_ftm_12, z_si_13) => (1, z_ftm_12, z_fbh_8, z_si_13, z_ti_6)))))))) else (0, ftm, fbh, si, ti)))))
set_option maxHeartbeats 4000000 in
set_option maxRecDepth 100000 in
theorem c_E_3_goesBy (l : Launch) (dC : Nat → ClassId) (dI : Nat → Nat → Nat) (sz : Nat) (py : Nat) (on : Nat) (si : Nat) (ti : Int32) (tm : Nat) (bh : Nat) (k_ftm : ClassId) (ftm : Nat → Int32) (k_fbh : ClassId) (fbh : Nat → Int32) (au : Nat) (nc : Nat) (np : Nat) (ne : Nat) (st0 : Int32) (q4 : Nat) (q5 : Nat) (q6 : Nat) (q7 : Nat) (q8 : Nat) (q9 : Nat) (q10 : Nat) (q11 : Nat) (q12 : Nat) (q13 : Nat) (q14 : Nat) (q15 : Nat) (q16 : Nat) (k_f4 : ClassId) (f4 : Nat → Int32) (k_f5 : ClassId) (q_f5 : Nat → Nat) (k_f6 : ClassId) (q_f6 : Nat → Nat) (k_f7 : ClassId) (f7 : Nat → Int32) (k_f8 : ClassId) (q_f8 : Nat → Nat) (k_f9 : ClassId) (q_f9 : Nat → Nat) (k_f10 : ClassId) (f10 : Nat → Int32) (k_f11 : ClassId) (f11 : Nat → Int32) (k_f12 : ClassId) (f12 : Nat → Int32) (k_f13 : ClassId) (f13 : Nat → Int32) (k_f14 : ClassId) (f14 : Nat → Int32) (k_f15 : ClassId) (f15 : Nat → Int32) (k_f16 : ClassId) (f16 : Nat → Int32) (p1 : Int32) (a2 : Nat) (hon : on ≤ 1) (hsi : si ≤ 7) (hnc : nc ≤ 3) (hnp : np ≤ 8) (hne : ne ≤ 14) (hst0 : pm1 7 st0) (ha2 : a2 ≤ 13) : Met l yX3_goesBy vs_E_3_goesBy ({ frames := 3, cells := 0, slots := 0, locals := 69 }) (va_Pc [.ref py, .ref au, .int p1, .int (nI a2)] (pu_B (dC, dI) (pa__w py (nI on) (nI si) ti tm bh k_ftm ftm k_fbh fbh au (nI nc) (nI np) (nI ne) st0 q4 q5 q6 q7 q8 q9 q10 q11 q12 q13 q14 q15 q16 k_f4 f4 k_f5 (bN 7 q_f5) k_f6 (bN 7 q_f6) k_f7 f7 k_f8 (bN 4 q_f8) k_f9 (bN 2 q_f9) k_f10 f10 k_f11 f11 k_f12 f12 k_f13 f13 k_f14 f14 k_f15 f15 k_f16 f16) (pa__t k_ftm k_fbh k_f4 k_f5 k_f6 k_f7 k_f8 k_f9 k_f10 k_f11 k_f12 k_f13 k_f14 k_f15 k_f16) sz)) (va_Qi (fun (r : Int32) (_ : Unit) => ∃ v : Nat, v ≤ 1 ∧ r = nI v ∧ v = (sp_E_3_goesBy si ti ftm fbh f4 q_f5 q_f6 f7 q_f8 q_f9 f12 f13 p1 a2).1) (fun _ t => ∃ (z_ftm : Nat → Int32) (z_fbh : Nat → Int32) (z_si : Nat) (z_ti : Int32), pu_E (dC, dI) (pa__w py (nI on) (nI z_si) z_ti tm bh k_ftm z_ftm k_fbh z_fbh au (nI nc) (nI np) (nI ne) st0 q4 q5 q6 q7 q8 q9 q10 q11 q12 q13 q14 q15 q16 k_f4 f4 k_f5 (bN 7 q_f5) k_f6 (bN 7 q_f6) k_f7 f7 k_f8 (bN 4 q_f8) k_f9 (bN 2 q_f9) k_f10 f10 k_f11 f11 k_f12 f12 k_f13 f13 k_f14 f14 k_f15 f15 k_f16 f16) (pa__t k_ftm k_fbh k_f4 k_f5 k_f6 k_f7 k_f8 k_f9 k_f10 k_f11 k_f12 k_f13 k_f14 k_f15 k_f16) (va_A ((pa__w py (nI on) (nI si) ti tm bh k_ftm ftm k_fbh fbh au (nI nc) (nI np) (nI ne) st0 q4 q5 q6 q7 q8 q9 q10 q11 q12 q13 q14 q15 q16 k_f4 f4 k_f5 (bN 7 q_f5) k_f6 (bN 7 q_f6) k_f7 f7 k_f8 (bN 4 q_f8) k_f9 (bN 2 q_f9) k_f10 f10 k_f11 f11 k_f12 f12 k_f13 f13 k_f14 f14 k_f15 f15 k_f16 f16)) sz) t ∧ (z_si ≤ 7) ∧ ((z_ftm, z_fbh, z_si, z_ti) = (sp_E_3_goesBy si ti ftm fbh f4 q_f5 q_f6 f7 q_f8 q_f9 f12 f13 p1 a2).2)) (va_A ((pa__w py (nI on) (nI si) ti tm bh k_ftm ftm k_fbh fbh au (nI nc) (nI np) (nI ne) st0 q4 q5 q6 q7 q8 q9 q10 q11 q12 q13 q14 q15 q16 k_f4 f4 k_f5 (bN 7 q_f5) k_f6 (bN 7 q_f6) k_f7 f7 k_f8 (bN 4 q_f8) k_f9 (bN 2 q_f9) k_f10 f10 k_f11 f11 k_f12 f12 k_f13 f13 k_f14 f14 k_f15 f15 k_f16 f16)) sz)) 0 0 (va_A ((pa__w py (nI on) (nI si) ti tm bh k_ftm ftm k_fbh fbh au (nI nc) (nI np) (nI ne) st0 q4 q5 q6 q7 q8 q9 q10 q11 q12 q13 q14 q15 q16 k_f4 f4 k_f5 (bN 7 q_f5) k_f6 (bN 7 q_f6) k_f7 f7 k_f8 (bN 4 q_f8) k_f9 (bN 2 q_f9) k_f10 f10 k_f11 f11 k_f12 f12 k_f13 f13 k_f14 f14 k_f15 f15 k_f16 f16)) sz) := by
  refine Met.ofW (cc := cX3_goesBy) (maxL := 4) (ret := (some .boolean)) (by decide) rfl ?_
  intro p e s m args below meth c s₁ B hml hv
  obtain ⟨rfl, rfl, hP, hK, hD0⟩ := hv
  have hx := B.exec
  have hb := B.bytes
  have hr := B.returns
  have hts := atoms_spec (ws := vs_E_3_goesBy) B.pre
  have hown : s.vm.findClass RX3 = some m.cls := findClass_of_methodNamed B.named
  have hlocks := B.notSynchronized
  have hD := hD0.self (sz := s.heap.size)
  generalize hAe : va_A ((pa__w py (nI on) (nI si) ti tm bh k_ftm ftm k_fbh fbh au (nI nc) (nI np) (nI ne) st0 q4 q5 q6 q7 q8 q9 q10 q11 q12 q13 q14 q15 q16 k_f4 f4 k_f5 (bN 7 q_f5) k_f6 (bN 7 q_f6) k_f7 f7 k_f8 (bN 4 q_f8) k_f9 (bN 2 q_f9) k_f10 f10 k_f11 f11 k_f12 f12 k_f13 f13 k_f14 f14 k_f15 f15 k_f16 f16)) s.heap.size = A at hD ⊢
  have hA : ∀ q : Nat, s.heap.size ≤ q → A q := fun q h => by rw [← hAe]; exact Or.inr h
  have hS : va_S A s.heap s.heap [] := va_S.rf
  have hl := lv_entry ([.ref py, .ref au, .int p1, .int (nI a2)]) (n := 4) (Nat.le_of_ble_eq_true rfl)
  rw [lg_entry_eq]
  generalize (lg_sl ([.ref py, .ref au, .int p1, .int (nI a2)]) ++ List.replicate (4 - (lg_sl ([.ref py, .ref au, .int p1, .int (nI a2)])).length) Slot.unset).toArray = ls at hl ⊢
  have hl : lv_has ls 4 [(0, .ref py), (1, .ref au), (2, .int p1), (3, .int (nI a2))] := hl
  obtain ⟨RR, hRR⟩ : ∃ x, x = (sp_E_3_goesBy si ti ftm fbh f4 q_f5 q_f6 f7 q_f8 q_f9 f12 f13 p1 a2) := ⟨_, rfl⟩
  have hsp := hRR
  refine lv_iload_n hx hb eX3_goesBy_0 rfl (lv_at hl 2 rfl) ?_
  refine lv_if_lt (tgt := 13) hx hb eX3_goesBy_1 (by decide) (fun c_1 => ?_) (fun c_1 => ?_)
  · have hcc_1 := c_1
    have hsp := hsp.trans (if_pos c_1)
    refine lv_iconst (v := 0) hx hb eX3_goesBy_13 (by decide) ?_
    exact W.zret (v := 0) (ty := .boolean) hx hb hr (rfl) (fun t ht hW => ⟨⟨0, (), rfl, ⟨0, (Nat.le_of_ble_eq_true rfl), rfl, (congrArg Prod.fst (hsp.symm.trans hRR))⟩, ⟨ftm, fbh, si, ti, ⟨by rw [ht]; exact hP, va_K.moved hW.alike hK, hD⟩, hsi, (congrArg Prod.snd (hsp.symm.trans hRR))⟩⟩, hS.F ht⟩) hS.2.2 eX3_goesBy_14
  · have hcc_1 := c_1
    have hsp := hsp.trans (if_neg c_1)
    have lp1 : ¬ p1 < 0 := c_1
    refine lv_iload_n hx hb eX3_goesBy_4 rfl (lv_at hl 2 rfl) ?_
    refine lv_aload_n hx hb eX3_goesBy_5 rfl (lv_at hl 0 rfl) ?_
    refine lv_aload_n hx hb eX3_goesBy_6 rfl (lv_at hl 1 rfl) ?_
    refine va_calli (va_runV (As := [.ref au]) (rest := [.int p1]) ⟨hx, hb, hml, hown, hts⟩ (c_E_3_longestWait l dC dI _ py on si ti tm bh k_ftm ftm k_fbh fbh au nc np ne st0 q4 q5 q6 q7 q8 q9 q10 q11 q12 q13 q14 q15 q16 k_f4 f4 k_f5 q_f5 k_f6 q_f6 k_f7 f7 k_f8 q_f8 k_f9 q_f9 k_f10 f10 k_f11 f11 k_f12 f12 k_f13 f13 k_f14 f14 k_f15 f15 k_f16 f16 hon hsi hnc hnp hne (hst0)) (cwV 1 hts g_E_3_goesBy_E_3_longestWait rfl rfl rfl (by decide +kernel) ⟨Nat.le_of_ble_eq_true rfl, Nat.le_of_ble_eq_true rfl⟩) ⟨pu_bl, va_recv hK hP (ci := 3) (q0 := 0) rfl rfl, pu_in hP hK hD⟩ rfl rfl hl.1 rfl (lv_room (Nat.le_of_ble_eq_true rfl)) eX3_goesBy_7 ⟨Nat.le_of_ble_eq_true rfl, Nat.le_of_ble_eq_true rfl⟩) hS (fun q _ h => pu_fr hS hA q h) (pu_fr hS hA) (fun r_2 u t H1 locs ht hvm hw hB hz1 hk1 hS => ?_)
    have hP := pu_keep hP hk1
    clear hk1 hz1 ht hvm
    generalize H1 = H at hP hS ⊢
    have ir_2 := hw
    have hsp := hsp.trans (slet_eq ir_2)
    refine lv_icmp_le (tgt := 15) hx hb eX3_goesBy_10 (by decide) (fun c_3 => ?_) (fun c_3 => ?_)
    · have hcc_3 := c_3
      have hsp := hsp.trans (if_pos c_3)
      refine lv_aload_n hx hb eX3_goesBy_15 rfl (lv_at hl 0 rfl) ?_
      refine lv_iload_n hx hb eX3_goesBy_16 rfl (lv_at hl 2 rfl) ?_
      have hPc : va_P (dC, dI) vwCl (py__w py (nI on) (nI si) ti tm bh k_ftm ftm k_fbh fbh) _ := hP.sub [0, 1, 2] rfl
      have hDc := hD.sub (ws' := (py__w py (nI on) (nI si) ti tm bh k_ftm ftm k_fbh fbh)) [0, 1, 2] (by decide) rfl
      have hKc : va_K (dC, dI) vwCl (py__t k_ftm k_fbh) s := hK.sub [0, 1] rfl
      have hFc := pu_free hDc hS hA
      refine va_callv (va_runV (As := [.int p1]) (rest := []) ⟨hx, hb, hml, hown, hts⟩ (c_E_3_pass l dC dI _ py on si ti tm bh k_ftm ftm k_fbh fbh p1 hon hsi) (cwV 1 hts g_E_3_goesBy_E_3_pass rfl rfl rfl (by decide +kernel) ⟨Nat.le_of_ble_eq_true rfl, Nat.le_of_ble_eq_true rfl⟩) ⟨pu_bl, va_recv hK hP (ci := 3) (q0 := 0) rfl rfl, pu_in hPc hKc hDc⟩ rfl rfl hl.1 rfl (lv_room (Nat.le_of_ble_eq_true rfl)) eX3_goesBy_17 ⟨Nat.le_of_ble_eq_true rfl, Nat.le_of_ble_eq_true rfl⟩) hS (fun q _ h => hFc q h) hFc (fun u t H1 locs ht hvm hw hB hz1 hk1 hS => ?_)
      obtain ⟨z_ftm_5, z_ti_6, ⟨hP1, -, hD1⟩, xr_4_0⟩ := hB
      rw [ht] at hP1
      obtain ⟨hP, hD⟩ := pj_a (X := (pa__w py (nI on) (nI si) ti tm bh k_ftm ftm k_fbh fbh au (nI nc) (nI np) (nI ne) st0 q4 q5 q6 q7 q8 q9 q10 q11 q12 q13 q14 q15 q16 k_f4 f4 k_f5 (bN 7 q_f5) k_f6 (bN 7 q_f6) k_f7 f7 k_f8 (bN 4 q_f8) k_f9 (bN 2 q_f9) k_f10 f10 k_f11 f11 k_f12 f12 k_f13 f13 k_f14 f14 k_f15 f15 k_f16 f16)) (X' := (pa__w py (nI on) (nI si) z_ti_6 tm bh k_ftm z_ftm_5 k_fbh fbh au (nI nc) (nI np) (nI ne) st0 q4 q5 q6 q7 q8 q9 q10 q11 q12 q13 q14 q15 q16 k_f4 f4 k_f5 (bN 7 q_f5) k_f6 (bN 7 q_f6) k_f7 f7 k_f8 (bN 4 q_f8) k_f9 (bN 2 q_f9) k_f10 f10 k_f11 f11 k_f12 f12 k_f13 f13 k_f14 f14 k_f15 f15 k_f16 f16)) (wc := (py__w py (nI on) (nI si) ti tm bh k_ftm ftm k_fbh fbh)) (w1 := (py__w py (nI on) (nI si) z_ti_6 tm bh k_ftm z_ftm_5 k_fbh fbh)) hP hD [0, 1, 2] [0, 1, 2, 6, 7, 8, 9, 10, 11, 12, 13, 14, 15, 16, 17, 18, 19] 3 rfl hk1 hP1 rfl rfl rfl (by decide)
      clear hP1 hD1 hFc hPc hDc hKc
      clear hk1 hz1 ht hvm
      generalize H1 = H at hP hS ⊢
      have hsp := hsp.trans (slet_eq xr_4_0)
      refine lv_aload_n hx hb eX3_goesBy_20 rfl (lv_at hl 0 rfl) ?_
      refine lv_aload_n hx hb eX3_goesBy_21 rfl (lv_at hl 1 rfl) ?_
      refine lv_iload_n hx hb eX3_goesBy_22 rfl (lv_at hl 3 rfl) ?_
      have hFc := pu_free hD hS hA
      refine va_calli (va_runV (As := [.ref au, .int (nI a2)]) (rest := []) ⟨hx, hb, hml, hown, hts⟩ (c_E_3_opens l dC dI _ py on si z_ti_6 tm bh k_ftm z_ftm_5 k_fbh fbh au nc np ne st0 q4 q5 q6 q7 q8 q9 q10 q11 q12 q13 q14 q15 q16 k_f4 f4 k_f5 q_f5 k_f6 q_f6 k_f7 f7 k_f8 q_f8 k_f9 q_f9 k_f10 f10 k_f11 f11 k_f12 f12 k_f13 f13 k_f14 f14 k_f15 f15 k_f16 f16 a2 hon hsi hnc hnp hne (hst0) ha2) (cwV 2 hts g_E_3_goesBy_E_3_opens rfl rfl rfl (by decide +kernel) ⟨Nat.le_of_ble_eq_true rfl, Nat.le_of_ble_eq_true rfl⟩) ⟨pu_bl, va_recv hK hP (ci := 3) (q0 := 0) rfl rfl, pu_in hP hK hD⟩ rfl rfl hl.1 rfl (lv_room (Nat.le_of_ble_eq_true rfl)) eX3_goesBy_23 ⟨Nat.le_of_ble_eq_true rfl, Nat.le_of_ble_eq_true rfl⟩) hS (fun q _ h => hFc q h) hFc (fun r_7 u t H1 locs ht hvm hw hB hz1 hk1 hS => ?_)
      obtain ⟨z_fbh_8, ⟨hP1, -, hD1⟩, xr_7_0⟩ := hB
      rw [ht] at hP1
      have hP := hP1
      have hD := pu_all hFc hD1
      clear hP1 hD1 hFc
      clear hk1 hz1 ht hvm
      generalize H1 = H at hP hS ⊢
      obtain ⟨u_9, hu_9, rfl, iu_9⟩ := hw
      have iu_9 : (u_9, z_fbh_8) = (sp_E_3_opens si z_ftm_5 fbh q_f5 q_f6 f7 q_f8 q_f9 f12 f13 a2) := Prod.ext iu_9 xr_7_0
      have hsp := hsp.trans (slet_eq iu_9)
      refine lv_if_ne (tgt := 31) hx hb eX3_goesBy_26 (by decide) (fun c_10 => ?_) (fun c_10 => ?_)
      · have c_10 : ¬ u_9 = 0 := fun z => c_10 ((nI_eq (a := u_9) (b := 0) (Nat.lt_of_le_of_lt hu_9 (Nat.le_of_ble_eq_true rfl)) (Nat.le_of_ble_eq_true rfl)).mpr z)
        have hsp := hsp.trans (if_neg c_10)
        refine lv_aload_n hx hb eX3_goesBy_31 rfl (lv_at hl 0 rfl) ?_
        refine lv_aload_n hx hb eX3_goesBy_32 rfl (lv_at hl 1 rfl) ?_
        refine lv_iload_n hx hb eX3_goesBy_33 rfl (lv_at hl 3 rfl) ?_
        have hFc := pu_free hD hS hA
        refine va_callv (va_runV (As := [.ref au, .int (nI a2)]) (rest := []) ⟨hx, hb, hml, hown, hts⟩ (c_E_3_cross l dC dI _ py on si z_ti_6 tm bh k_ftm z_ftm_5 k_fbh z_fbh_8 au nc np ne st0 q4 q5 q6 q7 q8 q9 q10 q11 q12 q13 q14 q15 q16 k_f4 f4 k_f5 q_f5 k_f6 q_f6 k_f7 f7 k_f8 q_f8 k_f9 q_f9 k_f10 f10 k_f11 f11 k_f12 f12 k_f13 f13 k_f14 f14 k_f15 f15 k_f16 f16 a2 hon hsi hnc hnp hne (hst0) ha2) (cwV 2 hts g_E_3_goesBy_E_3_cross rfl rfl rfl (by decide +kernel) ⟨Nat.le_of_ble_eq_true rfl, Nat.le_of_ble_eq_true rfl⟩) ⟨pu_bl, va_recv hK hP (ci := 3) (q0 := 0) rfl rfl, pu_in hP hK hD⟩ rfl rfl hl.1 rfl (lv_room (Nat.le_of_ble_eq_true rfl)) eX3_goesBy_34 ⟨Nat.le_of_ble_eq_true rfl, Nat.le_of_ble_eq_true rfl⟩) hS (fun q _ h => hFc q h) hFc (fun u t H1 locs ht hvm hw hB hz1 hk1 hS => ?_)
        obtain ⟨z_ftm_12, z_si_13, ⟨hP1, -, hD1⟩, hz_si_13, xr_11_0⟩ := hB
        rw [ht] at hP1
        have hP := hP1
        have hD := pu_all hFc hD1
        clear hP1 hD1 hFc
        clear hk1 hz1 ht hvm
        generalize H1 = H at hP hS ⊢
        have hsp := hsp.trans (slet_eq xr_11_0)
        refine lv_iconst (v := 1) hx hb eX3_goesBy_37 (by decide) ?_
        exact W.zret (v := 1) (ty := .boolean) hx hb hr (rfl) (fun t ht hW => ⟨⟨1, (), rfl, ⟨1, (Nat.le_of_ble_eq_true rfl), rfl, (congrArg Prod.fst (hsp.symm.trans hRR))⟩, ⟨z_ftm_12, z_fbh_8, z_si_13, z_ti_6, ⟨by rw [ht]; exact hP, va_K.moved hW.alike hK, hD⟩, hz_si_13, (congrArg Prod.snd (hsp.symm.trans hRR))⟩⟩, hS.F ht⟩) hS.2.2 eX3_goesBy_38
      · have c_10 : u_9 = 0 := (nI_eq (a := u_9) (b := 0) (Nat.lt_of_le_of_lt hu_9 (Nat.le_of_ble_eq_true rfl)) (Nat.le_of_ble_eq_true rfl)).mp c_10
        have hsp := hsp.trans (if_pos c_10)
        refine lv_iconst (v := 0) hx hb eX3_goesBy_29 (by decide) ?_
        exact W.zret (v := 0) (ty := .boolean) hx hb hr (rfl) (fun t ht hW => ⟨⟨0, (), rfl, ⟨0, (Nat.le_of_ble_eq_true rfl), rfl, (congrArg Prod.fst (hsp.symm.trans hRR))⟩, ⟨z_ftm_5, z_fbh_8, si, z_ti_6, ⟨by rw [ht]; exact hP, va_K.moved hW.alike hK, hD⟩, hsi, (congrArg Prod.snd (hsp.symm.trans hRR))⟩⟩, hS.F ht⟩) hS.2.2 eX3_goesBy_30
    · have hcc_3 := c_3
      have hsp := hsp.trans (if_neg c_3)
      refine lv_iconst (v := 0) hx hb eX3_goesBy_13 (by decide) ?_
      exact W.zret (v := 0) (ty := .boolean) hx hb hr (rfl) (fun t ht hW => ⟨⟨0, (), rfl, ⟨0, (Nat.le_of_ble_eq_true rfl), rfl, (congrArg Prod.fst (hsp.symm.trans hRR))⟩, ⟨ftm, fbh, si, ti, ⟨by rw [ht]; exact hP, va_K.moved hW.alike hK, hD⟩, hsi, (congrArg Prod.snd (hsp.symm.trans hRR))⟩⟩, hS.F ht⟩) hS.2.2 eX3_goesBy_14
