theorem eX6_clockBehind_0 : decode cX6_clockBehind 0 = .ok (.iconst 0, 1) := by decide +kernel
theorem eX6_clockBehind_1 : decode cX6_clockBehind 1 = .ok (.istore 4, 2) := by decide +kernel
theorem eX6_clockBehind_3 : decode cX6_clockBehind 3 = .ok (.iconst 0, 1) := by decide +kernel
theorem eX6_clockBehind_4 : decode cX6_clockBehind 4 = .ok (.istore 5, 2) := by decide +kernel
theorem eX6_clockBehind_6 : decode cX6_clockBehind 6 = .ok (.iload 5, 2) := by decide +kernel
theorem eX6_clockBehind_8 : decode cX6_clockBehind 8 = .ok (.iload_n 2, 1) := by decide +kernel
theorem eX6_clockBehind_9 : decode cX6_clockBehind 9 = .ok (.if_icmp .gt 35, 3) := by decide +kernel
theorem eX6_clockBehind_12 : decode cX6_clockBehind 12 = .ok (.aload_n 1, 1) := by decide +kernel
theorem eX6_clockBehind_13 : decode cX6_clockBehind 13 = .ok (.getfield 87, 3) := by decide +kernel
theorem eX6_clockBehind_16 : decode cX6_clockBehind 16 = .ok (.aload_n 0, 1) := by decide +kernel
theorem eX6_clockBehind_17 : decode cX6_clockBehind 17 = .ok (.getfield 9, 3) := by decide +kernel
theorem eX6_clockBehind_20 : decode cX6_clockBehind 20 = .ok (.iload 5, 2) := by decide +kernel
theorem eX6_clockBehind_22 : decode cX6_clockBehind 22 = .ok (.iaload, 1) := by decide +kernel
theorem eX6_clockBehind_23 : decode cX6_clockBehind 23 = .ok (.iaload, 1) := by decide +kernel
theorem eX6_clockBehind_24 : decode cX6_clockBehind 24 = .ok (.iload_n 3, 1) := by decide +kernel
theorem eX6_clockBehind_25 : decode cX6_clockBehind 25 = .ok (.ishr, 1) := by decide +kernel
theorem eX6_clockBehind_26 : decode cX6_clockBehind 26 = .ok (.iconst 1, 1) := by decide +kernel
theorem eX6_clockBehind_27 : decode cX6_clockBehind 27 = .ok (.iand, 1) := by decide +kernel
theorem eX6_clockBehind_28 : decode cX6_clockBehind 28 = .ok (.iconst 1, 1) := by decide +kernel
theorem eX6_clockBehind_29 : decode cX6_clockBehind 29 = .ok (.if_icmp .ne 9, 3) := by decide +kernel
theorem eX6_clockBehind_32 : decode cX6_clockBehind 32 = .ok (.iload 5, 2) := by decide +kernel
theorem eX6_clockBehind_34 : decode cX6_clockBehind 34 = .ok (.iconst 1, 1) := by decide +kernel
theorem eX6_clockBehind_35 : decode cX6_clockBehind 35 = .ok (.iadd, 1) := by decide +kernel
theorem eX6_clockBehind_36 : decode cX6_clockBehind 36 = .ok (.istore 4, 2) := by decide +kernel
theorem eX6_clockBehind_38 : decode cX6_clockBehind 38 = .ok (.iinc 5 1, 3) := by decide +kernel
theorem eX6_clockBehind_41 : decode cX6_clockBehind 41 = .ok (.goto (-35), 3) := by decide +kernel
theorem eX6_clockBehind_44 : decode cX6_clockBehind 44 = .ok (.aload_n 0, 1) := by decide +kernel
theorem eX6_clockBehind_45 : decode cX6_clockBehind 45 = .ok (.getfield 15, 3) := by decide +kernel
theorem eX6_clockBehind_48 : decode cX6_clockBehind 48 = .ok (.iload_n 2, 1) := by decide +kernel
theorem eX6_clockBehind_49 : decode cX6_clockBehind 49 = .ok (.iconst 1, 1) := by decide +kernel
theorem eX6_clockBehind_50 : decode cX6_clockBehind 50 = .ok (.iadd, 1) := by decide +kernel
theorem eX6_clockBehind_51 : decode cX6_clockBehind 51 = .ok (.iaload, 1) := by decide +kernel
theorem eX6_clockBehind_52 : decode cX6_clockBehind 52 = .ok (.aload_n 0, 1) := by decide +kernel
theorem eX6_clockBehind_53 : decode cX6_clockBehind 53 = .ok (.getfield 15, 3) := by decide +kernel
theorem eX6_clockBehind_56 : decode cX6_clockBehind 56 = .ok (.iload 4, 2) := by decide +kernel
theorem eX6_clockBehind_58 : decode cX6_clockBehind 58 = .ok (.iaload, 1) := by decide +kernel
theorem eX6_clockBehind_59 : decode cX6_clockBehind 59 = .ok (.isub, 1) := by decide +kernel
theorem eX6_clockBehind_60 : decode cX6_clockBehind 60 = .ok (.ireturn, 1) := by decide +kernel
abbrev vs_E_6_clockBehind : List Cond := .code yX6_clockBehind cX6_clockBehind 6 (some .int) :: CM
noncomputable def sp_E_6_clockBehind_L1 (q_j0 : Nat → Nat) (j2 : Nat → Int32) (f7 : Nat → Int32) (a1 : Nat) (a2 : Nat) : (Nat × Nat) → (Nat × Nat) ⊕ (Int32) := fun (g_3, g_4) => (if a1 < g_4 then (Sum.inr (slet (j2 (a1 + 1)) (fun y_13 => (slet (j2 g_3) (fun y_14 => (slet ((y_13 : Int32) - y_14) (fun y_15 => y_15))))))) else (slet (min (q_j0 g_4) 13) (fun u_17 => (slet (f7 u_17) (fun y_18 => (slet ((y_18 : Int32) >>> (((nI a2) : Int32) &&& 31)) (fun y_19 => (slet ((y_19 : Int32) &&& (1 : Int32)) (fun y_20 => (slet (α := Nat) (if (y_20 : Int32) = 1 then (g_4 + 1) else g_3) (fun g_21 => (Sum.inl (g_21, (g_4 + 1))))))))))))))
noncomputable def sp_E_6_clockBehind (q_j0 : Nat → Nat) (j2 : Nat → Int32) (f7 : Nat → Int32) (a1 : Nat) (a2 : Nat) : Int32 := (itrv (α := Nat × Nat) (β := (Int32)) default (sp_E_6_clockBehind_L1 q_j0 j2 f7 a1 a2) (0, 0))
set_option maxHeartbeats 4000000 in
set_option maxRecDepth 100000 in
theorem c_E_6_clockBehind (l : Launch) (dC : Nat → ClassId) (dI : Nat → Nat → Nat) (sz : Nat) (ti : Nat) (r0 : Nat) (ln : Nat) (r2 : Nat) (r3 : Nat) (r4 : Nat) (r5 : Nat) (nr : Nat) (r7 : Nat) (r8 : Nat) (tz : Nat) (k_j0 : ClassId) (q_j0 : Nat → Nat) (k_j2 : ClassId) (j2 : Nat → Int32) (k_j3 : ClassId) (q_j3 : Nat → Nat) (k_j4 : ClassId) (q_j4 : Nat → Nat) (k_j5 : ClassId) (j5 : Nat → Int32) (k_j7 : ClassId) (q_j7 : Nat → Nat) (k_j8 : ClassId) (j8 : Nat → Int32) (au : Nat) (nc : Nat) (np : Nat) (ne : Nat) (st0 : Int32) (q4 : Nat) (q5 : Nat) (q6 : Nat) (q7 : Nat) (q8 : Nat) (q9 : Nat) (q10 : Nat) (q11 : Nat) (q12 : Nat) (q13 : Nat) (q14 : Nat) (q15 : Nat) (q16 : Nat) (k_f4 : ClassId) (f4 : Nat → Int32) (k_f5 : ClassId) (q_f5 : Nat → Nat) (k_f6 : ClassId) (q_f6 : Nat → Nat) (k_f7 : ClassId) (f7 : Nat → Int32) (k_f8 : ClassId) (q_f8 : Nat → Nat) (k_f9 : ClassId) (q_f9 : Nat → Nat) (k_f10 : ClassId) (f10 : Nat → Int32) (k_f11 : ClassId) (f11 : Nat → Int32) (k_f12 : ClassId) (f12 : Nat → Int32) (k_f13 : ClassId) (f13 : Nat → Int32) (k_f14 : ClassId) (f14 : Nat → Int32) (k_f15 : ClassId) (f15 : Nat → Int32) (k_f16 : ClassId) (f16 : Nat → Int32) (a1 : Nat) (a2 : Nat) (hln : ln ≤ 119) (hnr : nr ≤ 1920) (hnc : nc ≤ 3) (hnp : np ≤ 8) (hne : ne ≤ 14) (hst0 : pm1 7 st0) (ha1 : a1 ≤ 118) (ha2 : a2 ≤ 2) : Met l yX6_clockBehind vs_E_6_clockBehind ({ frames := 0, cells := 0, slots := 0, locals := 0 }) (va_Pc [.ref ti, .ref au, .int (nI a1), .int (nI a2)] (pu_B (dC, dI) (ta__w ti r0 (nI ln) r2 r3 r4 r5 (nI nr) r7 r8 tz k_j0 (bN 13 q_j0) k_j2 j2 k_j3 (bN 120 q_j3) k_j4 (bN 120 q_j4) k_j5 j5 k_j7 (bN 120 q_j7) k_j8 j8 au (nI nc) (nI np) (nI ne) st0 q4 q5 q6 q7 q8 q9 q10 q11 q12 q13 q14 q15 q16 k_f4 f4 k_f5 (bN 7 q_f5) k_f6 (bN 7 q_f6) k_f7 f7 k_f8 (bN 4 q_f8) k_f9 (bN 2 q_f9) k_f10 f10 k_f11 f11 k_f12 f12 k_f13 f13 k_f14 f14 k_f15 f15 k_f16 f16) (ta__t k_j0 k_j2 k_j3 k_j4 k_j5 k_j7 k_j8 k_f4 k_f5 k_f6 k_f7 k_f8 k_f9 k_f10 k_f11 k_f12 k_f13 k_f14 k_f15 k_f16) sz)) (va_Qi (fun (r : Int32) (_ : Unit) => r = (sp_E_6_clockBehind q_j0 j2 f7 a1 a2)) (fun _ _ => True) (va_A [] sz)) 0 0 (va_A [] sz) := by
  refine Met.ofW (cc := cX6_clockBehind) (maxL := 6) (ret := (some .int)) (by decide) rfl ?_
  intro p e s m args below meth c s₁ B hml hv
  obtain ⟨rfl, rfl, hP, hK, hD0⟩ := hv
  have hx := B.exec
  have hb := B.bytes
  have hr := B.returns
  have hts := atoms_spec (ws := vs_E_6_clockBehind) B.pre
  have v_1 := hts (.fieldLink RX6 87 "ClockReach$Automaton" "resets" "[I") (List.mem_cons_of_mem _ cm_377)
  have v_2 := hts (.fieldLink RX6 9 "ClockReach$Timing" "path" "[I") (List.mem_cons_of_mem _ cm_367)
  have v_3 := hts (.fieldLink RX6 15 "ClockReach$Timing" "at" "[I") (List.mem_cons_of_mem _ cm_400)
  have hown : s.vm.findClass RX6 = some m.cls := findClass_of_methodNamed B.named
  have hlocks := B.notSynchronized
  have hiX0 : ∀ w ∈ wsX00, w ∈ vs_E_6_clockBehind := fun _ h => List.mem_cons_of_mem _ (cm_X0 h)
  have hiX6 : ∀ w ∈ wsX60, w ∈ vs_E_6_clockBehind := fun _ h => List.mem_cons_of_mem _ (cm_X6 h)
  have hD := hD0
  have hA : ∀ q : Nat, s.heap.size ≤ q → va_A [] s.heap.size q := fun _ h => Or.inr h
  have hS : va_S (va_A [] s.heap.size) s.heap s.heap [] := va_S.rf
  have hl := lv_entry ([.ref ti, .ref au, .int (nI a1), .int (nI a2)]) (n := 6) (Nat.le_of_ble_eq_true rfl)
  rw [lg_entry_eq]
  generalize (lg_sl ([.ref ti, .ref au, .int (nI a1), .int (nI a2)]) ++ List.replicate (6 - (lg_sl ([.ref ti, .ref au, .int (nI a1), .int (nI a2)])).length) Slot.unset).toArray = ls at hl ⊢
  have hl : lv_has ls 6 [(0, .ref ti), (1, .ref au), (2, .int (nI a1)), (3, .int (nI a2))] := hl
  obtain ⟨RR, hRR⟩ : ∃ x, x = (sp_E_6_clockBehind q_j0 j2 f7 a1 a2) := ⟨_, rfl⟩
  have hsp := hRR
  refine lv_iconst (v := 0) hx hb eX6_clockBehind_0 (by decide) ?_
  refine lv_istore (lv' := [(4, .int 0), (0, .ref ti), (1, .ref au), (2, .int (nI a1)), (3, .int (nI a2))]) hx hb eX6_clockBehind_1 hl (by decide) rfl (fun ls hl => ?_)
  refine lv_iconst (v := 0) hx hb eX6_clockBehind_3 (by decide) ?_
  refine lv_istore (lv' := [(5, .int 0), (4, .int 0), (0, .ref ti), (1, .ref au), (2, .int (nI a1)), (3, .int (nI a2))]) hx hb eX6_clockBehind_4 hl (by decide) rfl (fun ls hl => ?_)
  obtain ⟨lf_6, dlf_6, hlf_6, hsp⟩ := itr_ex hsp
  delta sp_E_6_clockBehind_L1 at hlf_6
  refine pu_while (fun nn H locs ls => ∃ (g_3 : Nat) (g_4 : Nat), nn = 119 - g_4 ∧ g_3 ≤ 119 ∧ g_4 ≤ 119 ∧ RR = itrv dlf_6 lf_6 (g_3, g_4) ∧ va_P (dC, dI) vwCl (ta__w ti r0 (nI ln) r2 r3 r4 r5 (nI nr) r7 r8 tz k_j0 (bN 13 q_j0) k_j2 j2 k_j3 (bN 120 q_j3) k_j4 (bN 120 q_j4) k_j5 j5 k_j7 (bN 120 q_j7) k_j8 j8 au (nI nc) (nI np) (nI ne) st0 q4 q5 q6 q7 q8 q9 q10 q11 q12 q13 q14 q15 q16 k_f4 f4 k_f5 (bN 7 q_f5) k_f6 (bN 7 q_f6) k_f7 f7 k_f8 (bN 4 q_f8) k_f9 (bN 2 q_f9) k_f10 f10 k_f11 f11 k_f12 f12 k_f13 f13 k_f14 f14 k_f15 f15 k_f16 f16) H ∧ va_D (fun _ => True) (ta__w ti r0 (nI ln) r2 r3 r4 r5 (nI nr) r7 r8 tz k_j0 (bN 13 q_j0) k_j2 j2 k_j3 (bN 120 q_j3) k_j4 (bN 120 q_j4) k_j5 j5 k_j7 (bN 120 q_j7) k_j8 j8 au (nI nc) (nI np) (nI ne) st0 q4 q5 q6 q7 q8 q9 q10 q11 q12 q13 q14 q15 q16 k_f4 f4 k_f5 (bN 7 q_f5) k_f6 (bN 7 q_f6) k_f7 f7 k_f8 (bN 4 q_f8) k_f9 (bN 2 q_f9) k_f10 f10 k_f11 f11 k_f12 f12 k_f13 f13 k_f14 f14 k_f15 f15 k_f16 f16) ∧ va_S (va_A [] s.heap.size) s.heap H locs ∧ lv_has ls 6 [(0, .ref ti), (1, .ref au), (2, .int (nI a1)), (3, .int (nI a2)), (4, .int (nI g_3)), (5, .int (nI g_4))]) 6 ?_ _ _ _ _ ⟨0, 0, rfl, (Nat.le_of_ble_eq_true rfl), (Nat.le_of_ble_eq_true rfl), hsp, hP, hD, hS, lv_sub hl [2, 3, 4, 5, 1, 0] rfl⟩
  rintro nn ih_5 H locs ls ⟨g_3, g_4, rfl, hg_3, hg_4, he_8, hP, hD, hS, hl⟩
  obtain ⟨S_7, hsp, hin_9, hout_10⟩ := itr_step hlf_6 he_8
  refine lv_iload hx hb eX6_clockBehind_6 (lv_at hl 5 rfl) ?_
  refine lv_iload_n hx hb eX6_clockBehind_8 rfl (lv_at hl 2 rfl) ?_
  refine lv_icmp_gt (tgt := 44) hx hb eX6_clockBehind_9 (by decide) (fun c_11 => ?_) (fun c_11 => ?_)
  · have c_11 : a1 < g_4 := (nI_ltI (a := a1) (b := g_4) (Nat.lt_of_le_of_lt ha1 (Nat.le_of_ble_eq_true rfl)) (Nat.lt_of_le_of_lt hg_4 (Nat.le_of_ble_eq_true rfl))).mp c_11
    have hsp := hsp.trans (if_pos c_11)
    have hsp := hout_10 _ hsp
    refine lv_aload_n hx hb eX6_clockBehind_44 rfl (lv_at hl 0 rfl) ?_
    refine va_get (D := (dC, dI)) (ci := 6) (v := .ref r2) (C := RX6) (T := TX6) (N := 10) hx hb hts hiX6 hown hK hP 0 rfl rfl 2 (by decide) v_3 (fun _ h9 => h9) rfl eX6_clockBehind_45 ?_
    refine lv_iload_n hx hb eX6_clockBehind_48 rfl (lv_at hl 2 rfl) ?_
    refine lv_iconst (v := 1) hx hb eX6_clockBehind_49 (by decide) ?_
    refine lv_iadd hx hb eX6_clockBehind_50 ?_
    refine lv_topi (fun y_12 ey_12 => ?_)
    obtain rfl : y_12 = (nI (a1 + 1)) := ey_12.trans (nI_add a1 1)
    refine va_iald hx hb hK hP 2 1 rfl rfl (vp_in_nI (n := (a1 + 1)) (by omega) (Nat.le_of_ble_eq_true rfl)) eX6_clockBehind_51 ?_
    refine lv_topi (fun y_13 ey_13 => ?_)
    have ey_13 : y_13 = j2 (a1 + 1) := ey_13.trans (congrArg j2 (nI_clamp (n := (a1 + 1)) (by omega)))
    have hsp := hsp.trans (slet_eq ey_13)
    refine lv_aload_n hx hb eX6_clockBehind_52 rfl (lv_at hl 0 rfl) ?_
    refine va_get (D := (dC, dI)) (ci := 6) (v := .ref r2) (C := RX6) (T := TX6) (N := 10) hx hb hts hiX6 hown hK hP 0 rfl rfl 2 (by decide) v_3 (fun _ h9 => h9) rfl eX6_clockBehind_53 ?_
    refine lv_iload hx hb eX6_clockBehind_56 (lv_at hl 4 rfl) ?_
    refine va_iald hx hb hK hP 2 1 rfl rfl (vp_in_nI (n := g_3) (Nat.lt_of_le_of_lt hg_3 (Nat.le_of_ble_eq_true rfl)) (Nat.le_of_ble_eq_true rfl)) eX6_clockBehind_58 ?_
    refine lv_topi (fun y_14 ey_14 => ?_)
    have ey_14 : y_14 = j2 g_3 := ey_14.trans (congrArg j2 (nI_clamp (n := g_3) (Nat.lt_of_le_of_lt hg_3 (Nat.le_of_ble_eq_true rfl))))
    have hsp := hsp.trans (slet_eq ey_14)
    refine lv_isub hx hb eX6_clockBehind_59 ?_
    refine lv_topi (fun y_15 ey_15 => ?_)
    have hsp := hsp.trans (slet_eq ey_15)
    exact W.iret (v := y_15) hx hb hr (fun t ht hW => ⟨⟨y_15, (), rfl, (hsp.symm.trans hRR), trivial⟩, hS.F ht⟩) hS.2.2 eX6_clockBehind_60
  · have c_11 : ¬ a1 < g_4 := fun z => c_11 ((nI_ltI (a := a1) (b := g_4) (Nat.lt_of_le_of_lt ha1 (Nat.le_of_ble_eq_true rfl)) (Nat.lt_of_le_of_lt hg_4 (Nat.le_of_ble_eq_true rfl))).mpr z)
    have hsp := hsp.trans (if_neg c_11)
    refine lv_aload_n hx hb eX6_clockBehind_12 rfl (lv_at hl 1 rfl) ?_
    refine va_get (D := (dC, dI)) (ci := 0) (v := .ref q7) (C := RX0) (T := TX0) (N := 17) hx hb hts hiX0 hown hK hP 8 rfl rfl 7 (by decide) v_1 (fun _ h9 => h9) rfl eX6_clockBehind_13 ?_
    refine lv_aload_n hx hb eX6_clockBehind_16 rfl (lv_at hl 0 rfl) ?_
    refine va_get (D := (dC, dI)) (ci := 6) (v := .ref r0) (C := RX6) (T := TX6) (N := 10) hx hb hts hiX6 hown hK hP 0 rfl rfl 0 (by decide) v_2 (fun _ h9 => h9) rfl eX6_clockBehind_17 ?_
    refine lv_iload hx hb eX6_clockBehind_20 (lv_at hl 5 rfl) ?_
    refine va_iald hx hb hK hP 1 0 rfl rfl (vp_in_nI (n := g_4) (Nat.lt_of_le_of_lt hg_4 (Nat.le_of_ble_eq_true rfl)) (Nat.le_of_ble_eq_true rfl)) eX6_clockBehind_22 ?_
    refine lv_topi (fun y_16 ey_16 => ?_)
    obtain ⟨u_17, hu_17, qu_17, xu_17⟩ := bN_getx 13 q_j0 (n := g_4) (Nat.lt_of_le_of_lt hg_4 (Nat.le_of_ble_eq_true rfl))
    obtain rfl : y_16 = nI u_17 := ey_16.trans qu_17
    have hsp := hsp.trans (slet_eq xu_17)
    refine va_iald hx hb hK hP 12 10 rfl rfl (vp_in_nI (n := u_17) (Nat.lt_of_le_of_lt hu_17 (Nat.le_of_ble_eq_true rfl)) (Nat.le_of_ble_eq_true rfl)) eX6_clockBehind_23 ?_
    refine lv_topi (fun y_18 ey_18 => ?_)
    have ey_18 : y_18 = f7 u_17 := ey_18.trans (congrArg f7 (nI_clamp (n := u_17) (Nat.lt_of_le_of_lt hu_17 (Nat.le_of_ble_eq_true rfl))))
    have hsp := hsp.trans (slet_eq ey_18)
    refine lv_iload_n hx hb eX6_clockBehind_24 rfl (lv_at hl 3 rfl) ?_
    refine lv_ishr hx hb eX6_clockBehind_25 ?_
    refine lv_topi (fun y_19 ey_19 => ?_)
    have hsp := hsp.trans (slet_eq ey_19)
    refine lv_iconst (v := 1) hx hb eX6_clockBehind_26 (by decide) ?_
    refine lv_iand hx hb eX6_clockBehind_27 ?_
    refine lv_topi (fun y_20 ey_20 => ?_)
    have hsp := hsp.trans (slet_eq ey_20)
    refine lv_iconst (v := 1) hx hb eX6_clockBehind_28 (by decide) ?_
    obtain ⟨JR_23, hJR_23, hsp⟩ := slet_ex hsp
    refine pu_join (fun H locs ls st => ∃ (g_21 : Nat), st = [] ∧ g_21 ≤ 119 ∧ g_21 = JR_23 ∧ va_P (dC, dI) vwCl (ta__w ti r0 (nI ln) r2 r3 r4 r5 (nI nr) r7 r8 tz k_j0 (bN 13 q_j0) k_j2 j2 k_j3 (bN 120 q_j3) k_j4 (bN 120 q_j4) k_j5 j5 k_j7 (bN 120 q_j7) k_j8 j8 au (nI nc) (nI np) (nI ne) st0 q4 q5 q6 q7 q8 q9 q10 q11 q12 q13 q14 q15 q16 k_f4 f4 k_f5 (bN 7 q_f5) k_f6 (bN 7 q_f6) k_f7 f7 k_f8 (bN 4 q_f8) k_f9 (bN 2 q_f9) k_f10 f10 k_f11 f11 k_f12 f12 k_f13 f13 k_f14 f14 k_f15 f15 k_f16 f16) H ∧ va_D (fun _ => True) (ta__w ti r0 (nI ln) r2 r3 r4 r5 (nI nr) r7 r8 tz k_j0 (bN 13 q_j0) k_j2 j2 k_j3 (bN 120 q_j3) k_j4 (bN 120 q_j4) k_j5 j5 k_j7 (bN 120 q_j7) k_j8 j8 au (nI nc) (nI np) (nI ne) st0 q4 q5 q6 q7 q8 q9 q10 q11 q12 q13 q14 q15 q16 k_f4 f4 k_f5 (bN 7 q_f5) k_f6 (bN 7 q_f6) k_f7 f7 k_f8 (bN 4 q_f8) k_f9 (bN 2 q_f9) k_f10 f10 k_f11 f11 k_f12 f12 k_f13 f13 k_f14 f14 k_f15 f15 k_f16 f16) ∧ va_S (va_A [] s.heap.size) s.heap H locs ∧ lv_has ls 6 [(0, .ref ti), (1, .ref au), (2, .int (nI a1)), (3, .int (nI a2)), (4, .int (nI g_21)), (5, .int (nI g_4))]) 38 ?_ (fun j_22 => ?_)
    · rintro H locs ls st ⟨g_21, rfl, hg_21, he_24, hP, hD, hS, hl⟩
      rw [← he_24] at hsp
      refine lv_iinc (v := (nI (g_4 + 1))) (lv' := [(5, .int (nI (g_4 + 1))), (0, .ref ti), (1, .ref au), (2, .int (nI a1)), (3, .int (nI a2)), (4, .int (nI g_21))]) hx hb eX6_clockBehind_38 hl (k := 5) rfl (nI_1 _) (by decide) rfl (fun ls hl => ?_)
      refine lv_goto (tgt := 6) hx hb eX6_clockBehind_41 (by decide) ?_
      exact ih_5 (119 - (g_4 + 1)) (by omega) _ _ _ ⟨g_21, (g_4 + 1), rfl, hg_21, (by omega), hin_9 _ hsp, hP, hD, hS, lv_sub hl [1, 2, 3, 4, 5, 0] rfl⟩
    have hsp := hJR_23
    refine lv_icmp_ne (tgt := 38) hx hb eX6_clockBehind_29 (by decide) (fun c_25 => ?_) (fun c_25 => ?_)
    · have hcc_25 := c_25
      have hsp := hsp.trans (if_neg c_25)
      exact j_22 _ _ _ _ ⟨g_3, rfl, hg_3, hsp.symm, hP, hD, hS, lv_sub hl [0, 1, 2, 3, 4, 5] rfl⟩
    · have hcc_25 := c_25
      have hsp := hsp.trans (if_pos c_25)
      refine lv_iload hx hb eX6_clockBehind_32 (lv_at hl 5 rfl) ?_
      refine lv_iconst (v := 1) hx hb eX6_clockBehind_34 (by decide) ?_
      refine lv_iadd hx hb eX6_clockBehind_35 ?_
      refine lv_topi (fun y_26 ey_26 => ?_)
      obtain rfl : y_26 = (nI (g_4 + 1)) := ey_26.trans (nI_add g_4 1)
      refine lv_istore (lv' := [(4, .int (nI (g_4 + 1))), (0, .ref ti), (1, .ref au), (2, .int (nI a1)), (3, .int (nI a2)), (5, .int (nI g_4))]) hx hb eX6_clockBehind_36 hl (by decide) rfl (fun ls hl => ?_)
      exact j_22 _ _ _ _ ⟨(g_4 + 1), rfl, (by omega), hsp.symm, hP, hD, hS, lv_sub hl [1, 2, 3, 4, 0, 5] rfl⟩
