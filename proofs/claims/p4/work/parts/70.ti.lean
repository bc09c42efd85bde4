theorem eX6_layRule_0 : decode cX6_layRule 0 = .ok (.aload_n 0, 1) := by decide +kernel
theorem eX6_layRule_1 : decode cX6_layRule 1 = .ok (.getfield 57, 3) := by decide +kernel
theorem eX6_layRule_4 : decode cX6_layRule 4 = .ok (.sipush 1920, 3) := by decide +kernel
theorem eX6_layRule_7 : decode cX6_layRule 7 = .ok (.if_icmp .ge 43, 3) := by decide +kernel
theorem eX6_layRule_10 : decode cX6_layRule 10 = .ok (.aload_n 0, 1) := by decide +kernel
theorem eX6_layRule_11 : decode cX6_layRule 11 = .ok (.getfield 18, 3) := by decide +kernel
theorem eX6_layRule_14 : decode cX6_layRule 14 = .ok (.aload_n 0, 1) := by decide +kernel
theorem eX6_layRule_15 : decode cX6_layRule 15 = .ok (.getfield 57, 3) := by decide +kernel
theorem eX6_layRule_18 : decode cX6_layRule 18 = .ok (.iload_n 1, 1) := by decide +kernel
theorem eX6_layRule_19 : decode cX6_layRule 19 = .ok (.iastore, 1) := by decide +kernel
theorem eX6_layRule_20 : decode cX6_layRule 20 = .ok (.aload_n 0, 1) := by decide +kernel
theorem eX6_layRule_21 : decode cX6_layRule 21 = .ok (.getfield 21, 3) := by decide +kernel
theorem eX6_layRule_24 : decode cX6_layRule 24 = .ok (.aload_n 0, 1) := by decide +kernel
theorem eX6_layRule_25 : decode cX6_layRule 25 = .ok (.getfield 57, 3) := by decide +kernel
theorem eX6_layRule_28 : decode cX6_layRule 28 = .ok (.iload_n 2, 1) := by decide +kernel
theorem eX6_layRule_29 : decode cX6_layRule 29 = .ok (.iastore, 1) := by decide +kernel
theorem eX6_layRule_30 : decode cX6_layRule 30 = .ok (.aload_n 0, 1) := by decide +kernel
theorem eX6_layRule_31 : decode cX6_layRule 31 = .ok (.getfield 24, 3) := by decide +kernel
theorem eX6_layRule_34 : decode cX6_layRule 34 = .ok (.aload_n 0, 1) := by decide +kernel
theorem eX6_layRule_35 : decode cX6_layRule 35 = .ok (.getfield 57, 3) := by decide +kernel
theorem eX6_layRule_38 : decode cX6_layRule 38 = .ok (.iload_n 3, 1) := by decide +kernel
theorem eX6_layRule_39 : decode cX6_layRule 39 = .ok (.iastore, 1) := by decide +kernel
theorem eX6_layRule_40 : decode cX6_layRule 40 = .ok (.aload_n 0, 1) := by decide +kernel
theorem eX6_layRule_41 : decode cX6_layRule 41 = .ok (.dup, 1) := by decide +kernel
theorem eX6_layRule_42 : decode cX6_layRule 42 = .ok (.getfield 57, 3) := by decide +kernel
theorem eX6_layRule_45 : decode cX6_layRule 45 = .ok (.iconst 1, 1) := by decide +kernel
theorem eX6_layRule_46 : decode cX6_layRule 46 = .ok (.iadd, 1) := by decide +kernel
theorem eX6_layRule_47 : decode cX6_layRule 47 = .ok (.putfield 57, 3) := by decide +kernel
theorem eX6_layRule_50 : decode cX6_layRule 50 = .ok (.return_, 1) := by decide +kernel
abbrev vs_C_6_layRule : List Cond := .code yX6_layRule cX6_layRule 4 none :: CM
set_option maxHeartbeats 4000000 in
set_option maxRecDepth 100000 in
theorem c_C_6_layRule (l : Launch) (dC : Nat → ClassId) (dI : Nat → Nat → Nat) (sz : Nat) (ti : Nat) (r0 : Nat) (ln : Nat) (r2 : Nat) (r3 : Nat) (r4 : Nat) (r5 : Nat) (nr : Nat) (r7 : Nat) (r8 : Nat) (tz : Nat) (k_j0 : ClassId) (q_j0 : Nat → Nat) (k_j2 : ClassId) (j2 : Nat → Int32) (k_j3 : ClassId) (q_j3 : Nat → Nat) (k_j4 : ClassId) (q_j4 : Nat → Nat) (k_j5 : ClassId) (j5 : Nat → Int32) (k_j7 : ClassId) (q_j7 : Nat → Nat) (k_j8 : ClassId) (j8 : Nat → Int32) (a0 : Nat) (a1 : Nat) (p2 : Int32) (hln : ln ≤ 119) (hnr : nr ≤ 1920) (ha0 : a0 ≤ 120) (ha1 : a1 ≤ 120) : Met l yX6_layRule vs_C_6_layRule ({ frames := 0, cells := 0, slots := 0, locals := 0 }) (va_Pc [.ref ti, .int (nI a0), .int (nI a1), .int p2] (pu_B (dC, dI) (ti__w ti r0 (nI ln) r2 r3 r4 r5 (nI nr) r7 r8 tz k_j0 (bN 13 q_j0) k_j2 j2 k_j3 (bN 120 q_j3) k_j4 (bN 120 q_j4) k_j5 j5 k_j7 (bN 120 q_j7) k_j8 j8) (ti__t k_j0 k_j2 k_j3 k_j4 k_j5 k_j7 k_j8) sz)) (va_Qv (fun (_ : Unit) => True) (fun _ t => ∃ (z_j3 : Nat → Nat) (z_j4 : Nat → Nat) (z_j5 : Nat → Int32) (z_nr : Nat), pu_E (dC, dI) (ti__w ti r0 (nI ln) r2 r3 r4 r5 (nI z_nr) r7 r8 tz k_j0 (bN 13 q_j0) k_j2 j2 k_j3 (bN 120 z_j3) k_j4 (bN 120 z_j4) k_j5 z_j5 k_j7 (bN 120 q_j7) k_j8 j8) (ti__t k_j0 k_j2 k_j3 k_j4 k_j5 k_j7 k_j8) (va_A ((ti__w ti r0 (nI ln) r2 r3 r4 r5 (nI nr) r7 r8 tz k_j0 (bN 13 q_j0) k_j2 j2 k_j3 (bN 120 q_j3) k_j4 (bN 120 q_j4) k_j5 j5 k_j7 (bN 120 q_j7) k_j8 j8)) sz) t ∧ (z_nr ≤ 1920)) (va_A ((ti__w ti r0 (nI ln) r2 r3 r4 r5 (nI nr) r7 r8 tz k_j0 (bN 13 q_j0) k_j2 j2 k_j3 (bN 120 q_j3) k_j4 (bN 120 q_j4) k_j5 j5 k_j7 (bN 120 q_j7) k_j8 j8)) sz)) 0 0 (va_A ((ti__w ti r0 (nI ln) r2 r3 r4 r5 (nI nr) r7 r8 tz k_j0 (bN 13 q_j0) k_j2 j2 k_j3 (bN 120 q_j3) k_j4 (bN 120 q_j4) k_j5 j5 k_j7 (bN 120 q_j7) k_j8 j8)) sz) := by
  refine Met.ofW (cc := cX6_layRule) (maxL := 4) (ret := none) (by decide) rfl ?_
  intro p e s m args below meth c s₁ B hml hv
  obtain ⟨rfl, rfl, hP, hK, hD0⟩ := hv
  have hx := B.exec
  have hb := B.bytes
  have hr := B.returns
  have hts := atoms_spec (ws := vs_C_6_layRule) B.pre
  have v_1 := hts (.fieldLink RX6 57 "ClockReach$Timing" "rules" "I") (List.mem_cons_of_mem _ cm_371)
  have v_2 := hts (.fieldLink RX6 18 "ClockReach$Timing" "laters" "[I") (List.mem_cons_of_mem _ cm_396)
  have v_3 := hts (.fieldLink RX6 21 "ClockReach$Timing" "earliers" "[I") (List.mem_cons_of_mem _ cm_397)
  have v_4 := hts (.fieldLink RX6 24 "ClockReach$Timing" "gaps" "[I") (List.mem_cons_of_mem _ cm_398)
  have hown : s.vm.findClass RX6 = some m.cls := findClass_of_methodNamed B.named
  have hlocks := B.notSynchronized
  have hiX6 : ∀ w ∈ wsX60, w ∈ vs_C_6_layRule := fun _ h => List.mem_cons_of_mem _ (cm_X6 h)
  have hD := hD0.self (sz := s.heap.size)
  generalize hAe : va_A ((ti__w ti r0 (nI ln) r2 r3 r4 r5 (nI nr) r7 r8 tz k_j0 (bN 13 q_j0) k_j2 j2 k_j3 (bN 120 q_j3) k_j4 (bN 120 q_j4) k_j5 j5 k_j7 (bN 120 q_j7) k_j8 j8)) s.heap.size = A at hD ⊢
  have hA : ∀ q : Nat, s.heap.size ≤ q → A q := fun q h => by rw [← hAe]; exact Or.inr h
  have hS : va_S A s.heap s.heap [] := va_S.rf
  have hl := lv_entry ([.ref ti, .int (nI a0), .int (nI a1), .int p2]) (n := 4) (Nat.le_of_ble_eq_true rfl)
  rw [lg_entry_eq]
  generalize (lg_sl ([.ref ti, .int (nI a0), .int (nI a1), .int p2]) ++ List.replicate (4 - (lg_sl ([.ref ti, .int (nI a0), .int (nI a1), .int p2])).length) Slot.unset).toArray = ls at hl ⊢
  have hl : lv_has ls 4 [(0, .ref ti), (1, .int (nI a0)), (2, .int (nI a1)), (3, .int p2)] := hl
  refine lv_aload_n hx hb eX6_layRule_0 rfl (lv_at hl 0 rfl) ?_
  refine va_get (D := (dC, dI)) (ci := 6) (v := .int (nI nr)) (C := RX6) (T := TX6) (N := 10) hx hb hts hiX6 hown hK hP 0 rfl rfl 6 (by decide) v_1 (fun _ h9 => h9) rfl eX6_layRule_1 ?_
  refine lv_sipush (v := 1920) hx hb eX6_layRule_4 (by decide) ?_
  refine lv_icmp_ge (tgt := 50) hx hb eX6_layRule_7 (by decide) (fun c_1 => ?_) (fun c_1 => ?_)
  · have c_1 : 1920 ≤ nr := (nI_leI (a := 1920) (b := nr) (Nat.le_of_ble_eq_true rfl) (Nat.lt_of_le_of_lt hnr (Nat.le_of_ble_eq_true rfl))).mp c_1
    exact W.vret hx hb hr (fun t ht hW => ⟨⟨(), rfl, trivial, ⟨q_j3, q_j4, j5, nr, ⟨by rw [ht]; exact hP, va_K.moved hW.alike hK, hD⟩, hnr⟩⟩, hS.F ht⟩) hS.2.2 eX6_layRule_50
  · have c_1 : ¬ 1920 ≤ nr := fun z => c_1 ((nI_leI (a := 1920) (b := nr) (Nat.le_of_ble_eq_true rfl) (Nat.lt_of_le_of_lt hnr (Nat.le_of_ble_eq_true rfl))).mpr z)
    refine lv_aload_n hx hb eX6_layRule_10 rfl (lv_at hl 0 rfl) ?_
    refine va_get (D := (dC, dI)) (ci := 6) (v := .ref r3) (C := RX6) (T := TX6) (N := 10) hx hb hts hiX6 hown hK hP 0 rfl rfl 3 (by decide) v_2 (fun _ h9 => h9) rfl eX6_layRule_11 ?_
    refine lv_aload_n hx hb eX6_layRule_14 rfl (lv_at hl 0 rfl) ?_
    refine va_get (D := (dC, dI)) (ci := 6) (v := .int (nI nr)) (C := RX6) (T := TX6) (N := 10) hx hb hts hiX6 hown hK hP 0 rfl rfl 6 (by decide) v_1 (fun _ h9 => h9) rfl eX6_layRule_15 ?_
    refine lv_iload_n hx hb eX6_layRule_18 rfl (lv_at hl 1 rfl) ?_
    refine va_iast hx hb hK hP hD hS 3 2 rfl rfl (vp_in_nI (n := nr) (by omega) (Nat.le_of_ble_eq_true rfl)) eX6_layRule_19 (fun H locs hP hD hS => ?_)
    obtain ⟨q_2, eq_2, kq_2⟩ := bN_up 120 q_j3 (((nI nr) : Int32).toNatClampNeg) (v := a0) ha0
    have hP : va_P (dC, dI) vwCl (ti__w ti r0 (nI ln) r2 r3 r4 r5 (nI nr) r7 r8 tz k_j0 (bN 13 q_j0) k_j2 j2 k_j3 (bN 120 q_2) k_j4 (bN 120 q_j4) k_j5 j5 k_j7 (bN 120 q_j7) k_j8 j8) H := by rw [← eq_2]; exact hP
    have hD : va_D A (ti__w ti r0 (nI ln) r2 r3 r4 r5 (nI nr) r7 r8 tz k_j0 (bN 13 q_j0) k_j2 j2 k_j3 (bN 120 q_2) k_j4 (bN 120 q_j4) k_j5 j5 k_j7 (bN 120 q_j7) k_j8 j8) := by rw [← eq_2]; exact hD
    refine lv_aload_n hx hb eX6_layRule_20 rfl (lv_at hl 0 rfl) ?_
    refine va_get (D := (dC, dI)) (ci := 6) (v := .ref r4) (C := RX6) (T := TX6) (N := 10) hx hb hts hiX6 hown hK hP 0 rfl rfl 4 (by decide) v_3 (fun _ h9 => h9) rfl eX6_layRule_21 ?_
    refine lv_aload_n hx hb eX6_layRule_24 rfl (lv_at hl 0 rfl) ?_
    refine va_get (D := (dC, dI)) (ci := 6) (v := .int (nI nr)) (C := RX6) (T := TX6) (N := 10) hx hb hts hiX6 hown hK hP 0 rfl rfl 6 (by decide) v_1 (fun _ h9 => h9) rfl eX6_layRule_25 ?_
    refine lv_iload_n hx hb eX6_layRule_28 rfl (lv_at hl 2 rfl) ?_
    refine va_iast hx hb hK hP hD hS 4 3 rfl rfl (vp_in_nI (n := nr) (by omega) (Nat.le_of_ble_eq_true rfl)) eX6_layRule_29 (fun H locs hP hD hS => ?_)
    obtain ⟨q_3, eq_3, kq_3⟩ := bN_up 120 q_j4 (((nI nr) : Int32).toNatClampNeg) (v := a1) ha1
    have hP : va_P (dC, dI) vwCl (ti__w ti r0 (nI ln) r2 r3 r4 r5 (nI nr) r7 r8 tz k_j0 (bN 13 q_j0) k_j2 j2 k_j3 (bN 120 q_2) k_j4 (bN 120 q_3) k_j5 j5 k_j7 (bN 120 q_j7) k_j8 j8) H := by rw [← eq_3]; exact hP
    have hD : va_D A (ti__w ti r0 (nI ln) r2 r3 r4 r5 (nI nr) r7 r8 tz k_j0 (bN 13 q_j0) k_j2 j2 k_j3 (bN 120 q_2) k_j4 (bN 120 q_3) k_j5 j5 k_j7 (bN 120 q_j7) k_j8 j8) := by rw [← eq_3]; exact hD
    refine lv_aload_n hx hb eX6_layRule_30 rfl (lv_at hl 0 rfl) ?_
    refine va_get (D := (dC, dI)) (ci := 6) (v := .ref r5) (C := RX6) (T := TX6) (N := 10) hx hb hts hiX6 hown hK hP 0 rfl rfl 5 (by decide) v_4 (fun _ h9 => h9) rfl eX6_layRule_31 ?_
    refine lv_aload_n hx hb eX6_layRule_34 rfl (lv_at hl 0 rfl) ?_
    refine va_get (D := (dC, dI)) (ci := 6) (v := .int (nI nr)) (C := RX6) (T := TX6) (N := 10) hx hb hts hiX6 hown hK hP 0 rfl rfl 6 (by decide) v_1 (fun _ h9 => h9) rfl eX6_layRule_35 ?_
    refine lv_iload_n hx hb eX6_layRule_38 rfl (lv_at hl 3 rfl) ?_
    refine va_iast hx hb hK hP hD hS 5 4 rfl rfl (vp_in_nI (n := nr) (by omega) (Nat.le_of_ble_eq_true rfl)) eX6_layRule_39 (fun H locs hP hD hS => ?_)
    have hP : va_P (dC, dI) vwCl (ti__w ti r0 (nI ln) r2 r3 r4 r5 (nI nr) r7 r8 tz k_j0 (bN 13 q_j0) k_j2 j2 k_j3 (bN 120 q_2) k_j4 (bN 120 q_3) k_j5 (upd j5 ((nI nr) : Int32).toNatClampNeg p2) k_j7 (bN 120 q_j7) k_j8 j8) H := hP
    have hD : va_D A (ti__w ti r0 (nI ln) r2 r3 r4 r5 (nI nr) r7 r8 tz k_j0 (bN 13 q_j0) k_j2 j2 k_j3 (bN 120 q_2) k_j4 (bN 120 q_3) k_j5 (upd j5 ((nI nr) : Int32).toNatClampNeg p2) k_j7 (bN 120 q_j7) k_j8 j8) := hD
    refine lv_aload_n hx hb eX6_layRule_40 rfl (lv_at hl 0 rfl) ?_
    refine lv_dup hx hb eX6_layRule_41 rfl ?_
    refine va_get (D := (dC, dI)) (ci := 6) (v := .int (nI nr)) (C := RX6) (T := TX6) (N := 10) hx hb hts hiX6 hown hK hP 0 rfl rfl 6 (by decide) v_1 (fun _ h9 => h9) rfl eX6_layRule_42 ?_
    refine lv_iconst (v := 1) hx hb eX6_layRule_45 (by decide) ?_
    refine lv_iadd hx hb eX6_layRule_46 ?_
    refine lv_topi (fun y_4 ey_4 => ?_)
    obtain rfl : y_4 = (nI (nr + 1)) := ey_4.trans (nI_add nr 1)
    refine va_put (D := (dC, dI)) (ci := 6) (v := .int (nI (nr + 1))) (ty := .int) (C := RX6) (T := TX6) (N := 10) hx hb hts hiX6 tyX6 tyX6_ok nmX6 hown hK hP hD hS 0 rfl rfl 6 (by decide) v_1 (fun _ h9 => h9) rfl (by decide +kernel) rfl rfl (Nat.le_of_ble_eq_true rfl) eX6_layRule_47 (fun H locs hP hD hS => ?_)
    have hP : va_P (dC, dI) vwCl (ti__w ti r0 (nI ln) r2 r3 r4 r5 (nI (nr + 1)) r7 r8 tz k_j0 (bN 13 q_j0) k_j2 j2 k_j3 (bN 120 q_2) k_j4 (bN 120 q_3) k_j5 (upd j5 ((nI nr) : Int32).toNatClampNeg p2) k_j7 (bN 120 q_j7) k_j8 j8) H := hP
    have hD : va_D A (ti__w ti r0 (nI ln) r2 r3 r4 r5 (nI (nr + 1)) r7 r8 tz k_j0 (bN 13 q_j0) k_j2 j2 k_j3 (bN 120 q_2) k_j4 (bN 120 q_3) k_j5 (upd j5 ((nI nr) : Int32).toNatClampNeg p2) k_j7 (bN 120 q_j7) k_j8 j8) := hD
    exact W.vret hx hb hr (fun t ht hW => ⟨⟨(), rfl, trivial, ⟨q_2, q_3, (upd j5 ((nI nr) : Int32).toNatClampNeg p2), (nr + 1), ⟨by rw [ht]; exact hP, va_K.moved hW.alike hK, hD⟩, (by omega)⟩⟩, hS.F ht⟩) hS.2.2 eX6_layRule_50
theorem eX6_layConditions_0 : decode cX6_layConditions 0 = .ok (.iconst 0, 1) := by decide +kernel
theorem eX6_layConditions_1 : decode cX6_layConditions 1 = .ok (.istore 4, 2) := by decide +kernel
theorem eX6_layConditions_3 : decode cX6_layConditions 3 = .ok (.iload 4, 2) := by decide +kernel
theorem eX6_layConditions_5 : decode cX6_layConditions 5 = .ok (.aload_n 1, 1) := by decide +kernel
theorem eX6_layConditions_6 : decode cX6_layConditions 6 = .ok (.getfield 93, 3) := by decide +kernel
theorem eX6_layConditions_9 : decode cX6_layConditions 9 = .ok (.iload_n 2, 1) := by decide +kernel
theorem eX6_layConditions_10 : decode cX6_layConditions 10 = .ok (.iaload, 1) := by decide +kernel
theorem eX6_layConditions_11 : decode cX6_layConditions 11 = .ok (.if_icmp .ge 91, 3) := by decide +kernel
theorem eX6_layConditions_14 : decode cX6_layConditions 14 = .ok (.iload_n 2, 1) := by decide +kernel
theorem eX6_layConditions_15 : decode cX6_layConditions 15 = .ok (.iload 4, 2) := by decide +kernel
theorem eX6_layConditions_17 : decode cX6_layConditions 17 = .ok (.invokestatic 96, 3) := by decide +kernel
theorem eX6_layConditions_20 : decode cX6_layConditions 20 = .ok (.istore 5, 2) := by decide +kernel
theorem eX6_layConditions_22 : decode cX6_layConditions 22 = .ok (.aload_n 0, 1) := by decide +kernel
theorem eX6_layConditions_23 : decode cX6_layConditions 23 = .ok (.getfield 27, 3) := by decide +kernel
theorem eX6_layConditions_26 : decode cX6_layConditions 26 = .ok (.aload_n 1, 1) := by decide +kernel
theorem eX6_layConditions_27 : decode cX6_layConditions 27 = .ok (.getfield 100, 3) := by decide +kernel
theorem eX6_layConditions_30 : decode cX6_layConditions 30 = .ok (.iload 5, 2) := by decide +kernel
theorem eX6_layConditions_32 : decode cX6_layConditions 32 = .ok (.iaload, 1) := by decide +kernel
theorem eX6_layConditions_33 : decode cX6_layConditions 33 = .ok (.iaload, 1) := by decide +kernel
theorem eX6_layConditions_34 : decode cX6_layConditions 34 = .ok (.istore 6, 2) := by decide +kernel
theorem eX6_layConditions_36 : decode cX6_layConditions 36 = .ok (.aload_n 1, 1) := by decide +kernel
theorem eX6_layConditions_37 : decode cX6_layConditions 37 = .ok (.getfield 103, 3) := by decide +kernel
theorem eX6_layConditions_40 : decode cX6_layConditions 40 = .ok (.iload 5, 2) := by decide +kernel
theorem eX6_layConditions_42 : decode cX6_layConditions 42 = .ok (.iaload, 1) := by decide +kernel
theorem eX6_layConditions_43 : decode cX6_layConditions 43 = .ok (.ldc 106, 2) := by decide +kernel
theorem eX6_layConditions_45 : decode cX6_layConditions 45 = .ok (.if_icmp .eq 21, 3) := by decide +kernel
theorem eX6_layConditions_48 : decode cX6_layConditions 48 = .ok (.aload_n 0, 1) := by decide +kernel
theorem eX6_layConditions_49 : decode cX6_layConditions 49 = .ok (.iload 6, 2) := by decide +kernel
theorem eX6_layConditions_51 : decode cX6_layConditions 51 = .ok (.iload_n 3, 1) := by decide +kernel
theorem eX6_layConditions_52 : decode cX6_layConditions 52 = .ok (.aload_n 1, 1) := by decide +kernel
theorem eX6_layConditions_53 : decode cX6_layConditions 53 = .ok (.getfield 103, 3) := by decide +kernel
theorem eX6_layConditions_56 : decode cX6_layConditions 56 = .ok (.iload 5, 2) := by decide +kernel
theorem eX6_layConditions_58 : decode cX6_layConditions 58 = .ok (.iaload, 1) := by decide +kernel
theorem eX6_layConditions_59 : decode cX6_layConditions 59 = .ok (.invokestatic 107, 3) := by decide +kernel
theorem eX6_layConditions_62 : decode cX6_layConditions 62 = .ok (.ineg, 1) := by decide +kernel
theorem eX6_layConditions_63 : decode cX6_layConditions 63 = .ok (.invokevirtual 76, 3) := by decide +kernel
theorem eX6_layConditions_66 : decode cX6_layConditions 66 = .ok (.aload_n 1, 1) := by decide +kernel
theorem eX6_layConditions_67 : decode cX6_layConditions 67 = .ok (.getfield 110, 3) := by decide +kernel
theorem eX6_layConditions_70 : decode cX6_layConditions 70 = .ok (.iload 5, 2) := by decide +kernel
theorem eX6_layConditions_72 : decode cX6_layConditions 72 = .ok (.iaload, 1) := by decide +kernel
theorem eX6_layConditions_73 : decode cX6_layConditions 73 = .ok (.ldc 106, 2) := by decide +kernel
theorem eX6_layConditions_75 : decode cX6_layConditions 75 = .ok (.if_icmp .eq 21, 3) := by decide +kernel
theorem eX6_layConditions_78 : decode cX6_layConditions 78 = .ok (.aload_n 0, 1) := by decide +kernel
theorem eX6_layConditions_79 : decode cX6_layConditions 79 = .ok (.iload_n 3, 1) := by decide +kernel
theorem eX6_layConditions_80 : decode cX6_layConditions 80 = .ok (.iload 6, 2) := by decide +kernel
theorem eX6_layConditions_82 : decode cX6_layConditions 82 = .ok (.aload_n 1, 1) := by decide +kernel
theorem eX6_layConditions_83 : decode cX6_layConditions 83 = .ok (.getfield 110, 3) := by decide +kernel
theorem eX6_layConditions_86 : decode cX6_layConditions 86 = .ok (.iload 5, 2) := by decide +kernel
theorem eX6_layConditions_88 : decode cX6_layConditions 88 = .ok (.iaload, 1) := by decide +kernel
theorem eX6_layConditions_89 : decode cX6_layConditions 89 = .ok (.invokestatic 107, 3) := by decide +kernel
theorem eX6_layConditions_92 : decode cX6_layConditions 92 = .ok (.ineg, 1) := by decide +kernel
theorem eX6_layConditions_93 : decode cX6_layConditions 93 = .ok (.invokevirtual 76, 3) := by decide +kernel
theorem eX6_layConditions_96 : decode cX6_layConditions 96 = .ok (.iinc 4 1, 3) := by decide +kernel
theorem eX6_layConditions_99 : decode cX6_layConditions 99 = .ok (.goto (-96), 3) := by decide +kernel
theorem eX6_layConditions_102 : decode cX6_layConditions 102 = .ok (.return_, 1) := by decide +kernel
abbrev vs_C_6_layConditions : List Cond := .code yX6_layConditions cX6_layConditions 7 none :: CM
theorem g_C_6_layConditions_C_0_slot : GoodIn vs_C_6_layConditions (va_wsS RX6 96 yX0_slot vs_C_0_slot) := cm_gS cm_390 cm_18 cm_19 cm_1
theorem g_C_6_layConditions_C_7_ticks : GoodIn vs_C_6_layConditions (va_wsS RX6 107 yX7_ticks vs_C_7_ticks) := cm_gS cm_391 cm_68 cm_45 cm_69
theorem g_C_6_layConditions_C_6_layRule : GoodIn vs_C_6_layConditions (wsV RX6 76 RX6 yX6_layRule vs_C_6_layRule) := cm_gV cm_392 cm_393 cm_394 cm_383 cm_395
set_option maxHeartbeats 4000000 in
set_option maxRecDepth 100000 in
theorem c_C_6_layConditions (l : Launch) (dC : Nat → ClassId) (dI : Nat → Nat → Nat) (sz : Nat) (ti : Nat) (r0 : Nat) (ln : Nat) (r2 : Nat) (r3 : Nat) (r4 : Nat) (r5 : Nat) (nr : Nat) (r7 : Nat) (r8 : Nat) (tz : Nat) (k_j0 : ClassId) (q_j0 : Nat → Nat) (k_j2 : ClassId) (j2 : Nat → Int32) (k_j3 : ClassId) (q_j3 : Nat → Nat) (k_j4 : ClassId) (q_j4 : Nat → Nat) (k_j5 : ClassId) (j5 : Nat → Int32) (k_j7 : ClassId) (q_j7 : Nat → Nat) (k_j8 : ClassId) (j8 : Nat → Int32) (au : Nat) (nc : Nat) (np : Nat) (ne : Nat) (st0 : Int32) (q4 : Nat) (q5 : Nat) (q6 : Nat) (q7 : Nat) (q8 : Nat) (q9 : Nat) (q10 : Nat) (q11 : Nat) (q12 : Nat) (q13 : Nat) (q14 : Nat) (q15 : Nat) (q16 : Nat) (k_f4 : ClassId) (f4 : Nat → Int32) (k_f5 : ClassId) (q_f5 : Nat → Nat) (k_f6 : ClassId) (q_f6 : Nat → Nat) (k_f7 : ClassId) (f7 : Nat → Int32) (k_f8 : ClassId) (q_f8 : Nat → Nat) (k_f9 : ClassId) (q_f9 : Nat → Nat) (k_f10 : ClassId) (f10 : Nat → Int32) (k_f11 : ClassId) (f11 : Nat → Int32) (k_f12 : ClassId) (f12 : Nat → Int32) (k_f13 : ClassId) (f13 : Nat → Int32) (k_f14 : ClassId) (f14 : Nat → Int32) (k_f15 : ClassId) (f15 : Nat → Int32) (k_f16 : ClassId) (f16 : Nat → Int32) (a1 : Nat) (a2 : Nat) (hln : ln ≤ 119) (hnr : nr ≤ 1920) (hnc : nc ≤ 3) (hnp : np ≤ 8) (hne : ne ≤ 14) (hst0 : pm1 7 st0) (ha1 : a1 ≤ 21) (ha2 : a2 ≤ 120) : Met l yX6_layConditions vs_C_6_layConditions ({ frames := 1, cells := 0, slots := 0, locals := 23 }) (va_Pc [.ref ti, .ref au, .int (nI a1), .int (nI a2)] (pu_B (dC, dI) (ta__w ti r0 (nI ln) r2 r3 r4 r5 (nI nr) r7 r8 tz k_j0 (bN 13 q_j0) k_j2 j2 k_j3 (bN 120 q_j3) k_j4 (bN 120 q_j4) k_j5 j5 k_j7 (bN 120 q_j7) k_j8 j8 au (nI nc) (nI np) (nI ne) st0 q4 q5 q6 q7 q8 q9 q10 q11 q12 q13 q14 q15 q16 k_f4 f4 k_f5 (bN 7 q_f5) k_f6 (bN 7 q_f6) k_f7 f7 k_f8 (bN 4 q_f8) k_f9 (bN 2 q_f9) k_f10 f10 k_f11 f11 k_f12 f12 k_f13 f13 k_f14 f14 k_f15 f15 k_f16 f16) (ta__t k_j0 k_j2 k_j3 k_j4 k_j5 k_j7 k_j8 k_f4 k_f5 k_f6 k_f7 k_f8 k_f9 k_f10 k_f11 k_f12 k_f13 k_f14 k_f15 k_f16) sz)) (va_Qv (fun (_ : Unit) => True) (fun _ t => ∃ (z_j3 : Nat → Nat) (z_j4 : Nat → Nat) (z_j5 : Nat → Int32) (z_nr : Nat), pu_E (dC, dI) (ta__w ti r0 (nI ln) r2 r3 r4 r5 (nI z_nr) r7 r8 tz k_j0 (bN 13 q_j0) k_j2 j2 k_j3 (bN 120 z_j3) k_j4 (bN 120 z_j4) k_j5 z_j5 k_j7 (bN 120 q_j7) k_j8 j8 au (nI nc) (nI np) (nI ne) st0 q4 q5 q6 q7 q8 q9 q10 q11 q12 q13 q14 q15 q16 k_f4 f4 k_f5 (bN 7 q_f5) k_f6 (bN 7 q_f6) k_f7 f7 k_f8 (bN 4 q_f8) k_f9 (bN 2 q_f9) k_f10 f10 k_f11 f11 k_f12 f12 k_f13 f13 k_f14 f14 k_f15 f15 k_f16 f16) (ta__t k_j0 k_j2 k_j3 k_j4 k_j5 k_j7 k_j8 k_f4 k_f5 k_f6 k_f7 k_f8 k_f9 k_f10 k_f11 k_f12 k_f13 k_f14 k_f15 k_f16) (va_A ((ta__w ti r0 (nI ln) r2 r3 r4 r5 (nI nr) r7 r8 tz k_j0 (bN 13 q_j0) k_j2 j2 k_j3 (bN 120 q_j3) k_j4 (bN 120 q_j4) k_j5 j5 k_j7 (bN 120 q_j7) k_j8 j8 au (nI nc) (nI np) (nI ne) st0 q4 q5 q6 q7 q8 q9 q10 q11 q12 q13 q14 q15 q16 k_f4 f4 k_f5 (bN 7 q_f5) k_f6 (bN 7 q_f6) k_f7 f7 k_f8 (bN 4 q_f8) k_f9 (bN 2 q_f9) k_f10 f10 k_f11 f11 k_f12 f12 k_f13 f13 k_f14 f14 k_f15 f15 k_f16 f16)) sz) t ∧ (z_nr ≤ 1920)) (va_A ((ta__w ti r0 (nI ln) r2 r3 r4 r5 (nI nr) r7 r8 tz k_j0 (bN 13 q_j0) k_j2 j2 k_j3 (bN 120 q_j3) k_j4 (bN 120 q_j4) k_j5 j5 k_j7 (bN 120 q_j7) k_j8 j8 au (nI nc) (nI np) (nI ne) st0 q4 q5 q6 q7 q8 q9 q10 q11 q12 q13 q14 q15 q16 k_f4 f4 k_f5 (bN 7 q_f5) k_f6 (bN 7 q_f6) k_f7 f7 k_f8 (bN 4 q_f8) k_f9 (bN 2 q_f9) k_f10 f10 k_f11 f11 k_f12 f12 k_f13 f13 k_f14 f14 k_f15 f15 k_f16 f16)) sz)) 0 0 (va_A ((ta__w ti r0 (nI ln) r2 r3 r4 r5 (nI nr) r7 r8 tz k_j0 (bN 13 q_j0) k_j2 j2 k_j3 (bN 120 q_j3) k_j4 (bN 120 q_j4) k_j5 j5 k_j7 (bN 120 q_j7) k_j8 j8 au (nI nc) (nI np) (nI ne) st0 q4 q5 q6 q7 q8 q9 q10 q11 q12 q13 q14 q15 q16 k_f4 f4 k_f5 (bN 7 q_f5) k_f6 (bN 7 q_f6) k_f7 f7 k_f8 (bN 4 q_f8) k_f9 (bN 2 q_f9) k_f10 f10 k_f11 f11 k_f12 f12 k_f13 f13 k_f14 f14 k_f15 f15 k_f16 f16)) sz) := by
  refine Met.ofW (cc := cX6_layConditions) (maxL := 7) (ret := none) (by decide) rfl ?_
  intro p e s m args below meth c s₁ B hml hv
  obtain ⟨rfl, rfl, hP, hK, hD0⟩ := hv
  have hx := B.exec
  have hb := B.bytes
  have hr := B.returns
  have hts := atoms_spec (ws := vs_C_6_layConditions) B.pre
  have v_1 := hts (.fieldLink RX6 93 "ClockReach$Automaton" "counts" "[I") (List.mem_cons_of_mem _ cm_385)
  have v_6 := hts (.fieldLink RX6 27 "ClockReach$Timing" "since" "[I") (List.mem_cons_of_mem _ cm_372)
  have v_7 := hts (.fieldLink RX6 100 "ClockReach$Automaton" "conditionClocks" "[I") (List.mem_cons_of_mem _ cm_386)
  have v_8 := hts (.fieldLink RX6 103 "ClockReach$Automaton" "ceilings" "[I") (List.mem_cons_of_mem _ cm_387)
  have v_9 := hts (.constant RX6 106 (2147483647)) (List.mem_cons_of_mem _ cm_388)
  have v_19 := hts (.fieldLink RX6 110 "ClockReach$Automaton" "floors" "[I") (List.mem_cons_of_mem _ cm_389)
  have hown : s.vm.findClass RX6 = some m.cls := findClass_of_methodNamed B.named
  have hlocks := B.notSynchronized
  have hiX0 : ∀ w ∈ wsX00, w ∈ vs_C_6_layConditions := fun _ h => List.mem_cons_of_mem _ (cm_X0 h)
  have hiX6 : ∀ w ∈ wsX60, w ∈ vs_C_6_layConditions := fun _ h => List.mem_cons_of_mem _ (cm_X6 h)
  have hD := hD0.self (sz := s.heap.size)
  generalize hAe : va_A ((ta__w ti r0 (nI ln) r2 r3 r4 r5 (nI nr) r7 r8 tz k_j0 (bN 13 q_j0) k_j2 j2 k_j3 (bN 120 q_j3) k_j4 (bN 120 q_j4) k_j5 j5 k_j7 (bN 120 q_j7) k_j8 j8 au (nI nc) (nI np) (nI ne) st0 q4 q5 q6 q7 q8 q9 q10 q11 q12 q13 q14 q15 q16 k_f4 f4 k_f5 (bN 7 q_f5) k_f6 (bN 7 q_f6) k_f7 f7 k_f8 (bN 4 q_f8) k_f9 (bN 2 q_f9) k_f10 f10 k_f11 f11 k_f12 f12 k_f13 f13 k_f14 f14 k_f15 f15 k_f16 f16)) s.heap.size = A at hD ⊢
  have hA : ∀ q : Nat, s.heap.size ≤ q → A q := fun q h => by rw [← hAe]; exact Or.inr h
  have hS : va_S A s.heap s.heap [] := va_S.rf
  have hl := lv_entry ([.ref ti, .ref au, .int (nI a1), .int (nI a2)]) (n := 7) (Nat.le_of_ble_eq_true rfl)
  rw [lg_entry_eq]
  generalize (lg_sl ([.ref ti, .ref au, .int (nI a1), .int (nI a2)]) ++ List.replicate (7 - (lg_sl ([.ref ti, .ref au, .int (nI a1), .int (nI a2)])).length) Slot.unset).toArray = ls at hl ⊢
  have hl : lv_has ls 7 [(0, .ref ti), (1, .ref au), (2, .int (nI a1)), (3, .int (nI a2))] := hl
  refine lv_iconst (v := 0) hx hb eX6_layConditions_0 (by decide) ?_
  refine lv_istore (lv' := [(4, .int 0), (0, .ref ti), (1, .ref au), (2, .int (nI a1)), (3, .int (nI a2))]) hx hb eX6_layConditions_1 hl (by decide) rfl (fun ls hl => ?_)
  refine pu_while (fun nn H locs ls => ∃ (g_6 : Nat → Nat) (g_7 : Nat → Nat) (g_8 : Nat → Int32) (g_9 : Nat) (g_10 : Nat), nn = 4 - g_10 ∧ g_9 ≤ 1920 ∧ g_10 ≤ 4 ∧ va_P (dC, dI) vwCl (ta__w ti r0 (nI ln) r2 r3 r4 r5 (nI g_9) r7 r8 tz k_j0 (bN 13 q_j0) k_j2 j2 k_j3 (bN 120 g_6) k_j4 (bN 120 g_7) k_j5 g_8 k_j7 (bN 120 q_j7) k_j8 j8 au (nI nc) (nI np) (nI ne) st0 q4 q5 q6 q7 q8 q9 q10 q11 q12 q13 q14 q15 q16 k_f4 f4 k_f5 (bN 7 q_f5) k_f6 (bN 7 q_f6) k_f7 f7 k_f8 (bN 4 q_f8) k_f9 (bN 2 q_f9) k_f10 f10 k_f11 f11 k_f12 f12 k_f13 f13 k_f14 f14 k_f15 f15 k_f16 f16) H ∧ va_D A (ta__w ti r0 (nI ln) r2 r3 r4 r5 (nI g_9) r7 r8 tz k_j0 (bN 13 q_j0) k_j2 j2 k_j3 (bN 120 g_6) k_j4 (bN 120 g_7) k_j5 g_8 k_j7 (bN 120 q_j7) k_j8 j8 au (nI nc) (nI np) (nI ne) st0 q4 q5 q6 q7 q8 q9 q10 q11 q12 q13 q14 q15 q16 k_f4 f4 k_f5 (bN 7 q_f5) k_f6 (bN 7 q_f6) k_f7 f7 k_f8 (bN 4 q_f8) k_f9 (bN 2 q_f9) k_f10 f10 k_f11 f11 k_f12 f12 k_f13 f13 k_f14 f14 k_f15 f15 k_f16 f16) ∧ va_S A s.heap H locs ∧ lv_has ls 7 [(0, .ref ti), (1, .ref au), (2, .int (nI a1)), (3, .int (nI a2)), (4, .int (nI g_10))]) 3 ?_ _ _ _ _ ⟨q_j3, q_j4, j5, nr, 0, rfl, hnr, (Nat.le_of_ble_eq_true rfl), hP, hD, hS, lv_sub hl [1, 2, 3, 4, 0] rfl⟩
  rintro nn ih_11 H locs ls ⟨g_6, g_7, g_8, g_9, g_10, rfl, hg_9, hg_10, hP, hD, hS, hl⟩
  refine lv_iload hx hb eX6_layConditions_3 (lv_at hl 4 rfl) ?_
  refine lv_aload_n hx hb eX6_layConditions_5 rfl (lv_at hl 1 rfl) ?_
  refine va_get (D := (dC, dI)) (ci := 0) (v := .ref q8) (C := RX0) (T := TX0) (N := 17) hx hb hts hiX0 hown hK hP 8 rfl rfl 8 (by decide) v_1 (fun _ h9 => h9) rfl eX6_layConditions_6 ?_
  refine lv_iload_n hx hb eX6_layConditions_9 rfl (lv_at hl 2 rfl) ?_
  refine va_iald hx hb hK hP 13 11 rfl rfl (vp_in_nI (n := a1) (Nat.lt_of_le_of_lt ha1 (Nat.le_of_ble_eq_true rfl)) (Nat.le_of_ble_eq_true rfl)) eX6_layConditions_10 ?_
  refine lv_topi (fun y_12 ey_12 => ?_)
  obtain ⟨u_13, hu_13, qu_13⟩ := bN_get 4 q_f8 (((nI a1) : Int32).toNatClampNeg)
  obtain rfl : y_12 = nI u_13 := ey_12.trans qu_13
  refine lv_icmp_ge (tgt := 102) hx hb eX6_layConditions_11 (by decide) (fun c_14 => ?_) (fun c_14 => ?_)
  · have c_14 : u_13 ≤ g_10 := (nI_leI (a := u_13) (b := g_10) (Nat.lt_of_le_of_lt hu_13 (Nat.le_of_ble_eq_true rfl)) (Nat.lt_of_le_of_lt hg_10 (Nat.le_of_ble_eq_true rfl))).mp c_14
    exact W.vret hx hb hr (fun t ht hW => ⟨⟨(), rfl, trivial, ⟨g_6, g_7, g_8, g_9, ⟨by rw [ht]; exact hP, va_K.moved hW.alike hK, hD⟩, hg_9⟩⟩, hS.F ht⟩) hS.2.2 eX6_layConditions_102
  · have c_14 : ¬ u_13 ≤ g_10 := fun z => c_14 ((nI_leI (a := u_13) (b := g_10) (Nat.lt_of_le_of_lt hu_13 (Nat.le_of_ble_eq_true rfl)) (Nat.lt_of_le_of_lt hg_10 (Nat.le_of_ble_eq_true rfl))).mpr z)
    refine lv_iload_n hx hb eX6_layConditions_14 rfl (lv_at hl 2 rfl) ?_
    refine lv_iload hx hb eX6_layConditions_15 (lv_at hl 4 rfl) ?_
    refine va_calli (va_runS (As := [.int (nI a1), .int (nI g_10)]) (rest := []) ⟨hx, hb, hml, hown, hts⟩ (c_C_0_slot l dC dI _ a1 g_10 ha1 hg_10) (va_cwS 2 hts g_C_6_layConditions_C_0_slot rfl rfl rfl (by decide +kernel) ⟨Nat.le_of_ble_eq_true rfl, Nat.le_of_ble_eq_true rfl⟩) ⟨pu_bl, pu_in (hP.sub [] rfl) (hK.sub [] rfl) (hD.sub [] (by decide) rfl)⟩ rfl rfl hl.1 rfl (lv_room (Nat.le_of_ble_eq_true rfl)) eX6_layConditions_17 ⟨Nat.le_of_ble_eq_true rfl, Nat.le_of_ble_eq_true rfl⟩) hS (fun q _ h => pu_fr hS hA q h) (pu_fr hS hA) (fun r_15 u t H1 locs ht hvm hw hB hz1 hk1 hS => ?_)
    have hP := pu_keep hP hk1
    clear hk1 hz1 ht hvm
    generalize H1 = H at hP hS ⊢
    obtain rfl : r_15 = nI (a1 * 4 + g_10) := hw
    refine lv_istore (lv' := [(5, .int (nI (a1 * 4 + g_10))), (0, .ref ti), (1, .ref au), (2, .int (nI a1)), (3, .int (nI a2)), (4, .int (nI g_10))]) hx hb eX6_layConditions_20 hl (by decide) rfl (fun ls hl => ?_)
    refine lv_aload_n hx hb eX6_layConditions_22 rfl (lv_at hl 1 rfl) ?_
    refine va_get (D := (dC, dI)) (ci := 6) (v := .ref r7) (C := RX6) (T := TX6) (N := 10) hx hb hts hiX6 hown hK hP 0 rfl rfl 7 (by decide) v_6 (fun _ h9 => h9) rfl eX6_layConditions_23 ?_
    refine lv_aload_n hx hb eX6_layConditions_26 rfl (lv_at hl 2 rfl) ?_
    refine va_get (D := (dC, dI)) (ci := 0) (v := .ref q9) (C := RX0) (T := TX0) (N := 17) hx hb hts hiX0 hown hK hP 8 rfl rfl 9 (by decide) v_7 (fun _ h9 => h9) rfl eX6_layConditions_27 ?_
    refine lv_iload hx hb eX6_layConditions_30 (lv_at hl 0 rfl) ?_
    refine va_iald hx hb hK hP 14 12 rfl rfl (vp_in_nI (n := (a1 * 4 + g_10)) (by omega) (Nat.le_of_ble_eq_true rfl)) eX6_layConditions_32 ?_
    refine lv_topi (fun y_16 ey_16 => ?_)
    obtain ⟨u_17, hu_17, qu_17⟩ := bN_get 2 q_f9 (((nI (a1 * 4 + g_10)) : Int32).toNatClampNeg)
    obtain rfl : y_16 = nI u_17 := ey_16.trans qu_17
    refine va_iald hx hb hK hP 6 5 rfl rfl (vp_in_nI (n := u_17) (Nat.lt_of_le_of_lt hu_17 (Nat.le_of_ble_eq_true rfl)) (Nat.le_of_ble_eq_true rfl)) eX6_layConditions_33 ?_
    refine lv_topi (fun y_18 ey_18 => ?_)
    obtain ⟨u_19, hu_19, qu_19⟩ := bN_get 120 q_j7 (((nI u_17) : Int32).toNatClampNeg)
    obtain rfl : y_18 = nI u_19 := ey_18.trans qu_19
    refine lv_istore (lv' := [(6, .int (nI u_19)), (5, .int (nI (a1 * 4 + g_10))), (0, .ref ti), (1, .ref au), (2, .int (nI a1)), (3, .int (nI a2)), (4, .int (nI g_10))]) hx hb eX6_layConditions_34 hl (by decide) rfl (fun ls hl => ?_)
    refine lv_aload_n hx hb eX6_layConditions_36 rfl (lv_at hl 3 rfl) ?_
    refine va_get (D := (dC, dI)) (ci := 0) (v := .ref q12) (C := RX0) (T := TX0) (N := 17) hx hb hts hiX0 hown hK hP 8 rfl rfl 12 (by decide) v_8 (fun _ h9 => h9) rfl eX6_layConditions_37 ?_
    refine lv_iload hx hb eX6_layConditions_40 (lv_at hl 1 rfl) ?_
    refine va_iald hx hb hK hP 17 15 rfl rfl (vp_in_nI (n := (a1 * 4 + g_10)) (by omega) (Nat.le_of_ble_eq_true rfl)) eX6_layConditions_42 ?_
    refine lv_topi (fun y_20 ey_20 => ?_)
    refine lv_ldc hx hb hown v_9 eX6_layConditions_43 ?_
    refine pu_join (fun H locs ls st => ∃ (g_21 : Nat) (g_22 : Nat → Nat) (g_23 : Nat → Nat) (g_24 : Nat → Int32), st = [] ∧ g_21 ≤ 1920 ∧ va_P (dC, dI) vwCl (ta__w ti r0 (nI ln) r2 r3 r4 r5 (nI g_21) r7 r8 tz k_j0 (bN 13 q_j0) k_j2 j2 k_j3 (bN 120 g_22) k_j4 (bN 120 g_23) k_j5 g_24 k_j7 (bN 120 q_j7) k_j8 j8 au (nI nc) (nI np) (nI ne) st0 q4 q5 q6 q7 q8 q9 q10 q11 q12 q13 q14 q15 q16 k_f4 f4 k_f5 (bN 7 q_f5) k_f6 (bN 7 q_f6) k_f7 f7 k_f8 (bN 4 q_f8) k_f9 (bN 2 q_f9) k_f10 f10 k_f11 f11 k_f12 f12 k_f13 f13 k_f14 f14 k_f15 f15 k_f16 f16) H ∧ va_D A (ta__w ti r0 (nI ln) r2 r3 r4 r5 (nI g_21) r7 r8 tz k_j0 (bN 13 q_j0) k_j2 j2 k_j3 (bN 120 g_22) k_j4 (bN 120 g_23) k_j5 g_24 k_j7 (bN 120 q_j7) k_j8 j8 au (nI nc) (nI np) (nI ne) st0 q4 q5 q6 q7 q8 q9 q10 q11 q12 q13 q14 q15 q16 k_f4 f4 k_f5 (bN 7 q_f5) k_f6 (bN 7 q_f6) k_f7 f7 k_f8 (bN 4 q_f8) k_f9 (bN 2 q_f9) k_f10 f10 k_f11 f11 k_f12 f12 k_f13 f13 k_f14 f14 k_f15 f15 k_f16 f16) ∧ va_S A s.heap H locs ∧ lv_has ls 7 [(0, .ref ti), (1, .ref au), (2, .int (nI a1)), (3, .int (nI a2)), (4, .int (nI g_10)), (5, .int (nI (a1 * 4 + g_10))), (6, .int (nI u_19))]) 66 ?_ (fun j_25 => ?_)
    · rintro H locs ls st ⟨g_21, g_22, g_23, g_24, rfl, hg_21, hP, hD, hS, hl⟩
      refine lv_aload_n hx hb eX6_layConditions_66 rfl (lv_at hl 1 rfl) ?_
      refine va_get (D := (dC, dI)) (ci := 0) (v := .ref q13) (C := RX0) (T := TX0) (N := 17) hx hb hts hiX0 hown hK hP 8 rfl rfl 13 (by decide) v_19 (fun _ h9 => h9) rfl eX6_layConditions_67 ?_
      refine lv_iload hx hb eX6_layConditions_70 (lv_at hl 5 rfl) ?_
      refine va_iald hx hb hK hP 18 16 rfl rfl (vp_in_nI (n := (a1 * 4 + g_10)) (by omega) (Nat.le_of_ble_eq_true rfl)) eX6_layConditions_72 ?_
      refine lv_topi (fun y_26 ey_26 => ?_)
      refine lv_ldc hx hb hown v_9 eX6_layConditions_73 ?_
      refine pu_join (fun H locs ls st => ∃ (g_27 : Nat) (g_28 : Nat → Nat) (g_29 : Nat → Nat) (g_30 : Nat → Int32), st = [] ∧ g_27 ≤ 1920 ∧ va_P (dC, dI) vwCl (ta__w ti r0 (nI ln) r2 r3 r4 r5 (nI g_27) r7 r8 tz k_j0 (bN 13 q_j0) k_j2 j2 k_j3 (bN 120 g_28) k_j4 (bN 120 g_29) k_j5 g_30 k_j7 (bN 120 q_j7) k_j8 j8 au (nI nc) (nI np) (nI ne) st0 q4 q5 q6 q7 q8 q9 q10 q11 q12 q13 q14 q15 q16 k_f4 f4 k_f5 (bN 7 q_f5) k_f6 (bN 7 q_f6) k_f7 f7 k_f8 (bN 4 q_f8) k_f9 (bN 2 q_f9) k_f10 f10 k_f11 f11 k_f12 f12 k_f13 f13 k_f14 f14 k_f15 f15 k_f16 f16) H ∧ va_D A (ta__w ti r0 (nI ln) r2 r3 r4 r5 (nI g_27) r7 r8 tz k_j0 (bN 13 q_j0) k_j2 j2 k_j3 (bN 120 g_28) k_j4 (bN 120 g_29) k_j5 g_30 k_j7 (bN 120 q_j7) k_j8 j8 au (nI nc) (nI np) (nI ne) st0 q4 q5 q6 q7 q8 q9 q10 q11 q12 q13 q14 q15 q16 k_f4 f4 k_f5 (bN 7 q_f5) k_f6 (bN 7 q_f6) k_f7 f7 k_f8 (bN 4 q_f8) k_f9 (bN 2 q_f9) k_f10 f10 k_f11 f11 k_f12 f12 k_f13 f13 k_f14 f14 k_f15 f15 k_f16 f16) ∧ va_S A s.heap H locs ∧ lv_has ls 7 [(0, .ref ti), (1, .ref au), (2, .int (nI a1)), (3, .int (nI a2)), (4, .int (nI g_10)), (5, .int (nI (a1 * 4 + g_10))), (6, .int (nI u_19))]) 96 ?_ (fun j_31 => ?_)
      · rintro H locs ls st ⟨g_27, g_28, g_29, g_30, rfl, hg_27, hP, hD, hS, hl⟩
        refine lv_iinc (v := (nI (g_10 + 1))) (lv' := [(4, .int (nI (g_10 + 1))), (0, .ref ti), (1, .ref au), (2, .int (nI a1)), (3, .int (nI a2)), (5, .int (nI (a1 * 4 + g_10))), (6, .int (nI u_19))]) hx hb eX6_layConditions_96 hl (k := 4) rfl (nI_1 _) (by decide) rfl (fun ls hl => ?_)
        refine lv_goto (tgt := 3) hx hb eX6_layConditions_99 (by decide) ?_
        exact ih_11 (4 - (g_10 + 1)) (by omega) _ _ _ ⟨g_28, g_29, g_30, g_27, (g_10 + 1), rfl, hg_27, (by omega), hP, hD, hS, lv_sub hl [1, 2, 3, 4, 0] rfl⟩
      refine lv_icmp_eq (tgt := 96) hx hb eX6_layConditions_75 (by decide) (fun c_32 => ?_) (fun c_32 => ?_)
      · exact j_31 _ _ _ _ ⟨g_21, g_22, g_23, g_24, rfl, hg_21, hP, hD, hS, lv_sub hl [0, 1, 2, 3, 4, 5, 6] rfl⟩
      · refine lv_aload_n hx hb eX6_layConditions_78 rfl (lv_at hl 0 rfl) ?_
        refine lv_iload_n hx hb eX6_layConditions_79 rfl (lv_at hl 3 rfl) ?_
        refine lv_iload hx hb eX6_layConditions_80 (lv_at hl 6 rfl) ?_
        refine lv_aload_n hx hb eX6_layConditions_82 rfl (lv_at hl 1 rfl) ?_
        refine va_get (D := (dC, dI)) (ci := 0) (v := .ref q13) (C := RX0) (T := TX0) (N := 17) hx hb hts hiX0 hown hK hP 8 rfl rfl 13 (by decide) v_19 (fun _ h9 => h9) rfl eX6_layConditions_83 ?_
        refine lv_iload hx hb eX6_layConditions_86 (lv_at hl 5 rfl) ?_
        refine va_iald hx hb hK hP 18 16 rfl rfl (vp_in_nI (n := (a1 * 4 + g_10)) (by omega) (Nat.le_of_ble_eq_true rfl)) eX6_layConditions_88 ?_
        refine lv_topi (fun y_33 ey_33 => ?_)
        refine va_calli (va_runS (As := [.int y_33]) (rest := [.int (nI u_19), .int (nI a2), .ref ti]) ⟨hx, hb, hml, hown, hts⟩ (c_C_7_ticks l dC dI _ y_33) (va_cwS 1 hts g_C_6_layConditions_C_7_ticks rfl rfl rfl (by decide +kernel) ⟨Nat.le_of_ble_eq_true rfl, Nat.le_of_ble_eq_true rfl⟩) ⟨pu_bl, pu_in (hP.sub [] rfl) (hK.sub [] rfl) (hD.sub [] (by decide) rfl)⟩ rfl rfl hl.1 rfl (lv_room (Nat.le_of_ble_eq_true rfl)) eX6_layConditions_89 ⟨Nat.le_of_ble_eq_true rfl, Nat.le_of_ble_eq_true rfl⟩) hS (fun q _ h => pu_fr hS hA q h) (pu_fr hS hA) (fun r_34 u t H1 locs ht hvm hw hB hz1 hk1 hS => ?_)
        have hP := pu_keep hP hk1
        clear hk1 hz1 ht hvm
        generalize H1 = H at hP hS ⊢
        refine lv_ineg hx hb eX6_layConditions_92 ?_
        refine lv_topi (fun y_35 ey_35 => ?_)
        have hPc : va_P (dC, dI) vwCl (ti__w ti r0 (nI ln) r2 r3 r4 r5 (nI g_21) r7 r8 tz k_j0 (bN 13 q_j0) k_j2 j2 k_j3 (bN 120 g_22) k_j4 (bN 120 g_23) k_j5 g_24 k_j7 (bN 120 q_j7) k_j8 j8) _ := hP.sub [0, 1, 2, 3, 4, 5, 6, 7] rfl
        have hDc := hD.sub (ws' := (ti__w ti r0 (nI ln) r2 r3 r4 r5 (nI g_21) r7 r8 tz k_j0 (bN 13 q_j0) k_j2 j2 k_j3 (bN 120 g_22) k_j4 (bN 120 g_23) k_j5 g_24 k_j7 (bN 120 q_j7) k_j8 j8)) [0, 1, 2, 3, 4, 5, 6, 7] (by decide) rfl
        have hKc : va_K (dC, dI) vwCl (ti__t k_j0 k_j2 k_j3 k_j4 k_j5 k_j7 k_j8) s := hK.sub [0, 1, 2, 3, 4, 5, 6] rfl
        have hFc := pu_free hDc hS hA
        refine va_callv (va_runV (As := [.int (nI a2), .int (nI u_19), .int y_35]) (rest := []) ⟨hx, hb, hml, hown, hts⟩ (c_C_6_layRule l dC dI _ ti r0 ln r2 r3 r4 r5 g_21 r7 r8 tz k_j0 q_j0 k_j2 j2 k_j3 g_22 k_j4 g_23 k_j5 g_24 k_j7 q_j7 k_j8 j8 a2 u_19 y_35 hln hg_21 ha2 hu_19) (cwV 3 hts g_C_6_layConditions_C_6_layRule rfl rfl rfl (by decide +kernel) ⟨Nat.le_of_ble_eq_true rfl, Nat.le_of_ble_eq_true rfl⟩) ⟨pu_bl, va_recv hK hP (ci := 6) (q0 := 0) rfl rfl, pu_in hPc hKc hDc⟩ rfl rfl hl.1 rfl (lv_room (Nat.le_of_ble_eq_true rfl)) eX6_layConditions_93 ⟨Nat.le_of_ble_eq_true rfl, Nat.le_of_ble_eq_true rfl⟩) hS (fun q _ h => hFc q h) hFc (fun u t H1 locs ht hvm hw hB hz1 hk1 hS => ?_)
        obtain ⟨z_j3_37, z_j4_38, z_j5_39, z_nr_40, ⟨hP1, -, hD1⟩, hz_nr_40⟩ := hB
        rw [ht] at hP1
        obtain ⟨hP, hD⟩ := pu_put (ws' := (ta__w ti r0 (nI ln) r2 r3 r4 r5 (nI z_nr_40) r7 r8 tz k_j0 (bN 13 q_j0) k_j2 j2 k_j3 (bN 120 z_j3_37) k_j4 (bN 120 z_j4_38) k_j5 z_j5_39 k_j7 (bN 120 q_j7) k_j8 j8 au (nI nc) (nI np) (nI ne) st0 q4 q5 q6 q7 q8 q9 q10 q11 q12 q13 q14 q15 q16 k_f4 f4 k_f5 (bN 7 q_f5) k_f6 (bN 7 q_f6) k_f7 f7 k_f8 (bN 4 q_f8) k_f9 (bN 2 q_f9) k_f10 f10 k_f11 f11 k_f12 f12 k_f13 f13 k_f14 f14 k_f15 f15 k_f16 f16)) (w1 := (ti__w ti r0 (nI ln) r2 r3 r4 r5 (nI z_nr_40) r7 r8 tz k_j0 (bN 13 q_j0) k_j2 j2 k_j3 (bN 120 z_j3_37) k_j4 (bN 120 z_j4_38) k_j5 z_j5_39 k_j7 (bN 120 q_j7) k_j8 j8)) hP hD [0, 1, 2, 3, 4, 5, 6, 7] rfl hk1 hP1 rfl rfl
        clear hP1 hD1 hFc hPc hDc hKc
        clear hk1 hz1 ht hvm
        generalize H1 = H at hP hS ⊢
        exact j_31 _ _ _ _ ⟨z_nr_40, z_j3_37, z_j4_38, z_j5_39, rfl, hz_nr_40, hP, hD, hS, lv_sub hl [0, 1, 2, 3, 4, 5, 6] rfl⟩
    refine lv_icmp_eq (tgt := 66) hx hb eX6_layConditions_45 (by decide) (fun c_41 => ?_) (fun c_41 => ?_)
    · exact j_25 _ _ _ _ ⟨g_9, g_6, g_7, g_8, rfl, hg_9, hP, hD, hS, lv_sub hl [2, 3, 4, 5, 6, 1, 0] rfl⟩
    · refine lv_aload_n hx hb eX6_layConditions_48 rfl (lv_at hl 2 rfl) ?_
      refine lv_iload hx hb eX6_layConditions_49 (lv_at hl 0 rfl) ?_
      refine lv_iload_n hx hb eX6_layConditions_51 rfl (lv_at hl 5 rfl) ?_
      refine lv_aload_n hx hb eX6_layConditions_52 rfl (lv_at hl 3 rfl) ?_
      refine va_get (D := (dC, dI)) (ci := 0) (v := .ref q12) (C := RX0) (T := TX0) (N := 17) hx hb hts hiX0 hown hK hP 8 rfl rfl 12 (by decide) v_8 (fun _ h9 => h9) rfl eX6_layConditions_53 ?_
      refine lv_iload hx hb eX6_layConditions_56 (lv_at hl 1 rfl) ?_
      refine va_iald hx hb hK hP 17 15 rfl rfl (vp_in_nI (n := (a1 * 4 + g_10)) (by omega) (Nat.le_of_ble_eq_true rfl)) eX6_layConditions_58 ?_
      refine lv_topi (fun y_42 ey_42 => ?_)
      refine va_calli (va_runS (As := [.int y_42]) (rest := [.int (nI a2), .int (nI u_19), .ref ti]) ⟨hx, hb, hml, hown, hts⟩ (c_C_7_ticks l dC dI _ y_42) (va_cwS 1 hts g_C_6_layConditions_C_7_ticks rfl rfl rfl (by decide +kernel) ⟨Nat.le_of_ble_eq_true rfl, Nat.le_of_ble_eq_true rfl⟩) ⟨pu_bl, pu_in (hP.sub [] rfl) (hK.sub [] rfl) (hD.sub [] (by decide) rfl)⟩ rfl rfl hl.1 rfl (lv_room (Nat.le_of_ble_eq_true rfl)) eX6_layConditions_59 ⟨Nat.le_of_ble_eq_true rfl, Nat.le_of_ble_eq_true rfl⟩) hS (fun q _ h => pu_fr hS hA q h) (pu_fr hS hA) (fun r_43 u t H1 locs ht hvm hw hB hz1 hk1 hS => ?_)
      have hP := pu_keep hP hk1
      clear hk1 hz1 ht hvm
      generalize H1 = H at hP hS ⊢
      refine lv_ineg hx hb eX6_layConditions_62 ?_
      refine lv_topi (fun y_44 ey_44 => ?_)
      have hPc : va_P (dC, dI) vwCl (ti__w ti r0 (nI ln) r2 r3 r4 r5 (nI g_9) r7 r8 tz k_j0 (bN 13 q_j0) k_j2 j2 k_j3 (bN 120 g_6) k_j4 (bN 120 g_7) k_j5 g_8 k_j7 (bN 120 q_j7) k_j8 j8) _ := hP.sub [0, 1, 2, 3, 4, 5, 6, 7] rfl
      have hDc := hD.sub (ws' := (ti__w ti r0 (nI ln) r2 r3 r4 r5 (nI g_9) r7 r8 tz k_j0 (bN 13 q_j0) k_j2 j2 k_j3 (bN 120 g_6) k_j4 (bN 120 g_7) k_j5 g_8 k_j7 (bN 120 q_j7) k_j8 j8)) [0, 1, 2, 3, 4, 5, 6, 7] (by decide) rfl
      have hKc : va_K (dC, dI) vwCl (ti__t k_j0 k_j2 k_j3 k_j4 k_j5 k_j7 k_j8) s := hK.sub [0, 1, 2, 3, 4, 5, 6] rfl
      have hFc := pu_free hDc hS hA
      refine va_callv (va_runV (As := [.int (nI u_19), .int (nI a2), .int y_44]) (rest := []) ⟨hx, hb, hml, hown, hts⟩ (c_C_6_layRule l dC dI _ ti r0 ln r2 r3 r4 r5 g_9 r7 r8 tz k_j0 q_j0 k_j2 j2 k_j3 g_6 k_j4 g_7 k_j5 g_8 k_j7 q_j7 k_j8 j8 u_19 a2 y_44 hln hg_9 hu_19 ha2) (cwV 3 hts g_C_6_layConditions_C_6_layRule rfl rfl rfl (by decide +kernel) ⟨Nat.le_of_ble_eq_true rfl, Nat.le_of_ble_eq_true rfl⟩) ⟨pu_bl, va_recv hK hP (ci := 6) (q0 := 0) rfl rfl, pu_in hPc hKc hDc⟩ rfl rfl hl.1 rfl (lv_room (Nat.le_of_ble_eq_true rfl)) eX6_layConditions_63 ⟨Nat.le_of_ble_eq_true rfl, Nat.le_of_ble_eq_true rfl⟩) hS (fun q _ h => hFc q h) hFc (fun u t H1 locs ht hvm hw hB hz1 hk1 hS => ?_)
      obtain ⟨z_j3_46, z_j4_47, z_j5_48, z_nr_49, ⟨hP1, -, hD1⟩, hz_nr_49⟩ := hB
      rw [ht] at hP1
      obtain ⟨hP, hD⟩ := pu_put (ws' := (ta__w ti r0 (nI ln) r2 r3 r4 r5 (nI z_nr_49) r7 r8 tz k_j0 (bN 13 q_j0) k_j2 j2 k_j3 (bN 120 z_j3_46) k_j4 (bN 120 z_j4_47) k_j5 z_j5_48 k_j7 (bN 120 q_j7) k_j8 j8 au (nI nc) (nI np) (nI ne) st0 q4 q5 q6 q7 q8 q9 q10 q11 q12 q13 q14 q15 q16 k_f4 f4 k_f5 (bN 7 q_f5) k_f6 (bN 7 q_f6) k_f7 f7 k_f8 (bN 4 q_f8) k_f9 (bN 2 q_f9) k_f10 f10 k_f11 f11 k_f12 f12 k_f13 f13 k_f14 f14 k_f15 f15 k_f16 f16)) (w1 := (ti__w ti r0 (nI ln) r2 r3 r4 r5 (nI z_nr_49) r7 r8 tz k_j0 (bN 13 q_j0) k_j2 j2 k_j3 (bN 120 z_j3_46) k_j4 (bN 120 z_j4_47) k_j5 z_j5_48 k_j7 (bN 120 q_j7) k_j8 j8)) hP hD [0, 1, 2, 3, 4, 5, 6, 7] rfl hk1 hP1 rfl rfl
      clear hP1 hD1 hFc hPc hDc hKc
      clear hk1 hz1 ht hvm
      generalize H1 = H at hP hS ⊢
      exact j_25 _ _ _ _ ⟨z_nr_49, z_j3_46, z_j4_47, z_j5_48, rfl, hz_nr_49, hP, hD, hS, lv_sub hl [2, 3, 4, 5, 6, 1, 0] rfl⟩
theorem eX6_layRules_0 : decode cX6_layRules 0 = .ok (.aload_n 0, 1) := by decide +kernel
theorem eX6_layRules_1 : decode cX6_layRules 1 = .ok (.iconst 0, 1) := by decide +kernel
theorem eX6_layRules_2 : decode cX6_layRules 2 = .ok (.putfield 57, 3) := by decide +kernel
theorem eX6_layRules_5 : decode cX6_layRules 5 = .ok (.iconst 0, 1) := by decide +kernel
theorem eX6_layRules_6 : decode cX6_layRules 6 = .ok (.istore_n 2, 1) := by decide +kernel
theorem eX6_layRules_7 : decode cX6_layRules 7 = .ok (.iload_n 2, 1) := by decide +kernel
theorem eX6_layRules_8 : decode cX6_layRules 8 = .ok (.iconst 3, 1) := by decide +kernel
theorem eX6_layRules_9 : decode cX6_layRules 9 = .ok (.if_icmp .ge 16, 3) := by decide +kernel
theorem eX6_layRules_12 : decode cX6_layRules 12 = .ok (.aload_n 0, 1) := by decide +kernel
theorem eX6_layRules_13 : decode cX6_layRules 13 = .ok (.getfield 27, 3) := by decide +kernel
theorem eX6_layRules_16 : decode cX6_layRules 16 = .ok (.iload_n 2, 1) := by decide +kernel
theorem eX6_layRules_17 : decode cX6_layRules 17 = .ok (.iconst 0, 1) := by decide +kernel
theorem eX6_layRules_18 : decode cX6_layRules 18 = .ok (.iastore, 1) := by decide +kernel
theorem eX6_layRules_19 : decode cX6_layRules 19 = .ok (.iinc 2 1, 3) := by decide +kernel
theorem eX6_layRules_22 : decode cX6_layRules 22 = .ok (.goto (-15), 3) := by decide +kernel
theorem eX6_layRules_25 : decode cX6_layRules 25 = .ok (.aload_n 0, 1) := by decide +kernel
theorem eX6_layRules_26 : decode cX6_layRules 26 = .ok (.aload_n 1, 1) := by decide +kernel
theorem eX6_layRules_27 : decode cX6_layRules 27 = .ok (.aload_n 1, 1) := by decide +kernel
theorem eX6_layRules_28 : decode cX6_layRules 28 = .ok (.getfield 60, 3) := by decide +kernel
theorem eX6_layRules_31 : decode cX6_layRules 31 = .ok (.invokestatic 65, 3) := by decide +kernel
theorem eX6_layRules_34 : decode cX6_layRules 34 = .ok (.iconst 0, 1) := by decide +kernel
theorem eX6_layRules_35 : decode cX6_layRules 35 = .ok (.invokevirtual 69, 3) := by decide +kernel
theorem eX6_layRules_38 : decode cX6_layRules 38 = .ok (.iconst 0, 1) := by decide +kernel
theorem eX6_layRules_39 : decode cX6_layRules 39 = .ok (.istore_n 2, 1) := by decide +kernel
theorem eX6_layRules_40 : decode cX6_layRules 40 = .ok (.iload_n 2, 1) := by decide +kernel
theorem eX6_layRules_41 : decode cX6_layRules 41 = .ok (.aload_n 0, 1) := by decide +kernel
theorem eX6_layRules_42 : decode cX6_layRules 42 = .ok (.getfield 47, 3) := by decide +kernel
theorem eX6_layRules_45 : decode cX6_layRules 45 = .ok (.if_icmp .ge 134, 3) := by decide +kernel
theorem eX6_layRules_48 : decode cX6_layRules 48 = .ok (.aload_n 0, 1) := by decide +kernel
theorem eX6_layRules_49 : decode cX6_layRules 49 = .ok (.getfield 9, 3) := by decide +kernel
theorem eX6_layRules_52 : decode cX6_layRules 52 = .ok (.iload_n 2, 1) := by decide +kernel
theorem eX6_layRules_53 : decode cX6_layRules 53 = .ok (.iaload, 1) := by decide +kernel
theorem eX6_layRules_54 : decode cX6_layRules 54 = .ok (.istore_n 3, 1) := by decide +kernel
theorem eX6_layRules_55 : decode cX6_layRules 55 = .ok (.aload_n 1, 1) := by decide +kernel
theorem eX6_layRules_56 : decode cX6_layRules 56 = .ok (.getfield 73, 3) := by decide +kernel
theorem eX6_layRules_59 : decode cX6_layRules 59 = .ok (.iload_n 3, 1) := by decide +kernel
theorem eX6_layRules_60 : decode cX6_layRules 60 = .ok (.iaload, 1) := by decide +kernel
theorem eX6_layRules_61 : decode cX6_layRules 61 = .ok (.istore 4, 2) := by decide +kernel
theorem eX6_layRules_63 : decode cX6_layRules 63 = .ok (.aload_n 0, 1) := by decide +kernel
theorem eX6_layRules_64 : decode cX6_layRules 64 = .ok (.iload_n 2, 1) := by decide +kernel
theorem eX6_layRules_65 : decode cX6_layRules 65 = .ok (.iconst 1, 1) := by decide +kernel
theorem eX6_layRules_66 : decode cX6_layRules 66 = .ok (.iadd, 1) := by decide +kernel
theorem eX6_layRules_67 : decode cX6_layRules 67 = .ok (.iload_n 2, 1) := by decide +kernel
theorem eX6_layRules_68 : decode cX6_layRules 68 = .ok (.iconst 0, 1) := by decide +kernel
theorem eX6_layRules_69 : decode cX6_layRules 69 = .ok (.invokevirtual 76, 3) := by decide +kernel
theorem eX6_layRules_72 : decode cX6_layRules 72 = .ok (.aload_n 1, 1) := by decide +kernel
theorem eX6_layRules_73 : decode cX6_layRules 73 = .ok (.getfield 80, 3) := by decide +kernel
theorem eX6_layRules_76 : decode cX6_layRules 76 = .ok (.iload 4, 2) := by decide +kernel
theorem eX6_layRules_78 : decode cX6_layRules 78 = .ok (.baload, 1) := by decide +kernel
theorem eX6_layRules_79 : decode cX6_layRules 79 = .ok (.ifCond .eq 12, 3) := by decide +kernel
theorem eX6_layRules_82 : decode cX6_layRules 82 = .ok (.aload_n 0, 1) := by decide +kernel
theorem eX6_layRules_83 : decode cX6_layRules 83 = .ok (.iload_n 2, 1) := by decide +kernel
theorem eX6_layRules_84 : decode cX6_layRules 84 = .ok (.iload_n 2, 1) := by decide +kernel
theorem eX6_layRules_85 : decode cX6_layRules 85 = .ok (.iconst 1, 1) := by decide +kernel
theorem eX6_layRules_86 : decode cX6_layRules 86 = .ok (.iadd, 1) := by decide +kernel
theorem eX6_layRules_87 : decode cX6_layRules 87 = .ok (.iconst 0, 1) := by decide +kernel
theorem eX6_layRules_88 : decode cX6_layRules 88 = .ok (.invokevirtual 76, 3) := by decide +kernel
theorem eX6_layRules_91 : decode cX6_layRules 91 = .ok (.aload_n 0, 1) := by decide +kernel
theorem eX6_layRules_92 : decode cX6_layRules 92 = .ok (.aload_n 1, 1) := by decide +kernel
theorem eX6_layRules_93 : decode cX6_layRules 93 = .ok (.iload 4, 2) := by decide +kernel
theorem eX6_layRules_95 : decode cX6_layRules 95 = .ok (.invokestatic 65, 3) := by decide +kernel
theorem eX6_layRules_98 : decode cX6_layRules 98 = .ok (.iload_n 2, 1) := by decide +kernel
theorem eX6_layRules_99 : decode cX6_layRules 99 = .ok (.iconst 1, 1) := by decide +kernel
theorem eX6_layRules_100 : decode cX6_layRules 100 = .ok (.iadd, 1) := by decide +kernel
theorem eX6_layRules_101 : decode cX6_layRules 101 = .ok (.invokevirtual 69, 3) := by decide +kernel
theorem eX6_layRules_104 : decode cX6_layRules 104 = .ok (.aload_n 0, 1) := by decide +kernel
theorem eX6_layRules_105 : decode cX6_layRules 105 = .ok (.aload_n 1, 1) := by decide +kernel
theorem eX6_layRules_106 : decode cX6_layRules 106 = .ok (.iload_n 3, 1) := by decide +kernel
theorem eX6_layRules_107 : decode cX6_layRules 107 = .ok (.iload_n 2, 1) := by decide +kernel
theorem eX6_layRules_108 : decode cX6_layRules 108 = .ok (.iconst 1, 1) := by decide +kernel
theorem eX6_layRules_109 : decode cX6_layRules 109 = .ok (.iadd, 1) := by decide +kernel
theorem eX6_layRules_110 : decode cX6_layRules 110 = .ok (.invokevirtual 69, 3) := by decide +kernel
theorem eX6_layRules_113 : decode cX6_layRules 113 = .ok (.iconst 0, 1) := by decide +kernel
theorem eX6_layRules_114 : decode cX6_layRules 114 = .ok (.istore 5, 2) := by decide +kernel
theorem eX6_layRules_116 : decode cX6_layRules 116 = .ok (.iload 5, 2) := by decide +kernel
theorem eX6_layRules_118 : decode cX6_layRules 118 = .ok (.aload_n 1, 1) := by decide +kernel
theorem eX6_layRules_119 : decode cX6_layRules 119 = .ok (.getfield 84, 3) := by decide +kernel
theorem eX6_layRules_122 : decode cX6_layRules 122 = .ok (.if_icmp .ge 34, 3) := by decide +kernel
theorem eX6_layRules_125 : decode cX6_layRules 125 = .ok (.aload_n 1, 1) := by decide +kernel
theorem eX6_layRules_126 : decode cX6_layRules 126 = .ok (.getfield 87, 3) := by decide +kernel
theorem eX6_layRules_129 : decode cX6_layRules 129 = .ok (.iload_n 3, 1) := by decide +kernel
theorem eX6_layRules_130 : decode cX6_layRules 130 = .ok (.iaload, 1) := by decide +kernel
theorem eX6_layRules_131 : decode cX6_layRules 131 = .ok (.iload 5, 2) := by decide +kernel
theorem eX6_layRules_133 : decode cX6_layRules 133 = .ok (.ishr, 1) := by decide +kernel
theorem eX6_layRules_134 : decode cX6_layRules 134 = .ok (.iconst 1, 1) := by decide +kernel
theorem eX6_layRules_135 : decode cX6_layRules 135 = .ok (.iand, 1) := by decide +kernel
theorem eX6_layRules_136 : decode cX6_layRules 136 = .ok (.iconst 1, 1) := by decide +kernel
theorem eX6_layRules_137 : decode cX6_layRules 137 = .ok (.if_icmp .ne 13, 3) := by decide +kernel
theorem eX6_layRules_140 : decode cX6_layRules 140 = .ok (.aload_n 0, 1) := by decide +kernel
theorem eX6_layRules_141 : decode cX6_layRules 141 = .ok (.getfield 27, 3) := by decide +kernel
theorem eX6_layRules_144 : decode cX6_layRules 144 = .ok (.iload 5, 2) := by decide +kernel
theorem eX6_layRules_146 : decode cX6_layRules 146 = .ok (.iload_n 2, 1) := by decide +kernel
theorem eX6_layRules_147 : decode cX6_layRules 147 = .ok (.iconst 1, 1) := by decide +kernel
theorem eX6_layRules_148 : decode cX6_layRules 148 = .ok (.iadd, 1) := by decide +kernel
theorem eX6_layRules_149 : decode cX6_layRules 149 = .ok (.iastore, 1) := by decide +kernel
theorem eX6_layRules_150 : decode cX6_layRules 150 = .ok (.iinc 5 1, 3) := by decide +kernel
theorem eX6_layRules_153 : decode cX6_layRules 153 = .ok (.goto (-37), 3) := by decide +kernel
theorem eX6_layRules_156 : decode cX6_layRules 156 = .ok (.aload_n 0, 1) := by decide +kernel
theorem eX6_layRules_157 : decode cX6_layRules 157 = .ok (.aload_n 1, 1) := by decide +kernel
theorem eX6_layRules_158 : decode cX6_layRules 158 = .ok (.aload_n 1, 1) := by decide +kernel
theorem eX6_layRules_159 : decode cX6_layRules 159 = .ok (.getfield 90, 3) := by decide +kernel
theorem eX6_layRules_162 : decode cX6_layRules 162 = .ok (.iload_n 3, 1) := by decide +kernel
theorem eX6_layRules_163 : decode cX6_layRules 163 = .ok (.iaload, 1) := by decide +kernel
theorem eX6_layRules_164 : decode cX6_layRules 164 = .ok (.invokestatic 65, 3) := by decide +kernel
theorem eX6_layRules_167 : decode cX6_layRules 167 = .ok (.iload_n 2, 1) := by decide +kernel
theorem eX6_layRules_168 : decode cX6_layRules 168 = .ok (.iconst 1, 1) := by decide +kernel
theorem eX6_layRules_169 : decode cX6_layRules 169 = .ok (.iadd, 1) := by decide +kernel
theorem eX6_layRules_170 : decode cX6_layRules 170 = .ok (.invokevirtual 69, 3) := by decide +kernel
theorem eX6_layRules_173 : decode cX6_layRules 173 = .ok (.iinc 2 1, 3) := by decide +kernel
theorem eX6_layRules_176 : decode cX6_layRules 176 = .ok (.goto (-136), 3) := by decide +kernel
theorem eX6_layRules_179 : decode cX6_layRules 179 = .ok (.return_, 1) := by decide +kernel
abbrev vs_C_6_layRules : List Cond := .code yX6_layRules cX6_layRules 6 none :: CM
theorem g_C_6_layRules_C_0_hostOfPlace : GoodIn vs_C_6_layRules (va_wsS RX6 65 yX0_hostOfPlace vs_C_0_hostOfPlace) := cm_gS cm_379 cm_55 cm_19 cm_0
theorem g_C_6_layRules_C_6_layConditions : GoodIn vs_C_6_layRules (wsV RX6 69 RX6 yX6_layConditions vs_C_6_layConditions) := cm_gV cm_380 cm_381 cm_382 cm_383 cm_384
theorem g_C_6_layRules_C_6_layRule : GoodIn vs_C_6_layRules (wsV RX6 76 RX6 yX6_layRule vs_C_6_layRule) := cm_gV cm_392 cm_393 cm_394 cm_383 cm_395
set_option maxHeartbeats 4000000 in
set_option maxRecDepth 100000 in
theorem c_C_6_layRules (l : Launch) (dC : Nat → ClassId) (dI : Nat → Nat → Nat) (sz : Nat) (ti : Nat) (r0 : Nat) (ln : Nat) (r2 : Nat) (r3 : Nat) (r4 : Nat) (r5 : Nat) (nr : Nat) (r7 : Nat) (r8 : Nat) (tz : Nat) (k_j0 : ClassId) (q_j0 : Nat → Nat) (k_j2 : ClassId) (j2 : Nat → Int32) (k_j3 : ClassId) (q_j3 : Nat → Nat) (k_j4 : ClassId) (q_j4 : Nat → Nat) (k_j5 : ClassId) (j5 : Nat → Int32) (k_j7 : ClassId) (q_j7 : Nat → Nat) (k_j8 : ClassId) (j8 : Nat → Int32) (au : Nat) (nc : Nat) (np : Nat) (ne : Nat) (st0 : Nat) (q4 : Nat) (q5 : Nat) (q6 : Nat) (q7 : Nat) (q8 : Nat) (q9 : Nat) (q10 : Nat) (q11 : Nat) (q12 : Nat) (q13 : Nat) (q14 : Nat) (q15 : Nat) (q16 : Nat) (k_f4 : ClassId) (f4 : Nat → Int32) (k_f5 : ClassId) (q_f5 : Nat → Nat) (k_f6 : ClassId) (q_f6 : Nat → Nat) (k_f7 : ClassId) (f7 : Nat → Int32) (k_f8 : ClassId) (q_f8 : Nat → Nat) (k_f9 : ClassId) (q_f9 : Nat → Nat) (k_f10 : ClassId) (f10 : Nat → Int32) (k_f11 : ClassId) (f11 : Nat → Int32) (k_f12 : ClassId) (f12 : Nat → Int32) (k_f13 : ClassId) (f13 : Nat → Int32) (k_f14 : ClassId) (f14 : Nat → Int32) (k_f15 : ClassId) (f15 : Nat → Int32) (k_f16 : ClassId) (f16 : Nat → Int32) (hln : ln ≤ 119) (hnr : nr ≤ 1920) (hnc : nc ≤ 3) (hnp : np ≤ 8) (hne : ne ≤ 14) (hst0 : st0 ≤ 7) : Met l yX6_layRules vs_C_6_layRules ({ frames := 2, cells := 0, slots := 0, locals := 49 }) (va_Pc [.ref ti, .ref au] (pu_B (dC, dI) (ta__w ti r0 (nI ln) r2 r3 r4 r5 (nI nr) r7 r8 tz k_j0 (bN 13 q_j0) k_j2 j2 k_j3 (bN 120 q_j3) k_j4 (bN 120 q_j4) k_j5 j5 k_j7 (bN 120 q_j7) k_j8 j8 au (nI nc) (nI np) (nI ne) (nI st0) q4 q5 q6 q7 q8 q9 q10 q11 q12 q13 q14 q15 q16 k_f4 f4 k_f5 (bN 7 q_f5) k_f6 (bN 7 q_f6) k_f7 f7 k_f8 (bN 4 q_f8) k_f9 (bN 2 q_f9) k_f10 f10 k_f11 f11 k_f12 f12 k_f13 f13 k_f14 f14 k_f15 f15 k_f16 f16) (ta__t k_j0 k_j2 k_j3 k_j4 k_j5 k_j7 k_j8 k_f4 k_f5 k_f6 k_f7 k_f8 k_f9 k_f10 k_f11 k_f12 k_f13 k_f14 k_f15 k_f16) sz)) (va_Qv (fun (_ : Unit) => True) (fun _ t => ∃ (z_j3 : Nat → Nat) (z_j4 : Nat → Nat) (z_j5 : Nat → Int32) (z_j7 : Nat → Nat) (z_nr : Nat), pu_E (dC, dI) (ta__w ti r0 (nI ln) r2 r3 r4 r5 (nI z_nr) r7 r8 tz k_j0 (bN 13 q_j0) k_j2 j2 k_j3 (bN 120 z_j3) k_j4 (bN 120 z_j4) k_j5 z_j5 k_j7 (bN 120 z_j7) k_j8 j8 au (nI nc) (nI np) (nI ne) (nI st0) q4 q5 q6 q7 q8 q9 q10 q11 q12 q13 q14 q15 q16 k_f4 f4 k_f5 (bN 7 q_f5) k_f6 (bN 7 q_f6) k_f7 f7 k_f8 (bN 4 q_f8) k_f9 (bN 2 q_f9) k_f10 f10 k_f11 f11 k_f12 f12 k_f13 f13 k_f14 f14 k_f15 f15 k_f16 f16) (ta__t k_j0 k_j2 k_j3 k_j4 k_j5 k_j7 k_j8 k_f4 k_f5 k_f6 k_f7 k_f8 k_f9 k_f10 k_f11 k_f12 k_f13 k_f14 k_f15 k_f16) (va_A ((ta__w ti r0 (nI ln) r2 r3 r4 r5 (nI nr) r7 r8 tz k_j0 (bN 13 q_j0) k_j2 j2 k_j3 (bN 120 q_j3) k_j4 (bN 120 q_j4) k_j5 j5 k_j7 (bN 120 q_j7) k_j8 j8 au (nI nc) (nI np) (nI ne) (nI st0) q4 q5 q6 q7 q8 q9 q10 q11 q12 q13 q14 q15 q16 k_f4 f4 k_f5 (bN 7 q_f5) k_f6 (bN 7 q_f6) k_f7 f7 k_f8 (bN 4 q_f8) k_f9 (bN 2 q_f9) k_f10 f10 k_f11 f11 k_f12 f12 k_f13 f13 k_f14 f14 k_f15 f15 k_f16 f16)) sz) t ∧ (z_nr ≤ 1920)) (va_A ((ta__w ti r0 (nI ln) r2 r3 r4 r5 (nI nr) r7 r8 tz k_j0 (bN 13 q_j0) k_j2 j2 k_j3 (bN 120 q_j3) k_j4 (bN 120 q_j4) k_j5 j5 k_j7 (bN 120 q_j7) k_j8 j8 au (nI nc) (nI np) (nI ne) (nI st0) q4 q5 q6 q7 q8 q9 q10 q11 q12 q13 q14 q15 q16 k_f4 f4 k_f5 (bN 7 q_f5) k_f6 (bN 7 q_f6) k_f7 f7 k_f8 (bN 4 q_f8) k_f9 (bN 2 q_f9) k_f10 f10 k_f11 f11 k_f12 f12 k_f13 f13 k_f14 f14 k_f15 f15 k_f16 f16)) sz)) 0 0 (va_A ((ta__w ti r0 (nI ln) r2 r3 r4 r5 (nI nr) r7 r8 tz k_j0 (bN 13 q_j0) k_j2 j2 k_j3 (bN 120 q_j3) k_j4 (bN 120 q_j4) k_j5 j5 k_j7 (bN 120 q_j7) k_j8 j8 au (nI nc) (nI np) (nI ne) (nI st0) q4 q5 q6 q7 q8 q9 q10 q11 q12 q13 q14 q15 q16 k_f4 f4 k_f5 (bN 7 q_f5) k_f6 (bN 7 q_f6) k_f7 f7 k_f8 (bN 4 q_f8) k_f9 (bN 2 q_f9) k_f10 f10 k_f11 f11 k_f12 f12 k_f13 f13 k_f14 f14 k_f15 f15 k_f16 f16)) sz) := by
  refine Met.ofW (cc := cX6_layRules) (maxL := 6) (ret := none) (by decide) rfl ?_
  intro p e s m args below meth c s₁ B hml hv
  obtain ⟨rfl, rfl, hP, hK, hD0⟩ := hv
  have hx := B.exec
  have hb := B.bytes
  have hr := B.returns
  have hts := atoms_spec (ws := vs_C_6_layRules) B.pre
  have v_1 := hts (.fieldLink RX6 57 "ClockReach$Timing" "rules" "I") (List.mem_cons_of_mem _ cm_371)
  have v_2 := hts (.fieldLink RX6 27 "ClockReach$Timing" "since" "[I") (List.mem_cons_of_mem _ cm_372)
  have v_3 := hts (.fieldLink RX6 60 "ClockReach$Automaton" "start" "I") (List.mem_cons_of_mem _ cm_373)
  have v_13 := hts (.fieldLink RX6 47 "ClockReach$Timing" "length" "I") (List.mem_cons_of_mem _ cm_366)
  have v_14 := hts (.fieldLink RX6 9 "ClockReach$Timing" "path" "[I") (List.mem_cons_of_mem _ cm_367)
  have v_15 := hts (.fieldLink RX6 73 "ClockReach$Automaton" "sources" "[I") (List.mem_cons_of_mem _ cm_374)
  have v_20 := hts (.fieldLink RX6 80 "ClockReach$Automaton" "hurried" "[Z") (List.mem_cons_of_mem _ cm_375)
  have v_21 := hts (.fieldLink RX6 84 "ClockReach$Automaton" "clocks" "I") (List.mem_cons_of_mem _ cm_376)
  have v_22 := hts (.fieldLink RX6 87 "ClockReach$Automaton" "resets" "[I") (List.mem_cons_of_mem _ cm_377)
  have v_23 := hts (.fieldLink RX6 90 "ClockReach$Automaton" "targets" "[I") (List.mem_cons_of_mem _ cm_378)
  have hown : s.vm.findClass RX6 = some m.cls := findClass_of_methodNamed B.named
  have hlocks := B.notSynchronized
  have hiX0 : ∀ w ∈ wsX00, w ∈ vs_C_6_layRules := fun _ h => List.mem_cons_of_mem _ (cm_X0 h)
  have hiX6 : ∀ w ∈ wsX60, w ∈ vs_C_6_layRules := fun _ h => List.mem_cons_of_mem _ (cm_X6 h)
  have hD := hD0.self (sz := s.heap.size)
  generalize hAe : va_A ((ta__w ti r0 (nI ln) r2 r3 r4 r5 (nI nr) r7 r8 tz k_j0 (bN 13 q_j0) k_j2 j2 k_j3 (bN 120 q_j3) k_j4 (bN 120 q_j4) k_j5 j5 k_j7 (bN 120 q_j7) k_j8 j8 au (nI nc) (nI np) (nI ne) (nI st0) q4 q5 q6 q7 q8 q9 q10 q11 q12 q13 q14 q15 q16 k_f4 f4 k_f5 (bN 7 q_f5) k_f6 (bN 7 q_f6) k_f7 f7 k_f8 (bN 4 q_f8) k_f9 (bN 2 q_f9) k_f10 f10 k_f11 f11 k_f12 f12 k_f13 f13 k_f14 f14 k_f15 f15 k_f16 f16)) s.heap.size = A at hD ⊢
  have hA : ∀ q : Nat, s.heap.size ≤ q → A q := fun q h => by rw [← hAe]; exact Or.inr h
  have hS : va_S A s.heap s.heap [] := va_S.rf
  have hl := lv_entry ([.ref ti, .ref au]) (n := 6) (Nat.le_of_ble_eq_true rfl)
  rw [lg_entry_eq]
  generalize (lg_sl ([.ref ti, .ref au]) ++ List.replicate (6 - (lg_sl ([.ref ti, .ref au])).length) Slot.unset).toArray = ls at hl ⊢
  have hl : lv_has ls 6 [(0, .ref ti), (1, .ref au)] := hl
  refine lv_aload_n hx hb eX6_layRules_0 rfl (lv_at hl 0 rfl) ?_
  refine lv_iconst (v := 0) hx hb eX6_layRules_1 (by decide) ?_
  refine va_put (D := (dC, dI)) (ci := 6) (v := .int 0) (ty := .int) (C := RX6) (T := TX6) (N := 10) hx hb hts hiX6 tyX6 tyX6_ok nmX6 hown hK hP hD hS 0 rfl rfl 6 (by decide) v_1 (fun _ h9 => h9) rfl (by decide +kernel) rfl rfl (Nat.le_of_ble_eq_true rfl) eX6_layRules_2 (fun H locs hP hD hS => ?_)
  have hP : va_P (dC, dI) vwCl (ta__w ti r0 (nI ln) r2 r3 r4 r5 0 r7 r8 tz k_j0 (bN 13 q_j0) k_j2 j2 k_j3 (bN 120 q_j3) k_j4 (bN 120 q_j4) k_j5 j5 k_j7 (bN 120 q_j7) k_j8 j8 au (nI nc) (nI np) (nI ne) (nI st0) q4 q5 q6 q7 q8 q9 q10 q11 q12 q13 q14 q15 q16 k_f4 f4 k_f5 (bN 7 q_f5) k_f6 (bN 7 q_f6) k_f7 f7 k_f8 (bN 4 q_f8) k_f9 (bN 2 q_f9) k_f10 f10 k_f11 f11 k_f12 f12 k_f13 f13 k_f14 f14 k_f15 f15 k_f16 f16) H := hP
  have hD : va_D A (ta__w ti r0 (nI ln) r2 r3 r4 r5 0 r7 r8 tz k_j0 (bN 13 q_j0) k_j2 j2 k_j3 (bN 120 q_j3) k_j4 (bN 120 q_j4) k_j5 j5 k_j7 (bN 120 q_j7) k_j8 j8 au (nI nc) (nI np) (nI ne) (nI st0) q4 q5 q6 q7 q8 q9 q10 q11 q12 q13 q14 q15 q16 k_f4 f4 k_f5 (bN 7 q_f5) k_f6 (bN 7 q_f6) k_f7 f7 k_f8 (bN 4 q_f8) k_f9 (bN 2 q_f9) k_f10 f10 k_f11 f11 k_f12 f12 k_f13 f13 k_f14 f14 k_f15 f15 k_f16 f16) := hD
  refine lv_iconst (v := 0) hx hb eX6_layRules_5 (by decide) ?_
  refine lv_istore_n (lv' := [(2, .int 0), (0, .ref ti), (1, .ref au)]) hx hb eX6_layRules_6 rfl hl (by decide) rfl (fun ls hl => ?_)
  refine pu_while (fun nn H locs ls => ∃ (g_3 : Nat → Nat) (g_4 : Nat), nn = 3 - g_4 ∧ g_4 ≤ 3 ∧ va_P (dC, dI) vwCl (ta__w ti r0 (nI ln) r2 r3 r4 r5 0 r7 r8 tz k_j0 (bN 13 q_j0) k_j2 j2 k_j3 (bN 120 q_j3) k_j4 (bN 120 q_j4) k_j5 j5 k_j7 (bN 120 g_3) k_j8 j8 au (nI nc) (nI np) (nI ne) (nI st0) q4 q5 q6 q7 q8 q9 q10 q11 q12 q13 q14 q15 q16 k_f4 f4 k_f5 (bN 7 q_f5) k_f6 (bN 7 q_f6) k_f7 f7 k_f8 (bN 4 q_f8) k_f9 (bN 2 q_f9) k_f10 f10 k_f11 f11 k_f12 f12 k_f13 f13 k_f14 f14 k_f15 f15 k_f16 f16) H ∧ va_D A (ta__w ti r0 (nI ln) r2 r3 r4 r5 0 r7 r8 tz k_j0 (bN 13 q_j0) k_j2 j2 k_j3 (bN 120 q_j3) k_j4 (bN 120 q_j4) k_j5 j5 k_j7 (bN 120 g_3) k_j8 j8 au (nI nc) (nI np) (nI ne) (nI st0) q4 q5 q6 q7 q8 q9 q10 q11 q12 q13 q14 q15 q16 k_f4 f4 k_f5 (bN 7 q_f5) k_f6 (bN 7 q_f6) k_f7 f7 k_f8 (bN 4 q_f8) k_f9 (bN 2 q_f9) k_f10 f10 k_f11 f11 k_f12 f12 k_f13 f13 k_f14 f14 k_f15 f15 k_f16 f16) ∧ va_S A s.heap H locs ∧ lv_has ls 6 [(0, .ref ti), (1, .ref au), (2, .int (nI g_4))]) 7 ?_ _ _ _ _ ⟨q_j7, 0, rfl, (Nat.le_of_ble_eq_true rfl), hP, hD, hS, lv_sub hl [1, 2, 0] rfl⟩
  rintro nn ih_5 H locs ls ⟨g_3, g_4, rfl, hg_4, hP, hD, hS, hl⟩
  refine lv_iload_n hx hb eX6_layRules_7 rfl (lv_at hl 2 rfl) ?_
  refine lv_iconst (v := 3) hx hb eX6_layRules_8 (by decide) ?_
  refine lv_icmp_ge (tgt := 25) hx hb eX6_layRules_9 (by decide) (fun c_6 => ?_) (fun c_6 => ?_)
  · have c_6 : 3 ≤ g_4 := (nI_leI (a := 3) (b := g_4) (Nat.le_of_ble_eq_true rfl) (Nat.lt_of_le_of_lt hg_4 (Nat.le_of_ble_eq_true rfl))).mp c_6
    refine lv_aload_n hx hb eX6_layRules_25 rfl (lv_at hl 0 rfl) ?_
    refine lv_aload_n hx hb eX6_layRules_26 rfl (lv_at hl 1 rfl) ?_
    refine lv_aload_n hx hb eX6_layRules_27 rfl (lv_at hl 1 rfl) ?_
    refine va_get (D := (dC, dI)) (ci := 0) (v := .int (nI st0)) (C := RX0) (T := TX0) (N := 17) hx hb hts hiX0 hown hK hP 8 rfl rfl 3 (by decide) v_3 (fun _ h9 => h9) rfl eX6_layRules_28 ?_
    refine va_calli (va_runS (As := [.int (nI st0)]) (rest := [.ref au, .ref ti]) ⟨hx, hb, hml, hown, hts⟩ (c_C_0_hostOfPlace l dC dI _ st0 hst0) (va_cwS 1 hts g_C_6_layRules_C_0_hostOfPlace rfl rfl rfl (by decide +kernel) ⟨Nat.le_of_ble_eq_true rfl, Nat.le_of_ble_eq_true rfl⟩) ⟨pu_bl, pu_in (hP.sub [] rfl) (hK.sub [] rfl) (hD.sub [] (by decide) rfl)⟩ rfl rfl hl.1 rfl (lv_room (Nat.le_of_ble_eq_true rfl)) eX6_layRules_31 ⟨Nat.le_of_ble_eq_true rfl, Nat.le_of_ble_eq_true rfl⟩) hS (fun q _ h => pu_fr hS hA q h) (pu_fr hS hA) (fun r_7 u t H1 locs ht hvm hw hB hz1 hk1 hS => ?_)
    have hP := pu_keep hP hk1
    clear hk1 hz1 ht hvm
    generalize H1 = H at hP hS ⊢
    obtain rfl : r_7 = nI (14 + st0) := hw
    refine lv_iconst (v := 0) hx hb eX6_layRules_34 (by decide) ?_
    have hFc := pu_free hD hS hA
    refine va_callv (va_runV (As := [.ref au, .int (nI (14 + st0)), .int 0]) (rest := []) ⟨hx, hb, hml, hown, hts⟩ (c_C_6_layConditions l dC dI _ ti r0 ln r2 r3 r4 r5 0 r7 r8 tz k_j0 q_j0 k_j2 j2 k_j3 q_j3 k_j4 q_j4 k_j5 j5 k_j7 g_3 k_j8 j8 au nc np ne (nI st0) q4 q5 q6 q7 q8 q9 q10 q11 q12 q13 q14 q15 q16 k_f4 f4 k_f5 q_f5 k_f6 q_f6 k_f7 f7 k_f8 q_f8 k_f9 q_f9 k_f10 f10 k_f11 f11 k_f12 f12 k_f13 f13 k_f14 f14 k_f15 f15 k_f16 f16 (14 + st0) 0 hln (Nat.le_of_ble_eq_true rfl) hnc hnp hne (Or.inr ⟨st0, hst0, rfl⟩) (by omega) (Nat.le_of_ble_eq_true rfl)) (cwV 3 hts g_C_6_layRules_C_6_layConditions rfl rfl rfl (by decide +kernel) ⟨Nat.le_of_ble_eq_true rfl, Nat.le_of_ble_eq_true rfl⟩) ⟨pu_bl, va_recv hK hP (ci := 6) (q0 := 0) rfl rfl, pu_in hP hK hD⟩ rfl rfl hl.1 rfl (lv_room (Nat.le_of_ble_eq_true rfl)) eX6_layRules_35 ⟨Nat.le_of_ble_eq_true rfl, Nat.le_of_ble_eq_true rfl⟩) hS (fun q _ h => hFc q h) hFc (fun u t H1 locs ht hvm hw hB hz1 hk1 hS => ?_)
    obtain ⟨z_j3_9, z_j4_10, z_j5_11, z_nr_12, ⟨hP1, -, hD1⟩, hz_nr_12⟩ := hB
    rw [ht] at hP1
    have hP := hP1
    have hD := pu_all hFc hD1
    clear hP1 hD1 hFc
    clear hk1 hz1 ht hvm
    generalize H1 = H at hP hS ⊢
    refine lv_iconst (v := 0) hx hb eX6_layRules_38 (by decide) ?_
    refine lv_istore_n (lv' := [(2, .int 0), (0, .ref ti), (1, .ref au)]) hx hb eX6_layRules_39 rfl hl (by decide) rfl (fun ls hl => ?_)
    refine pu_while (fun nn H locs ls => ∃ (g_19 : Nat → Nat) (g_20 : Nat → Nat) (g_21 : Nat → Int32) (g_22 : Nat → Nat) (g_23 : Nat) (g_24 : Nat), nn = 119 - g_24 ∧ g_23 ≤ 1920 ∧ g_24 ≤ 119 ∧ va_P (dC, dI) vwCl (ta__w ti r0 (nI ln) r2 r3 r4 r5 (nI g_23) r7 r8 tz k_j0 (bN 13 q_j0) k_j2 j2 k_j3 (bN 120 g_19) k_j4 (bN 120 g_20) k_j5 g_21 k_j7 (bN 120 g_22) k_j8 j8 au (nI nc) (nI np) (nI ne) (nI st0) q4 q5 q6 q7 q8 q9 q10 q11 q12 q13 q14 q15 q16 k_f4 f4 k_f5 (bN 7 q_f5) k_f6 (bN 7 q_f6) k_f7 f7 k_f8 (bN 4 q_f8) k_f9 (bN 2 q_f9) k_f10 f10 k_f11 f11 k_f12 f12 k_f13 f13 k_f14 f14 k_f15 f15 k_f16 f16) H ∧ va_D A (ta__w ti r0 (nI ln) r2 r3 r4 r5 (nI g_23) r7 r8 tz k_j0 (bN 13 q_j0) k_j2 j2 k_j3 (bN 120 g_19) k_j4 (bN 120 g_20) k_j5 g_21 k_j7 (bN 120 g_22) k_j8 j8 au (nI nc) (nI np) (nI ne) (nI st0) q4 q5 q6 q7 q8 q9 q10 q11 q12 q13 q14 q15 q16 k_f4 f4 k_f5 (bN 7 q_f5) k_f6 (bN 7 q_f6) k_f7 f7 k_f8 (bN 4 q_f8) k_f9 (bN 2 q_f9) k_f10 f10 k_f11 f11 k_f12 f12 k_f13 f13 k_f14 f14 k_f15 f15 k_f16 f16) ∧ va_S A s.heap H locs ∧ lv_has ls 6 [(0, .ref ti), (1, .ref au), (2, .int (nI g_24))]) 40 ?_ _ _ _ _ ⟨z_j3_9, z_j4_10, z_j5_11, g_3, z_nr_12, 0, rfl, hz_nr_12, (Nat.le_of_ble_eq_true rfl), hP, hD, hS, lv_sub hl [1, 2, 0] rfl⟩
    rintro nn ih_25 H locs ls ⟨g_19, g_20, g_21, g_22, g_23, g_24, rfl, hg_23, hg_24, hP, hD, hS, hl⟩
    refine lv_iload_n hx hb eX6_layRules_40 rfl (lv_at hl 2 rfl) ?_
    refine lv_aload_n hx hb eX6_layRules_41 rfl (lv_at hl 0 rfl) ?_
    refine va_get (D := (dC, dI)) (ci := 6) (v := .int (nI ln)) (C := RX6) (T := TX6) (N := 10) hx hb hts hiX6 hown hK hP 0 rfl rfl 1 (by decide) v_13 (fun _ h9 => h9) rfl eX6_layRules_42 ?_
    refine lv_icmp_ge (tgt := 179) hx hb eX6_layRules_45 (by decide) (fun c_26 => ?_) (fun c_26 => ?_)
    · have c_26 : ln ≤ g_24 := (nI_leI (a := ln) (b := g_24) (Nat.lt_of_le_of_lt hln (Nat.le_of_ble_eq_true rfl)) (Nat.lt_of_le_of_lt hg_24 (Nat.le_of_ble_eq_true rfl))).mp c_26
      exact W.vret hx hb hr (fun t ht hW => ⟨⟨(), rfl, trivial, ⟨g_19, g_20, g_21, g_22, g_23, ⟨by rw [ht]; exact hP, va_K.moved hW.alike hK, hD⟩, hg_23⟩⟩, hS.F ht⟩) hS.2.2 eX6_layRules_179
    · have c_26 : ¬ ln ≤ g_24 := fun z => c_26 ((nI_leI (a := ln) (b := g_24) (Nat.lt_of_le_of_lt hln (Nat.le_of_ble_eq_true rfl)) (Nat.lt_of_le_of_lt hg_24 (Nat.le_of_ble_eq_true rfl))).mpr z)
      refine lv_aload_n hx hb eX6_layRules_48 rfl (lv_at hl 0 rfl) ?_
      refine va_get (D := (dC, dI)) (ci := 6) (v := .ref r0) (C := RX6) (T := TX6) (N := 10) hx hb hts hiX6 hown hK hP 0 rfl rfl 0 (by decide) v_14 (fun _ h9 => h9) rfl eX6_layRules_49 ?_
      refine lv_iload_n hx hb eX6_layRules_52 rfl (lv_at hl 2 rfl) ?_
      refine va_iald hx hb hK hP 1 0 rfl rfl (vp_in_nI (n := g_24) (Nat.lt_of_le_of_lt hg_24 (Nat.le_of_ble_eq_true rfl)) (Nat.le_of_ble_eq_true rfl)) eX6_layRules_53 ?_
      refine lv_topi (fun y_27 ey_27 => ?_)
      obtain ⟨u_28, hu_28, qu_28⟩ := bN_get 13 q_j0 (((nI g_24) : Int32).toNatClampNeg)
      obtain rfl : y_27 = nI u_28 := ey_27.trans qu_28
      refine lv_istore_n (lv' := [(3, .int (nI u_28)), (0, .ref ti), (1, .ref au), (2, .int (nI g_24))]) hx hb eX6_layRules_54 rfl hl (by decide) rfl (fun ls hl => ?_)
      refine lv_aload_n hx hb eX6_layRules_55 rfl (lv_at hl 2 rfl) ?_
      refine va_get (D := (dC, dI)) (ci := 0) (v := .ref q5) (C := RX0) (T := TX0) (N := 17) hx hb hts hiX0 hown hK hP 8 rfl rfl 5 (by decide) v_15 (fun _ h9 => h9) rfl eX6_layRules_56 ?_
      refine lv_iload_n hx hb eX6_layRules_59 rfl (lv_at hl 0 rfl) ?_
      refine va_iald hx hb hK hP 10 8 rfl rfl (vp_in_nI (n := u_28) (Nat.lt_of_le_of_lt hu_28 (Nat.le_of_ble_eq_true rfl)) (Nat.le_of_ble_eq_true rfl)) eX6_layRules_60 ?_
      refine lv_topi (fun y_29 ey_29 => ?_)
      obtain ⟨u_30, hu_30, qu_30⟩ := bN_get 7 q_f5 (((nI u_28) : Int32).toNatClampNeg)
      obtain rfl : y_29 = nI u_30 := ey_29.trans qu_30
      refine lv_istore (lv' := [(4, .int (nI u_30)), (3, .int (nI u_28)), (0, .ref ti), (1, .ref au), (2, .int (nI g_24))]) hx hb eX6_layRules_61 hl (by decide) rfl (fun ls hl => ?_)
      refine lv_aload_n hx hb eX6_layRules_63 rfl (lv_at hl 2 rfl) ?_
      refine lv_iload_n hx hb eX6_layRules_64 rfl (lv_at hl 4 rfl) ?_
      refine lv_iconst (v := 1) hx hb eX6_layRules_65 (by decide) ?_
      refine lv_iadd hx hb eX6_layRules_66 ?_
      refine lv_topi (fun y_31 ey_31 => ?_)
      obtain rfl : y_31 = (nI (g_24 + 1)) := ey_31.trans (nI_add g_24 1)
      refine lv_iload_n hx hb eX6_layRules_67 rfl (lv_at hl 4 rfl) ?_
      refine lv_iconst (v := 0) hx hb eX6_layRules_68 (by decide) ?_
      have hPc : va_P (dC, dI) vwCl (ti__w ti r0 (nI ln) r2 r3 r4 r5 (nI g_23) r7 r8 tz k_j0 (bN 13 q_j0) k_j2 j2 k_j3 (bN 120 g_19) k_j4 (bN 120 g_20) k_j5 g_21 k_j7 (bN 120 g_22) k_j8 j8) _ := hP.sub [0, 1, 2, 3, 4, 5, 6, 7] rfl
      have hDc := hD.sub (ws' := (ti__w ti r0 (nI ln) r2 r3 r4 r5 (nI g_23) r7 r8 tz k_j0 (bN 13 q_j0) k_j2 j2 k_j3 (bN 120 g_19) k_j4 (bN 120 g_20) k_j5 g_21 k_j7 (bN 120 g_22) k_j8 j8)) [0, 1, 2, 3, 4, 5, 6, 7] (by decide) rfl
      have hKc : va_K (dC, dI) vwCl (ti__t k_j0 k_j2 k_j3 k_j4 k_j5 k_j7 k_j8) s := hK.sub [0, 1, 2, 3, 4, 5, 6] rfl
      have hFc := pu_free hDc hS hA
      refine va_callv (va_runV (As := [.int (nI (g_24 + 1)), .int (nI g_24), .int 0]) (rest := []) ⟨hx, hb, hml, hown, hts⟩ (c_C_6_layRule l dC dI _ ti r0 ln r2 r3 r4 r5 g_23 r7 r8 tz k_j0 q_j0 k_j2 j2 k_j3 g_19 k_j4 g_20 k_j5 g_21 k_j7 g_22 k_j8 j8 (g_24 + 1) g_24 0 hln hg_23 (by omega) (Nat.le_trans hg_24 (Nat.le_of_ble_eq_true rfl))) (cwV 3 hts g_C_6_layRules_C_6_layRule rfl rfl rfl (by decide +kernel) ⟨Nat.le_of_ble_eq_true rfl, Nat.le_of_ble_eq_true rfl⟩) ⟨pu_bl, va_recv hK hP (ci := 6) (q0 := 0) rfl rfl, pu_in hPc hKc hDc⟩ rfl rfl hl.1 rfl (lv_room (Nat.le_of_ble_eq_true rfl)) eX6_layRules_69 ⟨Nat.le_of_ble_eq_true rfl, Nat.le_of_ble_eq_true rfl⟩) hS (fun q _ h => hFc q h) hFc (fun u t H1 locs ht hvm hw hB hz1 hk1 hS => ?_)
      obtain ⟨z_j3_33, z_j4_34, z_j5_35, z_nr_36, ⟨hP1, -, hD1⟩, hz_nr_36⟩ := hB
      rw [ht] at hP1
      obtain ⟨hP, hD⟩ := pu_put (ws' := (ta__w ti r0 (nI ln) r2 r3 r4 r5 (nI z_nr_36) r7 r8 tz k_j0 (bN 13 q_j0) k_j2 j2 k_j3 (bN 120 z_j3_33) k_j4 (bN 120 z_j4_34) k_j5 z_j5_35 k_j7 (bN 120 g_22) k_j8 j8 au (nI nc) (nI np) (nI ne) (nI st0) q4 q5 q6 q7 q8 q9 q10 q11 q12 q13 q14 q15 q16 k_f4 f4 k_f5 (bN 7 q_f5) k_f6 (bN 7 q_f6) k_f7 f7 k_f8 (bN 4 q_f8) k_f9 (bN 2 q_f9) k_f10 f10 k_f11 f11 k_f12 f12 k_f13 f13 k_f14 f14 k_f15 f15 k_f16 f16)) (w1 := (ti__w ti r0 (nI ln) r2 r3 r4 r5 (nI z_nr_36) r7 r8 tz k_j0 (bN 13 q_j0) k_j2 j2 k_j3 (bN 120 z_j3_33) k_j4 (bN 120 z_j4_34) k_j5 z_j5_35 k_j7 (bN 120 g_22) k_j8 j8)) hP hD [0, 1, 2, 3, 4, 5, 6, 7] rfl hk1 hP1 rfl rfl
      clear hP1 hD1 hFc hPc hDc hKc
      clear hk1 hz1 ht hvm
      generalize H1 = H at hP hS ⊢
      refine lv_aload_n hx hb eX6_layRules_72 rfl (lv_at hl 3 rfl) ?_
      refine va_get (D := (dC, dI)) (ci := 0) (v := .ref q4) (C := RX0) (T := TX0) (N := 17) hx hb hts hiX0 hown hK hP 8 rfl rfl 4 (by decide) v_20 (fun _ h9 => h9) rfl eX6_layRules_73 ?_
      refine lv_iload hx hb eX6_layRules_76 (lv_at hl 0 rfl) ?_
      refine va_zald hx hb hK hP 9 7 rfl rfl (vp_in_nI (n := u_30) (Nat.lt_of_le_of_lt hu_30 (Nat.le_of_ble_eq_true rfl)) (Nat.le_of_ble_eq_true rfl)) eX6_layRules_78 ?_
      refine lv_topi (fun y_37 ey_37 => ?_)
      refine pu_join (fun H locs ls st => ∃ (g_38 : Nat) (g_39 : Nat → Nat) (g_40 : Nat → Nat) (g_41 : Nat → Int32), st = [] ∧ g_38 ≤ 1920 ∧ va_P (dC, dI) vwCl (ta__w ti r0 (nI ln) r2 r3 r4 r5 (nI g_38) r7 r8 tz k_j0 (bN 13 q_j0) k_j2 j2 k_j3 (bN 120 g_39) k_j4 (bN 120 g_40) k_j5 g_41 k_j7 (bN 120 g_22) k_j8 j8 au (nI nc) (nI np) (nI ne) (nI st0) q4 q5 q6 q7 q8 q9 q10 q11 q12 q13 q14 q15 q16 k_f4 f4 k_f5 (bN 7 q_f5) k_f6 (bN 7 q_f6) k_f7 f7 k_f8 (bN 4 q_f8) k_f9 (bN 2 q_f9) k_f10 f10 k_f11 f11 k_f12 f12 k_f13 f13 k_f14 f14 k_f15 f15 k_f16 f16) H ∧ va_D A (ta__w ti r0 (nI ln) r2 r3 r4 r5 (nI g_38) r7 r8 tz k_j0 (bN 13 q_j0) k_j2 j2 k_j3 (bN 120 g_39) k_j4 (bN 120 g_40) k_j5 g_41 k_j7 (bN 120 g_22) k_j8 j8 au (nI nc) (nI np) (nI ne) (nI st0) q4 q5 q6 q7 q8 q9 q10 q11 q12 q13 q14 q15 q16 k_f4 f4 k_f5 (bN 7 q_f5) k_f6 (bN 7 q_f6) k_f7 f7 k_f8 (bN 4 q_f8) k_f9 (bN 2 q_f9) k_f10 f10 k_f11 f11 k_f12 f12 k_f13 f13 k_f14 f14 k_f15 f15 k_f16 f16) ∧ va_S A s.heap H locs ∧ lv_has ls 6 [(0, .ref ti), (1, .ref au), (2, .int (nI g_24)), (3, .int (nI u_28)), (4, .int (nI u_30))]) 91 ?_ (fun j_42 => ?_)
      · rintro H locs ls st ⟨g_38, g_39, g_40, g_41, rfl, hg_38, hP, hD, hS, hl⟩
        refine lv_aload_n hx hb eX6_layRules_91 rfl (lv_at hl 0 rfl) ?_
        refine lv_aload_n hx hb eX6_layRules_92 rfl (lv_at hl 1 rfl) ?_
        refine lv_iload hx hb eX6_layRules_93 (lv_at hl 4 rfl) ?_
        refine va_calli (va_runS (As := [.int (nI u_30)]) (rest := [.ref au, .ref ti]) ⟨hx, hb, hml, hown, hts⟩ (c_C_0_hostOfPlace l dC dI _ u_30 hu_30) (va_cwS 1 hts g_C_6_layRules_C_0_hostOfPlace rfl rfl rfl (by decide +kernel) ⟨Nat.le_of_ble_eq_true rfl, Nat.le_of_ble_eq_true rfl⟩) ⟨pu_bl, pu_in (hP.sub [] rfl) (hK.sub [] rfl) (hD.sub [] (by decide) rfl)⟩ rfl rfl hl.1 rfl (lv_room (Nat.le_of_ble_eq_true rfl)) eX6_layRules_95 ⟨Nat.le_of_ble_eq_true rfl, Nat.le_of_ble_eq_true rfl⟩) hS (fun q _ h => pu_fr hS hA q h) (pu_fr hS hA) (fun r_43 u t H1 locs ht hvm hw hB hz1 hk1 hS => ?_)
        have hP := pu_keep hP hk1
        clear hk1 hz1 ht hvm
        generalize H1 = H at hP hS ⊢
        obtain rfl : r_43 = nI (14 + u_30) := hw
        refine lv_iload_n hx hb eX6_layRules_98 rfl (lv_at hl 2 rfl) ?_
        refine lv_iconst (v := 1) hx hb eX6_layRules_99 (by decide) ?_
        refine lv_iadd hx hb eX6_layRules_100 ?_
        refine lv_topi (fun y_44 ey_44 => ?_)
        obtain rfl : y_44 = (nI (g_24 + 1)) := ey_44.trans (nI_add g_24 1)
        have hFc := pu_free hD hS hA
        refine va_callv (va_runV (As := [.ref au, .int (nI (14 + u_30)), .int (nI (g_24 + 1))]) (rest := []) ⟨hx, hb, hml, hown, hts⟩ (c_C_6_layConditions l dC dI _ ti r0 ln r2 r3 r4 r5 g_38 r7 r8 tz k_j0 q_j0 k_j2 j2 k_j3 g_39 k_j4 g_40 k_j5 g_41 k_j7 g_22 k_j8 j8 au nc np ne (nI st0) q4 q5 q6 q7 q8 q9 q10 q11 q12 q13 q14 q15 q16 k_f4 f4 k_f5 q_f5 k_f6 q_f6 k_f7 f7 k_f8 q_f8 k_f9 q_f9 k_f10 f10 k_f11 f11 k_f12 f12 k_f13 f13 k_f14 f14 k_f15 f15 k_f16 f16 (14 + u_30) (g_24 + 1) hln hg_38 hnc hnp hne (Or.inr ⟨st0, hst0, rfl⟩) (by omega) (by omega)) (cwV 3 hts g_C_6_layRules_C_6_layConditions rfl rfl rfl (by decide +kernel) ⟨Nat.le_of_ble_eq_true rfl, Nat.le_of_ble_eq_true rfl⟩) ⟨pu_bl, va_recv hK hP (ci := 6) (q0 := 0) rfl rfl, pu_in hP hK hD⟩ rfl rfl hl.1 rfl (lv_room (Nat.le_of_ble_eq_true rfl)) eX6_layRules_101 ⟨Nat.le_of_ble_eq_true rfl, Nat.le_of_ble_eq_true rfl⟩) hS (fun q _ h => hFc q h) hFc (fun u t H1 locs ht hvm hw hB hz1 hk1 hS => ?_)
        obtain ⟨z_j3_46, z_j4_47, z_j5_48, z_nr_49, ⟨hP1, -, hD1⟩, hz_nr_49⟩ := hB
        rw [ht] at hP1
        have hP := hP1
        have hD := pu_all hFc hD1
        clear hP1 hD1 hFc
        clear hk1 hz1 ht hvm
        generalize H1 = H at hP hS ⊢
        refine lv_aload_n hx hb eX6_layRules_104 rfl (lv_at hl 0 rfl) ?_
        refine lv_aload_n hx hb eX6_layRules_105 rfl (lv_at hl 1 rfl) ?_
        refine lv_iload_n hx hb eX6_layRules_106 rfl (lv_at hl 3 rfl) ?_
        refine lv_iload_n hx hb eX6_layRules_107 rfl (lv_at hl 2 rfl) ?_
        refine lv_iconst (v := 1) hx hb eX6_layRules_108 (by decide) ?_
        refine lv_iadd hx hb eX6_layRules_109 ?_
        refine lv_topi (fun y_50 ey_50 => ?_)
        obtain rfl : y_50 = (nI (g_24 + 1)) := ey_50.trans (nI_add g_24 1)
        have hFc := pu_free hD hS hA
        refine va_callv (va_runV (As := [.ref au, .int (nI u_28), .int (nI (g_24 + 1))]) (rest := []) ⟨hx, hb, hml, hown, hts⟩ (c_C_6_layConditions l dC dI _ ti r0 ln r2 r3 r4 r5 z_nr_49 r7 r8 tz k_j0 q_j0 k_j2 j2 k_j3 z_j3_46 k_j4 z_j4_47 k_j5 z_j5_48 k_j7 g_22 k_j8 j8 au nc np ne (nI st0) q4 q5 q6 q7 q8 q9 q10 q11 q12 q13 q14 q15 q16 k_f4 f4 k_f5 q_f5 k_f6 q_f6 k_f7 f7 k_f8 q_f8 k_f9 q_f9 k_f10 f10 k_f11 f11 k_f12 f12 k_f13 f13 k_f14 f14 k_f15 f15 k_f16 f16 u_28 (g_24 + 1) hln hz_nr_49 hnc hnp hne (Or.inr ⟨st0, hst0, rfl⟩) (Nat.le_trans hu_28 (Nat.le_of_ble_eq_true rfl)) (by omega)) (cwV 3 hts g_C_6_layRules_C_6_layConditions rfl rfl rfl (by decide +kernel) ⟨Nat.le_of_ble_eq_true rfl, Nat.le_of_ble_eq_true rfl⟩) ⟨pu_bl, va_recv hK hP (ci := 6) (q0 := 0) rfl rfl, pu_in hP hK hD⟩ rfl rfl hl.1 rfl (lv_room (Nat.le_of_ble_eq_true rfl)) eX6_layRules_110 ⟨Nat.le_of_ble_eq_true rfl, Nat.le_of_ble_eq_true rfl⟩) hS (fun q _ h => hFc q h) hFc (fun u t H1 locs ht hvm hw hB hz1 hk1 hS => ?_)
        obtain ⟨z_j3_52, z_j4_53, z_j5_54, z_nr_55, ⟨hP1, -, hD1⟩, hz_nr_55⟩ := hB
        rw [ht] at hP1
        have hP := hP1
        have hD := pu_all hFc hD1
        clear hP1 hD1 hFc
        clear hk1 hz1 ht hvm
        generalize H1 = H at hP hS ⊢
        refine lv_iconst (v := 0) hx hb eX6_layRules_113 (by decide) ?_
        refine lv_istore (lv' := [(5, .int 0), (0, .ref ti), (1, .ref au), (2, .int (nI g_24)), (3, .int (nI u_28)), (4, .int (nI u_30))]) hx hb eX6_layRules_114 hl (by decide) rfl (fun ls hl => ?_)
        refine pu_while (fun nn H locs ls => ∃ (g_58 : Nat → Nat) (g_59 : Nat), nn = 3 - g_59 ∧ g_59 ≤ 3 ∧ va_P (dC, dI) vwCl (ta__w ti r0 (nI ln) r2 r3 r4 r5 (nI z_nr_55) r7 r8 tz k_j0 (bN 13 q_j0) k_j2 j2 k_j3 (bN 120 z_j3_52) k_j4 (bN 120 z_j4_53) k_j5 z_j5_54 k_j7 (bN 120 g_58) k_j8 j8 au (nI nc) (nI np) (nI ne) (nI st0) q4 q5 q6 q7 q8 q9 q10 q11 q12 q13 q14 q15 q16 k_f4 f4 k_f5 (bN 7 q_f5) k_f6 (bN 7 q_f6) k_f7 f7 k_f8 (bN 4 q_f8) k_f9 (bN 2 q_f9) k_f10 f10 k_f11 f11 k_f12 f12 k_f13 f13 k_f14 f14 k_f15 f15 k_f16 f16) H ∧ va_D A (ta__w ti r0 (nI ln) r2 r3 r4 r5 (nI z_nr_55) r7 r8 tz k_j0 (bN 13 q_j0) k_j2 j2 k_j3 (bN 120 z_j3_52) k_j4 (bN 120 z_j4_53) k_j5 z_j5_54 k_j7 (bN 120 g_58) k_j8 j8 au (nI nc) (nI np) (nI ne) (nI st0) q4 q5 q6 q7 q8 q9 q10 q11 q12 q13 q14 q15 q16 k_f4 f4 k_f5 (bN 7 q_f5) k_f6 (bN 7 q_f6) k_f7 f7 k_f8 (bN 4 q_f8) k_f9 (bN 2 q_f9) k_f10 f10 k_f11 f11 k_f12 f12 k_f13 f13 k_f14 f14 k_f15 f15 k_f16 f16) ∧ va_S A s.heap H locs ∧ lv_has ls 6 [(0, .ref ti), (1, .ref au), (2, .int (nI g_24)), (3, .int (nI u_28)), (4, .int (nI u_30)), (5, .int (nI g_59))]) 116 ?_ _ _ _ _ ⟨g_22, 0, rfl, (Nat.le_of_ble_eq_true rfl), hP, hD, hS, lv_sub hl [1, 2, 3, 4, 5, 0] rfl⟩
        rintro nn ih_60 H locs ls ⟨g_58, g_59, rfl, hg_59, hP, hD, hS, hl⟩
        refine lv_iload hx hb eX6_layRules_116 (lv_at hl 5 rfl) ?_
        refine lv_aload_n hx hb eX6_layRules_118 rfl (lv_at hl 1 rfl) ?_
        refine va_get (D := (dC, dI)) (ci := 0) (v := .int (nI nc)) (C := RX0) (T := TX0) (N := 17) hx hb hts hiX0 hown hK hP 8 rfl rfl 0 (by decide) v_21 (fun _ h9 => h9) rfl eX6_layRules_119 ?_
        refine lv_icmp_ge (tgt := 156) hx hb eX6_layRules_122 (by decide) (fun c_61 => ?_) (fun c_61 => ?_)
        · have c_61 : nc ≤ g_59 := (nI_leI (a := nc) (b := g_59) (Nat.lt_of_le_of_lt hnc (Nat.le_of_ble_eq_true rfl)) (Nat.lt_of_le_of_lt hg_59 (Nat.le_of_ble_eq_true rfl))).mp c_61
          refine lv_aload_n hx hb eX6_layRules_156 rfl (lv_at hl 0 rfl) ?_
          refine lv_aload_n hx hb eX6_layRules_157 rfl (lv_at hl 1 rfl) ?_
          refine lv_aload_n hx hb eX6_layRules_158 rfl (lv_at hl 1 rfl) ?_
          refine va_get (D := (dC, dI)) (ci := 0) (v := .ref q6) (C := RX0) (T := TX0) (N := 17) hx hb hts hiX0 hown hK hP 8 rfl rfl 6 (by decide) v_23 (fun _ h9 => h9) rfl eX6_layRules_159 ?_
          refine lv_iload_n hx hb eX6_layRules_162 rfl (lv_at hl 3 rfl) ?_
          refine va_iald hx hb hK hP 11 9 rfl rfl (vp_in_nI (n := u_28) (Nat.lt_of_le_of_lt hu_28 (Nat.le_of_ble_eq_true rfl)) (Nat.le_of_ble_eq_true rfl)) eX6_layRules_163 ?_
          refine lv_topi (fun y_62 ey_62 => ?_)
          obtain ⟨u_63, hu_63, qu_63⟩ := bN_get 7 q_f6 (((nI u_28) : Int32).toNatClampNeg)
          obtain rfl : y_62 = nI u_63 := ey_62.trans qu_63
          refine va_calli (va_runS (As := [.int (nI u_63)]) (rest := [.ref au, .ref ti]) ⟨hx, hb, hml, hown, hts⟩ (c_C_0_hostOfPlace l dC dI _ u_63 hu_63) (va_cwS 1 hts g_C_6_layRules_C_0_hostOfPlace rfl rfl rfl (by decide +kernel) ⟨Nat.le_of_ble_eq_true rfl, Nat.le_of_ble_eq_true rfl⟩) ⟨pu_bl, pu_in (hP.sub [] rfl) (hK.sub [] rfl) (hD.sub [] (by decide) rfl)⟩ rfl rfl hl.1 rfl (lv_room (Nat.le_of_ble_eq_true rfl)) eX6_layRules_164 ⟨Nat.le_of_ble_eq_true rfl, Nat.le_of_ble_eq_true rfl⟩) hS (fun q _ h => pu_fr hS hA q h) (pu_fr hS hA) (fun r_64 u t H1 locs ht hvm hw hB hz1 hk1 hS => ?_)
          have hP := pu_keep hP hk1
          clear hk1 hz1 ht hvm
          generalize H1 = H at hP hS ⊢
          obtain rfl : r_64 = nI (14 + u_63) := hw
          refine lv_iload_n hx hb eX6_layRules_167 rfl (lv_at hl 2 rfl) ?_
          refine lv_iconst (v := 1) hx hb eX6_layRules_168 (by decide) ?_
          refine lv_iadd hx hb eX6_layRules_169 ?_
          refine lv_topi (fun y_65 ey_65 => ?_)
          obtain rfl : y_65 = (nI (g_24 + 1)) := ey_65.trans (nI_add g_24 1)
          have hFc := pu_free hD hS hA
          refine va_callv (va_runV (As := [.ref au, .int (nI (14 + u_63)), .int (nI (g_24 + 1))]) (rest := []) ⟨hx, hb, hml, hown, hts⟩ (c_C_6_layConditions l dC dI _ ti r0 ln r2 r3 r4 r5 z_nr_55 r7 r8 tz k_j0 q_j0 k_j2 j2 k_j3 z_j3_52 k_j4 z_j4_53 k_j5 z_j5_54 k_j7 g_58 k_j8 j8 au nc np ne (nI st0) q4 q5 q6 q7 q8 q9 q10 q11 q12 q13 q14 q15 q16 k_f4 f4 k_f5 q_f5 k_f6 q_f6 k_f7 f7 k_f8 q_f8 k_f9 q_f9 k_f10 f10 k_f11 f11 k_f12 f12 k_f13 f13 k_f14 f14 k_f15 f15 k_f16 f16 (14 + u_63) (g_24 + 1) hln hz_nr_55 hnc hnp hne (Or.inr ⟨st0, hst0, rfl⟩) (by omega) (by omega)) (cwV 3 hts g_C_6_layRules_C_6_layConditions rfl rfl rfl (by decide +kernel) ⟨Nat.le_of_ble_eq_true rfl, Nat.le_of_ble_eq_true rfl⟩) ⟨pu_bl, va_recv hK hP (ci := 6) (q0 := 0) rfl rfl, pu_in hP hK hD⟩ rfl rfl hl.1 rfl (lv_room (Nat.le_of_ble_eq_true rfl)) eX6_layRules_170 ⟨Nat.le_of_ble_eq_true rfl, Nat.le_of_ble_eq_true rfl⟩) hS (fun q _ h => hFc q h) hFc (fun u t H1 locs ht hvm hw hB hz1 hk1 hS => ?_)
          obtain ⟨z_j3_67, z_j4_68, z_j5_69, z_nr_70, ⟨hP1, -, hD1⟩, hz_nr_70⟩ := hB
          rw [ht] at hP1
          have hP := hP1
          have hD := pu_all hFc hD1
          clear hP1 hD1 hFc
          clear hk1 hz1 ht hvm
          generalize H1 = H at hP hS ⊢
          refine lv_iinc (v := (nI (g_24 + 1))) (lv' := [(2, .int (nI (g_24 + 1))), (0, .ref ti), (1, .ref au), (3, .int (nI u_28)), (4, .int (nI u_30)), (5, .int (nI g_59))]) hx hb eX6_layRules_173 hl (k := 2) rfl (nI_1 _) (by decide) rfl (fun ls hl => ?_)
          refine lv_goto (tgt := 40) hx hb eX6_layRules_176 (by decide) ?_
          exact ih_25 (119 - (g_24 + 1)) (by omega) _ _ _ ⟨z_j3_67, z_j4_68, z_j5_69, g_58, z_nr_70, (g_24 + 1), rfl, hz_nr_70, (by omega), hP, hD, hS, lv_sub hl [1, 2, 0] rfl⟩
        · have c_61 : ¬ nc ≤ g_59 := fun z => c_61 ((nI_leI (a := nc) (b := g_59) (Nat.lt_of_le_of_lt hnc (Nat.le_of_ble_eq_true rfl)) (Nat.lt_of_le_of_lt hg_59 (Nat.le_of_ble_eq_true rfl))).mpr z)
          refine lv_aload_n hx hb eX6_layRules_125 rfl (lv_at hl 1 rfl) ?_
          refine va_get (D := (dC, dI)) (ci := 0) (v := .ref q7) (C := RX0) (T := TX0) (N := 17) hx hb hts hiX0 hown hK hP 8 rfl rfl 7 (by decide) v_22 (fun _ h9 => h9) rfl eX6_layRules_126 ?_
          refine lv_iload_n hx hb eX6_layRules_129 rfl (lv_at hl 3 rfl) ?_
          refine va_iald hx hb hK hP 12 10 rfl rfl (vp_in_nI (n := u_28) (Nat.lt_of_le_of_lt hu_28 (Nat.le_of_ble_eq_true rfl)) (Nat.le_of_ble_eq_true rfl)) eX6_layRules_130 ?_
          refine lv_topi (fun y_71 ey_71 => ?_)
          refine lv_iload hx hb eX6_layRules_131 (lv_at hl 5 rfl) ?_
          refine lv_ishr hx hb eX6_layRules_133 ?_
          refine lv_topi (fun y_72 ey_72 => ?_)
          refine lv_iconst (v := 1) hx hb eX6_layRules_134 (by decide) ?_
          refine lv_iand hx hb eX6_layRules_135 ?_
          refine lv_topi (fun y_73 ey_73 => ?_)
          refine lv_iconst (v := 1) hx hb eX6_layRules_136 (by decide) ?_
          refine pu_join (fun H locs ls st => ∃ (g_74 : Nat → Nat), st = [] ∧ va_P (dC, dI) vwCl (ta__w ti r0 (nI ln) r2 r3 r4 r5 (nI z_nr_55) r7 r8 tz k_j0 (bN 13 q_j0) k_j2 j2 k_j3 (bN 120 z_j3_52) k_j4 (bN 120 z_j4_53) k_j5 z_j5_54 k_j7 (bN 120 g_74) k_j8 j8 au (nI nc) (nI np) (nI ne) (nI st0) q4 q5 q6 q7 q8 q9 q10 q11 q12 q13 q14 q15 q16 k_f4 f4 k_f5 (bN 7 q_f5) k_f6 (bN 7 q_f6) k_f7 f7 k_f8 (bN 4 q_f8) k_f9 (bN 2 q_f9) k_f10 f10 k_f11 f11 k_f12 f12 k_f13 f13 k_f14 f14 k_f15 f15 k_f16 f16) H ∧ va_D A (ta__w ti r0 (nI ln) r2 r3 r4 r5 (nI z_nr_55) r7 r8 tz k_j0 (bN 13 q_j0) k_j2 j2 k_j3 (bN 120 z_j3_52) k_j4 (bN 120 z_j4_53) k_j5 z_j5_54 k_j7 (bN 120 g_74) k_j8 j8 au (nI nc) (nI np) (nI ne) (nI st0) q4 q5 q6 q7 q8 q9 q10 q11 q12 q13 q14 q15 q16 k_f4 f4 k_f5 (bN 7 q_f5) k_f6 (bN 7 q_f6) k_f7 f7 k_f8 (bN 4 q_f8) k_f9 (bN 2 q_f9) k_f10 f10 k_f11 f11 k_f12 f12 k_f13 f13 k_f14 f14 k_f15 f15 k_f16 f16) ∧ va_S A s.heap H locs ∧ lv_has ls 6 [(0, .ref ti), (1, .ref au), (2, .int (nI g_24)), (3, .int (nI u_28)), (4, .int (nI u_30)), (5, .int (nI g_59))]) 150 ?_ (fun j_75 => ?_)
          · rintro H locs ls st ⟨g_74, rfl, hP, hD, hS, hl⟩
            refine lv_iinc (v := (nI (g_59 + 1))) (lv' := [(5, .int (nI (g_59 + 1))), (0, .ref ti), (1, .ref au), (2, .int (nI g_24)), (3, .int (nI u_28)), (4, .int (nI u_30))]) hx hb eX6_layRules_150 hl (k := 5) rfl (nI_1 _) (by decide) rfl (fun ls hl => ?_)
            refine lv_goto (tgt := 116) hx hb eX6_layRules_153 (by decide) ?_
            exact ih_60 (3 - (g_59 + 1)) (by omega) _ _ _ ⟨g_74, (g_59 + 1), rfl, (by omega), hP, hD, hS, lv_sub hl [1, 2, 3, 4, 5, 0] rfl⟩
          refine lv_icmp_ne (tgt := 150) hx hb eX6_layRules_137 (by decide) (fun c_76 => ?_) (fun c_76 => ?_)
          · exact j_75 _ _ _ _ ⟨g_58, rfl, hP, hD, hS, lv_sub hl [0, 1, 2, 3, 4, 5] rfl⟩
          · refine lv_aload_n hx hb eX6_layRules_140 rfl (lv_at hl 0 rfl) ?_
            refine va_get (D := (dC, dI)) (ci := 6) (v := .ref r7) (C := RX6) (T := TX6) (N := 10) hx hb hts hiX6 hown hK hP 0 rfl rfl 7 (by decide) v_2 (fun _ h9 => h9) rfl eX6_layRules_141 ?_
            refine lv_iload hx hb eX6_layRules_144 (lv_at hl 5 rfl) ?_
            refine lv_iload_n hx hb eX6_layRules_146 rfl (lv_at hl 2 rfl) ?_
            refine lv_iconst (v := 1) hx hb eX6_layRules_147 (by decide) ?_
            refine lv_iadd hx hb eX6_layRules_148 ?_
            refine lv_topi (fun y_77 ey_77 => ?_)
            obtain rfl : y_77 = (nI (g_24 + 1)) := ey_77.trans (nI_add g_24 1)
            refine va_iast hx hb hK hP hD hS 6 5 rfl rfl (vp_in_nI (n := g_59) (by omega) (Nat.le_of_ble_eq_true rfl)) eX6_layRules_149 (fun H locs hP hD hS => ?_)
            obtain ⟨q_78, eq_78, kq_78⟩ := bN_up 120 g_58 (((nI g_59) : Int32).toNatClampNeg) (v := (g_24 + 1)) (by omega)
            have hP : va_P (dC, dI) vwCl (ta__w ti r0 (nI ln) r2 r3 r4 r5 (nI z_nr_55) r7 r8 tz k_j0 (bN 13 q_j0) k_j2 j2 k_j3 (bN 120 z_j3_52) k_j4 (bN 120 z_j4_53) k_j5 z_j5_54 k_j7 (bN 120 q_78) k_j8 j8 au (nI nc) (nI np) (nI ne) (nI st0) q4 q5 q6 q7 q8 q9 q10 q11 q12 q13 q14 q15 q16 k_f4 f4 k_f5 (bN 7 q_f5) k_f6 (bN 7 q_f6) k_f7 f7 k_f8 (bN 4 q_f8) k_f9 (bN 2 q_f9) k_f10 f10 k_f11 f11 k_f12 f12 k_f13 f13 k_f14 f14 k_f15 f15 k_f16 f16) H := by rw [← eq_78]; exact hP
            have hD : va_D A (ta__w ti r0 (nI ln) r2 r3 r4 r5 (nI z_nr_55) r7 r8 tz k_j0 (bN 13 q_j0) k_j2 j2 k_j3 (bN 120 z_j3_52) k_j4 (bN 120 z_j4_53) k_j5 z_j5_54 k_j7 (bN 120 q_78) k_j8 j8 au (nI nc) (nI np) (nI ne) (nI st0) q4 q5 q6 q7 q8 q9 q10 q11 q12 q13 q14 q15 q16 k_f4 f4 k_f5 (bN 7 q_f5) k_f6 (bN 7 q_f6) k_f7 f7 k_f8 (bN 4 q_f8) k_f9 (bN 2 q_f9) k_f10 f10 k_f11 f11 k_f12 f12 k_f13 f13 k_f14 f14 k_f15 f15 k_f16 f16) := by rw [← eq_78]; exact hD
            exact j_75 _ _ _ _ ⟨q_78, rfl, hP, hD, hS, lv_sub hl [0, 1, 2, 3, 4, 5] rfl⟩
      refine lv_if_eq (tgt := 91) hx hb eX6_layRules_79 (by decide) (fun c_79 => ?_) (fun c_79 => ?_)
      · exact j_42 _ _ _ _ ⟨z_nr_36, z_j3_33, z_j4_34, z_j5_35, rfl, hz_nr_36, hP, hD, hS, lv_sub hl [2, 3, 4, 1, 0] rfl⟩
      · refine lv_aload_n hx hb eX6_layRules_82 rfl (lv_at hl 2 rfl) ?_
        refine lv_iload_n hx hb eX6_layRules_83 rfl (lv_at hl 4 rfl) ?_
        refine lv_iload_n hx hb eX6_layRules_84 rfl (lv_at hl 4 rfl) ?_
        refine lv_iconst (v := 1) hx hb eX6_layRules_85 (by decide) ?_
        refine lv_iadd hx hb eX6_layRules_86 ?_
        refine lv_topi (fun y_80 ey_80 => ?_)
        obtain rfl : y_80 = (nI (g_24 + 1)) := ey_80.trans (nI_add g_24 1)
        refine lv_iconst (v := 0) hx hb eX6_layRules_87 (by decide) ?_
        have hPc : va_P (dC, dI) vwCl (ti__w ti r0 (nI ln) r2 r3 r4 r5 (nI z_nr_36) r7 r8 tz k_j0 (bN 13 q_j0) k_j2 j2 k_j3 (bN 120 z_j3_33) k_j4 (bN 120 z_j4_34) k_j5 z_j5_35 k_j7 (bN 120 g_22) k_j8 j8) _ := hP.sub [0, 1, 2, 3, 4, 5, 6, 7] rfl
        have hDc := hD.sub (ws' := (ti__w ti r0 (nI ln) r2 r3 r4 r5 (nI z_nr_36) r7 r8 tz k_j0 (bN 13 q_j0) k_j2 j2 k_j3 (bN 120 z_j3_33) k_j4 (bN 120 z_j4_34) k_j5 z_j5_35 k_j7 (bN 120 g_22) k_j8 j8)) [0, 1, 2, 3, 4, 5, 6, 7] (by decide) rfl
        have hKc : va_K (dC, dI) vwCl (ti__t k_j0 k_j2 k_j3 k_j4 k_j5 k_j7 k_j8) s := hK.sub [0, 1, 2, 3, 4, 5, 6] rfl
        have hFc := pu_free hDc hS hA
        refine va_callv (va_runV (As := [.int (nI g_24), .int (nI (g_24 + 1)), .int 0]) (rest := []) ⟨hx, hb, hml, hown, hts⟩ (c_C_6_layRule l dC dI _ ti r0 ln r2 r3 r4 r5 z_nr_36 r7 r8 tz k_j0 q_j0 k_j2 j2 k_j3 z_j3_33 k_j4 z_j4_34 k_j5 z_j5_35 k_j7 g_22 k_j8 j8 g_24 (g_24 + 1) 0 hln hz_nr_36 (Nat.le_trans hg_24 (Nat.le_of_ble_eq_true rfl)) (by omega)) (cwV 3 hts g_C_6_layRules_C_6_layRule rfl rfl rfl (by decide +kernel) ⟨Nat.le_of_ble_eq_true rfl, Nat.le_of_ble_eq_true rfl⟩) ⟨pu_bl, va_recv hK hP (ci := 6) (q0 := 0) rfl rfl, pu_in hPc hKc hDc⟩ rfl rfl hl.1 rfl (lv_room (Nat.le_of_ble_eq_true rfl)) eX6_layRules_88 ⟨Nat.le_of_ble_eq_true rfl, Nat.le_of_ble_eq_true rfl⟩) hS (fun q _ h => hFc q h) hFc (fun u t H1 locs ht hvm hw hB hz1 hk1 hS => ?_)
        obtain ⟨z_j3_82, z_j4_83, z_j5_84, z_nr_85, ⟨hP1, -, hD1⟩, hz_nr_85⟩ := hB
        rw [ht] at hP1
        obtain ⟨hP, hD⟩ := pu_put (ws' := (ta__w ti r0 (nI ln) r2 r3 r4 r5 (nI z_nr_85) r7 r8 tz k_j0 (bN 13 q_j0) k_j2 j2 k_j3 (bN 120 z_j3_82) k_j4 (bN 120 z_j4_83) k_j5 z_j5_84 k_j7 (bN 120 g_22) k_j8 j8 au (nI nc) (nI np) (nI ne) (nI st0) q4 q5 q6 q7 q8 q9 q10 q11 q12 q13 q14 q15 q16 k_f4 f4 k_f5 (bN 7 q_f5) k_f6 (bN 7 q_f6) k_f7 f7 k_f8 (bN 4 q_f8) k_f9 (bN 2 q_f9) k_f10 f10 k_f11 f11 k_f12 f12 k_f13 f13 k_f14 f14 k_f15 f15 k_f16 f16)) (w1 := (ti__w ti r0 (nI ln) r2 r3 r4 r5 (nI z_nr_85) r7 r8 tz k_j0 (bN 13 q_j0) k_j2 j2 k_j3 (bN 120 z_j3_82) k_j4 (bN 120 z_j4_83) k_j5 z_j5_84 k_j7 (bN 120 g_22) k_j8 j8)) hP hD [0, 1, 2, 3, 4, 5, 6, 7] rfl hk1 hP1 rfl rfl
        clear hP1 hD1 hFc hPc hDc hKc
        clear hk1 hz1 ht hvm
        generalize H1 = H at hP hS ⊢
        exact j_42 _ _ _ _ ⟨z_nr_85, z_j3_82, z_j4_83, z_j5_84, rfl, hz_nr_85, hP, hD, hS, lv_sub hl [2, 3, 4, 1, 0] rfl⟩
  · have c_6 : ¬ 3 ≤ g_4 := fun z => c_6 ((nI_leI (a := 3) (b := g_4) (Nat.le_of_ble_eq_true rfl) (Nat.lt_of_le_of_lt hg_4 (Nat.le_of_ble_eq_true rfl))).mpr z)
    refine lv_aload_n hx hb eX6_layRules_12 rfl (lv_at hl 0 rfl) ?_
    refine va_get (D := (dC, dI)) (ci := 6) (v := .ref r7) (C := RX6) (T := TX6) (N := 10) hx hb hts hiX6 hown hK hP 0 rfl rfl 7 (by decide) v_2 (fun _ h9 => h9) rfl eX6_layRules_13 ?_
    refine lv_iload_n hx hb eX6_layRules_16 rfl (lv_at hl 2 rfl) ?_
    refine lv_iconst (v := 0) hx hb eX6_layRules_17 (by decide) ?_
    refine va_iast hx hb hK hP hD hS 6 5 rfl rfl (vp_in_nI (n := g_4) (by omega) (Nat.le_of_ble_eq_true rfl)) eX6_layRules_18 (fun H locs hP hD hS => ?_)
    obtain ⟨q_86, eq_86, kq_86⟩ := bN_up 120 g_3 (((nI g_4) : Int32).toNatClampNeg) (v := 0) (Nat.le_of_ble_eq_true rfl)
    have hP : va_P (dC, dI) vwCl (ta__w ti r0 (nI ln) r2 r3 r4 r5 0 r7 r8 tz k_j0 (bN 13 q_j0) k_j2 j2 k_j3 (bN 120 q_j3) k_j4 (bN 120 q_j4) k_j5 j5 k_j7 (bN 120 q_86) k_j8 j8 au (nI nc) (nI np) (nI ne) (nI st0) q4 q5 q6 q7 q8 q9 q10 q11 q12 q13 q14 q15 q16 k_f4 f4 k_f5 (bN 7 q_f5) k_f6 (bN 7 q_f6) k_f7 f7 k_f8 (bN 4 q_f8) k_f9 (bN 2 q_f9) k_f10 f10 k_f11 f11 k_f12 f12 k_f13 f13 k_f14 f14 k_f15 f15 k_f16 f16) H := by rw [← eq_86]; exact hP
    have hD : va_D A (ta__w ti r0 (nI ln) r2 r3 r4 r5 0 r7 r8 tz k_j0 (bN 13 q_j0) k_j2 j2 k_j3 (bN 120 q_j3) k_j4 (bN 120 q_j4) k_j5 j5 k_j7 (bN 120 q_86) k_j8 j8 au (nI nc) (nI np) (nI ne) (nI st0) q4 q5 q6 q7 q8 q9 q10 q11 q12 q13 q14 q15 q16 k_f4 f4 k_f5 (bN 7 q_f5) k_f6 (bN 7 q_f6) k_f7 f7 k_f8 (bN 4 q_f8) k_f9 (bN 2 q_f9) k_f10 f10 k_f11 f11 k_f12 f12 k_f13 f13 k_f14 f14 k_f15 f15 k_f16 f16) := by rw [← eq_86]; exact hD
    refine lv_iinc (v := (nI (g_4 + 1))) (lv' := [(2, .int (nI (g_4 + 1))), (0, .ref ti), (1, .ref au)]) hx hb eX6_layRules_19 hl (k := 2) rfl (nI_1 _) (by decide) rfl (fun ls hl => ?_)
    refine lv_goto (tgt := 7) hx hb eX6_layRules_22 (by decide) ?_
    exact ih_5 (3 - (g_4 + 1)) (by omega) _ _ _ ⟨q_86, (g_4 + 1), rfl, (by omega), hP, hD, hS, lv_sub hl [1, 2, 0] rfl⟩
theorem eX6_findsLeast_0 : decode cX6_findsLeast 0 = .ok (.iconst 0, 1) := by decide +kernel
theorem eX6_findsLeast_1 : decode cX6_findsLeast 1 = .ok (.istore_n 1, 1) := by decide +kernel
theorem eX6_findsLeast_2 : decode cX6_findsLeast 2 = .ok (.iload_n 1, 1) := by decide +kernel
theorem eX6_findsLeast_3 : decode cX6_findsLeast 3 = .ok (.aload_n 0, 1) := by decide +kernel
theorem eX6_findsLeast_4 : decode cX6_findsLeast 4 = .ok (.getfield 47, 3) := by decide +kernel
theorem eX6_findsLeast_7 : decode cX6_findsLeast 7 = .ok (.if_icmp .gt 16, 3) := by decide +kernel
theorem eX6_findsLeast_10 : decode cX6_findsLeast 10 = .ok (.aload_n 0, 1) := by decide +kernel
theorem eX6_findsLeast_11 : decode cX6_findsLeast 11 = .ok (.getfield 15, 3) := by decide +kernel
theorem eX6_findsLeast_14 : decode cX6_findsLeast 14 = .ok (.iload_n 1, 1) := by decide +kernel
theorem eX6_findsLeast_15 : decode cX6_findsLeast 15 = .ok (.iconst 0, 1) := by decide +kernel
theorem eX6_findsLeast_16 : decode cX6_findsLeast 16 = .ok (.iastore, 1) := by decide +kernel
theorem eX6_findsLeast_17 : decode cX6_findsLeast 17 = .ok (.iinc 1 1, 3) := by decide +kernel
theorem eX6_findsLeast_20 : decode cX6_findsLeast 20 = .ok (.goto (-18), 3) := by decide +kernel
theorem eX6_findsLeast_23 : decode cX6_findsLeast 23 = .ok (.iconst 1, 1) := by decide +kernel
theorem eX6_findsLeast_24 : decode cX6_findsLeast 24 = .ok (.istore_n 1, 1) := by decide +kernel
theorem eX6_findsLeast_25 : decode cX6_findsLeast 25 = .ok (.iconst 0, 1) := by decide +kernel
theorem eX6_findsLeast_26 : decode cX6_findsLeast 26 = .ok (.istore_n 2, 1) := by decide +kernel
theorem eX6_findsLeast_27 : decode cX6_findsLeast 27 = .ok (.iload_n 2, 1) := by decide +kernel
theorem eX6_findsLeast_28 : decode cX6_findsLeast 28 = .ok (.aload_n 0, 1) := by decide +kernel
theorem eX6_findsLeast_29 : decode cX6_findsLeast 29 = .ok (.getfield 47, 3) := by decide +kernel
theorem eX6_findsLeast_32 : decode cX6_findsLeast 32 = .ok (.iconst 1, 1) := by decide +kernel
theorem eX6_findsLeast_33 : decode cX6_findsLeast 33 = .ok (.iadd, 1) := by decide +kernel
theorem eX6_findsLeast_34 : decode cX6_findsLeast 34 = .ok (.if_icmp .gt 91, 3) := by decide +kernel
theorem eX6_findsLeast_37 : decode cX6_findsLeast 37 = .ok (.iload_n 1, 1) := by decide +kernel
theorem eX6_findsLeast_38 : decode cX6_findsLeast 38 = .ok (.ifCond .eq 87, 3) := by decide +kernel
theorem eX6_findsLeast_41 : decode cX6_findsLeast 41 = .ok (.aload_n 0, 1) := by decide +kernel
theorem eX6_findsLeast_42 : decode cX6_findsLeast 42 = .ok (.getfield 15, 3) := by decide +kernel
theorem eX6_findsLeast_45 : decode cX6_findsLeast 45 = .ok (.iconst 0, 1) := by decide +kernel
theorem eX6_findsLeast_46 : decode cX6_findsLeast 46 = .ok (.iaload, 1) := by decide +kernel
theorem eX6_findsLeast_47 : decode cX6_findsLeast 47 = .ok (.ifCond .ne 78, 3) := by decide +kernel
theorem eX6_findsLeast_50 : decode cX6_findsLeast 50 = .ok (.iconst 0, 1) := by decide +kernel
theorem eX6_findsLeast_51 : decode cX6_findsLeast 51 = .ok (.istore_n 1, 1) := by decide +kernel
theorem eX6_findsLeast_52 : decode cX6_findsLeast 52 = .ok (.iconst 0, 1) := by decide +kernel
theorem eX6_findsLeast_53 : decode cX6_findsLeast 53 = .ok (.istore_n 3, 1) := by decide +kernel
theorem eX6_findsLeast_54 : decode cX6_findsLeast 54 = .ok (.iload_n 3, 1) := by decide +kernel
theorem eX6_findsLeast_55 : decode cX6_findsLeast 55 = .ok (.aload_n 0, 1) := by decide +kernel
theorem eX6_findsLeast_56 : decode cX6_findsLeast 56 = .ok (.getfield 57, 3) := by decide +kernel
theorem eX6_findsLeast_59 : decode cX6_findsLeast 59 = .ok (.if_icmp .ge 60, 3) := by decide +kernel
theorem eX6_findsLeast_62 : decode cX6_findsLeast 62 = .ok (.aload_n 0, 1) := by decide +kernel
theorem eX6_findsLeast_63 : decode cX6_findsLeast 63 = .ok (.getfield 15, 3) := by decide +kernel
theorem eX6_findsLeast_66 : decode cX6_findsLeast 66 = .ok (.aload_n 0, 1) := by decide +kernel
theorem eX6_findsLeast_67 : decode cX6_findsLeast 67 = .ok (.getfield 21, 3) := by decide +kernel
theorem eX6_findsLeast_70 : decode cX6_findsLeast 70 = .ok (.iload_n 3, 1) := by decide +kernel
theorem eX6_findsLeast_71 : decode cX6_findsLeast 71 = .ok (.iaload, 1) := by decide +kernel
theorem eX6_findsLeast_72 : decode cX6_findsLeast 72 = .ok (.iaload, 1) := by decide +kernel
theorem eX6_findsLeast_73 : decode cX6_findsLeast 73 = .ok (.aload_n 0, 1) := by decide +kernel
theorem eX6_findsLeast_74 : decode cX6_findsLeast 74 = .ok (.getfield 24, 3) := by decide +kernel
theorem eX6_findsLeast_77 : decode cX6_findsLeast 77 = .ok (.iload_n 3, 1) := by decide +kernel
theorem eX6_findsLeast_78 : decode cX6_findsLeast 78 = .ok (.iaload, 1) := by decide +kernel
theorem eX6_findsLeast_79 : decode cX6_findsLeast 79 = .ok (.iadd, 1) := by decide +kernel
theorem eX6_findsLeast_80 : decode cX6_findsLeast 80 = .ok (.istore 4, 2) := by decide +kernel
theorem eX6_findsLeast_82 : decode cX6_findsLeast 82 = .ok (.iload 4, 2) := by decide +kernel
theorem eX6_findsLeast_84 : decode cX6_findsLeast 84 = .ok (.aload_n 0, 1) := by decide +kernel
theorem eX6_findsLeast_85 : decode cX6_findsLeast 85 = .ok (.getfield 15, 3) := by decide +kernel
theorem eX6_findsLeast_88 : decode cX6_findsLeast 88 = .ok (.aload_n 0, 1) := by decide +kernel
theorem eX6_findsLeast_89 : decode cX6_findsLeast 89 = .ok (.getfield 18, 3) := by decide +kernel
theorem eX6_findsLeast_92 : decode cX6_findsLeast 92 = .ok (.iload_n 3, 1) := by decide +kernel
theorem eX6_findsLeast_93 : decode cX6_findsLeast 93 = .ok (.iaload, 1) := by decide +kernel
theorem eX6_findsLeast_94 : decode cX6_findsLeast 94 = .ok (.iaload, 1) := by decide +kernel
theorem eX6_findsLeast_95 : decode cX6_findsLeast 95 = .ok (.if_icmp .le 18, 3) := by decide +kernel
theorem eX6_findsLeast_98 : decode cX6_findsLeast 98 = .ok (.aload_n 0, 1) := by decide +kernel
theorem eX6_findsLeast_99 : decode cX6_findsLeast 99 = .ok (.getfield 15, 3) := by decide +kernel
theorem eX6_findsLeast_102 : decode cX6_findsLeast 102 = .ok (.aload_n 0, 1) := by decide +kernel
theorem eX6_findsLeast_103 : decode cX6_findsLeast 103 = .ok (.getfield 18, 3) := by decide +kernel
theorem eX6_findsLeast_106 : decode cX6_findsLeast 106 = .ok (.iload_n 3, 1) := by decide +kernel
theorem eX6_findsLeast_107 : decode cX6_findsLeast 107 = .ok (.iaload, 1) := by decide +kernel
theorem eX6_findsLeast_108 : decode cX6_findsLeast 108 = .ok (.iload 4, 2) := by decide +kernel
theorem eX6_findsLeast_110 : decode cX6_findsLeast 110 = .ok (.iastore, 1) := by decide +kernel
theorem eX6_findsLeast_111 : decode cX6_findsLeast 111 = .ok (.iconst 1, 1) := by decide +kernel
theorem eX6_findsLeast_112 : decode cX6_findsLeast 112 = .ok (.istore_n 1, 1) := by decide +kernel
theorem eX6_findsLeast_113 : decode cX6_findsLeast 113 = .ok (.iinc 3 1, 3) := by decide +kernel
theorem eX6_findsLeast_116 : decode cX6_findsLeast 116 = .ok (.goto (-62), 3) := by decide +kernel
theorem eX6_findsLeast_119 : decode cX6_findsLeast 119 = .ok (.iinc 2 1, 3) := by decide +kernel
theorem eX6_findsLeast_122 : decode cX6_findsLeast 122 = .ok (.goto (-95), 3) := by decide +kernel
theorem eX6_findsLeast_125 : decode cX6_findsLeast 125 = .ok (.iload_n 1, 1) := by decide +kernel
theorem eX6_findsLeast_126 : decode cX6_findsLeast 126 = .ok (.ifCond .ne 16, 3) := by decide +kernel
theorem eX6_findsLeast_129 : decode cX6_findsLeast 129 = .ok (.aload_n 0, 1) := by decide +kernel
theorem eX6_findsLeast_130 : decode cX6_findsLeast 130 = .ok (.getfield 15, 3) := by decide +kernel
theorem eX6_findsLeast_133 : decode cX6_findsLeast 133 = .ok (.iconst 0, 1) := by decide +kernel
theorem eX6_findsLeast_134 : decode cX6_findsLeast 134 = .ok (.iaload, 1) := by decide +kernel
theorem eX6_findsLeast_135 : decode cX6_findsLeast 135 = .ok (.ifCond .ne 7, 3) := by decide +kernel
theorem eX6_findsLeast_138 : decode cX6_findsLeast 138 = .ok (.iconst 1, 1) := by decide +kernel
theorem eX6_findsLeast_139 : decode cX6_findsLeast 139 = .ok (.goto 4, 3) := by decide +kernel
theorem eX6_findsLeast_142 : decode cX6_findsLeast 142 = .ok (.iconst 0, 1) := by decide +kernel
theorem eX6_findsLeast_143 : decode cX6_findsLeast 143 = .ok (.ireturn, 1) := by decide +kernel
abbrev vs_C_6_findsLeast : List Cond := .code yX6_findsLeast cX6_findsLeast 5 (some .boolean) :: CM
set_option maxHeartbeats 4000000 in
set_option maxRecDepth 100000 in
theorem c_C_6_findsLeast (l : Launch) (dC : Nat → ClassId) (dI : Nat → Nat → Nat) (sz : Nat) (ti : Nat) (r0 : Nat) (ln : Nat) (r2 : Nat) (r3 : Nat) (r4 : Nat) (r5 : Nat) (nr : Nat) (r7 : Nat) (r8 : Nat) (tz : Nat) (k_j0 : ClassId) (q_j0 : Nat → Nat) (k_j2 : ClassId) (j2 : Nat → Int32) (k_j3 : ClassId) (q_j3 : Nat → Nat) (k_j4 : ClassId) (q_j4 : Nat → Nat) (k_j5 : ClassId) (j5 : Nat → Int32) (k_j7 : ClassId) (q_j7 : Nat → Nat) (k_j8 : ClassId) (j8 : Nat → Int32) (hln : ln ≤ 119) (hnr : nr ≤ 1920) : Met l yX6_findsLeast vs_C_6_findsLeast ({ frames := 0, cells := 0, slots := 0, locals := 0 }) (va_Pc [.ref ti] (pu_B (dC, dI) (ti__w ti r0 (nI ln) r2 r3 r4 r5 (nI nr) r7 r8 tz k_j0 (bN 13 q_j0) k_j2 j2 k_j3 (bN 120 q_j3) k_j4 (bN 120 q_j4) k_j5 j5 k_j7 (bN 120 q_j7) k_j8 j8) (ti__t k_j0 k_j2 k_j3 k_j4 k_j5 k_j7 k_j8) sz)) (va_Qi (fun (r : Int32) (_ : Unit) => ∃ v : Nat, v ≤ 1 ∧ r = nI v) (fun _ t => ∃ (z_j2 : Nat → Int32), pu_E (dC, dI) (ti__w ti r0 (nI ln) r2 r3 r4 r5 (nI nr) r7 r8 tz k_j0 (bN 13 q_j0) k_j2 z_j2 k_j3 (bN 120 q_j3) k_j4 (bN 120 q_j4) k_j5 j5 k_j7 (bN 120 q_j7) k_j8 j8) (ti__t k_j0 k_j2 k_j3 k_j4 k_j5 k_j7 k_j8) (va_A ((ti__w ti r0 (nI ln) r2 r3 r4 r5 (nI nr) r7 r8 tz k_j0 (bN 13 q_j0) k_j2 j2 k_j3 (bN 120 q_j3) k_j4 (bN 120 q_j4) k_j5 j5 k_j7 (bN 120 q_j7) k_j8 j8)) sz) t) (va_A ((ti__w ti r0 (nI ln) r2 r3 r4 r5 (nI nr) r7 r8 tz k_j0 (bN 13 q_j0) k_j2 j2 k_j3 (bN 120 q_j3) k_j4 (bN 120 q_j4) k_j5 j5 k_j7 (bN 120 q_j7) k_j8 j8)) sz)) 0 0 (va_A ((ti__w ti r0 (nI ln) r2 r3 r4 r5 (nI nr) r7 r8 tz k_j0 (bN 13 q_j0) k_j2 j2 k_j3 (bN 120 q_j3) k_j4 (bN 120 q_j4) k_j5 j5 k_j7 (bN 120 q_j7) k_j8 j8)) sz) := by
  refine Met.ofW (cc := cX6_findsLeast) (maxL := 5) (ret := (some .boolean)) (by decide) rfl ?_
  intro p e s m args below meth c s₁ B hml hv
  obtain ⟨rfl, rfl, hP, hK, hD0⟩ := hv
  have hx := B.exec
  have hb := B.bytes
  have hr := B.returns
  have hts := atoms_spec (ws := vs_C_6_findsLeast) B.pre
  have v_1 := hts (.fieldLink RX6 47 "ClockReach$Timing" "length" "I") (List.mem_cons_of_mem _ cm_366)
  have v_2 := hts (.fieldLink RX6 15 "ClockReach$Timing" "at" "[I") (List.mem_cons_of_mem _ cm_400)
  have v_3 := hts (.fieldLink RX6 57 "ClockReach$Timing" "rules" "I") (List.mem_cons_of_mem _ cm_371)
  have v_4 := hts (.fieldLink RX6 21 "ClockReach$Timing" "earliers" "[I") (List.mem_cons_of_mem _ cm_397)
  have v_5 := hts (.fieldLink RX6 24 "ClockReach$Timing" "gaps" "[I") (List.mem_cons_of_mem _ cm_398)
  have v_6 := hts (.fieldLink RX6 18 "ClockReach$Timing" "laters" "[I") (List.mem_cons_of_mem _ cm_396)
  have hown : s.vm.findClass RX6 = some m.cls := findClass_of_methodNamed B.named
  have hlocks := B.notSynchronized
  have hiX6 : ∀ w ∈ wsX60, w ∈ vs_C_6_findsLeast := fun _ h => List.mem_cons_of_mem _ (cm_X6 h)
  have hD := hD0.self (sz := s.heap.size)
  generalize hAe : va_A ((ti__w ti r0 (nI ln) r2 r3 r4 r5 (nI nr) r7 r8 tz k_j0 (bN 13 q_j0) k_j2 j2 k_j3 (bN 120 q_j3) k_j4 (bN 120 q_j4) k_j5 j5 k_j7 (bN 120 q_j7) k_j8 j8)) s.heap.size = A at hD ⊢
  have hA : ∀ q : Nat, s.heap.size ≤ q → A q := fun q h => by rw [← hAe]; exact Or.inr h
  have hS : va_S A s.heap s.heap [] := va_S.rf
  have hl := lv_entry ([.ref ti]) (n := 5) (Nat.le_of_ble_eq_true rfl)
  rw [lg_entry_eq]
  generalize (lg_sl ([.ref ti]) ++ List.replicate (5 - (lg_sl ([.ref ti])).length) Slot.unset).toArray = ls at hl ⊢
  have hl : lv_has ls 5 [(0, .ref ti)] := hl
  refine lv_iconst (v := 0) hx hb eX6_findsLeast_0 (by decide) ?_
  refine lv_istore_n (lv' := [(1, .int 0), (0, .ref ti)]) hx hb eX6_findsLeast_1 rfl hl (by decide) rfl (fun ls hl => ?_)
  refine pu_while (fun nn H locs ls => ∃ (g_3 : Nat → Int32) (g_4 : Nat), nn = 120 - g_4 ∧ g_4 ≤ 120 ∧ va_P (dC, dI) vwCl (ti__w ti r0 (nI ln) r2 r3 r4 r5 (nI nr) r7 r8 tz k_j0 (bN 13 q_j0) k_j2 g_3 k_j3 (bN 120 q_j3) k_j4 (bN 120 q_j4) k_j5 j5 k_j7 (bN 120 q_j7) k_j8 j8) H ∧ va_D A (ti__w ti r0 (nI ln) r2 r3 r4 r5 (nI nr) r7 r8 tz k_j0 (bN 13 q_j0) k_j2 g_3 k_j3 (bN 120 q_j3) k_j4 (bN 120 q_j4) k_j5 j5 k_j7 (bN 120 q_j7) k_j8 j8) ∧ va_S A s.heap H locs ∧ lv_has ls 5 [(0, .ref ti), (1, .int (nI g_4))]) 2 ?_ _ _ _ _ ⟨j2, 0, rfl, (Nat.le_of_ble_eq_true rfl), hP, hD, hS, lv_sub hl [1, 0] rfl⟩
  rintro nn ih_5 H locs ls ⟨g_3, g_4, rfl, hg_4, hP, hD, hS, hl⟩
  refine lv_iload_n hx hb eX6_findsLeast_2 rfl (lv_at hl 1 rfl) ?_
  refine lv_aload_n hx hb eX6_findsLeast_3 rfl (lv_at hl 0 rfl) ?_
  refine va_get (D := (dC, dI)) (ci := 6) (v := .int (nI ln)) (C := RX6) (T := TX6) (N := 10) hx hb hts hiX6 hown hK hP 0 rfl rfl 1 (by decide) v_1 (fun _ h9 => h9) rfl eX6_findsLeast_4 ?_
  refine lv_icmp_gt (tgt := 23) hx hb eX6_findsLeast_7 (by decide) (fun c_6 => ?_) (fun c_6 => ?_)
  · have c_6 : ln < g_4 := (nI_ltI (a := ln) (b := g_4) (Nat.lt_of_le_of_lt hln (Nat.le_of_ble_eq_true rfl)) (Nat.lt_of_le_of_lt hg_4 (Nat.le_of_ble_eq_true rfl))).mp c_6
    refine lv_iconst (v := 1) hx hb eX6_findsLeast_23 (by decide) ?_
    refine lv_istore_n (lv' := [(1, .int 1), (0, .ref ti)]) hx hb eX6_findsLeast_24 rfl hl (by decide) rfl (fun ls hl => ?_)
    refine lv_iconst (v := 0) hx hb eX6_findsLeast_25 (by decide) ?_
    refine lv_istore_n (lv' := [(2, .int 0), (1, .int 1), (0, .ref ti)]) hx hb eX6_findsLeast_26 rfl hl (by decide) rfl (fun ls hl => ?_)
    refine pu_while (fun nn H locs ls => ∃ (g_10 : Nat → Int32) (g_11 : Int32) (g_12 : Nat), nn = 121 - g_12 ∧ g_12 ≤ 121 ∧ va_P (dC, dI) vwCl (ti__w ti r0 (nI ln) r2 r3 r4 r5 (nI nr) r7 r8 tz k_j0 (bN 13 q_j0) k_j2 g_10 k_j3 (bN 120 q_j3) k_j4 (bN 120 q_j4) k_j5 j5 k_j7 (bN 120 q_j7) k_j8 j8) H ∧ va_D A (ti__w ti r0 (nI ln) r2 r3 r4 r5 (nI nr) r7 r8 tz k_j0 (bN 13 q_j0) k_j2 g_10 k_j3 (bN 120 q_j3) k_j4 (bN 120 q_j4) k_j5 j5 k_j7 (bN 120 q_j7) k_j8 j8) ∧ va_S A s.heap H locs ∧ lv_has ls 5 [(0, .ref ti), (1, .int g_11), (2, .int (nI g_12))]) 27 ?_ _ _ _ _ ⟨g_3, 1, 0, rfl, (Nat.le_of_ble_eq_true rfl), hP, hD, hS, lv_sub hl [2, 1, 0] rfl⟩
    rintro nn ih_13 H locs ls ⟨g_10, g_11, g_12, rfl, hg_12, hP, hD, hS, hl⟩
    refine lv_iload_n hx hb eX6_findsLeast_27 rfl (lv_at hl 2 rfl) ?_
    refine lv_aload_n hx hb eX6_findsLeast_28 rfl (lv_at hl 0 rfl) ?_
    refine va_get (D := (dC, dI)) (ci := 6) (v := .int (nI ln)) (C := RX6) (T := TX6) (N := 10) hx hb hts hiX6 hown hK hP 0 rfl rfl 1 (by decide) v_1 (fun _ h9 => h9) rfl eX6_findsLeast_29 ?_
    refine lv_iconst (v := 1) hx hb eX6_findsLeast_32 (by decide) ?_
    refine lv_iadd hx hb eX6_findsLeast_33 ?_
    refine lv_topi (fun y_14 ey_14 => ?_)
    obtain rfl : y_14 = (nI (ln + 1)) := ey_14.trans (nI_add ln 1)
    refine pu_join (fun H locs ls st => st = [] ∧ va_P (dC, dI) vwCl (ti__w ti r0 (nI ln) r2 r3 r4 r5 (nI nr) r7 r8 tz k_j0 (bN 13 q_j0) k_j2 g_10 k_j3 (bN 120 q_j3) k_j4 (bN 120 q_j4) k_j5 j5 k_j7 (bN 120 q_j7) k_j8 j8) H ∧ va_D A (ti__w ti r0 (nI ln) r2 r3 r4 r5 (nI nr) r7 r8 tz k_j0 (bN 13 q_j0) k_j2 g_10 k_j3 (bN 120 q_j3) k_j4 (bN 120 q_j4) k_j5 j5 k_j7 (bN 120 q_j7) k_j8 j8) ∧ va_S A s.heap H locs ∧ lv_has ls 5 [(0, .ref ti), (1, .int g_11), (2, .int (nI g_12))]) 125 ?_ (fun j_15 => ?_)
    · rintro H locs ls st ⟨rfl, hP, hD, hS, hl⟩
      refine lv_iload_n hx hb eX6_findsLeast_125 rfl (lv_at hl 1 rfl) ?_
      refine lv_if_ne (tgt := 142) hx hb eX6_findsLeast_126 (by decide) (fun c_16 => ?_) (fun c_16 => ?_)
      · refine lv_iconst (v := 0) hx hb eX6_findsLeast_142 (by decide) ?_
        exact W.zret (v := 0) (ty := .boolean) hx hb hr (rfl) (fun t ht hW => ⟨⟨0, (), rfl, ⟨0, (Nat.le_of_ble_eq_true rfl), rfl⟩, ⟨g_10, ⟨by rw [ht]; exact hP, va_K.moved hW.alike hK, hD⟩⟩⟩, hS.F ht⟩) hS.2.2 eX6_findsLeast_143
      · refine lv_aload_n hx hb eX6_findsLeast_129 rfl (lv_at hl 0 rfl) ?_
        refine va_get (D := (dC, dI)) (ci := 6) (v := .ref r2) (C := RX6) (T := TX6) (N := 10) hx hb hts hiX6 hown hK hP 0 rfl rfl 2 (by decide) v_2 (fun _ h9 => h9) rfl eX6_findsLeast_130 ?_
        refine lv_iconst (v := 0) hx hb eX6_findsLeast_133 (by decide) ?_
        refine va_iald hx hb hK hP 2 1 rfl rfl (vp_in_nI (n := 0) (Nat.le_of_ble_eq_true rfl) (Nat.le_of_ble_eq_true rfl)) eX6_findsLeast_134 ?_
        refine lv_topi (fun y_17 ey_17 => ?_)
        refine lv_if_ne (tgt := 142) hx hb eX6_findsLeast_135 (by decide) (fun c_18 => ?_) (fun c_18 => ?_)
        · refine lv_iconst (v := 0) hx hb eX6_findsLeast_142 (by decide) ?_
          exact W.zret (v := 0) (ty := .boolean) hx hb hr (rfl) (fun t ht hW => ⟨⟨0, (), rfl, ⟨0, (Nat.le_of_ble_eq_true rfl), rfl⟩, ⟨g_10, ⟨by rw [ht]; exact hP, va_K.moved hW.alike hK, hD⟩⟩⟩, hS.F ht⟩) hS.2.2 eX6_findsLeast_143
        · refine lv_iconst (v := 1) hx hb eX6_findsLeast_138 (by decide) ?_
          refine lv_goto (tgt := 143) hx hb eX6_findsLeast_139 (by decide) ?_
          exact W.zret (v := 1) (ty := .boolean) hx hb hr (rfl) (fun t ht hW => ⟨⟨1, (), rfl, ⟨1, (Nat.le_of_ble_eq_true rfl), rfl⟩, ⟨g_10, ⟨by rw [ht]; exact hP, va_K.moved hW.alike hK, hD⟩⟩⟩, hS.F ht⟩) hS.2.2 eX6_findsLeast_143
    refine lv_icmp_gt (tgt := 125) hx hb eX6_findsLeast_34 (by decide) (fun c_19 => ?_) (fun c_19 => ?_)
    · have c_19 : (ln + 1) < g_12 := (nI_ltI (a := (ln + 1)) (b := g_12) (by omega) (Nat.lt_of_le_of_lt hg_12 (Nat.le_of_ble_eq_true rfl))).mp c_19
      exact j_15 _ _ _ _ ⟨rfl, hP, hD, hS, lv_sub hl [0, 1, 2] rfl⟩
    · have c_19 : ¬ (ln + 1) < g_12 := fun z => c_19 ((nI_ltI (a := (ln + 1)) (b := g_12) (by omega) (Nat.lt_of_le_of_lt hg_12 (Nat.le_of_ble_eq_true rfl))).mpr z)
      refine lv_iload_n hx hb eX6_findsLeast_37 rfl (lv_at hl 1 rfl) ?_
      refine lv_if_eq (tgt := 125) hx hb eX6_findsLeast_38 (by decide) (fun c_20 => ?_) (fun c_20 => ?_)
      · exact j_15 _ _ _ _ ⟨rfl, hP, hD, hS, lv_sub hl [0, 1, 2] rfl⟩
      · refine lv_aload_n hx hb eX6_findsLeast_41 rfl (lv_at hl 0 rfl) ?_
        refine va_get (D := (dC, dI)) (ci := 6) (v := .ref r2) (C := RX6) (T := TX6) (N := 10) hx hb hts hiX6 hown hK hP 0 rfl rfl 2 (by decide) v_2 (fun _ h9 => h9) rfl eX6_findsLeast_42 ?_
        refine lv_iconst (v := 0) hx hb eX6_findsLeast_45 (by decide) ?_
        refine va_iald hx hb hK hP 2 1 rfl rfl (vp_in_nI (n := 0) (Nat.le_of_ble_eq_true rfl) (Nat.le_of_ble_eq_true rfl)) eX6_findsLeast_46 ?_
        refine lv_topi (fun y_21 ey_21 => ?_)
        refine lv_if_ne (tgt := 125) hx hb eX6_findsLeast_47 (by decide) (fun c_22 => ?_) (fun c_22 => ?_)
        · exact j_15 _ _ _ _ ⟨rfl, hP, hD, hS, lv_sub hl [0, 1, 2] rfl⟩
        · refine lv_iconst (v := 0) hx hb eX6_findsLeast_50 (by decide) ?_
          refine lv_istore_n (lv' := [(1, .int 0), (0, .ref ti), (2, .int (nI g_12))]) hx hb eX6_findsLeast_51 rfl hl (by decide) rfl (fun ls hl => ?_)
          refine lv_iconst (v := 0) hx hb eX6_findsLeast_52 (by decide) ?_
          refine lv_istore_n (lv' := [(3, .int 0), (1, .int 0), (0, .ref ti), (2, .int (nI g_12))]) hx hb eX6_findsLeast_53 rfl hl (by decide) rfl (fun ls hl => ?_)
          refine pu_while (fun nn H locs ls => ∃ (g_26 : Nat → Int32) (g_27 : Int32) (g_28 : Nat), nn = 1920 - g_28 ∧ g_28 ≤ 1920 ∧ va_P (dC, dI) vwCl (ti__w ti r0 (nI ln) r2 r3 r4 r5 (nI nr) r7 r8 tz k_j0 (bN 13 q_j0) k_j2 g_26 k_j3 (bN 120 q_j3) k_j4 (bN 120 q_j4) k_j5 j5 k_j7 (bN 120 q_j7) k_j8 j8) H ∧ va_D A (ti__w ti r0 (nI ln) r2 r3 r4 r5 (nI nr) r7 r8 tz k_j0 (bN 13 q_j0) k_j2 g_26 k_j3 (bN 120 q_j3) k_j4 (bN 120 q_j4) k_j5 j5 k_j7 (bN 120 q_j7) k_j8 j8) ∧ va_S A s.heap H locs ∧ lv_has ls 5 [(0, .ref ti), (1, .int g_27), (2, .int (nI g_12)), (3, .int (nI g_28))]) 54 ?_ _ _ _ _ ⟨g_10, 0, 0, rfl, (Nat.le_of_ble_eq_true rfl), hP, hD, hS, lv_sub hl [2, 1, 3, 0] rfl⟩
          rintro nn ih_29 H locs ls ⟨g_26, g_27, g_28, rfl, hg_28, hP, hD, hS, hl⟩
          refine lv_iload_n hx hb eX6_findsLeast_54 rfl (lv_at hl 3 rfl) ?_
          refine lv_aload_n hx hb eX6_findsLeast_55 rfl (lv_at hl 0 rfl) ?_
          refine va_get (D := (dC, dI)) (ci := 6) (v := .int (nI nr)) (C := RX6) (T := TX6) (N := 10) hx hb hts hiX6 hown hK hP 0 rfl rfl 6 (by decide) v_3 (fun _ h9 => h9) rfl eX6_findsLeast_56 ?_
          refine lv_icmp_ge (tgt := 119) hx hb eX6_findsLeast_59 (by decide) (fun c_30 => ?_) (fun c_30 => ?_)
          · have c_30 : nr ≤ g_28 := (nI_leI (a := nr) (b := g_28) (Nat.lt_of_le_of_lt hnr (Nat.le_of_ble_eq_true rfl)) (Nat.lt_of_le_of_lt hg_28 (Nat.le_of_ble_eq_true rfl))).mp c_30
            refine lv_iinc (v := (nI (g_12 + 1))) (lv' := [(2, .int (nI (g_12 + 1))), (0, .ref ti), (1, .int g_27), (3, .int (nI g_28))]) hx hb eX6_findsLeast_119 hl (k := 2) rfl (nI_1 _) (by decide) rfl (fun ls hl => ?_)
            refine lv_goto (tgt := 27) hx hb eX6_findsLeast_122 (by decide) ?_
            exact ih_13 (121 - (g_12 + 1)) (by omega) _ _ _ ⟨g_26, g_27, (g_12 + 1), rfl, (by omega), hP, hD, hS, lv_sub hl [1, 2, 0] rfl⟩
          · have c_30 : ¬ nr ≤ g_28 := fun z => c_30 ((nI_leI (a := nr) (b := g_28) (Nat.lt_of_le_of_lt hnr (Nat.le_of_ble_eq_true rfl)) (Nat.lt_of_le_of_lt hg_28 (Nat.le_of_ble_eq_true rfl))).mpr z)
            refine lv_aload_n hx hb eX6_findsLeast_62 rfl (lv_at hl 0 rfl) ?_
            refine va_get (D := (dC, dI)) (ci := 6) (v := .ref r2) (C := RX6) (T := TX6) (N := 10) hx hb hts hiX6 hown hK hP 0 rfl rfl 2 (by decide) v_2 (fun _ h9 => h9) rfl eX6_findsLeast_63 ?_
            refine lv_aload_n hx hb eX6_findsLeast_66 rfl (lv_at hl 0 rfl) ?_
            refine va_get (D := (dC, dI)) (ci := 6) (v := .ref r4) (C := RX6) (T := TX6) (N := 10) hx hb hts hiX6 hown hK hP 0 rfl rfl 4 (by decide) v_4 (fun _ h9 => h9) rfl eX6_findsLeast_67 ?_
            refine lv_iload_n hx hb eX6_findsLeast_70 rfl (lv_at hl 3 rfl) ?_
            refine va_iald hx hb hK hP 4 3 rfl rfl (vp_in_nI (n := g_28) (by omega) (Nat.le_of_ble_eq_true rfl)) eX6_findsLeast_71 ?_
            refine lv_topi (fun y_31 ey_31 => ?_)
            obtain ⟨u_32, hu_32, qu_32⟩ := bN_get 120 q_j4 (((nI g_28) : Int32).toNatClampNeg)
            obtain rfl : y_31 = nI u_32 := ey_31.trans qu_32
            refine va_iald hx hb hK hP 2 1 rfl rfl (vp_in_nI (n := u_32) (Nat.lt_of_le_of_lt hu_32 (Nat.le_of_ble_eq_true rfl)) (Nat.le_of_ble_eq_true rfl)) eX6_findsLeast_72 ?_
            refine lv_topi (fun y_33 ey_33 => ?_)
            refine lv_aload_n hx hb eX6_findsLeast_73 rfl (lv_at hl 0 rfl) ?_
            refine va_get (D := (dC, dI)) (ci := 6) (v := .ref r5) (C := RX6) (T := TX6) (N := 10) hx hb hts hiX6 hown hK hP 0 rfl rfl 5 (by decide) v_5 (fun _ h9 => h9) rfl eX6_findsLeast_74 ?_
            refine lv_iload_n hx hb eX6_findsLeast_77 rfl (lv_at hl 3 rfl) ?_
            refine va_iald hx hb hK hP 5 4 rfl rfl (vp_in_nI (n := g_28) (by omega) (Nat.le_of_ble_eq_true rfl)) eX6_findsLeast_78 ?_
            refine lv_topi (fun y_34 ey_34 => ?_)
            refine lv_iadd hx hb eX6_findsLeast_79 ?_
            refine lv_topi (fun y_35 ey_35 => ?_)
            refine lv_istore (lv' := [(4, .int y_35), (0, .ref ti), (1, .int g_27), (2, .int (nI g_12)), (3, .int (nI g_28))]) hx hb eX6_findsLeast_80 hl (by decide) rfl (fun ls hl => ?_)
            refine lv_iload hx hb eX6_findsLeast_82 (lv_at hl 0 rfl) ?_
            refine lv_aload_n hx hb eX6_findsLeast_84 rfl (lv_at hl 1 rfl) ?_
            refine va_get (D := (dC, dI)) (ci := 6) (v := .ref r2) (C := RX6) (T := TX6) (N := 10) hx hb hts hiX6 hown hK hP 0 rfl rfl 2 (by decide) v_2 (fun _ h9 => h9) rfl eX6_findsLeast_85 ?_
            refine lv_aload_n hx hb eX6_findsLeast_88 rfl (lv_at hl 1 rfl) ?_
            refine va_get (D := (dC, dI)) (ci := 6) (v := .ref r3) (C := RX6) (T := TX6) (N := 10) hx hb hts hiX6 hown hK hP 0 rfl rfl 3 (by decide) v_6 (fun _ h9 => h9) rfl eX6_findsLeast_89 ?_
            refine lv_iload_n hx hb eX6_findsLeast_92 rfl (lv_at hl 4 rfl) ?_
            refine va_iald hx hb hK hP 3 2 rfl rfl (vp_in_nI (n := g_28) (by omega) (Nat.le_of_ble_eq_true rfl)) eX6_findsLeast_93 ?_
            refine lv_topi (fun y_36 ey_36 => ?_)
            obtain ⟨u_37, hu_37, qu_37⟩ := bN_get 120 q_j3 (((nI g_28) : Int32).toNatClampNeg)
            obtain rfl : y_36 = nI u_37 := ey_36.trans qu_37
            refine va_iald hx hb hK hP 2 1 rfl rfl (vp_in_nI (n := u_37) (Nat.lt_of_le_of_lt hu_37 (Nat.le_of_ble_eq_true rfl)) (Nat.le_of_ble_eq_true rfl)) eX6_findsLeast_94 ?_
            refine lv_topi (fun y_38 ey_38 => ?_)
            refine pu_join (fun H locs ls st => ∃ (g_39 : Int32) (g_40 : Nat → Int32), st = [] ∧ va_P (dC, dI) vwCl (ti__w ti r0 (nI ln) r2 r3 r4 r5 (nI nr) r7 r8 tz k_j0 (bN 13 q_j0) k_j2 g_40 k_j3 (bN 120 q_j3) k_j4 (bN 120 q_j4) k_j5 j5 k_j7 (bN 120 q_j7) k_j8 j8) H ∧ va_D A (ti__w ti r0 (nI ln) r2 r3 r4 r5 (nI nr) r7 r8 tz k_j0 (bN 13 q_j0) k_j2 g_40 k_j3 (bN 120 q_j3) k_j4 (bN 120 q_j4) k_j5 j5 k_j7 (bN 120 q_j7) k_j8 j8) ∧ va_S A s.heap H locs ∧ lv_has ls 5 [(0, .ref ti), (1, .int g_39), (2, .int (nI g_12)), (3, .int (nI g_28)), (4, .int y_35)]) 113 ?_ (fun j_41 => ?_)
            · rintro H locs ls st ⟨g_39, g_40, rfl, hP, hD, hS, hl⟩
              refine lv_iinc (v := (nI (g_28 + 1))) (lv' := [(3, .int (nI (g_28 + 1))), (0, .ref ti), (1, .int g_39), (2, .int (nI g_12)), (4, .int y_35)]) hx hb eX6_findsLeast_113 hl (k := 3) rfl (nI_1 _) (by decide) rfl (fun ls hl => ?_)
              refine lv_goto (tgt := 54) hx hb eX6_findsLeast_116 (by decide) ?_
              exact ih_29 (1920 - (g_28 + 1)) (by omega) _ _ _ ⟨g_40, g_39, (g_28 + 1), rfl, (by omega), hP, hD, hS, lv_sub hl [1, 2, 3, 0] rfl⟩
            refine lv_icmp_le (tgt := 113) hx hb eX6_findsLeast_95 (by decide) (fun c_42 => ?_) (fun c_42 => ?_)
            · exact j_41 _ _ _ _ ⟨g_27, g_26, rfl, hP, hD, hS, lv_sub hl [1, 2, 3, 4, 0] rfl⟩
            · refine lv_aload_n hx hb eX6_findsLeast_98 rfl (lv_at hl 1 rfl) ?_
              refine va_get (D := (dC, dI)) (ci := 6) (v := .ref r2) (C := RX6) (T := TX6) (N := 10) hx hb hts hiX6 hown hK hP 0 rfl rfl 2 (by decide) v_2 (fun _ h9 => h9) rfl eX6_findsLeast_99 ?_
              refine lv_aload_n hx hb eX6_findsLeast_102 rfl (lv_at hl 1 rfl) ?_
              refine va_get (D := (dC, dI)) (ci := 6) (v := .ref r3) (C := RX6) (T := TX6) (N := 10) hx hb hts hiX6 hown hK hP 0 rfl rfl 3 (by decide) v_6 (fun _ h9 => h9) rfl eX6_findsLeast_103 ?_
              refine lv_iload_n hx hb eX6_findsLeast_106 rfl (lv_at hl 4 rfl) ?_
              refine va_iald hx hb hK hP 3 2 rfl rfl (vp_in_nI (n := g_28) (by omega) (Nat.le_of_ble_eq_true rfl)) eX6_findsLeast_107 ?_
              refine lv_topi (fun y_43 ey_43 => ?_)
              obtain rfl : y_43 = nI u_37 := ey_43.trans qu_37
              refine lv_iload hx hb eX6_findsLeast_108 (lv_at hl 0 rfl) ?_
              refine va_iast hx hb hK hP hD hS 2 1 rfl rfl (vp_in_nI (n := u_37) (Nat.lt_of_le_of_lt hu_37 (Nat.le_of_ble_eq_true rfl)) (Nat.le_of_ble_eq_true rfl)) eX6_findsLeast_110 (fun H locs hP hD hS => ?_)
              have hP : va_P (dC, dI) vwCl (ti__w ti r0 (nI ln) r2 r3 r4 r5 (nI nr) r7 r8 tz k_j0 (bN 13 q_j0) k_j2 (upd g_26 ((nI u_37) : Int32).toNatClampNeg y_35) k_j3 (bN 120 q_j3) k_j4 (bN 120 q_j4) k_j5 j5 k_j7 (bN 120 q_j7) k_j8 j8) H := hP
              have hD : va_D A (ti__w ti r0 (nI ln) r2 r3 r4 r5 (nI nr) r7 r8 tz k_j0 (bN 13 q_j0) k_j2 (upd g_26 ((nI u_37) : Int32).toNatClampNeg y_35) k_j3 (bN 120 q_j3) k_j4 (bN 120 q_j4) k_j5 j5 k_j7 (bN 120 q_j7) k_j8 j8) := hD
              refine lv_iconst (v := 1) hx hb eX6_findsLeast_111 (by decide) ?_
              refine lv_istore_n (lv' := [(1, .int 1), (4, .int y_35), (0, .ref ti), (2, .int (nI g_12)), (3, .int (nI g_28))]) hx hb eX6_findsLeast_112 rfl hl (by decide) rfl (fun ls hl => ?_)
              exact j_41 _ _ _ _ ⟨1, (upd g_26 ((nI u_37) : Int32).toNatClampNeg y_35), rfl, hP, hD, hS, lv_sub hl [2, 0, 3, 4, 1] rfl⟩
  · have c_6 : ¬ ln < g_4 := fun z => c_6 ((nI_ltI (a := ln) (b := g_4) (Nat.lt_of_le_of_lt hln (Nat.le_of_ble_eq_true rfl)) (Nat.lt_of_le_of_lt hg_4 (Nat.le_of_ble_eq_true rfl))).mpr z)
    refine lv_aload_n hx hb eX6_findsLeast_10 rfl (lv_at hl 0 rfl) ?_
    refine va_get (D := (dC, dI)) (ci := 6) (v := .ref r2) (C := RX6) (T := TX6) (N := 10) hx hb hts hiX6 hown hK hP 0 rfl rfl 2 (by decide) v_2 (fun _ h9 => h9) rfl eX6_findsLeast_11 ?_
    refine lv_iload_n hx hb eX6_findsLeast_14 rfl (lv_at hl 1 rfl) ?_
    refine lv_iconst (v := 0) hx hb eX6_findsLeast_15 (by decide) ?_
    refine va_iast hx hb hK hP hD hS 2 1 rfl rfl (vp_in_nI (n := g_4) (Nat.lt_of_le_of_lt hg_4 (Nat.le_of_ble_eq_true rfl)) (Nat.le_of_ble_eq_true rfl)) eX6_findsLeast_16 (fun H locs hP hD hS => ?_)
    have hP : va_P (dC, dI) vwCl (ti__w ti r0 (nI ln) r2 r3 r4 r5 (nI nr) r7 r8 tz k_j0 (bN 13 q_j0) k_j2 (upd g_3 ((nI g_4) : Int32).toNatClampNeg 0) k_j3 (bN 120 q_j3) k_j4 (bN 120 q_j4) k_j5 j5 k_j7 (bN 120 q_j7) k_j8 j8) H := hP
    have hD : va_D A (ti__w ti r0 (nI ln) r2 r3 r4 r5 (nI nr) r7 r8 tz k_j0 (bN 13 q_j0) k_j2 (upd g_3 ((nI g_4) : Int32).toNatClampNeg 0) k_j3 (bN 120 q_j3) k_j4 (bN 120 q_j4) k_j5 j5 k_j7 (bN 120 q_j7) k_j8 j8) := hD
    refine lv_iinc (v := (nI (g_4 + 1))) (lv' := [(1, .int (nI (g_4 + 1))), (0, .ref ti)]) hx hb eX6_findsLeast_17 hl (k := 1) rfl (nI_1 _) (by decide) rfl (fun ls hl => ?_)
    refine lv_goto (tgt := 2) hx hb eX6_findsLeast_20 (by decide) ?_
    exact ih_5 (120 - (g_4 + 1)) (by omega) _ _ _ ⟨(upd g_3 ((nI g_4) : Int32).toNatClampNeg 0), (g_4 + 1), rfl, (by omega), hP, hD, hS, lv_sub hl [1, 0] rfl⟩
theorem eX6_findsGreatest_0 : decode cX6_findsGreatest 0 = .ok (.aload_n 0, 1) := by decide +kernel
theorem eX6_findsGreatest_1 : decode cX6_findsGreatest 1 = .ok (.getfield 15, 3) := by decide +kernel
theorem eX6_findsGreatest_4 : decode cX6_findsGreatest 4 = .ok (.iconst 0, 1) := by decide +kernel
theorem eX6_findsGreatest_5 : decode cX6_findsGreatest 5 = .ok (.iconst 0, 1) := by decide +kernel
theorem eX6_findsGreatest_6 : decode cX6_findsGreatest 6 = .ok (.iastore, 1) := by decide +kernel
theorem eX6_findsGreatest_7 : decode cX6_findsGreatest 7 = .ok (.iconst 1, 1) := by decide +kernel
theorem eX6_findsGreatest_8 : decode cX6_findsGreatest 8 = .ok (.istore_n 2, 1) := by decide +kernel
theorem eX6_findsGreatest_9 : decode cX6_findsGreatest 9 = .ok (.iload_n 2, 1) := by decide +kernel
theorem eX6_findsGreatest_10 : decode cX6_findsGreatest 10 = .ok (.aload_n 0, 1) := by decide +kernel
theorem eX6_findsGreatest_11 : decode cX6_findsGreatest 11 = .ok (.getfield 47, 3) := by decide +kernel
theorem eX6_findsGreatest_14 : decode cX6_findsGreatest 14 = .ok (.if_icmp .gt 16, 3) := by decide +kernel
theorem eX6_findsGreatest_17 : decode cX6_findsGreatest 17 = .ok (.aload_n 0, 1) := by decide +kernel
theorem eX6_findsGreatest_18 : decode cX6_findsGreatest 18 = .ok (.getfield 15, 3) := by decide +kernel
theorem eX6_findsGreatest_21 : decode cX6_findsGreatest 21 = .ok (.iload_n 2, 1) := by decide +kernel
theorem eX6_findsGreatest_22 : decode cX6_findsGreatest 22 = .ok (.iload_n 1, 1) := by decide +kernel
theorem eX6_findsGreatest_23 : decode cX6_findsGreatest 23 = .ok (.iastore, 1) := by decide +kernel
theorem eX6_findsGreatest_24 : decode cX6_findsGreatest 24 = .ok (.iinc 2 1, 3) := by decide +kernel
theorem eX6_findsGreatest_27 : decode cX6_findsGreatest 27 = .ok (.goto (-18), 3) := by decide +kernel
theorem eX6_findsGreatest_30 : decode cX6_findsGreatest 30 = .ok (.iconst 1, 1) := by decide +kernel
theorem eX6_findsGreatest_31 : decode cX6_findsGreatest 31 = .ok (.istore_n 2, 1) := by decide +kernel
theorem eX6_findsGreatest_32 : decode cX6_findsGreatest 32 = .ok (.iconst 0, 1) := by decide +kernel
theorem eX6_findsGreatest_33 : decode cX6_findsGreatest 33 = .ok (.istore_n 3, 1) := by decide +kernel
theorem eX6_findsGreatest_34 : decode cX6_findsGreatest 34 = .ok (.iload_n 3, 1) := by decide +kernel
theorem eX6_findsGreatest_35 : decode cX6_findsGreatest 35 = .ok (.aload_n 0, 1) := by decide +kernel
theorem eX6_findsGreatest_36 : decode cX6_findsGreatest 36 = .ok (.getfield 47, 3) := by decide +kernel
theorem eX6_findsGreatest_39 : decode cX6_findsGreatest 39 = .ok (.iconst 1, 1) := by decide +kernel
theorem eX6_findsGreatest_40 : decode cX6_findsGreatest 40 = .ok (.iadd, 1) := by decide +kernel
theorem eX6_findsGreatest_41 : decode cX6_findsGreatest 41 = .ok (.if_icmp .gt 97, 3) := by decide +kernel
theorem eX6_findsGreatest_44 : decode cX6_findsGreatest 44 = .ok (.iload_n 2, 1) := by decide +kernel
theorem eX6_findsGreatest_45 : decode cX6_findsGreatest 45 = .ok (.ifCond .eq 93, 3) := by decide +kernel
theorem eX6_findsGreatest_48 : decode cX6_findsGreatest 48 = .ok (.aload_n 0, 1) := by decide +kernel
theorem eX6_findsGreatest_49 : decode cX6_findsGreatest 49 = .ok (.getfield 15, 3) := by decide +kernel
theorem eX6_findsGreatest_52 : decode cX6_findsGreatest 52 = .ok (.iconst 0, 1) := by decide +kernel
theorem eX6_findsGreatest_53 : decode cX6_findsGreatest 53 = .ok (.iaload, 1) := by decide +kernel
theorem eX6_findsGreatest_54 : decode cX6_findsGreatest 54 = .ok (.ifCond .ne 84, 3) := by decide +kernel
theorem eX6_findsGreatest_57 : decode cX6_findsGreatest 57 = .ok (.iconst 0, 1) := by decide +kernel
theorem eX6_findsGreatest_58 : decode cX6_findsGreatest 58 = .ok (.istore_n 2, 1) := by decide +kernel
theorem eX6_findsGreatest_59 : decode cX6_findsGreatest 59 = .ok (.iconst 0, 1) := by decide +kernel
theorem eX6_findsGreatest_60 : decode cX6_findsGreatest 60 = .ok (.istore 4, 2) := by decide +kernel
theorem eX6_findsGreatest_62 : decode cX6_findsGreatest 62 = .ok (.iload 4, 2) := by decide +kernel
theorem eX6_findsGreatest_64 : decode cX6_findsGreatest 64 = .ok (.aload_n 0, 1) := by decide +kernel
theorem eX6_findsGreatest_65 : decode cX6_findsGreatest 65 = .ok (.getfield 57, 3) := by decide +kernel
theorem eX6_findsGreatest_68 : decode cX6_findsGreatest 68 = .ok (.if_icmp .ge 64, 3) := by decide +kernel
theorem eX6_findsGreatest_71 : decode cX6_findsGreatest 71 = .ok (.aload_n 0, 1) := by decide +kernel
theorem eX6_findsGreatest_72 : decode cX6_findsGreatest 72 = .ok (.getfield 15, 3) := by decide +kernel
theorem eX6_findsGreatest_75 : decode cX6_findsGreatest 75 = .ok (.aload_n 0, 1) := by decide +kernel
theorem eX6_findsGreatest_76 : decode cX6_findsGreatest 76 = .ok (.getfield 18, 3) := by decide +kernel
theorem eX6_findsGreatest_79 : decode cX6_findsGreatest 79 = .ok (.iload 4, 2) := by decide +kernel
theorem eX6_findsGreatest_81 : decode cX6_findsGreatest 81 = .ok (.iaload, 1) := by decide +kernel
theorem eX6_findsGreatest_82 : decode cX6_findsGreatest 82 = .ok (.iaload, 1) := by decide +kernel
theorem eX6_findsGreatest_83 : decode cX6_findsGreatest 83 = .ok (.aload_n 0, 1) := by decide +kernel
theorem eX6_findsGreatest_84 : decode cX6_findsGreatest 84 = .ok (.getfield 24, 3) := by decide +kernel
theorem eX6_findsGreatest_87 : decode cX6_findsGreatest 87 = .ok (.iload 4, 2) := by decide +kernel
theorem eX6_findsGreatest_89 : decode cX6_findsGreatest 89 = .ok (.iaload, 1) := by decide +kernel
theorem eX6_findsGreatest_90 : decode cX6_findsGreatest 90 = .ok (.isub, 1) := by decide +kernel
theorem eX6_findsGreatest_91 : decode cX6_findsGreatest 91 = .ok (.istore 5, 2) := by decide +kernel
theorem eX6_findsGreatest_93 : decode cX6_findsGreatest 93 = .ok (.iload 5, 2) := by decide +kernel
theorem eX6_findsGreatest_95 : decode cX6_findsGreatest 95 = .ok (.aload_n 0, 1) := by decide +kernel
theorem eX6_findsGreatest_96 : decode cX6_findsGreatest 96 = .ok (.getfield 15, 3) := by decide +kernel
theorem eX6_findsGreatest_99 : decode cX6_findsGreatest 99 = .ok (.aload_n 0, 1) := by decide +kernel
theorem eX6_findsGreatest_100 : decode cX6_findsGreatest 100 = .ok (.getfield 21, 3) := by decide +kernel
theorem eX6_findsGreatest_103 : decode cX6_findsGreatest 103 = .ok (.iload 4, 2) := by decide +kernel
theorem eX6_findsGreatest_105 : decode cX6_findsGreatest 105 = .ok (.iaload, 1) := by decide +kernel
theorem eX6_findsGreatest_106 : decode cX6_findsGreatest 106 = .ok (.iaload, 1) := by decide +kernel
theorem eX6_findsGreatest_107 : decode cX6_findsGreatest 107 = .ok (.if_icmp .ge 19, 3) := by decide +kernel
theorem eX6_findsGreatest_110 : decode cX6_findsGreatest 110 = .ok (.aload_n 0, 1) := by decide +kernel
theorem eX6_findsGreatest_111 : decode cX6_findsGreatest 111 = .ok (.getfield 15, 3) := by decide +kernel
theorem eX6_findsGreatest_114 : decode cX6_findsGreatest 114 = .ok (.aload_n 0, 1) := by decide +kernel
theorem eX6_findsGreatest_115 : decode cX6_findsGreatest 115 = .ok (.getfield 21, 3) := by decide +kernel
theorem eX6_findsGreatest_118 : decode cX6_findsGreatest 118 = .ok (.iload 4, 2) := by decide +kernel
theorem eX6_findsGreatest_120 : decode cX6_findsGreatest 120 = .ok (.iaload, 1) := by decide +kernel
theorem eX6_findsGreatest_121 : decode cX6_findsGreatest 121 = .ok (.iload 5, 2) := by decide +kernel
theorem eX6_findsGreatest_123 : decode cX6_findsGreatest 123 = .ok (.iastore, 1) := by decide +kernel
theorem eX6_findsGreatest_124 : decode cX6_findsGreatest 124 = .ok (.iconst 1, 1) := by decide +kernel
theorem eX6_findsGreatest_125 : decode cX6_findsGreatest 125 = .ok (.istore_n 2, 1) := by decide +kernel
theorem eX6_findsGreatest_126 : decode cX6_findsGreatest 126 = .ok (.iinc 4 1, 3) := by decide +kernel
theorem eX6_findsGreatest_129 : decode cX6_findsGreatest 129 = .ok (.goto (-67), 3) := by decide +kernel
theorem eX6_findsGreatest_132 : decode cX6_findsGreatest 132 = .ok (.iinc 3 1, 3) := by decide +kernel
theorem eX6_findsGreatest_135 : decode cX6_findsGreatest 135 = .ok (.goto (-101), 3) := by decide +kernel
theorem eX6_findsGreatest_138 : decode cX6_findsGreatest 138 = .ok (.iload_n 2, 1) := by decide +kernel
theorem eX6_findsGreatest_139 : decode cX6_findsGreatest 139 = .ok (.ifCond .ne 16, 3) := by decide +kernel
theorem eX6_findsGreatest_142 : decode cX6_findsGreatest 142 = .ok (.aload_n 0, 1) := by decide +kernel
theorem eX6_findsGreatest_143 : decode cX6_findsGreatest 143 = .ok (.getfield 15, 3) := by decide +kernel
theorem eX6_findsGreatest_146 : decode cX6_findsGreatest 146 = .ok (.iconst 0, 1) := by decide +kernel
theorem eX6_findsGreatest_147 : decode cX6_findsGreatest 147 = .ok (.iaload, 1) := by decide +kernel
theorem eX6_findsGreatest_148 : decode cX6_findsGreatest 148 = .ok (.ifCond .ne 7, 3) := by decide +kernel
theorem eX6_findsGreatest_151 : decode cX6_findsGreatest 151 = .ok (.iconst 1, 1) := by decide +kernel
theorem eX6_findsGreatest_152 : decode cX6_findsGreatest 152 = .ok (.goto 4, 3) := by decide +kernel
theorem eX6_findsGreatest_155 : decode cX6_findsGreatest 155 = .ok (.iconst 0, 1) := by decide +kernel
theorem eX6_findsGreatest_156 : decode cX6_findsGreatest 156 = .ok (.ireturn, 1) := by decide +kernel
abbrev vs_C_6_findsGreatest : List Cond := .code yX6_findsGreatest cX6_findsGreatest 6 (some .boolean) :: CM
set_option maxHeartbeats 4000000 in
set_option maxRecDepth 100000 in
theorem c_C_6_findsGreatest (l : Launch) (dC : Nat → ClassId) (dI : Nat → Nat → Nat) (sz : Nat) (ti : Nat) (r0 : Nat) (ln : Nat) (r2 : Nat) (r3 : Nat) (r4 : Nat) (r5 : Nat) (nr : Nat) (r7 : Nat) (r8 : Nat) (tz : Nat) (k_j0 : ClassId) (q_j0 : Nat → Nat) (k_j2 : ClassId) (j2 : Nat → Int32) (k_j3 : ClassId) (q_j3 : Nat → Nat) (k_j4 : ClassId) (q_j4 : Nat → Nat) (k_j5 : ClassId) (j5 : Nat → Int32) (k_j7 : ClassId) (q_j7 : Nat → Nat) (k_j8 : ClassId) (j8 : Nat → Int32) (p0 : Int32) (hln : ln ≤ 119) (hnr : nr ≤ 1920) : Met l yX6_findsGreatest vs_C_6_findsGreatest ({ frames := 0, cells := 0, slots := 0, locals := 0 }) (va_Pc [.ref ti, .int p0] (pu_B (dC, dI) (ti__w ti r0 (nI ln) r2 r3 r4 r5 (nI nr) r7 r8 tz k_j0 (bN 13 q_j0) k_j2 j2 k_j3 (bN 120 q_j3) k_j4 (bN 120 q_j4) k_j5 j5 k_j7 (bN 120 q_j7) k_j8 j8) (ti__t k_j0 k_j2 k_j3 k_j4 k_j5 k_j7 k_j8) sz)) (va_Qi (fun (r : Int32) (_ : Unit) => ∃ v : Nat, v ≤ 1 ∧ r = nI v) (fun _ t => ∃ (z_j2 : Nat → Int32), pu_E (dC, dI) (ti__w ti r0 (nI ln) r2 r3 r4 r5 (nI nr) r7 r8 tz k_j0 (bN 13 q_j0) k_j2 z_j2 k_j3 (bN 120 q_j3) k_j4 (bN 120 q_j4) k_j5 j5 k_j7 (bN 120 q_j7) k_j8 j8) (ti__t k_j0 k_j2 k_j3 k_j4 k_j5 k_j7 k_j8) (va_A ((ti__w ti r0 (nI ln) r2 r3 r4 r5 (nI nr) r7 r8 tz k_j0 (bN 13 q_j0) k_j2 j2 k_j3 (bN 120 q_j3) k_j4 (bN 120 q_j4) k_j5 j5 k_j7 (bN 120 q_j7) k_j8 j8)) sz) t) (va_A ((ti__w ti r0 (nI ln) r2 r3 r4 r5 (nI nr) r7 r8 tz k_j0 (bN 13 q_j0) k_j2 j2 k_j3 (bN 120 q_j3) k_j4 (bN 120 q_j4) k_j5 j5 k_j7 (bN 120 q_j7) k_j8 j8)) sz)) 0 0 (va_A ((ti__w ti r0 (nI ln) r2 r3 r4 r5 (nI nr) r7 r8 tz k_j0 (bN 13 q_j0) k_j2 j2 k_j3 (bN 120 q_j3) k_j4 (bN 120 q_j4) k_j5 j5 k_j7 (bN 120 q_j7) k_j8 j8)) sz) := by
  refine Met.ofW (cc := cX6_findsGreatest) (maxL := 6) (ret := (some .boolean)) (by decide) rfl ?_
  intro p e s m args below meth c s₁ B hml hv
  obtain ⟨rfl, rfl, hP, hK, hD0⟩ := hv
  have hx := B.exec
  have hb := B.bytes
  have hr := B.returns
  have hts := atoms_spec (ws := vs_C_6_findsGreatest) B.pre
  have v_1 := hts (.fieldLink RX6 15 "ClockReach$Timing" "at" "[I") (List.mem_cons_of_mem _ cm_400)
  have v_2 := hts (.fieldLink RX6 47 "ClockReach$Timing" "length" "I") (List.mem_cons_of_mem _ cm_366)
  have v_3 := hts (.fieldLink RX6 57 "ClockReach$Timing" "rules" "I") (List.mem_cons_of_mem _ cm_371)
  have v_4 := hts (.fieldLink RX6 18 "ClockReach$Timing" "laters" "[I") (List.mem_cons_of_mem _ cm_396)
  have v_5 := hts (.fieldLink RX6 24 "ClockReach$Timing" "gaps" "[I") (List.mem_cons_of_mem _ cm_398)
  have v_6 := hts (.fieldLink RX6 21 "ClockReach$Timing" "earliers" "[I") (List.mem_cons_of_mem _ cm_397)
  have hown : s.vm.findClass RX6 = some m.cls := findClass_of_methodNamed B.named
  have hlocks := B.notSynchronized
  have hiX6 : ∀ w ∈ wsX60, w ∈ vs_C_6_findsGreatest := fun _ h => List.mem_cons_of_mem _ (cm_X6 h)
  have hD := hD0.self (sz := s.heap.size)
  generalize hAe : va_A ((ti__w ti r0 (nI ln) r2 r3 r4 r5 (nI nr) r7 r8 tz k_j0 (bN 13 q_j0) k_j2 j2 k_j3 (bN 120 q_j3) k_j4 (bN 120 q_j4) k_j5 j5 k_j7 (bN 120 q_j7) k_j8 j8)) s.heap.size = A at hD ⊢
  have hA : ∀ q : Nat, s.heap.size ≤ q → A q := fun q h => by rw [← hAe]; exact Or.inr h
  have hS : va_S A s.heap s.heap [] := va_S.rf
  have hl := lv_entry ([.ref ti, .int p0]) (n := 6) (Nat.le_of_ble_eq_true rfl)
  rw [lg_entry_eq]
  generalize (lg_sl ([.ref ti, .int p0]) ++ List.replicate (6 - (lg_sl ([.ref ti, .int p0])).length) Slot.unset).toArray = ls at hl ⊢
  have hl : lv_has ls 6 [(0, .ref ti), (1, .int p0)] := hl
  refine lv_aload_n hx hb eX6_findsGreatest_0 rfl (lv_at hl 0 rfl) ?_
  refine va_get (D := (dC, dI)) (ci := 6) (v := .ref r2) (C := RX6) (T := TX6) (N := 10) hx hb hts hiX6 hown hK hP 0 rfl rfl 2 (by decide) v_1 (fun _ h9 => h9) rfl eX6_findsGreatest_1 ?_
  refine lv_iconst (v := 0) hx hb eX6_findsGreatest_4 (by decide) ?_
  refine lv_iconst (v := 0) hx hb eX6_findsGreatest_5 (by decide) ?_
  refine va_iast hx hb hK hP hD hS 2 1 rfl rfl (vp_in_nI (n := 0) (Nat.le_of_ble_eq_true rfl) (Nat.le_of_ble_eq_true rfl)) eX6_findsGreatest_6 (fun H locs hP hD hS => ?_)
  have hP : va_P (dC, dI) vwCl (ti__w ti r0 (nI ln) r2 r3 r4 r5 (nI nr) r7 r8 tz k_j0 (bN 13 q_j0) k_j2 (upd j2 (0 : Int32).toNatClampNeg 0) k_j3 (bN 120 q_j3) k_j4 (bN 120 q_j4) k_j5 j5 k_j7 (bN 120 q_j7) k_j8 j8) H := hP
  have hD : va_D A (ti__w ti r0 (nI ln) r2 r3 r4 r5 (nI nr) r7 r8 tz k_j0 (bN 13 q_j0) k_j2 (upd j2 (0 : Int32).toNatClampNeg 0) k_j3 (bN 120 q_j3) k_j4 (bN 120 q_j4) k_j5 j5 k_j7 (bN 120 q_j7) k_j8 j8) := hD
  refine lv_iconst (v := 1) hx hb eX6_findsGreatest_7 (by decide) ?_
  refine lv_istore_n (lv' := [(2, .int 1), (0, .ref ti), (1, .int p0)]) hx hb eX6_findsGreatest_8 rfl hl (by decide) rfl (fun ls hl => ?_)
  refine pu_while (fun nn H locs ls => ∃ (g_3 : Nat → Int32) (g_4 : Nat), nn = 120 - g_4 ∧ (1 ≤ g_4 ∧ g_4 ≤ 120) ∧ va_P (dC, dI) vwCl (ti__w ti r0 (nI ln) r2 r3 r4 r5 (nI nr) r7 r8 tz k_j0 (bN 13 q_j0) k_j2 g_3 k_j3 (bN 120 q_j3) k_j4 (bN 120 q_j4) k_j5 j5 k_j7 (bN 120 q_j7) k_j8 j8) H ∧ va_D A (ti__w ti r0 (nI ln) r2 r3 r4 r5 (nI nr) r7 r8 tz k_j0 (bN 13 q_j0) k_j2 g_3 k_j3 (bN 120 q_j3) k_j4 (bN 120 q_j4) k_j5 j5 k_j7 (bN 120 q_j7) k_j8 j8) ∧ va_S A s.heap H locs ∧ lv_has ls 6 [(0, .ref ti), (1, .int p0), (2, .int (nI g_4))]) 9 ?_ _ _ _ _ ⟨(upd j2 (0 : Int32).toNatClampNeg 0), 1, rfl, ⟨by omega, by omega⟩, hP, hD, hS, lv_sub hl [1, 2, 0] rfl⟩
  rintro nn ih_5 H locs ls ⟨g_3, g_4, rfl, hg_4, hP, hD, hS, hl⟩
  refine lv_iload_n hx hb eX6_findsGreatest_9 rfl (lv_at hl 2 rfl) ?_
  refine lv_aload_n hx hb eX6_findsGreatest_10 rfl (lv_at hl 0 rfl) ?_
  refine va_get (D := (dC, dI)) (ci := 6) (v := .int (nI ln)) (C := RX6) (T := TX6) (N := 10) hx hb hts hiX6 hown hK hP 0 rfl rfl 1 (by decide) v_2 (fun _ h9 => h9) rfl eX6_findsGreatest_11 ?_
  refine lv_icmp_gt (tgt := 30) hx hb eX6_findsGreatest_14 (by decide) (fun c_6 => ?_) (fun c_6 => ?_)
  · have c_6 : ln < g_4 := (nI_ltI (a := ln) (b := g_4) (Nat.lt_of_le_of_lt hln (Nat.le_of_ble_eq_true rfl)) (Nat.lt_of_le_of_lt hg_4.2 (Nat.le_of_ble_eq_true rfl))).mp c_6
    refine lv_iconst (v := 1) hx hb eX6_findsGreatest_30 (by decide) ?_
    refine lv_istore_n (lv' := [(2, .int 1), (0, .ref ti), (1, .int p0)]) hx hb eX6_findsGreatest_31 rfl hl (by decide) rfl (fun ls hl => ?_)
    refine lv_iconst (v := 0) hx hb eX6_findsGreatest_32 (by decide) ?_
    refine lv_istore_n (lv' := [(3, .int 0), (2, .int 1), (0, .ref ti), (1, .int p0)]) hx hb eX6_findsGreatest_33 rfl hl (by decide) rfl (fun ls hl => ?_)
    refine pu_while (fun nn H locs ls => ∃ (g_10 : Nat → Int32) (g_11 : Int32) (g_12 : Nat), nn = 121 - g_12 ∧ g_12 ≤ 121 ∧ va_P (dC, dI) vwCl (ti__w ti r0 (nI ln) r2 r3 r4 r5 (nI nr) r7 r8 tz k_j0 (bN 13 q_j0) k_j2 g_10 k_j3 (bN 120 q_j3) k_j4 (bN 120 q_j4) k_j5 j5 k_j7 (bN 120 q_j7) k_j8 j8) H ∧ va_D A (ti__w ti r0 (nI ln) r2 r3 r4 r5 (nI nr) r7 r8 tz k_j0 (bN 13 q_j0) k_j2 g_10 k_j3 (bN 120 q_j3) k_j4 (bN 120 q_j4) k_j5 j5 k_j7 (bN 120 q_j7) k_j8 j8) ∧ va_S A s.heap H locs ∧ lv_has ls 6 [(0, .ref ti), (1, .int p0), (2, .int g_11), (3, .int (nI g_12))]) 34 ?_ _ _ _ _ ⟨g_3, 1, 0, rfl, (Nat.le_of_ble_eq_true rfl), hP, hD, hS, lv_sub hl [2, 3, 1, 0] rfl⟩
    rintro nn ih_13 H locs ls ⟨g_10, g_11, g_12, rfl, hg_12, hP, hD, hS, hl⟩
    refine lv_iload_n hx hb eX6_findsGreatest_34 rfl (lv_at hl 3 rfl) ?_
    refine lv_aload_n hx hb eX6_findsGreatest_35 rfl (lv_at hl 0 rfl) ?_
    refine va_get (D := (dC, dI)) (ci := 6) (v := .int (nI ln)) (C := RX6) (T := TX6) (N := 10) hx hb hts hiX6 hown hK hP 0 rfl rfl 1 (by decide) v_2 (fun _ h9 => h9) rfl eX6_findsGreatest_36 ?_
    refine lv_iconst (v := 1) hx hb eX6_findsGreatest_39 (by decide) ?_
    refine lv_iadd hx hb eX6_findsGreatest_40 ?_
    refine lv_topi (fun y_14 ey_14 => ?_)
    obtain rfl : y_14 = (nI (ln + 1)) := ey_14.trans (nI_add ln 1)
    refine pu_join (fun H locs ls st => st = [] ∧ va_P (dC, dI) vwCl (ti__w ti r0 (nI ln) r2 r3 r4 r5 (nI nr) r7 r8 tz k_j0 (bN 13 q_j0) k_j2 g_10 k_j3 (bN 120 q_j3) k_j4 (bN 120 q_j4) k_j5 j5 k_j7 (bN 120 q_j7) k_j8 j8) H ∧ va_D A (ti__w ti r0 (nI ln) r2 r3 r4 r5 (nI nr) r7 r8 tz k_j0 (bN 13 q_j0) k_j2 g_10 k_j3 (bN 120 q_j3) k_j4 (bN 120 q_j4) k_j5 j5 k_j7 (bN 120 q_j7) k_j8 j8) ∧ va_S A s.heap H locs ∧ lv_has ls 6 [(0, .ref ti), (1, .int p0), (2, .int g_11), (3, .int (nI g_12))]) 138 ?_ (fun j_15 => ?_)
    · rintro H locs ls st ⟨rfl, hP, hD, hS, hl⟩
      refine lv_iload_n hx hb eX6_findsGreatest_138 rfl (lv_at hl 2 rfl) ?_
      refine lv_if_ne (tgt := 155) hx hb eX6_findsGreatest_139 (by decide) (fun c_16 => ?_) (fun c_16 => ?_)
      · refine lv_iconst (v := 0) hx hb eX6_findsGreatest_155 (by decide) ?_
        exact W.zret (v := 0) (ty := .boolean) hx hb hr (rfl) (fun t ht hW => ⟨⟨0, (), rfl, ⟨0, (Nat.le_of_ble_eq_true rfl), rfl⟩, ⟨g_10, ⟨by rw [ht]; exact hP, va_K.moved hW.alike hK, hD⟩⟩⟩, hS.F ht⟩) hS.2.2 eX6_findsGreatest_156
      · refine lv_aload_n hx hb eX6_findsGreatest_142 rfl (lv_at hl 0 rfl) ?_
        refine va_get (D := (dC, dI)) (ci := 6) (v := .ref r2) (C := RX6) (T := TX6) (N := 10) hx hb hts hiX6 hown hK hP 0 rfl rfl 2 (by decide) v_1 (fun _ h9 => h9) rfl eX6_findsGreatest_143 ?_
        refine lv_iconst (v := 0) hx hb eX6_findsGreatest_146 (by decide) ?_
        refine va_iald hx hb hK hP 2 1 rfl rfl (vp_in_nI (n := 0) (Nat.le_of_ble_eq_true rfl) (Nat.le_of_ble_eq_true rfl)) eX6_findsGreatest_147 ?_
        refine lv_topi (fun y_17 ey_17 => ?_)
        refine lv_if_ne (tgt := 155) hx hb eX6_findsGreatest_148 (by decide) (fun c_18 => ?_) (fun c_18 => ?_)
        · refine lv_iconst (v := 0) hx hb eX6_findsGreatest_155 (by decide) ?_
          exact W.zret (v := 0) (ty := .boolean) hx hb hr (rfl) (fun t ht hW => ⟨⟨0, (), rfl, ⟨0, (Nat.le_of_ble_eq_true rfl), rfl⟩, ⟨g_10, ⟨by rw [ht]; exact hP, va_K.moved hW.alike hK, hD⟩⟩⟩, hS.F ht⟩) hS.2.2 eX6_findsGreatest_156
        · refine lv_iconst (v := 1) hx hb eX6_findsGreatest_151 (by decide) ?_
          refine lv_goto (tgt := 156) hx hb eX6_findsGreatest_152 (by decide) ?_
          exact W.zret (v := 1) (ty := .boolean) hx hb hr (rfl) (fun t ht hW => ⟨⟨1, (), rfl, ⟨1, (Nat.le_of_ble_eq_true rfl), rfl⟩, ⟨g_10, ⟨by rw [ht]; exact hP, va_K.moved hW.alike hK, hD⟩⟩⟩, hS.F ht⟩) hS.2.2 eX6_findsGreatest_156
    refine lv_icmp_gt (tgt := 138) hx hb eX6_findsGreatest_41 (by decide) (fun c_19 => ?_) (fun c_19 => ?_)
    · have c_19 : (ln + 1) < g_12 := (nI_ltI (a := (ln + 1)) (b := g_12) (by omega) (Nat.lt_of_le_of_lt hg_12 (Nat.le_of_ble_eq_true rfl))).mp c_19
      exact j_15 _ _ _ _ ⟨rfl, hP, hD, hS, lv_sub hl [0, 1, 2, 3] rfl⟩
    · have c_19 : ¬ (ln + 1) < g_12 := fun z => c_19 ((nI_ltI (a := (ln + 1)) (b := g_12) (by omega) (Nat.lt_of_le_of_lt hg_12 (Nat.le_of_ble_eq_true rfl))).mpr z)
      refine lv_iload_n hx hb eX6_findsGreatest_44 rfl (lv_at hl 2 rfl) ?_
      refine lv_if_eq (tgt := 138) hx hb eX6_findsGreatest_45 (by decide) (fun c_20 => ?_) (fun c_20 => ?_)
      · exact j_15 _ _ _ _ ⟨rfl, hP, hD, hS, lv_sub hl [0, 1, 2, 3] rfl⟩
      · refine lv_aload_n hx hb eX6_findsGreatest_48 rfl (lv_at hl 0 rfl) ?_
        refine va_get (D := (dC, dI)) (ci := 6) (v := .ref r2) (C := RX6) (T := TX6) (N := 10) hx hb hts hiX6 hown hK hP 0 rfl rfl 2 (by decide) v_1 (fun _ h9 => h9) rfl eX6_findsGreatest_49 ?_
        refine lv_iconst (v := 0) hx hb eX6_findsGreatest_52 (by decide) ?_
        refine va_iald hx hb hK hP 2 1 rfl rfl (vp_in_nI (n := 0) (Nat.le_of_ble_eq_true rfl) (Nat.le_of_ble_eq_true rfl)) eX6_findsGreatest_53 ?_
        refine lv_topi (fun y_21 ey_21 => ?_)
        refine lv_if_ne (tgt := 138) hx hb eX6_findsGreatest_54 (by decide) (fun c_22 => ?_) (fun c_22 => ?_)
        · exact j_15 _ _ _ _ ⟨rfl, hP, hD, hS, lv_sub hl [0, 1, 2, 3] rfl⟩
        · refine lv_iconst (v := 0) hx hb eX6_findsGreatest_57 (by decide) ?_
          refine lv_istore_n (lv' := [(2, .int 0), (0, .ref ti), (1, .int p0), (3, .int (nI g_12))]) hx hb eX6_findsGreatest_58 rfl hl (by decide) rfl (fun ls hl => ?_)
          refine lv_iconst (v := 0) hx hb eX6_findsGreatest_59 (by decide) ?_
          refine lv_istore (lv' := [(4, .int 0), (2, .int 0), (0, .ref ti), (1, .int p0), (3, .int (nI g_12))]) hx hb eX6_findsGreatest_60 hl (by decide) rfl (fun ls hl => ?_)
          refine pu_while (fun nn H locs ls => ∃ (g_26 : Nat → Int32) (g_27 : Int32) (g_28 : Nat), nn = 1920 - g_28 ∧ g_28 ≤ 1920 ∧ va_P (dC, dI) vwCl (ti__w ti r0 (nI ln) r2 r3 r4 r5 (nI nr) r7 r8 tz k_j0 (bN 13 q_j0) k_j2 g_26 k_j3 (bN 120 q_j3) k_j4 (bN 120 q_j4) k_j5 j5 k_j7 (bN 120 q_j7) k_j8 j8) H ∧ va_D A (ti__w ti r0 (nI ln) r2 r3 r4 r5 (nI nr) r7 r8 tz k_j0 (bN 13 q_j0) k_j2 g_26 k_j3 (bN 120 q_j3) k_j4 (bN 120 q_j4) k_j5 j5 k_j7 (bN 120 q_j7) k_j8 j8) ∧ va_S A s.heap H locs ∧ lv_has ls 6 [(0, .ref ti), (1, .int p0), (2, .int g_27), (3, .int (nI g_12)), (4, .int (nI g_28))]) 62 ?_ _ _ _ _ ⟨g_10, 0, 0, rfl, (Nat.le_of_ble_eq_true rfl), hP, hD, hS, lv_sub hl [2, 3, 1, 4, 0] rfl⟩
          rintro nn ih_29 H locs ls ⟨g_26, g_27, g_28, rfl, hg_28, hP, hD, hS, hl⟩
          refine lv_iload hx hb eX6_findsGreatest_62 (lv_at hl 4 rfl) ?_
          refine lv_aload_n hx hb eX6_findsGreatest_64 rfl (lv_at hl 0 rfl) ?_
          refine va_get (D := (dC, dI)) (ci := 6) (v := .int (nI nr)) (C := RX6) (T := TX6) (N := 10) hx hb hts hiX6 hown hK hP 0 rfl rfl 6 (by decide) v_3 (fun _ h9 => h9) rfl eX6_findsGreatest_65 ?_
          refine lv_icmp_ge (tgt := 132) hx hb eX6_findsGreatest_68 (by decide) (fun c_30 => ?_) (fun c_30 => ?_)
          · have c_30 : nr ≤ g_28 := (nI_leI (a := nr) (b := g_28) (Nat.lt_of_le_of_lt hnr (Nat.le_of_ble_eq_true rfl)) (Nat.lt_of_le_of_lt hg_28 (Nat.le_of_ble_eq_true rfl))).mp c_30
            refine lv_iinc (v := (nI (g_12 + 1))) (lv' := [(3, .int (nI (g_12 + 1))), (0, .ref ti), (1, .int p0), (2, .int g_27), (4, .int (nI g_28))]) hx hb eX6_findsGreatest_132 hl (k := 3) rfl (nI_1 _) (by decide) rfl (fun ls hl => ?_)
            refine lv_goto (tgt := 34) hx hb eX6_findsGreatest_135 (by decide) ?_
            exact ih_13 (121 - (g_12 + 1)) (by omega) _ _ _ ⟨g_26, g_27, (g_12 + 1), rfl, (by omega), hP, hD, hS, lv_sub hl [1, 2, 3, 0] rfl⟩
          · have c_30 : ¬ nr ≤ g_28 := fun z => c_30 ((nI_leI (a := nr) (b := g_28) (Nat.lt_of_le_of_lt hnr (Nat.le_of_ble_eq_true rfl)) (Nat.lt_of_le_of_lt hg_28 (Nat.le_of_ble_eq_true rfl))).mpr z)
            refine lv_aload_n hx hb eX6_findsGreatest_71 rfl (lv_at hl 0 rfl) ?_
            refine va_get (D := (dC, dI)) (ci := 6) (v := .ref r2) (C := RX6) (T := TX6) (N := 10) hx hb hts hiX6 hown hK hP 0 rfl rfl 2 (by decide) v_1 (fun _ h9 => h9) rfl eX6_findsGreatest_72 ?_
            refine lv_aload_n hx hb eX6_findsGreatest_75 rfl (lv_at hl 0 rfl) ?_
            refine va_get (D := (dC, dI)) (ci := 6) (v := .ref r3) (C := RX6) (T := TX6) (N := 10) hx hb hts hiX6 hown hK hP 0 rfl rfl 3 (by decide) v_4 (fun _ h9 => h9) rfl eX6_findsGreatest_76 ?_
            refine lv_iload hx hb eX6_findsGreatest_79 (lv_at hl 4 rfl) ?_
            refine va_iald hx hb hK hP 3 2 rfl rfl (vp_in_nI (n := g_28) (by omega) (Nat.le_of_ble_eq_true rfl)) eX6_findsGreatest_81 ?_
            refine lv_topi (fun y_31 ey_31 => ?_)
            obtain ⟨u_32, hu_32, qu_32⟩ := bN_get 120 q_j3 (((nI g_28) : Int32).toNatClampNeg)
            obtain rfl : y_31 = nI u_32 := ey_31.trans qu_32
            refine va_iald hx hb hK hP 2 1 rfl rfl (vp_in_nI (n := u_32) (Nat.lt_of_le_of_lt hu_32 (Nat.le_of_ble_eq_true rfl)) (Nat.le_of_ble_eq_true rfl)) eX6_findsGreatest_82 ?_
            refine lv_topi (fun y_33 ey_33 => ?_)
            refine lv_aload_n hx hb eX6_findsGreatest_83 rfl (lv_at hl 0 rfl) ?_
            refine va_get (D := (dC, dI)) (ci := 6) (v := .ref r5) (C := RX6) (T := TX6) (N := 10) hx hb hts hiX6 hown hK hP 0 rfl rfl 5 (by decide) v_5 (fun _ h9 => h9) rfl eX6_findsGreatest_84 ?_
            refine lv_iload hx hb eX6_findsGreatest_87 (lv_at hl 4 rfl) ?_
            refine va_iald hx hb hK hP 5 4 rfl rfl (vp_in_nI (n := g_28) (by omega) (Nat.le_of_ble_eq_true rfl)) eX6_findsGreatest_89 ?_
            refine lv_topi (fun y_34 ey_34 => ?_)
            refine lv_isub hx hb eX6_findsGreatest_90 ?_
            refine lv_topi (fun y_35 ey_35 => ?_)
            refine lv_istore (lv' := [(5, .int y_35), (0, .ref ti), (1, .int p0), (2, .int g_27), (3, .int (nI g_12)), (4, .int (nI g_28))]) hx hb eX6_findsGreatest_91 hl (by decide) rfl (fun ls hl => ?_)
            refine lv_iload hx hb eX6_findsGreatest_93 (lv_at hl 0 rfl) ?_
            refine lv_aload_n hx hb eX6_findsGreatest_95 rfl (lv_at hl 1 rfl) ?_
            refine va_get (D := (dC, dI)) (ci := 6) (v := .ref r2) (C := RX6) (T := TX6) (N := 10) hx hb hts hiX6 hown hK hP 0 rfl rfl 2 (by decide) v_1 (fun _ h9 => h9) rfl eX6_findsGreatest_96 ?_
            refine lv_aload_n hx hb eX6_findsGreatest_99 rfl (lv_at hl 1 rfl) ?_
            refine va_get (D := (dC, dI)) (ci := 6) (v := .ref r4) (C := RX6) (T := TX6) (N := 10) hx hb hts hiX6 hown hK hP 0 rfl rfl 4 (by decide) v_6 (fun _ h9 => h9) rfl eX6_findsGreatest_100 ?_
            refine lv_iload hx hb eX6_findsGreatest_103 (lv_at hl 5 rfl) ?_
            refine va_iald hx hb hK hP 4 3 rfl rfl (vp_in_nI (n := g_28) (by omega) (Nat.le_of_ble_eq_true rfl)) eX6_findsGreatest_105 ?_
            refine lv_topi (fun y_36 ey_36 => ?_)
            obtain ⟨u_37, hu_37, qu_37⟩ := bN_get 120 q_j4 (((nI g_28) : Int32).toNatClampNeg)
            obtain rfl : y_36 = nI u_37 := ey_36.trans qu_37
            refine va_iald hx hb hK hP 2 1 rfl rfl (vp_in_nI (n := u_37) (Nat.lt_of_le_of_lt hu_37 (Nat.le_of_ble_eq_true rfl)) (Nat.le_of_ble_eq_true rfl)) eX6_findsGreatest_106 ?_
            refine lv_topi (fun y_38 ey_38 => ?_)
            refine pu_join (fun H locs ls st => ∃ (g_39 : Int32) (g_40 : Nat → Int32), st = [] ∧ va_P (dC, dI) vwCl (ti__w ti r0 (nI ln) r2 r3 r4 r5 (nI nr) r7 r8 tz k_j0 (bN 13 q_j0) k_j2 g_40 k_j3 (bN 120 q_j3) k_j4 (bN 120 q_j4) k_j5 j5 k_j7 (bN 120 q_j7) k_j8 j8) H ∧ va_D A (ti__w ti r0 (nI ln) r2 r3 r4 r5 (nI nr) r7 r8 tz k_j0 (bN 13 q_j0) k_j2 g_40 k_j3 (bN 120 q_j3) k_j4 (bN 120 q_j4) k_j5 j5 k_j7 (bN 120 q_j7) k_j8 j8) ∧ va_S A s.heap H locs ∧ lv_has ls 6 [(0, .ref ti), (1, .int p0), (2, .int g_39), (3, .int (nI g_12)), (4, .int (nI g_28)), (5, .int y_35)]) 126 ?_ (fun j_41 => ?_)
            · rintro H locs ls st ⟨g_39, g_40, rfl, hP, hD, hS, hl⟩
              refine lv_iinc (v := (nI (g_28 + 1))) (lv' := [(4, .int (nI (g_28 + 1))), (0, .ref ti), (1, .int p0), (2, .int g_39), (3, .int (nI g_12)), (5, .int y_35)]) hx hb eX6_findsGreatest_126 hl (k := 4) rfl (nI_1 _) (by decide) rfl (fun ls hl => ?_)
              refine lv_goto (tgt := 62) hx hb eX6_findsGreatest_129 (by decide) ?_
              exact ih_29 (1920 - (g_28 + 1)) (by omega) _ _ _ ⟨g_40, g_39, (g_28 + 1), rfl, (by omega), hP, hD, hS, lv_sub hl [1, 2, 3, 4, 0] rfl⟩
            refine lv_icmp_ge (tgt := 126) hx hb eX6_findsGreatest_107 (by decide) (fun c_42 => ?_) (fun c_42 => ?_)
            · exact j_41 _ _ _ _ ⟨g_27, g_26, rfl, hP, hD, hS, lv_sub hl [1, 2, 3, 4, 5, 0] rfl⟩
            · refine lv_aload_n hx hb eX6_findsGreatest_110 rfl (lv_at hl 1 rfl) ?_
              refine va_get (D := (dC, dI)) (ci := 6) (v := .ref r2) (C := RX6) (T := TX6) (N := 10) hx hb hts hiX6 hown hK hP 0 rfl rfl 2 (by decide) v_1 (fun _ h9 => h9) rfl eX6_findsGreatest_111 ?_
              refine lv_aload_n hx hb eX6_findsGreatest_114 rfl (lv_at hl 1 rfl) ?_
              refine va_get (D := (dC, dI)) (ci := 6) (v := .ref r4) (C := RX6) (T := TX6) (N := 10) hx hb hts hiX6 hown hK hP 0 rfl rfl 4 (by decide) v_6 (fun _ h9 => h9) rfl eX6_findsGreatest_115 ?_
              refine lv_iload hx hb eX6_findsGreatest_118 (lv_at hl 5 rfl) ?_
              refine va_iald hx hb hK hP 4 3 rfl rfl (vp_in_nI (n := g_28) (by omega) (Nat.le_of_ble_eq_true rfl)) eX6_findsGreatest_120 ?_
              refine lv_topi (fun y_43 ey_43 => ?_)
              obtain rfl : y_43 = nI u_37 := ey_43.trans qu_37
              refine lv_iload hx hb eX6_findsGreatest_121 (lv_at hl 0 rfl) ?_
              refine va_iast hx hb hK hP hD hS 2 1 rfl rfl (vp_in_nI (n := u_37) (Nat.lt_of_le_of_lt hu_37 (Nat.le_of_ble_eq_true rfl)) (Nat.le_of_ble_eq_true rfl)) eX6_findsGreatest_123 (fun H locs hP hD hS => ?_)
              have hP : va_P (dC, dI) vwCl (ti__w ti r0 (nI ln) r2 r3 r4 r5 (nI nr) r7 r8 tz k_j0 (bN 13 q_j0) k_j2 (upd g_26 ((nI u_37) : Int32).toNatClampNeg y_35) k_j3 (bN 120 q_j3) k_j4 (bN 120 q_j4) k_j5 j5 k_j7 (bN 120 q_j7) k_j8 j8) H := hP
              have hD : va_D A (ti__w ti r0 (nI ln) r2 r3 r4 r5 (nI nr) r7 r8 tz k_j0 (bN 13 q_j0) k_j2 (upd g_26 ((nI u_37) : Int32).toNatClampNeg y_35) k_j3 (bN 120 q_j3) k_j4 (bN 120 q_j4) k_j5 j5 k_j7 (bN 120 q_j7) k_j8 j8) := hD
              refine lv_iconst (v := 1) hx hb eX6_findsGreatest_124 (by decide) ?_
              refine lv_istore_n (lv' := [(2, .int 1), (5, .int y_35), (0, .ref ti), (1, .int p0), (3, .int (nI g_12)), (4, .int (nI g_28))]) hx hb eX6_findsGreatest_125 rfl hl (by decide) rfl (fun ls hl => ?_)
              exact j_41 _ _ _ _ ⟨1, (upd g_26 ((nI u_37) : Int32).toNatClampNeg y_35), rfl, hP, hD, hS, lv_sub hl [2, 3, 0, 4, 5, 1] rfl⟩
  · have c_6 : ¬ ln < g_4 := fun z => c_6 ((nI_ltI (a := ln) (b := g_4) (Nat.lt_of_le_of_lt hln (Nat.le_of_ble_eq_true rfl)) (Nat.lt_of_le_of_lt hg_4.2 (Nat.le_of_ble_eq_true rfl))).mpr z)
    refine lv_aload_n hx hb eX6_findsGreatest_17 rfl (lv_at hl 0 rfl) ?_
    refine va_get (D := (dC, dI)) (ci := 6) (v := .ref r2) (C := RX6) (T := TX6) (N := 10) hx hb hts hiX6 hown hK hP 0 rfl rfl 2 (by decide) v_1 (fun _ h9 => h9) rfl eX6_findsGreatest_18 ?_
    refine lv_iload_n hx hb eX6_findsGreatest_21 rfl (lv_at hl 2 rfl) ?_
    refine lv_iload_n hx hb eX6_findsGreatest_22 rfl (lv_at hl 1 rfl) ?_
    refine va_iast hx hb hK hP hD hS 2 1 rfl rfl (vp_in_nI (n := g_4) (Nat.lt_of_le_of_lt hg_4.2 (Nat.le_of_ble_eq_true rfl)) (Nat.le_of_ble_eq_true rfl)) eX6_findsGreatest_23 (fun H locs hP hD hS => ?_)
    have hP : va_P (dC, dI) vwCl (ti__w ti r0 (nI ln) r2 r3 r4 r5 (nI nr) r7 r8 tz k_j0 (bN 13 q_j0) k_j2 (upd g_3 ((nI g_4) : Int32).toNatClampNeg p0) k_j3 (bN 120 q_j3) k_j4 (bN 120 q_j4) k_j5 j5 k_j7 (bN 120 q_j7) k_j8 j8) H := hP
    have hD : va_D A (ti__w ti r0 (nI ln) r2 r3 r4 r5 (nI nr) r7 r8 tz k_j0 (bN 13 q_j0) k_j2 (upd g_3 ((nI g_4) : Int32).toNatClampNeg p0) k_j3 (bN 120 q_j3) k_j4 (bN 120 q_j4) k_j5 j5 k_j7 (bN 120 q_j7) k_j8 j8) := hD
    refine lv_iinc (v := (nI (g_4 + 1))) (lv' := [(2, .int (nI (g_4 + 1))), (0, .ref ti), (1, .int p0)]) hx hb eX6_findsGreatest_24 hl (k := 2) rfl (nI_1 _) (by decide) rfl (fun ls hl => ?_)
    refine lv_goto (tgt := 9) hx hb eX6_findsGreatest_27 (by decide) ?_
    exact ih_5 (120 - (g_4 + 1)) (by omega) _ _ _ ⟨(upd g_3 ((nI g_4) : Int32).toNatClampNeg p0), (g_4 + 1), rfl, ⟨by omega, by omega⟩, hP, hD, hS, lv_sub hl [1, 2, 0] rfl⟩
theorem eX6_clockBehind_0 : decode cX6_clockBehind 0 = .ok (.iconst 0, 1) := by decide +kernel
theorem eX6_clockBehind_1 : decode cX6_clockBehind 1 = .ok (.istore 4, 2) := by decide +kernel
theorem eX6_clockBehind_3 : decode cX6_clockBehind 3 = .ok (.iconst 0, 1) := by decide +kernel
theorem eX6_clockBehind_4 : decode cX6_clockBehind 4 = .ok (.istore 5, 2) := by decide +kernel
theorem eX6_clockBehind_6 : decode cX6_clockBehind 6 = .ok (.iload 5, 2) := by decide +kernel
theorem eX6_clockBehind_8 : decode cX6_clockBehind 8 = .ok (.iload_n 2, 1) := by decide +kernel
theorem eX6_clockBehind_9 : decode cX6_clockBehind 9 = .ok (.if_icmp .gt 35, 3) := by decide +kernel
theorem eX6_clockBehind_12 : decode cX6_clockBehind 12 = .ok (.aload_n 1, 1) := by decide +kernel
theorem eX6_clockBehind_13 : decode cX6_clockBehind 13 = .ok (.getfield 87, 3) := by decide +kernel
theorem eX6_clockBehind_16 : decode cX6_clockBehind 16 = .ok (.aload_n 0, 1) := by decide +kernel
theorem eX6_clockBehind_17 : decode cX6_clockBehind 17 = .ok (.getfield 9, 3) := by decide +kernel
theorem eX6_clockBehind_20 : decode cX6_clockBehind 20 = .ok (.iload 5, 2) := by decide +kernel
theorem eX6_clockBehind_22 : decode cX6_clockBehind 22 = .ok (.iaload, 1) := by decide +kernel
theorem eX6_clockBehind_23 : decode cX6_clockBehind 23 = .ok (.iaload, 1) := by decide +kernel
theorem eX6_clockBehind_24 : decode cX6_clockBehind 24 = .ok (.iload_n 3, 1) := by decide +kernel
theorem eX6_clockBehind_25 : decode cX6_clockBehind 25 = .ok (.ishr, 1) := by decide +kernel
theorem eX6_clockBehind_26 : decode cX6_clockBehind 26 = .ok (.iconst 1, 1) := by decide +kernel
theorem eX6_clockBehind_27 : decode cX6_clockBehind 27 = .ok (.iand, 1) := by decide +kernel
theorem eX6_clockBehind_28 : decode cX6_clockBehind 28 = .ok (.iconst 1, 1) := by decide +kernel
theorem eX6_clockBehind_29 : decode cX6_clockBehind 29 = .ok (.if_icmp .ne 9, 3) := by decide +kernel
theorem eX6_clockBehind_32 : decode cX6_clockBehind 32 = .ok (.iload 5, 2) := by decide +kernel
theorem eX6_clockBehind_34 : decode cX6_clockBehind 34 = .ok (.iconst 1, 1) := by decide +kernel
theorem eX6_clockBehind_35 : decode cX6_clockBehind 35 = .ok (.iadd, 1) := by decide +kernel
theorem eX6_clockBehind_36 : decode cX6_clockBehind 36 = .ok (.istore 4, 2) := by decide +kernel
theorem eX6_clockBehind_38 : decode cX6_clockBehind 38 = .ok (.iinc 5 1, 3) := by decide +kernel
theorem eX6_clockBehind_41 : decode cX6_clockBehind 41 = .ok (.goto (-35), 3) := by decide +kernel
theorem eX6_clockBehind_44 : decode cX6_clockBehind 44 = .ok (.aload_n 0, 1) := by decide +kernel
theorem eX6_clockBehind_45 : decode cX6_clockBehind 45 = .ok (.getfield 15, 3) := by decide +kernel
theorem eX6_clockBehind_48 : decode cX6_clockBehind 48 = .ok (.iload_n 2, 1) := by decide +kernel
theorem eX6_clockBehind_49 : decode cX6_clockBehind 49 = .ok (.iconst 1, 1) := by decide +kernel
theorem eX6_clockBehind_50 : decode cX6_clockBehind 50 = .ok (.iadd, 1) := by decide +kernel
theorem eX6_clockBehind_51 : decode cX6_clockBehind 51 = .ok (.iaload, 1) := by decide +kernel
theorem eX6_clockBehind_52 : decode cX6_clockBehind 52 = .ok (.aload_n 0, 1) := by decide +kernel
theorem eX6_clockBehind_53 : decode cX6_clockBehind 53 = .ok (.getfield 15, 3) := by decide +kernel
theorem eX6_clockBehind_56 : decode cX6_clockBehind 56 = .ok (.iload 4, 2) := by decide +kernel
theorem eX6_clockBehind_58 : decode cX6_clockBehind 58 = .ok (.iaload, 1) := by decide +kernel
theorem eX6_clockBehind_59 : decode cX6_clockBehind 59 = .ok (.isub, 1) := by decide +kernel
theorem eX6_clockBehind_60 : decode cX6_clockBehind 60 = .ok (.ireturn, 1) := by decide +kernel
abbrev vs_C_6_clockBehind : List Cond := .code yX6_clockBehind cX6_clockBehind 6 (some .int) :: CM
set_option maxHeartbeats 4000000 in
set_option maxRecDepth 100000 in
theorem c_C_6_clockBehind (l : Launch) (dC : Nat → ClassId) (dI : Nat → Nat → Nat) (sz : Nat) (ti : Nat) (r0 : Nat) (ln : Nat) (r2 : Nat) (r3 : Nat) (r4 : Nat) (r5 : Nat) (nr : Nat) (r7 : Nat) (r8 : Nat) (tz : Nat) (k_j0 : ClassId) (q_j0 : Nat → Nat) (k_j2 : ClassId) (j2 : Nat → Int32) (k_j3 : ClassId) (q_j3 : Nat → Nat) (k_j4 : ClassId) (q_j4 : Nat → Nat) (k_j5 : ClassId) (j5 : Nat → Int32) (k_j7 : ClassId) (q_j7 : Nat → Nat) (k_j8 : ClassId) (j8 : Nat → Int32) (au : Nat) (nc : Nat) (np : Nat) (ne : Nat) (st0 : Int32) (q4 : Nat) (q5 : Nat) (q6 : Nat) (q7 : Nat) (q8 : Nat) (q9 : Nat) (q10 : Nat) (q11 : Nat) (q12 : Nat) (q13 : Nat) (q14 : Nat) (q15 : Nat) (q16 : Nat) (k_f4 : ClassId) (f4 : Nat → Int32) (k_f5 : ClassId) (q_f5 : Nat → Nat) (k_f6 : ClassId) (q_f6 : Nat → Nat) (k_f7 : ClassId) (f7 : Nat → Int32) (k_f8 : ClassId) (q_f8 : Nat → Nat) (k_f9 : ClassId) (q_f9 : Nat → Nat) (k_f10 : ClassId) (f10 : Nat → Int32) (k_f11 : ClassId) (f11 : Nat → Int32) (k_f12 : ClassId) (f12 : Nat → Int32) (k_f13 : ClassId) (f13 : Nat → Int32) (k_f14 : ClassId) (f14 : Nat → Int32) (k_f15 : ClassId) (f15 : Nat → Int32) (k_f16 : ClassId) (f16 : Nat → Int32) (a1 : Nat) (a2 : Nat) (hln : ln ≤ 119) (hnr : nr ≤ 1920) (hnc : nc ≤ 3) (hnp : np ≤ 8) (hne : ne ≤ 14) (hst0 : pm1 7 st0) (ha1 : a1 ≤ 118) (ha2 : a2 ≤ 2) : Met l yX6_clockBehind vs_C_6_clockBehind ({ frames := 0, cells := 0, slots := 0, locals := 0 }) (va_Pc [.ref ti, .ref au, .int (nI a1), .int (nI a2)] (pu_B (dC, dI) (ta__w ti r0 (nI ln) r2 r3 r4 r5 (nI nr) r7 r8 tz k_j0 (bN 13 q_j0) k_j2 j2 k_j3 (bN 120 q_j3) k_j4 (bN 120 q_j4) k_j5 j5 k_j7 (bN 120 q_j7) k_j8 j8 au (nI nc) (nI np) (nI ne) st0 q4 q5 q6 q7 q8 q9 q10 q11 q12 q13 q14 q15 q16 k_f4 f4 k_f5 (bN 7 q_f5) k_f6 (bN 7 q_f6) k_f7 f7 k_f8 (bN 4 q_f8) k_f9 (bN 2 q_f9) k_f10 f10 k_f11 f11 k_f12 f12 k_f13 f13 k_f14 f14 k_f15 f15 k_f16 f16) (ta__t k_j0 k_j2 k_j3 k_j4 k_j5 k_j7 k_j8 k_f4 k_f5 k_f6 k_f7 k_f8 k_f9 k_f10 k_f11 k_f12 k_f13 k_f14 k_f15 k_f16) sz)) (va_Qi (fun (r : Int32) (_ : Unit) => True) (fun _ _ => True) (va_A [] sz)) 0 0 (va_A [] sz) := by
  refine Met.ofW (cc := cX6_clockBehind) (maxL := 6) (ret := (some .int)) (by decide) rfl ?_
  intro p e s m args below meth c s₁ B hml hv
  obtain ⟨rfl, rfl, hP, hK, hD0⟩ := hv
  have hx := B.exec
  have hb := B.bytes
  have hr := B.returns
  have hts := atoms_spec (ws := vs_C_6_clockBehind) B.pre
  have v_1 := hts (.fieldLink RX6 87 "ClockReach$Automaton" "resets" "[I") (List.mem_cons_of_mem _ cm_377)
  have v_2 := hts (.fieldLink RX6 9 "ClockReach$Timing" "path" "[I") (List.mem_cons_of_mem _ cm_367)
  have v_3 := hts (.fieldLink RX6 15 "ClockReach$Timing" "at" "[I") (List.mem_cons_of_mem _ cm_400)
  have hown : s.vm.findClass RX6 = some m.cls := findClass_of_methodNamed B.named
  have hlocks := B.notSynchronized
  have hiX0 : ∀ w ∈ wsX00, w ∈ vs_C_6_clockBehind := fun _ h => List.mem_cons_of_mem _ (cm_X0 h)
  have hiX6 : ∀ w ∈ wsX60, w ∈ vs_C_6_clockBehind := fun _ h => List.mem_cons_of_mem _ (cm_X6 h)
  have hD := hD0
  have hA : ∀ q : Nat, s.heap.size ≤ q → va_A [] s.heap.size q := fun _ h => Or.inr h
  have hS : va_S (va_A [] s.heap.size) s.heap s.heap [] := va_S.rf
  have hl := lv_entry ([.ref ti, .ref au, .int (nI a1), .int (nI a2)]) (n := 6) (Nat.le_of_ble_eq_true rfl)
  rw [lg_entry_eq]
  generalize (lg_sl ([.ref ti, .ref au, .int (nI a1), .int (nI a2)]) ++ List.replicate (6 - (lg_sl ([.ref ti, .ref au, .int (nI a1), .int (nI a2)])).length) Slot.unset).toArray = ls at hl ⊢
  have hl : lv_has ls 6 [(0, .ref ti), (1, .ref au), (2, .int (nI a1)), (3, .int (nI a2))] := hl
  refine lv_iconst (v := 0) hx hb eX6_clockBehind_0 (by decide) ?_
  refine lv_istore (lv' := [(4, .int 0), (0, .ref ti), (1, .ref au), (2, .int (nI a1)), (3, .int (nI a2))]) hx hb eX6_clockBehind_1 hl (by decide) rfl (fun ls hl => ?_)
  refine lv_iconst (v := 0) hx hb eX6_clockBehind_3 (by decide) ?_
  refine lv_istore (lv' := [(5, .int 0), (4, .int 0), (0, .ref ti), (1, .ref au), (2, .int (nI a1)), (3, .int (nI a2))]) hx hb eX6_clockBehind_4 hl (by decide) rfl (fun ls hl => ?_)
  refine pu_while (fun nn H locs ls => ∃ (g_3 : Nat) (g_4 : Nat), nn = 119 - g_4 ∧ g_3 ≤ 119 ∧ g_4 ≤ 119 ∧ va_P (dC, dI) vwCl (ta__w ti r0 (nI ln) r2 r3 r4 r5 (nI nr) r7 r8 tz k_j0 (bN 13 q_j0) k_j2 j2 k_j3 (bN 120 q_j3) k_j4 (bN 120 q_j4) k_j5 j5 k_j7 (bN 120 q_j7) k_j8 j8 au (nI nc) (nI np) (nI ne) st0 q4 q5 q6 q7 q8 q9 q10 q11 q12 q13 q14 q15 q16 k_f4 f4 k_f5 (bN 7 q_f5) k_f6 (bN 7 q_f6) k_f7 f7 k_f8 (bN 4 q_f8) k_f9 (bN 2 q_f9) k_f10 f10 k_f11 f11 k_f12 f12 k_f13 f13 k_f14 f14 k_f15 f15 k_f16 f16) H ∧ va_D (fun _ => True) (ta__w ti r0 (nI ln) r2 r3 r4 r5 (nI nr) r7 r8 tz k_j0 (bN 13 q_j0) k_j2 j2 k_j3 (bN 120 q_j3) k_j4 (bN 120 q_j4) k_j5 j5 k_j7 (bN 120 q_j7) k_j8 j8 au (nI nc) (nI np) (nI ne) st0 q4 q5 q6 q7 q8 q9 q10 q11 q12 q13 q14 q15 q16 k_f4 f4 k_f5 (bN 7 q_f5) k_f6 (bN 7 q_f6) k_f7 f7 k_f8 (bN 4 q_f8) k_f9 (bN 2 q_f9) k_f10 f10 k_f11 f11 k_f12 f12 k_f13 f13 k_f14 f14 k_f15 f15 k_f16 f16) ∧ va_S (va_A [] s.heap.size) s.heap H locs ∧ lv_has ls 6 [(0, .ref ti), (1, .ref au), (2, .int (nI a1)), (3, .int (nI a2)), (4, .int (nI g_3)), (5, .int (nI g_4))]) 6 ?_ _ _ _ _ ⟨0, 0, rfl, (Nat.le_of_ble_eq_true rfl), (Nat.le_of_ble_eq_true rfl), hP, hD, hS, lv_sub hl [2, 3, 4, 5, 1, 0] rfl⟩
  rintro nn ih_5 H locs ls ⟨g_3, g_4, rfl, hg_3, hg_4, hP, hD, hS, hl⟩
  refine lv_iload hx hb eX6_clockBehind_6 (lv_at hl 5 rfl) ?_
  refine lv_iload_n hx hb eX6_clockBehind_8 rfl (lv_at hl 2 rfl) ?_
  refine lv_icmp_gt (tgt := 44) hx hb eX6_clockBehind_9 (by decide) (fun c_6 => ?_) (fun c_6 => ?_)
  · have c_6 : a1 < g_4 := (nI_ltI (a := a1) (b := g_4) (Nat.lt_of_le_of_lt ha1 (Nat.le_of_ble_eq_true rfl)) (Nat.lt_of_le_of_lt hg_4 (Nat.le_of_ble_eq_true rfl))).mp c_6
    refine lv_aload_n hx hb eX6_clockBehind_44 rfl (lv_at hl 0 rfl) ?_
    refine va_get (D := (dC, dI)) (ci := 6) (v := .ref r2) (C := RX6) (T := TX6) (N := 10) hx hb hts hiX6 hown hK hP 0 rfl rfl 2 (by decide) v_3 (fun _ h9 => h9) rfl eX6_clockBehind_45 ?_
    refine lv_iload_n hx hb eX6_clockBehind_48 rfl (lv_at hl 2 rfl) ?_
    refine lv_iconst (v := 1) hx hb eX6_clockBehind_49 (by decide) ?_
    refine lv_iadd hx hb eX6_clockBehind_50 ?_
    refine lv_topi (fun y_7 ey_7 => ?_)
    obtain rfl : y_7 = (nI (a1 + 1)) := ey_7.trans (nI_add a1 1)
    refine va_iald hx hb hK hP 2 1 rfl rfl (vp_in_nI (n := (a1 + 1)) (by omega) (Nat.le_of_ble_eq_true rfl)) eX6_clockBehind_51 ?_
    refine lv_topi (fun y_8 ey_8 => ?_)
    refine lv_aload_n hx hb eX6_clockBehind_52 rfl (lv_at hl 0 rfl) ?_
    refine va_get (D := (dC, dI)) (ci := 6) (v := .ref r2) (C := RX6) (T := TX6) (N := 10) hx hb hts hiX6 hown hK hP 0 rfl rfl 2 (by decide) v_3 (fun _ h9 => h9) rfl eX6_clockBehind_53 ?_
    refine lv_iload hx hb eX6_clockBehind_56 (lv_at hl 4 rfl) ?_
    refine va_iald hx hb hK hP 2 1 rfl rfl (vp_in_nI (n := g_3) (Nat.lt_of_le_of_lt hg_3 (Nat.le_of_ble_eq_true rfl)) (Nat.le_of_ble_eq_true rfl)) eX6_clockBehind_58 ?_
    refine lv_topi (fun y_9 ey_9 => ?_)
    refine lv_isub hx hb eX6_clockBehind_59 ?_
    refine lv_topi (fun y_10 ey_10 => ?_)
    exact W.iret (v := y_10) hx hb hr (fun t ht hW => ⟨⟨y_10, (), rfl, trivial, trivial⟩, hS.F ht⟩) hS.2.2 eX6_clockBehind_60
  · have c_6 : ¬ a1 < g_4 := fun z => c_6 ((nI_ltI (a := a1) (b := g_4) (Nat.lt_of_le_of_lt ha1 (Nat.le_of_ble_eq_true rfl)) (Nat.lt_of_le_of_lt hg_4 (Nat.le_of_ble_eq_true rfl))).mpr z)
    refine lv_aload_n hx hb eX6_clockBehind_12 rfl (lv_at hl 1 rfl) ?_
    refine va_get (D := (dC, dI)) (ci := 0) (v := .ref q7) (C := RX0) (T := TX0) (N := 17) hx hb hts hiX0 hown hK hP 8 rfl rfl 7 (by decide) v_1 (fun _ h9 => h9) rfl eX6_clockBehind_13 ?_
    refine lv_aload_n hx hb eX6_clockBehind_16 rfl (lv_at hl 0 rfl) ?_
    refine va_get (D := (dC, dI)) (ci := 6) (v := .ref r0) (C := RX6) (T := TX6) (N := 10) hx hb hts hiX6 hown hK hP 0 rfl rfl 0 (by decide) v_2 (fun _ h9 => h9) rfl eX6_clockBehind_17 ?_
    refine lv_iload hx hb eX6_clockBehind_20 (lv_at hl 5 rfl) ?_
    refine va_iald hx hb hK hP 1 0 rfl rfl (vp_in_nI (n := g_4) (Nat.lt_of_le_of_lt hg_4 (Nat.le_of_ble_eq_true rfl)) (Nat.le_of_ble_eq_true rfl)) eX6_clockBehind_22 ?_
    refine lv_topi (fun y_11 ey_11 => ?_)
    obtain ⟨u_12, hu_12, qu_12⟩ := bN_get 13 q_j0 (((nI g_4) : Int32).toNatClampNeg)
    obtain rfl : y_11 = nI u_12 := ey_11.trans qu_12
    refine va_iald hx hb hK hP 12 10 rfl rfl (vp_in_nI (n := u_12) (Nat.lt_of_le_of_lt hu_12 (Nat.le_of_ble_eq_true rfl)) (Nat.le_of_ble_eq_true rfl)) eX6_clockBehind_23 ?_
    refine lv_topi (fun y_13 ey_13 => ?_)
    refine lv_iload_n hx hb eX6_clockBehind_24 rfl (lv_at hl 3 rfl) ?_
    refine lv_ishr hx hb eX6_clockBehind_25 ?_
    refine lv_topi (fun y_14 ey_14 => ?_)
    refine lv_iconst (v := 1) hx hb eX6_clockBehind_26 (by decide) ?_
    refine lv_iand hx hb eX6_clockBehind_27 ?_
    refine lv_topi (fun y_15 ey_15 => ?_)
    refine lv_iconst (v := 1) hx hb eX6_clockBehind_28 (by decide) ?_
    refine pu_join (fun H locs ls st => ∃ (g_16 : Nat), st = [] ∧ g_16 ≤ 119 ∧ va_P (dC, dI) vwCl (ta__w ti r0 (nI ln) r2 r3 r4 r5 (nI nr) r7 r8 tz k_j0 (bN 13 q_j0) k_j2 j2 k_j3 (bN 120 q_j3) k_j4 (bN 120 q_j4) k_j5 j5 k_j7 (bN 120 q_j7) k_j8 j8 au (nI nc) (nI np) (nI ne) st0 q4 q5 q6 q7 q8 q9 q10 q11 q12 q13 q14 q15 q16 k_f4 f4 k_f5 (bN 7 q_f5) k_f6 (bN 7 q_f6) k_f7 f7 k_f8 (bN 4 q_f8) k_f9 (bN 2 q_f9) k_f10 f10 k_f11 f11 k_f12 f12 k_f13 f13 k_f14 f14 k_f15 f15 k_f16 f16) H ∧ va_D (fun _ => True) (ta__w ti r0 (nI ln) r2 r3 r4 r5 (nI nr) r7 r8 tz k_j0 (bN 13 q_j0) k_j2 j2 k_j3 (bN 120 q_j3) k_j4 (bN 120 q_j4) k_j5 j5 k_j7 (bN 120 q_j7) k_j8 j8 au (nI nc) (nI np) (nI ne) st0 q4 q5 q6 q7 q8 q9 q10 q11 q12 q13 q14 q15 q16 k_f4 f4 k_f5 (bN 7 q_f5) k_f6 (bN 7 q_f6) k_f7 f7 k_f8 (bN 4 q_f8) k_f9 (bN 2 q_f9) k_f10 f10 k_f11 f11 k_f12 f12 k_f13 f13 k_f14 f14 k_f15 f15 k_f16 f16) ∧ va_S (va_A [] s.heap.size) s.heap H locs ∧ lv_has ls 6 [(0, .ref ti), (1, .ref au), (2, .int (nI a1)), (3, .int (nI a2)), (4, .int (nI g_16)), (5, .int (nI g_4))]) 38 ?_ (fun j_17 => ?_)
    · rintro H locs ls st ⟨g_16, rfl, hg_16, hP, hD, hS, hl⟩
      refine lv_iinc (v := (nI (g_4 + 1))) (lv' := [(5, .int (nI (g_4 + 1))), (0, .ref ti), (1, .ref au), (2, .int (nI a1)), (3, .int (nI a2)), (4, .int (nI g_16))]) hx hb eX6_clockBehind_38 hl (k := 5) rfl (nI_1 _) (by decide) rfl (fun ls hl => ?_)
      refine lv_goto (tgt := 6) hx hb eX6_clockBehind_41 (by decide) ?_
      exact ih_5 (119 - (g_4 + 1)) (by omega) _ _ _ ⟨g_16, (g_4 + 1), rfl, hg_16, (by omega), hP, hD, hS, lv_sub hl [1, 2, 3, 4, 5, 0] rfl⟩
    refine lv_icmp_ne (tgt := 38) hx hb eX6_clockBehind_29 (by decide) (fun c_18 => ?_) (fun c_18 => ?_)
    · exact j_17 _ _ _ _ ⟨g_3, rfl, hg_3, hP, hD, hS, lv_sub hl [0, 1, 2, 3, 4, 5] rfl⟩
    · refine lv_iload hx hb eX6_clockBehind_32 (lv_at hl 5 rfl) ?_
      refine lv_iconst (v := 1) hx hb eX6_clockBehind_34 (by decide) ?_
      refine lv_iadd hx hb eX6_clockBehind_35 ?_
      refine lv_topi (fun y_19 ey_19 => ?_)
      obtain rfl : y_19 = (nI (g_4 + 1)) := ey_19.trans (nI_add g_4 1)
      refine lv_istore (lv' := [(4, .int (nI (g_4 + 1))), (0, .ref ti), (1, .ref au), (2, .int (nI a1)), (3, .int (nI a2)), (5, .int (nI g_4))]) hx hb eX6_clockBehind_36 hl (by decide) rfl (fun ls hl => ?_)
      exact j_17 _ _ _ _ ⟨(g_4 + 1), rfl, (by omega), hP, hD, hS, lv_sub hl [1, 2, 3, 4, 0, 5] rfl⟩
theorem eX6_spanOf_0 : decode cX6_spanOf 0 = .ok (.aload_n 1, 1) := by decide +kernel
theorem eX6_spanOf_1 : decode cX6_spanOf 1 = .ok (.getfield 84, 3) := by decide +kernel
theorem eX6_spanOf_4 : decode cX6_spanOf 4 = .ok (.iconst 1, 1) := by decide +kernel
theorem eX6_spanOf_5 : decode cX6_spanOf 5 = .ok (.iadd, 1) := by decide +kernel
theorem eX6_spanOf_6 : decode cX6_spanOf 6 = .ok (.istore_n 3, 1) := by decide +kernel
theorem eX6_spanOf_7 : decode cX6_spanOf 7 = .ok (.aload_n 0, 1) := by decide +kernel
theorem eX6_spanOf_8 : decode cX6_spanOf 8 = .ok (.getfield 38, 3) := by decide +kernel
theorem eX6_spanOf_11 : decode cX6_spanOf 11 = .ok (.iload_n 3, 1) := by decide +kernel
theorem eX6_spanOf_12 : decode cX6_spanOf 12 = .ok (.iconst 1, 1) := by decide +kernel
theorem eX6_spanOf_13 : decode cX6_spanOf 13 = .ok (.iadd, 1) := by decide +kernel
theorem eX6_spanOf_14 : decode cX6_spanOf 14 = .ok (.aload_n 0, 1) := by decide +kernel
theorem eX6_spanOf_15 : decode cX6_spanOf 15 = .ok (.getfield 30, 3) := by decide +kernel
theorem eX6_spanOf_18 : decode cX6_spanOf 18 = .ok (.invokevirtual 113, 3) := by decide +kernel
theorem eX6_spanOf_21 : decode cX6_spanOf 21 = .ok (.aload_n 1, 1) := by decide +kernel
theorem eX6_spanOf_22 : decode cX6_spanOf 22 = .ok (.aload_n 0, 1) := by decide +kernel
theorem eX6_spanOf_23 : decode cX6_spanOf 23 = .ok (.getfield 38, 3) := by decide +kernel
theorem eX6_spanOf_26 : decode cX6_spanOf 26 = .ok (.aload_n 1, 1) := by decide +kernel
theorem eX6_spanOf_27 : decode cX6_spanOf 27 = .ok (.getfield 60, 3) := by decide +kernel
theorem eX6_spanOf_30 : decode cX6_spanOf 30 = .ok (.invokestatic 65, 3) := by decide +kernel
theorem eX6_spanOf_33 : decode cX6_spanOf 33 = .ok (.iconst 0, 1) := by decide +kernel
theorem eX6_spanOf_34 : decode cX6_spanOf 34 = .ok (.invokevirtual 117, 3) := by decide +kernel
theorem eX6_spanOf_37 : decode cX6_spanOf 37 = .ok (.ifCond .ne 5, 3) := by decide +kernel
theorem eX6_spanOf_40 : decode cX6_spanOf 40 = .ok (.iconst (-1), 1) := by decide +kernel
theorem eX6_spanOf_41 : decode cX6_spanOf 41 = .ok (.ireturn, 1) := by decide +kernel
theorem eX6_spanOf_42 : decode cX6_spanOf 42 = .ok (.iconst 0, 1) := by decide +kernel
theorem eX6_spanOf_43 : decode cX6_spanOf 43 = .ok (.istore 4, 2) := by decide +kernel
theorem eX6_spanOf_45 : decode cX6_spanOf 45 = .ok (.iload 4, 2) := by decide +kernel
theorem eX6_spanOf_47 : decode cX6_spanOf 47 = .ok (.aload_n 0, 1) := by decide +kernel
theorem eX6_spanOf_48 : decode cX6_spanOf 48 = .ok (.getfield 47, 3) := by decide +kernel
theorem eX6_spanOf_51 : decode cX6_spanOf 51 = .ok (.if_icmp .ge 64, 3) := by decide +kernel
theorem eX6_spanOf_54 : decode cX6_spanOf 54 = .ok (.aload_n 1, 1) := by decide +kernel
theorem eX6_spanOf_55 : decode cX6_spanOf 55 = .ok (.aload_n 0, 1) := by decide +kernel
theorem eX6_spanOf_56 : decode cX6_spanOf 56 = .ok (.getfield 38, 3) := by decide +kernel
theorem eX6_spanOf_59 : decode cX6_spanOf 59 = .ok (.aload_n 1, 1) := by decide +kernel
theorem eX6_spanOf_60 : decode cX6_spanOf 60 = .ok (.getfield 73, 3) := by decide +kernel
theorem eX6_spanOf_63 : decode cX6_spanOf 63 = .ok (.aload_n 0, 1) := by decide +kernel
theorem eX6_spanOf_64 : decode cX6_spanOf 64 = .ok (.getfield 9, 3) := by decide +kernel
theorem eX6_spanOf_67 : decode cX6_spanOf 67 = .ok (.iload 4, 2) := by decide +kernel
theorem eX6_spanOf_69 : decode cX6_spanOf 69 = .ok (.iaload, 1) := by decide +kernel
theorem eX6_spanOf_70 : decode cX6_spanOf 70 = .ok (.iaload, 1) := by decide +kernel
theorem eX6_spanOf_71 : decode cX6_spanOf 71 = .ok (.invokevirtual 121, 3) := by decide +kernel
theorem eX6_spanOf_74 : decode cX6_spanOf 74 = .ok (.aload_n 1, 1) := by decide +kernel
theorem eX6_spanOf_75 : decode cX6_spanOf 75 = .ok (.aload_n 0, 1) := by decide +kernel
theorem eX6_spanOf_76 : decode cX6_spanOf 76 = .ok (.getfield 38, 3) := by decide +kernel
theorem eX6_spanOf_79 : decode cX6_spanOf 79 = .ok (.aload_n 0, 1) := by decide +kernel
theorem eX6_spanOf_80 : decode cX6_spanOf 80 = .ok (.getfield 9, 3) := by decide +kernel
theorem eX6_spanOf_83 : decode cX6_spanOf 83 = .ok (.iload 4, 2) := by decide +kernel
theorem eX6_spanOf_85 : decode cX6_spanOf 85 = .ok (.iaload, 1) := by decide +kernel
theorem eX6_spanOf_86 : decode cX6_spanOf 86 = .ok (.invokevirtual 125, 3) := by decide +kernel
theorem eX6_spanOf_89 : decode cX6_spanOf 89 = .ok (.ifCond .ne 5, 3) := by decide +kernel
theorem eX6_spanOf_92 : decode cX6_spanOf 92 = .ok (.iconst (-1), 1) := by decide +kernel
theorem eX6_spanOf_93 : decode cX6_spanOf 93 = .ok (.ireturn, 1) := by decide +kernel
theorem eX6_spanOf_94 : decode cX6_spanOf 94 = .ok (.aload_n 1, 1) := by decide +kernel
theorem eX6_spanOf_95 : decode cX6_spanOf 95 = .ok (.aload_n 0, 1) := by decide +kernel
theorem eX6_spanOf_96 : decode cX6_spanOf 96 = .ok (.getfield 38, 3) := by decide +kernel
theorem eX6_spanOf_99 : decode cX6_spanOf 99 = .ok (.aload_n 0, 1) := by decide +kernel
theorem eX6_spanOf_100 : decode cX6_spanOf 100 = .ok (.getfield 9, 3) := by decide +kernel
theorem eX6_spanOf_103 : decode cX6_spanOf 103 = .ok (.iload 4, 2) := by decide +kernel
theorem eX6_spanOf_105 : decode cX6_spanOf 105 = .ok (.iaload, 1) := by decide +kernel
theorem eX6_spanOf_106 : decode cX6_spanOf 106 = .ok (.invokevirtual 129, 3) := by decide +kernel
theorem eX6_spanOf_109 : decode cX6_spanOf 109 = .ok (.iinc 4 1, 3) := by decide +kernel
theorem eX6_spanOf_112 : decode cX6_spanOf 112 = .ok (.goto (-67), 3) := by decide +kernel
theorem eX6_spanOf_115 : decode cX6_spanOf 115 = .ok (.aload_n 0, 1) := by decide +kernel
theorem eX6_spanOf_116 : decode cX6_spanOf 116 = .ok (.getfield 38, 3) := by decide +kernel
theorem eX6_spanOf_119 : decode cX6_spanOf 119 = .ok (.iconst 0, 1) := by decide +kernel
theorem eX6_spanOf_120 : decode cX6_spanOf 120 = .ok (.iload_n 3, 1) := by decide +kernel
theorem eX6_spanOf_121 : decode cX6_spanOf 121 = .ok (.invokevirtual 132, 3) := by decide +kernel
theorem eX6_spanOf_124 : decode cX6_spanOf 124 = .ok (.istore 4, 2) := by decide +kernel
theorem eX6_spanOf_126 : decode cX6_spanOf 126 = .ok (.aload_n 0, 1) := by decide +kernel
theorem eX6_spanOf_127 : decode cX6_spanOf 127 = .ok (.getfield 38, 3) := by decide +kernel
theorem eX6_spanOf_130 : decode cX6_spanOf 130 = .ok (.iload_n 3, 1) := by decide +kernel
theorem eX6_spanOf_131 : decode cX6_spanOf 131 = .ok (.iconst 0, 1) := by decide +kernel
theorem eX6_spanOf_132 : decode cX6_spanOf 132 = .ok (.invokevirtual 132, 3) := by decide +kernel
theorem eX6_spanOf_135 : decode cX6_spanOf 135 = .ok (.istore 5, 2) := by decide +kernel
theorem eX6_spanOf_137 : decode cX6_spanOf 137 = .ok (.iload_n 2, 1) := by decide +kernel
theorem eX6_spanOf_138 : decode cX6_spanOf 138 = .ok (.tableswitch 74 0 3 #[30, 36, 41, 58], 30) := by decide +kernel
theorem eX6_spanOf_168 : decode cX6_spanOf 168 = .ok (.iload 4, 2) := by decide +kernel
theorem eX6_spanOf_170 : decode cX6_spanOf 170 = .ok (.iconst 1, 1) := by decide +kernel
theorem eX6_spanOf_171 : decode cX6_spanOf 171 = .ok (.ishr, 1) := by decide +kernel
theorem eX6_spanOf_172 : decode cX6_spanOf 172 = .ok (.ineg, 1) := by decide +kernel
theorem eX6_spanOf_173 : decode cX6_spanOf 173 = .ok (.ireturn, 1) := by decide +kernel
theorem eX6_spanOf_174 : decode cX6_spanOf 174 = .ok (.iload 4, 2) := by decide +kernel
theorem eX6_spanOf_176 : decode cX6_spanOf 176 = .ok (.iconst 1, 1) := by decide +kernel
theorem eX6_spanOf_177 : decode cX6_spanOf 177 = .ok (.iand, 1) := by decide +kernel
theorem eX6_spanOf_178 : decode cX6_spanOf 178 = .ok (.ireturn, 1) := by decide +kernel
theorem eX6_spanOf_179 : decode cX6_spanOf 179 = .ok (.iload 5, 2) := by decide +kernel
theorem eX6_spanOf_181 : decode cX6_spanOf 181 = .ok (.ldc 106, 2) := by decide +kernel
theorem eX6_spanOf_183 : decode cX6_spanOf 183 = .ok (.if_icmp .ne 8, 3) := by decide +kernel
theorem eX6_spanOf_186 : decode cX6_spanOf 186 = .ok (.ldc 106, 2) := by decide +kernel
theorem eX6_spanOf_188 : decode cX6_spanOf 188 = .ok (.goto 7, 3) := by decide +kernel
theorem eX6_spanOf_191 : decode cX6_spanOf 191 = .ok (.iload 5, 2) := by decide +kernel
theorem eX6_spanOf_193 : decode cX6_spanOf 193 = .ok (.iconst 1, 1) := by decide +kernel
theorem eX6_spanOf_194 : decode cX6_spanOf 194 = .ok (.ishr, 1) := by decide +kernel
theorem eX6_spanOf_195 : decode cX6_spanOf 195 = .ok (.ireturn, 1) := by decide +kernel
theorem eX6_spanOf_196 : decode cX6_spanOf 196 = .ok (.iload 5, 2) := by decide +kernel
theorem eX6_spanOf_198 : decode cX6_spanOf 198 = .ok (.ldc 106, 2) := by decide +kernel
theorem eX6_spanOf_200 : decode cX6_spanOf 200 = .ok (.if_icmp .ne 7, 3) := by decide +kernel
theorem eX6_spanOf_203 : decode cX6_spanOf 203 = .ok (.iconst 0, 1) := by decide +kernel
theorem eX6_spanOf_204 : decode cX6_spanOf 204 = .ok (.goto 7, 3) := by decide +kernel
theorem eX6_spanOf_207 : decode cX6_spanOf 207 = .ok (.iload 5, 2) := by decide +kernel
theorem eX6_spanOf_209 : decode cX6_spanOf 209 = .ok (.iconst 1, 1) := by decide +kernel
theorem eX6_spanOf_210 : decode cX6_spanOf 210 = .ok (.iand, 1) := by decide +kernel
theorem eX6_spanOf_211 : decode cX6_spanOf 211 = .ok (.ireturn, 1) := by decide +kernel
theorem eX6_spanOf_212 : decode cX6_spanOf 212 = .ok (.iconst (-1), 1) := by decide +kernel
theorem eX6_spanOf_213 : decode cX6_spanOf 213 = .ok (.ireturn, 1) := by decide +kernel
abbrev vs_C_6_spanOf : List Cond := .code yX6_spanOf cX6_spanOf 6 (some .int) :: CM
theorem g_C_6_spanOf_C_7_setPoint_25 : GoodIn vs_C_6_spanOf (wsV RX6 113 RX7 yX7_setPoint vs_C_7_setPoint_25) := cm_gV cm_406 cm_94 cm_95 cm_45 cm_96
theorem g_C_6_spanOf_C_0_hostOfPlace : GoodIn vs_C_6_spanOf (va_wsS RX6 65 yX0_hostOfPlace vs_C_0_hostOfPlace) := cm_gS cm_379 cm_55 cm_19 cm_0
theorem g_C_6_spanOf_C_0_narrowTo_25 : GoodIn vs_C_6_spanOf (wsV RX6 117 RX0 yX0_narrowTo vs_C_0_narrowTo_25) := cm_gV cm_407 cm_52 cm_53 cm_19 cm_41
theorem g_C_6_spanOf_C_7_cellOf_25 : GoodIn vs_C_6_spanOf (wsV RX6 132 RX7 yX7_cellOf vs_C_7_cellOf_25) := cm_gV cm_411 cm_157 cm_158 cm_45 cm_159
theorem g_C_6_spanOf_C_0_stayIn_25 : GoodIn vs_C_6_spanOf (wsV RX6 121 RX0 yX0_stayIn vs_C_0_stayIn_25) := cm_gV cm_408 cm_100 cm_101 cm_19 cm_61
theorem g_C_6_spanOf_C_0_opensIn_25 : GoodIn vs_C_6_spanOf (wsV RX6 125 RX0 yX0_opensIn vs_C_0_opensIn_25) := cm_gV cm_409 cm_134 cm_135 cm_19 cm_50
theorem g_C_6_spanOf_C_0_setBackIn_25 : GoodIn vs_C_6_spanOf (wsV RX6 129 RX0 yX0_setBackIn vs_C_0_setBackIn_25) := cm_gV cm_410 cm_137 cm_138 cm_19 cm_56
set_option maxHeartbeats 4000000 in
set_option maxRecDepth 100000 in
theorem c_C_6_spanOf (l : Launch) (dC : Nat → ClassId) (dI : Nat → Nat → Nat) (sz : Nat) (ti : Nat) (r0 : Nat) (ln : Nat) (r2 : Nat) (r3 : Nat) (r4 : Nat) (r5 : Nat) (nr : Nat) (r7 : Nat) (r8 : Nat) (tz : Nat) (k_j0 : ClassId) (q_j0 : Nat → Nat) (k_j2 : ClassId) (j2 : Nat → Int32) (k_j3 : ClassId) (q_j3 : Nat → Nat) (k_j4 : ClassId) (q_j4 : Nat → Nat) (k_j5 : ClassId) (j5 : Nat → Int32) (k_j7 : ClassId) (q_j7 : Nat → Nat) (k_j8 : ClassId) (j8 : Nat → Int32) (au : Nat) (nc : Nat) (np : Nat) (ne : Nat) (st0 : Nat) (q4 : Nat) (q5 : Nat) (q6 : Nat) (q7 : Nat) (q8 : Nat) (q9 : Nat) (q10 : Nat) (q11 : Nat) (q12 : Nat) (q13 : Nat) (q14 : Nat) (q15 : Nat) (q16 : Nat) (k_f4 : ClassId) (f4 : Nat → Int32) (k_f5 : ClassId) (q_f5 : Nat → Nat) (k_f6 : ClassId) (q_f6 : Nat → Nat) (k_f7 : ClassId) (f7 : Nat → Int32) (k_f8 : ClassId) (q_f8 : Nat → Nat) (k_f9 : ClassId) (q_f9 : Nat → Nat) (k_f10 : ClassId) (f10 : Nat → Int32) (k_f11 : ClassId) (f11 : Nat → Int32) (k_f12 : ClassId) (f12 : Nat → Int32) (k_f13 : ClassId) (f13 : Nat → Int32) (k_f14 : ClassId) (f14 : Nat → Int32) (k_f15 : ClassId) (f15 : Nat → Int32) (k_f16 : ClassId) (f16 : Nat → Int32) (tzc : Nat) (tzn : Nat) (k_ftz : ClassId) (ftz : Nat → Int32) (p1 : Int32) (hln : ln ≤ 119) (hnr : nr ≤ 1920) (hnc : nc ≤ 3) (hnp : np ≤ 8) (hne : ne ≤ 14) (hst0 : st0 ≤ 7) (htzn : tzn ≤ 5) : Met l yX6_spanOf vs_C_6_spanOf ({ frames := 3, cells := 0, slots := 0, locals := 77 }) (va_Pc [.ref ti, .ref au, .int p1] (pu_B (dC, dI) (tz__w ti r0 (nI ln) r2 r3 r4 r5 (nI nr) r7 r8 tz k_j0 (bN 13 q_j0) k_j2 j2 k_j3 (bN 120 q_j3) k_j4 (bN 120 q_j4) k_j5 j5 k_j7 (bN 120 q_j7) k_j8 j8 au (nI nc) (nI np) (nI ne) (nI st0) q4 q5 q6 q7 q8 q9 q10 q11 q12 q13 q14 q15 q16 k_f4 f4 k_f5 (bN 7 q_f5) k_f6 (bN 7 q_f6) k_f7 f7 k_f8 (bN 4 q_f8) k_f9 (bN 2 q_f9) k_f10 f10 k_f11 f11 k_f12 f12 k_f13 f13 k_f14 f14 k_f15 f15 k_f16 f16 tzc (nI tzn) k_ftz ftz) (tz__t k_j0 k_j2 k_j3 k_j4 k_j5 k_j7 k_j8 k_f4 k_f5 k_f6 k_f7 k_f8 k_f9 k_f10 k_f11 k_f12 k_f13 k_f14 k_f15 k_f16 k_ftz) sz)) (va_Qi (fun (r : Int32) (_ : Unit) => True) (fun _ t => ∃ (z_ftz : Nat → Int32) (z_tzn : Nat), pu_E (dC, dI) (tz__w ti r0 (nI ln) r2 r3 r4 r5 (nI nr) r7 r8 tz k_j0 (bN 13 q_j0) k_j2 j2 k_j3 (bN 120 q_j3) k_j4 (bN 120 q_j4) k_j5 j5 k_j7 (bN 120 q_j7) k_j8 j8 au (nI nc) (nI np) (nI ne) (nI st0) q4 q5 q6 q7 q8 q9 q10 q11 q12 q13 q14 q15 q16 k_f4 f4 k_f5 (bN 7 q_f5) k_f6 (bN 7 q_f6) k_f7 f7 k_f8 (bN 4 q_f8) k_f9 (bN 2 q_f9) k_f10 f10 k_f11 f11 k_f12 f12 k_f13 f13 k_f14 f14 k_f15 f15 k_f16 f16 tzc (nI z_tzn) k_ftz z_ftz) (tz__t k_j0 k_j2 k_j3 k_j4 k_j5 k_j7 k_j8 k_f4 k_f5 k_f6 k_f7 k_f8 k_f9 k_f10 k_f11 k_f12 k_f13 k_f14 k_f15 k_f16 k_ftz) (va_A ((tz__w ti r0 (nI ln) r2 r3 r4 r5 (nI nr) r7 r8 tz k_j0 (bN 13 q_j0) k_j2 j2 k_j3 (bN 120 q_j3) k_j4 (bN 120 q_j4) k_j5 j5 k_j7 (bN 120 q_j7) k_j8 j8 au (nI nc) (nI np) (nI ne) (nI st0) q4 q5 q6 q7 q8 q9 q10 q11 q12 q13 q14 q15 q16 k_f4 f4 k_f5 (bN 7 q_f5) k_f6 (bN 7 q_f6) k_f7 f7 k_f8 (bN 4 q_f8) k_f9 (bN 2 q_f9) k_f10 f10 k_f11 f11 k_f12 f12 k_f13 f13 k_f14 f14 k_f15 f15 k_f16 f16 tzc (nI tzn) k_ftz ftz)) sz) t ∧ (z_tzn ≤ 5)) (va_A ((tz__w ti r0 (nI ln) r2 r3 r4 r5 (nI nr) r7 r8 tz k_j0 (bN 13 q_j0) k_j2 j2 k_j3 (bN 120 q_j3) k_j4 (bN 120 q_j4) k_j5 j5 k_j7 (bN 120 q_j7) k_j8 j8 au (nI nc) (nI np) (nI ne) (nI st0) q4 q5 q6 q7 q8 q9 q10 q11 q12 q13 q14 q15 q16 k_f4 f4 k_f5 (bN 7 q_f5) k_f6 (bN 7 q_f6) k_f7 f7 k_f8 (bN 4 q_f8) k_f9 (bN 2 q_f9) k_f10 f10 k_f11 f11 k_f12 f12 k_f13 f13 k_f14 f14 k_f15 f15 k_f16 f16 tzc (nI tzn) k_ftz ftz)) sz)) 0 0 (va_A ((tz__w ti r0 (nI ln) r2 r3 r4 r5 (nI nr) r7 r8 tz k_j0 (bN 13 q_j0) k_j2 j2 k_j3 (bN 120 q_j3) k_j4 (bN 120 q_j4) k_j5 j5 k_j7 (bN 120 q_j7) k_j8 j8 au (nI nc) (nI np) (nI ne) (nI st0) q4 q5 q6 q7 q8 q9 q10 q11 q12 q13 q14 q15 q16 k_f4 f4 k_f5 (bN 7 q_f5) k_f6 (bN 7 q_f6) k_f7 f7 k_f8 (bN 4 q_f8) k_f9 (bN 2 q_f9) k_f10 f10 k_f11 f11 k_f12 f12 k_f13 f13 k_f14 f14 k_f15 f15 k_f16 f16 tzc (nI tzn) k_ftz ftz)) sz) := by
  refine Met.ofW (cc := cX6_spanOf) (maxL := 6) (ret := (some .int)) (by decide) rfl ?_
  intro p e s m args below meth c s₁ B hml hv
  obtain ⟨rfl, rfl, hP, hK, hD0⟩ := hv
  have hx := B.exec
  have hb := B.bytes
  have hr := B.returns
  have hts := atoms_spec (ws := vs_C_6_spanOf) B.pre
  have v_1 := hts (.fieldLink RX6 84 "ClockReach$Automaton" "clocks" "I") (List.mem_cons_of_mem _ cm_376)
  have v_2 := hts (.fieldLink RX6 38 "ClockReach$Timing" "zone" "LClockReach$Zone;") (List.mem_cons_of_mem _ cm_404)
  have v_3 := hts (.fieldLink RX6 30 "ClockReach$Timing" "zeros" "[I") (List.mem_cons_of_mem _ cm_405)
  have v_9 := hts (.fieldLink RX6 60 "ClockReach$Automaton" "start" "I") (List.mem_cons_of_mem _ cm_373)
  have v_18 := hts (.fieldLink RX6 47 "ClockReach$Timing" "length" "I") (List.mem_cons_of_mem _ cm_366)
  have v_23 := hts (.constant RX6 106 (2147483647)) (List.mem_cons_of_mem _ cm_388)
  have v_24 := hts (.fieldLink RX6 73 "ClockReach$Automaton" "sources" "[I") (List.mem_cons_of_mem _ cm_374)
  have v_25 := hts (.fieldLink RX6 9 "ClockReach$Timing" "path" "[I") (List.mem_cons_of_mem _ cm_367)
  have hown : s.vm.findClass RX6 = some m.cls := findClass_of_methodNamed B.named
  have hlocks := B.notSynchronized
  have hiX0 : ∀ w ∈ wsX00, w ∈ vs_C_6_spanOf := fun _ h => List.mem_cons_of_mem _ (cm_X0 h)
  have hiX6 : ∀ w ∈ wsX60, w ∈ vs_C_6_spanOf := fun _ h => List.mem_cons_of_mem _ (cm_X6 h)
  have hD := hD0.self (sz := s.heap.size)
  generalize hAe : va_A ((tz__w ti r0 (nI ln) r2 r3 r4 r5 (nI nr) r7 r8 tz k_j0 (bN 13 q_j0) k_j2 j2 k_j3 (bN 120 q_j3) k_j4 (bN 120 q_j4) k_j5 j5 k_j7 (bN 120 q_j7) k_j8 j8 au (nI nc) (nI np) (nI ne) (nI st0) q4 q5 q6 q7 q8 q9 q10 q11 q12 q13 q14 q15 q16 k_f4 f4 k_f5 (bN 7 q_f5) k_f6 (bN 7 q_f6) k_f7 f7 k_f8 (bN 4 q_f8) k_f9 (bN 2 q_f9) k_f10 f10 k_f11 f11 k_f12 f12 k_f13 f13 k_f14 f14 k_f15 f15 k_f16 f16 tzc (nI tzn) k_ftz ftz)) s.heap.size = A at hD ⊢
  have hA : ∀ q : Nat, s.heap.size ≤ q → A q := fun q h => by rw [← hAe]; exact Or.inr h
  have hS : va_S A s.heap s.heap [] := va_S.rf
  have hl := lv_entry ([.ref ti, .ref au, .int p1]) (n := 6) (Nat.le_of_ble_eq_true rfl)
  rw [lg_entry_eq]
  generalize (lg_sl ([.ref ti, .ref au, .int p1]) ++ List.replicate (6 - (lg_sl ([.ref ti, .ref au, .int p1])).length) Slot.unset).toArray = ls at hl ⊢
  have hl : lv_has ls 6 [(0, .ref ti), (1, .ref au), (2, .int p1)] := hl
  refine lv_aload_n hx hb eX6_spanOf_0 rfl (lv_at hl 1 rfl) ?_
  refine va_get (D := (dC, dI)) (ci := 0) (v := .int (nI nc)) (C := RX0) (T := TX0) (N := 17) hx hb hts hiX0 hown hK hP 8 rfl rfl 0 (by decide) v_1 (fun _ h9 => h9) rfl eX6_spanOf_1 ?_
  refine lv_iconst (v := 1) hx hb eX6_spanOf_4 (by decide) ?_
  refine lv_iadd hx hb eX6_spanOf_5 ?_
  refine lv_topi (fun y_1 ey_1 => ?_)
  obtain rfl : y_1 = (nI (nc + 1)) := ey_1.trans (nI_add nc 1)
  refine lv_istore_n (lv' := [(3, .int (nI (nc + 1))), (0, .ref ti), (1, .ref au), (2, .int p1)]) hx hb eX6_spanOf_6 rfl hl (by decide) rfl (fun ls hl => ?_)
  refine lv_aload_n hx hb eX6_spanOf_7 rfl (lv_at hl 1 rfl) ?_
  refine va_get (D := (dC, dI)) (ci := 6) (v := .ref tz) (C := RX6) (T := TX6) (N := 10) hx hb hts hiX6 hown hK hP 0 rfl rfl 9 (by decide) v_2 (fun _ h9 => h9) rfl eX6_spanOf_8 ?_
  refine lv_iload_n hx hb eX6_spanOf_11 rfl (lv_at hl 0 rfl) ?_
  refine lv_iconst (v := 1) hx hb eX6_spanOf_12 (by decide) ?_
  refine lv_iadd hx hb eX6_spanOf_13 ?_
  refine lv_topi (fun y_2 ey_2 => ?_)
  obtain rfl : y_2 = (nI ((nc + 1) + 1)) := ey_2.trans (nI_add (nc + 1) 1)
  refine lv_aload_n hx hb eX6_spanOf_14 rfl (lv_at hl 1 rfl) ?_
  refine va_get (D := (dC, dI)) (ci := 6) (v := .ref r8) (C := RX6) (T := TX6) (N := 10) hx hb hts hiX6 hown hK hP 0 rfl rfl 8 (by decide) v_3 (fun _ h9 => h9) rfl eX6_spanOf_15 ?_
  have hPc : va_P (dC, dI) vwCl (zu25__w r8 k_j8 j8 tz tzc (nI tzn) k_ftz ftz) _ := hP.sub [7, 22, 23] rfl
  have hDc := hD.sub (ws' := (zu25__w r8 k_j8 j8 tz tzc (nI tzn) k_ftz ftz)) [7, 22, 23] (by decide) rfl
  have hKc : va_K (dC, dI) vwCl (zu25__t k_j8 k_ftz) s := hK.sub [6, 20] rfl
  have hFc := pu_free hDc hS hA
  refine va_callv (va_runV (As := [.int (nI ((nc + 1) + 1)), .ref r8]) (rest := []) ⟨hx, hb, hml, hown, hts⟩ (c_C_7_setPoint_25 l dC dI _ r8 k_j8 j8 tz tzc tzn k_ftz ftz ((nc + 1) + 1) htzn (by omega)) (cwV 2 hts g_C_6_spanOf_C_7_setPoint_25 rfl rfl rfl (by decide +kernel) ⟨Nat.le_of_ble_eq_true rfl, Nat.le_of_ble_eq_true rfl⟩) ⟨pu_bl, va_recv hK hP (ci := 7) (q0 := 22) rfl rfl, pu_in hPc hKc hDc⟩ rfl rfl hl.1 rfl (lv_room (Nat.le_of_ble_eq_true rfl)) eX6_spanOf_18 ⟨Nat.le_of_ble_eq_true rfl, Nat.le_of_ble_eq_true rfl⟩) hS (fun q _ h => hFc q h) hFc (fun u t H1 locs ht hvm hw hB hz1 hk1 hS => ?_)
  obtain ⟨z_fz_4, ⟨hP1, -, hD1⟩⟩ := hB
  rw [ht] at hP1
  obtain ⟨hP, hD⟩ := pu_put (ws' := (tz__w ti r0 (nI ln) r2 r3 r4 r5 (nI nr) r7 r8 tz k_j0 (bN 13 q_j0) k_j2 j2 k_j3 (bN 120 q_j3) k_j4 (bN 120 q_j4) k_j5 j5 k_j7 (bN 120 q_j7) k_j8 j8 au (nI nc) (nI np) (nI ne) (nI st0) q4 q5 q6 q7 q8 q9 q10 q11 q12 q13 q14 q15 q16 k_f4 f4 k_f5 (bN 7 q_f5) k_f6 (bN 7 q_f6) k_f7 f7 k_f8 (bN 4 q_f8) k_f9 (bN 2 q_f9) k_f10 f10 k_f11 f11 k_f12 f12 k_f13 f13 k_f14 f14 k_f15 f15 k_f16 f16 tzc (nI ((nc + 1) + 1)) k_ftz z_fz_4)) (w1 := (zu25__w r8 k_j8 j8 tz tzc (nI ((nc + 1) + 1)) k_ftz z_fz_4)) hP hD [7, 22, 23] rfl hk1 hP1 rfl rfl
  clear hP1 hD1 hFc hPc hDc hKc
  clear hk1 hz1 ht hvm
  generalize H1 = H at hP hS ⊢
  refine lv_aload_n hx hb eX6_spanOf_21 rfl (lv_at hl 2 rfl) ?_
  refine lv_aload_n hx hb eX6_spanOf_22 rfl (lv_at hl 1 rfl) ?_
  refine va_get (D := (dC, dI)) (ci := 6) (v := .ref tz) (C := RX6) (T := TX6) (N := 10) hx hb hts hiX6 hown hK hP 0 rfl rfl 9 (by decide) v_2 (fun _ h9 => h9) rfl eX6_spanOf_23 ?_
  refine lv_aload_n hx hb eX6_spanOf_26 rfl (lv_at hl 2 rfl) ?_
  refine va_get (D := (dC, dI)) (ci := 0) (v := .int (nI st0)) (C := RX0) (T := TX0) (N := 17) hx hb hts hiX0 hown hK hP 8 rfl rfl 3 (by decide) v_9 (fun _ h9 => h9) rfl eX6_spanOf_27 ?_
  refine va_calli (va_runS (As := [.int (nI st0)]) (rest := [.ref tz, .ref au]) ⟨hx, hb, hml, hown, hts⟩ (c_C_0_hostOfPlace l dC dI _ st0 hst0) (va_cwS 1 hts g_C_6_spanOf_C_0_hostOfPlace rfl rfl rfl (by decide +kernel) ⟨Nat.le_of_ble_eq_true rfl, Nat.le_of_ble_eq_true rfl⟩) ⟨pu_bl, pu_in (hP.sub [] rfl) (hK.sub [] rfl) (hD.sub [] (by decide) rfl)⟩ rfl rfl hl.1 rfl (lv_room (Nat.le_of_ble_eq_true rfl)) eX6_spanOf_30 ⟨Nat.le_of_ble_eq_true rfl, Nat.le_of_ble_eq_true rfl⟩) hS (fun q _ h => pu_fr hS hA q h) (pu_fr hS hA) (fun r_5 u t H1 locs ht hvm hw hB hz1 hk1 hS => ?_)
  have hP := pu_keep hP hk1
  clear hk1 hz1 ht hvm
  generalize H1 = H at hP hS ⊢
  obtain rfl : r_5 = nI (14 + st0) := hw
  refine lv_iconst (v := 0) hx hb eX6_spanOf_33 (by decide) ?_
  have hPc : va_P (dC, dI) vwCl (az25__w au (nI nc) (nI np) (nI ne) (nI st0) q4 q5 q6 q7 q8 q9 q10 q11 q12 q13 q14 q15 q16 k_f4 f4 k_f5 (bN 7 q_f5) k_f6 (bN 7 q_f6) k_f7 f7 k_f8 (bN 4 q_f8) k_f9 (bN 2 q_f9) k_f10 f10 k_f11 f11 k_f12 f12 k_f13 f13 k_f14 f14 k_f15 f15 k_f16 f16 tz tzc (nI ((nc + 1) + 1)) k_ftz z_fz_4) _ := hP.sub [8, 9, 10, 11, 12, 13, 14, 15, 16, 17, 18, 19, 20, 21, 22, 23] rfl
  have hDc := hD.sub (ws' := (az25__w au (nI nc) (nI np) (nI ne) (nI st0) q4 q5 q6 q7 q8 q9 q10 q11 q12 q13 q14 q15 q16 k_f4 f4 k_f5 (bN 7 q_f5) k_f6 (bN 7 q_f6) k_f7 f7 k_f8 (bN 4 q_f8) k_f9 (bN 2 q_f9) k_f10 f10 k_f11 f11 k_f12 f12 k_f13 f13 k_f14 f14 k_f15 f15 k_f16 f16 tz tzc (nI ((nc + 1) + 1)) k_ftz z_fz_4)) [8, 9, 10, 11, 12, 13, 14, 15, 16, 17, 18, 19, 20, 21, 22, 23] (by decide) rfl
  have hKc : va_K (dC, dI) vwCl (az25__t k_f4 k_f5 k_f6 k_f7 k_f8 k_f9 k_f10 k_f11 k_f12 k_f13 k_f14 k_f15 k_f16 k_ftz) s := hK.sub [7, 8, 9, 10, 11, 12, 13, 14, 15, 16, 17, 18, 19, 20] rfl
  have hFc := pu_free hDc hS hA
  refine va_calli (va_runV (As := [.ref tz, .int (nI (14 + st0)), .int 0]) (rest := []) ⟨hx, hb, hml, hown, hts⟩ (c_C_0_narrowTo_25 l dC dI _ au nc np ne (nI st0) q4 q5 q6 q7 q8 q9 q10 q11 q12 q13 q14 q15 q16 k_f4 f4 k_f5 q_f5 k_f6 q_f6 k_f7 f7 k_f8 q_f8 k_f9 q_f9 k_f10 f10 k_f11 f11 k_f12 f12 k_f13 f13 k_f14 f14 k_f15 f15 k_f16 f16 tz tzc ((nc + 1) + 1) k_ftz z_fz_4 (14 + st0) 0 hnc hnp hne (Or.inr ⟨st0, hst0, rfl⟩) (by omega) (by omega)) (cwV 3 hts g_C_6_spanOf_C_0_narrowTo_25 rfl rfl rfl (by decide +kernel) ⟨Nat.le_of_ble_eq_true rfl, Nat.le_of_ble_eq_true rfl⟩) ⟨pu_bl, va_recv hK hP (ci := 0) (q0 := 8) rfl rfl, pu_in hPc hKc hDc⟩ rfl rfl hl.1 rfl (lv_room (Nat.le_of_ble_eq_true rfl)) eX6_spanOf_34 ⟨Nat.le_of_ble_eq_true rfl, Nat.le_of_ble_eq_true rfl⟩) hS (fun q _ h => hFc q h) hFc (fun r_6 u t H1 locs ht hvm hw hB hz1 hk1 hS => ?_)
  obtain ⟨z_fz_7, ⟨hP1, -, hD1⟩⟩ := hB
  rw [ht] at hP1
  obtain ⟨hP, hD⟩ := pu_put (ws' := (tz__w ti r0 (nI ln) r2 r3 r4 r5 (nI nr) r7 r8 tz k_j0 (bN 13 q_j0) k_j2 j2 k_j3 (bN 120 q_j3) k_j4 (bN 120 q_j4) k_j5 j5 k_j7 (bN 120 q_j7) k_j8 j8 au (nI nc) (nI np) (nI ne) (nI st0) q4 q5 q6 q7 q8 q9 q10 q11 q12 q13 q14 q15 q16 k_f4 f4 k_f5 (bN 7 q_f5) k_f6 (bN 7 q_f6) k_f7 f7 k_f8 (bN 4 q_f8) k_f9 (bN 2 q_f9) k_f10 f10 k_f11 f11 k_f12 f12 k_f13 f13 k_f14 f14 k_f15 f15 k_f16 f16 tzc (nI ((nc + 1) + 1)) k_ftz z_fz_7)) (w1 := (az25__w au (nI nc) (nI np) (nI ne) (nI st0) q4 q5 q6 q7 q8 q9 q10 q11 q12 q13 q14 q15 q16 k_f4 f4 k_f5 (bN 7 q_f5) k_f6 (bN 7 q_f6) k_f7 f7 k_f8 (bN 4 q_f8) k_f9 (bN 2 q_f9) k_f10 f10 k_f11 f11 k_f12 f12 k_f13 f13 k_f14 f14 k_f15 f15 k_f16 f16 tz tzc (nI ((nc + 1) + 1)) k_ftz z_fz_7)) hP hD [8, 9, 10, 11, 12, 13, 14, 15, 16, 17, 18, 19, 20, 21, 22, 23] rfl hk1 hP1 rfl rfl
  clear hP1 hD1 hFc hPc hDc hKc
  clear hk1 hz1 ht hvm
  generalize H1 = H at hP hS ⊢
  obtain ⟨u_8, hu_8, rfl⟩ := hw
  refine lv_if_ne (tgt := 42) hx hb eX6_spanOf_37 (by decide) (fun c_9 => ?_) (fun c_9 => ?_)
  · have c_9 : ¬ u_8 = 0 := fun z => c_9 ((nI_eq (a := u_8) (b := 0) (Nat.lt_of_le_of_lt hu_8 (Nat.le_of_ble_eq_true rfl)) (Nat.le_of_ble_eq_true rfl)).mpr z)
    refine lv_iconst (v := 0) hx hb eX6_spanOf_42 (by decide) ?_
    refine lv_istore (lv' := [(4, .int 0), (3, .int (nI (nc + 1))), (0, .ref ti), (1, .ref au), (2, .int p1)]) hx hb eX6_spanOf_43 hl (by decide) rfl (fun ls hl => ?_)
    refine pu_while (fun nn H locs ls => ∃ (g_12 : Nat → Int32) (g_13 : Nat), nn = 119 - g_13 ∧ g_13 ≤ 119 ∧ va_P (dC, dI) vwCl (tz__w ti r0 (nI ln) r2 r3 r4 r5 (nI nr) r7 r8 tz k_j0 (bN 13 q_j0) k_j2 j2 k_j3 (bN 120 q_j3) k_j4 (bN 120 q_j4) k_j5 j5 k_j7 (bN 120 q_j7) k_j8 j8 au (nI nc) (nI np) (nI ne) (nI st0) q4 q5 q6 q7 q8 q9 q10 q11 q12 q13 q14 q15 q16 k_f4 f4 k_f5 (bN 7 q_f5) k_f6 (bN 7 q_f6) k_f7 f7 k_f8 (bN 4 q_f8) k_f9 (bN 2 q_f9) k_f10 f10 k_f11 f11 k_f12 f12 k_f13 f13 k_f14 f14 k_f15 f15 k_f16 f16 tzc (nI ((nc + 1) + 1)) k_ftz g_12) H ∧ va_D A (tz__w ti r0 (nI ln) r2 r3 r4 r5 (nI nr) r7 r8 tz k_j0 (bN 13 q_j0) k_j2 j2 k_j3 (bN 120 q_j3) k_j4 (bN 120 q_j4) k_j5 j5 k_j7 (bN 120 q_j7) k_j8 j8 au (nI nc) (nI np) (nI ne) (nI st0) q4 q5 q6 q7 q8 q9 q10 q11 q12 q13 q14 q15 q16 k_f4 f4 k_f5 (bN 7 q_f5) k_f6 (bN 7 q_f6) k_f7 f7 k_f8 (bN 4 q_f8) k_f9 (bN 2 q_f9) k_f10 f10 k_f11 f11 k_f12 f12 k_f13 f13 k_f14 f14 k_f15 f15 k_f16 f16 tzc (nI ((nc + 1) + 1)) k_ftz g_12) ∧ va_S A s.heap H locs ∧ lv_has ls 6 [(0, .ref ti), (1, .ref au), (2, .int p1), (3, .int (nI (nc + 1))), (4, .int (nI g_13))]) 45 ?_ _ _ _ _ ⟨z_fz_7, 0, rfl, (Nat.le_of_ble_eq_true rfl), hP, hD, hS, lv_sub hl [2, 3, 4, 1, 0] rfl⟩
    rintro nn ih_14 H locs ls ⟨g_12, g_13, rfl, hg_13, hP, hD, hS, hl⟩
    refine lv_iload hx hb eX6_spanOf_45 (lv_at hl 4 rfl) ?_
    refine lv_aload_n hx hb eX6_spanOf_47 rfl (lv_at hl 0 rfl) ?_
    refine va_get (D := (dC, dI)) (ci := 6) (v := .int (nI ln)) (C := RX6) (T := TX6) (N := 10) hx hb hts hiX6 hown hK hP 0 rfl rfl 1 (by decide) v_18 (fun _ h9 => h9) rfl eX6_spanOf_48 ?_
    refine lv_icmp_ge (tgt := 115) hx hb eX6_spanOf_51 (by decide) (fun c_15 => ?_) (fun c_15 => ?_)
    · have c_15 : ln ≤ g_13 := (nI_leI (a := ln) (b := g_13) (Nat.lt_of_le_of_lt hln (Nat.le_of_ble_eq_true rfl)) (Nat.lt_of_le_of_lt hg_13 (Nat.le_of_ble_eq_true rfl))).mp c_15
      refine lv_aload_n hx hb eX6_spanOf_115 rfl (lv_at hl 0 rfl) ?_
      refine va_get (D := (dC, dI)) (ci := 6) (v := .ref tz) (C := RX6) (T := TX6) (N := 10) hx hb hts hiX6 hown hK hP 0 rfl rfl 9 (by decide) v_2 (fun _ h9 => h9) rfl eX6_spanOf_116 ?_
      refine lv_iconst (v := 0) hx hb eX6_spanOf_119 (by decide) ?_
      refine lv_iload_n hx hb eX6_spanOf_120 rfl (lv_at hl 3 rfl) ?_
      have hPc : va_P (dC, dI) vwCl (z25__w tz tzc (nI ((nc + 1) + 1)) k_ftz g_12) _ := hP.sub [22, 23] rfl
      have hDc := hD.sub (ws' := (z25__w tz tzc (nI ((nc + 1) + 1)) k_ftz g_12)) [22, 23] (by decide) rfl
      have hKc : va_K (dC, dI) vwCl (z25__t k_ftz) s := hK.sub [20] rfl
      refine va_calli (va_runV (As := [.int 0, .int (nI (nc + 1))]) (rest := []) ⟨hx, hb, hml, hown, hts⟩ (c_C_7_cellOf_25 l dC dI _ tz tzc ((nc + 1) + 1) k_ftz g_12 0 (nc + 1) (by omega) (Nat.le_of_ble_eq_true rfl) (by omega)) (cwV 2 hts g_C_6_spanOf_C_7_cellOf_25 rfl rfl rfl (by decide +kernel) ⟨Nat.le_of_ble_eq_true rfl, Nat.le_of_ble_eq_true rfl⟩) ⟨pu_bl, va_recv hK hP (ci := 7) (q0 := 22) rfl rfl, pu_in hPc hKc hDc⟩ rfl rfl hl.1 rfl (lv_room (Nat.le_of_ble_eq_true rfl)) eX6_spanOf_121 ⟨Nat.le_of_ble_eq_true rfl, Nat.le_of_ble_eq_true rfl⟩) hS (fun q _ h => pu_fr hS hA q h) (pu_fr hS hA) (fun r_16 u t H1 locs ht hvm hw hB hz1 hk1 hS => ?_)
      have hP := pu_keep hP hk1
      clear hk1 hz1 ht hvm
      generalize H1 = H at hP hS ⊢
      refine lv_istore (lv' := [(4, .int r_16), (0, .ref ti), (1, .ref au), (2, .int p1), (3, .int (nI (nc + 1)))]) hx hb eX6_spanOf_124 hl (by decide) rfl (fun ls hl => ?_)
      refine lv_aload_n hx hb eX6_spanOf_126 rfl (lv_at hl 1 rfl) ?_
      refine va_get (D := (dC, dI)) (ci := 6) (v := .ref tz) (C := RX6) (T := TX6) (N := 10) hx hb hts hiX6 hown hK hP 0 rfl rfl 9 (by decide) v_2 (fun _ h9 => h9) rfl eX6_spanOf_127 ?_
      refine lv_iload_n hx hb eX6_spanOf_130 rfl (lv_at hl 4 rfl) ?_
      refine lv_iconst (v := 0) hx hb eX6_spanOf_131 (by decide) ?_
      have hPc : va_P (dC, dI) vwCl (z25__w tz tzc (nI ((nc + 1) + 1)) k_ftz g_12) _ := hP.sub [22, 23] rfl
      have hDc := hD.sub (ws' := (z25__w tz tzc (nI ((nc + 1) + 1)) k_ftz g_12)) [22, 23] (by decide) rfl
      have hKc : va_K (dC, dI) vwCl (z25__t k_ftz) s := hK.sub [20] rfl
      refine va_calli (va_runV (As := [.int (nI (nc + 1)), .int 0]) (rest := []) ⟨hx, hb, hml, hown, hts⟩ (c_C_7_cellOf_25 l dC dI _ tz tzc ((nc + 1) + 1) k_ftz g_12 (nc + 1) 0 (by omega) (by omega) (Nat.le_of_ble_eq_true rfl)) (cwV 2 hts g_C_6_spanOf_C_7_cellOf_25 rfl rfl rfl (by decide +kernel) ⟨Nat.le_of_ble_eq_true rfl, Nat.le_of_ble_eq_true rfl⟩) ⟨pu_bl, va_recv hK hP (ci := 7) (q0 := 22) rfl rfl, pu_in hPc hKc hDc⟩ rfl rfl hl.1 rfl (lv_room (Nat.le_of_ble_eq_true rfl)) eX6_spanOf_132 ⟨Nat.le_of_ble_eq_true rfl, Nat.le_of_ble_eq_true rfl⟩) hS (fun q _ h => pu_fr hS hA q h) (pu_fr hS hA) (fun r_17 u t H1 locs ht hvm hw hB hz1 hk1 hS => ?_)
      have hP := pu_keep hP hk1
      clear hk1 hz1 ht hvm
      generalize H1 = H at hP hS ⊢
      refine lv_istore (lv' := [(5, .int r_17), (4, .int r_16), (0, .ref ti), (1, .ref au), (2, .int p1), (3, .int (nI (nc + 1)))]) hx hb eX6_spanOf_135 hl (by decide) rfl (fun ls hl => ?_)
      refine lv_iload_n hx hb eX6_spanOf_137 rfl (lv_at hl 4 rfl) ?_
      by_cases w_18 : p1 = 0
      · subst w_18
        refine lv_tableIn (tgt := 168) (off := 30) hx hb eX6_spanOf_138 (by decide) (by decide) rfl (by decide) ?_
        refine lv_iload hx hb eX6_spanOf_168 (lv_at hl 1 rfl) ?_
        refine lv_iconst (v := 1) hx hb eX6_spanOf_170 (by decide) ?_
        refine lv_ishr hx hb eX6_spanOf_171 ?_
        refine lv_topi (fun y_19 ey_19 => ?_)
        refine lv_ineg hx hb eX6_spanOf_172 ?_
        refine lv_topi (fun y_20 ey_20 => ?_)
        exact W.iret (v := y_20) hx hb hr (fun t ht hW => ⟨⟨y_20, (), rfl, trivial, ⟨g_12, ((nc + 1) + 1), ⟨by rw [ht]; exact hP, va_K.moved hW.alike hK, hD⟩, (by omega)⟩⟩, hS.F ht⟩) hS.2.2 eX6_spanOf_173
      by_cases w_21 : p1 = 1
      · subst w_21
        refine lv_tableIn (tgt := 174) (off := 36) hx hb eX6_spanOf_138 (by decide) (by decide) rfl (by decide) ?_
        refine lv_iload hx hb eX6_spanOf_174 (lv_at hl 1 rfl) ?_
        refine lv_iconst (v := 1) hx hb eX6_spanOf_176 (by decide) ?_
        refine lv_iand hx hb eX6_spanOf_177 ?_
        refine lv_topi (fun y_22 ey_22 => ?_)
        exact W.iret (v := y_22) hx hb hr (fun t ht hW => ⟨⟨y_22, (), rfl, trivial, ⟨g_12, ((nc + 1) + 1), ⟨by rw [ht]; exact hP, va_K.moved hW.alike hK, hD⟩, (by omega)⟩⟩, hS.F ht⟩) hS.2.2 eX6_spanOf_178
      by_cases w_23 : p1 = 2
      · subst w_23
        refine lv_tableIn (tgt := 179) (off := 41) hx hb eX6_spanOf_138 (by decide) (by decide) rfl (by decide) ?_
        refine lv_iload hx hb eX6_spanOf_179 (lv_at hl 0 rfl) ?_
        refine lv_ldc hx hb hown v_23 eX6_spanOf_181 ?_
        refine lv_icmp_ne (tgt := 191) hx hb eX6_spanOf_183 (by decide) (fun c_24 => ?_) (fun c_24 => ?_)
        · refine lv_iload hx hb eX6_spanOf_191 (lv_at hl 0 rfl) ?_
          refine lv_iconst (v := 1) hx hb eX6_spanOf_193 (by decide) ?_
          refine lv_ishr hx hb eX6_spanOf_194 ?_
          refine lv_topi (fun y_25 ey_25 => ?_)
          exact W.iret (v := y_25) hx hb hr (fun t ht hW => ⟨⟨y_25, (), rfl, trivial, ⟨g_12, ((nc + 1) + 1), ⟨by rw [ht]; exact hP, va_K.moved hW.alike hK, hD⟩, (by omega)⟩⟩, hS.F ht⟩) hS.2.2 eX6_spanOf_195
        · refine lv_ldc hx hb hown v_23 eX6_spanOf_186 ?_
          refine lv_goto (tgt := 195) hx hb eX6_spanOf_188 (by decide) ?_
          exact W.iret (v := 2147483647) hx hb hr (fun t ht hW => ⟨⟨2147483647, (), rfl, trivial, ⟨g_12, ((nc + 1) + 1), ⟨by rw [ht]; exact hP, va_K.moved hW.alike hK, hD⟩, (by omega)⟩⟩, hS.F ht⟩) hS.2.2 eX6_spanOf_195
      by_cases w_26 : p1 = 3
      · subst w_26
        refine lv_tableIn (tgt := 196) (off := 58) hx hb eX6_spanOf_138 (by decide) (by decide) rfl (by decide) ?_
        refine lv_iload hx hb eX6_spanOf_196 (lv_at hl 0 rfl) ?_
        refine lv_ldc hx hb hown v_23 eX6_spanOf_198 ?_
        refine lv_icmp_ne (tgt := 207) hx hb eX6_spanOf_200 (by decide) (fun c_27 => ?_) (fun c_27 => ?_)
        · refine lv_iload hx hb eX6_spanOf_207 (lv_at hl 0 rfl) ?_
          refine lv_iconst (v := 1) hx hb eX6_spanOf_209 (by decide) ?_
          refine lv_iand hx hb eX6_spanOf_210 ?_
          refine lv_topi (fun y_28 ey_28 => ?_)
          exact W.iret (v := y_28) hx hb hr (fun t ht hW => ⟨⟨y_28, (), rfl, trivial, ⟨g_12, ((nc + 1) + 1), ⟨by rw [ht]; exact hP, va_K.moved hW.alike hK, hD⟩, (by omega)⟩⟩, hS.F ht⟩) hS.2.2 eX6_spanOf_211
        · refine lv_iconst (v := 0) hx hb eX6_spanOf_203 (by decide) ?_
          refine lv_goto (tgt := 211) hx hb eX6_spanOf_204 (by decide) ?_
          exact W.iret (v := 0) hx hb hr (fun t ht hW => ⟨⟨0, (), rfl, trivial, ⟨g_12, ((nc + 1) + 1), ⟨by rw [ht]; exact hP, va_K.moved hW.alike hK, hD⟩, (by omega)⟩⟩, hS.F ht⟩) hS.2.2 eX6_spanOf_211
      refine lv_tableOut (tgt := 212) hx hb eX6_spanOf_138 (by
          have zw_18 : Int32.toInt p1 ≠ 0 := fun g => w_18 ((fa_eq _ _).mpr g)
          have zw_21 : Int32.toInt p1 ≠ 1 := fun g => w_21 ((fa_eq _ _).mpr g)
          have zw_23 : Int32.toInt p1 ≠ 2 := fun g => w_23 ((fa_eq _ _).mpr g)
          have zw_26 : Int32.toInt p1 ≠ 3 := fun g => w_26 ((fa_eq _ _).mpr g)
          omega) (by decide) ?_
      refine lv_iconst (v := (-1)) hx hb eX6_spanOf_212 (by decide) ?_
      exact W.iret (v := (-1)) hx hb hr (fun t ht hW => ⟨⟨(-1), (), rfl, trivial, ⟨g_12, ((nc + 1) + 1), ⟨by rw [ht]; exact hP, va_K.moved hW.alike hK, hD⟩, (by omega)⟩⟩, hS.F ht⟩) hS.2.2 eX6_spanOf_213
    · have c_15 : ¬ ln ≤ g_13 := fun z => c_15 ((nI_leI (a := ln) (b := g_13) (Nat.lt_of_le_of_lt hln (Nat.le_of_ble_eq_true rfl)) (Nat.lt_of_le_of_lt hg_13 (Nat.le_of_ble_eq_true rfl))).mpr z)
      refine lv_aload_n hx hb eX6_spanOf_54 rfl (lv_at hl 1 rfl) ?_
      refine lv_aload_n hx hb eX6_spanOf_55 rfl (lv_at hl 0 rfl) ?_
      refine va_get (D := (dC, dI)) (ci := 6) (v := .ref tz) (C := RX6) (T := TX6) (N := 10) hx hb hts hiX6 hown hK hP 0 rfl rfl 9 (by decide) v_2 (fun _ h9 => h9) rfl eX6_spanOf_56 ?_
      refine lv_aload_n hx hb eX6_spanOf_59 rfl (lv_at hl 1 rfl) ?_
      refine va_get (D := (dC, dI)) (ci := 0) (v := .ref q5) (C := RX0) (T := TX0) (N := 17) hx hb hts hiX0 hown hK hP 8 rfl rfl 5 (by decide) v_24 (fun _ h9 => h9) rfl eX6_spanOf_60 ?_
      refine lv_aload_n hx hb eX6_spanOf_63 rfl (lv_at hl 0 rfl) ?_
      refine va_get (D := (dC, dI)) (ci := 6) (v := .ref r0) (C := RX6) (T := TX6) (N := 10) hx hb hts hiX6 hown hK hP 0 rfl rfl 0 (by decide) v_25 (fun _ h9 => h9) rfl eX6_spanOf_64 ?_
      refine lv_iload hx hb eX6_spanOf_67 (lv_at hl 4 rfl) ?_
      refine va_iald hx hb hK hP 1 0 rfl rfl (vp_in_nI (n := g_13) (Nat.lt_of_le_of_lt hg_13 (Nat.le_of_ble_eq_true rfl)) (Nat.le_of_ble_eq_true rfl)) eX6_spanOf_69 ?_
      refine lv_topi (fun y_29 ey_29 => ?_)
      obtain ⟨u_30, hu_30, qu_30⟩ := bN_get 13 q_j0 (((nI g_13) : Int32).toNatClampNeg)
      obtain rfl : y_29 = nI u_30 := ey_29.trans qu_30
      refine va_iald hx hb hK hP 10 8 rfl rfl (vp_in_nI (n := u_30) (Nat.lt_of_le_of_lt hu_30 (Nat.le_of_ble_eq_true rfl)) (Nat.le_of_ble_eq_true rfl)) eX6_spanOf_70 ?_
      refine lv_topi (fun y_31 ey_31 => ?_)
      obtain ⟨u_32, hu_32, qu_32⟩ := bN_get 7 q_f5 (((nI u_30) : Int32).toNatClampNeg)
      obtain rfl : y_31 = nI u_32 := ey_31.trans qu_32
      have hPc : va_P (dC, dI) vwCl (az25__w au (nI nc) (nI np) (nI ne) (nI st0) q4 q5 q6 q7 q8 q9 q10 q11 q12 q13 q14 q15 q16 k_f4 f4 k_f5 (bN 7 q_f5) k_f6 (bN 7 q_f6) k_f7 f7 k_f8 (bN 4 q_f8) k_f9 (bN 2 q_f9) k_f10 f10 k_f11 f11 k_f12 f12 k_f13 f13 k_f14 f14 k_f15 f15 k_f16 f16 tz tzc (nI ((nc + 1) + 1)) k_ftz g_12) _ := hP.sub [8, 9, 10, 11, 12, 13, 14, 15, 16, 17, 18, 19, 20, 21, 22, 23] rfl
      have hDc := hD.sub (ws' := (az25__w au (nI nc) (nI np) (nI ne) (nI st0) q4 q5 q6 q7 q8 q9 q10 q11 q12 q13 q14 q15 q16 k_f4 f4 k_f5 (bN 7 q_f5) k_f6 (bN 7 q_f6) k_f7 f7 k_f8 (bN 4 q_f8) k_f9 (bN 2 q_f9) k_f10 f10 k_f11 f11 k_f12 f12 k_f13 f13 k_f14 f14 k_f15 f15 k_f16 f16 tz tzc (nI ((nc + 1) + 1)) k_ftz g_12)) [8, 9, 10, 11, 12, 13, 14, 15, 16, 17, 18, 19, 20, 21, 22, 23] (by decide) rfl
      have hKc : va_K (dC, dI) vwCl (az25__t k_f4 k_f5 k_f6 k_f7 k_f8 k_f9 k_f10 k_f11 k_f12 k_f13 k_f14 k_f15 k_f16 k_ftz) s := hK.sub [7, 8, 9, 10, 11, 12, 13, 14, 15, 16, 17, 18, 19, 20] rfl
      have hFc := pu_free hDc hS hA
      refine va_callv (va_runV (As := [.ref tz, .int (nI u_32)]) (rest := []) ⟨hx, hb, hml, hown, hts⟩ (c_C_0_stayIn_25 l dC dI _ au nc np ne (nI st0) q4 q5 q6 q7 q8 q9 q10 q11 q12 q13 q14 q15 q16 k_f4 f4 k_f5 q_f5 k_f6 q_f6 k_f7 f7 k_f8 q_f8 k_f9 q_f9 k_f10 f10 k_f11 f11 k_f12 f12 k_f13 f13 k_f14 f14 k_f15 f15 k_f16 f16 tz tzc ((nc + 1) + 1) k_ftz g_12 u_32 hnc hnp hne (Or.inr ⟨st0, hst0, rfl⟩) (by omega) hu_32) (cwV 2 hts g_C_6_spanOf_C_0_stayIn_25 rfl rfl rfl (by decide +kernel) ⟨Nat.le_of_ble_eq_true rfl, Nat.le_of_ble_eq_true rfl⟩) ⟨pu_bl, va_recv hK hP (ci := 0) (q0 := 8) rfl rfl, pu_in hPc hKc hDc⟩ rfl rfl hl.1 rfl (lv_room (Nat.le_of_ble_eq_true rfl)) eX6_spanOf_71 ⟨Nat.le_of_ble_eq_true rfl, Nat.le_of_ble_eq_true rfl⟩) hS (fun q _ h => hFc q h) hFc (fun u t H1 locs ht hvm hw hB hz1 hk1 hS => ?_)
      obtain ⟨z_fz_34, ⟨hP1, -, hD1⟩⟩ := hB
      rw [ht] at hP1
      obtain ⟨hP, hD⟩ := pu_put (ws' := (tz__w ti r0 (nI ln) r2 r3 r4 r5 (nI nr) r7 r8 tz k_j0 (bN 13 q_j0) k_j2 j2 k_j3 (bN 120 q_j3) k_j4 (bN 120 q_j4) k_j5 j5 k_j7 (bN 120 q_j7) k_j8 j8 au (nI nc) (nI np) (nI ne) (nI st0) q4 q5 q6 q7 q8 q9 q10 q11 q12 q13 q14 q15 q16 k_f4 f4 k_f5 (bN 7 q_f5) k_f6 (bN 7 q_f6) k_f7 f7 k_f8 (bN 4 q_f8) k_f9 (bN 2 q_f9) k_f10 f10 k_f11 f11 k_f12 f12 k_f13 f13 k_f14 f14 k_f15 f15 k_f16 f16 tzc (nI ((nc + 1) + 1)) k_ftz z_fz_34)) (w1 := (az25__w au (nI nc) (nI np) (nI ne) (nI st0) q4 q5 q6 q7 q8 q9 q10 q11 q12 q13 q14 q15 q16 k_f4 f4 k_f5 (bN 7 q_f5) k_f6 (bN 7 q_f6) k_f7 f7 k_f8 (bN 4 q_f8) k_f9 (bN 2 q_f9) k_f10 f10 k_f11 f11 k_f12 f12 k_f13 f13 k_f14 f14 k_f15 f15 k_f16 f16 tz tzc (nI ((nc + 1) + 1)) k_ftz z_fz_34)) hP hD [8, 9, 10, 11, 12, 13, 14, 15, 16, 17, 18, 19, 20, 21, 22, 23] rfl hk1 hP1 rfl rfl
      clear hP1 hD1 hFc hPc hDc hKc
      clear hk1 hz1 ht hvm
      generalize H1 = H at hP hS ⊢
      refine lv_aload_n hx hb eX6_spanOf_74 rfl (lv_at hl 1 rfl) ?_
      refine lv_aload_n hx hb eX6_spanOf_75 rfl (lv_at hl 0 rfl) ?_
      refine va_get (D := (dC, dI)) (ci := 6) (v := .ref tz) (C := RX6) (T := TX6) (N := 10) hx hb hts hiX6 hown hK hP 0 rfl rfl 9 (by decide) v_2 (fun _ h9 => h9) rfl eX6_spanOf_76 ?_
      refine lv_aload_n hx hb eX6_spanOf_79 rfl (lv_at hl 0 rfl) ?_
      refine va_get (D := (dC, dI)) (ci := 6) (v := .ref r0) (C := RX6) (T := TX6) (N := 10) hx hb hts hiX6 hown hK hP 0 rfl rfl 0 (by decide) v_25 (fun _ h9 => h9) rfl eX6_spanOf_80 ?_
      refine lv_iload hx hb eX6_spanOf_83 (lv_at hl 4 rfl) ?_
      refine va_iald hx hb hK hP 1 0 rfl rfl (vp_in_nI (n := g_13) (Nat.lt_of_le_of_lt hg_13 (Nat.le_of_ble_eq_true rfl)) (Nat.le_of_ble_eq_true rfl)) eX6_spanOf_85 ?_
      refine lv_topi (fun y_35 ey_35 => ?_)
      obtain rfl : y_35 = nI u_30 := ey_35.trans qu_30
      have hPc : va_P (dC, dI) vwCl (az25__w au (nI nc) (nI np) (nI ne) (nI st0) q4 q5 q6 q7 q8 q9 q10 q11 q12 q13 q14 q15 q16 k_f4 f4 k_f5 (bN 7 q_f5) k_f6 (bN 7 q_f6) k_f7 f7 k_f8 (bN 4 q_f8) k_f9 (bN 2 q_f9) k_f10 f10 k_f11 f11 k_f12 f12 k_f13 f13 k_f14 f14 k_f15 f15 k_f16 f16 tz tzc (nI ((nc + 1) + 1)) k_ftz z_fz_34) _ := hP.sub [8, 9, 10, 11, 12, 13, 14, 15, 16, 17, 18, 19, 20, 21, 22, 23] rfl
      have hDc := hD.sub (ws' := (az25__w au (nI nc) (nI np) (nI ne) (nI st0) q4 q5 q6 q7 q8 q9 q10 q11 q12 q13 q14 q15 q16 k_f4 f4 k_f5 (bN 7 q_f5) k_f6 (bN 7 q_f6) k_f7 f7 k_f8 (bN 4 q_f8) k_f9 (bN 2 q_f9) k_f10 f10 k_f11 f11 k_f12 f12 k_f13 f13 k_f14 f14 k_f15 f15 k_f16 f16 tz tzc (nI ((nc + 1) + 1)) k_ftz z_fz_34)) [8, 9, 10, 11, 12, 13, 14, 15, 16, 17, 18, 19, 20, 21, 22, 23] (by decide) rfl
      have hKc : va_K (dC, dI) vwCl (az25__t k_f4 k_f5 k_f6 k_f7 k_f8 k_f9 k_f10 k_f11 k_f12 k_f13 k_f14 k_f15 k_f16 k_ftz) s := hK.sub [7, 8, 9, 10, 11, 12, 13, 14, 15, 16, 17, 18, 19, 20] rfl
      have hFc := pu_free hDc hS hA
      refine va_calli (va_runV (As := [.ref tz, .int (nI u_30)]) (rest := []) ⟨hx, hb, hml, hown, hts⟩ (c_C_0_opensIn_25 l dC dI _ au nc np ne (nI st0) q4 q5 q6 q7 q8 q9 q10 q11 q12 q13 q14 q15 q16 k_f4 f4 k_f5 q_f5 k_f6 q_f6 k_f7 f7 k_f8 q_f8 k_f9 q_f9 k_f10 f10 k_f11 f11 k_f12 f12 k_f13 f13 k_f14 f14 k_f15 f15 k_f16 f16 tz tzc ((nc + 1) + 1) k_ftz z_fz_34 u_30 hnc hnp hne (Or.inr ⟨st0, hst0, rfl⟩) (by omega) hu_30) (cwV 2 hts g_C_6_spanOf_C_0_opensIn_25 rfl rfl rfl (by decide +kernel) ⟨Nat.le_of_ble_eq_true rfl, Nat.le_of_ble_eq_true rfl⟩) ⟨pu_bl, va_recv hK hP (ci := 0) (q0 := 8) rfl rfl, pu_in hPc hKc hDc⟩ rfl rfl hl.1 rfl (lv_room (Nat.le_of_ble_eq_true rfl)) eX6_spanOf_86 ⟨Nat.le_of_ble_eq_true rfl, Nat.le_of_ble_eq_true rfl⟩) hS (fun q _ h => hFc q h) hFc (fun r_37 u t H1 locs ht hvm hw hB hz1 hk1 hS => ?_)
      obtain ⟨z_fz_38, ⟨hP1, -, hD1⟩⟩ := hB
      rw [ht] at hP1
      obtain ⟨hP, hD⟩ := pu_put (ws' := (tz__w ti r0 (nI ln) r2 r3 r4 r5 (nI nr) r7 r8 tz k_j0 (bN 13 q_j0) k_j2 j2 k_j3 (bN 120 q_j3) k_j4 (bN 120 q_j4) k_j5 j5 k_j7 (bN 120 q_j7) k_j8 j8 au (nI nc) (nI np) (nI ne) (nI st0) q4 q5 q6 q7 q8 q9 q10 q11 q12 q13 q14 q15 q16 k_f4 f4 k_f5 (bN 7 q_f5) k_f6 (bN 7 q_f6) k_f7 f7 k_f8 (bN 4 q_f8) k_f9 (bN 2 q_f9) k_f10 f10 k_f11 f11 k_f12 f12 k_f13 f13 k_f14 f14 k_f15 f15 k_f16 f16 tzc (nI ((nc + 1) + 1)) k_ftz z_fz_38)) (w1 := (az25__w au (nI nc) (nI np) (nI ne) (nI st0) q4 q5 q6 q7 q8 q9 q10 q11 q12 q13 q14 q15 q16 k_f4 f4 k_f5 (bN 7 q_f5) k_f6 (bN 7 q_f6) k_f7 f7 k_f8 (bN 4 q_f8) k_f9 (bN 2 q_f9) k_f10 f10 k_f11 f11 k_f12 f12 k_f13 f13 k_f14 f14 k_f15 f15 k_f16 f16 tz tzc (nI ((nc + 1) + 1)) k_ftz z_fz_38)) hP hD [8, 9, 10, 11, 12, 13, 14, 15, 16, 17, 18, 19, 20, 21, 22, 23] rfl hk1 hP1 rfl rfl
      clear hP1 hD1 hFc hPc hDc hKc
      clear hk1 hz1 ht hvm
      generalize H1 = H at hP hS ⊢
      obtain ⟨u_39, hu_39, rfl⟩ := hw
      refine lv_if_ne (tgt := 94) hx hb eX6_spanOf_89 (by decide) (fun c_40 => ?_) (fun c_40 => ?_)
      · have c_40 : ¬ u_39 = 0 := fun z => c_40 ((nI_eq (a := u_39) (b := 0) (Nat.lt_of_le_of_lt hu_39 (Nat.le_of_ble_eq_true rfl)) (Nat.le_of_ble_eq_true rfl)).mpr z)
        refine lv_aload_n hx hb eX6_spanOf_94 rfl (lv_at hl 1 rfl) ?_
        refine lv_aload_n hx hb eX6_spanOf_95 rfl (lv_at hl 0 rfl) ?_
        refine va_get (D := (dC, dI)) (ci := 6) (v := .ref tz) (C := RX6) (T := TX6) (N := 10) hx hb hts hiX6 hown hK hP 0 rfl rfl 9 (by decide) v_2 (fun _ h9 => h9) rfl eX6_spanOf_96 ?_
        refine lv_aload_n hx hb eX6_spanOf_99 rfl (lv_at hl 0 rfl) ?_
        refine va_get (D := (dC, dI)) (ci := 6) (v := .ref r0) (C := RX6) (T := TX6) (N := 10) hx hb hts hiX6 hown hK hP 0 rfl rfl 0 (by decide) v_25 (fun _ h9 => h9) rfl eX6_spanOf_100 ?_
        refine lv_iload hx hb eX6_spanOf_103 (lv_at hl 4 rfl) ?_
        refine va_iald hx hb hK hP 1 0 rfl rfl (vp_in_nI (n := g_13) (Nat.lt_of_le_of_lt hg_13 (Nat.le_of_ble_eq_true rfl)) (Nat.le_of_ble_eq_true rfl)) eX6_spanOf_105 ?_
        refine lv_topi (fun y_41 ey_41 => ?_)
        obtain rfl : y_41 = nI u_30 := ey_41.trans qu_30
        have hPc : va_P (dC, dI) vwCl (az25__w au (nI nc) (nI np) (nI ne) (nI st0) q4 q5 q6 q7 q8 q9 q10 q11 q12 q13 q14 q15 q16 k_f4 f4 k_f5 (bN 7 q_f5) k_f6 (bN 7 q_f6) k_f7 f7 k_f8 (bN 4 q_f8) k_f9 (bN 2 q_f9) k_f10 f10 k_f11 f11 k_f12 f12 k_f13 f13 k_f14 f14 k_f15 f15 k_f16 f16 tz tzc (nI ((nc + 1) + 1)) k_ftz z_fz_38) _ := hP.sub [8, 9, 10, 11, 12, 13, 14, 15, 16, 17, 18, 19, 20, 21, 22, 23] rfl
        have hDc := hD.sub (ws' := (az25__w au (nI nc) (nI np) (nI ne) (nI st0) q4 q5 q6 q7 q8 q9 q10 q11 q12 q13 q14 q15 q16 k_f4 f4 k_f5 (bN 7 q_f5) k_f6 (bN 7 q_f6) k_f7 f7 k_f8 (bN 4 q_f8) k_f9 (bN 2 q_f9) k_f10 f10 k_f11 f11 k_f12 f12 k_f13 f13 k_f14 f14 k_f15 f15 k_f16 f16 tz tzc (nI ((nc + 1) + 1)) k_ftz z_fz_38)) [8, 9, 10, 11, 12, 13, 14, 15, 16, 17, 18, 19, 20, 21, 22, 23] (by decide) rfl
        have hKc : va_K (dC, dI) vwCl (az25__t k_f4 k_f5 k_f6 k_f7 k_f8 k_f9 k_f10 k_f11 k_f12 k_f13 k_f14 k_f15 k_f16 k_ftz) s := hK.sub [7, 8, 9, 10, 11, 12, 13, 14, 15, 16, 17, 18, 19, 20] rfl
        have hFc := pu_free hDc hS hA
        refine va_callv (va_runV (As := [.ref tz, .int (nI u_30)]) (rest := []) ⟨hx, hb, hml, hown, hts⟩ (c_C_0_setBackIn_25 l dC dI _ au nc np ne (nI st0) q4 q5 q6 q7 q8 q9 q10 q11 q12 q13 q14 q15 q16 k_f4 f4 k_f5 q_f5 k_f6 q_f6 k_f7 f7 k_f8 q_f8 k_f9 q_f9 k_f10 f10 k_f11 f11 k_f12 f12 k_f13 f13 k_f14 f14 k_f15 f15 k_f16 f16 tz tzc ((nc + 1) + 1) k_ftz z_fz_38 u_30 hnc hnp hne (Or.inr ⟨st0, hst0, rfl⟩) (by omega) hu_30) (cwV 2 hts g_C_6_spanOf_C_0_setBackIn_25 rfl rfl rfl (by decide +kernel) ⟨Nat.le_of_ble_eq_true rfl, Nat.le_of_ble_eq_true rfl⟩) ⟨pu_bl, va_recv hK hP (ci := 0) (q0 := 8) rfl rfl, pu_in hPc hKc hDc⟩ rfl rfl hl.1 rfl (lv_room (Nat.le_of_ble_eq_true rfl)) eX6_spanOf_106 ⟨Nat.le_of_ble_eq_true rfl, Nat.le_of_ble_eq_true rfl⟩) hS (fun q _ h => hFc q h) hFc (fun u t H1 locs ht hvm hw hB hz1 hk1 hS => ?_)
        obtain ⟨z_fz_44, ⟨hP1, -, hD1⟩⟩ := hB
        rw [ht] at hP1
        obtain ⟨hP, hD⟩ := pu_put (ws' := (tz__w ti r0 (nI ln) r2 r3 r4 r5 (nI nr) r7 r8 tz k_j0 (bN 13 q_j0) k_j2 j2 k_j3 (bN 120 q_j3) k_j4 (bN 120 q_j4) k_j5 j5 k_j7 (bN 120 q_j7) k_j8 j8 au (nI nc) (nI np) (nI ne) (nI st0) q4 q5 q6 q7 q8 q9 q10 q11 q12 q13 q14 q15 q16 k_f4 f4 k_f5 (bN 7 q_f5) k_f6 (bN 7 q_f6) k_f7 f7 k_f8 (bN 4 q_f8) k_f9 (bN 2 q_f9) k_f10 f10 k_f11 f11 k_f12 f12 k_f13 f13 k_f14 f14 k_f15 f15 k_f16 f16 tzc (nI ((nc + 1) + 1)) k_ftz z_fz_44)) (w1 := (az25__w au (nI nc) (nI np) (nI ne) (nI st0) q4 q5 q6 q7 q8 q9 q10 q11 q12 q13 q14 q15 q16 k_f4 f4 k_f5 (bN 7 q_f5) k_f6 (bN 7 q_f6) k_f7 f7 k_f8 (bN 4 q_f8) k_f9 (bN 2 q_f9) k_f10 f10 k_f11 f11 k_f12 f12 k_f13 f13 k_f14 f14 k_f15 f15 k_f16 f16 tz tzc (nI ((nc + 1) + 1)) k_ftz z_fz_44)) hP hD [8, 9, 10, 11, 12, 13, 14, 15, 16, 17, 18, 19, 20, 21, 22, 23] rfl hk1 hP1 rfl rfl
        clear hP1 hD1 hFc hPc hDc hKc
        clear hk1 hz1 ht hvm
        generalize H1 = H at hP hS ⊢
        refine lv_iinc (v := (nI (g_13 + 1))) (lv' := [(4, .int (nI (g_13 + 1))), (0, .ref ti), (1, .ref au), (2, .int p1), (3, .int (nI (nc + 1)))]) hx hb eX6_spanOf_109 hl (k := 4) rfl (nI_1 _) (by decide) rfl (fun ls hl => ?_)
        refine lv_goto (tgt := 45) hx hb eX6_spanOf_112 (by decide) ?_
        exact ih_14 (119 - (g_13 + 1)) (by omega) _ _ _ ⟨z_fz_44, (g_13 + 1), rfl, (by omega), hP, hD, hS, lv_sub hl [1, 2, 3, 4, 0] rfl⟩
      · have c_40 : u_39 = 0 := (nI_eq (a := u_39) (b := 0) (Nat.lt_of_le_of_lt hu_39 (Nat.le_of_ble_eq_true rfl)) (Nat.le_of_ble_eq_true rfl)).mp c_40
        refine lv_iconst (v := (-1)) hx hb eX6_spanOf_92 (by decide) ?_
        exact W.iret (v := (-1)) hx hb hr (fun t ht hW => ⟨⟨(-1), (), rfl, trivial, ⟨z_fz_38, ((nc + 1) + 1), ⟨by rw [ht]; exact hP, va_K.moved hW.alike hK, hD⟩, (by omega)⟩⟩, hS.F ht⟩) hS.2.2 eX6_spanOf_93
  · have c_9 : u_8 = 0 := (nI_eq (a := u_8) (b := 0) (Nat.lt_of_le_of_lt hu_8 (Nat.le_of_ble_eq_true rfl)) (Nat.le_of_ble_eq_true rfl)).mp c_9
    refine lv_iconst (v := (-1)) hx hb eX6_spanOf_40 (by decide) ?_
    exact W.iret (v := (-1)) hx hb hr (fun t ht hW => ⟨⟨(-1), (), rfl, trivial, ⟨z_fz_7, ((nc + 1) + 1), ⟨by rw [ht]; exact hP, va_K.moved hW.alike hK, hD⟩, (by omega)⟩⟩, hS.F ht⟩) hS.2.2 eX6_spanOf_41
theorem eX6_loadRun_0 : decode cX6_loadRun 0 = .ok (.aload_n 0, 1) := by decide +kernel
theorem eX6_loadRun_1 : decode cX6_loadRun 1 = .ok (.aload_n 1, 1) := by decide +kernel
theorem eX6_loadRun_2 : decode cX6_loadRun 2 = .ok (.getfield 42, 3) := by decide +kernel
theorem eX6_loadRun_5 : decode cX6_loadRun 5 = .ok (.iload_n 2, 1) := by decide +kernel
theorem eX6_loadRun_6 : decode cX6_loadRun 6 = .ok (.iaload, 1) := by decide +kernel
theorem eX6_loadRun_7 : decode cX6_loadRun 7 = .ok (.putfield 47, 3) := by decide +kernel
theorem eX6_loadRun_10 : decode cX6_loadRun 10 = .ok (.iload_n 2, 1) := by decide +kernel
theorem eX6_loadRun_11 : decode cX6_loadRun 11 = .ok (.istore_n 3, 1) := by decide +kernel
theorem eX6_loadRun_12 : decode cX6_loadRun 12 = .ok (.aload_n 0, 1) := by decide +kernel
theorem eX6_loadRun_13 : decode cX6_loadRun 13 = .ok (.getfield 47, 3) := by decide +kernel
theorem eX6_loadRun_16 : decode cX6_loadRun 16 = .ok (.iconst 1, 1) := by decide +kernel
theorem eX6_loadRun_17 : decode cX6_loadRun 17 = .ok (.isub, 1) := by decide +kernel
theorem eX6_loadRun_18 : decode cX6_loadRun 18 = .ok (.istore 4, 2) := by decide +kernel
theorem eX6_loadRun_20 : decode cX6_loadRun 20 = .ok (.iload 4, 2) := by decide +kernel
theorem eX6_loadRun_22 : decode cX6_loadRun 22 = .ok (.ifCond .lt 29, 3) := by decide +kernel
theorem eX6_loadRun_25 : decode cX6_loadRun 25 = .ok (.aload_n 0, 1) := by decide +kernel
theorem eX6_loadRun_26 : decode cX6_loadRun 26 = .ok (.getfield 9, 3) := by decide +kernel
theorem eX6_loadRun_29 : decode cX6_loadRun 29 = .ok (.iload 4, 2) := by decide +kernel
theorem eX6_loadRun_31 : decode cX6_loadRun 31 = .ok (.aload_n 1, 1) := by decide +kernel
theorem eX6_loadRun_32 : decode cX6_loadRun 32 = .ok (.getfield 51, 3) := by decide +kernel
theorem eX6_loadRun_35 : decode cX6_loadRun 35 = .ok (.iload_n 3, 1) := by decide +kernel
theorem eX6_loadRun_36 : decode cX6_loadRun 36 = .ok (.iaload, 1) := by decide +kernel
theorem eX6_loadRun_37 : decode cX6_loadRun 37 = .ok (.iastore, 1) := by decide +kernel
theorem eX6_loadRun_38 : decode cX6_loadRun 38 = .ok (.aload_n 1, 1) := by decide +kernel
theorem eX6_loadRun_39 : decode cX6_loadRun 39 = .ok (.getfield 54, 3) := by decide +kernel
theorem eX6_loadRun_42 : decode cX6_loadRun 42 = .ok (.iload_n 3, 1) := by decide +kernel
theorem eX6_loadRun_43 : decode cX6_loadRun 43 = .ok (.iaload, 1) := by decide +kernel
theorem eX6_loadRun_44 : decode cX6_loadRun 44 = .ok (.istore_n 3, 1) := by decide +kernel
theorem eX6_loadRun_45 : decode cX6_loadRun 45 = .ok (.iinc 4 (-1), 3) := by decide +kernel
theorem eX6_loadRun_48 : decode cX6_loadRun 48 = .ok (.goto (-28), 3) := by decide +kernel
theorem eX6_loadRun_51 : decode cX6_loadRun 51 = .ok (.return_, 1) := by decide +kernel
abbrev vs_C_6_loadRun : List Cond := .code yX6_loadRun cX6_loadRun 5 none :: CM
set_option maxHeartbeats 4000000 in
set_option maxRecDepth 100000 in
theorem c_C_6_loadRun (l : Launch) (dC : Nat → ClassId) (dI : Nat → Nat → Nat) (sz : Nat) (ti : Nat) (r0 : Nat) (ln : Nat) (r2 : Nat) (r3 : Nat) (r4 : Nat) (r5 : Nat) (nr : Nat) (r7 : Nat) (r8 : Nat) (tz : Nat) (k_j0 : ClassId) (q_j0 : Nat → Nat) (k_j2 : ClassId) (j2 : Nat → Int32) (k_j3 : ClassId) (q_j3 : Nat → Nat) (k_j4 : ClassId) (q_j4 : Nat → Nat) (k_j5 : ClassId) (j5 : Nat → Int32) (k_j7 : ClassId) (q_j7 : Nat → Nat) (k_j8 : ClassId) (j8 : Nat → Int32) (g : Nat) (gz : Nat) (g1 : Nat) (g2 : Nat) (g3 : Nat) (g4 : Nat) (g5 : Nat) (gc : Nat) (gfull : Nat) (gx : Int32) (gway : Int32) (gav : Int32) (ggoal : Int32) (gfound : Nat) (gl : Nat) (gsz : Nat) (g16 : Nat) (g17 : Nat) (k_fs2 : ClassId) (fs2 : Nat → Int32) (k_fs3 : ClassId) (fs3 : Nat → Int32) (k_fs4 : ClassId) (fs4 : Nat → Int32) (a1 : Nat) (hln : ln ≤ 119) (hnr : nr ≤ 1920) (hgc : gc ≤ 120) (hgfull : gfull ≤ 1) (hgfound : gfound ≤ 1) (hgl : gl ≤ 1) (hgsz : gsz ≤ 4) (ha1 : a1 ≤ 119) (hq0 : gz_ok gc fs2 fs3 fs4) (hq1 : a1 < gc) : Met l yX6_loadRun vs_C_6_loadRun ({ frames := 0, cells := 0, slots := 0, locals := 0 }) (va_Pc [.ref ti, .ref g, .int (nI a1)] (pu_B (dC, dI) (tg__w ti r0 (nI ln) r2 r3 r4 r5 (nI nr) r7 r8 tz k_j0 (bN 13 q_j0) k_j2 j2 k_j3 (bN 120 q_j3) k_j4 (bN 120 q_j4) k_j5 j5 k_j7 (bN 120 q_j7) k_j8 j8 g gz g1 g2 g3 g4 g5 (nI gc) (nI gfull) gx gway gav ggoal (nI gfound) 120 (nI gl) (nI gsz) g16 g17 k_fs2 fs2 k_fs3 fs3 k_fs4 fs4) (tg__t k_j0 k_j2 k_j3 k_j4 k_j5 k_j7 k_j8 k_fs2 k_fs3 k_fs4) sz)) (va_Qv (fun (_ : Unit) => True) (fun _ t => ∃ (z_j0 : Nat → Nat) (z_ln : Nat), pu_E (dC, dI) (tg__w ti r0 (nI z_ln) r2 r3 r4 r5 (nI nr) r7 r8 tz k_j0 (bN 13 z_j0) k_j2 j2 k_j3 (bN 120 q_j3) k_j4 (bN 120 q_j4) k_j5 j5 k_j7 (bN 120 q_j7) k_j8 j8 g gz g1 g2 g3 g4 g5 (nI gc) (nI gfull) gx gway gav ggoal (nI gfound) 120 (nI gl) (nI gsz) g16 g17 k_fs2 fs2 k_fs3 fs3 k_fs4 fs4) (tg__t k_j0 k_j2 k_j3 k_j4 k_j5 k_j7 k_j8 k_fs2 k_fs3 k_fs4) (va_A ((tg__w ti r0 (nI ln) r2 r3 r4 r5 (nI nr) r7 r8 tz k_j0 (bN 13 q_j0) k_j2 j2 k_j3 (bN 120 q_j3) k_j4 (bN 120 q_j4) k_j5 j5 k_j7 (bN 120 q_j7) k_j8 j8 g gz g1 g2 g3 g4 g5 (nI gc) (nI gfull) gx gway gav ggoal (nI gfound) 120 (nI gl) (nI gsz) g16 g17 k_fs2 fs2 k_fs3 fs3 k_fs4 fs4)) sz) t ∧ (z_ln ≤ 119)) (va_A ((tg__w ti r0 (nI ln) r2 r3 r4 r5 (nI nr) r7 r8 tz k_j0 (bN 13 q_j0) k_j2 j2 k_j3 (bN 120 q_j3) k_j4 (bN 120 q_j4) k_j5 j5 k_j7 (bN 120 q_j7) k_j8 j8 g gz g1 g2 g3 g4 g5 (nI gc) (nI gfull) gx gway gav ggoal (nI gfound) 120 (nI gl) (nI gsz) g16 g17 k_fs2 fs2 k_fs3 fs3 k_fs4 fs4)) sz)) 0 0 (va_A ((tg__w ti r0 (nI ln) r2 r3 r4 r5 (nI nr) r7 r8 tz k_j0 (bN 13 q_j0) k_j2 j2 k_j3 (bN 120 q_j3) k_j4 (bN 120 q_j4) k_j5 j5 k_j7 (bN 120 q_j7) k_j8 j8 g gz g1 g2 g3 g4 g5 (nI gc) (nI gfull) gx gway gav ggoal (nI gfound) 120 (nI gl) (nI gsz) g16 g17 k_fs2 fs2 k_fs3 fs3 k_fs4 fs4)) sz) := by
  refine Met.ofW (cc := cX6_loadRun) (maxL := 5) (ret := none) (by decide) rfl ?_
  intro p e s m args below meth c s₁ B hml hv
  obtain ⟨rfl, rfl, hP, hK, hD0⟩ := hv
  have hx := B.exec
  have hb := B.bytes
  have hr := B.returns
  have hts := atoms_spec (ws := vs_C_6_loadRun) B.pre
  have v_1 := hts (.fieldLink RX6 42 "ClockReach$Graph" "depths" "[I") (List.mem_cons_of_mem _ cm_365)
  have v_2 := hts (.fieldLink RX6 47 "ClockReach$Timing" "length" "I") (List.mem_cons_of_mem _ cm_366)
  have v_3 := hts (.fieldLink RX6 9 "ClockReach$Timing" "path" "[I") (List.mem_cons_of_mem _ cm_367)
  have v_4 := hts (.fieldLink RX6 51 "ClockReach$Graph" "entries" "[I") (List.mem_cons_of_mem _ cm_368)
  have v_5 := hts (.fieldLink RX6 54 "ClockReach$Graph" "parents" "[I") (List.mem_cons_of_mem _ cm_369)
  have hown : s.vm.findClass RX6 = some m.cls := findClass_of_methodNamed B.named
  have hlocks := B.notSynchronized
  have hiX1 : ∀ w ∈ wsX10, w ∈ vs_C_6_loadRun := fun _ h => List.mem_cons_of_mem _ (cm_X1 h)
  have hiX6 : ∀ w ∈ wsX60, w ∈ vs_C_6_loadRun := fun _ h => List.mem_cons_of_mem _ (cm_X6 h)
  have hD := hD0.self (sz := s.heap.size)
  generalize hAe : va_A ((tg__w ti r0 (nI ln) r2 r3 r4 r5 (nI nr) r7 r8 tz k_j0 (bN 13 q_j0) k_j2 j2 k_j3 (bN 120 q_j3) k_j4 (bN 120 q_j4) k_j5 j5 k_j7 (bN 120 q_j7) k_j8 j8 g gz g1 g2 g3 g4 g5 (nI gc) (nI gfull) gx gway gav ggoal (nI gfound) 120 (nI gl) (nI gsz) g16 g17 k_fs2 fs2 k_fs3 fs3 k_fs4 fs4)) s.heap.size = A at hD ⊢
  have hA : ∀ q : Nat, s.heap.size ≤ q → A q := fun q h => by rw [← hAe]; exact Or.inr h
  have hS : va_S A s.heap s.heap [] := va_S.rf
  have hl := lv_entry ([.ref ti, .ref g, .int (nI a1)]) (n := 5) (Nat.le_of_ble_eq_true rfl)
  rw [lg_entry_eq]
  generalize (lg_sl ([.ref ti, .ref g, .int (nI a1)]) ++ List.replicate (5 - (lg_sl ([.ref ti, .ref g, .int (nI a1)])).length) Slot.unset).toArray = ls at hl ⊢
  have hl : lv_has ls 5 [(0, .ref ti), (1, .ref g), (2, .int (nI a1))] := hl
  refine lv_aload_n hx hb eX6_loadRun_0 rfl (lv_at hl 0 rfl) ?_
  refine lv_aload_n hx hb eX6_loadRun_1 rfl (lv_at hl 1 rfl) ?_
  refine va_get (D := (dC, dI)) (ci := 1) (v := .ref g4) (C := RX1) (T := TX1) (N := 18) hx hb hts hiX1 hown hK hP 8 rfl rfl 4 (by decide) v_1 (fun _ h9 => h9) rfl eX6_loadRun_2 ?_
  refine lv_iload_n hx hb eX6_loadRun_5 rfl (lv_at hl 2 rfl) ?_
  obtain ⟨d_1, hd_1, fd_1, gd_1⟩ := gz_get hq0 (i := a1) (by omega) (by omega)
  refine va_iald hx hb hK hP 11 9 rfl rfl (vp_in_nI (n := a1) (Nat.lt_of_le_of_lt ha1 (Nat.le_of_ble_eq_true rfl)) (Nat.le_of_ble_eq_true rfl)) eX6_loadRun_6 ?_
  refine lv_topi (fun y_2 ey_2 => ?_)
  obtain rfl : y_2 = nI d_1 := ey_2.trans fd_1
  refine va_put (D := (dC, dI)) (ci := 6) (v := .int (nI d_1)) (ty := .int) (C := RX6) (T := TX6) (N := 10) hx hb hts hiX6 tyX6 tyX6_ok nmX6 hown hK hP hD hS 0 rfl rfl 1 (by decide) v_2 (fun _ h9 => h9) rfl (by decide +kernel) rfl rfl (Nat.le_of_ble_eq_true rfl) eX6_loadRun_7 (fun H locs hP hD hS => ?_)
  have hP : va_P (dC, dI) vwCl (tg__w ti r0 (nI d_1) r2 r3 r4 r5 (nI nr) r7 r8 tz k_j0 (bN 13 q_j0) k_j2 j2 k_j3 (bN 120 q_j3) k_j4 (bN 120 q_j4) k_j5 j5 k_j7 (bN 120 q_j7) k_j8 j8 g gz g1 g2 g3 g4 g5 (nI gc) (nI gfull) gx gway gav ggoal (nI gfound) 120 (nI gl) (nI gsz) g16 g17 k_fs2 fs2 k_fs3 fs3 k_fs4 fs4) H := hP
  have hD : va_D A (tg__w ti r0 (nI d_1) r2 r3 r4 r5 (nI nr) r7 r8 tz k_j0 (bN 13 q_j0) k_j2 j2 k_j3 (bN 120 q_j3) k_j4 (bN 120 q_j4) k_j5 j5 k_j7 (bN 120 q_j7) k_j8 j8 g gz g1 g2 g3 g4 g5 (nI gc) (nI gfull) gx gway gav ggoal (nI gfound) 120 (nI gl) (nI gsz) g16 g17 k_fs2 fs2 k_fs3 fs3 k_fs4 fs4) := hD
  refine lv_iload_n hx hb eX6_loadRun_10 rfl (lv_at hl 2 rfl) ?_
  refine lv_istore_n (lv' := [(3, .int (nI a1)), (0, .ref ti), (1, .ref g), (2, .int (nI a1))]) hx hb eX6_loadRun_11 rfl hl (by decide) rfl (fun ls hl => ?_)
  refine lv_aload_n hx hb eX6_loadRun_12 rfl (lv_at hl 1 rfl) ?_
  refine va_get (D := (dC, dI)) (ci := 6) (v := .int (nI d_1)) (C := RX6) (T := TX6) (N := 10) hx hb hts hiX6 hown hK hP 0 rfl rfl 1 (by decide) v_2 (fun _ h9 => h9) rfl eX6_loadRun_13 ?_
  refine lv_iconst (v := 1) hx hb eX6_loadRun_16 (by decide) ?_
  refine lv_isub hx hb eX6_loadRun_17 ?_
  refine lv_istore (lv' := [(4, .int ((nI d_1) - 1)), (3, .int (nI a1)), (0, .ref ti), (1, .ref g), (2, .int (nI a1))]) hx hb eX6_loadRun_18 hl (by decide) rfl (fun ls hl => ?_)
  refine pu_while (fun nn H locs ls => ∃ (kk_3 ss_4 : Nat) (q_5 : Nat → Nat), nn = kk_3 + 0 ∧ ss_4 < gc ∧ kk_3 ≤ 119 ∧ fs4 ss_4 = nI kk_3 ∧ va_P (dC, dI) vwCl (tg__w ti r0 (nI d_1) r2 r3 r4 r5 (nI nr) r7 r8 tz k_j0 (bN 13 q_5) k_j2 j2 k_j3 (bN 120 q_j3) k_j4 (bN 120 q_j4) k_j5 j5 k_j7 (bN 120 q_j7) k_j8 j8 g gz g1 g2 g3 g4 g5 (nI gc) (nI gfull) gx gway gav ggoal (nI gfound) 120 (nI gl) (nI gsz) g16 g17 k_fs2 fs2 k_fs3 fs3 k_fs4 fs4) H ∧ va_D A (tg__w ti r0 (nI d_1) r2 r3 r4 r5 (nI nr) r7 r8 tz k_j0 (bN 13 q_5) k_j2 j2 k_j3 (bN 120 q_j3) k_j4 (bN 120 q_j4) k_j5 j5 k_j7 (bN 120 q_j7) k_j8 j8 g gz g1 g2 g3 g4 g5 (nI gc) (nI gfull) gx gway gav ggoal (nI gfound) 120 (nI gl) (nI gsz) g16 g17 k_fs2 fs2 k_fs3 fs3 k_fs4 fs4) ∧ va_S A s.heap H locs ∧ lv_has ls 5 [(0, .ref ti), (1, .ref g), (3, .int (nI ss_4)), (4, .int (nI kk_3 - 1))]) 20 ?_ _ _ _ _ ⟨d_1, a1, q_j0, rfl, by omega, by omega, by assumption, hP, hD, hS, lv_sub hl [2, 3, 1, 0] rfl⟩
  rintro nn ih_6 H locs ls ⟨kk_3, ss_4, q_5, hnn, hss_4, hkk_3, fkk_3, hP, hD, hS, hl⟩
  rcases kk_3 with _ | kk_3
  · rw [pu_k0] at hl
    refine lv_iload hx hb eX6_loadRun_20 (lv_at hl 3 rfl) ?_
    refine lv_if_lt (tgt := 51) hx hb eX6_loadRun_22 (by decide) (fun _ => ?_) (fun z => absurd z (by decide))
    exact W.vret hx hb hr (fun t ht hW => ⟨⟨(), rfl, trivial, ⟨q_5, d_1, ⟨by rw [ht]; exact hP, va_K.moved hW.alike hK, hD⟩, (by omega)⟩⟩, hS.F ht⟩) hS.2.2 eX6_loadRun_51
  · rw [nI_pred] at hl
    obtain ⟨pp_7, ee_8, hpp_7, hee_8, xpp_7, ypp_7, zpp_7⟩ := gz_up hq0 hss_4 (by omega) fkk_3 (by omega)
    refine lv_iload hx hb eX6_loadRun_20 (lv_at hl 3 rfl) ?_
    refine lv_if_lt (tgt := 51) hx hb eX6_loadRun_22 (by decide) (fun c_9 => ?_) (fun c_9 => ?_)
    · have c_9 : kk_3 < 0 := (nI_ltI (a := kk_3) (b := 0) (by omega) (Nat.le_of_ble_eq_true rfl)).mp c_9
      exfalso
      omega
    · have c_9 : ¬ kk_3 < 0 := fun z => c_9 ((nI_ltI (a := kk_3) (b := 0) (by omega) (Nat.le_of_ble_eq_true rfl)).mpr z)
      refine lv_aload_n hx hb eX6_loadRun_25 rfl (lv_at hl 0 rfl) ?_
      refine va_get (D := (dC, dI)) (ci := 6) (v := .ref r0) (C := RX6) (T := TX6) (N := 10) hx hb hts hiX6 hown hK hP 0 rfl rfl 0 (by decide) v_3 (fun _ h9 => h9) rfl eX6_loadRun_26 ?_
      refine lv_iload hx hb eX6_loadRun_29 (lv_at hl 3 rfl) ?_
      refine lv_aload_n hx hb eX6_loadRun_31 rfl (lv_at hl 1 rfl) ?_
      refine va_get (D := (dC, dI)) (ci := 1) (v := .ref g3) (C := RX1) (T := TX1) (N := 18) hx hb hts hiX1 hown hK hP 8 rfl rfl 3 (by decide) v_4 (fun _ h9 => h9) rfl eX6_loadRun_32 ?_
      refine lv_iload_n hx hb eX6_loadRun_35 rfl (lv_at hl 2 rfl) ?_
      refine va_iald hx hb hK hP 10 8 rfl rfl (vp_in_nI (n := ss_4) (by omega) (Nat.le_of_ble_eq_true rfl)) eX6_loadRun_36 ?_
      refine lv_topi (fun y_10 ey_10 => ?_)
      obtain rfl : y_10 = nI ee_8 := ey_10.trans ypp_7
      refine va_iast hx hb hK hP hD hS 1 0 rfl rfl (vp_in_nI (n := kk_3) (by omega) (Nat.le_of_ble_eq_true rfl)) eX6_loadRun_37 (fun H locs hP hD hS => ?_)
      obtain ⟨q_11, eq_11, kq_11⟩ := bN_up 13 q_5 (((nI kk_3) : Int32).toNatClampNeg) (v := ee_8) (by omega)
      have hP : va_P (dC, dI) vwCl (tg__w ti r0 (nI d_1) r2 r3 r4 r5 (nI nr) r7 r8 tz k_j0 (bN 13 q_11) k_j2 j2 k_j3 (bN 120 q_j3) k_j4 (bN 120 q_j4) k_j5 j5 k_j7 (bN 120 q_j7) k_j8 j8 g gz g1 g2 g3 g4 g5 (nI gc) (nI gfull) gx gway gav ggoal (nI gfound) 120 (nI gl) (nI gsz) g16 g17 k_fs2 fs2 k_fs3 fs3 k_fs4 fs4) H := by rw [← eq_11]; exact hP
      have hD : va_D A (tg__w ti r0 (nI d_1) r2 r3 r4 r5 (nI nr) r7 r8 tz k_j0 (bN 13 q_11) k_j2 j2 k_j3 (bN 120 q_j3) k_j4 (bN 120 q_j4) k_j5 j5 k_j7 (bN 120 q_j7) k_j8 j8 g gz g1 g2 g3 g4 g5 (nI gc) (nI gfull) gx gway gav ggoal (nI gfound) 120 (nI gl) (nI gsz) g16 g17 k_fs2 fs2 k_fs3 fs3 k_fs4 fs4) := by rw [← eq_11]; exact hD
      refine lv_aload_n hx hb eX6_loadRun_38 rfl (lv_at hl 1 rfl) ?_
      refine va_get (D := (dC, dI)) (ci := 1) (v := .ref g2) (C := RX1) (T := TX1) (N := 18) hx hb hts hiX1 hown hK hP 8 rfl rfl 2 (by decide) v_5 (fun _ h9 => h9) rfl eX6_loadRun_39 ?_
      refine lv_iload_n hx hb eX6_loadRun_42 rfl (lv_at hl 2 rfl) ?_
      refine va_iald hx hb hK hP 9 7 rfl rfl (vp_in_nI (n := ss_4) (by omega) (Nat.le_of_ble_eq_true rfl)) eX6_loadRun_43 ?_
      refine lv_topi (fun y_12 ey_12 => ?_)
      obtain rfl : y_12 = nI pp_7 := ey_12.trans xpp_7
      refine lv_istore_n (lv' := [(3, .int (nI pp_7)), (0, .ref ti), (1, .ref g), (4, .int (nI kk_3))]) hx hb eX6_loadRun_44 rfl hl (by decide) rfl (fun ls hl => ?_)
      refine lv_iinc (v := (nI kk_3 - 1)) (lv' := [(4, .int (nI kk_3 - 1)), (3, .int (nI pp_7)), (0, .ref ti), (1, .ref g)]) hx hb eX6_loadRun_45 hl (k := 3) rfl (pu_decm _) (by decide) rfl (fun ls hl => ?_)
      refine lv_goto (tgt := 20) hx hb eX6_loadRun_48 (by decide) ?_
      exact ih_6 kk_3 (by omega) _ _ _ ⟨kk_3, pp_7, q_11, rfl, by omega, by omega, by assumption, hP, hD, hS, lv_sub hl [2, 3, 1, 0] rfl⟩
