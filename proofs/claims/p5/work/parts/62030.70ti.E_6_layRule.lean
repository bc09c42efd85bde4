theorem eX6_layRule_0 : decode cX6_layRule 0 = .ok (.aload_n 0, 1) := by decide +kernel
theorem eX6_layRule_1 : decode cX6_layRule 1 = .ok (.getfield 57, 3) := by decide +kernel
theorem eX6_layRule_4 : decode cX6_layRule 4 = .ok (.sipush 1920, 3) := by decide +kernel
theorem eX6_layRule_7 : decode cX6_layRule 7 = .ok (.if_icmp .ge 43, 3) := by decide +kernel
theorem eX6_layRule_10 : decode cX6_layRule 10 = .ok (.aload_n 0, 1) := by decide +kernel
theorem eX6_layRule_11 : decode cX6_layRule 11 = .ok (.getfield 18, 3) := by decide +kernel
theorem eX6_layRule_14 : decode cX6_layRule 14 = .ok (.aload_n 0, 1) := by decide +kernel
theorem eX6_layRule_15 : decode cX6_layRule 15 = .ok (.getfield 57, 3) := by decide +kernel
theorem eX6_layRule_18 : decode cX6_layRule 18 = .ok (.iload_n 1, 1) := by decide +kernel
theorem eX6_layRule_19 : decode cX6_layRule 19 = .ok (.iastore, 1) := by decide +kernel
theorem eX6_layRule_20 : decode cX6_layRule 20 = .ok (.aload_n 0, 1) := by decide +kernel
theorem eX6_layRule_21 : decode cX6_layRule 21 = .ok (.getfield 21, 3) := by decide +kernel
theorem eX6_layRule_24 : decode cX6_layRule 24 = .ok (.aload_n 0, 1) := by decide +kernel
theorem eX6_layRule_25 : decode cX6_layRule 25 = .ok (.getfield 57, 3) := by decide +kernel
theorem eX6_layRule_28 : decode cX6_layRule 28 = .ok (.iload_n 2, 1) := by decide +kernel
theorem eX6_layRule_29 : decode cX6_layRule 29 = .ok (.iastore, 1) := by decide +kernel
theorem eX6_layRule_30 : decode cX6_layRule 30 = .ok (.aload_n 0, 1) := by decide +kernel
theorem eX6_layRule_31 : decode cX6_layRule 31 = .ok (.getfield 24, 3) := by decide +kernel
theorem eX6_layRule_34 : decode cX6_layRule 34 = .ok (.aload_n 0, 1) := by decide +kernel
theorem eX6_layRule_35 : decode cX6_layRule 35 = .ok (.getfield 57, 3) := by decide +kernel
theorem eX6_layRule_38 : decode cX6_layRule 38 = .ok (.iload_n 3, 1) := by decide +kernel
theorem eX6_layRule_39 : decode cX6_layRule 39 = .ok (.iastore, 1) := by decide +kernel
theorem eX6_layRule_40 : decode cX6_layRule 40 = .ok (.aload_n 0, 1) := by decide +kernel
theorem eX6_layRule_41 : decode cX6_layRule 41 = .ok (.dup, 1) := by decide +kernel
theorem eX6_layRule_42 : decode cX6_layRule 42 = .ok (.getfield 57, 3) := by decide +kernel
theorem eX6_layRule_45 : decode cX6_layRule 45 = .ok (.iconst 1, 1) := by decide +kernel
theorem eX6_layRule_46 : decode cX6_layRule 46 = .ok (.iadd, 1) := by decide +kernel
theorem eX6_layRule_47 : decode cX6_layRule 47 = .ok (.putfield 57, 3) := by decide +kernel
theorem eX6_layRule_50 : decode cX6_layRule 50 = .ok (.return_, 1) := by decide +kernel
abbrev vs_E_6_layRule : List Cond := .code yX6_layRule cX6_layRule 4 none :: CM
noncomputable def sp_E_6_layRule (nr : Nat) (q_j3 : Nat → Nat) (q_j4 : Nat → Nat) (j5 : Nat → Int32) (a0 : Nat) (a1 : Nat) (p2 : Int32) : (Nat → Nat) × (Nat → Nat) × (Nat → Int32) × Nat := (if 1920 ≤ nr then (q_j3, q_j4, j5, nr) else (slet (updN q_j3 nr a0) (fun q_2 => (slet (updN q_j4 nr a1) (fun q_3 => (slet (upd j5 nr p2) (fun f_4 => (q_2, q_3, f_4, (nr + 1)))))))))
set_option maxHeartbeats 4000000 in
set_option maxRecDepth 100000 in
theorem c_E_6_layRule (l : Launch) (dC : Nat → ClassId) (dI : Nat → Nat → Nat) (sz : Nat) (ti : Nat) (r0 : Nat) (ln : Nat) (r2 : Nat) (r3 : Nat) (r4 : Nat) (r5 : Nat) (nr : Nat) (r7 : Nat) (r8 : Nat) (tz : Nat) (k_j0 : ClassId) (q_j0 : Nat → Nat) (k_j2 : ClassId) (j2 : Nat → Int32) (k_j3 : ClassId) (q_j3 : Nat → Nat) (k_j4 : ClassId) (q_j4 : Nat → Nat) (k_j5 : ClassId) (j5 : Nat → Int32) (k_j7 : ClassId) (q_j7 : Nat → Nat) (k_j8 : ClassId) (j8 : Nat → Int32) (a0 : Nat) (a1 : Nat) (p2 : Int32) (hln : ln ≤ 119) (hnr : nr ≤ 1920) (ha0 : a0 ≤ 120) (ha1 : a1 ≤ 120) : Met l yX6_layRule vs_E_6_layRule ({ frames := 0, cells := 0, slots := 0, locals := 0 }) (va_Pc [.ref ti, .int (nI a0), .int (nI a1), .int p2] (pu_B (dC, dI) (ti__w ti r0 (nI ln) r2 r3 r4 r5 (nI nr) r7 r8 tz k_j0 (bN 13 q_j0) k_j2 j2 k_j3 (bN 120 q_j3) k_j4 (bN 120 q_j4) k_j5 j5 k_j7 (bN 120 q_j7) k_j8 j8) (ti__t k_j0 k_j2 k_j3 k_j4 k_j5 k_j7 k_j8) sz)) (va_Qv (fun (_ : Unit) => True) (fun _ t => ∃ (z_j3 : Nat → Nat) (z_j4 : Nat → Nat) (z_j5 : Nat → Int32) (z_nr : Nat), pu_E (dC, dI) (ti__w ti r0 (nI ln) r2 r3 r4 r5 (nI z_nr) r7 r8 tz k_j0 (bN 13 q_j0) k_j2 j2 k_j3 (bN 120 z_j3) k_j4 (bN 120 z_j4) k_j5 z_j5 k_j7 (bN 120 q_j7) k_j8 j8) (ti__t k_j0 k_j2 k_j3 k_j4 k_j5 k_j7 k_j8) (va_A ((ti__w ti r0 (nI ln) r2 r3 r4 r5 (nI nr) r7 r8 tz k_j0 (bN 13 q_j0) k_j2 j2 k_j3 (bN 120 q_j3) k_j4 (bN 120 q_j4) k_j5 j5 k_j7 (bN 120 q_j7) k_j8 j8)) sz) t ∧ (z_nr ≤ 1920) ∧ ((z_j3, z_j4, z_j5, z_nr) = (sp_E_6_layRule nr q_j3 q_j4 j5 a0 a1 p2))) (va_A ((ti__w ti r0 (nI ln) r2 r3 r4 r5 (nI nr) r7 r8 tz k_j0 (bN 13 q_j0) k_j2 j2 k_j3 (bN 120 q_j3) k_j4 (bN 120 q_j4) k_j5 j5 k_j7 (bN 120 q_j7) k_j8 j8)) sz)) 0 0 (va_A ((ti__w ti r0 (nI ln) r2 r3 r4 r5 (nI nr) r7 r8 tz k_j0 (bN 13 q_j0) k_j2 j2 k_j3 (bN 120 q_j3) k_j4 (bN 120 q_j4) k_j5 j5 k_j7 (bN 120 q_j7) k_j8 j8)) sz) := by
  refine Met.ofW (cc := cX6_layRule) (maxL := 4) (ret := none) (by decide) rfl ?_
  intro p e s m args below meth c s₁ B hml hv
  obtain ⟨rfl, rfl, hP, hK, hD0⟩ := hv
  have hx := B.exec
  have hb := B.bytes
  have hr := B.returns
  have hts := atoms_spec (ws := vs_E_6_layRule) B.pre
  have v_1 := hts (.fieldLink RX6 57 "ClockReach$Timing" "rules" "I") (List.mem_cons_of_mem _ cm_371)
  have v_2 := hts (.fieldLink RX6 18 "ClockReach$Timing" "laters" "[I") (List.mem_cons_of_mem _ cm_396)
  have v_3 := hts (.fieldLink RX6 21 "ClockReach$Timing" "earliers" "[I") (List.mem_cons_of_mem _ cm_397)
  have v_4 := hts (.fieldLink RX6 24 "ClockReach$Timing" "gaps" "[I") (List.mem_cons_of_mem _ cm_398)
  have hown : s.vm.findClass RX6 = some m.cls := findClass_of_methodNamed B.named
  have hlocks := B.notSynchronized
  have hiX6 : ∀ w ∈ wsX60, w ∈ vs_E_6_layRule := fun _ h => List.mem_cons_of_mem _ (cm_X6 h)
  have hD := hD0.self (sz := s.heap.size)
  generalize hAe : va_A ((ti__w ti r0 (nI ln) r2 r3 r4 r5 (nI nr) r7 r8 tz k_j0 (bN 13 q_j0) k_j2 j2 k_j3 (bN 120 q_j3) k_j4 (bN 120 q_j4) k_j5 j5 k_j7 (bN 120 q_j7) k_j8 j8)) s.heap.size = A at hD ⊢
  have hA : ∀ q : Nat, s.heap.size ≤ q → A q := fun q h => by rw [← hAe]; exact Or.inr h
  have hS : va_S A s.heap s.heap [] := va_S.rf
  have hl := lv_entry ([.ref ti, .int (nI a0), .int (nI a1), .int p2]) (n := 4) (Nat.le_of_ble_eq_true rfl)
  rw [lg_entry_eq]
  generalize (lg_sl ([.ref ti, .int (nI a0), .int (nI a1), .int p2]) ++ List.replicate (4 - (lg_sl ([.ref ti, .int (nI a0), .int (nI a1), .int p2])).length) Slot.unset).toArray = ls at hl ⊢
  have hl : lv_has ls 4 [(0, .ref ti), (1, .int (nI a0)), (2, .int (nI a1)), (3, .int p2)] := hl
  obtain ⟨RR, hRR⟩ : ∃ x, x = (sp_E_6_layRule nr q_j3 q_j4 j5 a0 a1 p2) := ⟨_, rfl⟩
  have hsp := hRR
  refine lv_aload_n hx hb eX6_layRule_0 rfl (lv_at hl 0 rfl) ?_
  refine va_get (D := (dC, dI)) (ci := 6) (v := .int (nI nr)) (C := RX6) (T := TX6) (N := 10) hx hb hts hiX6 hown hK hP 0 rfl rfl 6 (by decide) v_1 (fun _ h9 => h9) rfl eX6_layRule_1 ?_
  refine lv_sipush (v := 1920) hx hb eX6_layRule_4 (by decide) ?_
  refine lv_icmp_ge (tgt := 50) hx hb eX6_layRule_7 (by decide) (fun c_1 => ?_) (fun c_1 => ?_)
  · have c_1 : 1920 ≤ nr := (nI_leI (a := 1920) (b := nr) (Nat.le_of_ble_eq_true rfl) (Nat.lt_of_le_of_lt hnr (Nat.le_of_ble_eq_true rfl))).mp c_1
    have hsp := hsp.trans (if_pos c_1)
    exact W.vret hx hb hr (fun t ht hW => ⟨⟨(), rfl, trivial, ⟨q_j3, q_j4, j5, nr, ⟨by rw [ht]; exact hP, va_K.moved hW.alike hK, hD⟩, hnr, (hsp.symm.trans hRR)⟩⟩, hS.F ht⟩) hS.2.2 eX6_layRule_50
  · have c_1 : ¬ 1920 ≤ nr := fun z => c_1 ((nI_leI (a := 1920) (b := nr) (Nat.le_of_ble_eq_true rfl) (Nat.lt_of_le_of_lt hnr (Nat.le_of_ble_eq_true rfl))).mpr z)
    have hsp := hsp.trans (if_neg c_1)
    refine lv_aload_n hx hb eX6_layRule_10 rfl (lv_at hl 0 rfl) ?_
    refine va_get (D := (dC, dI)) (ci := 6) (v := .ref r3) (C := RX6) (T := TX6) (N := 10) hx hb hts hiX6 hown hK hP 0 rfl rfl 3 (by decide) v_2 (fun _ h9 => h9) rfl eX6_layRule_11 ?_
    refine lv_aload_n hx hb eX6_layRule_14 rfl (lv_at hl 0 rfl) ?_
    refine va_get (D := (dC, dI)) (ci := 6) (v := .int (nI nr)) (C := RX6) (T := TX6) (N := 10) hx hb hts hiX6 hown hK hP 0 rfl rfl 6 (by decide) v_1 (fun _ h9 => h9) rfl eX6_layRule_15 ?_
    refine lv_iload_n hx hb eX6_layRule_18 rfl (lv_at hl 1 rfl) ?_
    refine va_iast hx hb hK hP hD hS 3 2 rfl rfl (vp_in_nI (n := nr) (by omega) (Nat.le_of_ble_eq_true rfl)) eX6_layRule_19 (fun H locs hP hD hS => ?_)
    obtain ⟨q_2, eq_2, kq_2, oq_2, xq_2⟩ := bN_upx 120 q_j3 (n := nr) (v := a0) (Nat.lt_of_le_of_lt hnr (Nat.le_of_ble_eq_true rfl)) ha0
    have hP : va_P (dC, dI) vwCl (ti__w ti r0 (nI ln) r2 r3 r4 r5 (nI nr) r7 r8 tz k_j0 (bN 13 q_j0) k_j2 j2 k_j3 (bN 120 q_2) k_j4 (bN 120 q_j4) k_j5 j5 k_j7 (bN 120 q_j7) k_j8 j8) H := by rw [← eq_2]; exact hP
    have hD : va_D A (ti__w ti r0 (nI ln) r2 r3 r4 r5 (nI nr) r7 r8 tz k_j0 (bN 13 q_j0) k_j2 j2 k_j3 (bN 120 q_2) k_j4 (bN 120 q_j4) k_j5 j5 k_j7 (bN 120 q_j7) k_j8 j8) := by rw [← eq_2]; exact hD
    have hsp := hsp.trans (slet_eq xq_2)
    refine lv_aload_n hx hb eX6_layRule_20 rfl (lv_at hl 0 rfl) ?_
    refine va_get (D := (dC, dI)) (ci := 6) (v := .ref r4) (C := RX6) (T := TX6) (N := 10) hx hb hts hiX6 hown hK hP 0 rfl rfl 4 (by decide) v_3 (fun _ h9 => h9) rfl eX6_layRule_21 ?_
    refine lv_aload_n hx hb eX6_layRule_24 rfl (lv_at hl 0 rfl) ?_
    refine va_get (D := (dC, dI)) (ci := 6) (v := .int (nI nr)) (C := RX6) (T := TX6) (N := 10) hx hb hts hiX6 hown hK hP 0 rfl rfl 6 (by decide) v_1 (fun _ h9 => h9) rfl eX6_layRule_25 ?_
    refine lv_iload_n hx hb eX6_layRule_28 rfl (lv_at hl 2 rfl) ?_
    refine va_iast hx hb hK hP hD hS 4 3 rfl rfl (vp_in_nI (n := nr) (by omega) (Nat.le_of_ble_eq_true rfl)) eX6_layRule_29 (fun H locs hP hD hS => ?_)
    obtain ⟨q_3, eq_3, kq_3, oq_3, xq_3⟩ := bN_upx 120 q_j4 (n := nr) (v := a1) (Nat.lt_of_le_of_lt hnr (Nat.le_of_ble_eq_true rfl)) ha1
    have hP : va_P (dC, dI) vwCl (ti__w ti r0 (nI ln) r2 r3 r4 r5 (nI nr) r7 r8 tz k_j0 (bN 13 q_j0) k_j2 j2 k_j3 (bN 120 q_2) k_j4 (bN 120 q_3) k_j5 j5 k_j7 (bN 120 q_j7) k_j8 j8) H := by rw [← eq_3]; exact hP
    have hD : va_D A (ti__w ti r0 (nI ln) r2 r3 r4 r5 (nI nr) r7 r8 tz k_j0 (bN 13 q_j0) k_j2 j2 k_j3 (bN 120 q_2) k_j4 (bN 120 q_3) k_j5 j5 k_j7 (bN 120 q_j7) k_j8 j8) := by rw [← eq_3]; exact hD
    have hsp := hsp.trans (slet_eq xq_3)
    refine lv_aload_n hx hb eX6_layRule_30 rfl (lv_at hl 0 rfl) ?_
    refine va_get (D := (dC, dI)) (ci := 6) (v := .ref r5) (C := RX6) (T := TX6) (N := 10) hx hb hts hiX6 hown hK hP 0 rfl rfl 5 (by decide) v_4 (fun _ h9 => h9) rfl eX6_layRule_31 ?_
    refine lv_aload_n hx hb eX6_layRule_34 rfl (lv_at hl 0 rfl) ?_
    refine va_get (D := (dC, dI)) (ci := 6) (v := .int (nI nr)) (C := RX6) (T := TX6) (N := 10) hx hb hts hiX6 hown hK hP 0 rfl rfl 6 (by decide) v_1 (fun _ h9 => h9) rfl eX6_layRule_35 ?_
    refine lv_iload_n hx hb eX6_layRule_38 rfl (lv_at hl 3 rfl) ?_
    refine va_iast hx hb hK hP hD hS 5 4 rfl rfl (vp_in_nI (n := nr) (by omega) (Nat.le_of_ble_eq_true rfl)) eX6_layRule_39 (fun H locs hP hD hS => ?_)
    obtain ⟨f_4, ef_4, xf_4⟩ := up_x j5 (n := nr) p2 (Nat.lt_of_le_of_lt hnr (Nat.le_of_ble_eq_true rfl))
    have hP : va_P (dC, dI) vwCl (ti__w ti r0 (nI ln) r2 r3 r4 r5 (nI nr) r7 r8 tz k_j0 (bN 13 q_j0) k_j2 j2 k_j3 (bN 120 q_2) k_j4 (bN 120 q_3) k_j5 f_4 k_j7 (bN 120 q_j7) k_j8 j8) H := by rw [← ef_4]; exact hP
    have hD : va_D A (ti__w ti r0 (nI ln) r2 r3 r4 r5 (nI nr) r7 r8 tz k_j0 (bN 13 q_j0) k_j2 j2 k_j3 (bN 120 q_2) k_j4 (bN 120 q_3) k_j5 f_4 k_j7 (bN 120 q_j7) k_j8 j8) := by rw [← ef_4]; exact hD
    have hsp := hsp.trans (slet_eq xf_4)
    refine lv_aload_n hx hb eX6_layRule_40 rfl (lv_at hl 0 rfl) ?_
    refine lv_dup hx hb eX6_layRule_41 rfl ?_
    refine va_get (D := (dC, dI)) (ci := 6) (v := .int (nI nr)) (C := RX6) (T := TX6) (N := 10) hx hb hts hiX6 hown hK hP 0 rfl rfl 6 (by decide) v_1 (fun _ h9 => h9) rfl eX6_layRule_42 ?_
    refine lv_iconst (v := 1) hx hb eX6_layRule_45 (by decide) ?_
    refine lv_iadd hx hb eX6_layRule_46 ?_
    refine lv_topi (fun y_5 ey_5 => ?_)
    obtain rfl : y_5 = (nI (nr + 1)) := ey_5.trans (nI_add nr 1)
    refine va_put (D := (dC, dI)) (ci := 6) (v := .int (nI (nr + 1))) (ty := .int) (C := RX6) (T := TX6) (N := 10) hx hb hts hiX6 tyX6 tyX6_ok nmX6 hown hK hP hD hS 0 rfl rfl 6 (by decide) v_1 (fun _ h9 => h9) rfl (by decide +kernel) rfl rfl (Nat.le_of_ble_eq_true rfl) eX6_layRule_47 (fun H locs hP hD hS => ?_)
    have hP : va_P (dC, dI) vwCl (ti__w ti r0 (nI ln) r2 r3 r4 r5 (nI (nr + 1)) r7 r8 tz k_j0 (bN 13 q_j0) k_j2 j2 k_j3 (bN 120 q_2) k_j4 (bN 120 q_3) k_j5 f_4 k_j7 (bN 120 q_j7) k_j8 j8) H := hP
    have hD : va_D A (ti__w ti r0 (nI ln) r2 r3 r4 r5 (nI (nr + 1)) r7 r8 tz k_j0 (bN 13 q_j0) k_j2 j2 k_j3 (bN 120 q_2) k_j4 (bN 120 q_3) k_j5 f_4 k_j7 (bN 120 q_j7) k_j8 j8) := hD
    exact W.vret hx hb hr (fun t ht hW => ⟨⟨(), rfl, trivial, ⟨q_2, q_3, f_4, (nr + 1), ⟨by rw [ht]; exact hP, va_K.moved hW.alike hK, hD⟩, (by omega), (hsp.symm.trans hRR)⟩⟩, hS.F ht⟩) hS.2.2 eX6_layRule_50
