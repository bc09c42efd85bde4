theorem dX0_holdsAt_0 : decode cX0_holdsAt 0 = .ok (.iconst 0, 1) := by decide +kernel
theorem dX0_holdsAt_1 : decode cX0_holdsAt 1 = .ok (.istore_n 3, 1) := by decide +kernel
theorem dX0_holdsAt_2 : decode cX0_holdsAt 2 = .ok (.iload_n 3, 1) := by decide +kernel
theorem dX0_holdsAt_3 : decode cX0_holdsAt 3 = .ok (.aload_n 0, 1) := by decide +kernel
theorem dX0_holdsAt_4 : decode cX0_holdsAt 4 = .ok (.getfield 29, 3) := by decide +kernel
theorem dX0_holdsAt_7 : decode cX0_holdsAt 7 = .ok (.iload_n 1, 1) := by decide +kernel
theorem dX0_holdsAt_8 : decode cX0_holdsAt 8 = .ok (.iaload, 1) := by decide +kernel
theorem dX0_holdsAt_9 : decode cX0_holdsAt 9 = .ok (.if_icmp .ge 60, 3) := by decide +kernel
theorem dX0_holdsAt_12 : decode cX0_holdsAt 12 = .ok (.iload_n 1, 1) := by decide +kernel
theorem dX0_holdsAt_13 : decode cX0_holdsAt 13 = .ok (.iload_n 3, 1) := by decide +kernel
theorem dX0_holdsAt_14 : decode cX0_holdsAt 14 = .ok (.invokestatic 65, 3) := by decide +kernel
theorem dX0_holdsAt_17 : decode cX0_holdsAt 17 = .ok (.istore 4, 2) := by decide +kernel
theorem dX0_holdsAt_19 : decode cX0_holdsAt 19 = .ok (.aload_n 2, 1) := by decide +kernel
theorem dX0_holdsAt_20 : decode cX0_holdsAt 20 = .ok (.aload_n 0, 1) := by decide +kernel
theorem dX0_holdsAt_21 : decode cX0_holdsAt 21 = .ok (.getfield 32, 3) := by decide +kernel
theorem dX0_holdsAt_24 : decode cX0_holdsAt 24 = .ok (.iload 4, 2) := by decide +kernel
theorem dX0_holdsAt_26 : decode cX0_holdsAt 26 = .ok (.iaload, 1) := by decide +kernel
theorem dX0_holdsAt_27 : decode cX0_holdsAt 27 = .ok (.iaload, 1) := by decide +kernel
theorem dX0_holdsAt_28 : decode cX0_holdsAt 28 = .ok (.istore 5, 2) := by decide +kernel
theorem dX0_holdsAt_30 : decode cX0_holdsAt 30 = .ok (.iload 5, 2) := by decide +kernel
theorem dX0_holdsAt_32 : decode cX0_holdsAt 32 = .ok (.aload_n 0, 1) := by decide +kernel
theorem dX0_holdsAt_33 : decode cX0_holdsAt 33 = .ok (.getfield 41, 3) := by decide +kernel
theorem dX0_holdsAt_36 : decode cX0_holdsAt 36 = .ok (.iload 4, 2) := by decide +kernel
theorem dX0_holdsAt_38 : decode cX0_holdsAt 38 = .ok (.iaload, 1) := by decide +kernel
theorem dX0_holdsAt_39 : decode cX0_holdsAt 39 = .ok (.invokestatic 102, 3) := by decide +kernel
theorem dX0_holdsAt_42 : decode cX0_holdsAt 42 = .ok (.if_icmp .gt 19, 3) := by decide +kernel
theorem dX0_holdsAt_45 : decode cX0_holdsAt 45 = .ok (.iload 5, 2) := by decide +kernel
theorem dX0_holdsAt_47 : decode cX0_holdsAt 47 = .ok (.ineg, 1) := by decide +kernel
theorem dX0_holdsAt_48 : decode cX0_holdsAt 48 = .ok (.aload_n 0, 1) := by decide +kernel
theorem dX0_holdsAt_49 : decode cX0_holdsAt 49 = .ok (.getfield 44, 3) := by decide +kernel
theorem dX0_holdsAt_52 : decode cX0_holdsAt 52 = .ok (.iload 4, 2) := by decide +kernel
theorem dX0_holdsAt_54 : decode cX0_holdsAt 54 = .ok (.iaload, 1) := by decide +kernel
theorem dX0_holdsAt_55 : decode cX0_holdsAt 55 = .ok (.invokestatic 102, 3) := by decide +kernel
theorem dX0_holdsAt_58 : decode cX0_holdsAt 58 = .ok (.if_icmp .le 5, 3) := by decide +kernel
theorem dX0_holdsAt_61 : decode cX0_holdsAt 61 = .ok (.iconst 0, 1) := by decide +kernel
theorem dX0_holdsAt_62 : decode cX0_holdsAt 62 = .ok (.ireturn, 1) := by decide +kernel
theorem dX0_holdsAt_63 : decode cX0_holdsAt 63 = .ok (.iinc 3 1, 3) := by decide +kernel
theorem dX0_holdsAt_66 : decode cX0_holdsAt 66 = .ok (.goto (-64), 3) := by decide +kernel
theorem dX0_holdsAt_69 : decode cX0_holdsAt 69 = .ok (.iconst 1, 1) := by decide +kernel
theorem dX0_holdsAt_70 : decode cX0_holdsAt 70 = .ok (.ireturn, 1) := by decide +kernel
def vs_X0_holdsAt : List Cond := .code yX0_holdsAt cX0_holdsAt 6 (some .boolean) :: ([.fieldLink RX0 29 "ClockReach$Automaton" "counts" "[I", .methodLink RX0 65 yX0_slot, .static yX0_slot, .initialized RX0, .code yX0_slot cX0_slot 2 (some .int), .fieldLink RX0 32 "ClockReach$Automaton" "conditionClocks" "[I", .fieldLink RX0 41 "ClockReach$Automaton" "ceilings" "[I", .methodLink RX0 102 yX7_ticks, .static yX7_ticks, .initialized RX7, .code yX7_ticks cX7_ticks 1 (some .int), .constant RX7 17 (2147483647), .fieldLink RX0 44 "ClockReach$Automaton" "floors" "[I"] ++ wsX00)
theorem g_X0_holdsAt_X0_slot : GoodIn vs_X0_holdsAt (va_wsS RX0 65 yX0_slot vs_X0_slot) := goodIn_r _ [2, 3, 4, 5] (by decide +kernel) (by decide +kernel)
theorem g_X0_holdsAt_X7_ticks : GoodIn vs_X0_holdsAt (va_wsS RX0 102 yX7_ticks vs_X7_ticks) := goodIn_r _ [8, 9, 10, 11, 12] (by decide +kernel) (by decide +kernel)
set_option maxHeartbeats 4000000 in
set_option maxRecDepth 100000 in
theorem c_X0_holdsAt (l : Launch) (dC : Nat → ClassId) (dI : Nat → Nat → Nat) (sz : Nat) (au q4 q5 q6 q7 q8 q9 q10 q11 q12 q13 q14 q15 q16 : Nat) (nc np ne : Nat) (st0 : Int32) (k8 k9 k12 k13 : ClassId) (f8 f9 f12 f13 : Nat → Int32) (hc : ao_c nc f8 f9) (hnc : nc ≤ 3) (tm : Nat) (kt : ClassId) (ft : Nat → Int32) (h : Nat) (hh : h < 22) : Met l yX0_holdsAt vs_X0_holdsAt ({ frames := 1, cells := 0, slots := 0, locals := 21 }) (va_Pc [.ref au, .int (nI h), .ref tm] (pu_B (dC, dI) [(au, .inr (0, [.int (nI nc), .int (nI np), .int (nI ne), .int st0, .ref q4, .ref q5, .ref q6, .ref q7, .ref q8, .ref q9, .ref q10, .ref q11, .ref q12, .ref q13, .ref q14, .ref q15, .ref q16])), (q8, .inl (k8, 22, .inl f8)), (q9, .inl (k9, 88, .inl f9)), (q12, .inl (k12, 88, .inl f12)), (q13, .inl (k13, 88, .inl f13)), (tm, .inl (kt, 3, .inl ft))] [(k8, .int), (k9, .int), (k12, .int), (k13, .int), (kt, .int)] sz)) (va_Qi (fun (r : Int32) (_ : Unit) => r = 0 ∨ r = 1) (fun _ _ => True) (va_A [] sz)) 0 0 (va_A [] sz) := by
  refine Met.ofW (cc := cX0_holdsAt) (maxL := 6) (ret := (some .boolean)) (by decide) rfl ?_
  intro p e s m args below meth c s₁ B hml hv
  obtain ⟨rfl, rfl, hP, hK, hD0⟩ := hv
  have hx := B.exec
  have hb := B.bytes
  have hr := B.returns
  have hts := atoms_spec (ws := vs_X0_holdsAt) B.pre
  have v_1 := hts (.fieldLink RX0 29 "ClockReach$Automaton" "counts" "[I") (List.mem_of_getElem? (i := 1) rfl)
  have v_6 := hts (.fieldLink RX0 32 "ClockReach$Automaton" "conditionClocks" "[I") (List.mem_of_getElem? (i := 6) rfl)
  have v_7 := hts (.fieldLink RX0 41 "ClockReach$Automaton" "ceilings" "[I") (List.mem_of_getElem? (i := 7) rfl)
  have v_13 := hts (.fieldLink RX0 44 "ClockReach$Automaton" "floors" "[I") (List.mem_of_getElem? (i := 13) rfl)
  have hown : s.vm.findClass RX0 = some m.cls := findClass_of_methodNamed B.named
  have hlocks := B.notSynchronized
  have hiX0 : ∀ w ∈ wsX00, w ∈ vs_X0_holdsAt := fun _ h => List.mem_cons_of_mem _ (List.mem_append_right _ h)
  have hD := hD0
  have hA : ∀ q : Nat, s.heap.size ≤ q → va_A [] s.heap.size q := fun _ h => Or.inr h
  have hS : va_S (va_A [] s.heap.size) s.heap s.heap [] := va_S.rf
  have hl := lv_entry ([.ref au, .int (nI h), .ref tm]) (n := 6) (Nat.le_of_ble_eq_true rfl)
  rw [lg_entry_eq]
  generalize (lg_sl ([.ref au, .int (nI h), .ref tm]) ++ List.replicate (6 - (lg_sl ([.ref au, .int (nI h), .ref tm])).length) Slot.unset).toArray = ls at hl ⊢
  have hl : lv_has ls 6 [(0, .ref au), (1, .int (nI h)), (2, .ref tm)] := hl
  refine lv_iconst (v := 0) hx hb dX0_holdsAt_0 (by decide) ?_
  refine lv_istore_n (lv' := [(3, .int 0), (0, .ref au), (1, .int (nI h)), (2, .ref tm)]) hx hb dX0_holdsAt_1 rfl hl (by decide) rfl (fun ls hl => ?_)
  obtain ⟨qc_1, hq_2, eq_3, hcc_4⟩ := hc h (by omega)
  refine pu_loop (qc_1) (fun ii H locs ls => va_P (dC, dI) vwCl [(au, .inr (0, [.int (nI nc), .int (nI np), .int (nI ne), .int st0, .ref q4, .ref q5, .ref q6, .ref q7, .ref q8, .ref q9, .ref q10, .ref q11, .ref q12, .ref q13, .ref q14, .ref q15, .ref q16])), (q8, .inl (k8, 22, .inl f8)), (q9, .inl (k9, 88, .inl f9)), (q12, .inl (k12, 88, .inl f12)), (q13, .inl (k13, 88, .inl f13)), (tm, .inl (kt, 3, .inl ft))] H ∧ va_D (fun _ => True) [(au, .inr (0, [.int (nI nc), .int (nI np), .int (nI ne), .int st0, .ref q4, .ref q5, .ref q6, .ref q7, .ref q8, .ref q9, .ref q10, .ref q11, .ref q12, .ref q13, .ref q14, .ref q15, .ref q16])), (q8, .inl (k8, 22, .inl f8)), (q9, .inl (k9, 88, .inl f9)), (q12, .inl (k12, 88, .inl f12)), (q13, .inl (k13, 88, .inl f13)), (tm, .inl (kt, 3, .inl ft))] ∧ va_S (va_A [] s.heap.size) s.heap H locs ∧ lv_has ls 6 [(0, .ref au), (1, .int (nI h)), (2, .ref tm), (3, .int (nI ii))]) (fun _ => 0) (fun _ => 0) 2 [] ?_ ?_ _ _ _ ⟨hP, hD, hS, lv_sub hl [1, 2, 3, 0] rfl⟩
  · rintro H locs ls ⟨hP, hD, hS, hl⟩
    refine lv_iload_n hx hb dX0_holdsAt_2 rfl (lv_at hl 3 rfl) ?_
    refine lv_aload_n hx hb dX0_holdsAt_3 rfl (lv_at hl 0 rfl) ?_
    refine va_get (D := (dC, dI)) (ci := 0) (v := .ref q8) (C := RX0) (T := TX0) (N := 17) hx hb hts hiX0 hown hK hP 0 rfl rfl 8 (by decide) v_1 (fun _ h9 => h9) rfl dX0_holdsAt_4 ?_
    refine lv_iload_n hx hb dX0_holdsAt_7 rfl (lv_at hl 1 rfl) ?_
    refine va_iald hx hb hK hP 1 0 rfl rfl (vp_in_nI (n := h) (by first | omega | exact ix_lt (by omega) (by omega) hn | exact ix_lt0 (by omega) hn | exact ix_ltq (by omega) hn | exact ix_lt1 (by omega) hn) (by omega)) dX0_holdsAt_8 ?_
    refine lv_topi (fun y_8 ey_8 => ?_)
    have ey_8 : y_8 = f8 h := ey_8.trans (congrArg f8 (nI_clamp (n := h) (by omega)))
    obtain rfl : y_8 = nI qc_1 := ey_8.trans eq_3
    refine lv_icmp_ge (tgt := 69) hx hb dX0_holdsAt_9 (by decide) (fun _ => ?_) (fun z => absurd (nI_le (a := qc_1) (b := qc_1) (by omega) (by omega)) z)
    refine lv_iconst (v := 1) hx hb dX0_holdsAt_69 (by decide) ?_
    exact W.zret (v := 1) (ty := .boolean) hx hb hr rfl (fun t ht hW => ⟨⟨1, (), rfl, by first | rfl | decide | simp_all, trivial⟩, hS.F ht⟩) hS.2.2 dX0_holdsAt_70
  · rintro i_5 h_6 ih_7 H locs ls ⟨hP, hD, hS, hl⟩
    refine lv_iload_n hx hb dX0_holdsAt_2 rfl (lv_at hl 3 rfl) ?_
    refine lv_aload_n hx hb dX0_holdsAt_3 rfl (lv_at hl 0 rfl) ?_
    refine va_get (D := (dC, dI)) (ci := 0) (v := .ref q8) (C := RX0) (T := TX0) (N := 17) hx hb hts hiX0 hown hK hP 0 rfl rfl 8 (by decide) v_1 (fun _ h9 => h9) rfl dX0_holdsAt_4 ?_
    refine lv_iload_n hx hb dX0_holdsAt_7 rfl (lv_at hl 1 rfl) ?_
    refine va_iald hx hb hK hP 1 0 rfl rfl (vp_in_nI (n := h) (by first | omega | exact ix_lt (by omega) (by omega) hn | exact ix_lt0 (by omega) hn | exact ix_ltq (by omega) hn | exact ix_lt1 (by omega) hn) (by omega)) dX0_holdsAt_8 ?_
    refine lv_topi (fun y_9 ey_9 => ?_)
    have ey_9 : y_9 = f8 h := ey_9.trans (congrArg f8 (nI_clamp (n := h) (by omega)))
    obtain rfl : y_9 = nI qc_1 := ey_9.trans eq_3
    refine lv_icmp_ge (tgt := 69) hx hb dX0_holdsAt_9 (by decide) (fun z => absurd z (nI_ge (a := i_5) (b := qc_1) (by omega) (by omega))) (fun _ => ?_)
    refine lv_iload_n hx hb dX0_holdsAt_12 rfl (lv_at hl 1 rfl) ?_
    refine lv_iload_n hx hb dX0_holdsAt_13 rfl (lv_at hl 3 rfl) ?_
    refine va_calli (va_runS (As := [.int (nI h), .int (nI i_5)]) (rest := []) ⟨hx, hb, hml, hown, hts⟩ (c_X0_slot l dC dI _ h i_5) (va_cwS 2 hts g_X0_holdsAt_X0_slot rfl rfl rfl (by decide +kernel) ⟨Nat.le_of_ble_eq_true rfl, Nat.le_of_ble_eq_true rfl⟩) ⟨pu_bl, pu_in (hP.sub [] rfl) (hK.sub [] rfl) (hD.sub [] (by decide) rfl)⟩ rfl rfl hl.1 rfl (lv_room (Nat.le_of_ble_eq_true rfl)) dX0_holdsAt_14 ⟨Nat.le_of_ble_eq_true rfl, Nat.le_of_ble_eq_true rfl⟩) hS (fun q _ h => pu_fr hS hA q h) (pu_fr hS hA) (fun r_10 u t H1 locs ht hvm hw hB hz1 hk1 hS => ?_)
    have hP := pu_keep hP hk1
    clear hk1 hz1 ht hvm
    generalize H1 = H at hP hS ⊢
    obtain rfl : r_10 = (nI (h * 4 + i_5)) := hw
    refine lv_istore (lv' := [(4, .int (nI (h * 4 + i_5))), (0, .ref au), (1, .int (nI h)), (2, .ref tm), (3, .int (nI i_5))]) hx hb dX0_holdsAt_17 hl (by decide) rfl (fun ls hl => ?_)
    refine lv_aload_n hx hb dX0_holdsAt_19 rfl (lv_at hl 3 rfl) ?_
    refine lv_aload_n hx hb dX0_holdsAt_20 rfl (lv_at hl 1 rfl) ?_
    refine va_get (D := (dC, dI)) (ci := 0) (v := .ref q9) (C := RX0) (T := TX0) (N := 17) hx hb hts hiX0 hown hK hP 0 rfl rfl 9 (by decide) v_6 (fun _ h9 => h9) rfl dX0_holdsAt_21 ?_
    refine lv_iload hx hb dX0_holdsAt_24 (lv_at hl 0 rfl) ?_
    refine va_iald hx hb hK hP 2 1 rfl rfl (vp_in_nI (n := (h * 4 + i_5)) (by first | omega | exact ix_lt (by omega) (by omega) hn | exact ix_lt0 (by omega) hn | exact ix_ltq (by omega) hn | exact ix_lt1 (by omega) hn) (by omega)) dX0_holdsAt_26 ?_
    refine lv_topi (fun y_11 ey_11 => ?_)
    have ey_11 : y_11 = f9 (h * 4 + i_5) := ey_11.trans (congrArg f9 (nI_clamp (n := (h * 4 + i_5)) (by omega)))
    obtain ⟨cq_12, hq_13, eq_14⟩ := hcc_4 i_5 (by omega)
    obtain rfl : y_11 = nI cq_12 := ey_11.trans eq_14
    refine va_iald hx hb hK hP 5 4 rfl rfl (vp_in_nI (n := cq_12) (by first | omega | exact ix_lt (by omega) (by omega) hn | exact ix_lt0 (by omega) hn | exact ix_ltq (by omega) hn | exact ix_lt1 (by omega) hn) (by omega)) dX0_holdsAt_27 ?_
    refine lv_istore (lv' := [(5, .int (ft ((nI cq_12)).toNatClampNeg)), (4, .int (nI (h * 4 + i_5))), (0, .ref au), (1, .int (nI h)), (2, .ref tm), (3, .int (nI i_5))]) hx hb dX0_holdsAt_28 hl (by decide) rfl (fun ls hl => ?_)
    refine lv_iload hx hb dX0_holdsAt_30 (lv_at hl 0 rfl) ?_
    refine lv_aload_n hx hb dX0_holdsAt_32 rfl (lv_at hl 2 rfl) ?_
    refine va_get (D := (dC, dI)) (ci := 0) (v := .ref q12) (C := RX0) (T := TX0) (N := 17) hx hb hts hiX0 hown hK hP 0 rfl rfl 12 (by decide) v_7 (fun _ h9 => h9) rfl dX0_holdsAt_33 ?_
    refine lv_iload hx hb dX0_holdsAt_36 (lv_at hl 1 rfl) ?_
    refine va_iald hx hb hK hP 3 2 rfl rfl (vp_in_nI (n := (h * 4 + i_5)) (by first | omega | exact ix_lt (by omega) (by omega) hn | exact ix_lt0 (by omega) hn | exact ix_ltq (by omega) hn | exact ix_lt1 (by omega) hn) (by omega)) dX0_holdsAt_38 ?_
    refine va_calli (va_runS (As := [.int (f12 ((nI (h * 4 + i_5))).toNatClampNeg)]) (rest := [.int (ft ((nI cq_12)).toNatClampNeg)]) ⟨hx, hb, hml, hown, hts⟩ (c_X7_ticks l dC dI _ (f12 ((nI (h * 4 + i_5))).toNatClampNeg)) (va_cwS 1 hts g_X0_holdsAt_X7_ticks rfl rfl rfl (by decide +kernel) ⟨Nat.le_of_ble_eq_true rfl, Nat.le_of_ble_eq_true rfl⟩) ⟨pu_bl, pu_in (hP.sub [] rfl) (hK.sub [] rfl) (hD.sub [] (by decide) rfl)⟩ rfl rfl hl.1 rfl (lv_room (Nat.le_of_ble_eq_true rfl)) dX0_holdsAt_39 ⟨Nat.le_of_ble_eq_true rfl, Nat.le_of_ble_eq_true rfl⟩) hS (fun q _ h => pu_fr hS hA q h) (pu_fr hS hA) (fun r_15 u t H1 locs ht hvm hw hB hz1 hk1 hS => ?_)
    have hP := pu_keep hP hk1
    clear hk1 hz1 ht hvm
    generalize H1 = H at hP hS ⊢
    refine lv_icmp_gt (tgt := 61) hx hb dX0_holdsAt_42 (by decide) (fun c_16 => ?_) (fun c_16 => ?_)
    · refine lv_iconst (v := 0) hx hb dX0_holdsAt_61 (by decide) ?_
      exact W.zret (v := 0) (ty := .boolean) hx hb hr rfl (fun t ht hW => ⟨⟨0, (), rfl, by first | rfl | decide | simp_all, trivial⟩, hS.F ht⟩) hS.2.2 dX0_holdsAt_62
    · refine lv_iload hx hb dX0_holdsAt_45 (lv_at hl 0 rfl) ?_
      refine lv_ineg hx hb dX0_holdsAt_47 ?_
      refine lv_topi (fun y_17 ey_17 => ?_)
      refine lv_aload_n hx hb dX0_holdsAt_48 rfl (lv_at hl 2 rfl) ?_
      refine va_get (D := (dC, dI)) (ci := 0) (v := .ref q13) (C := RX0) (T := TX0) (N := 17) hx hb hts hiX0 hown hK hP 0 rfl rfl 13 (by decide) v_13 (fun _ h9 => h9) rfl dX0_holdsAt_49 ?_
      refine lv_iload hx hb dX0_holdsAt_52 (lv_at hl 1 rfl) ?_
      refine va_iald hx hb hK hP 4 3 rfl rfl (vp_in_nI (n := (h * 4 + i_5)) (by first | omega | exact ix_lt (by omega) (by omega) hn | exact ix_lt0 (by omega) hn | exact ix_ltq (by omega) hn | exact ix_lt1 (by omega) hn) (by omega)) dX0_holdsAt_54 ?_
      refine va_calli (va_runS (As := [.int (f13 ((nI (h * 4 + i_5))).toNatClampNeg)]) (rest := [.int y_17]) ⟨hx, hb, hml, hown, hts⟩ (c_X7_ticks l dC dI _ (f13 ((nI (h * 4 + i_5))).toNatClampNeg)) (va_cwS 1 hts g_X0_holdsAt_X7_ticks rfl rfl rfl (by decide +kernel) ⟨Nat.le_of_ble_eq_true rfl, Nat.le_of_ble_eq_true rfl⟩) ⟨pu_bl, pu_in (hP.sub [] rfl) (hK.sub [] rfl) (hD.sub [] (by decide) rfl)⟩ rfl rfl hl.1 rfl (lv_room (Nat.le_of_ble_eq_true rfl)) dX0_holdsAt_55 ⟨Nat.le_of_ble_eq_true rfl, Nat.le_of_ble_eq_true rfl⟩) hS (fun q _ h => pu_fr hS hA q h) (pu_fr hS hA) (fun r_18 u t H1 locs ht hvm hw hB hz1 hk1 hS => ?_)
      have hP := pu_keep hP hk1
      clear hk1 hz1 ht hvm
      generalize H1 = H at hP hS ⊢
      refine lv_icmp_le (tgt := 63) hx hb dX0_holdsAt_58 (by decide) (fun c_19 => ?_) (fun c_19 => ?_)
      · refine lv_iinc (v := (nI (i_5 + 1))) (lv' := [(3, .int (nI (i_5 + 1))), (5, .int (ft ((nI cq_12)).toNatClampNeg)), (4, .int (nI (h * 4 + i_5))), (0, .ref au), (1, .int (nI h)), (2, .ref tm)]) hx hb dX0_holdsAt_63 hl (k := 5) rfl (nI_1 _) (by decide) rfl (fun ls hl => ?_)
        refine lv_goto (tgt := 2) hx hb dX0_holdsAt_66 (by decide) ?_
        exact ih_7 _ _ _ ⟨hP, hD, hS, lv_sub hl [3, 4, 5, 0] rfl⟩
      · refine lv_iconst (v := 0) hx hb dX0_holdsAt_61 (by decide) ?_
        exact W.zret (v := 0) (ty := .boolean) hx hb hr rfl (fun t ht hW => ⟨⟨0, (), rfl, by first | rfl | decide | simp_all, trivial⟩, hS.F ht⟩) hS.2.2 dX0_holdsAt_62
theorem dX0_setBounds_0 : decode cX0_setBounds 0 = .ok (.aload_n 0, 1) := by decide +kernel
theorem dX0_setBounds_1 : decode cX0_setBounds 1 = .ok (.getfield 35, 3) := by decide +kernel
theorem dX0_setBounds_4 : decode cX0_setBounds 4 = .ok (.iload_n 1, 1) := by decide +kernel
theorem dX0_setBounds_5 : decode cX0_setBounds 5 = .ok (.iaload, 1) := by decide +kernel
theorem dX0_setBounds_6 : decode cX0_setBounds 6 = .ok (.istore_n 2, 1) := by decide +kernel
theorem dX0_setBounds_7 : decode cX0_setBounds 7 = .ok (.aload_n 0, 1) := by decide +kernel
theorem dX0_setBounds_8 : decode cX0_setBounds 8 = .ok (.getfield 38, 3) := by decide +kernel
theorem dX0_setBounds_11 : decode cX0_setBounds 11 = .ok (.iload_n 1, 1) := by decide +kernel
theorem dX0_setBounds_12 : decode cX0_setBounds 12 = .ok (.iaload, 1) := by decide +kernel
theorem dX0_setBounds_13 : decode cX0_setBounds 13 = .ok (.istore_n 3, 1) := by decide +kernel
theorem dX0_setBounds_14 : decode cX0_setBounds 14 = .ok (.aload_n 0, 1) := by decide +kernel
theorem dX0_setBounds_15 : decode cX0_setBounds 15 = .ok (.getfield 41, 3) := by decide +kernel
theorem dX0_setBounds_18 : decode cX0_setBounds 18 = .ok (.iload_n 1, 1) := by decide +kernel
theorem dX0_setBounds_19 : decode cX0_setBounds 19 = .ok (.iload_n 2, 1) := by decide +kernel
theorem dX0_setBounds_20 : decode cX0_setBounds 20 = .ok (.iconst 2, 1) := by decide +kernel
theorem dX0_setBounds_21 : decode cX0_setBounds 21 = .ok (.if_icmp .le 8, 3) := by decide +kernel
theorem dX0_setBounds_24 : decode cX0_setBounds 24 = .ok (.ldc 75, 2) := by decide +kernel
theorem dX0_setBounds_26 : decode cX0_setBounds 26 = .ok (.goto 18, 3) := by decide +kernel
theorem dX0_setBounds_29 : decode cX0_setBounds 29 = .ok (.iload_n 2, 1) := by decide +kernel
theorem dX0_setBounds_30 : decode cX0_setBounds 30 = .ok (.ifCond .ne 9, 3) := by decide +kernel
theorem dX0_setBounds_33 : decode cX0_setBounds 33 = .ok (.iconst 2, 1) := by decide +kernel
theorem dX0_setBounds_34 : decode cX0_setBounds 34 = .ok (.iload_n 3, 1) := by decide +kernel
theorem dX0_setBounds_35 : decode cX0_setBounds 35 = .ok (.imul, 1) := by decide +kernel
theorem dX0_setBounds_36 : decode cX0_setBounds 36 = .ok (.goto 8, 3) := by decide +kernel
theorem dX0_setBounds_39 : decode cX0_setBounds 39 = .ok (.iconst 2, 1) := by decide +kernel
theorem dX0_setBounds_40 : decode cX0_setBounds 40 = .ok (.iload_n 3, 1) := by decide +kernel
theorem dX0_setBounds_41 : decode cX0_setBounds 41 = .ok (.imul, 1) := by decide +kernel
theorem dX0_setBounds_42 : decode cX0_setBounds 42 = .ok (.iconst 1, 1) := by decide +kernel
theorem dX0_setBounds_43 : decode cX0_setBounds 43 = .ok (.iadd, 1) := by decide +kernel
theorem dX0_setBounds_44 : decode cX0_setBounds 44 = .ok (.iastore, 1) := by decide +kernel
theorem dX0_setBounds_45 : decode cX0_setBounds 45 = .ok (.aload_n 0, 1) := by decide +kernel
theorem dX0_setBounds_46 : decode cX0_setBounds 46 = .ok (.getfield 44, 3) := by decide +kernel
theorem dX0_setBounds_49 : decode cX0_setBounds 49 = .ok (.iload_n 1, 1) := by decide +kernel
theorem dX0_setBounds_50 : decode cX0_setBounds 50 = .ok (.iload_n 2, 1) := by decide +kernel
theorem dX0_setBounds_51 : decode cX0_setBounds 51 = .ok (.iconst 2, 1) := by decide +kernel
theorem dX0_setBounds_52 : decode cX0_setBounds 52 = .ok (.if_icmp .ge 8, 3) := by decide +kernel
theorem dX0_setBounds_55 : decode cX0_setBounds 55 = .ok (.ldc 75, 2) := by decide +kernel
theorem dX0_setBounds_57 : decode cX0_setBounds 57 = .ok (.goto 20, 3) := by decide +kernel
theorem dX0_setBounds_60 : decode cX0_setBounds 60 = .ok (.iload_n 2, 1) := by decide +kernel
theorem dX0_setBounds_61 : decode cX0_setBounds 61 = .ok (.iconst 4, 1) := by decide +kernel
theorem dX0_setBounds_62 : decode cX0_setBounds 62 = .ok (.if_icmp .ne 10, 3) := by decide +kernel
theorem dX0_setBounds_65 : decode cX0_setBounds 65 = .ok (.bipush (-2), 2) := by decide +kernel
theorem dX0_setBounds_67 : decode cX0_setBounds 67 = .ok (.iload_n 3, 1) := by decide +kernel
theorem dX0_setBounds_68 : decode cX0_setBounds 68 = .ok (.imul, 1) := by decide +kernel
theorem dX0_setBounds_69 : decode cX0_setBounds 69 = .ok (.goto 8, 3) := by decide +kernel
theorem dX0_setBounds_72 : decode cX0_setBounds 72 = .ok (.iconst 1, 1) := by decide +kernel
theorem dX0_setBounds_73 : decode cX0_setBounds 73 = .ok (.iconst 2, 1) := by decide +kernel
theorem dX0_setBounds_74 : decode cX0_setBounds 74 = .ok (.iload_n 3, 1) := by decide +kernel
theorem dX0_setBounds_75 : decode cX0_setBounds 75 = .ok (.imul, 1) := by decide +kernel
theorem dX0_setBounds_76 : decode cX0_setBounds 76 = .ok (.isub, 1) := by decide +kernel
theorem dX0_setBounds_77 : decode cX0_setBounds 77 = .ok (.iastore, 1) := by decide +kernel
theorem dX0_setBounds_78 : decode cX0_setBounds 78 = .ok (.return_, 1) := by decide +kernel
def vs_X0_setBounds : List Cond := .code yX0_setBounds cX0_setBounds 4 none :: ([.fieldLink RX0 35 "ClockReach$Automaton" "hows" "[I", .fieldLink RX0 38 "ClockReach$Automaton" "numbers" "[I", .fieldLink RX0 41 "ClockReach$Automaton" "ceilings" "[I", .fieldLink RX0 44 "ClockReach$Automaton" "floors" "[I", .constant RX0 75 (2147483647)] ++ wsX00)
set_option maxHeartbeats 4000000 in
set_option maxRecDepth 100000 in
theorem c_X0_setBounds (l : Launch) (dC : Nat → ClassId) (dI : Nat → Nat → Nat) (sz : Nat) (au q4 q5 q6 q7 q8 q9 q10 q11 q12 q13 q14 q15 q16 : Nat) (nc np ne : Nat) (st0 : Int32) (k10 k11 k12 k13 : ClassId) (f10 f11 f12 f13 : Nat → Int32) (i : Nat) (hi : i < 88) : Met l yX0_setBounds vs_X0_setBounds ({ frames := 0, cells := 0, slots := 0, locals := 0 }) (va_Pc [.ref au, .int (nI i)] (pu_B (dC, dI) [(au, .inr (0, [.int (nI nc), .int (nI np), .int (nI ne), .int st0, .ref q4, .ref q5, .ref q6, .ref q7, .ref q8, .ref q9, .ref q10, .ref q11, .ref q12, .ref q13, .ref q14, .ref q15, .ref q16])), (q10, .inl (k10, 88, .inl f10)), (q11, .inl (k11, 88, .inl f11)), (q12, .inl (k12, 88, .inl f12)), (q13, .inl (k13, 88, .inl f13))] [(k10, .int), (k11, .int), (k12, .int), (k13, .int)] sz)) (va_Qv (fun (_ : Unit) => True) (fun _ t => ∃ (g1 g2 : Nat → Int32), pu_E (dC, dI) [(au, .inr (0, [.int (nI nc), .int (nI np), .int (nI ne), .int st0, .ref q4, .ref q5, .ref q6, .ref q7, .ref q8, .ref q9, .ref q10, .ref q11, .ref q12, .ref q13, .ref q14, .ref q15, .ref q16])), (q10, .inl (k10, 88, .inl f10)), (q11, .inl (k11, 88, .inl f11)), (q12, .inl (k12, 88, .inl g1)), (q13, .inl (k13, 88, .inl g2))] [(k10, .int), (k11, .int), (k12, .int), (k13, .int)] (va_A ([(au, .inr (0, [.int (nI nc), .int (nI np), .int (nI ne), .int st0, .ref q4, .ref q5, .ref q6, .ref q7, .ref q8, .ref q9, .ref q10, .ref q11, .ref q12, .ref q13, .ref q14, .ref q15, .ref q16])), (q10, .inl (k10, 88, .inl f10)), (q11, .inl (k11, 88, .inl f11)), (q12, .inl (k12, 88, .inl f12)), (q13, .inl (k13, 88, .inl f13))]) sz) t) (va_A ([(au, .inr (0, [.int (nI nc), .int (nI np), .int (nI ne), .int st0, .ref q4, .ref q5, .ref q6, .ref q7, .ref q8, .ref q9, .ref q10, .ref q11, .ref q12, .ref q13, .ref q14, .ref q15, .ref q16])), (q10, .inl (k10, 88, .inl f10)), (q11, .inl (k11, 88, .inl f11)), (q12, .inl (k12, 88, .inl f12)), (q13, .inl (k13, 88, .inl f13))]) sz)) 0 0 (va_A ([(au, .inr (0, [.int (nI nc), .int (nI np), .int (nI ne), .int st0, .ref q4, .ref q5, .ref q6, .ref q7, .ref q8, .ref q9, .ref q10, .ref q11, .ref q12, .ref q13, .ref q14, .ref q15, .ref q16])), (q10, .inl (k10, 88, .inl f10)), (q11, .inl (k11, 88, .inl f11)), (q12, .inl (k12, 88, .inl f12)), (q13, .inl (k13, 88, .inl f13))]) sz) := by
  refine Met.ofW (cc := cX0_setBounds) (maxL := 4) (ret := none) (by decide) rfl ?_
  intro p e s m args below meth c s₁ B hml hv
  obtain ⟨rfl, rfl, hP, hK, hD0⟩ := hv
  have hx := B.exec
  have hb := B.bytes
  have hr := B.returns
  have hts := atoms_spec (ws := vs_X0_setBounds) B.pre
  have v_1 := hts (.fieldLink RX0 35 "ClockReach$Automaton" "hows" "[I") (List.mem_of_getElem? (i := 1) rfl)
  have v_2 := hts (.fieldLink RX0 38 "ClockReach$Automaton" "numbers" "[I") (List.mem_of_getElem? (i := 2) rfl)
  have v_3 := hts (.fieldLink RX0 41 "ClockReach$Automaton" "ceilings" "[I") (List.mem_of_getElem? (i := 3) rfl)
  have v_4 := hts (.fieldLink RX0 44 "ClockReach$Automaton" "floors" "[I") (List.mem_of_getElem? (i := 4) rfl)
  have v_5 := hts (.constant RX0 75 (2147483647)) (List.mem_of_getElem? (i := 5) rfl)
  have hown : s.vm.findClass RX0 = some m.cls := findClass_of_methodNamed B.named
  have hlocks := B.notSynchronized
  have hiX0 : ∀ w ∈ wsX00, w ∈ vs_X0_setBounds := fun _ h => List.mem_cons_of_mem _ (List.mem_append_right _ h)
  have hD := hD0.self (sz := s.heap.size)
  generalize hAe : va_A ([(au, .inr (0, [.int (nI nc), .int (nI np), .int (nI ne), .int st0, .ref q4, .ref q5, .ref q6, .ref q7, .ref q8, .ref q9, .ref q10, .ref q11, .ref q12, .ref q13, .ref q14, .ref q15, .ref q16])), (q10, .inl (k10, 88, .inl f10)), (q11, .inl (k11, 88, .inl f11)), (q12, .inl (k12, 88, .inl f12)), (q13, .inl (k13, 88, .inl f13))]) s.heap.size = A at hD ⊢
  have hA : ∀ q : Nat, s.heap.size ≤ q → A q := fun q h => by rw [← hAe]; exact Or.inr h
  have hS : va_S A s.heap s.heap [] := va_S.rf
  have hl := lv_entry ([.ref au, .int (nI i)]) (n := 4) (Nat.le_of_ble_eq_true rfl)
  rw [lg_entry_eq]
  generalize (lg_sl ([.ref au, .int (nI i)]) ++ List.replicate (4 - (lg_sl ([.ref au, .int (nI i)])).length) Slot.unset).toArray = ls at hl ⊢
  have hl : lv_has ls 4 [(0, .ref au), (1, .int (nI i))] := hl
  refine lv_aload_n hx hb dX0_setBounds_0 rfl (lv_at hl 0 rfl) ?_
  refine va_get (D := (dC, dI)) (ci := 0) (v := .ref q10) (C := RX0) (T := TX0) (N := 17) hx hb hts hiX0 hown hK hP 0 rfl rfl 10 (by decide) v_1 (fun _ h9 => h9) rfl dX0_setBounds_1 ?_
  refine lv_iload_n hx hb dX0_setBounds_4 rfl (lv_at hl 1 rfl) ?_
  refine va_iald hx hb hK hP 1 0 rfl rfl (vp_in_nI (n := i) (by first | omega | exact ix_lt (by omega) (by omega) hn | exact ix_lt0 (by omega) hn | exact ix_ltq (by omega) hn | exact ix_lt1 (by omega) hn) (by omega)) dX0_setBounds_5 ?_
  refine lv_istore_n (lv' := [(2, .int (f10 ((nI i)).toNatClampNeg)), (0, .ref au), (1, .int (nI i))]) hx hb dX0_setBounds_6 rfl hl (by decide) rfl (fun ls hl => ?_)
  refine lv_aload_n hx hb dX0_setBounds_7 rfl (lv_at hl 1 rfl) ?_
  refine va_get (D := (dC, dI)) (ci := 0) (v := .ref q11) (C := RX0) (T := TX0) (N := 17) hx hb hts hiX0 hown hK hP 0 rfl rfl 11 (by decide) v_2 (fun _ h9 => h9) rfl dX0_setBounds_8 ?_
  refine lv_iload_n hx hb dX0_setBounds_11 rfl (lv_at hl 2 rfl) ?_
  refine va_iald hx hb hK hP 2 1 rfl rfl (vp_in_nI (n := i) (by first | omega | exact ix_lt (by omega) (by omega) hn | exact ix_lt0 (by omega) hn | exact ix_ltq (by omega) hn | exact ix_lt1 (by omega) hn) (by omega)) dX0_setBounds_12 ?_
  refine lv_istore_n (lv' := [(3, .int (f11 ((nI i)).toNatClampNeg)), (2, .int (f10 ((nI i)).toNatClampNeg)), (0, .ref au), (1, .int (nI i))]) hx hb dX0_setBounds_13 rfl hl (by decide) rfl (fun ls hl => ?_)
  refine lv_aload_n hx hb dX0_setBounds_14 rfl (lv_at hl 2 rfl) ?_
  refine va_get (D := (dC, dI)) (ci := 0) (v := .ref q12) (C := RX0) (T := TX0) (N := 17) hx hb hts hiX0 hown hK hP 0 rfl rfl 12 (by decide) v_3 (fun _ h9 => h9) rfl dX0_setBounds_15 ?_
  refine lv_iload_n hx hb dX0_setBounds_18 rfl (lv_at hl 3 rfl) ?_
  refine lv_iload_n hx hb dX0_setBounds_19 rfl (lv_at hl 1 rfl) ?_
  refine lv_iconst (v := 2) hx hb dX0_setBounds_20 (by decide) ?_
  refine lv_icmp_le (tgt := 29) hx hb dX0_setBounds_21 (by decide) (fun c_1 => ?_) (fun c_1 => ?_)
  · refine lv_iload_n hx hb dX0_setBounds_29 rfl (lv_at hl 1 rfl) ?_
    refine lv_if_ne (tgt := 39) hx hb dX0_setBounds_30 (by decide) (fun c_2 => ?_) (fun c_2 => ?_)
    · refine lv_iconst (v := 2) hx hb dX0_setBounds_39 (by decide) ?_
      refine lv_iload_n hx hb dX0_setBounds_40 rfl (lv_at hl 0 rfl) ?_
      refine lv_imul hx hb dX0_setBounds_41 ?_
      refine lv_iconst (v := 1) hx hb dX0_setBounds_42 (by decide) ?_
      refine lv_iadd hx hb dX0_setBounds_43 ?_
      refine va_iast hx hb hK hP hD hS 3 2 rfl rfl (vp_in_nI (n := i) (by first | omega | exact ix_lt (by omega) (by omega) hn | exact ix_lt0 (by omega) hn | exact ix_ltq (by omega) hn | exact ix_lt1 (by omega) hn) (by omega)) dX0_setBounds_44 (fun H locs hP hD hS => ?_)
      have hP : va_P (dC, dI) vwCl [(au, .inr (0, [.int (nI nc), .int (nI np), .int (nI ne), .int st0, .ref q4, .ref q5, .ref q6, .ref q7, .ref q8, .ref q9, .ref q10, .ref q11, .ref q12, .ref q13, .ref q14, .ref q15, .ref q16])), (q10, .inl (k10, 88, .inl f10)), (q11, .inl (k11, 88, .inl f11)), (q12, .inl (k12, 88, .inl (upd f12 ((nI i) : Int32).toNatClampNeg ((2 * (f11 ((nI i)).toNatClampNeg)) + 1)))), (q13, .inl (k13, 88, .inl f13))] H := hP
      have hD : va_D A [(au, .inr (0, [.int (nI nc), .int (nI np), .int (nI ne), .int st0, .ref q4, .ref q5, .ref q6, .ref q7, .ref q8, .ref q9, .ref q10, .ref q11, .ref q12, .ref q13, .ref q14, .ref q15, .ref q16])), (q10, .inl (k10, 88, .inl f10)), (q11, .inl (k11, 88, .inl f11)), (q12, .inl (k12, 88, .inl (upd f12 ((nI i) : Int32).toNatClampNeg ((2 * (f11 ((nI i)).toNatClampNeg)) + 1)))), (q13, .inl (k13, 88, .inl f13))] := hD
      refine lv_aload_n hx hb dX0_setBounds_45 rfl (lv_at hl 2 rfl) ?_
      refine va_get (D := (dC, dI)) (ci := 0) (v := .ref q13) (C := RX0) (T := TX0) (N := 17) hx hb hts hiX0 hown hK hP 0 rfl rfl 13 (by decide) v_4 (fun _ h9 => h9) rfl dX0_setBounds_46 ?_
      refine lv_iload_n hx hb dX0_setBounds_49 rfl (lv_at hl 3 rfl) ?_
      refine lv_iload_n hx hb dX0_setBounds_50 rfl (lv_at hl 1 rfl) ?_
      refine lv_iconst (v := 2) hx hb dX0_setBounds_51 (by decide) ?_
      refine lv_icmp_ge (tgt := 60) hx hb dX0_setBounds_52 (by decide) (fun c_3 => ?_) (fun c_3 => ?_)
      · refine lv_iload_n hx hb dX0_setBounds_60 rfl (lv_at hl 1 rfl) ?_
        refine lv_iconst (v := 4) hx hb dX0_setBounds_61 (by decide) ?_
        refine lv_icmp_ne (tgt := 72) hx hb dX0_setBounds_62 (by decide) (fun c_4 => ?_) (fun c_4 => ?_)
        · refine lv_iconst (v := 1) hx hb dX0_setBounds_72 (by decide) ?_
          refine lv_iconst (v := 2) hx hb dX0_setBounds_73 (by decide) ?_
          refine lv_iload_n hx hb dX0_setBounds_74 rfl (lv_at hl 0 rfl) ?_
          refine lv_imul hx hb dX0_setBounds_75 ?_
          refine lv_isub hx hb dX0_setBounds_76 ?_
          refine va_iast hx hb hK hP hD hS 4 3 rfl rfl (vp_in_nI (n := i) (by first | omega | exact ix_lt (by omega) (by omega) hn | exact ix_lt0 (by omega) hn | exact ix_ltq (by omega) hn | exact ix_lt1 (by omega) hn) (by omega)) dX0_setBounds_77 (fun H locs hP hD hS => ?_)
          have hP : va_P (dC, dI) vwCl [(au, .inr (0, [.int (nI nc), .int (nI np), .int (nI ne), .int st0, .ref q4, .ref q5, .ref q6, .ref q7, .ref q8, .ref q9, .ref q10, .ref q11, .ref q12, .ref q13, .ref q14, .ref q15, .ref q16])), (q10, .inl (k10, 88, .inl f10)), (q11, .inl (k11, 88, .inl f11)), (q12, .inl (k12, 88, .inl (upd f12 ((nI i) : Int32).toNatClampNeg ((2 * (f11 ((nI i)).toNatClampNeg)) + 1)))), (q13, .inl (k13, 88, .inl (upd f13 ((nI i) : Int32).toNatClampNeg (1 - (2 * (f11 ((nI i)).toNatClampNeg))))))] H := hP
          have hD : va_D A [(au, .inr (0, [.int (nI nc), .int (nI np), .int (nI ne), .int st0, .ref q4, .ref q5, .ref q6, .ref q7, .ref q8, .ref q9, .ref q10, .ref q11, .ref q12, .ref q13, .ref q14, .ref q15, .ref q16])), (q10, .inl (k10, 88, .inl f10)), (q11, .inl (k11, 88, .inl f11)), (q12, .inl (k12, 88, .inl (upd f12 ((nI i) : Int32).toNatClampNeg ((2 * (f11 ((nI i)).toNatClampNeg)) + 1)))), (q13, .inl (k13, 88, .inl (upd f13 ((nI i) : Int32).toNatClampNeg (1 - (2 * (f11 ((nI i)).toNatClampNeg))))))] := hD
          have hP9 := hP.sub (ws' := [(au, .inr (0, [.int (nI nc), .int (nI np), .int (nI ne), .int st0, .ref q4, .ref q5, .ref q6, .ref q7, .ref q8, .ref q9, .ref q10, .ref q11, .ref q12, .ref q13, .ref q14, .ref q15, .ref q16])), (q10, .inl (k10, 88, .inl f10)), (q11, .inl (k11, 88, .inl f11)), (q12, .inl (k12, 88, .inl (upd f12 ((nI i) : Int32).toNatClampNeg ((2 * (f11 ((nI i)).toNatClampNeg)) + 1)))), (q13, .inl (k13, 88, .inl (upd f13 ((nI i) : Int32).toNatClampNeg (1 - (2 * (f11 ((nI i)).toNatClampNeg))))))]) [0, 1, 2, 3, 4] rfl
          have hD9 := hD.sub (ws' := [(au, .inr (0, [.int (nI nc), .int (nI np), .int (nI ne), .int st0, .ref q4, .ref q5, .ref q6, .ref q7, .ref q8, .ref q9, .ref q10, .ref q11, .ref q12, .ref q13, .ref q14, .ref q15, .ref q16])), (q10, .inl (k10, 88, .inl f10)), (q11, .inl (k11, 88, .inl f11)), (q12, .inl (k12, 88, .inl (upd f12 ((nI i) : Int32).toNatClampNeg ((2 * (f11 ((nI i)).toNatClampNeg)) + 1)))), (q13, .inl (k13, 88, .inl (upd f13 ((nI i) : Int32).toNatClampNeg (1 - (2 * (f11 ((nI i)).toNatClampNeg))))))]) [0, 1, 2, 3, 4] (by decide) rfl
          have hK9 := hK.sub (tys' := [(k10, .int), (k11, .int), (k12, .int), (k13, .int)]) [0, 1, 2, 3] rfl
          exact W.vret hx hb hr (fun t ht hW => ⟨⟨(), rfl, trivial, ⟨upd f12 ((nI i) : Int32).toNatClampNeg ((2 * (f11 ((nI i)).toNatClampNeg)) + 1), upd f13 ((nI i) : Int32).toNatClampNeg (1 - (2 * (f11 ((nI i)).toNatClampNeg))), by rw [ht]; exact hP9, va_K.moved hW.alike hK9, hD9⟩⟩, hS.F ht⟩) hS.2.2 dX0_setBounds_78
        · have z_0 := c_1
          have z_1 := c_2
          have z_2 := c_3
          have z_3 := c_4
          exfalso
          simp only [fa_lt, fa_le, fa_eq] at z_0 z_1 z_2 z_3
          have y_0 : (0 : Int32).toInt = 0 := by decide
          have y_2 : (2 : Int32).toInt = 2 := by decide
          have y_4 : (4 : Int32).toInt = 4 := by decide
          omega
      · refine lv_ldc hx hb hown v_5 dX0_setBounds_55 ?_
        refine lv_goto (tgt := 77) hx hb dX0_setBounds_57 (by decide) ?_
        refine va_iast hx hb hK hP hD hS 4 3 rfl rfl (vp_in_nI (n := i) (by first | omega | exact ix_lt (by omega) (by omega) hn | exact ix_lt0 (by omega) hn | exact ix_ltq (by omega) hn | exact ix_lt1 (by omega) hn) (by omega)) dX0_setBounds_77 (fun H locs hP hD hS => ?_)
        have hP : va_P (dC, dI) vwCl [(au, .inr (0, [.int (nI nc), .int (nI np), .int (nI ne), .int st0, .ref q4, .ref q5, .ref q6, .ref q7, .ref q8, .ref q9, .ref q10, .ref q11, .ref q12, .ref q13, .ref q14, .ref q15, .ref q16])), (q10, .inl (k10, 88, .inl f10)), (q11, .inl (k11, 88, .inl f11)), (q12, .inl (k12, 88, .inl (upd f12 ((nI i) : Int32).toNatClampNeg ((2 * (f11 ((nI i)).toNatClampNeg)) + 1)))), (q13, .inl (k13, 88, .inl (upd f13 ((nI i) : Int32).toNatClampNeg 2147483647)))] H := hP
        have hD : va_D A [(au, .inr (0, [.int (nI nc), .int (nI np), .int (nI ne), .int st0, .ref q4, .ref q5, .ref q6, .ref q7, .ref q8, .ref q9, .ref q10, .ref q11, .ref q12, .ref q13, .ref q14, .ref q15, .ref q16])), (q10, .inl (k10, 88, .inl f10)), (q11, .inl (k11, 88, .inl f11)), (q12, .inl (k12, 88, .inl (upd f12 ((nI i) : Int32).toNatClampNeg ((2 * (f11 ((nI i)).toNatClampNeg)) + 1)))), (q13, .inl (k13, 88, .inl (upd f13 ((nI i) : Int32).toNatClampNeg 2147483647)))] := hD
        have hP9 := hP.sub (ws' := [(au, .inr (0, [.int (nI nc), .int (nI np), .int (nI ne), .int st0, .ref q4, .ref q5, .ref q6, .ref q7, .ref q8, .ref q9, .ref q10, .ref q11, .ref q12, .ref q13, .ref q14, .ref q15, .ref q16])), (q10, .inl (k10, 88, .inl f10)), (q11, .inl (k11, 88, .inl f11)), (q12, .inl (k12, 88, .inl (upd f12 ((nI i) : Int32).toNatClampNeg ((2 * (f11 ((nI i)).toNatClampNeg)) + 1)))), (q13, .inl (k13, 88, .inl (upd f13 ((nI i) : Int32).toNatClampNeg 2147483647)))]) [0, 1, 2, 3, 4] rfl
        have hD9 := hD.sub (ws' := [(au, .inr (0, [.int (nI nc), .int (nI np), .int (nI ne), .int st0, .ref q4, .ref q5, .ref q6, .ref q7, .ref q8, .ref q9, .ref q10, .ref q11, .ref q12, .ref q13, .ref q14, .ref q15, .ref q16])), (q10, .inl (k10, 88, .inl f10)), (q11, .inl (k11, 88, .inl f11)), (q12, .inl (k12, 88, .inl (upd f12 ((nI i) : Int32).toNatClampNeg ((2 * (f11 ((nI i)).toNatClampNeg)) + 1)))), (q13, .inl (k13, 88, .inl (upd f13 ((nI i) : Int32).toNatClampNeg 2147483647)))]) [0, 1, 2, 3, 4] (by decide) rfl
        have hK9 := hK.sub (tys' := [(k10, .int), (k11, .int), (k12, .int), (k13, .int)]) [0, 1, 2, 3] rfl
        exact W.vret hx hb hr (fun t ht hW => ⟨⟨(), rfl, trivial, ⟨upd f12 ((nI i) : Int32).toNatClampNeg ((2 * (f11 ((nI i)).toNatClampNeg)) + 1), upd f13 ((nI i) : Int32).toNatClampNeg 2147483647, by rw [ht]; exact hP9, va_K.moved hW.alike hK9, hD9⟩⟩, hS.F ht⟩) hS.2.2 dX0_setBounds_78
    · refine lv_iconst (v := 2) hx hb dX0_setBounds_33 (by decide) ?_
      refine lv_iload_n hx hb dX0_setBounds_34 rfl (lv_at hl 0 rfl) ?_
      refine lv_imul hx hb dX0_setBounds_35 ?_
      refine lv_goto (tgt := 44) hx hb dX0_setBounds_36 (by decide) ?_
      refine va_iast hx hb hK hP hD hS 3 2 rfl rfl (vp_in_nI (n := i) (by first | omega | exact ix_lt (by omega) (by omega) hn | exact ix_lt0 (by omega) hn | exact ix_ltq (by omega) hn | exact ix_lt1 (by omega) hn) (by omega)) dX0_setBounds_44 (fun H locs hP hD hS => ?_)
      have hP : va_P (dC, dI) vwCl [(au, .inr (0, [.int (nI nc), .int (nI np), .int (nI ne), .int st0, .ref q4, .ref q5, .ref q6, .ref q7, .ref q8, .ref q9, .ref q10, .ref q11, .ref q12, .ref q13, .ref q14, .ref q15, .ref q16])), (q10, .inl (k10, 88, .inl f10)), (q11, .inl (k11, 88, .inl f11)), (q12, .inl (k12, 88, .inl (upd f12 ((nI i) : Int32).toNatClampNeg (2 * (f11 ((nI i)).toNatClampNeg))))), (q13, .inl (k13, 88, .inl f13))] H := hP
      have hD : va_D A [(au, .inr (0, [.int (nI nc), .int (nI np), .int (nI ne), .int st0, .ref q4, .ref q5, .ref q6, .ref q7, .ref q8, .ref q9, .ref q10, .ref q11, .ref q12, .ref q13, .ref q14, .ref q15, .ref q16])), (q10, .inl (k10, 88, .inl f10)), (q11, .inl (k11, 88, .inl f11)), (q12, .inl (k12, 88, .inl (upd f12 ((nI i) : Int32).toNatClampNeg (2 * (f11 ((nI i)).toNatClampNeg))))), (q13, .inl (k13, 88, .inl f13))] := hD
      refine lv_aload_n hx hb dX0_setBounds_45 rfl (lv_at hl 2 rfl) ?_
      refine va_get (D := (dC, dI)) (ci := 0) (v := .ref q13) (C := RX0) (T := TX0) (N := 17) hx hb hts hiX0 hown hK hP 0 rfl rfl 13 (by decide) v_4 (fun _ h9 => h9) rfl dX0_setBounds_46 ?_
      refine lv_iload_n hx hb dX0_setBounds_49 rfl (lv_at hl 3 rfl) ?_
      refine lv_iload_n hx hb dX0_setBounds_50 rfl (lv_at hl 1 rfl) ?_
      refine lv_iconst (v := 2) hx hb dX0_setBounds_51 (by decide) ?_
      refine lv_icmp_ge (tgt := 60) hx hb dX0_setBounds_52 (by decide) (fun c_5 => ?_) (fun c_5 => ?_)
      · have z_0 := c_1
        have z_1 := c_2
        have z_2 := c_5
        exfalso
        simp only [fa_lt, fa_le, fa_eq] at z_0 z_1 z_2
        have y_0 : (0 : Int32).toInt = 0 := by decide
        have y_2 : (2 : Int32).toInt = 2 := by decide
        omega
      · refine lv_ldc hx hb hown v_5 dX0_setBounds_55 ?_
        refine lv_goto (tgt := 77) hx hb dX0_setBounds_57 (by decide) ?_
        refine va_iast hx hb hK hP hD hS 4 3 rfl rfl (vp_in_nI (n := i) (by first | omega | exact ix_lt (by omega) (by omega) hn | exact ix_lt0 (by omega) hn | exact ix_ltq (by omega) hn | exact ix_lt1 (by omega) hn) (by omega)) dX0_setBounds_77 (fun H locs hP hD hS => ?_)
        have hP : va_P (dC, dI) vwCl [(au, .inr (0, [.int (nI nc), .int (nI np), .int (nI ne), .int st0, .ref q4, .ref q5, .ref q6, .ref q7, .ref q8, .ref q9, .ref q10, .ref q11, .ref q12, .ref q13, .ref q14, .ref q15, .ref q16])), (q10, .inl (k10, 88, .inl f10)), (q11, .inl (k11, 88, .inl f11)), (q12, .inl (k12, 88, .inl (upd f12 ((nI i) : Int32).toNatClampNeg (2 * (f11 ((nI i)).toNatClampNeg))))), (q13, .inl (k13, 88, .inl (upd f13 ((nI i) : Int32).toNatClampNeg 2147483647)))] H := hP
        have hD : va_D A [(au, .inr (0, [.int (nI nc), .int (nI np), .int (nI ne), .int st0, .ref q4, .ref q5, .ref q6, .ref q7, .ref q8, .ref q9, .ref q10, .ref q11, .ref q12, .ref q13, .ref q14, .ref q15, .ref q16])), (q10, .inl (k10, 88, .inl f10)), (q11, .inl (k11, 88, .inl f11)), (q12, .inl (k12, 88, .inl (upd f12 ((nI i) : Int32).toNatClampNeg (2 * (f11 ((nI i)).toNatClampNeg))))), (q13, .inl (k13, 88, .inl (upd f13 ((nI i) : Int32).toNatClampNeg 2147483647)))] := hD
        have hP9 := hP.sub (ws' := [(au, .inr (0, [.int (nI nc), .int (nI np), .int (nI ne), .int st0, .ref q4, .ref q5, .ref q6, .ref q7, .ref q8, .ref q9, .ref q10, .ref q11, .ref q12, .ref q13, .ref q14, .ref q15, .ref q16])), (q10, .inl (k10, 88, .inl f10)), (q11, .inl (k11, 88, .inl f11)), (q12, .inl (k12, 88, .inl (upd f12 ((nI i) : Int32).toNatClampNeg (2 * (f11 ((nI i)).toNatClampNeg))))), (q13, .inl (k13, 88, .inl (upd f13 ((nI i) : Int32).toNatClampNeg 2147483647)))]) [0, 1, 2, 3, 4] rfl
        have hD9 := hD.sub (ws' := [(au, .inr (0, [.int (nI nc), .int (nI np), .int (nI ne), .int st0, .ref q4, .ref q5, .ref q6, .ref q7, .ref q8, .ref q9, .ref q10, .ref q11, .ref q12, .ref q13, .ref q14, .ref q15, .ref q16])), (q10, .inl (k10, 88, .inl f10)), (q11, .inl (k11, 88, .inl f11)), (q12, .inl (k12, 88, .inl (upd f12 ((nI i) : Int32).toNatClampNeg (2 * (f11 ((nI i)).toNatClampNeg))))), (q13, .inl (k13, 88, .inl (upd f13 ((nI i) : Int32).toNatClampNeg 2147483647)))]) [0, 1, 2, 3, 4] (by decide) rfl
        have hK9 := hK.sub (tys' := [(k10, .int), (k11, .int), (k12, .int), (k13, .int)]) [0, 1, 2, 3] rfl
        exact W.vret hx hb hr (fun t ht hW => ⟨⟨(), rfl, trivial, ⟨upd f12 ((nI i) : Int32).toNatClampNeg (2 * (f11 ((nI i)).toNatClampNeg)), upd f13 ((nI i) : Int32).toNatClampNeg 2147483647, by rw [ht]; exact hP9, va_K.moved hW.alike hK9, hD9⟩⟩, hS.F ht⟩) hS.2.2 dX0_setBounds_78
  · refine lv_ldc hx hb hown v_5 dX0_setBounds_24 ?_
    refine lv_goto (tgt := 44) hx hb dX0_setBounds_26 (by decide) ?_
    refine va_iast hx hb hK hP hD hS 3 2 rfl rfl (vp_in_nI (n := i) (by first | omega | exact ix_lt (by omega) (by omega) hn | exact ix_lt0 (by omega) hn | exact ix_ltq (by omega) hn | exact ix_lt1 (by omega) hn) (by omega)) dX0_setBounds_44 (fun H locs hP hD hS => ?_)
    have hP : va_P (dC, dI) vwCl [(au, .inr (0, [.int (nI nc), .int (nI np), .int (nI ne), .int st0, .ref q4, .ref q5, .ref q6, .ref q7, .ref q8, .ref q9, .ref q10, .ref q11, .ref q12, .ref q13, .ref q14, .ref q15, .ref q16])), (q10, .inl (k10, 88, .inl f10)), (q11, .inl (k11, 88, .inl f11)), (q12, .inl (k12, 88, .inl (upd f12 ((nI i) : Int32).toNatClampNeg 2147483647))), (q13, .inl (k13, 88, .inl f13))] H := hP
    have hD : va_D A [(au, .inr (0, [.int (nI nc), .int (nI np), .int (nI ne), .int st0, .ref q4, .ref q5, .ref q6, .ref q7, .ref q8, .ref q9, .ref q10, .ref q11, .ref q12, .ref q13, .ref q14, .ref q15, .ref q16])), (q10, .inl (k10, 88, .inl f10)), (q11, .inl (k11, 88, .inl f11)), (q12, .inl (k12, 88, .inl (upd f12 ((nI i) : Int32).toNatClampNeg 2147483647))), (q13, .inl (k13, 88, .inl f13))] := hD
    refine lv_aload_n hx hb dX0_setBounds_45 rfl (lv_at hl 2 rfl) ?_
    refine va_get (D := (dC, dI)) (ci := 0) (v := .ref q13) (C := RX0) (T := TX0) (N := 17) hx hb hts hiX0 hown hK hP 0 rfl rfl 13 (by decide) v_4 (fun _ h9 => h9) rfl dX0_setBounds_46 ?_
    refine lv_iload_n hx hb dX0_setBounds_49 rfl (lv_at hl 3 rfl) ?_
    refine lv_iload_n hx hb dX0_setBounds_50 rfl (lv_at hl 1 rfl) ?_
    refine lv_iconst (v := 2) hx hb dX0_setBounds_51 (by decide) ?_
    refine lv_icmp_ge (tgt := 60) hx hb dX0_setBounds_52 (by decide) (fun c_6 => ?_) (fun c_6 => ?_)
    · refine lv_iload_n hx hb dX0_setBounds_60 rfl (lv_at hl 1 rfl) ?_
      refine lv_iconst (v := 4) hx hb dX0_setBounds_61 (by decide) ?_
      refine lv_icmp_ne (tgt := 72) hx hb dX0_setBounds_62 (by decide) (fun c_7 => ?_) (fun c_7 => ?_)
      · refine lv_iconst (v := 1) hx hb dX0_setBounds_72 (by decide) ?_
        refine lv_iconst (v := 2) hx hb dX0_setBounds_73 (by decide) ?_
        refine lv_iload_n hx hb dX0_setBounds_74 rfl (lv_at hl 0 rfl) ?_
        refine lv_imul hx hb dX0_setBounds_75 ?_
        refine lv_isub hx hb dX0_setBounds_76 ?_
        refine va_iast hx hb hK hP hD hS 4 3 rfl rfl (vp_in_nI (n := i) (by first | omega | exact ix_lt (by omega) (by omega) hn | exact ix_lt0 (by omega) hn | exact ix_ltq (by omega) hn | exact ix_lt1 (by omega) hn) (by omega)) dX0_setBounds_77 (fun H locs hP hD hS => ?_)
        have hP : va_P (dC, dI) vwCl [(au, .inr (0, [.int (nI nc), .int (nI np), .int (nI ne), .int st0, .ref q4, .ref q5, .ref q6, .ref q7, .ref q8, .ref q9, .ref q10, .ref q11, .ref q12, .ref q13, .ref q14, .ref q15, .ref q16])), (q10, .inl (k10, 88, .inl f10)), (q11, .inl (k11, 88, .inl f11)), (q12, .inl (k12, 88, .inl (upd f12 ((nI i) : Int32).toNatClampNeg 2147483647))), (q13, .inl (k13, 88, .inl (upd f13 ((nI i) : Int32).toNatClampNeg (1 - (2 * (f11 ((nI i)).toNatClampNeg))))))] H := hP
        have hD : va_D A [(au, .inr (0, [.int (nI nc), .int (nI np), .int (nI ne), .int st0, .ref q4, .ref q5, .ref q6, .ref q7, .ref q8, .ref q9, .ref q10, .ref q11, .ref q12, .ref q13, .ref q14, .ref q15, .ref q16])), (q10, .inl (k10, 88, .inl f10)), (q11, .inl (k11, 88, .inl f11)), (q12, .inl (k12, 88, .inl (upd f12 ((nI i) : Int32).toNatClampNeg 2147483647))), (q13, .inl (k13, 88, .inl (upd f13 ((nI i) : Int32).toNatClampNeg (1 - (2 * (f11 ((nI i)).toNatClampNeg))))))] := hD
        have hP9 := hP.sub (ws' := [(au, .inr (0, [.int (nI nc), .int (nI np), .int (nI ne), .int st0, .ref q4, .ref q5, .ref q6, .ref q7, .ref q8, .ref q9, .ref q10, .ref q11, .ref q12, .ref q13, .ref q14, .ref q15, .ref q16])), (q10, .inl (k10, 88, .inl f10)), (q11, .inl (k11, 88, .inl f11)), (q12, .inl (k12, 88, .inl (upd f12 ((nI i) : Int32).toNatClampNeg 2147483647))), (q13, .inl (k13, 88, .inl (upd f13 ((nI i) : Int32).toNatClampNeg (1 - (2 * (f11 ((nI i)).toNatClampNeg))))))]) [0, 1, 2, 3, 4] rfl
        have hD9 := hD.sub (ws' := [(au, .inr (0, [.int (nI nc), .int (nI np), .int (nI ne), .int st0, .ref q4, .ref q5, .ref q6, .ref q7, .ref q8, .ref q9, .ref q10, .ref q11, .ref q12, .ref q13, .ref q14, .ref q15, .ref q16])), (q10, .inl (k10, 88, .inl f10)), (q11, .inl (k11, 88, .inl f11)), (q12, .inl (k12, 88, .inl (upd f12 ((nI i) : Int32).toNatClampNeg 2147483647))), (q13, .inl (k13, 88, .inl (upd f13 ((nI i) : Int32).toNatClampNeg (1 - (2 * (f11 ((nI i)).toNatClampNeg))))))]) [0, 1, 2, 3, 4] (by decide) rfl
        have hK9 := hK.sub (tys' := [(k10, .int), (k11, .int), (k12, .int), (k13, .int)]) [0, 1, 2, 3] rfl
        exact W.vret hx hb hr (fun t ht hW => ⟨⟨(), rfl, trivial, ⟨upd f12 ((nI i) : Int32).toNatClampNeg 2147483647, upd f13 ((nI i) : Int32).toNatClampNeg (1 - (2 * (f11 ((nI i)).toNatClampNeg))), by rw [ht]; exact hP9, va_K.moved hW.alike hK9, hD9⟩⟩, hS.F ht⟩) hS.2.2 dX0_setBounds_78
      · refine lv_bipush (v := (-2)) hx hb dX0_setBounds_65 (by decide) ?_
        refine lv_iload_n hx hb dX0_setBounds_67 rfl (lv_at hl 0 rfl) ?_
        refine lv_imul hx hb dX0_setBounds_68 ?_
        refine lv_goto (tgt := 77) hx hb dX0_setBounds_69 (by decide) ?_
        refine va_iast hx hb hK hP hD hS 4 3 rfl rfl (vp_in_nI (n := i) (by first | omega | exact ix_lt (by omega) (by omega) hn | exact ix_lt0 (by omega) hn | exact ix_ltq (by omega) hn | exact ix_lt1 (by omega) hn) (by omega)) dX0_setBounds_77 (fun H locs hP hD hS => ?_)
        have hP : va_P (dC, dI) vwCl [(au, .inr (0, [.int (nI nc), .int (nI np), .int (nI ne), .int st0, .ref q4, .ref q5, .ref q6, .ref q7, .ref q8, .ref q9, .ref q10, .ref q11, .ref q12, .ref q13, .ref q14, .ref q15, .ref q16])), (q10, .inl (k10, 88, .inl f10)), (q11, .inl (k11, 88, .inl f11)), (q12, .inl (k12, 88, .inl (upd f12 ((nI i) : Int32).toNatClampNeg 2147483647))), (q13, .inl (k13, 88, .inl (upd f13 ((nI i) : Int32).toNatClampNeg ((-2) * (f11 ((nI i)).toNatClampNeg)))))] H := hP
        have hD : va_D A [(au, .inr (0, [.int (nI nc), .int (nI np), .int (nI ne), .int st0, .ref q4, .ref q5, .ref q6, .ref q7, .ref q8, .ref q9, .ref q10, .ref q11, .ref q12, .ref q13, .ref q14, .ref q15, .ref q16])), (q10, .inl (k10, 88, .inl f10)), (q11, .inl (k11, 88, .inl f11)), (q12, .inl (k12, 88, .inl (upd f12 ((nI i) : Int32).toNatClampNeg 2147483647))), (q13, .inl (k13, 88, .inl (upd f13 ((nI i) : Int32).toNatClampNeg ((-2) * (f11 ((nI i)).toNatClampNeg)))))] := hD
        have hP9 := hP.sub (ws' := [(au, .inr (0, [.int (nI nc), .int (nI np), .int (nI ne), .int st0, .ref q4, .ref q5, .ref q6, .ref q7, .ref q8, .ref q9, .ref q10, .ref q11, .ref q12, .ref q13, .ref q14, .ref q15, .ref q16])), (q10, .inl (k10, 88, .inl f10)), (q11, .inl (k11, 88, .inl f11)), (q12, .inl (k12, 88, .inl (upd f12 ((nI i) : Int32).toNatClampNeg 2147483647))), (q13, .inl (k13, 88, .inl (upd f13 ((nI i) : Int32).toNatClampNeg ((-2) * (f11 ((nI i)).toNatClampNeg)))))]) [0, 1, 2, 3, 4] rfl
        have hD9 := hD.sub (ws' := [(au, .inr (0, [.int (nI nc), .int (nI np), .int (nI ne), .int st0, .ref q4, .ref q5, .ref q6, .ref q7, .ref q8, .ref q9, .ref q10, .ref q11, .ref q12, .ref q13, .ref q14, .ref q15, .ref q16])), (q10, .inl (k10, 88, .inl f10)), (q11, .inl (k11, 88, .inl f11)), (q12, .inl (k12, 88, .inl (upd f12 ((nI i) : Int32).toNatClampNeg 2147483647))), (q13, .inl (k13, 88, .inl (upd f13 ((nI i) : Int32).toNatClampNeg ((-2) * (f11 ((nI i)).toNatClampNeg)))))]) [0, 1, 2, 3, 4] (by decide) rfl
        have hK9 := hK.sub (tys' := [(k10, .int), (k11, .int), (k12, .int), (k13, .int)]) [0, 1, 2, 3] rfl
        exact W.vret hx hb hr (fun t ht hW => ⟨⟨(), rfl, trivial, ⟨upd f12 ((nI i) : Int32).toNatClampNeg 2147483647, upd f13 ((nI i) : Int32).toNatClampNeg ((-2) * (f11 ((nI i)).toNatClampNeg)), by rw [ht]; exact hP9, va_K.moved hW.alike hK9, hD9⟩⟩, hS.F ht⟩) hS.2.2 dX0_setBounds_78
    · have z_0 := c_1
      have z_1 := c_6
      exfalso
      simp only [fa_lt, fa_le, fa_eq] at z_0 z_1
      have y_0 : (0 : Int32).toInt = 0 := by decide
      have y_2 : (2 : Int32).toInt = 2 := by decide
      omega
