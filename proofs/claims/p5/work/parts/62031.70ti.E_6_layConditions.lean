theorem eX6_layConditions_0 : decode cX6_layConditions 0 = .ok (.iconst 0, 1) := by decide +kernel
theorem eX6_layConditions_1 : decode cX6_layConditions 1 = .ok (.istore 4, 2) := by decide +kernel
theorem eX6_layConditions_3 : decode cX6_layConditions 3 = .ok (.iload 4, 2) := by decide +kernel
theorem eX6_layConditions_5 : decode cX6_layConditions 5 = .ok (.aload_n 1, 1) := by decide +kernel
theorem eX6_layConditions_6 : decode cX6_layConditions 6 = .ok (.getfield 93, 3) := by decide +kernel
theorem eX6_layConditions_9 : decode cX6_layConditions 9 = .ok (.iload_n 2, 1) := by decide +kernel
theorem eX6_layConditions_10 : decode cX6_layConditions 10 = .ok (.iaload, 1) := by decide +kernel
theorem eX6_layConditions_11 : decode cX6_layConditions 11 = .ok (.if_icmp .ge 91, 3) := by decide +kernel
theorem eX6_layConditions_14 : decode cX6_layConditions 14 = .ok (.iload_n 2, 1) := by decide +kernel
theorem eX6_layConditions_15 : decode cX6_layConditions 15 = .ok (.iload 4, 2) := by decide +kernel
theorem eX6_layConditions_17 : decode cX6_layConditions 17 = .ok (.invokestatic 96, 3) := by decide +kernel
theorem eX6_layConditions_20 : decode cX6_layConditions 20 = .ok (.istore 5, 2) := by decide +kernel
theorem eX6_layConditions_22 : decode cX6_layConditions 22 = .ok (.aload_n 0, 1) := by decide +kernel
theorem eX6_layConditions_23 : decode cX6_layConditions 23 = .ok (.getfield 27, 3) := by decide +kernel
theorem eX6_layConditions_26 : decode cX6_layConditions 26 = .ok (.aload_n 1, 1) := by decide +kernel
theorem eX6_layConditions_27 : decode cX6_layConditions 27 = .ok (.getfield 100, 3) := by decide +kernel
theorem eX6_layConditions_30 : decode cX6_layConditions 30 = .ok (.iload 5, 2) := by decide +kernel
theorem eX6_layConditions_32 : decode cX6_layConditions 32 = .ok (.iaload, 1) := by decide +kernel
theorem eX6_layConditions_33 : decode cX6_layConditions 33 = .ok (.iaload, 1) := by decide +kernel
theorem eX6_layConditions_34 : decode cX6_layConditions 34 = .ok (.istore 6, 2) := by decide +kernel
theorem eX6_layConditions_36 : decode cX6_layConditions 36 = .ok (.aload_n 1, 1) := by decide +kernel
theorem eX6_layConditions_37 : decode cX6_layConditions 37 = .ok (.getfield 103, 3) := by decide +kernel
theorem eX6_layConditions_40 : decode cX6_layConditions 40 = .ok (.iload 5, 2) := by decide +kernel
theorem eX6_layConditions_42 : decode cX6_layConditions 42 = .ok (.iaload, 1) := by decide +kernel
theorem eX6_layConditions_43 : decode cX6_layConditions 43 = .ok (.ldc 106, 2) := by decide +kernel
theorem eX6_layConditions_45 : decode cX6_layConditions 45 = .ok (.if_icmp .eq 21, 3) := by decide +kernel
theorem eX6_layConditions_48 : decode cX6_layConditions 48 = .ok (.aload_n 0, 1) := by decide +kernel
theorem eX6_layConditions_49 : decode cX6_layConditions 49 = .ok (.iload 6, 2) := by decide +kernel
theorem eX6_layConditions_51 : decode cX6_layConditions 51 = .ok (.iload_n 3, 1) := by decide +kernel
theorem eX6_layConditions_52 : decode cX6_layConditions 52 = .ok (.aload_n 1, 1) := by decide +kernel
theorem eX6_layConditions_53 : decode cX6_layConditions 53 = .ok (.getfield 103, 3) := by decide +kernel
theorem eX6_layConditions_56 : decode cX6_layConditions 56 = .ok (.iload 5, 2) := by decide +kernel
theorem eX6_layConditions_58 : decode cX6_layConditions 58 = .ok (.iaload, 1) := by decide +kernel
theorem eX6_layConditions_59 : decode cX6_layConditions 59 = .ok (.invokestatic 107, 3) := by decide +kernel
theorem eX6_layConditions_62 : decode cX6_layConditions 62 = .ok (.ineg, 1) := by decide +kernel
theorem eX6_layConditions_63 : decode cX6_layConditions 63 = .ok (.invokevirtual 76, 3) := by decide +kernel
theorem eX6_layConditions_66 : decode cX6_layConditions 66 = .ok (.aload_n 1, 1) := by decide +kernel
theorem eX6_layConditions_67 : decode cX6_layConditions 67 = .ok (.getfield 110, 3) := by decide +kernel
theorem eX6_layConditions_70 : decode cX6_layConditions 70 = .ok (.iload 5, 2) := by decide +kernel
theorem eX6_layConditions_72 : decode cX6_layConditions 72 = .ok (.iaload, 1) := by decide +kernel
theorem eX6_layConditions_73 : decode cX6_layConditions 73 = .ok (.ldc 106, 2) := by decide +kernel
theorem eX6_layConditions_75 : decode cX6_layConditions 75 = .ok (.if_icmp .eq 21, 3) := by decide +kernel
theorem eX6_layConditions_78 : decode cX6_layConditions 78 = .ok (.aload_n 0, 1) := by decide +kernel
theorem eX6_layConditions_79 : decode cX6_layConditions 79 = .ok (.iload_n 3, 1) := by decide +kernel
theorem eX6_layConditions_80 : decode cX6_layConditions 80 = .ok (.iload 6, 2) := by decide +kernel
theorem eX6_layConditions_82 : decode cX6_layConditions 82 = .ok (.aload_n 1, 1) := by decide +kernel
theorem eX6_layConditions_83 : decode cX6_layConditions 83 = .ok (.getfield 110, 3) := by decide +kernel
theorem eX6_layConditions_86 : decode cX6_layConditions 86 = .ok (.iload 5, 2) := by decide +kernel
theorem eX6_layConditions_88 : decode cX6_layConditions 88 = .ok (.iaload, 1) := by decide +kernel
theorem eX6_layConditions_89 : decode cX6_layConditions 89 = .ok (.invokestatic 107, 3) := by decide +kernel
theorem eX6_layConditions_92 : decode cX6_layConditions 92 = .ok (.ineg, 1) := by decide +kernel
theorem eX6_layConditions_93 : decode cX6_layConditions 93 = .ok (.invokevirtual 76, 3) := by decide +kernel
theorem eX6_layConditions_96 : decode cX6_layConditions 96 = .ok (.iinc 4 1, 3) := by decide +kernel
theorem eX6_layConditions_99 : decode cX6_layConditions 99 = .ok (.goto (-96), 3) := by decide +kernel
theorem eX6_layConditions_102 : decode cX6_layConditions 102 = .ok (.return_, 1) := by decide +kernel
abbrev vs_E_6_layConditions : List Cond := .code yX6_layConditions cX6_layConditions 7 none :: CM
theorem g_E_6_layConditions_E_0_slot : GoodIn vs_E_6_layConditions (va_wsS RX6 96 yX0_slot vs_E_0_slot) := cm_gS cm_390 cm_18 cm_19 cm_1
theorem g_E_6_layConditions_E_7_ticks : GoodIn vs_E_6_layConditions (va_wsS RX6 107 yX7_ticks vs_E_7_ticks) := cm_gS cm_391 cm_68 cm_45 cm_69
theorem g_E_6_layConditions_E_6_layRule : GoodIn vs_E_6_layConditions (wsV RX6 76 RX6 yX6_layRule vs_E_6_layRule) := cm_gV cm_392 cm_393 cm_394 cm_383 cm_395
noncomputable def sp_E_6_layConditions_L1 (q_j7 : Nat → Nat) (q_f8 : Nat → Nat) (q_f9 : Nat → Nat) (f12 : Nat → Int32) (f13 : Nat → Int32) (a1 : Nat) (a2 : Nat) : ((Nat → Nat) × (Nat → Nat) × (Nat → Int32) × Nat × Nat) → ((Nat → Nat) × (Nat → Nat) × (Nat → Int32) × Nat × Nat) ⊕ ((Nat → Nat) × (Nat → Nat) × (Nat → Int32) × Nat) := fun (g_6, g_7, g_8, g_9, g_10) => (slet (min (q_f8 a1) 4) (fun u_18 => (if u_18 ≤ g_10 then (Sum.inr (g_6, g_7, g_8, g_9)) else (slet (min (q_f9 (a1 * 4 + g_10)) 2) (fun u_22 => (slet (min (q_j7 u_22) 120) (fun u_24 => (slet (f12 (a1 * 4 + g_10)) (fun y_25 => (slet (α := Nat × (Nat → Nat) × (Nat → Nat) × (Nat → Int32)) (if (y_25 : Int32) = 2147483647 then (g_9, g_6, g_7, g_8) else (slet (f12 (a1 * 4 + g_10)) (fun y_51 => (slet (sp_E_7_ticks y_51) (fun r_52 => (slet (-(r_52 : Int32)) (fun y_53 => (slet (sp_E_6_layRule g_9 g_6 g_7 g_8 u_24 a2 y_53) (fun (z_j3_55, z_j4_56, z_j5_57, z_nr_58) => (z_nr_58, z_j3_55, z_j4_56, z_j5_57)))))))))) (fun (g_26, g_27, g_28, g_29) => (slet (f13 (a1 * 4 + g_10)) (fun y_33 => (slet (α := Nat × (Nat → Nat) × (Nat → Nat) × (Nat → Int32)) (if (y_33 : Int32) = 2147483647 then (g_26, g_27, g_28, g_29) else (slet (f13 (a1 * 4 + g_10)) (fun y_42 => (slet (sp_E_7_ticks y_42) (fun r_43 => (slet (-(r_43 : Int32)) (fun y_44 => (slet (sp_E_6_layRule g_26 g_27 g_28 g_29 a2 u_24 y_44) (fun (z_j3_46, z_j4_47, z_j5_48, z_nr_49) => (z_nr_49, z_j3_46, z_j4_47, z_j5_48)))))))))) (fun (g_34, g_35, g_36, g_37) => (Sum.inl (g_35, g_36, g_37, g_34, (g_10 + 1))))))))))))))))))
noncomputable def sp_E_6_layConditions (nr : Nat) (q_j3 : Nat → Nat) (q_j4 : Nat → Nat) (j5 : Nat → Int32) (q_j7 : Nat → Nat) (q_f8 : Nat → Nat) (q_f9 : Nat → Nat) (f12 : Nat → Int32) (f13 : Nat → Int32) (a1 : Nat) (a2 : Nat) : (Nat → Nat) × (Nat → Nat) × (Nat → Int32) × Nat := (itrv (α := (Nat → Nat) × (Nat → Nat) × (Nat → Int32) × Nat × Nat) (β := ((Nat → Nat) × (Nat → Nat) × (Nat → Int32) × Nat)) default (sp_E_6_layConditions_L1 q_j7 q_f8 q_f9 f12 f13 a1 a2) (q_j3, q_j4, j5, nr, 0))
set_option maxHeartbeats 4000000 in
set_option maxRecDepth 100000 in
theorem c_E_6_layConditions (l : Launch) (dC : Nat → ClassId) (dI : Nat → Nat → Nat) (sz : Nat) (ti : Nat) (r0 : Nat) (ln : Nat) (r2 : Nat) (r3 : Nat) (r4 : Nat) (r5 : Nat) (nr : Nat) (r7 : Nat) (r8 : Nat) (tz : Nat) (k_j0 : ClassId) (q_j0 : Nat → Nat) (k_j2 : ClassId) (j2 : Nat → Int32) (k_j3 : ClassId) (q_j3 : Nat → Nat) (k_j4 : ClassId) (q_j4 : Nat → Nat) (k_j5 : ClassId) (j5 : Nat → Int32) (k_j7 : ClassId) (q_j7 : Nat → Nat) (k_j8 : ClassId) (j8 : Nat → Int32) (au : Nat) (nc : Nat) (np : Nat) (ne : Nat) (st0 : Int32) (q4 : Nat) (q5 : Nat) (q6 : Nat) (q7 : Nat) (q8 : Nat) (q9 : Nat) (q10 : Nat) (q11 : Nat) (q12 : Nat) (q13 : Nat) (q14 : Nat) (q15 : Nat) (q16 : Nat) (k_f4 : ClassId) (f4 : Nat → Int32) (k_f5 : ClassId) (q_f5 : Nat → Nat) (k_f6 : ClassId) (q_f6 : Nat → Nat) (k_f7 : ClassId) (f7 : Nat → Int32) (k_f8 : ClassId) (q_f8 : Nat → Nat) (k_f9 : ClassId) (q_f9 : Nat → Nat) (k_f10 : ClassId) (f10 : Nat → Int32) (k_f11 : ClassId) (f11 : Nat → Int32) (k_f12 : ClassId) (f12 : Nat → Int32) (k_f13 : ClassId) (f13 : Nat → Int32) (k_f14 : ClassId) (f14 : Nat → Int32) (k_f15 : ClassId) (f15 : Nat → Int32) (k_f16 : ClassId) (f16 : Nat → Int32) (a1 : Nat) (a2 : Nat) (hln : ln ≤ 119) (hnr : nr ≤ 1920) (hnc : nc ≤ 3) (hnp : np ≤ 8) (hne : ne ≤ 14) (hst0 : pm1 7 st0) (ha1 : a1 ≤ 21) (ha2 : a2 ≤ 120) : Met l yX6_layConditions vs_E_6_layConditions ({ frames := 1, cells := 0, slots := 0, locals := 23 }) (va_Pc [.ref ti, .ref au, .int (nI a1), .int (nI a2)] (pu_B (dC, dI) (ta__w ti r0 (nI ln) r2 r3 r4 r5 (nI nr) r7 r8 tz k_j0 (bN 13 q_j0) k_j2 j2 k_j3 (bN 120 q_j3) k_j4 (bN 120 q_j4) k_j5 j5 k_j7 (bN 120 q_j7) k_j8 j8 au (nI nc) (nI np) (nI ne) st0 q4 q5 q6 q7 q8 q9 q10 q11 q12 q13 q14 q15 q16 k_f4 f4 k_f5 (bN 7 q_f5) k_f6 (bN 7 q_f6) k_f7 f7 k_f8 (bN 4 q_f8) k_f9 (bN 2 q_f9) k_f10 f10 k_f11 f11 k_f12 f12 k_f13 f13 k_f14 f14 k_f15 f15 k_f16 f16) (ta__t k_j0 k_j2 k_j3 k_j4 k_j5 k_j7 k_j8 k_f4 k_f5 k_f6 k_f7 k_f8 k_f9 k_f10 k_f11 k_f12 k_f13 k_f14 k_f15 k_f16) sz)) (va_Qv (fun (_ : Unit) => True) (fun _ t => ∃ (z_j3 : Nat → Nat) (z_j4 : Nat → Nat) (z_j5 : Nat → Int32) (z_nr : Nat), pu_E (dC, dI) (ta__w ti r0 (nI ln) r2 r3 r4 r5 (nI z_nr) r7 r8 tz k_j0 (bN 13 q_j0) k_j2 j2 k_j3 (bN 120 z_j3) k_j4 (bN 120 z_j4) k_j5 z_j5 k_j7 (bN 120 q_j7) k_j8 j8 au (nI nc) (nI np) (nI ne) st0 q4 q5 q6 q7 q8 q9 q10 q11 q12 q13 q14 q15 q16 k_f4 f4 k_f5 (bN 7 q_f5) k_f6 (bN 7 q_f6) k_f7 f7 k_f8 (bN 4 q_f8) k_f9 (bN 2 q_f9) k_f10 f10 k_f11 f11 k_f12 f12 k_f13 f13 k_f14 f14 k_f15 f15 k_f16 f16) (ta__t k_j0 k_j2 k_j3 k_j4 k_j5 k_j7 k_j8 k_f4 k_f5 k_f6 k_f7 k_f8 k_f9 k_f10 k_f11 k_f12 k_f13 k_f14 k_f15 k_f16) (va_A ((ta__w ti r0 (nI ln) r2 r3 r4 r5 (nI nr) r7 r8 tz k_j0 (bN 13 q_j0) k_j2 j2 k_j3 (bN 120 q_j3) k_j4 (bN 120 q_j4) k_j5 j5 k_j7 (bN 120 q_j7) k_j8 j8 au (nI nc) (nI np) (nI ne) st0 q4 q5 q6 q7 q8 q9 q10 q11 q12 q13 q14 q15 q16 k_f4 f4 k_f5 (bN 7 q_f5) k_f6 (bN 7 q_f6) k_f7 f7 k_f8 (bN 4 q_f8) k_f9 (bN 2 q_f9) k_f10 f10 k_f11 f11 k_f12 f12 k_f13 f13 k_f14 f14 k_f15 f15 k_f16 f16)) sz) t ∧ (z_nr ≤ 1920) ∧ ((z_j3, z_j4, z_j5, z_nr) = (sp_E_6_layConditions nr q_j3 q_j4 j5 q_j7 q_f8 q_f9 f12 f13 a1 a2))) (va_A ((ta__w ti r0 (nI ln) r2 r3 r4 r5 (nI nr) r7 r8 tz k_j0 (bN 13 q_j0) k_j2 j2 k_j3 (bN 120 q_j3) k_j4 (bN 120 q_j4) k_j5 j5 k_j7 (bN 120 q_j7) k_j8 j8 au (nI nc) (nI np) (nI ne) st0 q4 q5 q6 q7 q8 q9 q10 q11 q12 q13 q14 q15 q16 k_f4 f4 k_f5 (bN 7 q_f5) k_f6 (bN 7 q_f6) k_f7 f7 k_f8 (bN 4 q_f8) k_f9 (bN 2 q_f9) k_f10 f10 k_f11 f11 k_f12 f12 k_f13 f13 k_f14 f14 k_f15 f15 k_f16 f16)) sz)) 0 0 (va_A ((ta__w ti r0 (nI ln) r2 r3 r4 r5 (nI nr) r7 r8 tz k_j0 (bN 13 q_j0) k_j2 j2 k_j3 (bN 120 q_j3) k_j4 (bN 120 q_j4) k_j5 j5 k_j7 (bN 120 q_j7) k_j8 j8 au (nI nc) (nI np) (nI ne) st0 q4 q5 q6 q7 q8 q9 q10 q11 q12 q13 q14 q15 q16 k_f4 f4 k_f5 (bN 7 q_f5) k_f6 (bN 7 q_f6) k_f7 f7 k_f8 (bN 4 q_f8) k_f9 (bN 2 q_f9) k_f10 f10 k_f11 f11 k_f12 f12 k_f13 f13 k_f14 f14 k_f15 f15 k_f16 f16)) sz) := by
  refine Met.ofW (cc := cX6_layConditions) (maxL := 7) (ret := none) (by decide) rfl ?_
  intro p e s m args below meth c s₁ B hml hv
  obtain ⟨rfl, rfl, hP, hK, hD0⟩ := hv
  have hx := B.exec
  have hb := B.bytes
  have hr := B.returns
  have hts := atoms_spec (ws := vs_E_6_layConditions) B.pre
  have v_1 := hts (.fieldLink RX6 93 "ClockReach$Automaton" "counts" "[I") (List.mem_cons_of_mem _ cm_385)
  have v_6 := hts (.fieldLink RX6 27 "ClockReach$Timing" "since" "[I") (List.mem_cons_of_mem _ cm_372)
  have v_7 := hts (.fieldLink RX6 100 "ClockReach$Automaton" "conditionClocks" "[I") (List.mem_cons_of_mem _ cm_386)
  have v_8 := hts (.fieldLink RX6 103 "ClockReach$Automaton" "ceilings" "[I") (List.mem_cons_of_mem _ cm_387)
  have v_9 := hts (.constant RX6 106 (2147483647)) (List.mem_cons_of_mem _ cm_388)
  have v_19 := hts (.fieldLink RX6 110 "ClockReach$Automaton" "floors" "[I") (List.mem_cons_of_mem _ cm_389)
  have hown : s.vm.findClass RX6 = some m.cls := findClass_of_methodNamed B.named
  have hlocks := B.notSynchronized
  have hiX0 : ∀ w ∈ wsX00, w ∈ vs_E_6_layConditions := fun _ h => List.mem_cons_of_mem _ (cm_X0 h)
  have hiX6 : ∀ w ∈ wsX60, w ∈ vs_E_6_layConditions := fun _ h => List.mem_cons_of_mem _ (cm_X6 h)
  have hD := hD0.self (sz := s.heap.size)
  generalize hAe : va_A ((ta__w ti r0 (nI ln) r2 r3 r4 r5 (nI nr) r7 r8 tz k_j0 (bN 13 q_j0) k_j2 j2 k_j3 (bN 120 q_j3) k_j4 (bN 120 q_j4) k_j5 j5 k_j7 (bN 120 q_j7) k_j8 j8 au (nI nc) (nI np) (nI ne) st0 q4 q5 q6 q7 q8 q9 q10 q11 q12 q13 q14 q15 q16 k_f4 f4 k_f5 (bN 7 q_f5) k_f6 (bN 7 q_f6) k_f7 f7 k_f8 (bN 4 q_f8) k_f9 (bN 2 q_f9) k_f10 f10 k_f11 f11 k_f12 f12 k_f13 f13 k_f14 f14 k_f15 f15 k_f16 f16)) s.heap.size = A at hD ⊢
  have hA : ∀ q : Nat, s.heap.size ≤ q → A q := fun q h => by rw [← hAe]; exact Or.inr h
  have hS : va_S A s.heap s.heap [] := va_S.rf
  have hl := lv_entry ([.ref ti, .ref au, .int (nI a1), .int (nI a2)]) (n := 7) (Nat.le_of_ble_eq_true rfl)
  rw [lg_entry_eq]
  generalize (lg_sl ([.ref ti, .ref au, .int (nI a1), .int (nI a2)]) ++ List.replicate (7 - (lg_sl ([.ref ti, .ref au, .int (nI a1), .int (nI a2)])).length) Slot.unset).toArray = ls at hl ⊢
  have hl : lv_has ls 7 [(0, .ref ti), (1, .ref au), (2, .int (nI a1)), (3, .int (nI a2))] := hl
  obtain ⟨RR, hRR⟩ : ∃ x, x = (sp_E_6_layConditions nr q_j3 q_j4 j5 q_j7 q_f8 q_f9 f12 f13 a1 a2) := ⟨_, rfl⟩
  have hsp := hRR
  refine lv_iconst (v := 0) hx hb eX6_layConditions_0 (by decide) ?_
  refine lv_istore (lv' := [(4, .int 0), (0, .ref ti), (1, .ref au), (2, .int (nI a1)), (3, .int (nI a2))]) hx hb eX6_layConditions_1 hl (by decide) rfl (fun ls hl => ?_)
  obtain ⟨lf_12, dlf_12, hlf_12, hsp⟩ := itr_ex hsp
  delta sp_E_6_layConditions_L1 at hlf_12
  refine pu_while (fun nn H locs ls => ∃ (g_6 : Nat → Nat) (g_7 : Nat → Nat) (g_8 : Nat → Int32) (g_9 : Nat) (g_10 : Nat), nn = 4 - g_10 ∧ g_9 ≤ 1920 ∧ g_10 ≤ 4 ∧ RR = itrv dlf_12 lf_12 (g_6, g_7, g_8, g_9, g_10) ∧ va_P (dC, dI) vwCl (ta__w ti r0 (nI ln) r2 r3 r4 r5 (nI g_9) r7 r8 tz k_j0 (bN 13 q_j0) k_j2 j2 k_j3 (bN 120 g_6) k_j4 (bN 120 g_7) k_j5 g_8 k_j7 (bN 120 q_j7) k_j8 j8 au (nI nc) (nI np) (nI ne) st0 q4 q5 q6 q7 q8 q9 q10 q11 q12 q13 q14 q15 q16 k_f4 f4 k_f5 (bN 7 q_f5) k_f6 (bN 7 q_f6) k_f7 f7 k_f8 (bN 4 q_f8) k_f9 (bN 2 q_f9) k_f10 f10 k_f11 f11 k_f12 f12 k_f13 f13 k_f14 f14 k_f15 f15 k_f16 f16) H ∧ va_D A (ta__w ti r0 (nI ln) r2 r3 r4 r5 (nI g_9) r7 r8 tz k_j0 (bN 13 q_j0) k_j2 j2 k_j3 (bN 120 g_6) k_j4 (bN 120 g_7) k_j5 g_8 k_j7 (bN 120 q_j7) k_j8 j8 au (nI nc) (nI np) (nI ne) st0 q4 q5 q6 q7 q8 q9 q10 q11 q12 q13 q14 q15 q16 k_f4 f4 k_f5 (bN 7 q_f5) k_f6 (bN 7 q_f6) k_f7 f7 k_f8 (bN 4 q_f8) k_f9 (bN 2 q_f9) k_f10 f10 k_f11 f11 k_f12 f12 k_f13 f13 k_f14 f14 k_f15 f15 k_f16 f16) ∧ va_S A s.heap H locs ∧ lv_has ls 7 [(0, .ref ti), (1, .ref au), (2, .int (nI a1)), (3, .int (nI a2)), (4, .int (nI g_10))]) 3 ?_ _ _ _ _ ⟨q_j3, q_j4, j5, nr, 0, rfl, hnr, (Nat.le_of_ble_eq_true rfl), hsp, hP, hD, hS, lv_sub hl [1, 2, 3, 4, 0] rfl⟩
  rintro nn ih_11 H locs ls ⟨g_6, g_7, g_8, g_9, g_10, rfl, hg_9, hg_10, he_14, hP, hD, hS, hl⟩
  obtain ⟨S_13, hsp, hin_15, hout_16⟩ := itr_step hlf_12 he_14
  refine lv_iload hx hb eX6_layConditions_3 (lv_at hl 4 rfl) ?_
  refine lv_aload_n hx hb eX6_layConditions_5 rfl (lv_at hl 1 rfl) ?_
  refine va_get (D := (dC, dI)) (ci := 0) (v := .ref q8) (C := RX0) (T := TX0) (N := 17) hx hb hts hiX0 hown hK hP 8 rfl rfl 8 (by decide) v_1 (fun _ h9 => h9) rfl eX6_layConditions_6 ?_
  refine lv_iload_n hx hb eX6_layConditions_9 rfl (lv_at hl 2 rfl) ?_
  refine va_iald hx hb hK hP 13 11 rfl rfl (vp_in_nI (n := a1) (Nat.lt_of_le_of_lt ha1 (Nat.le_of_ble_eq_true rfl)) (Nat.le_of_ble_eq_true rfl)) eX6_layConditions_10 ?_
  refine lv_topi (fun y_17 ey_17 => ?_)
  obtain ⟨u_18, hu_18, qu_18, xu_18⟩ := bN_getx 4 q_f8 (n := a1) (Nat.lt_of_le_of_lt ha1 (Nat.le_of_ble_eq_true rfl))
  obtain rfl : y_17 = nI u_18 := ey_17.trans qu_18
  have hsp := hsp.trans (slet_eq xu_18)
  refine lv_icmp_ge (tgt := 102) hx hb eX6_layConditions_11 (by decide) (fun c_19 => ?_) (fun c_19 => ?_)
  · have c_19 : u_18 ≤ g_10 := (nI_leI (a := u_18) (b := g_10) (Nat.lt_of_le_of_lt hu_18 (Nat.le_of_ble_eq_true rfl)) (Nat.lt_of_le_of_lt hg_10 (Nat.le_of_ble_eq_true rfl))).mp c_19
    have hsp := hsp.trans (if_pos c_19)
    have hsp := hout_16 _ hsp
    exact W.vret hx hb hr (fun t ht hW => ⟨⟨(), rfl, trivial, ⟨g_6, g_7, g_8, g_9, ⟨by rw [ht]; exact hP, va_K.moved hW.alike hK, hD⟩, hg_9, (hsp.symm.trans hRR)⟩⟩, hS.F ht⟩) hS.2.2 eX6_layConditions_102
  · have c_19 : ¬ u_18 ≤ g_10 := fun z => c_19 ((nI_leI (a := u_18) (b := g_10) (Nat.lt_of_le_of_lt hu_18 (Nat.le_of_ble_eq_true rfl)) (Nat.lt_of_le_of_lt hg_10 (Nat.le_of_ble_eq_true rfl))).mpr z)
    have hsp := hsp.trans (if_neg c_19)
    refine lv_iload_n hx hb eX6_layConditions_14 rfl (lv_at hl 2 rfl) ?_
    refine lv_iload hx hb eX6_layConditions_15 (lv_at hl 4 rfl) ?_
    refine va_calli (va_runS (As := [.int (nI a1), .int (nI g_10)]) (rest := []) ⟨hx, hb, hml, hown, hts⟩ (c_E_0_slot l dC dI _ a1 g_10 ha1 hg_10) (va_cwS 2 hts g_E_6_layConditions_E_0_slot rfl rfl rfl (by decide +kernel) ⟨Nat.le_of_ble_eq_true rfl, Nat.le_of_ble_eq_true rfl⟩) ⟨pu_bl, pu_in (hP.sub [] rfl) (hK.sub [] rfl) (hD.sub [] (by decide) rfl)⟩ rfl rfl hl.1 rfl (lv_room (Nat.le_of_ble_eq_true rfl)) eX6_layConditions_17 ⟨Nat.le_of_ble_eq_true rfl, Nat.le_of_ble_eq_true rfl⟩) hS (fun q _ h => pu_fr hS hA q h) (pu_fr hS hA) (fun r_20 u t H1 locs ht hvm hw hB hz1 hk1 hS => ?_)
    have hP := pu_keep hP hk1
    clear hk1 hz1 ht hvm
    generalize H1 = H at hP hS ⊢
    obtain rfl : r_20 = nI (a1 * 4 + g_10) := hw
    refine lv_istore (lv' := [(5, .int (nI (a1 * 4 + g_10))), (0, .ref ti), (1, .ref au), (2, .int (nI a1)), (3, .int (nI a2)), (4, .int (nI g_10))]) hx hb eX6_layConditions_20 hl (by decide) rfl (fun ls hl => ?_)
    refine lv_aload_n hx hb eX6_layConditions_22 rfl (lv_at hl 1 rfl) ?_
    refine va_get (D := (dC, dI)) (ci := 6) (v := .ref r7) (C := RX6) (T := TX6) (N := 10) hx hb hts hiX6 hown hK hP 0 rfl rfl 7 (by decide) v_6 (fun _ h9 => h9) rfl eX6_layConditions_23 ?_
    refine lv_aload_n hx hb eX6_layConditions_26 rfl (lv_at hl 2 rfl) ?_
    refine va_get (D := (dC, dI)) (ci := 0) (v := .ref q9) (C := RX0) (T := TX0) (N := 17) hx hb hts hiX0 hown hK hP 8 rfl rfl 9 (by decide) v_7 (fun _ h9 => h9) rfl eX6_layConditions_27 ?_
    refine lv_iload hx hb eX6_layConditions_30 (lv_at hl 0 rfl) ?_
    refine va_iald hx hb hK hP 14 12 rfl rfl (vp_in_nI (n := (a1 * 4 + g_10)) (by omega) (Nat.le_of_ble_eq_true rfl)) eX6_layConditions_32 ?_
    refine lv_topi (fun y_21 ey_21 => ?_)
    obtain ⟨u_22, hu_22, qu_22, xu_22⟩ := bN_getx 2 q_f9 (n := (a1 * 4 + g_10)) (by first | omega | exact Nat.lt_trans (zx16 (by omega) (by omega) (by omega)) (Nat.le_of_ble_eq_true rfl) | exact Nat.lt_trans (zy16 (by omega) (by omega)) (Nat.le_of_ble_eq_true rfl) | exact Nat.lt_trans (zx25 (by omega) (by omega) (by omega)) (Nat.le_of_ble_eq_true rfl) | exact Nat.lt_trans (zy25 (by omega) (by omega)) (Nat.le_of_ble_eq_true rfl))
    obtain rfl : y_21 = nI u_22 := ey_21.trans qu_22
    have hsp := hsp.trans (slet_eq xu_22)
    refine va_iald hx hb hK hP 6 5 rfl rfl (vp_in_nI (n := u_22) (Nat.lt_of_le_of_lt hu_22 (Nat.le_of_ble_eq_true rfl)) (Nat.le_of_ble_eq_true rfl)) eX6_layConditions_33 ?_
    refine lv_topi (fun y_23 ey_23 => ?_)
    obtain ⟨u_24, hu_24, qu_24, xu_24⟩ := bN_getx 120 q_j7 (n := u_22) (Nat.lt_of_le_of_lt hu_22 (Nat.le_of_ble_eq_true rfl))
    obtain rfl : y_23 = nI u_24 := ey_23.trans qu_24
    have hsp := hsp.trans (slet_eq xu_24)
    refine lv_istore (lv' := [(6, .int (nI u_24)), (5, .int (nI (a1 * 4 + g_10))), (0, .ref ti), (1, .ref au), (2, .int (nI a1)), (3, .int (nI a2)), (4, .int (nI g_10))]) hx hb eX6_layConditions_34 hl (by decide) rfl (fun ls hl => ?_)
    refine lv_aload_n hx hb eX6_layConditions_36 rfl (lv_at hl 3 rfl) ?_
    refine va_get (D := (dC, dI)) (ci := 0) (v := .ref q12) (C := RX0) (T := TX0) (N := 17) hx hb hts hiX0 hown hK hP 8 rfl rfl 12 (by decide) v_8 (fun _ h9 => h9) rfl eX6_layConditions_37 ?_
    refine lv_iload hx hb eX6_layConditions_40 (lv_at hl 1 rfl) ?_
    refine va_iald hx hb hK hP 17 15 rfl rfl (vp_in_nI (n := (a1 * 4 + g_10)) (by omega) (Nat.le_of_ble_eq_true rfl)) eX6_layConditions_42 ?_
    refine lv_topi (fun y_25 ey_25 => ?_)
    have ey_25 : y_25 = f12 (a1 * 4 + g_10) := ey_25.trans (congrArg f12 (nI_clamp (n := (a1 * 4 + g_10)) (by first | omega | exact Nat.lt_trans (zx16 (by omega) (by omega) (by omega)) (Nat.le_of_ble_eq_true rfl) | exact Nat.lt_trans (zy16 (by omega) (by omega)) (Nat.le_of_ble_eq_true rfl) | exact Nat.lt_trans (zx25 (by omega) (by omega) (by omega)) (Nat.le_of_ble_eq_true rfl) | exact Nat.lt_trans (zy25 (by omega) (by omega)) (Nat.le_of_ble_eq_true rfl))))
    have hsp := hsp.trans (slet_eq ey_25)
    refine lv_ldc hx hb hown v_9 eX6_layConditions_43 ?_
    obtain ⟨JR_31, hJR_31, hsp⟩ := slet_ex hsp
    refine pu_join (fun H locs ls st => ∃ (g_26 : Nat) (g_27 : Nat → Nat) (g_28 : Nat → Nat) (g_29 : Nat → Int32), st = [] ∧ g_26 ≤ 1920 ∧ (g_26, g_27, g_28, g_29) = JR_31 ∧ va_P (dC, dI) vwCl (ta__w ti r0 (nI ln) r2 r3 r4 r5 (nI g_26) r7 r8 tz k_j0 (bN 13 q_j0) k_j2 j2 k_j3 (bN 120 g_27) k_j4 (bN 120 g_28) k_j5 g_29 k_j7 (bN 120 q_j7) k_j8 j8 au (nI nc) (nI np) (nI ne) st0 q4 q5 q6 q7 q8 q9 q10 q11 q12 q13 q14 q15 q16 k_f4 f4 k_f5 (bN 7 q_f5) k_f6 (bN 7 q_f6) k_f7 f7 k_f8 (bN 4 q_f8) k_f9 (bN 2 q_f9) k_f10 f10 k_f11 f11 k_f12 f12 k_f13 f13 k_f14 f14 k_f15 f15 k_f16 f16) H ∧ va_D A (ta__w ti r0 (nI ln) r2 r3 r4 r5 (nI g_26) r7 r8 tz k_j0 (bN 13 q_j0) k_j2 j2 k_j3 (bN 120 g_27) k_j4 (bN 120 g_28) k_j5 g_29 k_j7 (bN 120 q_j7) k_j8 j8 au (nI nc) (nI np) (nI ne) st0 q4 q5 q6 q7 q8 q9 q10 q11 q12 q13 q14 q15 q16 k_f4 f4 k_f5 (bN 7 q_f5) k_f6 (bN 7 q_f6) k_f7 f7 k_f8 (bN 4 q_f8) k_f9 (bN 2 q_f9) k_f10 f10 k_f11 f11 k_f12 f12 k_f13 f13 k_f14 f14 k_f15 f15 k_f16 f16) ∧ va_S A s.heap H locs ∧ lv_has ls 7 [(0, .ref ti), (1, .ref au), (2, .int (nI a1)), (3, .int (nI a2)), (4, .int (nI g_10)), (5, .int (nI (a1 * 4 + g_10))), (6, .int (nI u_24))]) 66 ?_ (fun j_30 => ?_)
    · rintro H locs ls st ⟨g_26, g_27, g_28, g_29, rfl, hg_26, he_32, hP, hD, hS, hl⟩
      rw [← he_32] at hsp
      refine lv_aload_n hx hb eX6_layConditions_66 rfl (lv_at hl 1 rfl) ?_
      refine va_get (D := (dC, dI)) (ci := 0) (v := .ref q13) (C := RX0) (T := TX0) (N := 17) hx hb hts hiX0 hown hK hP 8 rfl rfl 13 (by decide) v_19 (fun _ h9 => h9) rfl eX6_layConditions_67 ?_
      refine lv_iload hx hb eX6_layConditions_70 (lv_at hl 5 rfl) ?_
      refine va_iald hx hb hK hP 18 16 rfl rfl (vp_in_nI (n := (a1 * 4 + g_10)) (by omega) (Nat.le_of_ble_eq_true rfl)) eX6_layConditions_72 ?_
      refine lv_topi (fun y_33 ey_33 => ?_)
      have ey_33 : y_33 = f13 (a1 * 4 + g_10) := ey_33.trans (congrArg f13 (nI_clamp (n := (a1 * 4 + g_10)) (by first | omega | exact Nat.lt_trans (zx16 (by omega) (by omega) (by omega)) (Nat.le_of_ble_eq_true rfl) | exact Nat.lt_trans (zy16 (by omega) (by omega)) (Nat.le_of_ble_eq_true rfl) | exact Nat.lt_trans (zx25 (by omega) (by omega) (by omega)) (Nat.le_of_ble_eq_true rfl) | exact Nat.lt_trans (zy25 (by omega) (by omega)) (Nat.le_of_ble_eq_true rfl))))
      have hsp := hsp.trans (slet_eq ey_33)
      refine lv_ldc hx hb hown v_9 eX6_layConditions_73 ?_
      obtain ⟨JR_39, hJR_39, hsp⟩ := slet_ex hsp
      refine pu_join (fun H locs ls st => ∃ (g_34 : Nat) (g_35 : Nat → Nat) (g_36 : Nat → Nat) (g_37 : Nat → Int32), st = [] ∧ g_34 ≤ 1920 ∧ (g_34, g_35, g_36, g_37) = JR_39 ∧ va_P (dC, dI) vwCl (ta__w ti r0 (nI ln) r2 r3 r4 r5 (nI g_34) r7 r8 tz k_j0 (bN 13 q_j0) k_j2 j2 k_j3 (bN 120 g_35) k_j4 (bN 120 g_36) k_j5 g_37 k_j7 (bN 120 q_j7) k_j8 j8 au (nI nc) (nI np) (nI ne) st0 q4 q5 q6 q7 q8 q9 q10 q11 q12 q13 q14 q15 q16 k_f4 f4 k_f5 (bN 7 q_f5) k_f6 (bN 7 q_f6) k_f7 f7 k_f8 (bN 4 q_f8) k_f9 (bN 2 q_f9) k_f10 f10 k_f11 f11 k_f12 f12 k_f13 f13 k_f14 f14 k_f15 f15 k_f16 f16) H ∧ va_D A (ta__w ti r0 (nI ln) r2 r3 r4 r5 (nI g_34) r7 r8 tz k_j0 (bN 13 q_j0) k_j2 j2 k_j3 (bN 120 g_35) k_j4 (bN 120 g_36) k_j5 g_37 k_j7 (bN 120 q_j7) k_j8 j8 au (nI nc) (nI np) (nI ne) st0 q4 q5 q6 q7 q8 q9 q10 q11 q12 q13 q14 q15 q16 k_f4 f4 k_f5 (bN 7 q_f5) k_f6 (bN 7 q_f6) k_f7 f7 k_f8 (bN 4 q_f8) k_f9 (bN 2 q_f9) k_f10 f10 k_f11 f11 k_f12 f12 k_f13 f13 k_f14 f14 k_f15 f15 k_f16 f16) ∧ va_S A s.heap H locs ∧ lv_has ls 7 [(0, .ref ti), (1, .ref au), (2, .int (nI a1)), (3, .int (nI a2)), (4, .int (nI g_10)), (5, .int (nI (a1 * 4 + g_10))), (6, .int (nI u_24))]) 96 ?_ (fun j_38 => ?_)
      · rintro H locs ls st ⟨g_34, g_35, g_36, g_37, rfl, hg_34, he_40, hP, hD, hS, hl⟩
        rw [← he_40] at hsp
        refine lv_iinc (v := (nI (g_10 + 1))) (lv' := [(4, .int (nI (g_10 + 1))), (0, .ref ti), (1, .ref au), (2, .int (nI a1)), (3, .int (nI a2)), (5, .int (nI (a1 * 4 + g_10))), (6, .int (nI u_24))]) hx hb eX6_layConditions_96 hl (k := 4) rfl (nI_1 _) (by decide) rfl (fun ls hl => ?_)
        refine lv_goto (tgt := 3) hx hb eX6_layConditions_99 (by decide) ?_
        exact ih_11 (4 - (g_10 + 1)) (by omega) _ _ _ ⟨g_35, g_36, g_37, g_34, (g_10 + 1), rfl, hg_34, (by omega), hin_15 _ hsp, hP, hD, hS, lv_sub hl [1, 2, 3, 4, 0] rfl⟩
      have hsp := hJR_39
      refine lv_icmp_eq (tgt := 96) hx hb eX6_layConditions_75 (by decide) (fun c_41 => ?_) (fun c_41 => ?_)
      · have hcc_41 := c_41
        have hsp := hsp.trans (if_pos c_41)
        exact j_38 _ _ _ _ ⟨g_26, g_27, g_28, g_29, rfl, hg_26, hsp.symm, hP, hD, hS, lv_sub hl [0, 1, 2, 3, 4, 5, 6] rfl⟩
      · have hcc_41 := c_41
        have hsp := hsp.trans (if_neg c_41)
        refine lv_aload_n hx hb eX6_layConditions_78 rfl (lv_at hl 0 rfl) ?_
        refine lv_iload_n hx hb eX6_layConditions_79 rfl (lv_at hl 3 rfl) ?_
        refine lv_iload hx hb eX6_layConditions_80 (lv_at hl 6 rfl) ?_
        refine lv_aload_n hx hb eX6_layConditions_82 rfl (lv_at hl 1 rfl) ?_
        refine va_get (D := (dC, dI)) (ci := 0) (v := .ref q13) (C := RX0) (T := TX0) (N := 17) hx hb hts hiX0 hown hK hP 8 rfl rfl 13 (by decide) v_19 (fun _ h9 => h9) rfl eX6_layConditions_83 ?_
        refine lv_iload hx hb eX6_layConditions_86 (lv_at hl 5 rfl) ?_
        refine va_iald hx hb hK hP 18 16 rfl rfl (vp_in_nI (n := (a1 * 4 + g_10)) (by omega) (Nat.le_of_ble_eq_true rfl)) eX6_layConditions_88 ?_
        refine lv_topi (fun y_42 ey_42 => ?_)
        have ey_42 : y_42 = f13 (a1 * 4 + g_10) := ey_42.trans (congrArg f13 (nI_clamp (n := (a1 * 4 + g_10)) (by first | omega | exact Nat.lt_trans (zx16 (by omega) (by omega) (by omega)) (Nat.le_of_ble_eq_true rfl) | exact Nat.lt_trans (zy16 (by omega) (by omega)) (Nat.le_of_ble_eq_true rfl) | exact Nat.lt_trans (zx25 (by omega) (by omega) (by omega)) (Nat.le_of_ble_eq_true rfl) | exact Nat.lt_trans (zy25 (by omega) (by omega)) (Nat.le_of_ble_eq_true rfl))))
        have hsp := hsp.trans (slet_eq ey_42)
        refine va_calli (va_runS (As := [.int y_42]) (rest := [.int (nI u_24), .int (nI a2), .ref ti]) ⟨hx, hb, hml, hown, hts⟩ (c_E_7_ticks l dC dI _ y_42) (va_cwS 1 hts g_E_6_layConditions_E_7_ticks rfl rfl rfl (by decide +kernel) ⟨Nat.le_of_ble_eq_true rfl, Nat.le_of_ble_eq_true rfl⟩) ⟨pu_bl, pu_in (hP.sub [] rfl) (hK.sub [] rfl) (hD.sub [] (by decide) rfl)⟩ rfl rfl hl.1 rfl (lv_room (Nat.le_of_ble_eq_true rfl)) eX6_layConditions_89 ⟨Nat.le_of_ble_eq_true rfl, Nat.le_of_ble_eq_true rfl⟩) hS (fun q _ h => pu_fr hS hA q h) (pu_fr hS hA) (fun r_43 u t H1 locs ht hvm hw hB hz1 hk1 hS => ?_)
        have hP := pu_keep hP hk1
        clear hk1 hz1 ht hvm
        generalize H1 = H at hP hS ⊢
        have ir_43 := hw
        have hsp := hsp.trans (slet_eq ir_43)
        refine lv_ineg hx hb eX6_layConditions_92 ?_
        refine lv_topi (fun y_44 ey_44 => ?_)
        have hsp := hsp.trans (slet_eq ey_44)
        have hPc : va_P (dC, dI) vwCl (ti__w ti r0 (nI ln) r2 r3 r4 r5 (nI g_26) r7 r8 tz k_j0 (bN 13 q_j0) k_j2 j2 k_j3 (bN 120 g_27) k_j4 (bN 120 g_28) k_j5 g_29 k_j7 (bN 120 q_j7) k_j8 j8) _ := hP.sub [0, 1, 2, 3, 4, 5, 6, 7] rfl
        have hDc := hD.sub (ws' := (ti__w ti r0 (nI ln) r2 r3 r4 r5 (nI g_26) r7 r8 tz k_j0 (bN 13 q_j0) k_j2 j2 k_j3 (bN 120 g_27) k_j4 (bN 120 g_28) k_j5 g_29 k_j7 (bN 120 q_j7) k_j8 j8)) [0, 1, 2, 3, 4, 5, 6, 7] (by decide) rfl
        have hKc : va_K (dC, dI) vwCl (ti__t k_j0 k_j2 k_j3 k_j4 k_j5 k_j7 k_j8) s := hK.sub [0, 1, 2, 3, 4, 5, 6] rfl
        have hFc := pu_free hDc hS hA
        refine va_callv (va_runV (As := [.int (nI a2), .int (nI u_24), .int y_44]) (rest := []) ⟨hx, hb, hml, hown, hts⟩ (c_E_6_layRule l dC dI _ ti r0 ln r2 r3 r4 r5 g_26 r7 r8 tz k_j0 q_j0 k_j2 j2 k_j3 g_27 k_j4 g_28 k_j5 g_29 k_j7 q_j7 k_j8 j8 a2 u_24 y_44 hln hg_26 ha2 hu_24) (cwV 3 hts g_E_6_layConditions_E_6_layRule rfl rfl rfl (by decide +kernel) ⟨Nat.le_of_ble_eq_true rfl, Nat.le_of_ble_eq_true rfl⟩) ⟨pu_bl, va_recv hK hP (ci := 6) (q0 := 0) rfl rfl, pu_in hPc hKc hDc⟩ rfl rfl hl.1 rfl (lv_room (Nat.le_of_ble_eq_true rfl)) eX6_layConditions_93 ⟨Nat.le_of_ble_eq_true rfl, Nat.le_of_ble_eq_true rfl⟩) hS (fun q _ h => hFc q h) hFc (fun u t H1 locs ht hvm hw hB hz1 hk1 hS => ?_)
        obtain ⟨z_j3_46, z_j4_47, z_j5_48, z_nr_49, ⟨hP1, -, hD1⟩, hz_nr_49, xr_45_0⟩ := hB
        rw [ht] at hP1
        obtain ⟨hP, hD⟩ := pj_a (X := (ta__w ti r0 (nI ln) r2 r3 r4 r5 (nI g_26) r7 r8 tz k_j0 (bN 13 q_j0) k_j2 j2 k_j3 (bN 120 g_27) k_j4 (bN 120 g_28) k_j5 g_29 k_j7 (bN 120 q_j7) k_j8 j8 au (nI nc) (nI np) (nI ne) st0 q4 q5 q6 q7 q8 q9 q10 q11 q12 q13 q14 q15 q16 k_f4 f4 k_f5 (bN 7 q_f5) k_f6 (bN 7 q_f6) k_f7 f7 k_f8 (bN 4 q_f8) k_f9 (bN 2 q_f9) k_f10 f10 k_f11 f11 k_f12 f12 k_f13 f13 k_f14 f14 k_f15 f15 k_f16 f16)) (X' := (ta__w ti r0 (nI ln) r2 r3 r4 r5 (nI z_nr_49) r7 r8 tz k_j0 (bN 13 q_j0) k_j2 j2 k_j3 (bN 120 z_j3_46) k_j4 (bN 120 z_j4_47) k_j5 z_j5_48 k_j7 (bN 120 q_j7) k_j8 j8 au (nI nc) (nI np) (nI ne) st0 q4 q5 q6 q7 q8 q9 q10 q11 q12 q13 q14 q15 q16 k_f4 f4 k_f5 (bN 7 q_f5) k_f6 (bN 7 q_f6) k_f7 f7 k_f8 (bN 4 q_f8) k_f9 (bN 2 q_f9) k_f10 f10 k_f11 f11 k_f12 f12 k_f13 f13 k_f14 f14 k_f15 f15 k_f16 f16)) (wc := (ti__w ti r0 (nI ln) r2 r3 r4 r5 (nI g_26) r7 r8 tz k_j0 (bN 13 q_j0) k_j2 j2 k_j3 (bN 120 g_27) k_j4 (bN 120 g_28) k_j5 g_29 k_j7 (bN 120 q_j7) k_j8 j8)) (w1 := (ti__w ti r0 (nI ln) r2 r3 r4 r5 (nI z_nr_49) r7 r8 tz k_j0 (bN 13 q_j0) k_j2 j2 k_j3 (bN 120 z_j3_46) k_j4 (bN 120 z_j4_47) k_j5 z_j5_48 k_j7 (bN 120 q_j7) k_j8 j8)) hP hD [0, 1, 2, 3, 4, 5, 6, 7] [0, 1, 2, 3, 4, 5, 6, 7, 16, 17, 18, 19, 20, 21, 22, 23, 24, 25, 26, 27, 28, 29] 8 rfl hk1 hP1 rfl rfl rfl (by decide)
        clear hP1 hD1 hFc hPc hDc hKc
        clear hk1 hz1 ht hvm
        generalize H1 = H at hP hS ⊢
        have hsp := hsp.trans (slet_eq xr_45_0)
        exact j_38 _ _ _ _ ⟨z_nr_49, z_j3_46, z_j4_47, z_j5_48, rfl, hz_nr_49, hsp.symm, hP, hD, hS, lv_sub hl [0, 1, 2, 3, 4, 5, 6] rfl⟩
    have hsp := hJR_31
    refine lv_icmp_eq (tgt := 66) hx hb eX6_layConditions_45 (by decide) (fun c_50 => ?_) (fun c_50 => ?_)
    · have hcc_50 := c_50
      have hsp := hsp.trans (if_pos c_50)
      exact j_30 _ _ _ _ ⟨g_9, g_6, g_7, g_8, rfl, hg_9, hsp.symm, hP, hD, hS, lv_sub hl [2, 3, 4, 5, 6, 1, 0] rfl⟩
    · have hcc_50 := c_50
      have hsp := hsp.trans (if_neg c_50)
      refine lv_aload_n hx hb eX6_layConditions_48 rfl (lv_at hl 2 rfl) ?_
      refine lv_iload hx hb eX6_layConditions_49 (lv_at hl 0 rfl) ?_
      refine lv_iload_n hx hb eX6_layConditions_51 rfl (lv_at hl 5 rfl) ?_
      refine lv_aload_n hx hb eX6_layConditions_52 rfl (lv_at hl 3 rfl) ?_
      refine va_get (D := (dC, dI)) (ci := 0) (v := .ref q12) (C := RX0) (T := TX0) (N := 17) hx hb hts hiX0 hown hK hP 8 rfl rfl 12 (by decide) v_8 (fun _ h9 => h9) rfl eX6_layConditions_53 ?_
      refine lv_iload hx hb eX6_layConditions_56 (lv_at hl 1 rfl) ?_
      refine va_iald hx hb hK hP 17 15 rfl rfl (vp_in_nI (n := (a1 * 4 + g_10)) (by omega) (Nat.le_of_ble_eq_true rfl)) eX6_layConditions_58 ?_
      refine lv_topi (fun y_51 ey_51 => ?_)
      have ey_51 : y_51 = f12 (a1 * 4 + g_10) := ey_51.trans (congrArg f12 (nI_clamp (n := (a1 * 4 + g_10)) (by first | omega | exact Nat.lt_trans (zx16 (by omega) (by omega) (by omega)) (Nat.le_of_ble_eq_true rfl) | exact Nat.lt_trans (zy16 (by omega) (by omega)) (Nat.le_of_ble_eq_true rfl) | exact Nat.lt_trans (zx25 (by omega) (by omega) (by omega)) (Nat.le_of_ble_eq_true rfl) | exact Nat.lt_trans (zy25 (by omega) (by omega)) (Nat.le_of_ble_eq_true rfl))))
      have hsp := hsp.trans (slet_eq ey_51)
      refine va_calli (va_runS (As := [.int y_51]) (rest := [.int (nI a2), .int (nI u_24), .ref ti]) ⟨hx, hb, hml, hown, hts⟩ (c_E_7_ticks l dC dI _ y_51) (va_cwS 1 hts g_E_6_layConditions_E_7_ticks rfl rfl rfl (by decide +kernel) ⟨Nat.le_of_ble_eq_true rfl, Nat.le_of_ble_eq_true rfl⟩) ⟨pu_bl, pu_in (hP.sub [] rfl) (hK.sub [] rfl) (hD.sub [] (by decide) rfl)⟩ rfl rfl hl.1 rfl (lv_room (Nat.le_of_ble_eq_true rfl)) eX6_layConditions_59 ⟨Nat.le_of_ble_eq_true rfl, Nat.le_of_ble_eq_true rfl⟩) hS (fun q _ h => pu_fr hS hA q h) (pu_fr hS hA) (fun r_52 u t H1 locs ht hvm hw hB hz1 hk1 hS => ?_)
      have hP := pu_keep hP hk1
      clear hk1 hz1 ht hvm
      generalize H1 = H at hP hS ⊢
      have ir_52 := hw
      have hsp := hsp.trans (slet_eq ir_52)
      refine lv_ineg hx hb eX6_layConditions_62 ?_
      refine lv_topi (fun y_53 ey_53 => ?_)
      have hsp := hsp.trans (slet_eq ey_53)
      have hPc : va_P (dC, dI) vwCl (ti__w ti r0 (nI ln) r2 r3 r4 r5 (nI g_9) r7 r8 tz k_j0 (bN 13 q_j0) k_j2 j2 k_j3 (bN 120 g_6) k_j4 (bN 120 g_7) k_j5 g_8 k_j7 (bN 120 q_j7) k_j8 j8) _ := hP.sub [0, 1, 2, 3, 4, 5, 6, 7] rfl
      have hDc := hD.sub (ws' := (ti__w ti r0 (nI ln) r2 r3 r4 r5 (nI g_9) r7 r8 tz k_j0 (bN 13 q_j0) k_j2 j2 k_j3 (bN 120 g_6) k_j4 (bN 120 g_7) k_j5 g_8 k_j7 (bN 120 q_j7) k_j8 j8)) [0, 1, 2, 3, 4, 5, 6, 7] (by decide) rfl
      have hKc : va_K (dC, dI) vwCl (ti__t k_j0 k_j2 k_j3 k_j4 k_j5 k_j7 k_j8) s := hK.sub [0, 1, 2, 3, 4, 5, 6] rfl
      have hFc := pu_free hDc hS hA
      refine va_callv (va_runV (As := [.int (nI u_24), .int (nI a2), .int y_53]) (rest := []) ⟨hx, hb, hml, hown, hts⟩ (c_E_6_layRule l dC dI _ ti r0 ln r2 r3 r4 r5 g_9 r7 r8 tz k_j0 q_j0 k_j2 j2 k_j3 g_6 k_j4 g_7 k_j5 g_8 k_j7 q_j7 k_j8 j8 u_24 a2 y_53 hln hg_9 hu_24 ha2) (cwV 3 hts g_E_6_layConditions_E_6_layRule rfl rfl rfl (by decide +kernel) ⟨Nat.le_of_ble_eq_true rfl, Nat.le_of_ble_eq_true rfl⟩) ⟨pu_bl, va_recv hK hP (ci := 6) (q0 := 0) rfl rfl, pu_in hPc hKc hDc⟩ rfl rfl hl.1 rfl (lv_room (Nat.le_of_ble_eq_true rfl)) eX6_layConditions_63 ⟨Nat.le_of_ble_eq_true rfl, Nat.le_of_ble_eq_true rfl⟩) hS (fun q _ h => hFc q h) hFc (fun u t H1 locs ht hvm hw hB hz1 hk1 hS => ?_)
      obtain ⟨z_j3_55, z_j4_56, z_j5_57, z_nr_58, ⟨hP1, -, hD1⟩, hz_nr_58, xr_54_0⟩ := hB
      rw [ht] at hP1
      obtain ⟨hP, hD⟩ := pj_a (X := (ta__w ti r0 (nI ln) r2 r3 r4 r5 (nI g_9) r7 r8 tz k_j0 (bN 13 q_j0) k_j2 j2 k_j3 (bN 120 g_6) k_j4 (bN 120 g_7) k_j5 g_8 k_j7 (bN 120 q_j7) k_j8 j8 au (nI nc) (nI np) (nI ne) st0 q4 q5 q6 q7 q8 q9 q10 q11 q12 q13 q14 q15 q16 k_f4 f4 k_f5 (bN 7 q_f5) k_f6 (bN 7 q_f6) k_f7 f7 k_f8 (bN 4 q_f8) k_f9 (bN 2 q_f9) k_f10 f10 k_f11 f11 k_f12 f12 k_f13 f13 k_f14 f14 k_f15 f15 k_f16 f16)) (X' := (ta__w ti r0 (nI ln) r2 r3 r4 r5 (nI z_nr_58) r7 r8 tz k_j0 (bN 13 q_j0) k_j2 j2 k_j3 (bN 120 z_j3_55) k_j4 (bN 120 z_j4_56) k_j5 z_j5_57 k_j7 (bN 120 q_j7) k_j8 j8 au (nI nc) (nI np) (nI ne) st0 q4 q5 q6 q7 q8 q9 q10 q11 q12 q13 q14 q15 q16 k_f4 f4 k_f5 (bN 7 q_f5) k_f6 (bN 7 q_f6) k_f7 f7 k_f8 (bN 4 q_f8) k_f9 (bN 2 q_f9) k_f10 f10 k_f11 f11 k_f12 f12 k_f13 f13 k_f14 f14 k_f15 f15 k_f16 f16)) (wc := (ti__w ti r0 (nI ln) r2 r3 r4 r5 (nI g_9) r7 r8 tz k_j0 (bN 13 q_j0) k_j2 j2 k_j3 (bN 120 g_6) k_j4 (bN 120 g_7) k_j5 g_8 k_j7 (bN 120 q_j7) k_j8 j8)) (w1 := (ti__w ti r0 (nI ln) r2 r3 r4 r5 (nI z_nr_58) r7 r8 tz k_j0 (bN 13 q_j0) k_j2 j2 k_j3 (bN 120 z_j3_55) k_j4 (bN 120 z_j4_56) k_j5 z_j5_57 k_j7 (bN 120 q_j7) k_j8 j8)) hP hD [0, 1, 2, 3, 4, 5, 6, 7] [0, 1, 2, 3, 4, 5, 6, 7, 16, 17, 18, 19, 20, 21, 22, 23, 24, 25, 26, 27, 28, 29] 8 rfl hk1 hP1 rfl rfl rfl (by decide)
      clear hP1 hD1 hFc hPc hDc hKc
      clear hk1 hz1 ht hvm
      generalize H1 = H at hP hS ⊢
      have hsp := hsp.trans (slet_eq xr_54_0)
      exact j_30 _ _ _ _ ⟨z_nr_58, z_j3_55, z_j4_56, z_j5_57, rfl, hz_nr_58, hsp.symm, hP, hD, hS, lv_sub hl [2, 3, 4, 5, 6, 1, 0] rfl⟩
