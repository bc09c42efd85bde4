theorem eX6_findsGreatest_0 : decode cX6_findsGreatest 0 = .ok (.aload_n 0, 1) := by decide +kernel
theorem eX6_findsGreatest_1 : decode cX6_findsGreatest 1 = .ok (.getfield 15, 3) := by decide +kernel
theorem eX6_findsGreatest_4 : decode cX6_findsGreatest 4 = .ok (.iconst 0, 1) := by decide +kernel
theorem eX6_findsGreatest_5 : decode cX6_findsGreatest 5 = .ok (.iconst 0, 1) := by decide +kernel
theorem eX6_findsGreatest_6 : decode cX6_findsGreatest 6 = .ok (.iastore, 1) := by decide +kernel
theorem eX6_findsGreatest_7 : decode cX6_findsGreatest 7 = .ok (.iconst 1, 1) := by decide +kernel
theorem eX6_findsGreatest_8 : decode cX6_findsGreatest 8 = .ok (.istore_n 2, 1) := by decide +kernel
theorem eX6_findsGreatest_9 : decode cX6_findsGreatest 9 = .ok (.iload_n 2, 1) := by decide +kernel
theorem eX6_findsGreatest_10 : decode cX6_findsGreatest 10 = .ok (.aload_n 0, 1) := by decide +kernel
theorem eX6_findsGreatest_11 : decode cX6_findsGreatest 11 = .ok (.getfield 47, 3) := by decide +kernel
theorem eX6_findsGreatest_14 : decode cX6_findsGreatest 14 = .ok (.if_icmp .gt 16, 3) := by decide +kernel
theorem eX6_findsGreatest_17 : decode cX6_findsGreatest 17 = .ok (.aload_n 0, 1) := by decide +kernel
theorem eX6_findsGreatest_18 : decode cX6_findsGreatest 18 = .ok (.getfield 15, 3) := by decide +kernel
theorem eX6_findsGreatest_21 : decode cX6_findsGreatest 21 = .ok (.iload_n 2, 1) := by decide +kernel
theorem eX6_findsGreatest_22 : decode cX6_findsGreatest 22 = .ok (.iload_n 1, 1) := by decide +kernel
theorem eX6_findsGreatest_23 : decode cX6_findsGreatest 23 = .ok (.iastore, 1) := by decide +kernel
theorem eX6_findsGreatest_24 : decode cX6_findsGreatest 24 = .ok (.iinc 2 1, 3) := by decide +kernel
theorem eX6_findsGreatest_27 : decode cX6_findsGreatest 27 = .ok (.goto (-18), 3) := by decide +kernel
theorem eX6_findsGreatest_30 : decode cX6_findsGreatest 30 = .ok (.iconst 1, 1) := by decide +kernel
theorem eX6_findsGreatest_31 : decode cX6_findsGreatest 31 = .ok (.istore_n 2, 1) := by decide +kernel
theorem eX6_findsGreatest_32 : decode cX6_findsGreatest 32 = .ok (.iconst 0, 1) := by decide +kernel
theorem eX6_findsGreatest_33 : decode cX6_findsGreatest 33 = .ok (.istore_n 3, 1) := by decide +kernel
theorem eX6_findsGreatest_34 : decode cX6_findsGreatest 34 = .ok (.iload_n 3, 1) := by decide +kernel
theorem eX6_findsGreatest_35 : decode cX6_findsGreatest 35 = .ok (.aload_n 0, 1) := by decide +kernel
theorem eX6_findsGreatest_36 : decode cX6_findsGreatest 36 = .ok (.getfield 47, 3) := by decide +kernel
theorem eX6_findsGreatest_39 : decode cX6_findsGreatest 39 = .ok (.iconst 1, 1) := by decide +kernel
theorem eX6_findsGreatest_40 : decode cX6_findsGreatest 40 = .ok (.iadd, 1) := by decide +kernel
theorem eX6_findsGreatest_41 : decode cX6_findsGreatest 41 = .ok (.if_icmp .gt 97, 3) := by decide +kernel
theorem eX6_findsGreatest_44 : decode cX6_findsGreatest 44 = .ok (.iload_n 2, 1) := by decide +kernel
theorem eX6_findsGreatest_45 : decode cX6_findsGreatest 45 = .ok (.ifCond .eq 93, 3) := by decide +kernel
theorem eX6_findsGreatest_48 : decode cX6_findsGreatest 48 = .ok (.aload_n 0, 1) := by decide +kernel
theorem eX6_findsGreatest_49 : decode cX6_findsGreatest 49 = .ok (.getfield 15, 3) := by decide +kernel
theorem eX6_findsGreatest_52 : decode cX6_findsGreatest 52 = .ok (.iconst 0, 1) := by decide +kernel
theorem eX6_findsGreatest_53 : decode cX6_findsGreatest 53 = .ok (.iaload, 1) := by decide +kernel
theorem eX6_findsGreatest_54 : decode cX6_findsGreatest 54 = .ok (.ifCond .ne 84, 3) := by decide +kernel
theorem eX6_findsGreatest_57 : decode cX6_findsGreatest 57 = .ok (.iconst 0, 1) := by decide +kernel
theorem eX6_findsGreatest_58 : decode cX6_findsGreatest 58 = .ok (.istore_n 2, 1) := by decide +kernel
theorem eX6_findsGreatest_59 : decode cX6_findsGreatest 59 = .ok (.iconst 0, 1) := by decide +kernel
theorem eX6_findsGreatest_60 : decode cX6_findsGreatest 60 = .ok (.istore 4, 2) := by decide +kernel
theorem eX6_findsGreatest_62 : decode cX6_findsGreatest 62 = .ok (.iload 4, 2) := by decide +kernel
theorem eX6_findsGreatest_64 : decode cX6_findsGreatest 64 = .ok (.aload_n 0, 1) := by decide +kernel
theorem eX6_findsGreatest_65 : decode cX6_findsGreatest 65 = .ok (.getfield 57, 3) := by decide +kernel
theorem eX6_findsGreatest_68 : decode cX6_findsGreatest 68 = .ok (.if_icmp .ge 64, 3) := by decide +kernel
theorem eX6_findsGreatest_71 : decode cX6_findsGreatest 71 = .ok (.aload_n 0, 1) := by decide +kernel
theorem eX6_findsGreatest_72 : decode cX6_findsGreatest 72 = .ok (.getfield 15, 3) := by decide +kernel
theorem eX6_findsGreatest_75 : decode cX6_findsGreatest 75 = .ok (.aload_n 0, 1) := by decide +kernel
theorem eX6_findsGreatest_76 : decode cX6_findsGreatest 76 = .ok (.getfield 18, 3) := by decide +kernel
theorem eX6_findsGreatest_79 : decode cX6_findsGreatest 79 = .ok (.iload 4, 2) := by decide +kernel
theorem eX6_findsGreatest_81 : decode cX6_findsGreatest 81 = .ok (.iaload, 1) := by decide +kernel
theorem eX6_findsGreatest_82 : decode cX6_findsGreatest 82 = .ok (.iaload, 1) := by decide +kernel
theorem eX6_findsGreatest_83 : decode cX6_findsGreatest 83 = .ok (.aload_n 0, 1) := by decide +kernel
theorem eX6_findsGreatest_84 : decode cX6_findsGreatest 84 = .ok (.getfield 24, 3) := by decide +kernel
theorem eX6_findsGreatest_87 : decode cX6_findsGreatest 87 = .ok (.iload 4, 2) := by decide +kernel
theorem eX6_findsGreatest_89 : decode cX6_findsGreatest 89 = .ok (.iaload, 1) := by decide +kernel
theorem eX6_findsGreatest_90 : decode cX6_findsGreatest 90 = .ok (.isub, 1) := by decide +kernel
theorem eX6_findsGreatest_91 : decode cX6_findsGreatest 91 = .ok (.istore 5, 2) := by decide +kernel
theorem eX6_findsGreatest_93 : decode cX6_findsGreatest 93 = .ok (.iload 5, 2) := by decide +kernel
theorem eX6_findsGreatest_95 : decode cX6_findsGreatest 95 = .ok (.aload_n 0, 1) := by decide +kernel
theorem eX6_findsGreatest_96 : decode cX6_findsGreatest 96 = .ok (.getfield 15, 3) := by decide +kernel
theorem eX6_findsGreatest_99 : decode cX6_findsGreatest 99 = .ok (.aload_n 0, 1) := by decide +kernel
theorem eX6_findsGreatest_100 : decode cX6_findsGreatest 100 = .ok (.getfield 21, 3) := by decide +kernel
theorem eX6_findsGreatest_103 : decode cX6_findsGreatest 103 = .ok (.iload 4, 2) := by decide +kernel
theorem eX6_findsGreatest_105 : decode cX6_findsGreatest 105 = .ok (.iaload, 1) := by decide +kernel
theorem eX6_findsGreatest_106 : decode cX6_findsGreatest 106 = .ok (.iaload, 1) := by decide +kernel
theorem eX6_findsGreatest_107 : decode cX6_findsGreatest 107 = .ok (.if_icmp .ge 19, 3) := by decide +kernel
theorem eX6_findsGreatest_110 : decode cX6_findsGreatest 110 = .ok (.aload_n 0, 1) := by decide +kernel
theorem eX6_findsGreatest_111 : decode cX6_findsGreatest 111 = .ok (.getfield 15, 3) := by decide +kernel
theorem eX6_findsGreatest_114 : decode cX6_findsGreatest 114 = .ok (.aload_n 0, 1) := by decide +kernel
theorem eX6_findsGreatest_115 : decode cX6_findsGreatest 115 = .ok (.getfield 21, 3) := by decide +kernel
theorem eX6_findsGreatest_118 : decode cX6_findsGreatest 118 = .ok (.iload 4, 2) := by decide +kernel
theorem eX6_findsGreatest_120 : decode cX6_findsGreatest 120 = .ok (.iaload, 1) := by decide +kernel
theorem eX6_findsGreatest_121 : decode cX6_findsGreatest 121 = .ok (.iload 5, 2) := by decide +kernel
theorem eX6_findsGreatest_123 : decode cX6_findsGreatest 123 = .ok (.iastore, 1) := by decide +kernel
theorem eX6_findsGreatest_124 : decode cX6_findsGreatest 124 = .ok (.iconst 1, 1) := by decide +kernel
theorem eX6_findsGreatest_125 : decode cX6_findsGreatest 125 = .ok (.istore_n 2, 1) := by decide +kernel
theorem eX6_findsGreatest_126 : decode cX6_findsGreatest 126 = .ok (.iinc 4 1, 3) := by decide +kernel
theorem eX6_findsGreatest_129 : decode cX6_findsGreatest 129 = .ok (.goto (-67), 3) := by decide +kernel
theorem eX6_findsGreatest_132 : decode cX6_findsGreatest 132 = .ok (.iinc 3 1, 3) := by decide +kernel
theorem eX6_findsGreatest_135 : decode cX6_findsGreatest 135 = .ok (.goto (-101), 3) := by decide +kernel
theorem eX6_findsGreatest_138 : decode cX6_findsGreatest 138 = .ok (.iload_n 2, 1) := by decide +kernel
theorem eX6_findsGreatest_139 : decode cX6_findsGreatest 139 = .ok (.ifCond .ne 16, 3) := by decide +kernel
theorem eX6_findsGreatest_142 : decode cX6_findsGreatest 142 = .ok (.aload_n 0, 1) := by decide +kernel
theorem eX6_findsGreatest_143 : decode cX6_findsGreatest 143 = .ok (.getfield 15, 3) := by decide +kernel
theorem eX6_findsGreatest_146 : decode cX6_findsGreatest 146 = .ok (.iconst 0, 1) := by decide +kernel
theorem eX6_findsGreatest_147 : decode cX6_findsGreatest 147 = .ok (.iaload, 1) := by decide +kernel
theorem eX6_findsGreatest_148 : decode cX6_findsGreatest 148 = .ok (.ifCond .ne 7, 3) := by decide +kernel
theorem eX6_findsGreatest_151 : decode cX6_findsGreatest 151 = .ok (.iconst 1, 1) := by decide +kernel
theorem eX6_findsGreatest_152 : decode cX6_findsGreatest 152 = .ok (.goto 4, 3) := by decide +kernel
theorem eX6_findsGreatest_155 : decode cX6_findsGreatest 155 = .ok (.iconst 0, 1) := by decide +kernel
theorem eX6_findsGreatest_156 : decode cX6_findsGreatest 156 = .ok (.ireturn, 1) := by decide +kernel
abbrev vs_E_6_findsGreatest : List Cond := .code yX6_findsGreatest cX6_findsGreatest 6 (some .boolean) :: CM
noncomputable def sp_E_6_findsGreatest_L1 (nr : Nat) (q_j3 : Nat → Nat) (q_j4 : Nat → Nat) (j5 : Nat → Int32) (g_27 : Nat) : ((Nat → Int32) × Int32 × Nat) → ((Nat → Int32) × Int32 × Nat) ⊕ (((Nat → Int32) × Int32 × Nat) ⊕ (Int32 × Nat × (Nat → Int32))) := fun (g_42, g_43, g_44) => (if nr ≤ g_44 then (Sum.inr (Sum.inl (g_42, g_43, (g_27 + 1)))) else (slet (min (q_j3 g_44) 120) (fun u_53 => (slet (g_42 u_53) (fun y_54 => (slet (j5 g_44) (fun y_55 => (slet ((y_54 : Int32) - y_55) (fun y_56 => (slet (min (q_j4 g_44) 120) (fun u_58 => (slet (g_42 u_58) (fun y_59 => (slet (α := Int32 × (Nat → Int32)) (if (y_59 : Int32) ≤ y_56 then (g_43, g_42) else (slet (upd g_42 u_58 y_56) (fun f_68 => (1, f_68)))) (fun (g_60, g_61) => (Sum.inl (g_61, g_60, (g_44 + 1))))))))))))))))))
noncomputable def sp_E_6_findsGreatest_L2 (ln : Nat) (nr : Nat) (q_j3 : Nat → Nat) (q_j4 : Nat → Nat) (j5 : Nat → Int32) : ((Nat → Int32) × Int32 × Nat) → ((Nat → Int32) × Int32 × Nat) ⊕ (Int32 × Nat × (Nat → Int32)) := fun (g_25, g_26, g_27) => (if (ln + 1) < g_27 then (Sum.inr (g_26, g_27, g_25)) else (if (g_26 : Int32) = 0 then (Sum.inr (g_26, g_27, g_25)) else (slet (g_25 0) (fun y_37 => (if (y_37 : Int32) = 0 then (itrv (α := (Nat → Int32) × Int32 × Nat) (β := (((Nat → Int32) × Int32 × Nat) ⊕ (Int32 × Nat × (Nat → Int32)))) (Sum.inr default) (sp_E_6_findsGreatest_L1 nr q_j3 q_j4 j5 g_27) (g_25, 0, 0)) else (Sum.inr (g_26, g_27, g_25)))))))
noncomputable def sp_E_6_findsGreatest_L3 (ln : Nat) (nr : Nat) (q_j3 : Nat → Nat) (q_j4 : Nat → Nat) (j5 : Nat → Int32) (p0 : Int32) : ((Nat → Int32) × Nat) → ((Nat → Int32) × Nat) ⊕ (Nat × (Nat → Int32)) := fun (g_4, g_5) => (if ln < g_5 then (Sum.inr (slet (α := Int32 × Nat × (Nat → Int32)) (itrv (α := (Nat → Int32) × Int32 × Nat) (β := (Int32 × Nat × (Nat → Int32))) default (sp_E_6_findsGreatest_L2 ln nr q_j3 q_j4 j5) (g_4, 1, 0)) (fun (g_13, g_14, g_15) => (if (g_13 : Int32) = 0 then (slet (g_15 0) (fun y_20 => (if (y_20 : Int32) = 0 then (1, g_15) else (0, g_15)))) else (0, g_15))))) else (slet (upd g_4 g_5 p0) (fun f_69 => (Sum.inl (f_69, (g_5 + 1))))))
noncomputable def sp_E_6_findsGreatest (ln : Nat) (nr : Nat) (j2 : Nat → Int32) (q_j3 : Nat → Nat) (q_j4 : Nat → Nat) (j5 : Nat → Int32) (p0 : Int32) : Nat × (Nat → Int32) := (slet (upd j2 0 0) (fun f_1 => (itrv (α := (Nat → Int32) × Nat) (β := (Nat × (Nat → Int32))) default (sp_E_6_findsGreatest_L3 ln nr q_j3 q_j4 j5 p0) (f_1, 1))))
set_option maxHeartbeats 4000000 in
set_option maxRecDepth 100000 in
theorem c_E_6_findsGreatest (l : Launch) (dC : Nat → ClassId) (dI : Nat → Nat → Nat) (sz : Nat) (ti : Nat) (r0 : Nat) (ln : Nat) (r2 : Nat) (r3 : Nat) (r4 : Nat) (r5 : Nat) (nr : Nat) (r7 : Nat) (r8 : Nat) (tz : Nat) (k_j0 : ClassId) (q_j0 : Nat → Nat) (k_j2 : ClassId) (j2 : Nat → Int32) (k_j3 : ClassId) (q_j3 : Nat → Nat) (k_j4 : ClassId) (q_j4 : Nat → Nat) (k_j5 : ClassId) (j5 : Nat → Int32) (k_j7 : ClassId) (q_j7 : Nat → Nat) (k_j8 : ClassId) (j8 : Nat → Int32) (p0 : Int32) (hln : ln ≤ 119) (hnr : nr ≤ 1920) : Met l yX6_findsGreatest vs_E_6_findsGreatest ({ frames := 0, cells := 0, slots := 0, locals := 0 }) (va_Pc [.ref ti, .int p0] (pu_B (dC, dI) (ti__w ti r0 (nI ln) r2 r3 r4 r5 (nI nr) r7 r8 tz k_j0 (bN 13 q_j0) k_j2 j2 k_j3 (bN 120 q_j3) k_j4 (bN 120 q_j4) k_j5 j5 k_j7 (bN 120 q_j7) k_j8 j8) (ti__t k_j0 k_j2 k_j3 k_j4 k_j5 k_j7 k_j8) sz)) (va_Qi (fun (r : Int32) (_ : Unit) => ∃ v : Nat, v ≤ 1 ∧ r = nI v ∧ v = (sp_E_6_findsGreatest ln nr j2 q_j3 q_j4 j5 p0).1) (fun _ t => ∃ (z_j2 : Nat → Int32), pu_E (dC, dI) (ti__w ti r0 (nI ln) r2 r3 r4 r5 (nI nr) r7 r8 tz k_j0 (bN 13 q_j0) k_j2 z_j2 k_j3 (bN 120 q_j3) k_j4 (bN 120 q_j4) k_j5 j5 k_j7 (bN 120 q_j7) k_j8 j8) (ti__t k_j0 k_j2 k_j3 k_j4 k_j5 k_j7 k_j8) (va_A ((ti__w ti r0 (nI ln) r2 r3 r4 r5 (nI nr) r7 r8 tz k_j0 (bN 13 q_j0) k_j2 j2 k_j3 (bN 120 q_j3) k_j4 (bN 120 q_j4) k_j5 j5 k_j7 (bN 120 q_j7) k_j8 j8)) sz) t ∧ (z_j2 = (sp_E_6_findsGreatest ln nr j2 q_j3 q_j4 j5 p0).2)) (va_A ((ti__w ti r0 (nI ln) r2 r3 r4 r5 (nI nr) r7 r8 tz k_j0 (bN 13 q_j0) k_j2 j2 k_j3 (bN 120 q_j3) k_j4 (bN 120 q_j4) k_j5 j5 k_j7 (bN 120 q_j7) k_j8 j8)) sz)) 0 0 (va_A ((ti__w ti r0 (nI ln) r2 r3 r4 r5 (nI nr) r7 r8 tz k_j0 (bN 13 q_j0) k_j2 j2 k_j3 (bN 120 q_j3) k_j4 (bN 120 q_j4) k_j5 j5 k_j7 (bN 120 q_j7) k_j8 j8)) sz) := by
  refine Met.ofW (cc := cX6_findsGreatest) (maxL := 6) (ret := (some .boolean)) (by decide) rfl ?_
  intro p e s m args below meth c s₁ B hml hv
  obtain ⟨rfl, rfl, hP, hK, hD0⟩ := hv
  have hx := B.exec
  have hb := B.bytes
  have hr := B.returns
  have hts := atoms_spec (ws := vs_E_6_findsGreatest) B.pre
  have v_1 := hts (.fieldLink RX6 15 "ClockReach$Timing" "at" "[I") (List.mem_cons_of_mem _ cm_400)
  have v_2 := hts (.fieldLink RX6 47 "ClockReach$Timing" "length" "I") (List.mem_cons_of_mem _ cm_366)
  have v_3 := hts (.fieldLink RX6 57 "ClockReach$Timing" "rules" "I") (List.mem_cons_of_mem _ cm_371)
  have v_4 := hts (.fieldLink RX6 18 "ClockReach$Timing" "laters" "[I") (List.mem_cons_of_mem _ cm_396)
  have v_5 := hts (.fieldLink RX6 24 "ClockReach$Timing" "gaps" "[I") (List.mem_cons_of_mem _ cm_398)
  have v_6 := hts (.fieldLink RX6 21 "ClockReach$Timing" "earliers" "[I") (List.mem_cons_of_mem _ cm_397)
  have hown : s.vm.findClass RX6 = some m.cls := findClass_of_methodNamed B.named
  have hlocks := B.notSynchronized
  have hiX6 : ∀ w ∈ wsX60, w ∈ vs_E_6_findsGreatest := fun _ h => List.mem_cons_of_mem _ (cm_X6 h)
  have hD := hD0.self (sz := s.heap.size)
  generalize hAe : va_A ((ti__w ti r0 (nI ln) r2 r3 r4 r5 (nI nr) r7 r8 tz k_j0 (bN 13 q_j0) k_j2 j2 k_j3 (bN 120 q_j3) k_j4 (bN 120 q_j4) k_j5 j5 k_j7 (bN 120 q_j7) k_j8 j8)) s.heap.size = A at hD ⊢
  have hA : ∀ q : Nat, s.heap.size ≤ q → A q := fun q h => by rw [← hAe]; exact Or.inr h
  have hS : va_S A s.heap s.heap [] := va_S.rf
  have hl := lv_entry ([.ref ti, .int p0]) (n := 6) (Nat.le_of_ble_eq_true rfl)
  rw [lg_entry_eq]
  generalize (lg_sl ([.ref ti, .int p0]) ++ List.replicate (6 - (lg_sl ([.ref ti, .int p0])).length) Slot.unset).toArray = ls at hl ⊢
  have hl : lv_has ls 6 [(0, .ref ti), (1, .int p0)] := hl
  obtain ⟨RR, hRR⟩ : ∃ x, x = (sp_E_6_findsGreatest ln nr j2 q_j3 q_j4 j5 p0) := ⟨_, rfl⟩
  have hsp := hRR
  refine lv_aload_n hx hb eX6_findsGreatest_0 rfl (lv_at hl 0 rfl) ?_
  refine va_get (D := (dC, dI)) (ci := 6) (v := .ref r2) (C := RX6) (T := TX6) (N := 10) hx hb hts hiX6 hown hK hP 0 rfl rfl 2 (by decide) v_1 (fun _ h9 => h9) rfl eX6_findsGreatest_1 ?_
  refine lv_iconst (v := 0) hx hb eX6_findsGreatest_4 (by decide) ?_
  refine lv_iconst (v := 0) hx hb eX6_findsGreatest_5 (by decide) ?_
  refine va_iast hx hb hK hP hD hS 2 1 rfl rfl (vp_in_nI (n := 0) (Nat.le_of_ble_eq_true rfl) (Nat.le_of_ble_eq_true rfl)) eX6_findsGreatest_6 (fun H locs hP hD hS => ?_)
  obtain ⟨f_1, ef_1, xf_1⟩ := up_x j2 (n := 0) 0 (Nat.le_of_ble_eq_true rfl)
  have hP : va_P (dC, dI) vwCl (ti__w ti r0 (nI ln) r2 r3 r4 r5 (nI nr) r7 r8 tz k_j0 (bN 13 q_j0) k_j2 f_1 k_j3 (bN 120 q_j3) k_j4 (bN 120 q_j4) k_j5 j5 k_j7 (bN 120 q_j7) k_j8 j8) H := by rw [← ef_1]; exact hP
  have hD : va_D A (ti__w ti r0 (nI ln) r2 r3 r4 r5 (nI nr) r7 r8 tz k_j0 (bN 13 q_j0) k_j2 f_1 k_j3 (bN 120 q_j3) k_j4 (bN 120 q_j4) k_j5 j5 k_j7 (bN 120 q_j7) k_j8 j8) := by rw [← ef_1]; exact hD
  have hsp := hsp.trans (slet_eq xf_1)
  refine lv_iconst (v := 1) hx hb eX6_findsGreatest_7 (by decide) ?_
  refine lv_istore_n (lv' := [(2, .int 1), (0, .ref ti), (1, .int p0)]) hx hb eX6_findsGreatest_8 rfl hl (by decide) rfl (fun ls hl => ?_)
  obtain ⟨lf_7, dlf_7, hlf_7, hsp⟩ := itr_ex hsp
  delta sp_E_6_findsGreatest_L3 at hlf_7
  refine pu_while (fun nn H locs ls => ∃ (g_4 : Nat → Int32) (g_5 : Nat), nn = 120 - g_5 ∧ (1 ≤ g_5 ∧ g_5 ≤ 120) ∧ RR = itrv dlf_7 lf_7 (g_4, g_5) ∧ va_P (dC, dI) vwCl (ti__w ti r0 (nI ln) r2 r3 r4 r5 (nI nr) r7 r8 tz k_j0 (bN 13 q_j0) k_j2 g_4 k_j3 (bN 120 q_j3) k_j4 (bN 120 q_j4) k_j5 j5 k_j7 (bN 120 q_j7) k_j8 j8) H ∧ va_D A (ti__w ti r0 (nI ln) r2 r3 r4 r5 (nI nr) r7 r8 tz k_j0 (bN 13 q_j0) k_j2 g_4 k_j3 (bN 120 q_j3) k_j4 (bN 120 q_j4) k_j5 j5 k_j7 (bN 120 q_j7) k_j8 j8) ∧ va_S A s.heap H locs ∧ lv_has ls 6 [(0, .ref ti), (1, .int p0), (2, .int (nI g_5))]) 9 ?_ _ _ _ _ ⟨f_1, 1, rfl, ⟨by omega, by omega⟩, hsp, hP, hD, hS, lv_sub hl [1, 2, 0] rfl⟩
  rintro nn ih_6 H locs ls ⟨g_4, g_5, rfl, hg_5, he_9, hP, hD, hS, hl⟩
  obtain ⟨S_8, hsp, hin_10, hout_11⟩ := itr_step hlf_7 he_9
  refine lv_iload_n hx hb eX6_findsGreatest_9 rfl (lv_at hl 2 rfl) ?_
  refine lv_aload_n hx hb eX6_findsGreatest_10 rfl (lv_at hl 0 rfl) ?_
  refine va_get (D := (dC, dI)) (ci := 6) (v := .int (nI ln)) (C := RX6) (T := TX6) (N := 10) hx hb hts hiX6 hown hK hP 0 rfl rfl 1 (by decide) v_2 (fun _ h9 => h9) rfl eX6_findsGreatest_11 ?_
  refine lv_icmp_gt (tgt := 30) hx hb eX6_findsGreatest_14 (by decide) (fun c_12 => ?_) (fun c_12 => ?_)
  · have c_12 : ln < g_5 := (nI_ltI (a := ln) (b := g_5) (Nat.lt_of_le_of_lt hln (Nat.le_of_ble_eq_true rfl)) (Nat.lt_of_le_of_lt hg_5.2 (Nat.le_of_ble_eq_true rfl))).mp c_12
    have hsp := hsp.trans (if_pos c_12)
    have hsp := hout_11 _ hsp
    refine lv_iconst (v := 1) hx hb eX6_findsGreatest_30 (by decide) ?_
    refine lv_istore_n (lv' := [(2, .int 1), (0, .ref ti), (1, .int p0)]) hx hb eX6_findsGreatest_31 rfl hl (by decide) rfl (fun ls hl => ?_)
    refine lv_iconst (v := 0) hx hb eX6_findsGreatest_32 (by decide) ?_
    refine lv_istore_n (lv' := [(3, .int 0), (2, .int 1), (0, .ref ti), (1, .int p0)]) hx hb eX6_findsGreatest_33 rfl hl (by decide) rfl (fun ls hl => ?_)
    obtain ⟨JR_17, hJR_17, hsp⟩ := slet_ex hsp
    refine pu_join (fun H locs ls st => ∃ (g_13 : Int32) (g_14 : Nat) (g_15 : Nat → Int32), st = [] ∧ g_14 ≤ 121 ∧ (g_13, g_14, g_15) = JR_17 ∧ va_P (dC, dI) vwCl (ti__w ti r0 (nI ln) r2 r3 r4 r5 (nI nr) r7 r8 tz k_j0 (bN 13 q_j0) k_j2 g_15 k_j3 (bN 120 q_j3) k_j4 (bN 120 q_j4) k_j5 j5 k_j7 (bN 120 q_j7) k_j8 j8) H ∧ va_D A (ti__w ti r0 (nI ln) r2 r3 r4 r5 (nI nr) r7 r8 tz k_j0 (bN 13 q_j0) k_j2 g_15 k_j3 (bN 120 q_j3) k_j4 (bN 120 q_j4) k_j5 j5 k_j7 (bN 120 q_j7) k_j8 j8) ∧ va_S A s.heap H locs ∧ lv_has ls 6 [(0, .ref ti), (1, .int p0), (2, .int g_13), (3, .int (nI g_14))]) 138 ?_ (fun j_16 => ?_)
    · rintro H locs ls st ⟨g_13, g_14, g_15, rfl, hg_14, he_18, hP, hD, hS, hl⟩
      rw [← he_18] at hsp
      refine lv_iload_n hx hb eX6_findsGreatest_138 rfl (lv_at hl 2 rfl) ?_
      refine lv_if_ne (tgt := 155) hx hb eX6_findsGreatest_139 (by decide) (fun c_19 => ?_) (fun c_19 => ?_)
      · have hcc_19 := c_19
        have hsp := hsp.trans (if_neg c_19)
        refine lv_iconst (v := 0) hx hb eX6_findsGreatest_155 (by decide) ?_
        exact W.zret (v := 0) (ty := .boolean) hx hb hr (rfl) (fun t ht hW => ⟨⟨0, (), rfl, ⟨0, (Nat.le_of_ble_eq_true rfl), rfl, (congrArg Prod.fst (hsp.symm.trans hRR))⟩, ⟨g_15, ⟨by rw [ht]; exact hP, va_K.moved hW.alike hK, hD⟩, (congrArg Prod.snd (hsp.symm.trans hRR))⟩⟩, hS.F ht⟩) hS.2.2 eX6_findsGreatest_156
      · have hcc_19 := c_19
        have hsp := hsp.trans (if_pos c_19)
        refine lv_aload_n hx hb eX6_findsGreatest_142 rfl (lv_at hl 0 rfl) ?_
        refine va_get (D := (dC, dI)) (ci := 6) (v := .ref r2) (C := RX6) (T := TX6) (N := 10) hx hb hts hiX6 hown hK hP 0 rfl rfl 2 (by decide) v_1 (fun _ h9 => h9) rfl eX6_findsGreatest_143 ?_
        refine lv_iconst (v := 0) hx hb eX6_findsGreatest_146 (by decide) ?_
        refine va_iald hx hb hK hP 2 1 rfl rfl (vp_in_nI (n := 0) (Nat.le_of_ble_eq_true rfl) (Nat.le_of_ble_eq_true rfl)) eX6_findsGreatest_147 ?_
        refine lv_topi (fun y_20 ey_20 => ?_)
        have ey_20 : y_20 = g_15 0 := ey_20.trans (congrArg g_15 (nI_clamp (n := 0) (Nat.le_of_ble_eq_true rfl)))
        have hsp := hsp.trans (slet_eq ey_20)
        refine lv_if_ne (tgt := 155) hx hb eX6_findsGreatest_148 (by decide) (fun c_21 => ?_) (fun c_21 => ?_)
        · have hcc_21 := c_21
          have hsp := hsp.trans (if_neg c_21)
          refine lv_iconst (v := 0) hx hb eX6_findsGreatest_155 (by decide) ?_
          exact W.zret (v := 0) (ty := .boolean) hx hb hr (rfl) (fun t ht hW => ⟨⟨0, (), rfl, ⟨0, (Nat.le_of_ble_eq_true rfl), rfl, (congrArg Prod.fst (hsp.symm.trans hRR))⟩, ⟨g_15, ⟨by rw [ht]; exact hP, va_K.moved hW.alike hK, hD⟩, (congrArg Prod.snd (hsp.symm.trans hRR))⟩⟩, hS.F ht⟩) hS.2.2 eX6_findsGreatest_156
        · have hcc_21 := c_21
          have hsp := hsp.trans (if_pos c_21)
          refine lv_iconst (v := 1) hx hb eX6_findsGreatest_151 (by decide) ?_
          refine lv_goto (tgt := 156) hx hb eX6_findsGreatest_152 (by decide) ?_
          exact W.zret (v := 1) (ty := .boolean) hx hb hr (rfl) (fun t ht hW => ⟨⟨1, (), rfl, ⟨1, (Nat.le_of_ble_eq_true rfl), rfl, (congrArg Prod.fst (hsp.symm.trans hRR))⟩, ⟨g_15, ⟨by rw [ht]; exact hP, va_K.moved hW.alike hK, hD⟩, (congrArg Prod.snd (hsp.symm.trans hRR))⟩⟩, hS.F ht⟩) hS.2.2 eX6_findsGreatest_156
    have hsp := hJR_17
    obtain ⟨lf_29, dlf_29, hlf_29, hsp⟩ := itr_ex hsp
    delta sp_E_6_findsGreatest_L2 at hlf_29
    refine pu_while (fun nn H locs ls => ∃ (g_25 : Nat → Int32) (g_26 : Int32) (g_27 : Nat), nn = 121 - g_27 ∧ g_27 ≤ 121 ∧ JR_17 = itrv dlf_29 lf_29 (g_25, g_26, g_27) ∧ va_P (dC, dI) vwCl (ti__w ti r0 (nI ln) r2 r3 r4 r5 (nI nr) r7 r8 tz k_j0 (bN 13 q_j0) k_j2 g_25 k_j3 (bN 120 q_j3) k_j4 (bN 120 q_j4) k_j5 j5 k_j7 (bN 120 q_j7) k_j8 j8) H ∧ va_D A (ti__w ti r0 (nI ln) r2 r3 r4 r5 (nI nr) r7 r8 tz k_j0 (bN 13 q_j0) k_j2 g_25 k_j3 (bN 120 q_j3) k_j4 (bN 120 q_j4) k_j5 j5 k_j7 (bN 120 q_j7) k_j8 j8) ∧ va_S A s.heap H locs ∧ lv_has ls 6 [(0, .ref ti), (1, .int p0), (2, .int g_26), (3, .int (nI g_27))]) 34 ?_ _ _ _ _ ⟨g_4, 1, 0, rfl, (Nat.le_of_ble_eq_true rfl), hsp, hP, hD, hS, lv_sub hl [2, 3, 1, 0] rfl⟩
    rintro nn ih_28 H locs ls ⟨g_25, g_26, g_27, rfl, hg_27, he_31, hP, hD, hS, hl⟩
    obtain ⟨S_30, hsp, hin_32, hout_33⟩ := itr_step hlf_29 he_31
    refine lv_iload_n hx hb eX6_findsGreatest_34 rfl (lv_at hl 3 rfl) ?_
    refine lv_aload_n hx hb eX6_findsGreatest_35 rfl (lv_at hl 0 rfl) ?_
    refine va_get (D := (dC, dI)) (ci := 6) (v := .int (nI ln)) (C := RX6) (T := TX6) (N := 10) hx hb hts hiX6 hown hK hP 0 rfl rfl 1 (by decide) v_2 (fun _ h9 => h9) rfl eX6_findsGreatest_36 ?_
    refine lv_iconst (v := 1) hx hb eX6_findsGreatest_39 (by decide) ?_
    refine lv_iadd hx hb eX6_findsGreatest_40 ?_
    refine lv_topi (fun y_34 ey_34 => ?_)
    obtain rfl : y_34 = (nI (ln + 1)) := ey_34.trans (nI_add ln 1)
    refine lv_icmp_gt (tgt := 138) hx hb eX6_findsGreatest_41 (by decide) (fun c_35 => ?_) (fun c_35 => ?_)
    · have c_35 : (ln + 1) < g_27 := (nI_ltI (a := (ln + 1)) (b := g_27) (by omega) (Nat.lt_of_le_of_lt hg_27 (Nat.le_of_ble_eq_true rfl))).mp c_35
      have hsp := hsp.trans (if_pos c_35)
      have hsp := hout_33 _ hsp
      exact j_16 _ _ _ _ ⟨g_26, g_27, g_25, rfl, hg_27, hsp.symm, hP, hD, hS, lv_sub hl [0, 1, 2, 3] rfl⟩
    · have c_35 : ¬ (ln + 1) < g_27 := fun z => c_35 ((nI_ltI (a := (ln + 1)) (b := g_27) (by omega) (Nat.lt_of_le_of_lt hg_27 (Nat.le_of_ble_eq_true rfl))).mpr z)
      have hsp := hsp.trans (if_neg c_35)
      refine lv_iload_n hx hb eX6_findsGreatest_44 rfl (lv_at hl 2 rfl) ?_
      refine lv_if_eq (tgt := 138) hx hb eX6_findsGreatest_45 (by decide) (fun c_36 => ?_) (fun c_36 => ?_)
      · have hcc_36 := c_36
        have hsp := hsp.trans (if_pos c_36)
        have hsp := hout_33 _ hsp
        exact j_16 _ _ _ _ ⟨g_26, g_27, g_25, rfl, hg_27, hsp.symm, hP, hD, hS, lv_sub hl [0, 1, 2, 3] rfl⟩
      · have hcc_36 := c_36
        have hsp := hsp.trans (if_neg c_36)
        refine lv_aload_n hx hb eX6_findsGreatest_48 rfl (lv_at hl 0 rfl) ?_
        refine va_get (D := (dC, dI)) (ci := 6) (v := .ref r2) (C := RX6) (T := TX6) (N := 10) hx hb hts hiX6 hown hK hP 0 rfl rfl 2 (by decide) v_1 (fun _ h9 => h9) rfl eX6_findsGreatest_49 ?_
        refine lv_iconst (v := 0) hx hb eX6_findsGreatest_52 (by decide) ?_
        refine va_iald hx hb hK hP 2 1 rfl rfl (vp_in_nI (n := 0) (Nat.le_of_ble_eq_true rfl) (Nat.le_of_ble_eq_true rfl)) eX6_findsGreatest_53 ?_
        refine lv_topi (fun y_37 ey_37 => ?_)
        have ey_37 : y_37 = g_25 0 := ey_37.trans (congrArg g_25 (nI_clamp (n := 0) (Nat.le_of_ble_eq_true rfl)))
        have hsp := hsp.trans (slet_eq ey_37)
        refine lv_if_ne (tgt := 138) hx hb eX6_findsGreatest_54 (by decide) (fun c_38 => ?_) (fun c_38 => ?_)
        · have hcc_38 := c_38
          have hsp := hsp.trans (if_neg c_38)
          have hsp := hout_33 _ hsp
          exact j_16 _ _ _ _ ⟨g_26, g_27, g_25, rfl, hg_27, hsp.symm, hP, hD, hS, lv_sub hl [0, 1, 2, 3] rfl⟩
        · have hcc_38 := c_38
          have hsp := hsp.trans (if_pos c_38)
          refine lv_iconst (v := 0) hx hb eX6_findsGreatest_57 (by decide) ?_
          refine lv_istore_n (lv' := [(2, .int 0), (0, .ref ti), (1, .int p0), (3, .int (nI g_27))]) hx hb eX6_findsGreatest_58 rfl hl (by decide) rfl (fun ls hl => ?_)
          refine lv_iconst (v := 0) hx hb eX6_findsGreatest_59 (by decide) ?_
          refine lv_istore (lv' := [(4, .int 0), (2, .int 0), (0, .ref ti), (1, .int p0), (3, .int (nI g_27))]) hx hb eX6_findsGreatest_60 hl (by decide) rfl (fun ls hl => ?_)
          obtain ⟨lf_46, dlf_46, hlf_46, hsp⟩ := itr_ex hsp
          delta sp_E_6_findsGreatest_L1 at hlf_46
          refine pu_while (fun nn H locs ls => ∃ (g_42 : Nat → Int32) (g_43 : Int32) (g_44 : Nat), nn = 1920 - g_44 ∧ g_44 ≤ 1920 ∧ S_30 = itrv dlf_46 lf_46 (g_42, g_43, g_44) ∧ va_P (dC, dI) vwCl (ti__w ti r0 (nI ln) r2 r3 r4 r5 (nI nr) r7 r8 tz k_j0 (bN 13 q_j0) k_j2 g_42 k_j3 (bN 120 q_j3) k_j4 (bN 120 q_j4) k_j5 j5 k_j7 (bN 120 q_j7) k_j8 j8) H ∧ va_D A (ti__w ti r0 (nI ln) r2 r3 r4 r5 (nI nr) r7 r8 tz k_j0 (bN 13 q_j0) k_j2 g_42 k_j3 (bN 120 q_j3) k_j4 (bN 120 q_j4) k_j5 j5 k_j7 (bN 120 q_j7) k_j8 j8) ∧ va_S A s.heap H locs ∧ lv_has ls 6 [(0, .ref ti), (1, .int p0), (2, .int g_43), (3, .int (nI g_27)), (4, .int (nI g_44))]) 62 ?_ _ _ _ _ ⟨g_25, 0, 0, rfl, (Nat.le_of_ble_eq_true rfl), hsp, hP, hD, hS, lv_sub hl [2, 3, 1, 4, 0] rfl⟩
          rintro nn ih_45 H locs ls ⟨g_42, g_43, g_44, rfl, hg_44, he_48, hP, hD, hS, hl⟩
          obtain ⟨S_47, hsp, hin_49, hout_50⟩ := itr_step hlf_46 he_48
          refine lv_iload hx hb eX6_findsGreatest_62 (lv_at hl 4 rfl) ?_
          refine lv_aload_n hx hb eX6_findsGreatest_64 rfl (lv_at hl 0 rfl) ?_
          refine va_get (D := (dC, dI)) (ci := 6) (v := .int (nI nr)) (C := RX6) (T := TX6) (N := 10) hx hb hts hiX6 hown hK hP 0 rfl rfl 6 (by decide) v_3 (fun _ h9 => h9) rfl eX6_findsGreatest_65 ?_
          refine lv_icmp_ge (tgt := 132) hx hb eX6_findsGreatest_68 (by decide) (fun c_51 => ?_) (fun c_51 => ?_)
          · have c_51 : nr ≤ g_44 := (nI_leI (a := nr) (b := g_44) (Nat.lt_of_le_of_lt hnr (Nat.le_of_ble_eq_true rfl)) (Nat.lt_of_le_of_lt hg_44 (Nat.le_of_ble_eq_true rfl))).mp c_51
            have hsp := hsp.trans (if_pos c_51)
            have hsp := hout_50 _ hsp
            refine lv_iinc (v := (nI (g_27 + 1))) (lv' := [(3, .int (nI (g_27 + 1))), (0, .ref ti), (1, .int p0), (2, .int g_43), (4, .int (nI g_44))]) hx hb eX6_findsGreatest_132 hl (k := 3) rfl (nI_1 _) (by decide) rfl (fun ls hl => ?_)
            refine lv_goto (tgt := 34) hx hb eX6_findsGreatest_135 (by decide) ?_
            exact ih_28 (121 - (g_27 + 1)) (by omega) _ _ _ ⟨g_42, g_43, (g_27 + 1), rfl, (by omega), hin_32 _ hsp, hP, hD, hS, lv_sub hl [1, 2, 3, 0] rfl⟩
          · have c_51 : ¬ nr ≤ g_44 := fun z => c_51 ((nI_leI (a := nr) (b := g_44) (Nat.lt_of_le_of_lt hnr (Nat.le_of_ble_eq_true rfl)) (Nat.lt_of_le_of_lt hg_44 (Nat.le_of_ble_eq_true rfl))).mpr z)
            have hsp := hsp.trans (if_neg c_51)
            refine lv_aload_n hx hb eX6_findsGreatest_71 rfl (lv_at hl 0 rfl) ?_
            refine va_get (D := (dC, dI)) (ci := 6) (v := .ref r2) (C := RX6) (T := TX6) (N := 10) hx hb hts hiX6 hown hK hP 0 rfl rfl 2 (by decide) v_1 (fun _ h9 => h9) rfl eX6_findsGreatest_72 ?_
            refine lv_aload_n hx hb eX6_findsGreatest_75 rfl (lv_at hl 0 rfl) ?_
            refine va_get (D := (dC, dI)) (ci := 6) (v := .ref r3) (C := RX6) (T := TX6) (N := 10) hx hb hts hiX6 hown hK hP 0 rfl rfl 3 (by decide) v_4 (fun _ h9 => h9) rfl eX6_findsGreatest_76 ?_
            refine lv_iload hx hb eX6_findsGreatest_79 (lv_at hl 4 rfl) ?_
            refine va_iald hx hb hK hP 3 2 rfl rfl (vp_in_nI (n := g_44) (by omega) (Nat.le_of_ble_eq_true rfl)) eX6_findsGreatest_81 ?_
            refine lv_topi (fun y_52 ey_52 => ?_)
            obtain ⟨u_53, hu_53, qu_53, xu_53⟩ := bN_getx 120 q_j3 (n := g_44) (Nat.lt_of_le_of_lt hg_44 (Nat.le_of_ble_eq_true rfl))
            obtain rfl : y_52 = nI u_53 := ey_52.trans qu_53
            have hsp := hsp.trans (slet_eq xu_53)
            refine va_iald hx hb hK hP 2 1 rfl rfl (vp_in_nI (n := u_53) (Nat.lt_of_le_of_lt hu_53 (Nat.le_of_ble_eq_true rfl)) (Nat.le_of_ble_eq_true rfl)) eX6_findsGreatest_82 ?_
            refine lv_topi (fun y_54 ey_54 => ?_)
            have ey_54 : y_54 = g_42 u_53 := ey_54.trans (congrArg g_42 (nI_clamp (n := u_53) (Nat.lt_of_le_of_lt hu_53 (Nat.le_of_ble_eq_true rfl))))
            have hsp := hsp.trans (slet_eq ey_54)
            refine lv_aload_n hx hb eX6_findsGreatest_83 rfl (lv_at hl 0 rfl) ?_
            refine va_get (D := (dC, dI)) (ci := 6) (v := .ref r5) (C := RX6) (T := TX6) (N := 10) hx hb hts hiX6 hown hK hP 0 rfl rfl 5 (by decide) v_5 (fun _ h9 => h9) rfl eX6_findsGreatest_84 ?_
            refine lv_iload hx hb eX6_findsGreatest_87 (lv_at hl 4 rfl) ?_
            refine va_iald hx hb hK hP 5 4 rfl rfl (vp_in_nI (n := g_44) (by omega) (Nat.le_of_ble_eq_true rfl)) eX6_findsGreatest_89 ?_
            refine lv_topi (fun y_55 ey_55 => ?_)
            have ey_55 : y_55 = j5 g_44 := ey_55.trans (congrArg j5 (nI_clamp (n := g_44) (Nat.lt_of_le_of_lt hg_44 (Nat.le_of_ble_eq_true rfl))))
            have hsp := hsp.trans (slet_eq ey_55)
            refine lv_isub hx hb eX6_findsGreatest_90 ?_
            refine lv_topi (fun y_56 ey_56 => ?_)
            have hsp := hsp.trans (slet_eq ey_56)
            refine lv_istore (lv' := [(5, .int y_56), (0, .ref ti), (1, .int p0), (2, .int g_43), (3, .int (nI g_27)), (4, .int (nI g_44))]) hx hb eX6_findsGreatest_91 hl (by decide) rfl (fun ls hl => ?_)
            refine lv_iload hx hb eX6_findsGreatest_93 (lv_at hl 0 rfl) ?_
            refine lv_aload_n hx hb eX6_findsGreatest_95 rfl (lv_at hl 1 rfl) ?_
            refine va_get (D := (dC, dI)) (ci := 6) (v := .ref r2) (C := RX6) (T := TX6) (N := 10) hx hb hts hiX6 hown hK hP 0 rfl rfl 2 (by decide) v_1 (fun _ h9 => h9) rfl eX6_findsGreatest_96 ?_
            refine lv_aload_n hx hb eX6_findsGreatest_99 rfl (lv_at hl 1 rfl) ?_
            refine va_get (D := (dC, dI)) (ci := 6) (v := .ref r4) (C := RX6) (T := TX6) (N := 10) hx hb hts hiX6 hown hK hP 0 rfl rfl 4 (by decide) v_6 (fun _ h9 => h9) rfl eX6_findsGreatest_100 ?_
            refine lv_iload hx hb eX6_findsGreatest_103 (lv_at hl 5 rfl) ?_
            refine va_iald hx hb hK hP 4 3 rfl rfl (vp_in_nI (n := g_44) (by omega) (Nat.le_of_ble_eq_true rfl)) eX6_findsGreatest_105 ?_
            refine lv_topi (fun y_57 ey_57 => ?_)
            obtain ⟨u_58, hu_58, qu_58, xu_58⟩ := bN_getx 120 q_j4 (n := g_44) (Nat.lt_of_le_of_lt hg_44 (Nat.le_of_ble_eq_true rfl))
            obtain rfl : y_57 = nI u_58 := ey_57.trans qu_58
            have hsp := hsp.trans (slet_eq xu_58)
            refine va_iald hx hb hK hP 2 1 rfl rfl (vp_in_nI (n := u_58) (Nat.lt_of_le_of_lt hu_58 (Nat.le_of_ble_eq_true rfl)) (Nat.le_of_ble_eq_true rfl)) eX6_findsGreatest_106 ?_
            refine lv_topi (fun y_59 ey_59 => ?_)
            have ey_59 : y_59 = g_42 u_58 := ey_59.trans (congrArg g_42 (nI_clamp (n := u_58) (Nat.lt_of_le_of_lt hu_58 (Nat.le_of_ble_eq_true rfl))))
            have hsp := hsp.trans (slet_eq ey_59)
            obtain ⟨JR_63, hJR_63, hsp⟩ := slet_ex hsp
            refine pu_join (fun H locs ls st => ∃ (g_60 : Int32) (g_61 : Nat → Int32), st = [] ∧ (g_60, g_61) = JR_63 ∧ va_P (dC, dI) vwCl (ti__w ti r0 (nI ln) r2 r3 r4 r5 (nI nr) r7 r8 tz k_j0 (bN 13 q_j0) k_j2 g_61 k_j3 (bN 120 q_j3) k_j4 (bN 120 q_j4) k_j5 j5 k_j7 (bN 120 q_j7) k_j8 j8) H ∧ va_D A (ti__w ti r0 (nI ln) r2 r3 r4 r5 (nI nr) r7 r8 tz k_j0 (bN 13 q_j0) k_j2 g_61 k_j3 (bN 120 q_j3) k_j4 (bN 120 q_j4) k_j5 j5 k_j7 (bN 120 q_j7) k_j8 j8) ∧ va_S A s.heap H locs ∧ lv_has ls 6 [(0, .ref ti), (1, .int p0), (2, .int g_60), (3, .int (nI g_27)), (4, .int (nI g_44)), (5, .int y_56)]) 126 ?_ (fun j_62 => ?_)
            · rintro H locs ls st ⟨g_60, g_61, rfl, he_64, hP, hD, hS, hl⟩
              rw [← he_64] at hsp
              refine lv_iinc (v := (nI (g_44 + 1))) (lv' := [(4, .int (nI (g_44 + 1))), (0, .ref ti), (1, .int p0), (2, .int g_60), (3, .int (nI g_27)), (5, .int y_56)]) hx hb eX6_findsGreatest_126 hl (k := 4) rfl (nI_1 _) (by decide) rfl (fun ls hl => ?_)
              refine lv_goto (tgt := 62) hx hb eX6_findsGreatest_129 (by decide) ?_
              exact ih_45 (1920 - (g_44 + 1)) (by omega) _ _ _ ⟨g_61, g_60, (g_44 + 1), rfl, (by omega), hin_49 _ hsp, hP, hD, hS, lv_sub hl [1, 2, 3, 4, 0] rfl⟩
            have hsp := hJR_63
            refine lv_icmp_ge (tgt := 126) hx hb eX6_findsGreatest_107 (by decide) (fun c_65 => ?_) (fun c_65 => ?_)
            · have hcc_65 := c_65
              have hsp := hsp.trans (if_pos c_65)
              exact j_62 _ _ _ _ ⟨g_43, g_42, rfl, hsp.symm, hP, hD, hS, lv_sub hl [1, 2, 3, 4, 5, 0] rfl⟩
            · have hcc_65 := c_65
              have hsp := hsp.trans (if_neg c_65)
              refine lv_aload_n hx hb eX6_findsGreatest_110 rfl (lv_at hl 1 rfl) ?_
              refine va_get (D := (dC, dI)) (ci := 6) (v := .ref r2) (C := RX6) (T := TX6) (N := 10) hx hb hts hiX6 hown hK hP 0 rfl rfl 2 (by decide) v_1 (fun _ h9 => h9) rfl eX6_findsGreatest_111 ?_
              refine lv_aload_n hx hb eX6_findsGreatest_114 rfl (lv_at hl 1 rfl) ?_
              refine va_get (D := (dC, dI)) (ci := 6) (v := .ref r4) (C := RX6) (T := TX6) (N := 10) hx hb hts hiX6 hown hK hP 0 rfl rfl 4 (by decide) v_6 (fun _ h9 => h9) rfl eX6_findsGreatest_115 ?_
              refine lv_iload hx hb eX6_findsGreatest_118 (lv_at hl 5 rfl) ?_
              refine va_iald hx hb hK hP 4 3 rfl rfl (vp_in_nI (n := g_44) (by omega) (Nat.le_of_ble_eq_true rfl)) eX6_findsGreatest_120 ?_
              refine lv_topi (fun y_66 ey_66 => ?_)
              obtain rfl : y_66 = nI u_58 := ey_66.trans qu_58
              refine lv_iload hx hb eX6_findsGreatest_121 (lv_at hl 0 rfl) ?_
              refine va_iast hx hb hK hP hD hS 2 1 rfl rfl (vp_in_nI (n := u_58) (Nat.lt_of_le_of_lt hu_58 (Nat.le_of_ble_eq_true rfl)) (Nat.le_of_ble_eq_true rfl)) eX6_findsGreatest_123 (fun H locs hP hD hS => ?_)
              obtain ⟨f_68, ef_68, xf_68⟩ := up_x g_42 (n := u_58) y_56 (Nat.lt_of_le_of_lt hu_58 (Nat.le_of_ble_eq_true rfl))
              have hP : va_P (dC, dI) vwCl (ti__w ti r0 (nI ln) r2 r3 r4 r5 (nI nr) r7 r8 tz k_j0 (bN 13 q_j0) k_j2 f_68 k_j3 (bN 120 q_j3) k_j4 (bN 120 q_j4) k_j5 j5 k_j7 (bN 120 q_j7) k_j8 j8) H := by rw [← ef_68]; exact hP
              have hD : va_D A (ti__w ti r0 (nI ln) r2 r3 r4 r5 (nI nr) r7 r8 tz k_j0 (bN 13 q_j0) k_j2 f_68 k_j3 (bN 120 q_j3) k_j4 (bN 120 q_j4) k_j5 j5 k_j7 (bN 120 q_j7) k_j8 j8) := by rw [← ef_68]; exact hD
              have hsp := hsp.trans (slet_eq xf_68)
              refine lv_iconst (v := 1) hx hb eX6_findsGreatest_124 (by decide) ?_
              refine lv_istore_n (lv' := [(2, .int 1), (5, .int y_56), (0, .ref ti), (1, .int p0), (3, .int (nI g_27)), (4, .int (nI g_44))]) hx hb eX6_findsGreatest_125 rfl hl (by decide) rfl (fun ls hl => ?_)
              exact j_62 _ _ _ _ ⟨1, f_68, rfl, hsp.symm, hP, hD, hS, lv_sub hl [2, 3, 0, 4, 5, 1] rfl⟩
  · have c_12 : ¬ ln < g_5 := fun z => c_12 ((nI_ltI (a := ln) (b := g_5) (Nat.lt_of_le_of_lt hln (Nat.le_of_ble_eq_true rfl)) (Nat.lt_of_le_of_lt hg_5.2 (Nat.le_of_ble_eq_true rfl))).mpr z)
    have hsp := hsp.trans (if_neg c_12)
    refine lv_aload_n hx hb eX6_findsGreatest_17 rfl (lv_at hl 0 rfl) ?_
    refine va_get (D := (dC, dI)) (ci := 6) (v := .ref r2) (C := RX6) (T := TX6) (N := 10) hx hb hts hiX6 hown hK hP 0 rfl rfl 2 (by decide) v_1 (fun _ h9 => h9) rfl eX6_findsGreatest_18 ?_
    refine lv_iload_n hx hb eX6_findsGreatest_21 rfl (lv_at hl 2 rfl) ?_
    refine lv_iload_n hx hb eX6_findsGreatest_22 rfl (lv_at hl 1 rfl) ?_
    refine va_iast hx hb hK hP hD hS 2 1 rfl rfl (vp_in_nI (n := g_5) (Nat.lt_of_le_of_lt hg_5.2 (Nat.le_of_ble_eq_true rfl)) (Nat.le_of_ble_eq_true rfl)) eX6_findsGreatest_23 (fun H locs hP hD hS => ?_)
    obtain ⟨f_69, ef_69, xf_69⟩ := up_x g_4 (n := g_5) p0 (Nat.lt_of_le_of_lt hg_5.2 (Nat.le_of_ble_eq_true rfl))
    have hP : va_P (dC, dI) vwCl (ti__w ti r0 (nI ln) r2 r3 r4 r5 (nI nr) r7 r8 tz k_j0 (bN 13 q_j0) k_j2 f_69 k_j3 (bN 120 q_j3) k_j4 (bN 120 q_j4) k_j5 j5 k_j7 (bN 120 q_j7) k_j8 j8) H := by rw [← ef_69]; exact hP
    have hD : va_D A (ti__w ti r0 (nI ln) r2 r3 r4 r5 (nI nr) r7 r8 tz k_j0 (bN 13 q_j0) k_j2 f_69 k_j3 (bN 120 q_j3) k_j4 (bN 120 q_j4) k_j5 j5 k_j7 (bN 120 q_j7) k_j8 j8) := by rw [← ef_69]; exact hD
    have hsp := hsp.trans (slet_eq xf_69)
    refine lv_iinc (v := (nI (g_5 + 1))) (lv' := [(2, .int (nI (g_5 + 1))), (0, .ref ti), (1, .int p0)]) hx hb eX6_findsGreatest_24 hl (k := 2) rfl (nI_1 _) (by decide) rfl (fun ls hl => ?_)
    refine lv_goto (tgt := 9) hx hb eX6_findsGreatest_27 (by decide) ?_
    exact ih_6 (120 - (g_5 + 1)) (by omega) _ _ _ ⟨f_69, (g_5 + 1), rfl, ⟨by omega, by omega⟩, hin_10 _ hsp, hP, hD, hS, lv_sub hl [1, 2, 0] rfl⟩
