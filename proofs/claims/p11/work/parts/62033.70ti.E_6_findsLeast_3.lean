theorem eX6_findsLeast_0 : decode cX6_findsLeast 0 = .ok (.iconst 0, 1) := by decide +kernel
theorem eX6_findsLeast_1 : decode cX6_findsLeast 1 = .ok (.istore_n 1, 1) := by decide +kernel
theorem eX6_findsLeast_2 : decode cX6_findsLeast 2 = .ok (.iload_n 1, 1) := by decide +kernel
theorem eX6_findsLeast_3 : decode cX6_findsLeast 3 = .ok (.aload_n 0, 1) := by decide +kernel
theorem eX6_findsLeast_4 : decode cX6_findsLeast 4 = .ok (.getfield 47, 3) := by decide +kernel
theorem eX6_findsLeast_7 : decode cX6_findsLeast 7 = .ok (.if_icmp .gt 16, 3) := by decide +kernel
theorem eX6_findsLeast_10 : decode cX6_findsLeast 10 = .ok (.aload_n 0, 1) := by decide +kernel
theorem eX6_findsLeast_11 : decode cX6_findsLeast 11 = .ok (.getfield 15, 3) := by decide +kernel
theorem eX6_findsLeast_14 : decode cX6_findsLeast 14 = .ok (.iload_n 1, 1) := by decide +kernel
theorem eX6_findsLeast_15 : decode cX6_findsLeast 15 = .ok (.iconst 0, 1) := by decide +kernel
theorem eX6_findsLeast_16 : decode cX6_findsLeast 16 = .ok (.iastore, 1) := by decide +kernel
theorem eX6_findsLeast_17 : decode cX6_findsLeast 17 = .ok (.iinc 1 1, 3) := by decide +kernel
theorem eX6_findsLeast_20 : decode cX6_findsLeast 20 = .ok (.goto (-18), 3) := by decide +kernel
theorem eX6_findsLeast_23 : decode cX6_findsLeast 23 = .ok (.iconst 1, 1) := by decide +kernel
theorem eX6_findsLeast_24 : decode cX6_findsLeast 24 = .ok (.istore_n 1, 1) := by decide +kernel
theorem eX6_findsLeast_25 : decode cX6_findsLeast 25 = .ok (.iconst 0, 1) := by decide +kernel
theorem eX6_findsLeast_26 : decode cX6_findsLeast 26 = .ok (.istore_n 2, 1) := by decide +kernel
theorem eX6_findsLeast_27 : decode cX6_findsLeast 27 = .ok (.iload_n 2, 1) := by decide +kernel
theorem eX6_findsLeast_28 : decode cX6_findsLeast 28 = .ok (.aload_n 0, 1) := by decide +kernel
theorem eX6_findsLeast_29 : decode cX6_findsLeast 29 = .ok (.getfield 47, 3) := by decide +kernel
theorem eX6_findsLeast_32 : decode cX6_findsLeast 32 = .ok (.iconst 1, 1) := by decide +kernel
theorem eX6_findsLeast_33 : decode cX6_findsLeast 33 = .ok (.iadd, 1) := by decide +kernel
theorem eX6_findsLeast_34 : decode cX6_findsLeast 34 = .ok (.if_icmp .gt 91, 3) := by decide +kernel
theorem eX6_findsLeast_37 : decode cX6_findsLeast 37 = .ok (.iload_n 1, 1) := by decide +kernel
theorem eX6_findsLeast_38 : decode cX6_findsLeast 38 = .ok (.ifCond .eq 87, 3) := by decide +kernel
theorem eX6_findsLeast_41 : decode cX6_findsLeast 41 = .ok (.aload_n 0, 1) := by decide +kernel
theorem eX6_findsLeast_42 : decode cX6_findsLeast 42 = .ok (.getfield 15, 3) := by decide +kernel
theorem eX6_findsLeast_45 : decode cX6_findsLeast 45 = .ok (.iconst 0, 1) := by decide +kernel
theorem eX6_findsLeast_46 : decode cX6_findsLeast 46 = .ok (.iaload, 1) := by decide +kernel
theorem eX6_findsLeast_47 : decode cX6_findsLeast 47 = .ok (.ifCond .ne 78, 3) := by decide +kernel
theorem eX6_findsLeast_50 : decode cX6_findsLeast 50 = .ok (.iconst 0, 1) := by decide +kernel
theorem eX6_findsLeast_51 : decode cX6_findsLeast 51 = .ok (.istore_n 1, 1) := by decide +kernel
theorem eX6_findsLeast_52 : decode cX6_findsLeast 52 = .ok (.iconst 0, 1) := by decide +kernel
theorem eX6_findsLeast_53 : decode cX6_findsLeast 53 = .ok (.istore_n 3, 1) := by decide +kernel
theorem eX6_findsLeast_54 : decode cX6_findsLeast 54 = .ok (.iload_n 3, 1) := by decide +kernel
theorem eX6_findsLeast_55 : decode cX6_findsLeast 55 = .ok (.aload_n 0, 1) := by decide +kernel
theorem eX6_findsLeast_56 : decode cX6_findsLeast 56 = .ok (.getfield 57, 3) := by decide +kernel
theorem eX6_findsLeast_59 : decode cX6_findsLeast 59 = .ok (.if_icmp .ge 60, 3) := by decide +kernel
theorem eX6_findsLeast_62 : decode cX6_findsLeast 62 = .ok (.aload_n 0, 1) := by decide +kernel
theorem eX6_findsLeast_63 : decode cX6_findsLeast 63 = .ok (.getfield 15, 3) := by decide +kernel
theorem eX6_findsLeast_66 : decode cX6_findsLeast 66 = .ok (.aload_n 0, 1) := by decide +kernel
theorem eX6_findsLeast_67 : decode cX6_findsLeast 67 = .ok (.getfield 21, 3) := by decide +kernel
theorem eX6_findsLeast_70 : decode cX6_findsLeast 70 = .ok (.iload_n 3, 1) := by decide +kernel
theorem eX6_findsLeast_71 : decode cX6_findsLeast 71 = .ok (.iaload, 1) := by decide +kernel
theorem eX6_findsLeast_72 : decode cX6_findsLeast 72 = .ok (.iaload, 1) := by decide +kernel
theorem eX6_findsLeast_73 : decode cX6_findsLeast 73 = .ok (.aload_n 0, 1) := by decide +kernel
theorem eX6_findsLeast_74 : decode cX6_findsLeast 74 = .ok (.getfield 24, 3) := by decide +kernel
theorem eX6_findsLeast_77 : decode cX6_findsLeast 77 = .ok (.iload_n 3, 1) := by decide +kernel
theorem eX6_findsLeast_78 : decode cX6_findsLeast 78 = .ok (.iaload, 1) := by decide +kernel
theorem eX6_findsLeast_79 : decode cX6_findsLeast 79 = .ok (.iadd, 1) := by decide +kernel
theorem eX6_findsLeast_80 : decode cX6_findsLeast 80 = .ok (.istore 4, 2) := by decide +kernel
theorem eX6_findsLeast_82 : decode cX6_findsLeast 82 = .ok (.iload 4, 2) := by decide +kernel
theorem eX6_findsLeast_84 : decode cX6_findsLeast 84 = .ok (.aload_n 0, 1) := by decide +kernel
theorem eX6_findsLeast_85 : decode cX6_findsLeast 85 = .ok (.getfield 15, 3) := by decide +kernel
theorem eX6_findsLeast_88 : decode cX6_findsLeast 88 = .ok (.aload_n 0, 1) := by decide +kernel
theorem eX6_findsLeast_89 : decode cX6_findsLeast 89 = .ok (.getfield 18, 3) := by decide +kernel
theorem eX6_findsLeast_92 : decode cX6_findsLeast 92 = .ok (.iload_n 3, 1) := by decide +kernel
theorem eX6_findsLeast_93 : decode cX6_findsLeast 93 = .ok (.iaload, 1) := by decide +kernel
theorem eX6_findsLeast_94 : decode cX6_findsLeast 94 = .ok (.iaload, 1) := by decide +kernel
theorem eX6_findsLeast_95 : decode cX6_findsLeast 95 = .ok (.if_icmp .le 18, 3) := by decide +kernel
theorem eX6_findsLeast_98 : decode cX6_findsLeast 98 = .ok (.aload_n 0, 1) := by decide +kernel
theorem eX6_findsLeast_99 : decode cX6_findsLeast 99 = .ok (.getfield 15, 3) := by decide +kernel
theorem eX6_findsLeast_102 : decode cX6_findsLeast 102 = .ok (.aload_n 0, 1) := by decide +kernel
theorem eX6_findsLeast_103 : decode cX6_findsLeast 103 = .ok (.getfield 18, 3) := by decide +kernel
theorem eX6_findsLeast_106 : decode cX6_findsLeast 106 = .ok (.iload_n 3, 1) := by decide +kernel
theorem eX6_findsLeast_107 : decode cX6_findsLeast 107 = .ok (.iaload, 1) := by decide +kernel
theorem eX6_findsLeast_108 : decode cX6_findsLeast 108 = .ok (.iload 4, 2) := by decide +kernel
theorem eX6_findsLeast_110 : decode cX6_findsLeast 110 = .ok (.iastore, 1) := by decide +kernel
theorem eX6_findsLeast_111 : decode cX6_findsLeast 111 = .ok (.iconst 1, 1) := by decide +kernel
theorem eX6_findsLeast_112 : decode cX6_findsLeast 112 = .ok (.istore_n 1, 1) := by decide +kernel
theorem eX6_findsLeast_113 : decode cX6_findsLeast 113 = .ok (.iinc 3 1, 3) := by decide +kernel
theorem eX6_findsLeast_116 : decode cX6_findsLeast 116 = .ok (.goto (-62), 3) := by decide +kernel
theorem eX6_findsLeast_119 : decode cX6_findsLeast 119 = .ok (.iinc 2 1, 3) := by decide +kernel
theorem eX6_findsLeast_122 : decode cX6_findsLeast 122 = .ok (.goto (-95), 3) := by decide +kernel
theorem eX6_findsLeast_125 : decode cX6_findsLeast 125 = .ok (.iload_n 1, 1) := by decide +kernel
theorem eX6_findsLeast_126 : decode cX6_findsLeast 126 = .ok (.ifCond .ne 16, 3) := by decide +kernel
theorem eX6_findsLeast_129 : decode cX6_findsLeast 129 = .ok (.aload_n 0, 1) := by decide +kernel
theorem eX6_findsLeast_130 : decode cX6_findsLeast 130 = .ok (.getfield 15, 3) := by decide +kernel
theorem eX6_findsLeast_133 : decode cX6_findsLeast 133 = .ok (.iconst 0, 1) := by decide +kernel
theorem eX6_findsLeast_134 : decode cX6_findsLeast 134 = .ok (.iaload, 1) := by decide +kernel
theorem eX6_findsLeast_135 : decode cX6_findsLeast 135 = .ok (.ifCond .ne 7, 3) := by decide +kernel
theorem eX6_findsLeast_138 : decode cX6_findsLeast 138 = .ok (.iconst 1, 1) := by decide +kernel
theorem eX6_findsLeast_139 : decode cX6_findsLeast 139 = .ok (.goto 4, 3) := by decide +kernel
theorem eX6_findsLeast_142 : decode cX6_findsLeast 142 = .ok (.iconst 0, 1) := by decide +kernel
theorem eX6_findsLeast_143 : decode cX6_findsLeast 143 = .ok (.ireturn, 1) := by decide +kernel
abbrev vs_E_6_findsLeast : List Cond := .code yX6_findsLeast cX6_findsLeast 5 (some .boolean) :: CM
noncomputable def sp_E_6_findsLeast_L1 (nr : Nat) (q_j3 : Nat → Nat) (q_j4 : Nat → Nat) (j5 : Nat → Int32) (g_26 : Nat) : ((Nat → Int32) × Int32 × Nat) → ((Nat → Int32) × Int32 × Nat) ⊕ (((Nat → Int32) × Int32 × Nat) ⊕ (Int32 × Nat × (Nat → Int32))) := fun (g_41, g_42, g_43) => (if nr ≤ g_43 then (Sum.inr (Sum.inl (g_41, g_42, (g_26 + 1)))) else (slet (min (q_j4 g_43) 120) (fun u_52 => (slet (g_41 u_52) (fun y_53 => (slet (j5 g_43) (fun y_54 => (slet ((y_53 : Int32) + y_54) (fun y_55 => (slet (min (q_j3 g_43) 120) (fun u_57 => (slet (g_41 u_57) (fun y_58 => (slet (α := Int32 × (Nat → Int32)) (if (y_55 : Int32) ≤ y_58 then (g_42, g_41) else (slet (upd g_41 u_57 y_55) (fun f_67 => (1, f_67)))) (fun (g_59, g_60) => (Sum.inl (g_60, g_59, (g_43 + 1))))))))))))))))))
noncomputable def sp_E_6_findsLeast_L2 (ln : Nat) (nr : Nat) (q_j3 : Nat → Nat) (q_j4 : Nat → Nat) (j5 : Nat → Int32) : ((Nat → Int32) × Int32 × Nat) → ((Nat → Int32) × Int32 × Nat) ⊕ (Int32 × Nat × (Nat → Int32)) := fun (g_24, g_25, g_26) => (if (ln + 1) < g_26 then (Sum.inr (g_25, g_26, g_24)) else (if (g_25 : Int32) = 0 then (Sum.inr (g_25, g_26, g_24)) else (slet (g_24 0) (fun y_36 => (if (y_36 : Int32) = 0 then (itrv (α := (Nat → Int32) × Int32 × Nat) (β := (((Nat → Int32) × Int32 × Nat) ⊕ (Int32 × Nat × (Nat → Int32)))) (Sum.inr default) (sp_E_6_findsLeast_L1 nr q_j3 q_j4 j5 g_26) (g_24, 0, 0)) else (Sum.inr (g_25, g_26, g_24)))))))
noncomputable def sp_E_6_findsLeast_L3 (ln : Nat) (nr : Nat) (q_j3 : Nat → Nat) (q_j4 : Nat → Nat) (j5 : Nat → Int32) : ((Nat → Int32) × Nat) → ((Nat → Int32) × Nat) ⊕ (Nat × (Nat → Int32)) := fun (g_3, g_4) => (if ln < g_4 then (Sum.inr (slet (α := Int32 × Nat × (Nat → Int32)) (itrv (α := (Nat → Int32) × Int32 × Nat) (β := (Int32 × Nat × (Nat → Int32))) default (sp_E_6_findsLeast_L2 ln nr q_j3 q_j4 j5) (g_3, 1, 0)) (fun (g_12, g_13, g_14) => (if (g_12 : Int32) = 0 then (slet (g_14 0) (fun y_19 => (if (y_19 : Int32) = 0 then (1, g_14) else (0, g_14)))) else (0, g_14))))) else (slet (upd g_3 g_4 0) (fun f_68 => (Sum.inl (f_68, (g_4 + 1))))))
noncomputable def sp_E_6_findsLeast (ln : Nat) (nr : Nat) (j2 : Nat → Int32) (q_j3 : Nat → Nat) (q_j4 : Nat → Nat) (j5 : Nat → Int32) : Nat × (Nat → Int32) := (itrv (α := (Nat → Int32) × Nat) (β := (Nat × (Nat → Int32))) default (sp_E_6_findsLeast_L3 ln nr q_j3 q_j4 j5) (j2, 0))
set_option maxHeartbeats 4000000 in
set_option maxRecDepth 100000 in
theorem c_E_6_findsLeast (l : Launch) (dC : Nat → ClassId) (dI : Nat → Nat → Nat) (sz : Nat) (ti : Nat) (r0 : Nat) (ln : Nat) (r2 : Nat) (r3 : Nat) (r4 : Nat) (r5 : Nat) (nr : Nat) (r7 : Nat) (r8 : Nat) (tz : Nat) (k_j0 : ClassId) (q_j0 : Nat → Nat) (k_j2 : ClassId) (j2 : Nat → Int32) (k_j3 : ClassId) (q_j3 : Nat → Nat) (k_j4 : ClassId) (q_j4 : Nat → Nat) (k_j5 : ClassId) (j5 : Nat → Int32) (k_j7 : ClassId) (q_j7 : Nat → Nat) (k_j8 : ClassId) (j8 : Nat → Int32) (hln : ln ≤ 119) (hnr : nr ≤ 1920) : Met l yX6_findsLeast vs_E_6_findsLeast ({ frames := 0, cells := 0, slots := 0, locals := 0 }) (va_Pc [.ref ti] (pu_B (dC, dI) (ti__w ti r0 (nI ln) r2 r3 r4 r5 (nI nr) r7 r8 tz k_j0 (bN 13 q_j0) k_j2 j2 k_j3 (bN 120 q_j3) k_j4 (bN 120 q_j4) k_j5 j5 k_j7 (bN 120 q_j7) k_j8 j8) (ti__t k_j0 k_j2 k_j3 k_j4 k_j5 k_j7 k_j8) sz)) (va_Qi (fun (r : Int32) (_ : Unit) => ∃ v : Nat, v ≤ 1 ∧ r = nI v ∧ v = (sp_E_6_findsLeast ln nr j2 q_j3 q_j4 j5).1) (fun _ t => ∃ (z_j2 : Nat → Int32), pu_E (dC, dI) (ti__w ti r0 (nI ln) r2 r3 r4 r5 (nI nr) r7 r8 tz k_j0 (bN 13 q_j0) k_j2 z_j2 k_j3 (bN 120 q_j3) k_j4 (bN 120 q_j4) k_j5 j5 k_j7 (bN 120 q_j7) k_j8 j8) (ti__t k_j0 k_j2 k_j3 k_j4 k_j5 k_j7 k_j8) (va_A ((ti__w ti r0 (nI ln) r2 r3 r4 r5 (nI nr) r7 r8 tz k_j0 (bN 13 q_j0) k_j2 j2 k_j3 (bN 120 q_j3) k_j4 (bN 120 q_j4) k_j5 j5 k_j7 (bN 120 q_j7) k_j8 j8)) sz) t ∧ (z_j2 = (sp_E_6_findsLeast ln nr j2 q_j3 q_j4 j5).2)) (va_A ((ti__w ti r0 (nI ln) r2 r3 r4 r5 (nI nr) r7 r8 tz k_j0 (bN 13 q_j0) k_j2 j2 k_j3 (bN 120 q_j3) k_j4 (bN 120 q_j4) k_j5 j5 k_j7 (bN 120 q_j7) k_j8 j8)) sz)) 0 0 (va_A ((ti__w ti r0 (nI ln) r2 r3 r4 r5 (nI nr) r7 r8 tz k_j0 (bN 13 q_j0) k_j2 j2 k_j3 (bN 120 q_j3) k_j4 (bN 120 q_j4) k_j5 j5 k_j7 (bN 120 q_j7) k_j8 j8)) sz) := by
  refine Met.ofW (cc := cX6_findsLeast) (maxL := 5) (ret := (some .boolean)) (by decide) rfl ?_
  intro p e s m args below meth c s₁ B hml hv
  obtain ⟨rfl, rfl, hP, hK, hD0⟩ := hv
  have hx := B.exec
  have hb := B.bytes
  have hr := B.returns
  have hts := atoms_spec (ws := vs_E_6_findsLeast) B.pre
  have v_1 := hts (.fieldLink RX6 47 "ClockReach$Timing" "length" "I") (List.mem_cons_of_mem _ cm_366)
  have v_2 := hts (.fieldLink RX6 15 "ClockReach$Timing" "at" "[I") (List.mem_cons_of_mem _ cm_400)
  have v_3 := hts (.fieldLink RX6 57 "ClockReach$Timing" "rules" "I") (List.mem_cons_of_mem _ cm_371)
  have v_4 := hts (.fieldLink RX6 21 "ClockReach$Timing" "earliers" "[I") (List.mem_cons_of_mem _ cm_397)
  have v_5 := hts (.fieldLink RX6 24 "ClockReach$Timing" "gaps" "[I") (List.mem_cons_of_mem _ cm_398)
  have v_6 := hts (.fieldLink RX6 18 "ClockReach$Timing" "laters" "[I") (List.mem_cons_of_mem _ cm_396)
  have hown : s.vm.findClass RX6 = some m.cls := findClass_of_methodNamed B.named
  have hlocks := B.notSynchronized
  have hiX6 : ∀ w ∈ wsX60, w ∈ vs_E_6_findsLeast := fun _ h => List.mem_cons_of_mem _ (cm_X6 h)
  have hD := hD0.self (sz := s.heap.size)
  generalize hAe : va_A ((ti__w ti r0 (nI ln) r2 r3 r4 r5 (nI nr) r7 r8 tz k_j0 (bN 13 q_j0) k_j2 j2 k_j3 (bN 120 q_j3) k_j4 (bN 120 q_j4) k_j5 j5 k_j7 (bN 120 q_j7) k_j8 j8)) s.heap.size = A at hD ⊢
  have hA : ∀ q : Nat, s.heap.size ≤ q → A q := fun q h => by rw [← hAe]; exact Or.inr h
  have hS : va_S A s.heap s.heap [] := va_S.rf
  have hl := lv_entry ([.ref ti]) (n := 5) (Nat.le_of_ble_eq_true rfl)
  rw [lg_entry_eq]
  generalize (lg_sl ([.ref ti]) ++ List.replicate (5 - (lg_sl ([.ref ti])).length) Slot.unset).toArray = ls at hl ⊢
  have hl : lv_has ls 5 [(0, .ref ti)] := hl
  obtain ⟨RR, hRR⟩ : ∃ x, x = (sp_E_6_findsLeast ln nr j2 q_j3 q_j4 j5) := ⟨_, rfl⟩
  have hsp := hRR
  refine lv_iconst (v := 0) hx hb eX6_findsLeast_0 (by decide) ?_
  refine lv_istore_n (lv' := [(1, .int 0), (0, .ref ti)]) hx hb eX6_findsLeast_1 rfl hl (by decide) rfl (fun ls hl => ?_)
  obtain ⟨lf_6, dlf_6, hlf_6, hsp⟩ := itr_ex hsp
  delta sp_E_6_findsLeast_L3 at hlf_6
  refine pu_while (fun nn H locs ls => ∃ (g_3 : Nat → Int32) (g_4 : Nat), nn = 120 - g_4 ∧ g_4 ≤ 120 ∧ RR = itrv dlf_6 lf_6 (g_3, g_4) ∧ va_P (dC, dI) vwCl (ti__w ti r0 (nI ln) r2 r3 r4 r5 (nI nr) r7 r8 tz k_j0 (bN 13 q_j0) k_j2 g_3 k_j3 (bN 120 q_j3) k_j4 (bN 120 q_j4) k_j5 j5 k_j7 (bN 120 q_j7) k_j8 j8) H ∧ va_D A (ti__w ti r0 (nI ln) r2 r3 r4 r5 (nI nr) r7 r8 tz k_j0 (bN 13 q_j0) k_j2 g_3 k_j3 (bN 120 q_j3) k_j4 (bN 120 q_j4) k_j5 j5 k_j7 (bN 120 q_j7) k_j8 j8) ∧ va_S A s.heap H locs ∧ lv_has ls 5 [(0, .ref ti), (1, .int (nI g_4))]) 2 ?_ _ _ _ _ ⟨j2, 0, rfl, (Nat.le_of_ble_eq_true rfl), hsp, hP, hD, hS, lv_sub hl [1, 0] rfl⟩
  rintro nn ih_5 H locs ls ⟨g_3, g_4, rfl, hg_4, he_8, hP, hD, hS, hl⟩
  obtain ⟨S_7, hsp, hin_9, hout_10⟩ := itr_step hlf_6 he_8
  refine lv_iload_n hx hb eX6_findsLeast_2 rfl (lv_at hl 1 rfl) ?_
  refine lv_aload_n hx hb eX6_findsLeast_3 rfl (lv_at hl 0 rfl) ?_
  refine va_get (D := (dC, dI)) (ci := 6) (v := .int (nI ln)) (C := RX6) (T := TX6) (N := 10) hx hb hts hiX6 hown hK hP 0 rfl rfl 1 (by decide) v_1 (fun _ h9 => h9) rfl eX6_findsLeast_4 ?_
  refine lv_icmp_gt (tgt := 23) hx hb eX6_findsLeast_7 (by decide) (fun c_11 => ?_) (fun c_11 => ?_)
  · have c_11 : ln < g_4 := (nI_ltI (a := ln) (b := g_4) (Nat.lt_of_le_of_lt hln (Nat.le_of_ble_eq_true rfl)) (Nat.lt_of_le_of_lt hg_4 (Nat.le_of_ble_eq_true rfl))).mp c_11
    have hsp := hsp.trans (if_pos c_11)
    have hsp := hout_10 _ hsp
    refine lv_iconst (v := 1) hx hb eX6_findsLeast_23 (by decide) ?_
    refine lv_istore_n (lv' := [(1, .int 1), (0, .ref ti)]) hx hb eX6_findsLeast_24 rfl hl (by decide) rfl (fun ls hl => ?_)
    refine lv_iconst (v := 0) hx hb eX6_findsLeast_25 (by decide) ?_
    refine lv_istore_n (lv' := [(2, .int 0), (1, .int 1), (0, .ref ti)]) hx hb eX6_findsLeast_26 rfl hl (by decide) rfl (fun ls hl => ?_)
    obtain ⟨JR_16, hJR_16, hsp⟩ := slet_ex hsp
    refine pu_join (fun H locs ls st => ∃ (g_12 : Int32) (g_13 : Nat) (g_14 : Nat → Int32), st = [] ∧ g_13 ≤ 121 ∧ (g_12, g_13, g_14) = JR_16 ∧ va_P (dC, dI) vwCl (ti__w ti r0 (nI ln) r2 r3 r4 r5 (nI nr) r7 r8 tz k_j0 (bN 13 q_j0) k_j2 g_14 k_j3 (bN 120 q_j3) k_j4 (bN 120 q_j4) k_j5 j5 k_j7 (bN 120 q_j7) k_j8 j8) H ∧ va_D A (ti__w ti r0 (nI ln) r2 r3 r4 r5 (nI nr) r7 r8 tz k_j0 (bN 13 q_j0) k_j2 g_14 k_j3 (bN 120 q_j3) k_j4 (bN 120 q_j4) k_j5 j5 k_j7 (bN 120 q_j7) k_j8 j8) ∧ va_S A s.heap H locs ∧ lv_has ls 5 [(0, .ref ti), (1, .int g_12), (2, .int (nI g_13))]) 125 ?_ (fun j_15 => ?_)
    · rintro H locs ls st ⟨g_12, g_13, g_14, rfl, hg_13, he_17, hP, hD, hS, hl⟩
      rw [← he_17] at hsp
      refine lv_iload_n hx hb eX6_findsLeast_125 rfl (lv_at hl 1 rfl) ?_
      refine lv_if_ne (tgt := 142) hx hb eX6_findsLeast_126 (by decide) (fun c_18 => ?_) (fun c_18 => ?_)
      · have hcc_18 := c_18
        have hsp := hsp.trans (if_neg c_18)
        refine lv_iconst (v := 0) hx hb eX6_findsLeast_142 (by decide) ?_
        exact W.zret (v := 0) (ty := .boolean) hx hb hr (rfl) (fun t ht hW => ⟨⟨0, (), rfl, ⟨0, (Nat.le_of_ble_eq_true rfl), rfl, (congrArg Prod.fst (hsp.symm.trans hRR))⟩, ⟨g_14, ⟨by rw [ht]; exact hP, va_K.moved hW.alike hK, hD⟩, (congrArg Prod.snd (hsp.symm.trans hRR))⟩⟩, hS.F ht⟩) hS.2.2 eX6_findsLeast_143
      · have hcc_18 := c_18
        have hsp := hsp.trans (if_pos c_18)
        refine lv_aload_n hx hb eX6_findsLeast_129 rfl (lv_at hl 0 rfl) ?_
        refine va_get (D := (dC, dI)) (ci := 6) (v := .ref r2) (C := RX6) (T := TX6) (N := 10) hx hb hts hiX6 hown hK hP 0 rfl rfl 2 (by decide) v_2 (fun _ h9 => h9) rfl eX6_findsLeast_130 ?_
        refine lv_iconst (v := 0) hx hb eX6_findsLeast_133 (by decide) ?_
        refine va_iald hx hb hK hP 2 1 rfl rfl (vp_in_nI (n := 0) (Nat.le_of_ble_eq_true rfl) (Nat.le_of_ble_eq_true rfl)) eX6_findsLeast_134 ?_
        refine lv_topi (fun y_19 ey_19 => ?_)
        have ey_19 : y_19 = g_14 0 := ey_19.trans (congrArg g_14 (nI_clamp (n := 0) (Nat.le_of_ble_eq_true rfl)))
        have hsp := hsp.trans (slet_eq ey_19)
        refine lv_if_ne (tgt := 142) hx hb eX6_findsLeast_135 (by decide) (fun c_20 => ?_) (fun c_20 => ?_)
        · have hcc_20 := c_20
          have hsp := hsp.trans (if_neg c_20)
          refine lv_iconst (v := 0) hx hb eX6_findsLeast_142 (by decide) ?_
          exact W.zret (v := 0) (ty := .boolean) hx hb hr (rfl) (fun t ht hW => ⟨⟨0, (), rfl, ⟨0, (Nat.le_of_ble_eq_true rfl), rfl, (congrArg Prod.fst (hsp.symm.trans hRR))⟩, ⟨g_14, ⟨by rw [ht]; exact hP, va_K.moved hW.alike hK, hD⟩, (congrArg Prod.snd (hsp.symm.trans hRR))⟩⟩, hS.F ht⟩) hS.2.2 eX6_findsLeast_143
        · have hcc_20 := c_20
          have hsp := hsp.trans (if_pos c_20)
          refine lv_iconst (v := 1) hx hb eX6_findsLeast_138 (by decide) ?_
          refine lv_goto (tgt := 143) hx hb eX6_findsLeast_139 (by decide) ?_
          exact W.zret (v := 1) (ty := .boolean) hx hb hr (rfl) (fun t ht hW => ⟨⟨1, (), rfl, ⟨1, (Nat.le_of_ble_eq_true rfl), rfl, (congrArg Prod.fst (hsp.symm.trans hRR))⟩, ⟨g_14, ⟨by rw [ht]; exact hP, va_K.moved hW.alike hK, hD⟩, (congrArg Prod.snd (hsp.symm.trans hRR))⟩⟩, hS.F ht⟩) hS.2.2 eX6_findsLeast_143
    have hsp := hJR_16
    obtain ⟨lf_28, dlf_28, hlf_28, hsp⟩ := itr_ex hsp
    delta sp_E_6_findsLeast_L2 at hlf_28
    refine pu_while (fun nn H locs ls => ∃ (g_24 : Nat → Int32) (g_25 : Int32) (g_26 : Nat), nn = 121 - g_26 ∧ g_26 ≤ 121 ∧ JR_16 = itrv dlf_28 lf_28 (g_24, g_25, g_26) ∧ va_P (dC, dI) vwCl (ti__w ti r0 (nI ln) r2 r3 r4 r5 (nI nr) r7 r8 tz k_j0 (bN 13 q_j0) k_j2 g_24 k_j3 (bN 120 q_j3) k_j4 (bN 120 q_j4) k_j5 j5 k_j7 (bN 120 q_j7) k_j8 j8) H ∧ va_D A (ti__w ti r0 (nI ln) r2 r3 r4 r5 (nI nr) r7 r8 tz k_j0 (bN 13 q_j0) k_j2 g_24 k_j3 (bN 120 q_j3) k_j4 (bN 120 q_j4) k_j5 j5 k_j7 (bN 120 q_j7) k_j8 j8) ∧ va_S A s.heap H locs ∧ lv_has ls 5 [(0, .ref ti), (1, .int g_25), (2, .int (nI g_26))]) 27 ?_ _ _ _ _ ⟨g_3, 1, 0, rfl, (Nat.le_of_ble_eq_true rfl), hsp, hP, hD, hS, lv_sub hl [2, 1, 0] rfl⟩
    rintro nn ih_27 H locs ls ⟨g_24, g_25, g_26, rfl, hg_26, he_30, hP, hD, hS, hl⟩
    obtain ⟨S_29, hsp, hin_31, hout_32⟩ := itr_step hlf_28 he_30
    refine lv_iload_n hx hb eX6_findsLeast_27 rfl (lv_at hl 2 rfl) ?_
    refine lv_aload_n hx hb eX6_findsLeast_28 rfl (lv_at hl 0 rfl) ?_
    refine va_get (D := (dC, dI)) (ci := 6) (v := .int (nI ln)) (C := RX6) (T := TX6) (N := 10) hx hb hts hiX6 hown hK hP 0 rfl rfl 1 (by decide) v_1 (fun _ h9 => h9) rfl eX6_findsLeast_29 ?_
    refine lv_iconst (v := 1) hx hb eX6_findsLeast_32 (by decide) ?_
    refine lv_iadd hx hb eX6_findsLeast_33 ?_
    refine lv_topi (fun y_33 ey_33 => ?_)
    obtain rfl : y_33 = (nI (ln + 1)) := ey_33.trans (nI_add ln 1)
    refine lv_icmp_gt (tgt := 125) hx hb eX6_findsLeast_34 (by decide) (fun c_34 => ?_) (fun c_34 => ?_)
    · have c_34 : (ln + 1) < g_26 := (nI_ltI (a := (ln + 1)) (b := g_26) (by omega) (Nat.lt_of_le_of_lt hg_26 (Nat.le_of_ble_eq_true rfl))).mp c_34
      have hsp := hsp.trans (if_pos c_34)
      have hsp := hout_32 _ hsp
      exact j_15 _ _ _ _ ⟨g_25, g_26, g_24, rfl, hg_26, hsp.symm, hP, hD, hS, lv_sub hl [0, 1, 2] rfl⟩
    · have c_34 : ¬ (ln + 1) < g_26 := fun z => c_34 ((nI_ltI (a := (ln + 1)) (b := g_26) (by omega) (Nat.lt_of_le_of_lt hg_26 (Nat.le_of_ble_eq_true rfl))).mpr z)
      have hsp := hsp.trans (if_neg c_34)
      refine lv_iload_n hx hb eX6_findsLeast_37 rfl (lv_at hl 1 rfl) ?_
      refine lv_if_eq (tgt := 125) hx hb eX6_findsLeast_38 (by decide) (fun c_35 => ?_) (fun c_35 => ?_)
      · have hcc_35 := c_35
        have hsp := hsp.trans (if_pos c_35)
        have hsp := hout_32 _ hsp
        exact j_15 _ _ _ _ ⟨g_25, g_26, g_24, rfl, hg_26, hsp.symm, hP, hD, hS, lv_sub hl [0, 1, 2] rfl⟩
      · have hcc_35 := c_35
        have hsp := hsp.trans (if_neg c_35)
        refine lv_aload_n hx hb eX6_findsLeast_41 rfl (lv_at hl 0 rfl) ?_
        refine va_get (D := (dC, dI)) (ci := 6) (v := .ref r2) (C := RX6) (T := TX6) (N := 10) hx hb hts hiX6 hown hK hP 0 rfl rfl 2 (by decide) v_2 (fun _ h9 => h9) rfl eX6_findsLeast_42 ?_
        refine lv_iconst (v := 0) hx hb eX6_findsLeast_45 (by decide) ?_
        refine va_iald hx hb hK hP 2 1 rfl rfl (vp_in_nI (n := 0) (Nat.le_of_ble_eq_true rfl) (Nat.le_of_ble_eq_true rfl)) eX6_findsLeast_46 ?_
        refine lv_topi (fun y_36 ey_36 => ?_)
        have ey_36 : y_36 = g_24 0 := ey_36.trans (congrArg g_24 (nI_clamp (n := 0) (Nat.le_of_ble_eq_true rfl)))
        have hsp := hsp.trans (slet_eq ey_36)
        refine lv_if_ne (tgt := 125) hx hb eX6_findsLeast_47 (by decide) (fun c_37 => ?_) (fun c_37 => ?_)
        · have hcc_37 := c_37
          have hsp := hsp.trans (if_neg c_37)
          have hsp := hout_32 _ hsp
          exact j_15 _ _ _ _ ⟨g_25, g_26, g_24, rfl, hg_26, hsp.symm, hP, hD, hS, lv_sub hl [0, 1, 2] rfl⟩
        · have hcc_37 := c_37
          have hsp := hsp.trans (if_pos c_37)
          refine lv_iconst (v := 0) hx hb eX6_findsLeast_50 (by decide) ?_
          refine lv_istore_n (lv' := [(1, .int 0), (0, .ref ti), (2, .int (nI g_26))]) hx hb eX6_findsLeast_51 rfl hl (by decide) rfl (fun ls hl => ?_)
          refine lv_iconst (v := 0) hx hb eX6_findsLeast_52 (by decide) ?_
          refine lv_istore_n (lv' := [(3, .int 0), (1, .int 0), (0, .ref ti), (2, .int (nI g_26))]) hx hb eX6_findsLeast_53 rfl hl (by decide) rfl (fun ls hl => ?_)
          obtain ⟨lf_45, dlf_45, hlf_45, hsp⟩ := itr_ex hsp
          delta sp_E_6_findsLeast_L1 at hlf_45
          refine pu_while (fun nn H locs ls => ∃ (g_41 : Nat → Int32) (g_42 : Int32) (g_43 : Nat), nn = 1920 - g_43 ∧ g_43 ≤ 1920 ∧ S_29 = itrv dlf_45 lf_45 (g_41, g_42, g_43) ∧ va_P (dC, dI) vwCl (ti__w ti r0 (nI ln) r2 r3 r4 r5 (nI nr) r7 r8 tz k_j0 (bN 13 q_j0) k_j2 g_41 k_j3 (bN 120 q_j3) k_j4 (bN 120 q_j4) k_j5 j5 k_j7 (bN 120 q_j7) k_j8 j8) H ∧ va_D A (ti__w ti r0 (nI ln) r2 r3 r4 r5 (nI nr) r7 r8 tz k_j0 (bN 13 q_j0) k_j2 g_41 k_j3 (bN 120 q_j3) k_j4 (bN 120 q_j4) k_j5 j5 k_j7 (bN 120 q_j7) k_j8 j8) ∧ va_S A s.heap H locs ∧ lv_has ls 5 [(0, .ref ti), (1, .int g_42), (2, .int (nI g_26)), (3, .int (nI g_43))]) 54 ?_ _ _ _ _ ⟨g_24, 0, 0, rfl, (Nat.le_of_ble_eq_true rfl), hsp, hP, hD, hS, lv_sub hl [2, 1, 3, 0] rfl⟩
          rintro nn ih_44 H locs ls ⟨g_41, g_42, g_43, rfl, hg_43, he_47, hP, hD, hS, hl⟩
          obtain ⟨S_46, hsp, hin_48, hout_49⟩ := itr_step hlf_45 he_47
          refine lv_iload_n hx hb eX6_findsLeast_54 rfl (lv_at hl 3 rfl) ?_
          refine lv_aload_n hx hb eX6_findsLeast_55 rfl (lv_at hl 0 rfl) ?_
          refine va_get (D := (dC, dI)) (ci := 6) (v := .int (nI nr)) (C := RX6) (T := TX6) (N := 10) hx hb hts hiX6 hown hK hP 0 rfl rfl 6 (by decide) v_3 (fun _ h9 => h9) rfl eX6_findsLeast_56 ?_
          refine lv_icmp_ge (tgt := 119) hx hb eX6_findsLeast_59 (by decide) (fun c_50 => ?_) (fun c_50 => ?_)
          · have c_50 : nr ≤ g_43 := (nI_leI (a := nr) (b := g_43) (Nat.lt_of_le_of_lt hnr (Nat.le_of_ble_eq_true rfl)) (Nat.lt_of_le_of_lt hg_43 (Nat.le_of_ble_eq_true rfl))).mp c_50
            have hsp := hsp.trans (if_pos c_50)
            have hsp := hout_49 _ hsp
            refine lv_iinc (v := (nI (g_26 + 1))) (lv' := [(2, .int (nI (g_26 + 1))), (0, .ref ti), (1, .int g_42), (3, .int (nI g_43))]) hx hb eX6_findsLeast_119 hl (k := 2) rfl (nI_1 _) (by decide) rfl (fun ls hl => ?_)
            refine lv_goto (tgt := 27) hx hb eX6_findsLeast_122 (by decide) ?_
            exact ih_27 (121 - (g_26 + 1)) (by omega) _ _ _ ⟨g_41, g_42, (g_26 + 1), rfl, (by omega), hin_31 _ hsp, hP, hD, hS, lv_sub hl [1, 2, 0] rfl⟩
          · have c_50 : ¬ nr ≤ g_43 := fun z => c_50 ((nI_leI (a := nr) (b := g_43) (Nat.lt_of_le_of_lt hnr (Nat.le_of_ble_eq_true rfl)) (Nat.lt_of_le_of_lt hg_43 (Nat.le_of_ble_eq_true rfl))).mpr z)
            have hsp := hsp.trans (if_neg c_50)
            refine lv_aload_n hx hb eX6_findsLeast_62 rfl (lv_at hl 0 rfl) ?_
            refine va_get (D := (dC, dI)) (ci := 6) (v := .ref r2) (C := RX6) (T := TX6) (N := 10) hx hb hts hiX6 hown hK hP 0 rfl rfl 2 (by decide) v_2 (fun _ h9 => h9) rfl eX6_findsLeast_63 ?_
            refine lv_aload_n hx hb eX6_findsLeast_66 rfl (lv_at hl 0 rfl) ?_
            refine va_get (D := (dC, dI)) (ci := 6) (v := .ref r4) (C := RX6) (T := TX6) (N := 10) hx hb hts hiX6 hown hK hP 0 rfl rfl 4 (by decide) v_4 (fun _ h9 => h9) rfl eX6_findsLeast_67 ?_
            refine lv_iload_n hx hb eX6_findsLeast_70 rfl (lv_at hl 3 rfl) ?_
            refine va_iald hx hb hK hP 4 3 rfl rfl (vp_in_nI (n := g_43) (by omega) (Nat.le_of_ble_eq_true rfl)) eX6_findsLeast_71 ?_
            refine lv_topi (fun y_51 ey_51 => ?_)
            obtain ⟨u_52, hu_52, qu_52, xu_52⟩ := bN_getx 120 q_j4 (n := g_43) (Nat.lt_of_le_of_lt hg_43 (Nat.le_of_ble_eq_true rfl))
            obtain rfl : y_51 = nI u_52 := ey_51.trans qu_52
            have hsp := hsp.trans (slet_eq xu_52)
            refine va_iald hx hb hK hP 2 1 rfl rfl (vp_in_nI (n := u_52) (Nat.lt_of_le_of_lt hu_52 (Nat.le_of_ble_eq_true rfl)) (Nat.le_of_ble_eq_true rfl)) eX6_findsLeast_72 ?_
            refine lv_topi (fun y_53 ey_53 => ?_)
            have ey_53 : y_53 = g_41 u_52 := ey_53.trans (congrArg g_41 (nI_clamp (n := u_52) (Nat.lt_of_le_of_lt hu_52 (Nat.le_of_ble_eq_true rfl))))
            have hsp := hsp.trans (slet_eq ey_53)
            refine lv_aload_n hx hb eX6_findsLeast_73 rfl (lv_at hl 0 rfl) ?_
            refine va_get (D := (dC, dI)) (ci := 6) (v := .ref r5) (C := RX6) (T := TX6) (N := 10) hx hb hts hiX6 hown hK hP 0 rfl rfl 5 (by decide) v_5 (fun _ h9 => h9) rfl eX6_findsLeast_74 ?_
            refine lv_iload_n hx hb eX6_findsLeast_77 rfl (lv_at hl 3 rfl) ?_
            refine va_iald hx hb hK hP 5 4 rfl rfl (vp_in_nI (n := g_43) (by omega) (Nat.le_of_ble_eq_true rfl)) eX6_findsLeast_78 ?_
            refine lv_topi (fun y_54 ey_54 => ?_)
            have ey_54 : y_54 = j5 g_43 := ey_54.trans (congrArg j5 (nI_clamp (n := g_43) (Nat.lt_of_le_of_lt hg_43 (Nat.le_of_ble_eq_true rfl))))
            have hsp := hsp.trans (slet_eq ey_54)
            refine lv_iadd hx hb eX6_findsLeast_79 ?_
            refine lv_topi (fun y_55 ey_55 => ?_)
            have hsp := hsp.trans (slet_eq ey_55)
            refine lv_istore (lv' := [(4, .int y_55), (0, .ref ti), (1, .int g_42), (2, .int (nI g_26)), (3, .int (nI g_43))]) hx hb eX6_findsLeast_80 hl (by decide) rfl (fun ls hl => ?_)
            refine lv_iload hx hb eX6_findsLeast_82 (lv_at hl 0 rfl) ?_
            refine lv_aload_n hx hb eX6_findsLeast_84 rfl (lv_at hl 1 rfl) ?_
            refine va_get (D := (dC, dI)) (ci := 6) (v := .ref r2) (C := RX6) (T := TX6) (N := 10) hx hb hts hiX6 hown hK hP 0 rfl rfl 2 (by decide) v_2 (fun _ h9 => h9) rfl eX6_findsLeast_85 ?_
            refine lv_aload_n hx hb eX6_findsLeast_88 rfl (lv_at hl 1 rfl) ?_
            refine va_get (D := (dC, dI)) (ci := 6) (v := .ref r3) (C := RX6) (T := TX6) (N := 10) hx hb hts hiX6 hown hK hP 0 rfl rfl 3 (by decide) v_6 (fun _ h9 => h9) rfl eX6_findsLeast_89 ?_
            refine lv_iload_n hx hb eX6_findsLeast_92 rfl (lv_at hl 4 rfl) ?_
            refine va_iald hx hb hK hP 3 2 rfl rfl (vp_in_nI (n := g_43) (by omega) (Nat.le_of_ble_eq_true rfl)) eX6_findsLeast_93 ?_
            refine lv_topi (fun y_56 ey_56 => ?_)
            obtain ⟨u_57, hu_57, qu_57, xu_57⟩ := bN_getx 120 q_j3 (n := g_43) (Nat.lt_of_le_of_lt hg_43 (Nat.le_of_ble_eq_true rfl))
            obtain rfl : y_56 = nI u_57 := ey_56.trans qu_57
            have hsp := hsp.trans (slet_eq xu_57)
            refine va_iald hx hb hK hP 2 1 rfl rfl (vp_in_nI (n := u_57) (Nat.lt_of_le_of_lt hu_57 (Nat.le_of_ble_eq_true rfl)) (Nat.le_of_ble_eq_true rfl)) eX6_findsLeast_94 ?_
            refine lv_topi (fun y_58 ey_58 => ?_)
            have ey_58 : y_58 = g_41 u_57 := ey_58.trans (congrArg g_41 (nI_clamp (n := u_57) (Nat.lt_of_le_of_lt hu_57 (Nat.le_of_ble_eq_true rfl))))
            have hsp := hsp.trans (slet_eq ey_58)
            obtain ⟨JR_62, hJR_62, hsp⟩ := slet_ex hsp
            refine pu_join (fun H locs ls st => ∃ (g_59 : Int32) (g_60 : Nat → Int32), st = [] ∧ (g_59, g_60) = JR_62 ∧ va_P (dC, dI) vwCl (ti__w ti r0 (nI ln) r2 r3 r4 r5 (nI nr) r7 r8 tz k_j0 (bN 13 q_j0) k_j2 g_60 k_j3 (bN 120 q_j3) k_j4 (bN 120 q_j4) k_j5 j5 k_j7 (bN 120 q_j7) k_j8 j8) H ∧ va_D A (ti__w ti r0 (nI ln) r2 r3 r4 r5 (nI nr) r7 r8 tz k_j0 (bN 13 q_j0) k_j2 g_60 k_j3 (bN 120 q_j3) k_j4 (bN 120 q_j4) k_j5 j5 k_j7 (bN 120 q_j7) k_j8 j8) ∧ va_S A s.heap H locs ∧ lv_has ls 5 [(0, .ref ti), (1, .int g_59), (2, .int (nI g_26)), (3, .int (nI g_43)), (4, .int y_55)]) 113 ?_ (fun j_61 => ?_)
            · rintro H locs ls st ⟨g_59, g_60, rfl, he_63, hP, hD, hS, hl⟩
              rw [← he_63] at hsp
              refine lv_iinc (v := (nI (g_43 + 1))) (lv' := [(3, .int (nI (g_43 + 1))), (0, .ref ti), (1, .int g_59), (2, .int (nI g_26)), (4, .int y_55)]) hx hb eX6_findsLeast_113 hl (k := 3) rfl (nI_1 _) (by decide) rfl (fun ls hl => ?_)
              refine lv_goto (tgt := 54) hx hb eX6_findsLeast_116 (by decide) ?_
              exact ih_44 (1920 - (g_43 + 1)) (by omega) _ _ _ ⟨g_60, g_59, (g_43 + 1), rfl, (by omega), hin_48 _ hsp, hP, hD, hS, lv_sub hl [1, 2, 3, 0] rfl⟩
            have hsp := hJR_62
            refine lv_icmp_le (tgt := 113) hx hb eX6_findsLeast_95 (by decide) (fun c_64 => ?_) (fun c_64 => ?_)
            · have hcc_64 := c_64
              have hsp := hsp.trans (if_pos c_64)
              exact j_61 _ _ _ _ ⟨g_42, g_41, rfl, hsp.symm, hP, hD, hS, lv_sub hl [1, 2, 3, 4, 0] rfl⟩
            · have hcc_64 := c_64
              have hsp := hsp.trans (if_neg c_64)
              refine lv_aload_n hx hb eX6_findsLeast_98 rfl (lv_at hl 1 rfl) ?_
              refine va_get (D := (dC, dI)) (ci := 6) (v := .ref r2) (C := RX6) (T := TX6) (N := 10) hx hb hts hiX6 hown hK hP 0 rfl rfl 2 (by decide) v_2 (fun _ h9 => h9) rfl eX6_findsLeast_99 ?_
              refine lv_aload_n hx hb eX6_findsLeast_102 rfl (lv_at hl 1 rfl) ?_
              refine va_get (D := (dC, dI)) (ci := 6) (v := .ref r3) (C := RX6) (T := TX6) (N := 10) hx hb hts hiX6 hown hK hP 0 rfl rfl 3 (by decide) v_6 (fun _ h9 => h9) rfl eX6_findsLeast_103 ?_
              refine lv_iload_n hx hb eX6_findsLeast_106 rfl (lv_at hl 4 rfl) ?_
              refine va_iald hx hb hK hP 3 2 rfl rfl (vp_in_nI (n := g_43) (by omega) (Nat.le_of_ble_eq_true rfl)) eX6_findsLeast_107 ?_
              refine lv_topi (fun y_65 ey_65 => ?_)
              obtain rfl : y_65 = nI u_57 := ey_65.trans qu_57
              refine lv_iload hx hb eX6_findsLeast_108 (lv_at hl 0 rfl) ?_
              refine va_iast hx hb hK hP hD hS 2 1 rfl rfl (vp_in_nI (n := u_57) (Nat.lt_of_le_of_lt hu_57 (Nat.le_of_ble_eq_true rfl)) (Nat.le_of_ble_eq_true rfl)) eX6_findsLeast_110 (fun H locs hP hD hS => ?_)
              obtain ⟨f_67, ef_67, xf_67⟩ := up_x g_41 (n := u_57) y_55 (Nat.lt_of_le_of_lt hu_57 (Nat.le_of_ble_eq_true rfl))
              have hP : va_P (dC, dI) vwCl (ti__w ti r0 (nI ln) r2 r3 r4 r5 (nI nr) r7 r8 tz k_j0 (bN 13 q_j0) k_j2 f_67 k_j3 (bN 120 q_j3) k_j4 (bN 120 q_j4) k_j5 j5 k_j7 (bN 120 q_j7) k_j8 j8) H := by rw [← ef_67]; exact hP
              have hD : va_D A (ti__w ti r0 (nI ln) r2 r3 r4 r5 (nI nr) r7 r8 tz k_j0 (bN 13 q_j0) k_j2 f_67 k_j3 (bN 120 q_j3) k_j4 (bN 120 q_j4) k_j5 j5 k_j7 (bN 120 q_j7) k_j8 j8) := by rw [← ef_67]; exact hD
              have hsp := hsp.trans (slet_eq xf_67)
              refine lv_iconst (v := 1) hx hb eX6_findsLeast_111 (by decide) ?_
              refine lv_istore_n (lv' := [(1, .int 1), (4, .int y_55), (0, .ref ti), (2, .int (nI g_26)), (3, .int (nI g_43))]) hx hb eX6_findsLeast_112 rfl hl (by decide) rfl (fun ls hl => ?_)
              exact j_61 _ _ _ _ ⟨1, f_67, rfl, hsp.symm, hP, hD, hS, lv_sub hl [2, 0, 3, 4, 1] rfl⟩
  · have c_11 : ¬ ln < g_4 := fun z => c_11 ((nI_ltI (a := ln) (b := g_4) (Nat.lt_of_le_of_lt hln (Nat.le_of_ble_eq_true rfl)) (Nat.lt_of_le_of_lt hg_4 (Nat.le_of_ble_eq_true rfl))).mpr z)
    have hsp := hsp.trans (if_neg c_11)
    refine lv_aload_n hx hb eX6_findsLeast_10 rfl (lv_at hl 0 rfl) ?_
    refine va_get (D := (dC, dI)) (ci := 6) (v := .ref r2) (C := RX6) (T := TX6) (N := 10) hx hb hts hiX6 hown hK hP 0 rfl rfl 2 (by decide) v_2 (fun _ h9 => h9) rfl eX6_findsLeast_11 ?_
    refine lv_iload_n hx hb eX6_findsLeast_14 rfl (lv_at hl 1 rfl) ?_
    refine lv_iconst (v := 0) hx hb eX6_findsLeast_15 (by decide) ?_
    refine va_iast hx hb hK hP hD hS 2 1 rfl rfl (vp_in_nI (n := g_4) (Nat.lt_of_le_of_lt hg_4 (Nat.le_of_ble_eq_true rfl)) (Nat.le_of_ble_eq_true rfl)) eX6_findsLeast_16 (fun H locs hP hD hS => ?_)
    obtain ⟨f_68, ef_68, xf_68⟩ := up_x g_3 (n := g_4) 0 (Nat.lt_of_le_of_lt hg_4 (Nat.le_of_ble_eq_true rfl))
    have hP : va_P (dC, dI) vwCl (ti__w ti r0 (nI ln) r2 r3 r4 r5 (nI nr) r7 r8 tz k_j0 (bN 13 q_j0) k_j2 f_68 k_j3 (bN 120 q_j3) k_j4 (bN 120 q_j4) k_j5 j5 k_j7 (bN 120 q_j7) k_j8 j8) H := by rw [← ef_68]; exact hP
    have hD : va_D A (ti__w ti r0 (nI ln) r2 r3 r4 r5 (nI nr) r7 r8 tz k_j0 (bN 13 q_j0) k_j2 f_68 k_j3 (bN 120 q_j3) k_j4 (bN 120 q_j4) k_j5 j5 k_j7 (bN 120 q_j7) k_j8 j8) := by rw [← ef_68]; exact hD
    have hsp := hsp.trans (slet_eq xf_68)
    refine lv_iinc (v := (nI (g_4 + 1))) (lv' := [(1, .int (nI (g_4 + 1))), (0, .ref ti)]) hx hb eX6_findsLeast_17 hl (k := 1) rfl (nI_1 _) (by decide) rfl (fun ls hl => ?_)
    refine lv_goto (tgt := 2) hx hb eX6_findsLeast_20 (by decide) ?_
    exact ih_5 (120 - (g_4 + 1)) (by omega) _ _ _ ⟨f_68, (g_4 + 1), rfl, (by omega), hin_9 _ hsp, hP, hD, hS, lv_sub hl [1, 0] rfl⟩
theorem eX6_findsGreatest_0 : decode cX6_findsGreatest 0 = .ok (.aload_n 0, 1) := by decide +kernel
theorem eX6_findsGreatest_1 : decode cX6_findsGreatest 1 = .ok (.getfield 15, 3) := by decide +kernel
theorem eX6_findsGreatest_4 : decode cX6_findsGreatest 4 = .ok (.iconst 0, 1) := by decide +kernel
theorem eX6_findsGreatest_5 : decode cX6_findsGreatest 5 = .ok (.iconst 0, 1) := by decide +kernel
theorem eX6_findsGreatest_6 : decode cX6_findsGreatest 6 = .ok (.iastore, 1) := by decide +kernel
theorem eX6_findsGreatest_7 : decode cX6_findsGreatest 7 = .ok (.iconst 1, 1) := by decide +kernel
theorem eX6_findsGreatest_8 : decode cX6_findsGreatest 8 = .ok (.istore_n 2, 1) := by decide +kernel
theorem eX6_findsGreatest_9 : decode cX6_findsGreatest 9 = .ok (.iload_n 2, 1) := by decide +kernel
theorem eX6_findsGreatest_10 : decode cX6_findsGreatest 10 = .ok (.aload_n 0, 1) := by decide +kernel
theorem eX6_findsGreatest_11 : decode cX6_findsGreatest 11 = .ok (.getfield 47, 3) := by decide +kernel
theorem eX6_findsGreatest_14 : decode cX6_findsGreatest 14 = .ok (.if_icmp .gt 16, 3) := by decide +kernel
theorem eX6_findsGreatest_17 : decode cX6_findsGreatest 17 = .ok (.aload_n 0, 1) := by decide +kernel
theorem eX6_findsGreatest_18 : decode cX6_findsGreatest 18 = .ok (.getfield 15, 3) := by decide +kernel
theorem eX6_findsGreatest_21 : decode cX6_findsGreatest 21 = .ok (.iload_n 2, 1) := by decide +kernel
theorem eX6_findsGreatest_22 : decode cX6_findsGreatest 22 = .ok (.iload_n 1, 1) := by decide +kernel
theorem eX6_findsGreatest_23 : decode cX6_findsGreatest 23 = .ok (.iastore, 1) := by decide +kernel
theorem eX6_findsGreatest_24 : decode cX6_findsGreatest 24 = .ok (.iinc 2 1, 3) := by decide +kernel
theorem eX6_findsGreatest_27 : decode cX6_findsGreatest 27 = .ok (.goto (-18), 3) := by decide +kernel
theorem eX6_findsGreatest_30 : decode cX6_findsGreatest 30 = .ok (.iconst 1, 1) := by decide +kernel
theorem eX6_findsGreatest_31 : decode cX6_findsGreatest 31 = .ok (.istore_n 2, 1) := by decide +kernel
theorem eX6_findsGreatest_32 : decode cX6_findsGreatest 32 = .ok (.iconst 0, 1) := by decide +kernel
theorem eX6_findsGreatest_33 : decode cX6_findsGreatest 33 = .ok (.istore_n 3, 1) := by decide +kernel
theorem eX6_findsGreatest_34 : decode cX6_findsGreatest 34 = .ok (.iload_n 3, 1) := by decide +kernel
theorem eX6_findsGreatest_35 : decode cX6_findsGreatest 35 = .ok (.aload_n 0, 1) := by decide +kernel
theorem eX6_findsGreatest_36 : decode cX6_findsGreatest 36 = .ok (.getfield 47, 3) := by decide +kernel
theorem eX6_findsGreatest_39 : decode cX6_findsGreatest 39 = .ok (.iconst 1, 1) := by decide +kernel
theorem eX6_findsGreatest_40 : decode cX6_findsGreatest 40 = .ok (.iadd, 1) := by decide +kernel
theorem eX6_findsGreatest_41 : decode cX6_findsGreatest 41 = .ok (.if_icmp .gt 97, 3) := by decide +kernel
theorem eX6_findsGreatest_44 : decode cX6_findsGreatest 44 = .ok (.iload_n 2, 1) := by decide +kernel
theorem eX6_findsGreatest_45 : decode cX6_findsGreatest 45 = .ok (.ifCond .eq 93, 3) := by decide +kernel
theorem eX6_findsGreatest_48 : decode cX6_findsGreatest 48 = .ok (.aload_n 0, 1) := by decide +kernel
theorem eX6_findsGreatest_49 : decode cX6_findsGreatest 49 = .ok (.getfield 15, 3) := by decide +kernel
theorem eX6_findsGreatest_52 : decode cX6_findsGreatest 52 = .ok (.iconst 0, 1) := by decide +kernel
theorem eX6_findsGreatest_53 : decode cX6_findsGreatest 53 = .ok (.iaload, 1) := by decide +kernel
theorem eX6_findsGreatest_54 : decode cX6_findsGreatest 54 = .ok (.ifCond .ne 84, 3) := by decide +kernel
theorem eX6_findsGreatest_57 : decode cX6_findsGreatest 57 = .ok (.iconst 0, 1) := by decide +kernel
theorem eX6_findsGreatest_58 : decode cX6_findsGreatest 58 = .ok (.istore_n 2, 1) := by decide +kernel
theorem eX6_findsGreatest_59 : decode cX6_findsGreatest 59 = .ok (.iconst 0, 1) := by decide +kernel
theorem eX6_findsGreatest_60 : decode cX6_findsGreatest 60 = .ok (.istore 4, 2) := by decide +kernel
theorem eX6_findsGreatest_62 : decode cX6_findsGreatest 62 = .ok (.iload 4, 2) := by decide +kernel
theorem eX6_findsGreatest_64 : decode cX6_findsGreatest 64 = .ok (.aload_n 0, 1) := by decide +kernel
theorem eX6_findsGreatest_65 : decode cX6_findsGreatest 65 = .ok (.getfield 57, 3) := by decide +kernel
theorem eX6_findsGreatest_68 : decode cX6_findsGreatest 68 = .ok (.if_icmp .ge 64, 3) := by decide +kernel
theorem eX6_findsGreatest_71 : decode cX6_findsGreatest 71 = .ok (.aload_n 0, 1) := by decide +kernel
theorem eX6_findsGreatest_72 : decode cX6_findsGreatest 72 = .ok (.getfield 15, 3) := by decide +kernel
theorem eX6_findsGreatest_75 : decode cX6_findsGreatest 75 = .ok (.aload_n 0, 1) := by decide +kernel
theorem eX6_findsGreatest_76 : decode cX6_findsGreatest 76 = .ok (.getfield 18, 3) := by decide +kernel
theorem eX6_findsGreatest_79 : decode cX6_findsGreatest 79 = .ok (.iload 4, 2) := by decide +kernel
theorem eX6_findsGreatest_81 : decode cX6_findsGreatest 81 = .ok (.iaload, 1) := by decide +kernel
theorem eX6_findsGreatest_82 : decode cX6_findsGreatest 82 = .ok (.iaload, 1) := by decide +kernel
theorem eX6_findsGreatest_83 : decode cX6_findsGreatest 83 = .ok (.aload_n 0, 1) := by decide +kernel
theorem eX6_findsGreatest_84 : decode cX6_findsGreatest 84 = .ok (.getfield 24, 3) := by decide +kernel
theorem eX6_findsGreatest_87 : decode cX6_findsGreatest 87 = .ok (.iload 4, 2) := by decide +kernel
theorem eX6_findsGreatest_89 : decode cX6_findsGreatest 89 = .ok (.iaload, 1) := by decide +kernel
theorem eX6_findsGreatest_90 : decode cX6_findsGreatest 90 = .ok (.isub, 1) := by decide +kernel
theorem eX6_findsGreatest_91 : decode cX6_findsGreatest 91 = .ok (.istore 5, 2) := by decide +kernel
theorem eX6_findsGreatest_93 : decode cX6_findsGreatest 93 = .ok (.iload 5, 2) := by decide +kernel
theorem eX6_findsGreatest_95 : decode cX6_findsGreatest 95 = .ok (.aload_n 0, 1) := by decide +kernel
theorem eX6_findsGreatest_96 : decode cX6_findsGreatest 96 = .ok (.getfield 15, 3) := by decide +kernel
theorem eX6_findsGreatest_99 : decode cX6_findsGreatest 99 = .ok (.aload_n 0, 1) := by decide +kernel
theorem eX6_findsGreatest_100 : decode cX6_findsGreatest 100 = .ok (.getfield 21, 3) := by decide +kernel
theorem eX6_findsGreatest_103 : decode cX6_findsGreatest 103 = .ok (.iload 4, 2) := by decide +kernel
theorem eX6_findsGreatest_105 : decode cX6_findsGreatest 105 = .ok (.iaload, 1) := by decide +kernel
theorem eX6_findsGreatest_106 : decode cX6_findsGreatest 106 = .ok (.iaload, 1) := by decide +kernel
theorem eX6_findsGreatest_107 : decode cX6_findsGreatest 107 = .ok (.if_icmp .ge 19, 3) := by decide +kernel
theorem eX6_findsGreatest_110 : decode cX6_findsGreatest 110 = .ok (.aload_n 0, 1) := by decide +kernel
theorem eX6_findsGreatest_111 : decode cX6_findsGreatest 111 = .ok (.getfield 15, 3) := by decide +kernel
theorem eX6_findsGreatest_114 : decode cX6_findsGreatest 114 = .ok (.aload_n 0, 1) := by decide +kernel
theorem eX6_findsGreatest_115 : decode cX6_findsGreatest 115 = .ok (.getfield 21, 3) := by decide +kernel
theorem eX6_findsGreatest_118 : decode cX6_findsGreatest 118 = .ok (.iload 4, 2) := by decide +kernel
theorem eX6_findsGreatest_120 : decode cX6_findsGreatest 120 = .ok (.iaload, 1) := by decide +kernel
theorem eX6_findsGreatest_121 : decode cX6_findsGreatest 121 = .ok (.iload 5, 2) := by decide +kernel
theorem eX6_findsGreatest_123 : decode cX6_findsGreatest 123 = .ok (.iastore, 1) := by decide +kernel
theorem eX6_findsGreatest_124 : decode cX6_findsGreatest 124 = .ok (.iconst 1, 1) := by decide +kernel
theorem eX6_findsGreatest_125 : decode cX6_findsGreatest 125 = .ok (.istore_n 2, 1) := by decide +kernel
theorem eX6_findsGreatest_126 : decode cX6_findsGreatest 126 = .ok (.iinc 4 1, 3) := by decide +kernel
theorem eX6_findsGreatest_129 : decode cX6_findsGreatest 129 = .ok (.goto (-67), 3) := by decide +kernel
theorem eX6_findsGreatest_132 : decode cX6_findsGreatest 132 = .ok (.iinc 3 1, 3) := by decide +kernel
theorem eX6_findsGreatest_135 : decode cX6_findsGreatest 135 = .ok (.goto (-101), 3) := by decide +kernel
theorem eX6_findsGreatest_138 : decode cX6_findsGreatest 138 = .ok (.iload_n 2, 1) := by decide +kernel
theorem eX6_findsGreatest_139 : decode cX6_findsGreatest 139 = .ok (.ifCond .ne 16, 3) := by decide +kernel
theorem eX6_findsGreatest_142 : decode cX6_findsGreatest 142 = .ok (.aload_n 0, 1) := by decide +kernel
theorem eX6_findsGreatest_143 : decode cX6_findsGreatest 143 = .ok (.getfield 15, 3) := by decide +kernel
theorem eX6_findsGreatest_146 : decode cX6_findsGreatest 146 = .ok (.iconst 0, 1) := by decide +kernel
theorem eX6_findsGreatest_147 : decode cX6_findsGreatest 147 = .ok (.iaload, 1) := by decide +kernel
theorem eX6_findsGreatest_148 : decode cX6_findsGreatest 148 = .ok (.ifCond .ne 7, 3) := by decide +kernel
theorem eX6_findsGreatest_151 : decode cX6_findsGreatest 151 = .ok (.iconst 1, 1) := by decide +kernel
theorem eX6_findsGreatest_152 : decode cX6_findsGreatest 152 = .ok (.goto 4, 3) := by decide +kernel
theorem eX6_findsGreatest_155 : decode cX6_findsGreatest 155 = .ok (.iconst 0, 1) := by decide +kernel
theorem eX6_findsGreatest_156 : decode cX6_findsGreatest 156 = .ok (.ireturn, 1) := by decide +kernel
abbrev vs_E_6_findsGreatest : List Cond := .code yX6_findsGreatest cX6_findsGreatest 6 (some .boolean) :: CM
noncomputable def sp_E_6_findsGreatest_L1 (nr : Nat) (q_j3 : Nat → Nat) (q_j4 : Nat → Nat) (j5 : Nat → Int32) (g_27 : Nat) : ((Nat → Int32) × Int32 × Nat) → ((Nat → Int32) × Int32 × Nat) ⊕ (((Nat → Int32) × Int32 × Nat) ⊕ (Int32 × Nat × (Nat → Int32))) := fun (g_42, g_43, g_44) => (if nr ≤ g_44 then (Sum.inr (Sum.inl (g_42, g_43, (g_27 + 1)))) else (slet (min (q_j3 g_44) 120) (fun u_53 => (slet (g_42 u_53) (fun y_54 => (slet (j5 g_44) (fun y_55 => (slet ((y_54 : Int32) - y_55) (fun y_56 => (slet (min (q_j4 g_44) 120) (fun u_58 => (slet (g_42 u_58) (fun y_59 => (slet (α := Int32 × (Nat → Int32)) (if (y_59 : Int32) ≤ y_56 then (g_43, g_42) else (slet (upd g_42 u_58 y_56) (fun f_68 => (1, f_68)))) (fun (g_60, g_61) => (Sum.inl (g_61, g_60, (g_44 + 1))))))))))))))))))
noncomputable def sp_E_6_findsGreatest_L2 (ln : Nat) (nr : Nat) (q_j3 : Nat → Nat) (q_j4 : Nat → Nat) (j5 : Nat → Int32) : ((Nat → Int32) × Int32 × Nat) → ((Nat → Int32) × Int32 × Nat) ⊕ (Int32 × Nat × (Nat → Int32)) := fun (g_25, g_26, g_27) => (if (ln + 1) < g_27 then (Sum.inr (g_26, g_27, g_25)) else (if (g_26 : Int32) = 0 then (Sum.inr (g_26, g_27, g_25)) else (slet (g_25 0) (fun y_37 => (if (y_37 : Int32) = 0 then (itrv (α := (Nat → Int32) × Int32 × Nat) (β := (((Nat → Int32) × Int32 × Nat) ⊕ (Int32 × Nat × (Nat → Int32)))) (Sum.inr default) (sp_E_6_findsGreatest_L1 nr q_j3 q_j4 j5 g_27) (g_25, 0, 0)) else (Sum.inr (g_26, g_27, g_25)))))))
noncomputable def sp_E_6_findsGreatest_L3 (ln : Nat) (nr : Nat) (q_j3 : Nat → Nat) (q_j4 : Nat → Nat) (j5 : Nat → Int32) (p0 : Int32) : ((Nat → Int32) × Nat) → ((Nat → Int32) × Nat) ⊕ (Nat × (Nat → Int32)) := fun (g_4, g_5) => (if ln < g_5 then (Sum.inr (slet (α := Int32 × Nat × (Nat → Int32)) (itrv (α := (Nat → Int32) × Int32 × Nat) (β := (Int32 × Nat × (Nat → Int32))) default (sp_E_6_findsGreatest_L2 ln nr q_j3 q_j4 j5) (g_4, 1, 0)) (fun (g_13, g_14, g_15) => (if (g_13 : Int32) = 0 then (slet (g_15 0) (fun y_20 => (if (y_20 : Int32) = 0 then (1, g_15) else (0, g_15)))) else (0, g_15))))) else (slet (upd g_4 g_5 p0) (fun f_69 => (Sum.inl (f_69, (g_5 + 1))))))
noncomputable def sp_E_6_findsGreatest (ln : Nat) (nr : Nat) (j2 : Nat → Int32) (q_j3 : Nat → Nat) (q_j4 : Nat → Nat) (j5 : Nat → Int32) (p0 : Int32) : Nat × (Nat → Int32) := (slet (upd j2 0 0) (fun f_1 => (itrv (α := (Nat → Int32) × Nat) (β := (Nat × (Nat → Int32))) default (sp_E_6_findsGreatest_L3 ln nr q_j3 q_j4 j5 p0) (f_1, 1))))
set_option maxHeartbeats 4000000 in
set_option maxRecDepth 100000 in
theorem c_E_6_findsGreatest (l : Launch) (dC : Nat → ClassId) (dI : Nat → Nat → Nat) (sz : Nat) (ti : Nat) (r0 : Nat) (ln : Nat) (r2 : Nat) (r3 : Nat) (r4 : Nat) (r5 : Nat) (nr : Nat) (r7 : Nat) (r8 : Nat) (tz : Nat) (k_j0 : ClassId) (q_j0 : Nat → Nat) (k_j2 : ClassId) (j2 : Nat → Int32) (k_j3 : ClassId) (q_j3 : Nat → Nat) (k_j4 : ClassId) (q_j4 : Nat → Nat) (k_j5 : ClassId) (j5 : Nat → Int32) (k_j7 : ClassId) (q_j7 : Nat → Nat) (k_j8 : ClassId) (j8 : Nat → Int32) (p0 : Int32) (hln : ln ≤ 119) (hnr : nr ≤ 1920) : Met l yX6_findsGreatest vs_E_6_findsGreatest ({ frames := 0, cells := 0, slots := 0, locals := 0 }) (va_Pc [.ref ti, .int p0] (pu_B (dC, dI) (ti__w ti r0 (nI ln) r2 r3 r4 r5 (nI nr) r7 r8 tz k_j0 (bN 13 q_j0) k_j2 j2 k_j3 (bN 120 q_j3) k_j4 (bN 120 q_j4) k_j5 j5 k_j7 (bN 120 q_j7) k_j8 j8) (ti__t k_j0 k_j2 k_j3 k_j4 k_j5 k_j7 k_j8) sz)) (va_Qi (fun (r : Int32) (_ : Unit) => ∃ v : Nat, v ≤ 1 ∧ r = nI v ∧ v = (sp_E_6_findsGreatest ln nr j2 q_j3 q_j4 j5 p0).1) (fun _ t => ∃ (z_j2 : Nat → Int32), pu_E (dC, dI) (ti__w ti r0 (nI ln) r2 r3 r4 r5 (nI nr) r7 r8 tz k_j0 (bN 13 q_j0) k_j2 z_j2 k_j3 (bN 120 q_j3) k_j4 (bN 120 q_j4) k_j5 j5 k_j7 (bN 120 q_j7) k_j8 j8) (ti__t k_j0 k_j2 k_j3 k_j4 k_j5 k_j7 k_j8) (va_A ((ti__w ti r0 (nI ln) r2 r3 r4 r5 (nI nr) r7 r8 tz k_j0 (bN 13 q_j0) k_j2 j2 k_j3 (bN 120 q_j3) k_j4 (bN 120 q_j4) k_j5 j5 k_j7 (bN 120 q_j7) k_j8 j8)) sz) t ∧ (z_j2 = (sp_E_6_findsGreatest ln nr j2 q_j3 q_j4 j5 p0).2)) (va_A ((ti__w ti r0 (nI ln) r2 r3 r4 r5 (nI nr) r7 r8 tz k_j0 (bN 13 q_j0) k_j2 j2 k_j3 (bN 120 q_j3) k_j4 (bN 120 q_j4) k_j5 j5 k_j7 (bN 120 q_j7) k_j8 j8)) sz)) 0 0 (va_A ((ti__w ti r0 (nI ln) r2 r3 r4 r5 (nI nr) r7 r8 tz k_j0 (bN 13 q_j0) k_j2 j2 k_j3 (bN 120 q_j3) k_j4 (bN 120 q_j4) k_j5 j5 k_j7 (bN 120 q_j7) k_j8 j8)) sz) := by
  refine Met.ofW (cc := cX6_findsGreatest) (maxL := 6) (ret := (some .boolean)) (by decide) rfl ?_
  intro p e s m args below meth c s₁ B hml hv
  obtain ⟨rfl, rfl, hP, hK, hD0⟩ := hv
  have hx := B.exec
  have hb := B.bytes
  have hr := B.returns
  have hts := atoms_spec (ws := vs_E_6_findsGreatest) B.pre
  have v_1 := hts (.fieldLink RX6 15 "ClockReach$Timing" "at" "[I") (List.mem_cons_of_mem _ cm_400)
  have v_2 := hts (.fieldLink RX6 47 "ClockReach$Timing" "length" "I") (List.mem_cons_of_mem _ cm_366)
  have v_3 := hts (.fieldLink RX6 57 "ClockReach$Timing" "rules" "I") (List.mem_cons_of_mem _ cm_371)
  have v_4 := hts (.fieldLink RX6 18 "ClockReach$Timing" "laters" "[I") (List.mem_cons_of_mem _ cm_396)
  have v_5 := hts (.fieldLink RX6 24 "ClockReach$Timing" "gaps" "[I") (List.mem_cons_of_mem _ cm_398)
  have v_6 := hts (.fieldLink RX6 21 "ClockReach$Timing" "earliers" "[I") (List.mem_cons_of_mem _ cm_397)
  have hown : s.vm.findClass RX6 = some m.cls := findClass_of_methodNamed B.named
  have hlocks := B.notSynchronized
  have hiX6 : ∀ w ∈ wsX60, w ∈ vs_E_6_findsGreatest := fun _ h => List.mem_cons_of_mem _ (cm_X6 h)
  have hD := hD0.self (sz := s.heap.size)
  generalize hAe : va_A ((ti__w ti r0 (nI ln) r2 r3 r4 r5 (nI nr) r7 r8 tz k_j0 (bN 13 q_j0) k_j2 j2 k_j3 (bN 120 q_j3) k_j4 (bN 120 q_j4) k_j5 j5 k_j7 (bN 120 q_j7) k_j8 j8)) s.heap.size = A at hD ⊢
  have hA : ∀ q : Nat, s.heap.size ≤ q → A q := fun q h => by rw [← hAe]; exact Or.inr h
  have hS : va_S A s.heap s.heap [] := va_S.rf
  have hl := lv_entry ([.ref ti, .int p0]) (n := 6) (Nat.le_of_ble_eq_true rfl)
  rw [lg_entry_eq]
  generalize (lg_sl ([.ref ti, .int p0]) ++ List.replicate (6 - (lg_sl ([.ref ti, .int p0])).length) Slot.unset).toArray = ls at hl ⊢
  have hl : lv_has ls 6 [(0, .ref ti), (1, .int p0)] := hl
  obtain ⟨RR, hRR⟩ : ∃ x, x = (sp_E_6_findsGreatest ln nr j2 q_j3 q_j4 j5 p0) := ⟨_, rfl⟩
  have hsp := hRR
  refine lv_aload_n hx hb eX6_findsGreatest_0 rfl (lv_at hl 0 rfl) ?_
  refine va_get (D := (dC, dI)) (ci := 6) (v := .ref r2) (C := RX6) (T := TX6) (N := 10) hx hb hts hiX6 hown hK hP 0 rfl rfl 2 (by decide) v_1 (fun _ h9 => h9) rfl eX6_findsGreatest_1 ?_
  refine lv_iconst (v := 0) hx hb eX6_findsGreatest_4 (by decide) ?_
  refine lv_iconst (v := 0) hx hb eX6_findsGreatest_5 (by decide) ?_
  refine va_iast hx hb hK hP hD hS 2 1 rfl rfl (vp_in_nI (n := 0) (Nat.le_of_ble_eq_true rfl) (Nat.le_of_ble_eq_true rfl)) eX6_findsGreatest_6 (fun H locs hP hD hS => ?_)
  obtain ⟨f_1, ef_1, xf_1⟩ := up_x j2 (n := 0) 0 (Nat.le_of_ble_eq_true rfl)
  have hP : va_P (dC, dI) vwCl (ti__w ti r0 (nI ln) r2 r3 r4 r5 (nI nr) r7 r8 tz k_j0 (bN 13 q_j0) k_j2 f_1 k_j3 (bN 120 q_j3) k_j4 (bN 120 q_j4) k_j5 j5 k_j7 (bN 120 q_j7) k_j8 j8) H := by rw [← ef_1]; exact hP
  have hD : va_D A (ti__w ti r0 (nI ln) r2 r3 r4 r5 (nI nr) r7 r8 tz k_j0 (bN 13 q_j0) k_j2 f_1 k_j3 (bN 120 q_j3) k_j4 (bN 120 q_j4) k_j5 j5 k_j7 (bN 120 q_j7) k_j8 j8) := by rw [← ef_1]; exact hD
  have hsp := hsp.trans (slet_eq xf_1)
  refine lv_iconst (v := 1) hx hb eX6_findsGreatest_7 (by decide) ?_
  refine lv_istore_n (lv' := [(2, .int 1), (0, .ref ti), (1, .int p0)]) hx hb eX6_findsGreatest_8 rfl hl (by decide) rfl (fun ls hl => ?_)
  obtain ⟨lf_7, dlf_7, hlf_7, hsp⟩ := itr_ex hsp
  delta sp_E_6_findsGreatest_L3 at hlf_7
  refine pu_while (fun nn H locs ls => ∃ (g_4 : Nat → Int32) (g_5 : Nat), nn = 120 - g_5 ∧ (1 ≤ g_5 ∧ g_5 ≤ 120) ∧ RR = itrv dlf_7 lf_7 (g_4, g_5) ∧ va_P (dC, dI) vwCl (ti__w ti r0 (nI ln) r2 r3 r4 r5 (nI nr) r7 r8 tz k_j0 (bN 13 q_j0) k_j2 g_4 k_j3 (bN 120 q_j3) k_j4 (bN 120 q_j4) k_j5 j5 k_j7 (bN 120 q_j7) k_j8 j8) H ∧ va_D A (ti__w ti r0 (nI ln) r2 r3 r4 r5 (nI nr) r7 r8 tz k_j0 (bN 13 q_j0) k_j2 g_4 k_j3 (bN 120 q_j3) k_j4 (bN 120 q_j4) k_j5 j5 k_j7 (bN 120 q_j7) k_j8 j8) ∧ va_S A s.heap H locs ∧ lv_has ls 6 [(0, .ref ti), (1, .int p0), (2, .int (nI g_5))]) 9 ?_ _ _ _ _ ⟨f_1, 1, rfl, ⟨by omega, by omega⟩, hsp, hP, hD, hS, lv_sub hl [1, 2, 0] rfl⟩
  rintro nn ih_6 H locs ls ⟨g_4, g_5, rfl, hg_5, he_9, hP, hD, hS, hl⟩
  obtain ⟨S_8, hsp, hin_10, hout_11⟩ := itr_step hlf_7 he_9
  refine lv_iload_n hx hb eX6_findsGreatest_9 rfl (lv_at hl 2 rfl) ?_
  refine lv_aload_n hx hb eX6_findsGreatest_10 rfl (lv_at hl 0 rfl) ?_
  refine va_get (D := (dC, dI)) (ci := 6) (v := .int (nI ln)) (C := RX6) (T := TX6) (N := 10) hx hb hts hiX6 hown hK hP 0 rfl rfl 1 (by decide) v_2 (fun _ h9 => h9) rfl eX6_findsGreatest_11 ?_
  refine lv_icmp_gt (tgt := 30) hx hb eX6_findsGreatest_14 (by decide) (fun c_12 => ?_) (fun c_12 => ?_)
  · have c_12 : ln < g_5 := (nI_ltI (a := ln) (b := g_5) (Nat.lt_of_le_of_lt hln (Nat.le_of_ble_eq_true rfl)) (Nat.lt_of_le_of_lt hg_5.2 (Nat.le_of_ble_eq_true rfl))).mp c_12
    have hsp := hsp.trans (if_pos c_12)
    have hsp := hout_11 _ hsp
    refine lv_iconst (v := 1) hx hb eX6_findsGreatest_30 (by decide) ?_
    refine lv_istore_n (lv' := [(2, .int 1), (0, .ref ti), (1, .int p0)]) hx hb eX6_findsGreatest_31 rfl hl (by decide) rfl (fun ls hl => ?_)
    refine lv_iconst (v := 0) hx hb eX6_findsGreatest_32 (by decide) ?_
    refine lv_istore_n (lv' := [(3, .int 0), (2, .int 1), (0, .ref ti), (1, .int p0)]) hx hb eX6_findsGreatest_33 rfl hl (by decide) rfl (fun ls hl => ?_)
    obtain ⟨JR_17, hJR_17, hsp⟩ := slet_ex hsp
    refine pu_join (fun H locs ls st => ∃ (g_13 : Int32) (g_14 : Nat) (g_15 : Nat → Int32), st = [] ∧ g_14 ≤ 121 ∧ (g_13, g_14, g_15) = JR_17 ∧ va_P (dC, dI) vwCl (ti__w ti r0 (nI ln) r2 r3 r4 r5 (nI nr) r7 r8 tz k_j0 (bN 13 q_j0) k_j2 g_15 k_j3 (bN 120 q_j3) k_j4 (bN 120 q_j4) k_j5 j5 k_j7 (bN 120 q_j7) k_j8 j8) H ∧ va_D A (ti__w ti r0 (nI ln) r2 r3 r4 r5 (nI nr) r7 r8 tz k_j0 (bN 13 q_j0) k_j2 g_15 k_j3 (bN 120 q_j3) k_j4 (bN 120 q_j4) k_j5 j5 k_j7 (bN 120 q_j7) k_j8 j8) ∧ va_S A s.heap H locs ∧ lv_has ls 6 [(0, .ref ti), (1, .int p0), (2, .int g_13), (3, .int (nI g_14))]) 138 ?_ (fun j_16 => ?_)
    · rintro H locs ls st ⟨g_13, g_14, g_15, rfl, hg_14, he_18, hP, hD, hS, hl⟩
      rw [← he_18] at hsp
      refine lv_iload_n hx hb eX6_findsGreatest_138 rfl (lv_at hl 2 rfl) ?_
      refine lv_if_ne (tgt := 155) hx hb eX6_findsGreatest_139 (by decide) (fun c_19 => ?_) (fun c_19 => ?_)
      · have hcc_19 := c_19
        have hsp := hsp.trans (if_neg c_19)
        refine lv_iconst (v := 0) hx hb eX6_findsGreatest_155 (by decide) ?_
        exact W.zret (v := 0) (ty := .boolean) hx hb hr (rfl) (fun t ht hW => ⟨⟨0, (), rfl, ⟨0, (Nat.le_of_ble_eq_true rfl), rfl, (congrArg Prod.fst (hsp.symm.trans hRR))⟩, ⟨g_15, ⟨by rw [ht]; exact hP, va_K.moved hW.alike hK, hD⟩, (congrArg Prod.snd (hsp.symm.trans hRR))⟩⟩, hS.F ht⟩) hS.2.2 eX6_findsGreatest_156
      · have hcc_19 := c_19
        have hsp := hsp.trans (if_pos c_19)
        refine lv_aload_n hx hb eX6_findsGreatest_142 rfl (lv_at hl 0 rfl) ?_
        refine va_get (D := (dC, dI)) (ci := 6) (v := .ref r2) (C := RX6) (T := TX6) (N := 10) hx hb hts hiX6 hown hK hP 0 rfl rfl 2 (by decide) v_1 (fun _ h9 => h9) rfl eX6_findsGreatest_143 ?_
        refine lv_iconst (v := 0) hx hb eX6_findsGreatest_146 (by decide) ?_
        refine va_iald hx hb hK hP 2 1 rfl rfl (vp_in_nI (n := 0) (Nat.le_of_ble_eq_true rfl) (Nat.le_of_ble_eq_true rfl)) eX6_findsGreatest_147 ?_
        refine lv_topi (fun y_20 ey_20 => ?_)
        have ey_20 : y_20 = g_15 0 := ey_20.trans (congrArg g_15 (nI_clamp (n := 0) (Nat.le_of_ble_eq_true rfl)))
        have hsp := hsp.trans (slet_eq ey_20)
        refine lv_if_ne (tgt := 155) hx hb eX6_findsGreatest_148 (by decide) (fun c_21 => ?_) (fun c_21 => ?_)
        · have hcc_21 := c_21
          have hsp := hsp.trans (if_neg c_21)
          refine lv_iconst (v := 0) hx hb eX6_findsGreatest_155 (by decide) ?_
          exact W.zret (v := 0) (ty := .boolean) hx hb hr (rfl) (fun t ht hW => ⟨⟨0, (), rfl, ⟨0, (Nat.le_of_ble_eq_true rfl), rfl, (congrArg Prod.fst (hsp.symm.trans hRR))⟩, ⟨g_15, ⟨by rw [ht]; exact hP, va_K.moved hW.alike hK, hD⟩, (congrArg Prod.snd (hsp.symm.trans hRR))⟩⟩, hS.F ht⟩) hS.2.2 eX6_findsGreatest_156
        · have hcc_21 := c_21
          have hsp := hsp.trans (if_pos c_21)
          refine lv_iconst (v := 1) hx hb eX6_findsGreatest_151 (by decide) ?_
          refine lv_goto (tgt := 156) hx hb eX6_findsGreatest_152 (by decide) ?_
          exact W.zret (v := 1) (ty := .boolean) hx hb hr (rfl) (fun t ht hW => ⟨⟨1, (), rfl, ⟨1, (Nat.le_of_ble_eq_true rfl), rfl, (congrArg Prod.fst (hsp.symm.trans hRR))⟩, ⟨g_15, ⟨by rw [ht]; exact hP, va_K.moved hW.alike hK, hD⟩, (congrArg Prod.snd (hsp.symm.trans hRR))⟩⟩, hS.F ht⟩) hS.2.2 eX6_findsGreatest_156
    have hsp := hJR_17
    obtain ⟨lf_29, dlf_29, hlf_29, hsp⟩ := itr_ex hsp
    delta sp_E_6_findsGreatest_L2 at hlf_29
    refine pu_while (fun nn H locs ls => ∃ (g_25 : Nat → Int32) (g_26 : Int32) (g_27 : Nat), nn = 121 - g_27 ∧ g_27 ≤ 121 ∧ JR_17 = itrv dlf_29 lf_29 (g_25, g_26, g_27) ∧ va_P (dC, dI) vwCl (ti__w ti r0 (nI ln) r2 r3 r4 r5 (nI nr) r7 r8 tz k_j0 (bN 13 q_j0) k_j2 g_25 k_j3 (bN 120 q_j3) k_j4 (bN 120 q_j4) k_j5 j5 k_j7 (bN 120 q_j7) k_j8 j8) H ∧ va_D A (ti__w ti r0 (nI ln) r2 r3 r4 r5 (nI nr) r7 r8 tz k_j0 (bN 13 q_j0) k_j2 g_25 k_j3 (bN 120 q_j3) k_j4 (bN 120 q_j4) k_j5 j5 k_j7 (bN 120 q_j7) k_j8 j8) ∧ va_S A s.heap H locs ∧ lv_has ls 6 [(0, .ref ti), (1, .int p0), (2, .int g_26), (3, .int (nI g_27))]) 34 ?_ _ _ _ _ ⟨g_4, 1, 0, rfl, (Nat.le_of_ble_eq_true rfl), hsp, hP, hD, hS, lv_sub hl [2, 3, 1, 0] rfl⟩
    rintro nn ih_28 H locs ls ⟨g_25, g_26, g_27, rfl, hg_27, he_31, hP, hD, hS, hl⟩
    obtain ⟨S_30, hsp, hin_32, hout_33⟩ := itr_step hlf_29 he_31
    refine lv_iload_n hx hb eX6_findsGreatest_34 rfl (lv_at hl 3 rfl) ?_
    refine lv_aload_n hx hb eX6_findsGreatest_35 rfl (lv_at hl 0 rfl) ?_
    refine va_get (D := (dC, dI)) (ci := 6) (v := .int (nI ln)) (C := RX6) (T := TX6) (N := 10) hx hb hts hiX6 hown hK hP 0 rfl rfl 1 (by decide) v_2 (fun _ h9 => h9) rfl eX6_findsGreatest_36 ?_
    refine lv_iconst (v := 1) hx hb eX6_findsGreatest_39 (by decide) ?_
    refine lv_iadd hx hb eX6_findsGreatest_40 ?_
    refine lv_topi (fun y_34 ey_34 => ?_)
    obtain rfl : y_34 = (nI (ln + 1)) := ey_34.trans (nI_add ln 1)
    refine lv_icmp_gt (tgt := 138) hx hb eX6_findsGreatest_41 (by decide) (fun c_35 => ?_) (fun c_35 => ?_)
    · have c_35 : (ln + 1) < g_27 := (nI_ltI (a := (ln + 1)) (b := g_27) (by omega) (Nat.lt_of_le_of_lt hg_27 (Nat.le_of_ble_eq_true rfl))).mp c_35
      have hsp := hsp.trans (if_pos c_35)
      have hsp := hout_33 _ hsp
      exact j_16 _ _ _ _ ⟨g_26, g_27, g_25, rfl, hg_27, hsp.symm, hP, hD, hS, lv_sub hl [0, 1, 2, 3] rfl⟩
    · have c_35 : ¬ (ln + 1) < g_27 := fun z => c_35 ((nI_ltI (a := (ln + 1)) (b := g_27) (by omega) (Nat.lt_of_le_of_lt hg_27 (Nat.le_of_ble_eq_true rfl))).mpr z)
      have hsp := hsp.trans (if_neg c_35)
      refine lv_iload_n hx hb eX6_findsGreatest_44 rfl (lv_at hl 2 rfl) ?_
      refine lv_if_eq (tgt := 138) hx hb eX6_findsGreatest_45 (by decide) (fun c_36 => ?_) (fun c_36 => ?_)
      · have hcc_36 := c_36
        have hsp := hsp.trans (if_pos c_36)
        have hsp := hout_33 _ hsp
        exact j_16 _ _ _ _ ⟨g_26, g_27, g_25, rfl, hg_27, hsp.symm, hP, hD, hS, lv_sub hl [0, 1, 2, 3] rfl⟩
      · have hcc_36 := c_36
        have hsp := hsp.trans (if_neg c_36)
        refine lv_aload_n hx hb eX6_findsGreatest_48 rfl (lv_at hl 0 rfl) ?_
        refine va_get (D := (dC, dI)) (ci := 6) (v := .ref r2) (C := RX6) (T := TX6) (N := 10) hx hb hts hiX6 hown hK hP 0 rfl rfl 2 (by decide) v_1 (fun _ h9 => h9) rfl eX6_findsGreatest_49 ?_
        refine lv_iconst (v := 0) hx hb eX6_findsGreatest_52 (by decide) ?_
        refine va_iald hx hb hK hP 2 1 rfl rfl (vp_in_nI (n := 0) (Nat.le_of_ble_eq_true rfl) (Nat.le_of_ble_eq_true rfl)) eX6_findsGreatest_53 ?_
        refine lv_topi (fun y_37 ey_37 => ?_)
        have ey_37 : y_37 = g_25 0 := ey_37.trans (congrArg g_25 (nI_clamp (n := 0) (Nat.le_of_ble_eq_true rfl)))
        have hsp := hsp.trans (slet_eq ey_37)
        refine lv_if_ne (tgt := 138) hx hb eX6_findsGreatest_54 (by decide) (fun c_38 => ?_) (fun c_38 => ?_)
        · have hcc_38 := c_38
          have hsp := hsp.trans (if_neg c_38)
          have hsp := hout_33 _ hsp
          exact j_16 _ _ _ _ ⟨g_26, g_27, g_25, rfl, hg_27, hsp.symm, hP, hD, hS, lv_sub hl [0, 1, 2, 3] rfl⟩
        · have hcc_38 := c_38
          have hsp := hsp.trans (if_pos c_38)
          refine lv_iconst (v := 0) hx hb eX6_findsGreatest_57 (by decide) ?_
          refine lv_istore_n (lv' := [(2, .int 0), (0, .ref ti), (1, .int p0), (3, .int (nI g_27))]) hx hb eX6_findsGreatest_58 rfl hl (by decide) rfl (fun ls hl => ?_)
          refine lv_iconst (v := 0) hx hb eX6_findsGreatest_59 (by decide) ?_
          refine lv_istore (lv' := [(4, .int 0), (2, .int 0), (0, .ref ti), (1, .int p0), (3, .int (nI g_27))]) hx hb eX6_findsGreatest_60 hl (by decide) rfl (fun ls hl => ?_)
          obtain ⟨lf_46, dlf_46, hlf_46, hsp⟩ := itr_ex hsp
          delta sp_E_6_findsGreatest_L1 at hlf_46
          refine pu_while (fun nn H locs ls => ∃ (g_42 : Nat → Int32) (g_43 : Int32) (g_44 : Nat), nn = 1920 - g_44 ∧ g_44 ≤ 1920 ∧ S_30 = itrv dlf_46 lf_46 (g_42, g_43, g_44) ∧ va_P (dC, dI) vwCl (ti__w ti r0 (nI ln) r2 r3 r4 r5 (nI nr) r7 r8 tz k_j0 (bN 13 q_j0) k_j2 g_42 k_j3 (bN 120 q_j3) k_j4 (bN 120 q_j4) k_j5 j5 k_j7 (bN 120 q_j7) k_j8 j8) H ∧ va_D A (ti__w ti r0 (nI ln) r2 r3 r4 r5 (nI nr) r7 r8 tz k_j0 (bN 13 q_j0) k_j2 g_42 k_j3 (bN 120 q_j3) k_j4 (bN 120 q_j4) k_j5 j5 k_j7 (bN 120 q_j7) k_j8 j8) ∧ va_S A s.heap H locs ∧ lv_has ls 6 [(0, .ref ti), (1, .int p0), (2, .int g_43), (3, .int (nI g_27)), (4, .int (nI g_44))]) 62 ?_ _ _ _ _ ⟨g_25, 0, 0, rfl, (Nat.le_of_ble_eq_true rfl), hsp, hP, hD, hS, lv_sub hl [2, 3, 1, 4, 0] rfl⟩
          rintro nn ih_45 H locs ls ⟨g_42, g_43, g_44, rfl, hg_44, he_48, hP, hD, hS, hl⟩
          obtain ⟨S_47, hsp, hin_49, hout_50⟩ := itr_step hlf_46 he_48
          refine lv_iload hx hb eX6_findsGreatest_62 (lv_at hl 4 rfl) ?_
          refine lv_aload_n hx hb eX6_findsGreatest_64 rfl (lv_at hl 0 rfl) ?_
          refine va_get (D := (dC, dI)) (ci := 6) (v := .int (nI nr)) (C := RX6) (T := TX6) (N := 10) hx hb hts hiX6 hown hK hP 0 rfl rfl 6 (by decide) v_3 (fun _ h9 => h9) rfl eX6_findsGreatest_65 ?_
          refine lv_icmp_ge (tgt := 132) hx hb eX6_findsGreatest_68 (by decide) (fun c_51 => ?_) (fun c_51 => ?_)
          · have c_51 : nr ≤ g_44 := (nI_leI (a := nr) (b := g_44) (Nat.lt_of_le_of_lt hnr (Nat.le_of_ble_eq_true rfl)) (Nat.lt_of_le_of_lt hg_44 (Nat.le_of_ble_eq_true rfl))).mp c_51
            have hsp := hsp.trans (if_pos c_51)
            have hsp := hout_50 _ hsp
            refine lv_iinc (v := (nI (g_27 + 1))) (lv' := [(3, .int (nI (g_27 + 1))), (0, .ref ti), (1, .int p0), (2, .int g_43), (4, .int (nI g_44))]) hx hb eX6_findsGreatest_132 hl (k := 3) rfl (nI_1 _) (by decide) rfl (fun ls hl => ?_)
            refine lv_goto (tgt := 34) hx hb eX6_findsGreatest_135 (by decide) ?_
            exact ih_28 (121 - (g_27 + 1)) (by omega) _ _ _ ⟨g_42, g_43, (g_27 + 1), rfl, (by omega), hin_32 _ hsp, hP, hD, hS, lv_sub hl [1, 2, 3, 0] rfl⟩
          · have c_51 : ¬ nr ≤ g_44 := fun z => c_51 ((nI_leI (a := nr) (b := g_44) (Nat.lt_of_le_of_lt hnr (Nat.le_of_ble_eq_true rfl)) (Nat.lt_of_le_of_lt hg_44 (Nat.le_of_ble_eq_true rfl))).mpr z)
            have hsp := hsp.trans (if_neg c_51)
            refine lv_aload_n hx hb eX6_findsGreatest_71 rfl (lv_at hl 0 rfl) ?_
            refine va_get (D := (dC, dI)) (ci := 6) (v := .ref r2) (C := RX6) (T := TX6) (N := 10) hx hb hts hiX6 hown hK hP 0 rfl rfl 2 (by decide) v_1 (fun _ h9 => h9) rfl eX6_findsGreatest_72 ?_
            refine lv_aload_n hx hb eX6_findsGreatest_75 rfl (lv_at hl 0 rfl) ?_
            refine va_get (D := (dC, dI)) (ci := 6) (v := .ref r3) (C := RX6) (T := TX6) (N := 10) hx hb hts hiX6 hown hK hP 0 rfl rfl 3 (by decide) v_4 (fun _ h9 => h9) rfl eX6_findsGreatest_76 ?_
            refine lv_iload hx hb eX6_findsGreatest_79 (lv_at hl 4 rfl) ?_
            refine va_iald hx hb hK hP 3 2 rfl rfl (vp_in_nI (n := g_44) (by omega) (Nat.le_of_ble_eq_true rfl)) eX6_findsGreatest_81 ?_
            refine lv_topi (fun y_52 ey_52 => ?_)
            obtain ⟨u_53, hu_53, qu_53, xu_53⟩ := bN_getx 120 q_j3 (n := g_44) (Nat.lt_of_le_of_lt hg_44 (Nat.le_of_ble_eq_true rfl))
            obtain rfl : y_52 = nI u_53 := ey_52.trans qu_53
            have hsp := hsp.trans (slet_eq xu_53)
            refine va_iald hx hb hK hP 2 1 rfl rfl (vp_in_nI (n := u_53) (Nat.lt_of_le_of_lt hu_53 (Nat.le_of_ble_eq_true rfl)) (Nat.le_of_ble_eq_true rfl)) eX6_findsGreatest_82 ?_
            refine lv_topi (fun y_54 ey_54 => ?_)
            have ey_54 : y_54 = g_42 u_53 := ey_54.trans (congrArg g_42 (nI_clamp (n := u_53) (Nat.lt_of_le_of_lt hu_53 (Nat.le_of_ble_eq_true rfl))))
            have hsp := hsp.trans (slet_eq ey_54)
            refine lv_aload_n hx hb eX6_findsGreatest_83 rfl (lv_at hl 0 rfl) ?_
            refine va_get (D := (dC, dI)) (ci := 6) (v := .ref r5) (C := RX6) (T := TX6) (N := 10) hx hb hts hiX6 hown hK hP 0 rfl rfl 5 (by decide) v_5 (fun _ h9 => h9) rfl eX6_findsGreatest_84 ?_
            refine lv_iload hx hb eX6_findsGreatest_87 (lv_at hl 4 rfl) ?_
            refine va_iald hx hb hK hP 5 4 rfl rfl (vp_in_nI (n := g_44) (by omega) (Nat.le_of_ble_eq_true rfl)) eX6_findsGreatest_89 ?_
            refine lv_topi (fun y_55 ey_55 => ?_)
            have ey_55 : y_55 = j5 g_44 := ey_55.trans (congrArg j5 (nI_clamp (n := g_44) (Nat.lt_of_le_of_lt hg_44 (Nat.le_of_ble_eq_true rfl))))
            have hsp := hsp.trans (slet_eq ey_55)
            refine lv_isub hx hb eX6_findsGreatest_90 ?_
            refine lv_topi (fun y_56 ey_56 => ?_)
            have hsp := hsp.trans (slet_eq ey_56)
            refine lv_istore (lv' := [(5, .int y_56), (0, .ref ti), (1, .int p0), (2, .int g_43), (3, .int (nI g_27)), (4, .int (nI g_44))]) hx hb eX6_findsGreatest_91 hl (by decide) rfl (fun ls hl => ?_)
            refine lv_iload hx hb eX6_findsGreatest_93 (lv_at hl 0 rfl) ?_
            refine lv_aload_n hx hb eX6_findsGreatest_95 rfl (lv_at hl 1 rfl) ?_
            refine va_get (D := (dC, dI)) (ci := 6) (v := .ref r2) (C := RX6) (T := TX6) (N := 10) hx hb hts hiX6 hown hK hP 0 rfl rfl 2 (by decide) v_1 (fun _ h9 => h9) rfl eX6_findsGreatest_96 ?_
            refine lv_aload_n hx hb eX6_findsGreatest_99 rfl (lv_at hl 1 rfl) ?_
            refine va_get (D := (dC, dI)) (ci := 6) (v := .ref r4) (C := RX6) (T := TX6) (N := 10) hx hb hts hiX6 hown hK hP 0 rfl rfl 4 (by decide) v_6 (fun _ h9 => h9) rfl eX6_findsGreatest_100 ?_
            refine lv_iload hx hb eX6_findsGreatest_103 (lv_at hl 5 rfl) ?_
            refine va_iald hx hb hK hP 4 3 rfl rfl (vp_in_nI (n := g_44) (by omega) (Nat.le_of_ble_eq_true rfl)) eX6_findsGreatest_105 ?_
            refine lv_topi (fun y_57 ey_57 => ?_)
            obtain ⟨u_58, hu_58, qu_58, xu_58⟩ := bN_getx 120 q_j4 (n := g_44) (Nat.lt_of_le_of_lt hg_44 (Nat.le_of_ble_eq_true rfl))
            obtain rfl : y_57 = nI u_58 := ey_57.trans qu_58
            have hsp := hsp.trans (slet_eq xu_58)
            refine va_iald hx hb hK hP 2 1 rfl rfl (vp_in_nI (n := u_58) (Nat.lt_of_le_of_lt hu_58 (Nat.le_of_ble_eq_true rfl)) (Nat.le_of_ble_eq_true rfl)) eX6_findsGreatest_106 ?_
            refine lv_topi (fun y_59 ey_59 => ?_)
            have ey_59 : y_59 = g_42 u_58 := ey_59.trans (congrArg g_42 (nI_clamp (n := u_58) (Nat.lt_of_le_of_lt hu_58 (Nat.le_of_ble_eq_true rfl))))
            have hsp := hsp.trans (slet_eq ey_59)
            obtain ⟨JR_63, hJR_63, hsp⟩ := slet_ex hsp
            refine pu_join (fun H locs ls st => ∃ (g_60 : Int32) (g_61 : Nat → Int32), st = [] ∧ (g_60, g_61) = JR_63 ∧ va_P (dC, dI) vwCl (ti__w ti r0 (nI ln) r2 r3 r4 r5 (nI nr) r7 r8 tz k_j0 (bN 13 q_j0) k_j2 g_61 k_j3 (bN 120 q_j3) k_j4 (bN 120 q_j4) k_j5 j5 k_j7 (bN 120 q_j7) k_j8 j8) H ∧ va_D A (ti__w ti r0 (nI ln) r2 r3 r4 r5 (nI nr) r7 r8 tz k_j0 (bN 13 q_j0) k_j2 g_61 k_j3 (bN 120 q_j3) k_j4 (bN 120 q_j4) k_j5 j5 k_j7 (bN 120 q_j7) k_j8 j8) ∧ va_S A s.heap H locs ∧ lv_has ls 6 [(0, .ref ti), (1, .int p0), (2, .int g_60), (3, .int (nI g_27)), (4, .int (nI g_44)), (5, .int y_56)]) 126 ?_ (fun j_62 => ?_)
            · rintro H locs ls st ⟨g_60, g_61, rfl, he_64, hP, hD, hS, hl⟩
              rw [← he_64] at hsp
              refine lv_iinc (v := (nI (g_44 + 1))) (lv' := [(4, .int (nI (g_44 + 1))), (0, .ref ti), (1, .int p0), (2, .int g_60), (3, .int (nI g_27)), (5, .int y_56)]) hx hb eX6_findsGreatest_126 hl (k := 4) rfl (nI_1 _) (by decide) rfl (fun ls hl => ?_)
              refine lv_goto (tgt := 62) hx hb eX6_findsGreatest_129 (by decide) ?_
              exact ih_45 (1920 - (g_44 + 1)) (by omega) _ _ _ ⟨g_61, g_60, (g_44 + 1), rfl, (by omega), hin_49 _ hsp, hP, hD, hS, lv_sub hl [1, 2, 3, 4, 0] rfl⟩
            have hsp := hJR_63
            refine lv_icmp_ge (tgt := 126) hx hb eX6_findsGreatest_107 (by decide) (fun c_65 => ?_) (fun c_65 => ?_)
            · have hcc_65 := c_65
              have hsp := hsp.trans (if_pos c_65)
              exact j_62 _ _ _ _ ⟨g_43, g_42, rfl, hsp.symm, hP, hD, hS, lv_sub hl [1, 2, 3, 4, 5, 0] rfl⟩
            · have hcc_65 := c_65
              have hsp := hsp.trans (if_neg c_65)
              refine lv_aload_n hx hb eX6_findsGreatest_110 rfl (lv_at hl 1 rfl) ?_
              refine va_get (D := (dC, dI)) (ci := 6) (v := .ref r2) (C := RX6) (T := TX6) (N := 10) hx hb hts hiX6 hown hK hP 0 rfl rfl 2 (by decide) v_1 (fun _ h9 => h9) rfl eX6_findsGreatest_111 ?_
              refine lv_aload_n hx hb eX6_findsGreatest_114 rfl (lv_at hl 1 rfl) ?_
              refine va_get (D := (dC, dI)) (ci := 6) (v := .ref r4) (C := RX6) (T := TX6) (N := 10) hx hb hts hiX6 hown hK hP 0 rfl rfl 4 (by decide) v_6 (fun _ h9 => h9) rfl eX6_findsGreatest_115 ?_
              refine lv_iload hx hb eX6_findsGreatest_118 (lv_at hl 5 rfl) ?_
              refine va_iald hx hb hK hP 4 3 rfl rfl (vp_in_nI (n := g_44) (by omega) (Nat.le_of_ble_eq_true rfl)) eX6_findsGreatest_120 ?_
              refine lv_topi (fun y_66 ey_66 => ?_)
              obtain rfl : y_66 = nI u_58 := ey_66.trans qu_58
              refine lv_iload hx hb eX6_findsGreatest_121 (lv_at hl 0 rfl) ?_
              refine va_iast hx hb hK hP hD hS 2 1 rfl rfl (vp_in_nI (n := u_58) (Nat.lt_of_le_of_lt hu_58 (Nat.le_of_ble_eq_true rfl)) (Nat.le_of_ble_eq_true rfl)) eX6_findsGreatest_123 (fun H locs hP hD hS => ?_)
              obtain ⟨f_68, ef_68, xf_68⟩ := up_x g_42 (n := u_58) y_56 (Nat.lt_of_le_of_lt hu_58 (Nat.le_of_ble_eq_true rfl))
              have hP : va_P (dC, dI) vwCl (ti__w ti r0 (nI ln) r2 r3 r4 r5 (nI nr) r7 r8 tz k_j0 (bN 13 q_j0) k_j2 f_68 k_j3 (bN 120 q_j3) k_j4 (bN 120 q_j4) k_j5 j5 k_j7 (bN 120 q_j7) k_j8 j8) H := by rw [← ef_68]; exact hP
              have hD : va_D A (ti__w ti r0 (nI ln) r2 r3 r4 r5 (nI nr) r7 r8 tz k_j0 (bN 13 q_j0) k_j2 f_68 k_j3 (bN 120 q_j3) k_j4 (bN 120 q_j4) k_j5 j5 k_j7 (bN 120 q_j7) k_j8 j8) := by rw [← ef_68]; exact hD
              have hsp := hsp.trans (slet_eq xf_68)
              refine lv_iconst (v := 1) hx hb eX6_findsGreatest_124 (by decide) ?_
              refine lv_istore_n (lv' := [(2, .int 1), (5, .int y_56), (0, .ref ti), (1, .int p0), (3, .int (nI g_27)), (4, .int (nI g_44))]) hx hb eX6_findsGreatest_125 rfl hl (by decide) rfl (fun ls hl => ?_)
              exact j_62 _ _ _ _ ⟨1, f_68, rfl, hsp.symm, hP, hD, hS, lv_sub hl [2, 3, 0, 4, 5, 1] rfl⟩
  · have c_12 : ¬ ln < g_5 := fun z => c_12 ((nI_ltI (a := ln) (b := g_5) (Nat.lt_of_le_of_lt hln (Nat.le_of_ble_eq_true rfl)) (Nat.lt_of_le_of_lt hg_5.2 (Nat.le_of_ble_eq_true rfl))).mpr z)
    have hsp := hsp.trans (if_neg c_12)
    refine lv_aload_n hx hb eX6_findsGreatest_17 rfl (lv_at hl 0 rfl) ?_
    refine va_get (D := (dC, dI)) (ci := 6) (v := .ref r2) (C := RX6) (T := TX6) (N := 10) hx hb hts hiX6 hown hK hP 0 rfl rfl 2 (by decide) v_1 (fun _ h9 => h9) rfl eX6_findsGreatest_18 ?_
    refine lv_iload_n hx hb eX6_findsGreatest_21 rfl (lv_at hl 2 rfl) ?_
    refine lv_iload_n hx hb eX6_findsGreatest_22 rfl (lv_at hl 1 rfl) ?_
    refine va_iast hx hb hK hP hD hS 2 1 rfl rfl (vp_in_nI (n := g_5) (Nat.lt_of_le_of_lt hg_5.2 (Nat.le_of_ble_eq_true rfl)) (Nat.le_of_ble_eq_true rfl)) eX6_findsGreatest_23 (fun H locs hP hD hS => ?_)
    obtain ⟨f_69, ef_69, xf_69⟩ := up_x g_4 (n := g_5) p0 (Nat.lt_of_le_of_lt hg_5.2 (Nat.le_of_ble_eq_true rfl))
    have hP : va_P (dC, dI) vwCl (ti__w ti r0 (nI ln) r2 r3 r4 r5 (nI nr) r7 r8 tz k_j0 (bN 13 q_j0) k_j2 f_69 k_j3 (bN 120 q_j3) k_j4 (bN 120 q_j4) k_j5 j5 k_j7 (bN 120 q_j7) k_j8 j8) H := by rw [← ef_69]; exact hP
    have hD : va_D A (ti__w ti r0 (nI ln) r2 r3 r4 r5 (nI nr) r7 r8 tz k_j0 (bN 13 q_j0) k_j2 f_69 k_j3 (bN 120 q_j3) k_j4 (bN 120 q_j4) k_j5 j5 k_j7 (bN 120 q_j7) k_j8 j8) := by rw [← ef_69]; exact hD
    have hsp := hsp.trans (slet_eq xf_69)
    refine lv_iinc (v := (nI (g_5 + 1))) (lv' := [(2, .int (nI (g_5 + 1))), (0, .ref ti), (1, .int p0)]) hx hb eX6_findsGreatest_24 hl (k := 2) rfl (nI_1 _) (by decide) rfl (fun ls hl => ?_)
    refine lv_goto (tgt := 9) hx hb eX6_findsGreatest_27 (by decide) ?_
    exact ih_6 (120 - (g_5 + 1)) (by omega) _ _ _ ⟨f_69, (g_5 + 1), rfl, ⟨by omega, by omega⟩, hin_10 _ hsp, hP, hD, hS, lv_sub hl [1, 2, 0] rfl⟩
theorem eX6_clockBehind_0 : decode cX6_clockBehind 0 = .ok (.iconst 0, 1) := by decide +kernel
theorem eX6_clockBehind_1 : decode cX6_clockBehind 1 = .ok (.istore 4, 2) := by decide +kernel
theorem eX6_clockBehind_3 : decode cX6_clockBehind 3 = .ok (.iconst 0, 1) := by decide +kernel
theorem eX6_clockBehind_4 : decode cX6_clockBehind 4 = .ok (.istore 5, 2) := by decide +kernel
theorem eX6_clockBehind_6 : decode cX6_clockBehind 6 = .ok (.iload 5, 2) := by decide +kernel
theorem eX6_clockBehind_8 : decode cX6_clockBehind 8 = .ok (.iload_n 2, 1) := by decide +kernel
theorem eX6_clockBehind_9 : decode cX6_clockBehind 9 = .ok (.if_icmp .gt 35, 3) := by decide +kernel
theorem eX6_clockBehind_12 : decode cX6_clockBehind 12 = .ok (.aload_n 1, 1) := by decide +kernel
theorem eX6_clockBehind_13 : decode cX6_clockBehind 13 = .ok (.getfield 87, 3) := by decide +kernel
theorem eX6_clockBehind_16 : decode cX6_clockBehind 16 = .ok (.aload_n 0, 1) := by decide +kernel
theorem eX6_clockBehind_17 : decode cX6_clockBehind 17 = .ok (.getfield 9, 3) := by decide +kernel
theorem eX6_clockBehind_20 : decode cX6_clockBehind 20 = .ok (.iload 5, 2) := by decide +kernel
theorem eX6_clockBehind_22 : decode cX6_clockBehind 22 = .ok (.iaload, 1) := by decide +kernel
theorem eX6_clockBehind_23 : decode cX6_clockBehind 23 = .ok (.iaload, 1) := by decide +kernel
theorem eX6_clockBehind_24 : decode cX6_clockBehind 24 = .ok (.iload_n 3, 1) := by decide +kernel
theorem eX6_clockBehind_25 : decode cX6_clockBehind 25 = .ok (.ishr, 1) := by decide +kernel
theorem eX6_clockBehind_26 : decode cX6_clockBehind 26 = .ok (.iconst 1, 1) := by decide +kernel
theorem eX6_clockBehind_27 : decode cX6_clockBehind 27 = .ok (.iand, 1) := by decide +kernel
theorem eX6_clockBehind_28 : decode cX6_clockBehind 28 = .ok (.iconst 1, 1) := by decide +kernel
theorem eX6_clockBehind_29 : decode cX6_clockBehind 29 = .ok (.if_icmp .ne 9, 3) := by decide +kernel
theorem eX6_clockBehind_32 : decode cX6_clockBehind 32 = .ok (.iload 5, 2) := by decide +kernel
theorem eX6_clockBehind_34 : decode cX6_clockBehind 34 = .ok (.iconst 1, 1) := by decide +kernel
theorem eX6_clockBehind_35 : decode cX6_clockBehind 35 = .ok (.iadd, 1) := by decide +kernel
theorem eX6_clockBehind_36 : decode cX6_clockBehind 36 = .ok (.istore 4, 2) := by decide +kernel
theorem eX6_clockBehind_38 : decode cX6_clockBehind 38 = .ok (.iinc 5 1, 3) := by decide +kernel
theorem eX6_clockBehind_41 : decode cX6_clockBehind 41 = .ok (.goto (-35), 3) := by decide +kernel
theorem eX6_clockBehind_44 : decode cX6_clockBehind 44 = .ok (.aload_n 0, 1) := by decide +kernel
theorem eX6_clockBehind_45 : decode cX6_clockBehind 45 = .ok (.getfield 15, 3) := by decide +kernel
theorem eX6_clockBehind_48 : decode cX6_clockBehind 48 = .ok (.iload_n 2, 1) := by decide +kernel
theorem eX6_clockBehind_49 : decode cX6_clockBehind 49 = .ok (.iconst 1, 1) := by decide +kernel
theorem eX6_clockBehind_50 : decode cX6_clockBehind 50 = .ok (.iadd, 1) := by decide +kernel
theorem eX6_clockBehind_51 : decode cX6_clockBehind 51 = .ok (.iaload, 1) := by decide +kernel
theorem eX6_clockBehind_52 : decode cX6_clockBehind 52 = .ok (.aload_n 0, 1) := by decide +kernel
theorem eX6_clockBehind_53 : decode cX6_clockBehind 53 = .ok (.getfield 15, 3) := by decide +kernel
theorem eX6_clockBehind_56 : decode cX6_clockBehind 56 = .ok (.iload 4, 2) := by decide +kernel
theorem eX6_clockBehind_58 : decode cX6_clockBehind 58 = .ok (.iaload, 1) := by decide +kernel
theorem eX6_clockBehind_59 : decode cX6_clockBehind 59 = .ok (.isub, 1) := by decide +kernel
theorem eX6_clockBehind_60 : decode cX6_clockBehind 60 = .ok (.ireturn, 1) := by decide +kernel
abbrev vs_E_6_clockBehind : List Cond := .code yX6_clockBehind cX6_clockBehind 6 (some .int) :: CM
noncomputable def sp_E_6_clockBehind_L1 (q_j0 : Nat → Nat) (j2 : Nat → Int32) (f7 : Nat → Int32) (a1 : Nat) (a2 : Nat) : (Nat × Nat) → (Nat × Nat) ⊕ (Int32) := fun (g_3, g_4) => (if a1 < g_4 then (Sum.inr (slet (j2 (a1 + 1)) (fun y_13 => (slet (j2 g_3) (fun y_14 => (slet ((y_13 : Int32) - y_14) (fun y_15 => y_15))))))) else (slet (min (q_j0 g_4) 13) (fun u_17 => (slet (f7 u_17) (fun y_18 => (slet ((y_18 : Int32) >>> (((nI a2) : Int32) &&& 31)) (fun y_19 => (slet ((y_19 : Int32) &&& (1 : Int32)) (fun y_20 => (slet (α := Nat) (if (y_20 : Int32) = 1 then (g_4 + 1) else g_3) (fun g_21 => (Sum.inl (g_21, (g_4 + 1))))))))))))))
noncomputable def sp_E_6_clockBehind (q_j0 : Nat → Nat) (j2 : Nat → Int32) (f7 : Nat → Int32) (a1 : Nat) (a2 : Nat) : Int32 := (itrv (α := Nat × Nat) (β := (Int32)) default (sp_E_6_clockBehind_L1 q_j0 j2 f7 a1 a2) (0, 0))
set_option maxHeartbeats 4000000 in
set_option maxRecDepth 100000 in
theorem c_E_6_clockBehind (l : Launch) (dC : Nat → ClassId) (dI : Nat → Nat → Nat) (sz : Nat) (ti : Nat) (r0 : Nat) (ln : Nat) (r2 : Nat) (r3 : Nat) (r4 : Nat) (r5 : Nat) (nr : Nat) (r7 : Nat) (r8 : Nat) (tz : Nat) (k_j0 : ClassId) (q_j0 : Nat → Nat) (k_j2 : ClassId) (j2 : Nat → Int32) (k_j3 : ClassId) (q_j3 : Nat → Nat) (k_j4 : ClassId) (q_j4 : Nat → Nat) (k_j5 : ClassId) (j5 : Nat → Int32) (k_j7 : ClassId) (q_j7 : Nat → Nat) (k_j8 : ClassId) (j8 : Nat → Int32) (au : Nat) (nc : Nat) (np : Nat) (ne : Nat) (st0 : Int32) (q4 : Nat) (q5 : Nat) (q6 : Nat) (q7 : Nat) (q8 : Nat) (q9 : Nat) (q10 : Nat) (q11 : Nat) (q12 : Nat) (q13 : Nat) (q14 : Nat) (q15 : Nat) (q16 : Nat) (k_f4 : ClassId) (f4 : Nat → Int32) (k_f5 : ClassId) (q_f5 : Nat → Nat) (k_f6 : ClassId) (q_f6 : Nat → Nat) (k_f7 : ClassId) (f7 : Nat → Int32) (k_f8 : ClassId) (q_f8 : Nat → Nat) (k_f9 : ClassId) (q_f9 : Nat → Nat) (k_f10 : ClassId) (f10 : Nat → Int32) (k_f11 : ClassId) (f11 : Nat → Int32) (k_f12 : ClassId) (f12 : Nat → Int32) (k_f13 : ClassId) (f13 : Nat → Int32) (k_f14 : ClassId) (f14 : Nat → Int32) (k_f15 : ClassId) (f15 : Nat → Int32) (k_f16 : ClassId) (f16 : Nat → Int32) (a1 : Nat) (a2 : Nat) (hln : ln ≤ 119) (hnr : nr ≤ 1920) (hnc : nc ≤ 3) (hnp : np ≤ 8) (hne : ne ≤ 14) (hst0 : pm1 7 st0) (ha1 : a1 ≤ 118) (ha2 : a2 ≤ 2) : Met l yX6_clockBehind vs_E_6_clockBehind ({ frames := 0, cells := 0, slots := 0, locals := 0 }) (va_Pc [.ref ti, .ref au, .int (nI a1), .int (nI a2)] (pu_B (dC, dI) (ta__w ti r0 (nI ln) r2 r3 r4 r5 (nI nr) r7 r8 tz k_j0 (bN 13 q_j0) k_j2 j2 k_j3 (bN 120 q_j3) k_j4 (bN 120 q_j4) k_j5 j5 k_j7 (bN 120 q_j7) k_j8 j8 au (nI nc) (nI np) (nI ne) st0 q4 q5 q6 q7 q8 q9 q10 q11 q12 q13 q14 q15 q16 k_f4 f4 k_f5 (bN 7 q_f5) k_f6 (bN 7 q_f6) k_f7 f7 k_f8 (bN 4 q_f8) k_f9 (bN 2 q_f9) k_f10 f10 k_f11 f11 k_f12 f12 k_f13 f13 k_f14 f14 k_f15 f15 k_f16 f16) (ta__t k_j0 k_j2 k_j3 k_j4 k_j5 k_j7 k_j8 k_f4 k_f5 k_f6 k_f7 k_f8 k_f9 k_f10 k_f11 k_f12 k_f13 k_f14 k_f15 k_f16) sz)) (va_Qi (fun (r : Int32) (_ : Unit) => r = (sp_E_6_clockBehind q_j0 j2 f7 a1 a2)) (fun _ _ => True) (va_A [] sz)) 0 0 (va_A [] sz) := by
  refine Met.ofW (cc := cX6_clockBehind) (maxL := 6) (ret := (some .int)) (by decide) rfl ?_
  intro p e s m args below meth c s₁ B hml hv
  obtain ⟨rfl, rfl, hP, hK, hD0⟩ := hv
  have hx := B.exec
  have hb := B.bytes
  have hr := B.returns
  have hts := atoms_spec (ws := vs_E_6_clockBehind) B.pre
  have v_1 := hts (.fieldLink RX6 87 "ClockReach$Automaton" "resets" "[I") (List.mem_cons_of_mem _ cm_377)
  have v_2 := hts (.fieldLink RX6 9 "ClockReach$Timing" "path" "[I") (List.mem_cons_of_mem _ cm_367)
  have v_3 := hts (.fieldLink RX6 15 "ClockReach$Timing" "at" "[I") (List.mem_cons_of_mem _ cm_400)
  have hown : s.vm.findClass RX6 = some m.cls := findClass_of_methodNamed B.named
  have hlocks := B.notSynchronized
  have hiX0 : ∀ w ∈ wsX00, w ∈ vs_E_6_clockBehind := fun _ h => List.mem_cons_of_mem _ (cm_X0 h)
  have hiX6 : ∀ w ∈ wsX60, w ∈ vs_E_6_clockBehind := fun _ h => List.mem_cons_of_mem _ (cm_X6 h)
  have hD := hD0
  have hA : ∀ q : Nat, s.heap.size ≤ q → va_A [] s.heap.size q := fun _ h => Or.inr h
  have hS : va_S (va_A [] s.heap.size) s.heap s.heap [] := va_S.rf
  have hl := lv_entry ([.ref ti, .ref au, .int (nI a1), .int (nI a2)]) (n := 6) (Nat.le_of_ble_eq_true rfl)
  rw [lg_entry_eq]
  generalize (lg_sl ([.ref ti, .ref au, .int (nI a1), .int (nI a2)]) ++ List.replicate (6 - (lg_sl ([.ref ti, .ref au, .int (nI a1), .int (nI a2)])).length) Slot.unset).toArray = ls at hl ⊢
  have hl : lv_has ls 6 [(0, .ref ti), (1, .ref au), (2, .int (nI a1)), (3, .int (nI a2))] := hl
  obtain ⟨RR, hRR⟩ : ∃ x, x = (sp_E_6_clockBehind q_j0 j2 f7 a1 a2) := ⟨_, rfl⟩
  have hsp := hRR
  refine lv_iconst (v := 0) hx hb eX6_clockBehind_0 (by decide) ?_
  refine lv_istore (lv' := [(4, .int 0), (0, .ref ti), (1, .ref au), (2, .int (nI a1)), (3, .int (nI a2))]) hx hb eX6_clockBehind_1 hl (by decide) rfl (fun ls hl => ?_)
  refine lv_iconst (v := 0) hx hb eX6_clockBehind_3 (by decide) ?_
  refine lv_istore (lv' := [(5, .int 0), (4, .int 0), (0, .ref ti), (1, .ref au), (2, .int (nI a1)), (3, .int (nI a2))]) hx hb eX6_clockBehind_4 hl (by decide) rfl (fun ls hl => ?_)
  obtain ⟨lf_6, dlf_6, hlf_6, hsp⟩ := itr_ex hsp
  delta sp_E_6_clockBehind_L1 at hlf_6
  refine pu_while (fun nn H locs ls => ∃ (g_3 : Nat) (g_4 : Nat), nn = 119 - g_4 ∧ g_3 ≤ 119 ∧ g_4 ≤ 119 ∧ RR = itrv dlf_6 lf_6 (g_3, g_4) ∧ va_P (dC, dI) vwCl (ta__w ti r0 (nI ln) r2 r3 r4 r5 (nI nr) r7 r8 tz k_j0 (bN 13 q_j0) k_j2 j2 k_j3 (bN 120 q_j3) k_j4 (bN 120 q_j4) k_j5 j5 k_j7 (bN 120 q_j7) k_j8 j8 au (nI nc) (nI np) (nI ne) st0 q4 q5 q6 q7 q8 q9 q10 q11 q12 q13 q14 q15 q16 k_f4 f4 k_f5 (bN 7 q_f5) k_f6 (bN 7 q_f6) k_f7 f7 k_f8 (bN 4 q_f8) k_f9 (bN 2 q_f9) k_f10 f10 k_f11 f11 k_f12 f12 k_f13 f13 k_f14 f14 k_f15 f15 k_f16 f16) H ∧ va_D (fun _ => True) (ta__w ti r0 (nI ln) r2 r3 r4 r5 (nI nr) r7 r8 tz k_j0 (bN 13 q_j0) k_j2 j2 k_j3 (bN 120 q_j3) k_j4 (bN 120 q_j4) k_j5 j5 k_j7 (bN 120 q_j7) k_j8 j8 au (nI nc) (nI np) (nI ne) st0 q4 q5 q6 q7 q8 q9 q10 q11 q12 q13 q14 q15 q16 k_f4 f4 k_f5 (bN 7 q_f5) k_f6 (bN 7 q_f6) k_f7 f7 k_f8 (bN 4 q_f8) k_f9 (bN 2 q_f9) k_f10 f10 k_f11 f11 k_f12 f12 k_f13 f13 k_f14 f14 k_f15 f15 k_f16 f16) ∧ va_S (va_A [] s.heap.size) s.heap H locs ∧ lv_has ls 6 [(0, .ref ti), (1, .ref au), (2, .int (nI a1)), (3, .int (nI a2)), (4, .int (nI g_3)), (5, .int (nI g_4))]) 6 ?_ _ _ _ _ ⟨0, 0, rfl, (Nat.le_of_ble_eq_true rfl), (Nat.le_of_ble_eq_true rfl), hsp, hP, hD, hS, lv_sub hl [2, 3, 4, 5, 1, 0] rfl⟩
  rintro nn ih_5 H locs ls ⟨g_3, g_4, rfl, hg_3, hg_4, he_8, hP, hD, hS, hl⟩
  obtain ⟨S_7, hsp, hin_9, hout_10⟩ := itr_step hlf_6 he_8
  refine lv_iload hx hb eX6_clockBehind_6 (lv_at hl 5 rfl) ?_
  refine lv_iload_n hx hb eX6_clockBehind_8 rfl (lv_at hl 2 rfl) ?_
  refine lv_icmp_gt (tgt := 44) hx hb eX6_clockBehind_9 (by decide) (fun c_11 => ?_) (fun c_11 => ?_)
  · have c_11 : a1 < g_4 := (nI_ltI (a := a1) (b := g_4) (Nat.lt_of_le_of_lt ha1 (Nat.le_of_ble_eq_true rfl)) (Nat.lt_of_le_of_lt hg_4 (Nat.le_of_ble_eq_true rfl))).mp c_11
    have hsp := hsp.trans (if_pos c_11)
    have hsp := hout_10 _ hsp
    refine lv_aload_n hx hb eX6_clockBehind_44 rfl (lv_at hl 0 rfl) ?_
    refine va_get (D := (dC, dI)) (ci := 6) (v := .ref r2) (C := RX6) (T := TX6) (N := 10) hx hb hts hiX6 hown hK hP 0 rfl rfl 2 (by decide) v_3 (fun _ h9 => h9) rfl eX6_clockBehind_45 ?_
    refine lv_iload_n hx hb eX6_clockBehind_48 rfl (lv_at hl 2 rfl) ?_
    refine lv_iconst (v := 1) hx hb eX6_clockBehind_49 (by decide) ?_
    refine lv_iadd hx hb eX6_clockBehind_50 ?_
    refine lv_topi (fun y_12 ey_12 => ?_)
    obtain rfl : y_12 = (nI (a1 + 1)) := ey_12.trans (nI_add a1 1)
    refine va_iald hx hb hK hP 2 1 rfl rfl (vp_in_nI (n := (a1 + 1)) (by omega) (Nat.le_of_ble_eq_true rfl)) eX6_clockBehind_51 ?_
    refine lv_topi (fun y_13 ey_13 => ?_)
    have ey_13 : y_13 = j2 (a1 + 1) := ey_13.trans (congrArg j2 (nI_clamp (n := (a1 + 1)) (by omega)))
    have hsp := hsp.trans (slet_eq ey_13)
    refine lv_aload_n hx hb eX6_clockBehind_52 rfl (lv_at hl 0 rfl) ?_
    refine va_get (D := (dC, dI)) (ci := 6) (v := .ref r2) (C := RX6) (T := TX6) (N := 10) hx hb hts hiX6 hown hK hP 0 rfl rfl 2 (by decide) v_3 (fun _ h9 => h9) rfl eX6_clockBehind_53 ?_
    refine lv_iload hx hb eX6_clockBehind_56 (lv_at hl 4 rfl) ?_
    refine va_iald hx hb hK hP 2 1 rfl rfl (vp_in_nI (n := g_3) (Nat.lt_of_le_of_lt hg_3 (Nat.le_of_ble_eq_true rfl)) (Nat.le_of_ble_eq_true rfl)) eX6_clockBehind_58 ?_
    refine lv_topi (fun y_14 ey_14 => ?_)
    have ey_14 : y_14 = j2 g_3 := ey_14.trans (congrArg j2 (nI_clamp (n := g_3) (Nat.lt_of_le_of_lt hg_3 (Nat.le_of_ble_eq_true rfl))))
    have hsp := hsp.trans (slet_eq ey_14)
    refine lv_isub hx hb eX6_clockBehind_59 ?_
    refine lv_topi (fun y_15 ey_15 => ?_)
    have hsp := hsp.trans (slet_eq ey_15)
    exact W.iret (v := y_15) hx hb hr (fun t ht hW => ⟨⟨y_15, (), rfl, (hsp.symm.trans hRR), trivial⟩, hS.F ht⟩) hS.2.2 eX6_clockBehind_60
  · have c_11 : ¬ a1 < g_4 := fun z => c_11 ((nI_ltI (a := a1) (b := g_4) (Nat.lt_of_le_of_lt ha1 (Nat.le_of_ble_eq_true rfl)) (Nat.lt_of_le_of_lt hg_4 (Nat.le_of_ble_eq_true rfl))).mpr z)
    have hsp := hsp.trans (if_neg c_11)
    refine lv_aload_n hx hb eX6_clockBehind_12 rfl (lv_at hl 1 rfl) ?_
    refine va_get (D := (dC, dI)) (ci := 0) (v := .ref q7) (C := RX0) (T := TX0) (N := 17) hx hb hts hiX0 hown hK hP 8 rfl rfl 7 (by decide) v_1 (fun _ h9 => h9) rfl eX6_clockBehind_13 ?_
    refine lv_aload_n hx hb eX6_clockBehind_16 rfl (lv_at hl 0 rfl) ?_
    refine va_get (D := (dC, dI)) (ci := 6) (v := .ref r0) (C := RX6) (T := TX6) (N := 10) hx hb hts hiX6 hown hK hP 0 rfl rfl 0 (by decide) v_2 (fun _ h9 => h9) rfl eX6_clockBehind_17 ?_
    refine lv_iload hx hb eX6_clockBehind_20 (lv_at hl 5 rfl) ?_
    refine va_iald hx hb hK hP 1 0 rfl rfl (vp_in_nI (n := g_4) (Nat.lt_of_le_of_lt hg_4 (Nat.le_of_ble_eq_true rfl)) (Nat.le_of_ble_eq_true rfl)) eX6_clockBehind_22 ?_
    refine lv_topi (fun y_16 ey_16 => ?_)
    obtain ⟨u_17, hu_17, qu_17, xu_17⟩ := bN_getx 13 q_j0 (n := g_4) (Nat.lt_of_le_of_lt hg_4 (Nat.le_of_ble_eq_true rfl))
    obtain rfl : y_16 = nI u_17 := ey_16.trans qu_17
    have hsp := hsp.trans (slet_eq xu_17)
    refine va_iald hx hb hK hP 12 10 rfl rfl (vp_in_nI (n := u_17) (Nat.lt_of_le_of_lt hu_17 (Nat.le_of_ble_eq_true rfl)) (Nat.le_of_ble_eq_true rfl)) eX6_clockBehind_23 ?_
    refine lv_topi (fun y_18 ey_18 => ?_)
    have ey_18 : y_18 = f7 u_17 := ey_18.trans (congrArg f7 (nI_clamp (n := u_17) (Nat.lt_of_le_of_lt hu_17 (Nat.le_of_ble_eq_true rfl))))
    have hsp := hsp.trans (slet_eq ey_18)
    refine lv_iload_n hx hb eX6_clockBehind_24 rfl (lv_at hl 3 rfl) ?_
    refine lv_ishr hx hb eX6_clockBehind_25 ?_
    refine lv_topi (fun y_19 ey_19 => ?_)
    have hsp := hsp.trans (slet_eq ey_19)
    refine lv_iconst (v := 1) hx hb eX6_clockBehind_26 (by decide) ?_
    refine lv_iand hx hb eX6_clockBehind_27 ?_
    refine lv_topi (fun y_20 ey_20 => ?_)
    have hsp := hsp.trans (slet_eq ey_20)
    refine lv_iconst (v := 1) hx hb eX6_clockBehind_28 (by decide) ?_
    obtain ⟨JR_23, hJR_23, hsp⟩ := slet_ex hsp
    refine pu_join (fun H locs ls st => ∃ (g_21 : Nat), st = [] ∧ g_21 ≤ 119 ∧ g_21 = JR_23 ∧ va_P (dC, dI) vwCl (ta__w ti r0 (nI ln) r2 r3 r4 r5 (nI nr) r7 r8 tz k_j0 (bN 13 q_j0) k_j2 j2 k_j3 (bN 120 q_j3) k_j4 (bN 120 q_j4) k_j5 j5 k_j7 (bN 120 q_j7) k_j8 j8 au (nI nc) (nI np) (nI ne) st0 q4 q5 q6 q7 q8 q9 q10 q11 q12 q13 q14 q15 q16 k_f4 f4 k_f5 (bN 7 q_f5) k_f6 (bN 7 q_f6) k_f7 f7 k_f8 (bN 4 q_f8) k_f9 (bN 2 q_f9) k_f10 f10 k_f11 f11 k_f12 f12 k_f13 f13 k_f14 f14 k_f15 f15 k_f16 f16) H ∧ va_D (fun _ => True) (ta__w ti r0 (nI ln) r2 r3 r4 r5 (nI nr) r7 r8 tz k_j0 (bN 13 q_j0) k_j2 j2 k_j3 (bN 120 q_j3) k_j4 (bN 120 q_j4) k_j5 j5 k_j7 (bN 120 q_j7) k_j8 j8 au (nI nc) (nI np) (nI ne) st0 q4 q5 q6 q7 q8 q9 q10 q11 q12 q13 q14 q15 q16 k_f4 f4 k_f5 (bN 7 q_f5) k_f6 (bN 7 q_f6) k_f7 f7 k_f8 (bN 4 q_f8) k_f9 (bN 2 q_f9) k_f10 f10 k_f11 f11 k_f12 f12 k_f13 f13 k_f14 f14 k_f15 f15 k_f16 f16) ∧ va_S (va_A [] s.heap.size) s.heap H locs ∧ lv_has ls 6 [(0, .ref ti), (1, .ref au), (2, .int (nI a1)), (3, .int (nI a2)), (4, .int (nI g_21)), (5, .int (nI g_4))]) 38 ?_ (fun j_22 => ?_)
    · rintro H locs ls st ⟨g_21, rfl, hg_21, he_24, hP, hD, hS, hl⟩
      rw [← he_24] at hsp
      refine lv_iinc (v := (nI (g_4 + 1))) (lv' := [(5, .int (nI (g_4 + 1))), (0, .ref ti), (1, .ref au), (2, .int (nI a1)), (3, .int (nI a2)), (4, .int (nI g_21))]) hx hb eX6_clockBehind_38 hl (k := 5) rfl (nI_1 _) (by decide) rfl (fun ls hl => ?_)
      refine lv_goto (tgt := 6) hx hb eX6_clockBehind_41 (by decide) ?_
      exact ih_5 (119 - (g_4 + 1)) (by omega) _ _ _ ⟨g_21, (g_4 + 1), rfl, hg_21, (by omega), hin_9 _ hsp, hP, hD, hS, lv_sub hl [1, 2, 3, 4, 5, 0] rfl⟩
    have hsp := hJR_23
    refine lv_icmp_ne (tgt := 38) hx hb eX6_clockBehind_29 (by decide) (fun c_25 => ?_) (fun c_25 => ?_)
    · have hcc_25 := c_25
      have hsp := hsp.trans (if_neg c_25)
      exact j_22 _ _ _ _ ⟨g_3, rfl, hg_3, hsp.symm, hP, hD, hS, lv_sub hl [0, 1, 2, 3, 4, 5] rfl⟩
    · have hcc_25 := c_25
      have hsp := hsp.trans (if_pos c_25)
      refine lv_iload hx hb eX6_clockBehind_32 (lv_at hl 5 rfl) ?_
      refine lv_iconst (v := 1) hx hb eX6_clockBehind_34 (by decide) ?_
      refine lv_iadd hx hb eX6_clockBehind_35 ?_
      refine lv_topi (fun y_26 ey_26 => ?_)
      obtain rfl : y_26 = (nI (g_4 + 1)) := ey_26.trans (nI_add g_4 1)
      refine lv_istore (lv' := [(4, .int (nI (g_4 + 1))), (0, .ref ti), (1, .ref au), (2, .int (nI a1)), (3, .int (nI a2)), (5, .int (nI g_4))]) hx hb eX6_clockBehind_36 hl (by decide) rfl (fun ls hl => ?_)
      exact j_22 _ _ _ _ ⟨(g_4 + 1), rfl, (by omega), hsp.symm, hP, hD, hS, lv_sub hl [1, 2, 3, 4, 0, 5] rfl⟩
