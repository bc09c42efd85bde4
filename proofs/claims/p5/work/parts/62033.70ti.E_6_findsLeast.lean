theorem eX6_findsLeast_0 : decode cX6_findsLeast 0 = .ok (.iconst 0, 1) := by decide +kernel
theorem eX6_findsLeast_1 : decode cX6_findsLeast 1 = .ok (.istore_n 1, 1) := by decide +kernel
theorem eX6_findsLeast_2 : decode cX6_findsLeast 2 = .ok (.iload_n 1, 1) := by decide +kernel
theorem eX6_findsLeast_3 : decode cX6_findsLeast 3 = .ok (.aload_n 0, 1) := by decide +kernel
theorem eX6_findsLeast_4 : decode cX6_findsLeast 4 = .ok (.getfield 47, 3) := by decide +kernel
theorem eX6_findsLeast_7 : decode cX6_findsLeast 7 = .ok (.if_icmp .gt 16, 3) := by decide +kernel
theorem eX6_findsLeast_10 : decode cX6_findsLeast 10 = .ok (.aload_n 0, 1) := by decide +kernel
theorem eX6_findsLeast_11 : decode cX6_findsLeast 11 = .ok (.getfield 15, 3) := by decide +kernel
theorem eX6_findsLeast_14 : decode cX6_findsLeast 14 = .ok (.iload_n 1, 1) := by decide +kernel
theorem eX6_findsLeast_15 : decode cX6_findsLeast 15 = .ok (.iconst 0, 1) := by decide +kernel
theorem eX6_findsLeast_16 : decode cX6_findsLeast 16 = .ok (.iastore, 1) := by decide +kernel
theorem eX6_findsLeast_17 : decode cX6_findsLeast 17 = .ok (.iinc 1 1, 3) := by decide +kernel
theorem eX6_findsLeast_20 : decode cX6_findsLeast 20 = .ok (.goto (-18), 3) := by decide +kernel
theorem eX6_findsLeast_23 : decode cX6_findsLeast 23 = .ok (.iconst 1, 1) := by decide +kernel
theorem eX6_findsLeast_24 : decode cX6_findsLeast 24 = .ok (.istore_n 1, 1) := by decide +kernel
theorem eX6_findsLeast_25 : decode cX6_findsLeast 25 = .ok (.iconst 0, 1) := by decide +kernel
theorem eX6_findsLeast_26 : decode cX6_findsLeast 26 = .ok (.istore_n 2, 1) := by decide +kernel
theorem eX6_findsLeast_27 : decode cX6_findsLeast 27 = .ok (.iload_n 2, 1) := by decide +kernel
theorem eX6_findsLeast_28 : decode cX6_findsLeast 28 = .ok (.aload_n 0, 1) := by decide +kernel
theorem eX6_findsLeast_29 : decode cX6_findsLeast 29 = .ok (.getfield 47, 3) := by decide +kernel
theorem eX6_findsLeast_32 : decode cX6_findsLeast 32 = .ok (.iconst 1, 1) := by decide +kernel
theorem eX6_findsLeast_33 : decode cX6_findsLeast 33 = .ok (.iadd, 1) := by decide +kernel
theorem eX6_findsLeast_34 : decode cX6_findsLeast 34 = .ok (.if_icmp .gt 91, 3) := by decide +kernel
theorem eX6_findsLeast_37 : decode cX6_findsLeast 37 = .ok (.iload_n 1, 1) := by decide +kernel
theorem eX6_findsLeast_38 : decode cX6_findsLeast 38 = .ok (.ifCond .eq 87, 3) := by decide +kernel
theorem eX6_findsLeast_41 : decode cX6_findsLeast 41 = .ok (.aload_n 0, 1) := by decide +kernel
theorem eX6_findsLeast_42 : decode cX6_findsLeast 42 = .ok (.getfield 15, 3) := by decide +kernel
theorem eX6_findsLeast_45 : decode cX6_findsLeast 45 = .ok (.iconst 0, 1) := by decide +kernel
theorem eX6_findsLeast_46 : decode cX6_findsLeast 46 = .ok (.iaload, 1) := by decide +kernel
theorem eX6_findsLeast_47 : decode cX6_findsLeast 47 = .ok (.ifCond .ne 78, 3) := by decide +kernel
theorem eX6_findsLeast_50 : decode cX6_findsLeast 50 = .ok (.iconst 0, 1) := by decide +kernel
theorem eX6_findsLeast_51 : decode cX6_findsLeast 51 = .ok (.istore_n 1, 1) := by decide +kernel
theorem eX6_findsLeast_52 : decode cX6_findsLeast 52 = .ok (.iconst 0, 1) := by decide +kernel
theorem eX6_findsLeast_53 : decode cX6_findsLeast 53 = .ok (.istore_n 3, 1) := by decide +kernel
theorem eX6_findsLeast_54 : decode cX6_findsLeast 54 = .ok (.iload_n 3, 1) := by decide +kernel
theorem eX6_findsLeast_55 : decode cX6_findsLeast 55 = .ok (.aload_n 0, 1) := by decide +kernel
theorem eX6_findsLeast_56 : decode cX6_findsLeast 56 = .ok (.getfield 57, 3) := by decide +kernel
theorem eX6_findsLeast_59 : decode cX6_findsLeast 59 = .ok (.if_icmp .ge 60, 3) := by decide +kernel
theorem eX6_findsLeast_62 : decode cX6_findsLeast 62 = .ok (.aload_n 0, 1) := by decide +kernel
theorem eX6_findsLeast_63 : decode cX6_findsLeast 63 = .ok (.getfield 15, 3) := by decide +kernel
theorem eX6_findsLeast_66 : decode cX6_findsLeast 66 = .ok (.aload_n 0, 1) := by decide +kernel
theorem eX6_findsLeast_67 : decode cX6_findsLeast 67 = .ok (.getfield 21, 3) := by decide +kernel
theorem eX6_findsLeast_70 : decode cX6_findsLeast 70 = .ok (.iload_n 3, 1) := by decide +kernel
theorem eX6_findsLeast_71 : decode cX6_findsLeast 71 = .ok (.iaload, 1) := by decide +kernel
theorem eX6_findsLeast_72 : decode cX6_findsLeast 72 = .ok (.iaload, 1) := by decide +kernel
theorem eX6_findsLeast_73 : decode cX6_findsLeast 73 = .ok (.aload_n 0, 1) := by decide +kernel
theorem eX6_findsLeast_74 : decode cX6_findsLeast 74 = .ok (.getfield 24, 3) := by decide +kernel
theorem eX6_findsLeast_77 : decode cX6_findsLeast 77 = .ok (.iload_n 3, 1) := by decide +kernel
theorem eX6_findsLeast_78 : decode cX6_findsLeast 78 = .ok (.iaload, 1) := by decide +kernel
theorem eX6_findsLeast_79 : decode cX6_findsLeast 79 = .ok (.iadd, 1) := by decide +kernel
theorem eX6_findsLeast_80 : decode cX6_findsLeast 80 = .ok (.istore 4, 2) := by decide +kernel
theorem eX6_findsLeast_82 : decode cX6_findsLeast 82 = .ok (.iload 4, 2) := by decide +kernel
theorem eX6_findsLeast_84 : decode cX6_findsLeast 84 = .ok (.aload_n 0, 1) := by decide +kernel
theorem eX6_findsLeast_85 : decode cX6_findsLeast 85 = .ok (.getfield 15, 3) := by decide +kernel
theorem eX6_findsLeast_88 : decode cX6_findsLeast 88 = .ok (.aload_n 0, 1) := by decide +kernel
theorem eX6_findsLeast_89 : decode cX6_findsLeast 89 = .ok (.getfield 18, 3) := by decide +kernel
theorem eX6_findsLeast_92 : decode cX6_findsLeast 92 = .ok (.iload_n 3, 1) := by decide +kernel
theorem eX6_findsLeast_93 : decode cX6_findsLeast 93 = .ok (.iaload, 1) := by decide +kernel
theorem eX6_findsLeast_94 : decode cX6_findsLeast 94 = .ok (.iaload, 1) := by decide +kernel
theorem eX6_findsLeast_95 : decode cX6_findsLeast 95 = .ok (.if_icmp .le 18, 3) := by decide +kernel
theorem eX6_findsLeast_98 : decode cX6_findsLeast 98 = .ok (.aload_n 0, 1) := by decide +kernel
theorem eX6_findsLeast_99 : decode cX6_findsLeast 99 = .ok (.getfield 15, 3) := by decide +kernel
theorem eX6_findsLeast_102 : decode cX6_findsLeast 102 = .ok (.aload_n 0, 1) := by decide +kernel
theorem eX6_findsLeast_103 : decode cX6_findsLeast 103 = .ok (.getfield 18, 3) := by decide +kernel
theorem eX6_findsLeast_106 : decode cX6_findsLeast 106 = .ok (.iload_n 3, 1) := by decide +kernel
theorem eX6_findsLeast_107 : decode cX6_findsLeast 107 = .ok (.iaload, 1) := by decide +kernel
theorem eX6_findsLeast_108 : decode cX6_findsLeast 108 = .ok (.iload 4, 2) := by decide +kernel
theorem eX6_findsLeast_110 : decode cX6_findsLeast 110 = .ok (.iastore, 1) := by decide +kernel
theorem eX6_findsLeast_111 : decode cX6_findsLeast 111 = .ok (.iconst 1, 1) := by decide +kernel
theorem eX6_findsLeast_112 : decode cX6_findsLeast 112 = .ok (.istore_n 1, 1) := by decide +kernel
theorem eX6_findsLeast_113 : decode cX6_findsLeast 113 = .ok (.iinc 3 1, 3) := by decide +kernel
theorem eX6_findsLeast_116 : decode cX6_findsLeast 116 = .ok (.goto (-62), 3) := by decide +kernel
theorem eX6_findsLeast_119 : decode cX6_findsLeast 119 = .ok (.iinc 2 1, 3) := by decide +kernel
theorem eX6_findsLeast_122 : decode cX6_findsLeast 122 = .ok (.goto (-95), 3) := by decide +kernel
theorem eX6_findsLeast_125 : decode cX6_findsLeast 125 = .ok (.iload_n 1, 1) := by decide +kernel
theorem eX6_findsLeast_126 : decode cX6_findsLeast 126 = .ok (.ifCond .ne 16, 3) := by decide +kernel
theorem eX6_findsLeast_129 : decode cX6_findsLeast 129 = .ok (.aload_n 0, 1) := by decide +kernel
theorem eX6_findsLeast_130 : decode cX6_findsLeast 130 = .ok (.getfield 15, 3) := by decide +kernel
theorem eX6_findsLeast_133 : decode cX6_findsLeast 133 = .ok (.iconst 0, 1) := by decide +kernel
theorem eX6_findsLeast_134 : decode cX6_findsLeast 134 = .ok (.iaload, 1) := by decide +kernel
theorem eX6_findsLeast_135 : decode cX6_findsLeast 135 = .ok (.ifCond .ne 7, 3) := by decide +kernel
theorem eX6_findsLeast_138 : decode cX6_findsLeast 138 = .ok (.iconst 1, 1) := by decide +kernel
theorem eX6_findsLeast_139 : decode cX6_findsLeast 139 = .ok (.goto 4, 3) := by decide +kernel
theorem eX6_findsLeast_142 : decode cX6_findsLeast 142 = .ok (.iconst 0, 1) := by decide +kernel
theorem eX6_findsLeast_143 : decode cX6_findsLeast 143 = .ok (.ireturn, 1) := by decide +kernel
abbrev vs_E_6_findsLeast : List Cond := .code yX6_findsLeast cX6_findsLeast 5 (some .boolean) :: CM
noncomputable def sp_E_6_findsLeast_L1 (nr : Nat) (q_j3 : Nat → Nat) (q_j4 : Nat → Nat) (j5 : Nat → Int32) (g_26 : Nat) : ((Nat → Int32) × Int32 × Nat) → ((Nat → Int32) × Int32 × Nat) ⊕ (((Nat → Int32) × Int32 × Nat) ⊕ (Int32 × Nat × (Nat → Int32))) := fun (g_41, g_42, g_43) => (if nr ≤ g_43 then (Sum.inr (Sum.inl (g_41, g_42, (g_26 + 1)))) else (slet (min (q_j4 g_43) 120) (fun u_52 => (slet (g_41 u_52) (fun y_53 => (slet (j5 g_43) (fun y_54 => (slet ((y_53 : Int32) + y_54) (fun y_55 => (slet (min (q_j3 g_43) 120) (fun u_57 => (slet (g_41 u_57) (fun y_58 => (slet (α := Int32 × (Nat → Int32)) (if (y_55 : Int32) ≤ y_58 then (g_42, g_41) else (slet (upd g_41 u_57 y_55) (fun f_67 => (1, f_67)))) (fun (g_59, g_60) => (Sum.inl (g_60, g_59, (g_43 + 1))))))))))))))))))
noncomputable def sp_E_6_findsLeast_L2 (ln : Nat) (nr : Nat) (q_j3 : Nat → Nat) (q_j4 : Nat → Nat) (j5 : Nat → Int32) : ((Nat → Int32) × Int32 × Nat) → ((Nat → Int32) × Int32 × Nat) ⊕ (Int32 × Nat × (Nat → Int32)) := fun (g_24, g_25, g_26) => (if (ln + 1) < g_26 then (Sum.inr (g_25, g_26, g_24)) else (if (g_25 : Int32) = 0 then (Sum.inr (g_25, g_26, g_24)) else (slet (g_24 0) (fun y_36 => (if (y_36 : Int32) = 0 then (itrv (α := (Nat → Int32) × Int32 × Nat) (β := (((Nat → Int32) × Int32 × Nat) ⊕ (Int32 × Nat × (Nat → Int32)))) (Sum.inr default) (sp_E_6_findsLeast_L1 nr q_j3 q_j4 j5 g_26) (g_24, 0, 0)) else (Sum.inr (g_25, g_26, g_24)))))))
noncomputable def sp_E_6_findsLeast_L3 (ln : Nat) (nr : Nat) (q_j3 : Nat → Nat) (q_j4 : Nat → Nat) (j5 : Nat → Int32) : ((Nat → Int32) × Nat) → ((Nat → Int32) × Nat) ⊕ (Nat × (Nat → Int32)) := fun (g_3, g_4) => (if ln < g_4 then (Sum.inr (slet (α := Int32 × Nat × (Nat → Int32)) (itrv (α := (Nat → Int32) × Int32 × Nat) (β := (Int32 × Nat × (Nat → Int32))) default (sp_E_6_findsLeast_L2 ln nr q_j3 q_j4 j5) (g_3, 1, 0)) (fun (g_12, g_13, g_14) => (if (g_12 : Int32) = 0 then (slet (g_14 0) (fun y_19 => (if (y_19 : Int32) = 0 then (1, g_14) else (0, g_14)))) else (0, g_14))))) else (slet (upd g_3 g_4 0) (fun f_68 => (Sum.inl (f_68, (g_4 + 1))))))
noncomputable def sp_E_6_findsLeast (ln : Nat) (nr : Nat) (j2 : Nat → Int32) (q_j3 : Nat → Nat) (q_j4 : Nat → Nat) (j5 : Nat → Int32) : Nat × (Nat → Int32) := (itrv (α := (Nat → Int32) × Nat) (β := (Nat × (Nat → Int32))) default (sp_E_6_findsLeast_L3 ln nr q_j3 q_j4 j5) (j2, 0))
set_option maxHeartbeats 4000000 in
set_option maxRecDepth 100000 in
theorem c_E_6_findsLeast (l : Launch) (dC : Nat → ClassId) (dI : Nat → Nat → Nat) (sz : Nat) (ti : Nat) (r0 : Nat) (ln : Nat) (r2 : Nat) (r3 : Nat) (r4 : Nat) (r5 : Nat) (nr : Nat) (r7 : Nat) (r8 : Nat) (tz : Nat) (k_j0 : ClassId) (q_j0 : Nat → Nat) (k_j2 : ClassId) (j2 : Nat → Int32) (k_j3 : ClassId) (q_j3 : Nat → Nat) (k_j4 : ClassId) (q_j4 : Nat → Nat) (k_j5 : ClassId) (j5 : Nat → Int32) (k_j7 : ClassId) (q_j7 : Nat → Nat) (k_j8 : ClassId) (j8 : Nat → Int32) (hln : ln ≤ 119) (hnr : nr ≤ 1920) : Met l yX6_findsLeast vs_E_6_findsLeast ({ frames := 0, cells := 0, slots := 0, locals := 0 }) (va_Pc [.ref ti] (pu_B (dC, dI) (ti__w ti r0 (nI ln) r2 r3 r4 r5 (nI nr) r7 r8 tz k_j0 (bN 13 q_j0) k_j2 j2 k_j3 (bN 120 q_j3) k_j4 (bN 120 q_j4) k_j5 j5 k_j7 (bN 120 q_j7) k_j8 j8) (ti__t k_j0 k_j2 k_j3 k_j4 k_j5 k_j7 k_j8) sz)) (va_Qi (fun (r : Int32) (_ : Unit) => ∃ v : Nat, v ≤ 1 ∧ r = nI v ∧ v = (sp_E_6_findsLeast ln nr j2 q_j3 q_j4 j5).1) (fun _ t => ∃ (z_j2 : Nat → Int32), pu_E (dC, dI) (ti__w ti r0 (nI ln) r2 r3 r4 r5 (nI nr) r7 r8 tz k_j0 (bN 13 q_j0) k_j2 z_j2 k_j3 (bN 120 q_j3) k_j4 (bN 120 q_j4) k_j5 j5 k_j7 (bN 120 q_j7) k_j8 j8) (ti__t k_j0 k_j2 k_j3 k_j4 k_j5 k_j7 k_j8) (va_A ((ti__w ti r0 (nI ln) r2 r3 r4 r5 (nI nr) r7 r8 tz k_j0 (bN 13 q_j0) k_j2 j2 k_j3 (bN 120 q_j3) k_j4 (bN 120 q_j4) k_j5 j5 k_j7 (bN 120 q_j7) k_j8 j8)) sz) t ∧ (z_j2 = (sp_E_6_findsLeast ln nr j2 q_j3 q_j4 j5).2)) (va_A ((ti__w ti r0 (nI ln) r2 r3 r4 r5 (nI nr) r7 r8 tz k_j0 (bN 13 q_j0) k_j2 j2 k_j3 (bN 120 q_j3) k_j4 (bN 120 q_j4) k_j5 j5 k_j7 (bN 120 q_j7) k_j8 j8)) sz)) 0 0 (va_A ((ti__w ti r0 (nI ln) r2 r3 r4 r5 (nI nr) r7 r8 tz k_j0 (bN 13 q_j0) k_j2 j2 k_j3 (bN 120 q_j3) k_j4 (bN 120 q_j4) k_j5 j5 k_j7 (bN 120 q_j7) k_j8 j8)) sz) := by
  refine Met.ofW (cc := cX6_findsLeast) (maxL := 5) (ret := (some .boolean)) (by decide) rfl ?_
  intro p e s m args below meth c s₁ B hml hv
  obtain ⟨rfl, rfl, hP, hK, hD0⟩ := hv
  have hx := B.exec
  have hb := B.bytes
  have hr := B.returns
  have hts := atoms_spec (ws := vs_E_6_findsLeast) B.pre
  have v_1 := hts (.fieldLink RX6 47 "ClockReach$Timing" "length" "I") (List.mem_cons_of_mem _ cm_366)
  have v_2 := hts (.fieldLink RX6 15 "ClockReach$Timing" "at" "[I") (List.mem_cons_of_mem _ cm_400)
  have v_3 := hts (.fieldLink RX6 57 "ClockReach$Timing" "rules" "I") (List.mem_cons_of_mem _ cm_371)
  have v_4 := hts (.fieldLink RX6 21 "ClockReach$Timing" "earliers" "[I") (List.mem_cons_of_mem _ cm_397)
  have v_5 := hts (.fieldLink RX6 24 "ClockReach$Timing" "gaps" "[I") (List.mem_cons_of_mem _ cm_398)
  have v_6 := hts (.fieldLink RX6 18 "ClockReach$Timing" "laters" "[I") (List.mem_cons_of_mem _ cm_396)
  have hown : s.vm.findClass RX6 = some m.cls := findClass_of_methodNamed B.named
  have hlocks := B.notSynchronized
  have hiX6 : ∀ w ∈ wsX60, w ∈ vs_E_6_findsLeast := fun _ h => List.mem_cons_of_mem _ (cm_X6 h)
  have hD := hD0.self (sz := s.heap.size)
  generalize hAe : va_A ((ti__w ti r0 (nI ln) r2 r3 r4 r5 (nI nr) r7 r8 tz k_j0 (bN 13 q_j0) k_j2 j2 k_j3 (bN 120 q_j3) k_j4 (bN 120 q_j4) k_j5 j5 k_j7 (bN 120 q_j7) k_j8 j8)) s.heap.size = A at hD ⊢
  have hA : ∀ q : Nat, s.heap.size ≤ q → A q := fun q h => by rw [← hAe]; exact Or.inr h
  have hS : va_S A s.heap s.heap [] := va_S.rf
  have hl := lv_entry ([.ref ti]) (n := 5) (Nat.le_of_ble_eq_true rfl)
  rw [lg_entry_eq]
  generalize (lg_sl ([.ref ti]) ++ List.replicate (5 - (lg_sl ([.ref ti])).length) Slot.unset).toArray = ls at hl ⊢
  have hl : lv_has ls 5 [(0, .ref ti)] := hl
  obtain ⟨RR, hRR⟩ : ∃ x, x = (sp_E_6_findsLeast ln nr j2 q_j3 q_j4 j5) := ⟨_, rfl⟩
  have hsp := hRR
  refine lv_iconst (v := 0) hx hb eX6_findsLeast_0 (by decide) ?_
  refine lv_istore_n (lv' := [(1, .int 0), (0, .ref ti)]) hx hb eX6_findsLeast_1 rfl hl (by decide) rfl (fun ls hl => ?_)
  obtain ⟨lf_6, dlf_6, hlf_6, hsp⟩ := itr_ex hsp
  delta sp_E_6_findsLeast_L3 at hlf_6
  refine pu_while (fun nn H locs ls => ∃ (g_3 : Nat → Int32) (g_4 : Nat), nn = 120 - g_4 ∧ g_4 ≤ 120 ∧ RR = itrv dlf_6 lf_6 (g_3, g_4) ∧ va_P (dC, dI) vwCl (ti__w ti r0 (nI ln) r2 r3 r4 r5 (nI nr) r7 r8 tz k_j0 (bN 13 q_j0) k_j2 g_3 k_j3 (bN 120 q_j3) k_j4 (bN 120 q_j4) k_j5 j5 k_j7 (bN 120 q_j7) k_j8 j8) H ∧ va_D A (ti__w ti r0 (nI ln) r2 r3 r4 r5 (nI nr) r7 r8 tz k_j0 (bN 13 q_j0) k_j2 g_3 k_j3 (bN 120 q_j3) k_j4 (bN 120 q_j4) k_j5 j5 k_j7 (bN 120 q_j7) k_j8 j8) ∧ va_S A s.heap H locs ∧ lv_has ls 5 [(0, .ref ti), (1, .int (nI g_4))]) 2 ?_ _ _ _ _ ⟨j2, 0, rfl, (Nat.le_of_ble_eq_true rfl), hsp, hP, hD, hS, lv_sub hl [1, 0] rfl⟩
  rintro nn ih_5 H locs ls ⟨g_3, g_4, rfl, hg_4, he_8, hP, hD, hS, hl⟩
  obtain ⟨S_7, hsp, hin_9, hout_10⟩ := itr_step hlf_6 he_8
  refine lv_iload_n hx hb eX6_findsLeast_2 rfl (lv_at hl 1 rfl) ?_
  refine lv_aload_n hx hb eX6_findsLeast_3 rfl (lv_at hl 0 rfl) ?_
  refine va_get (D := (dC, dI)) (ci := 6) (v := .int (nI ln)) (C := RX6) (T := TX6) (N := 10) hx hb hts hiX6 hown hK hP 0 rfl rfl 1 (by decide) v_1 (fun _ h9 => h9) rfl eX6_findsLeast_4 ?_
  refine lv_icmp_gt (tgt := 23) hx hb eX6_findsLeast_7 (by decide) (fun c_11 => ?_) (fun c_11 => ?_)
  · have c_11 : ln < g_4 := (nI_ltI (a := ln) (b := g_4) (Nat.lt_of_le_of_lt hln (Nat.le_of_ble_eq_true rfl)) (Nat.lt_of_le_of_lt hg_4 (Nat.le_of_ble_eq_true rfl))).mp c_11
    have hsp := hsp.trans (if_pos c_11)
    have hsp := hout_10 _ hsp
    refine lv_iconst (v := 1) hx hb eX6_findsLeast_23 (by decide) ?_
    refine lv_istore_n (lv' := [(1, .int 1), (0, .ref ti)]) hx hb eX6_findsLeast_24 rfl hl (by decide) rfl (fun ls hl => ?_)
    refine lv_iconst (v := 0) hx hb eX6_findsLeast_25 (by decide) ?_
    refine lv_istore_n (lv' := [(2, .int 0), (1, .int 1), (0, .ref ti)]) hx hb eX6_findsLeast_26 rfl hl (by decide) rfl (fun ls hl => ?_)
    obtain ⟨JR_16, hJR_16, hsp⟩ := slet_ex hsp
    refine pu_join (fun H locs ls st => ∃ (g_12 : Int32) (g_13 : Nat) (g_14 : Nat → Int32), st = [] ∧ g_13 ≤ 121 ∧ (g_12, g_13, g_14) = JR_16 ∧ va_P (dC, dI) vwCl (ti__w ti r0 (nI ln) r2 r3 r4 r5 (nI nr) r7 r8 tz k_j0 (bN 13 q_j0) k_j2 g_14 k_j3 (bN 120 q_j3) k_j4 (bN 120 q_j4) k_j5 j5 k_j7 (bN 120 q_j7) k_j8 j8) H ∧ va_D A (ti__w ti r0 (nI ln) r2 r3 r4 r5 (nI nr) r7 r8 tz k_j0 (bN 13 q_j0) k_j2 g_14 k_j3 (bN 120 q_j3) k_j4 (bN 120 q_j4) k_j5 j5 k_j7 (bN 120 q_j7) k_j8 j8) ∧ va_S A s.heap H locs ∧ lv_has ls 5 [(0, .ref ti), (1, .int g_12), (2, .int (nI g_13))]) 125 ?_ (fun j_15 => ?_)
    · rintro H locs ls st ⟨g_12, g_13, g_14, rfl, hg_13, he_17, hP, hD, hS, hl⟩
      rw [← he_17] at hsp
      refine lv_iload_n hx hb eX6_findsLeast_125 rfl (lv_at hl 1 rfl) ?_
      refine lv_if_ne (tgt := 142) hx hb eX6_findsLeast_126 (by decide) (fun c_18 => ?_) (fun c_18 => ?_)
      · have hcc_18 := c_18
        have hsp := hsp.trans (if_neg c_18)
        refine lv_iconst (v := 0) hx hb eX6_findsLeast_142 (by decide) ?_
        exact W.zret (v := 0) (ty := .boolean) hx hb hr (rfl) (fun t ht hW => ⟨⟨0, (), rfl, ⟨0, (Nat.le_of_ble_eq_true rfl), rfl, (congrArg Prod.fst (hsp.symm.trans hRR))⟩, ⟨g_14, ⟨by rw [ht]; exact hP, va_K.moved hW.alike hK, hD⟩, (congrArg Prod.snd (hsp.symm.trans hRR))⟩⟩, hS.F ht⟩) hS.2.2 eX6_findsLeast_143
      · have hcc_18 := c_18
        have hsp := hsp.trans (if_pos c_18)
        refine lv_aload_n hx hb eX6_findsLeast_129 rfl (lv_at hl 0 rfl) ?_
        refine va_get (D := (dC, dI)) (ci := 6) (v := .ref r2) (C := RX6) (T := TX6) (N := 10) hx hb hts hiX6 hown hK hP 0 rfl rfl 2 (by decide) v_2 (fun _ h9 => h9) rfl eX6_findsLeast_130 ?_
        refine lv_iconst (v := 0) hx hb eX6_findsLeast_133 (by decide) ?_
        refine va_iald hx hb hK hP 2 1 rfl rfl (vp_in_nI (n := 0) (Nat.le_of_ble_eq_true rfl) (Nat.le_of_ble_eq_true rfl)) eX6_findsLeast_134 ?_
        refine lv_topi (fun y_19 ey_19 => ?_)
        have ey_19 : y_19 = g_14 0 := ey_19.trans (congrArg g_14 (nI_clamp (n := 0) (Nat.le_of_ble_eq_true rfl)))
        have hsp := hsp.trans (slet_eq ey_19)
        refine lv_if_ne (tgt := 142) hx hb eX6_findsLeast_135 (by decide) (fun c_20 => ?_) (fun c_20 => ?_)
        · have hcc_20 := c_20
          have hsp := hsp.trans (if_neg c_20)
          refine lv_iconst (v := 0) hx hb eX6_findsLeast_142 (by decide) ?_
          exact W.zret (v := 0) (ty := .boolean) hx hb hr (rfl) (fun t ht hW => ⟨⟨0, (), rfl, ⟨0, (Nat.le_of_ble_eq_true rfl), rfl, (congrArg Prod.fst (hsp.symm.trans hRR))⟩, ⟨g_14, ⟨by rw [ht]; exact hP, va_K.moved hW.alike hK, hD⟩, (congrArg Prod.snd (hsp.symm.trans hRR))⟩⟩, hS.F ht⟩) hS.2.2 eX6_findsLeast_143
        · have hcc_20 := c_20
          have hsp := hsp.trans (if_pos c_20)
          refine lv_iconst (v := 1) hx hb eX6_findsLeast_138 (by decide) ?_
          refine lv_goto (tgt := 143) hx hb eX6_findsLeast_139 (by decide) ?_
          exact W.zret (v := 1) (ty := .boolean) hx hb hr (rfl) (fun t ht hW => ⟨⟨1, (), rfl, ⟨1, (Nat.le_of_ble_eq_true rfl), rfl, (congrArg Prod.fst (hsp.symm.trans hRR))⟩, ⟨g_14, ⟨by rw [ht]; exact hP, va_K.moved hW.alike hK, hD⟩, (congrArg Prod.snd (hsp.symm.trans hRR))⟩⟩, hS.F ht⟩) hS.2.2 eX6_findsLeast_143
    have hsp := hJR_16
    obtain ⟨lf_28, dlf_28, hlf_28, hsp⟩ := itr_ex hsp
    delta sp_E_6_findsLeast_L2 at hlf_28
    refine pu_while (fun nn H locs ls => ∃ (g_24 : Nat → Int32) (g_25 : Int32) (g_26 : Nat), nn = 121 - g_26 ∧ g_26 ≤ 121 ∧ JR_16 = itrv dlf_28 lf_28 (g_24, g_25, g_26) ∧ va_P (dC, dI) vwCl (ti__w ti r0 (nI ln) r2 r3 r4 r5 (nI nr) r7 r8 tz k_j0 (bN 13 q_j0) k_j2 g_24 k_j3 (bN 120 q_j3) k_j4 (bN 120 q_j4) k_j5 j5 k_j7 (bN 120 q_j7) k_j8 j8) H ∧ va_D A (ti__w ti r0 (nI ln) r2 r3 r4 r5 (nI nr) r7 r8 tz k_j0 (bN 13 q_j0) k_j2 g_24 k_j3 (bN 120 q_j3) k_j4 (bN 120 q_j4) k_j5 j5 k_j7 (bN 120 q_j7) k_j8 j8) ∧ va_S A s.heap H locs ∧ lv_has ls 5 [(0, .ref ti), (1, .int g_25), (2, .int (nI g_26))]) 27 ?_ _ _ _ _ ⟨g_3, 1, 0, rfl, (Nat.le_of_ble_eq_true rfl), hsp, hP, hD, hS, lv_sub hl [2, 1, 0] rfl⟩
    rintro nn ih_27 H locs ls ⟨g_24, g_25, g_26, rfl, hg_26, he_30, hP, hD, hS, hl⟩
    obtain ⟨S_29, hsp, hin_31, hout_32⟩ := itr_step hlf_28 he_30
    refine lv_iload_n hx hb eX6_findsLeast_27 rfl (lv_at hl 2 rfl) ?_
    refine lv_aload_n hx hb eX6_findsLeast_28 rfl (lv_at hl 0 rfl) ?_
    refine va_get (D := (dC, dI)) (ci := 6) (v := .int (nI ln)) (C := RX6) (T := TX6) (N := 10) hx hb hts hiX6 hown hK hP 0 rfl rfl 1 (by decide) v_1 (fun _ h9 => h9) rfl eX6_findsLeast_29 ?_
    refine lv_iconst (v := 1) hx hb eX6_findsLeast_32 (by decide) ?_
    refine lv_iadd hx hb eX6_findsLeast_33 ?_
    refine lv_topi (fun y_33 ey_33 => ?_)
    obtain rfl : y_33 = (nI (ln + 1)) := ey_33.trans (nI_add ln 1)
    refine lv_icmp_gt (tgt := 125) hx hb eX6_findsLeast_34 (by decide) (fun c_34 => ?_) (fun c_34 => ?_)
    · have c_34 : (ln + 1) < g_26 := (nI_ltI (a := (ln + 1)) (b := g_26) (by omega) (Nat.lt_of_le_of_lt hg_26 (Nat.le_of_ble_eq_true rfl))).mp c_34
      have hsp := hsp.trans (if_pos c_34)
      have hsp := hout_32 _ hsp
      exact j_15 _ _ _ _ ⟨g_25, g_26, g_24, rfl, hg_26, hsp.symm, hP, hD, hS, lv_sub hl [0, 1, 2] rfl⟩
    · have c_34 : ¬ (ln + 1) < g_26 := fun z => c_34 ((nI_ltI (a := (ln + 1)) (b := g_26) (by omega) (Nat.lt_of_le_of_lt hg_26 (Nat.le_of_ble_eq_true rfl))).mpr z)
      have hsp := hsp.trans (if_neg c_34)
      refine lv_iload_n hx hb eX6_findsLeast_37 rfl (lv_at hl 1 rfl) ?_
      refine lv_if_eq (tgt := 125) hx hb eX6_findsLeast_38 (by decide) (fun c_35 => ?_) (fun c_35 => ?_)
      · have hcc_35 := c_35
        have hsp := hsp.trans (if_pos c_35)
        have hsp := hout_32 _ hsp
        exact j_15 _ _ _ _ ⟨g_25, g_26, g_24, rfl, hg_26, hsp.symm, hP, hD, hS, lv_sub hl [0, 1, 2] rfl⟩
      · have hcc_35 := c_35
        have hsp := hsp.trans (if_neg c_35)
        refine lv_aload_n hx hb eX6_findsLeast_41 rfl (lv_at hl 0 rfl) ?_
        refine va_get (D := (dC, dI)) (ci := 6) (v := .ref r2) (C := RX6) (T := TX6) (N := 10) hx hb hts hiX6 hown hK hP 0 rfl rfl 2 (by decide) v_2 (fun _ h9 => h9) rfl eX6_findsLeast_42 ?_
        refine lv_iconst (v := 0) hx hb eX6_findsLeast_45 (by decide) ?_
        refine va_iald hx hb hK hP 2 1 rfl rfl (vp_in_nI (n := 0) (Nat.le_of_ble_eq_true rfl) (Nat.le_of_ble_eq_true rfl)) eX6_findsLeast_46 ?_
        refine lv_topi (fun y_36 ey_36 => ?_)
        have ey_36 : y_36 = g_24 0 := ey_36.trans (congrArg g_24 (nI_clamp (n := 0) (Nat.le_of_ble_eq_true rfl)))
        have hsp := hsp.trans (slet_eq ey_36)
        refine lv_if_ne (tgt := 125) hx hb eX6_findsLeast_47 (by decide) (fun c_37 => ?_) (fun c_37 => ?_)
        · have hcc_37 := c_37
          have hsp := hsp.trans (if_neg c_37)
          have hsp := hout_32 _ hsp
          exact j_15 _ _ _ _ ⟨g_25, g_26, g_24, rfl, hg_26, hsp.symm, hP, hD, hS, lv_sub hl [0, 1, 2] rfl⟩
        · have hcc_37 := c_37
          have hsp := hsp.trans (if_pos c_37)
          refine lv_iconst (v := 0) hx hb eX6_findsLeast_50 (by decide) ?_
          refine lv_istore_n (lv' := [(1, .int 0), (0, .ref ti), (2, .int (nI g_26))]) hx hb eX6_findsLeast_51 rfl hl (by decide) rfl (fun ls hl => ?_)
          refine lv_iconst (v := 0) hx hb eX6_findsLeast_52 (by decide) ?_
          refine lv_istore_n (lv' := [(3, .int 0), (1, .int 0), (0, .ref ti), (2, .int (nI g_26))]) hx hb eX6_findsLeast_53 rfl hl (by decide) rfl (fun ls hl => ?_)
          obtain ⟨lf_45, dlf_45, hlf_45, hsp⟩ := itr_ex hsp
          delta sp_E_6_findsLeast_L1 at hlf_45
          refine pu_while (fun nn H locs ls => ∃ (g_41 : Nat → Int32) (g_42 : Int32) (g_43 : Nat), nn = 1920 - g_43 ∧ g_43 ≤ 1920 ∧ S_29 = itrv dlf_45 lf_45 (g_41, g_42, g_43) ∧ va_P (dC, dI) vwCl (ti__w ti r0 (nI ln) r2 r3 r4 r5 (nI nr) r7 r8 tz k_j0 (bN 13 q_j0) k_j2 g_41 k_j3 (bN 120 q_j3) k_j4 (bN 120 q_j4) k_j5 j5 k_j7 (bN 120 q_j7) k_j8 j8) H ∧ va_D A (ti__w ti r0 (nI ln) r2 r3 r4 r5 (nI nr) r7 r8 tz k_j0 (bN 13 q_j0) k_j2 g_41 k_j3 (bN 120 q_j3) k_j4 (bN 120 q_j4) k_j5 j5 k_j7 (bN 120 q_j7) k_j8 j8) ∧ va_S A s.heap H locs ∧ lv_has ls 5 [(0, .ref ti), (1, .int g_42), (2, .int (nI g_26)), (3, .int (nI g_43))]) 54 ?_ _ _ _ _ ⟨g_24, 0, 0, rfl, (Nat.le_of_ble_eq_true rfl), hsp, hP, hD, hS, lv_sub hl [2, 1, 3, 0] rfl⟩
          rintro nn ih_44 H locs ls ⟨g_41, g_42, g_43, rfl, hg_43, he_47, hP, hD, hS, hl⟩
          obtain ⟨S_46, hsp, hin_48, hout_49⟩ := itr_step hlf_45 he_47
          refine lv_iload_n hx hb eX6_findsLeast_54 rfl (lv_at hl 3 rfl) ?_
          refine lv_aload_n hx hb eX6_findsLeast_55 rfl (lv_at hl 0 rfl) ?_
          refine va_get (D := (dC, dI)) (ci := 6) (v := .int (nI nr)) (C := RX6) (T := TX6) (N := 10) hx hb hts hiX6 hown hK hP 0 rfl rfl 6 (by decide) v_3 (fun _ h9 => h9) rfl eX6_findsLeast_56 ?_
          refine lv_icmp_ge (tgt := 119) hx hb eX6_findsLeast_59 (by decide) (fun c_50 => ?_) (fun c_50 => ?_)
          · have c_50 : nr ≤ g_43 := (nI_leI (a := nr) (b := g_43) (Nat.lt_of_le_of_lt hnr (Nat.le_of_ble_eq_true rfl)) (Nat.lt_of_le_of_lt hg_43 (Nat.le_of_ble_eq_true rfl))).mp c_50
            have hsp := hsp.trans (if_pos c_50)
            have hsp := hout_49 _ hsp
            refine lv_iinc (v := (nI (g_26 + 1))) (lv' := [(2, .int (nI (g_26 + 1))), (0, .ref ti), (1, .int g_42), (3, .int (nI g_43))]) hx hb eX6_findsLeast_119 hl (k := 2) rfl (nI_1 _) (by decide) rfl (fun ls hl => ?_)
            refine lv_goto (tgt := 27) hx hb eX6_findsLeast_122 (by decide) ?_
            exact ih_27 (121 - (g_26 + 1)) (by omega) _ _ _ ⟨g_41, g_42, (g_26 + 1), rfl, (by omega), hin_31 _ hsp, hP, hD, hS, lv_sub hl [1, 2, 0] rfl⟩
          · have c_50 : ¬ nr ≤ g_43 := fun z => c_50 ((nI_leI (a := nr) (b := g_43) (Nat.lt_of_le_of_lt hnr (Nat.le_of_ble_eq_true rfl)) (Nat.lt_of_le_of_lt hg_43 (Nat.le_of_ble_eq_true rfl))).mpr z)
            have hsp := hsp.trans (if_neg c_50)
            refine lv_aload_n hx hb eX6_findsLeast_62 rfl (lv_at hl 0 rfl) ?_
            refine va_get (D := (dC, dI)) (ci := 6) (v := .ref r2) (C := RX6) (T := TX6) (N := 10) hx hb hts hiX6 hown hK hP 0 rfl rfl 2 (by decide) v_2 (fun _ h9 => h9) rfl eX6_findsLeast_63 ?_
            refine lv_aload_n hx hb eX6_findsLeast_66 rfl (lv_at hl 0 rfl) ?_
            refine va_get (D := (dC, dI)) (ci := 6) (v := .ref r4) (C := RX6) (T := TX6) (N := 10) hx hb hts hiX6 hown hK hP 0 rfl rfl 4 (by decide) v_4 (fun _ h9 => h9) rfl eX6_findsLeast_67 ?_
            refine lv_iload_n hx hb eX6_findsLeast_70 rfl (lv_at hl 3 rfl) ?_
            refine va_iald hx hb hK hP 4 3 rfl rfl (vp_in_nI (n := g_43) (by omega) (Nat.le_of_ble_eq_true rfl)) eX6_findsLeast_71 ?_
            refine lv_topi (fun y_51 ey_51 => ?_)
            obtain ⟨u_52, hu_52, qu_52, xu_52⟩ := bN_getx 120 q_j4 (n := g_43) (Nat.lt_of_le_of_lt hg_43 (Nat.le_of_ble_eq_true rfl))
            obtain rfl : y_51 = nI u_52 := ey_51.trans qu_52
            have hsp := hsp.trans (slet_eq xu_52)
            refine va_iald hx hb hK hP 2 1 rfl rfl (vp_in_nI (n := u_52) (Nat.lt_of_le_of_lt hu_52 (Nat.le_of_ble_eq_true rfl)) (Nat.le_of_ble_eq_true rfl)) eX6_findsLeast_72 ?_
            refine lv_topi (fun y_53 ey_53 => ?_)
            have ey_53 : y_53 = g_41 u_52 := ey_53.trans (congrArg g_41 (nI_clamp (n := u_52) (Nat.lt_of_le_of_lt hu_52 (Nat.le_of_ble_eq_true rfl))))
            have hsp := hsp.trans (slet_eq ey_53)
            refine lv_aload_n hx hb eX6_findsLeast_73 rfl (lv_at hl 0 rfl) ?_
            refine va_get (D := (dC, dI)) (ci := 6) (v := .ref r5) (C := RX6) (T := TX6) (N := 10) hx hb hts hiX6 hown hK hP 0 rfl rfl 5 (by decide) v_5 (fun _ h9 => h9) rfl eX6_findsLeast_74 ?_
            refine lv_iload_n hx hb eX6_findsLeast_77 rfl (lv_at hl 3 rfl) ?_
            refine va_iald hx hb hK hP 5 4 rfl rfl (vp_in_nI (n := g_43) (by omega) (Nat.le_of_ble_eq_true rfl)) eX6_findsLeast_78 ?_
            refine lv_topi (fun y_54 ey_54 => ?_)
            have ey_54 : y_54 = j5 g_43 := ey_54.trans (congrArg j5 (nI_clamp (n := g_43) (Nat.lt_of_le_of_lt hg_43 (Nat.le_of_ble_eq_true rfl))))
            have hsp := hsp.trans (slet_eq ey_54)
            refine lv_iadd hx hb eX6_findsLeast_79 ?_
            refine lv_topi (fun y_55 ey_55 => ?_)
            have hsp := hsp.trans (slet_eq ey_55)
            refine lv_istore (lv' := [(4, .int y_55), (0, .ref ti), (1, .int g_42), (2, .int (nI g_26)), (3, .int (nI g_43))]) hx hb eX6_findsLeast_80 hl (by decide) rfl (fun ls hl => ?_)
            refine lv_iload hx hb eX6_findsLeast_82 (lv_at hl 0 rfl) ?_
            refine lv_aload_n hx hb eX6_findsLeast_84 rfl (lv_at hl 1 rfl) ?_
            refine va_get (D := (dC, dI)) (ci := 6) (v := .ref r2) (C := RX6) (T := TX6) (N := 10) hx hb hts hiX6 hown hK hP 0 rfl rfl 2 (by decide) v_2 (fun _ h9 => h9) rfl eX6_findsLeast_85 ?_
            refine lv_aload_n hx hb eX6_findsLeast_88 rfl (lv_at hl 1 rfl) ?_
            refine va_get (D := (dC, dI)) (ci := 6) (v := .ref r3) (C := RX6) (T := TX6) (N := 10) hx hb hts hiX6 hown hK hP 0 rfl rfl 3 (by decide) v_6 (fun _ h9 => h9) rfl eX6_findsLeast_89 ?_
            refine lv_iload_n hx hb eX6_findsLeast_92 rfl (lv_at hl 4 rfl) ?_
            refine va_iald hx hb hK hP 3 2 rfl rfl (vp_in_nI (n := g_43) (by omega) (Nat.le_of_ble_eq_true rfl)) eX6_findsLeast_93 ?_
            refine lv_topi (fun y_56 ey_56 => ?_)
            obtain ⟨u_57, hu_57, qu_57, xu_57⟩ := bN_getx 120 q_j3 (n := g_43) (Nat.lt_of_le_of_lt hg_43 (Nat.le_of_ble_eq_true rfl))
            obtain rfl : y_56 = nI u_57 := ey_56.trans qu_57
            have hsp := hsp.trans (slet_eq xu_57)
            refine va_iald hx hb hK hP 2 1 rfl rfl (vp_in_nI (n := u_57) (Nat.lt_of_le_of_lt hu_57 (Nat.le_of_ble_eq_true rfl)) (Nat.le_of_ble_eq_true rfl)) eX6_findsLeast_94 ?_
            refine lv_topi (fun y_58 ey_58 => ?_)
            have ey_58 : y_58 = g_41 u_57 := ey_58.trans (congrArg g_41 (nI_clamp (n := u_57) (Nat.lt_of_le_of_lt hu_57 (Nat.le_of_ble_eq_true rfl))))
            have hsp := hsp.trans (slet_eq ey_58)
            obtain ⟨JR_62, hJR_62, hsp⟩ := slet_ex hsp
            refine pu_join (fun H locs ls st => ∃ (g_59 : Int32) (g_60 : Nat → Int32), st = [] ∧ (g_59, g_60) = JR_62 ∧ va_P (dC, dI) vwCl (ti__w ti r0 (nI ln) r2 r3 r4 r5 (nI nr) r7 r8 tz k_j0 (bN 13 q_j0) k_j2 g_60 k_j3 (bN 120 q_j3) k_j4 (bN 120 q_j4) k_j5 j5 k_j7 (bN 120 q_j7) k_j8 j8) H ∧ va_D A (ti__w ti r0 (nI ln) r2 r3 r4 r5 (nI nr) r7 r8 tz k_j0 (bN 13 q_j0) k_j2 g_60 k_j3 (bN 120 q_j3) k_j4 (bN 120 q_j4) k_j5 j5 k_j7 (bN 120 q_j7) k_j8 j8) ∧ va_S A s.heap H locs ∧ lv_has ls 5 [(0, .ref ti), (1, .int g_59), (2, .int (nI g_26)), (3, .int (nI g_43)), (4, .int y_55)]) 113 ?_ (fun j_61 => ?_)
            · rintro H locs ls st ⟨g_59, g_60, rfl, he_63, hP, hD, hS, hl⟩
              rw [← he_63] at hsp
              refine lv_iinc (v := (nI (g_43 + 1))) (lv' := [(3, .int (nI (g_43 + 1))), (0, .ref ti), (1, .int g_59), (2, .int (nI g_26)), (4, .int y_55)]) hx hb eX6_findsLeast_113 hl (k := 3) rfl (nI_1 _) (by decide) rfl (fun ls hl => ?_)
              refine lv_goto (tgt := 54) hx hb eX6_findsLeast_116 (by decide) ?_
              exact ih_44 (1920 - (g_43 + 1)) (by omega) _ _ _ ⟨g_60, g_59, (g_43 + 1), rfl, (by omega), hin_48 _ hsp, hP, hD, hS, lv_sub hl [1, 2, 3, 0] rfl⟩
            have hsp := hJR_62
            refine lv_icmp_le (tgt := 113) hx hb eX6_findsLeast_95 (by decide) (fun c_64 => ?_) (fun c_64 => ?_)
            · have hcc_64 := c_64
              have hsp := hsp.trans (if_pos c_64)
              exact j_61 _ _ _ _ ⟨g_42, g_41, rfl, hsp.symm, hP, hD, hS, lv_sub hl [1, 2, 3, 4, 0] rfl⟩
            · have hcc_64 := c_64
              have hsp := hsp.trans (if_neg c_64)
              refine lv_aload_n hx hb eX6_findsLeast_98 rfl (lv_at hl 1 rfl) ?_
              refine va_get (D := (dC, dI)) (ci := 6) (v := .ref r2) (C := RX6) (T := TX6) (N := 10) hx hb hts hiX6 hown hK hP 0 rfl rfl 2 (by decide) v_2 (fun _ h9 => h9) rfl eX6_findsLeast_99 ?_
              refine lv_aload_n hx hb eX6_findsLeast_102 rfl (lv_at hl 1 rfl) ?_
              refine va_get (D := (dC, dI)) (ci := 6) (v := .ref r3) (C := RX6) (T := TX6) (N := 10) hx hb hts hiX6 hown hK hP 0 rfl rfl 3 (by decide) v_6 (fun _ h9 => h9) rfl eX6_findsLeast_103 ?_
              refine lv_iload_n hx hb eX6_findsLeast_106 rfl (lv_at hl 4 rfl) ?_
              refine va_iald hx hb hK hP 3 2 rfl rfl (vp_in_nI (n := g_43) (by omega) (Nat.le_of_ble_eq_true rfl)) eX6_findsLeast_107 ?_
              refine lv_topi (fun y_65 ey_65 => ?_)
              obtain rfl : y_65 = nI u_57 := ey_65.trans qu_57
              refine lv_iload hx hb eX6_findsLeast_108 (lv_at hl 0 rfl) ?_
              refine va_iast hx hb hK hP hD hS 2 1 rfl rfl (vp_in_nI (n := u_57) (Nat.lt_of_le_of_lt hu_57 (Nat.le_of_ble_eq_true rfl)) (Nat.le_of_ble_eq_true rfl)) eX6_findsLeast_110 (fun H locs hP hD hS => ?_)
              obtain ⟨f_67, ef_67, xf_67⟩ := up_x g_41 (n := u_57) y_55 (Nat.lt_of_le_of_lt hu_57 (Nat.le_of_ble_eq_true rfl))
              have hP : va_P (dC, dI) vwCl (ti__w ti r0 (nI ln) r2 r3 r4 r5 (nI nr) r7 r8 tz k_j0 (bN 13 q_j0) k_j2 f_67 k_j3 (bN 120 q_j3) k_j4 (bN 120 q_j4) k_j5 j5 k_j7 (bN 120 q_j7) k_j8 j8) H := by rw [← ef_67]; exact hP
              have hD : va_D A (ti__w ti r0 (nI ln) r2 r3 r4 r5 (nI nr) r7 r8 tz k_j0 (bN 13 q_j0) k_j2 f_67 k_j3 (bN 120 q_j3) k_j4 (bN 120 q_j4) k_j5 j5 k_j7 (bN 120 q_j7) k_j8 j8) := by rw [← ef_67]; exact hD
              have hsp := hsp.trans (slet_eq xf_67)
              refine lv_iconst (v := 1) hx hb eX6_findsLeast_111 (by decide) ?_
              refine lv_istore_n (lv' := [(1, .int 1), (4, .int y_55), (0, .ref ti), (2, .int (nI g_26)), (3, .int (nI g_43))]) hx hb eX6_findsLeast_112 rfl hl (by decide) rfl (fun ls hl => ?_)
              exact j_61 _ _ _ _ ⟨1, f_67, rfl, hsp.symm, hP, hD, hS, lv_sub hl [2, 0, 3, 4, 1] rfl⟩
  · have c_11 : ¬ ln < g_4 := fun z => c_11 ((nI_ltI (a := ln) (b := g_4) (Nat.lt_of_le_of_lt hln (Nat.le_of_ble_eq_true rfl)) (Nat.lt_of_le_of_lt hg_4 (Nat.le_of_ble_eq_true rfl))).mpr z)
    have hsp := hsp.trans (if_neg c_11)
    refine lv_aload_n hx hb eX6_findsLeast_10 rfl (lv_at hl 0 rfl) ?_
    refine va_get (D := (dC, dI)) (ci := 6) (v := .ref r2) (C := RX6) (T := TX6) (N := 10) hx hb hts hiX6 hown hK hP 0 rfl rfl 2 (by decide) v_2 (fun _ h9 => h9) rfl eX6_findsLeast_11 ?_
    refine lv_iload_n hx hb eX6_findsLeast_14 rfl (lv_at hl 1 rfl) ?_
    refine lv_iconst (v := 0) hx hb eX6_findsLeast_15 (by decide) ?_
    refine va_iast hx hb hK hP hD hS 2 1 rfl rfl (vp_in_nI (n := g_4) (Nat.lt_of_le_of_lt hg_4 (Nat.le_of_ble_eq_true rfl)) (Nat.le_of_ble_eq_true rfl)) eX6_findsLeast_16 (fun H locs hP hD hS => ?_)
    obtain ⟨f_68, ef_68, xf_68⟩ := up_x g_3 (n := g_4) 0 (Nat.lt_of_le_of_lt hg_4 (Nat.le_of_ble_eq_true rfl))
    have hP : va_P (dC, dI) vwCl (ti__w ti r0 (nI ln) r2 r3 r4 r5 (nI nr) r7 r8 tz k_j0 (bN 13 q_j0) k_j2 f_68 k_j3 (bN 120 q_j3) k_j4 (bN 120 q_j4) k_j5 j5 k_j7 (bN 120 q_j7) k_j8 j8) H := by rw [← ef_68]; exact hP
    have hD : va_D A (ti__w ti r0 (nI ln) r2 r3 r4 r5 (nI nr) r7 r8 tz k_j0 (bN 13 q_j0) k_j2 f_68 k_j3 (bN 120 q_j3) k_j4 (bN 120 q_j4) k_j5 j5 k_j7 (bN 120 q_j7) k_j8 j8) := by rw [← ef_68]; exact hD
    have hsp := hsp.trans (slet_eq xf_68)
    refine lv_iinc (v := (nI (g_4 + 1))) (lv' := [(1, .int (nI (g_4 + 1))), (0, .ref ti)]) hx hb eX6_findsLeast_17 hl (k := 1) rfl (nI_1 _) (by decide) rfl (fun ls hl => ?_)
    refine lv_goto (tgt := 2) hx hb eX6_findsLeast_20 (by decide) ?_
    exact ih_5 (120 - (g_4 + 1)) (by omega) _ _ _ ⟨f_68, (g_4 + 1), rfl, (by omega), hin_9 _ hsp, hP, hD, hS, lv_sub hl [1, 0] rfl⟩
