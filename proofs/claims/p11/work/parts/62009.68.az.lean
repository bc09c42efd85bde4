theorem eX0_narrowTo_0 : decode cX0_narrowTo 0 = .ok (.iconst 0, 1) := by decide +kernel
theorem eX0_narrowTo_1 : decode cX0_narrowTo 1 = .ok (.istore 4, 2) := by decide +kernel
theorem eX0_narrowTo_3 : decode cX0_narrowTo 3 = .ok (.iload 4, 2) := by decide +kernel
theorem eX0_narrowTo_5 : decode cX0_narrowTo 5 = .ok (.aload_n 0, 1) := by decide +kernel
theorem eX0_narrowTo_6 : decode cX0_narrowTo 6 = .ok (.getfield 29, 3) := by decide +kernel
theorem eX0_narrowTo_9 : decode cX0_narrowTo 9 = .ok (.iload_n 2, 1) := by decide +kernel
theorem eX0_narrowTo_10 : decode cX0_narrowTo 10 = .ok (.iaload, 1) := by decide +kernel
theorem eX0_narrowTo_11 : decode cX0_narrowTo 11 = .ok (.if_icmp .ge 100, 3) := by decide +kernel
theorem eX0_narrowTo_14 : decode cX0_narrowTo 14 = .ok (.iload_n 2, 1) := by decide +kernel
theorem eX0_narrowTo_15 : decode cX0_narrowTo 15 = .ok (.iload 4, 2) := by decide +kernel
theorem eX0_narrowTo_17 : decode cX0_narrowTo 17 = .ok (.invokestatic 65, 3) := by decide +kernel
theorem eX0_narrowTo_20 : decode cX0_narrowTo 20 = .ok (.istore 5, 2) := by decide +kernel
theorem eX0_narrowTo_22 : decode cX0_narrowTo 22 = .ok (.aload_n 0, 1) := by decide +kernel
theorem eX0_narrowTo_23 : decode cX0_narrowTo 23 = .ok (.getfield 32, 3) := by decide +kernel
theorem eX0_narrowTo_26 : decode cX0_narrowTo 26 = .ok (.iload 5, 2) := by decide +kernel
theorem eX0_narrowTo_28 : decode cX0_narrowTo 28 = .ok (.iaload, 1) := by decide +kernel
theorem eX0_narrowTo_29 : decode cX0_narrowTo 29 = .ok (.istore 6, 2) := by decide +kernel
theorem eX0_narrowTo_31 : decode cX0_narrowTo 31 = .ok (.iload_n 3, 1) := by decide +kernel
theorem eX0_narrowTo_32 : decode cX0_narrowTo 32 = .ok (.iload 6, 2) := by decide +kernel
theorem eX0_narrowTo_34 : decode cX0_narrowTo 34 = .ok (.ishr, 1) := by decide +kernel
theorem eX0_narrowTo_35 : decode cX0_narrowTo 35 = .ok (.iconst 1, 1) := by decide +kernel
theorem eX0_narrowTo_36 : decode cX0_narrowTo 36 = .ok (.iand, 1) := by decide +kernel
theorem eX0_narrowTo_37 : decode cX0_narrowTo 37 = .ok (.iconst 1, 1) := by decide +kernel
theorem eX0_narrowTo_38 : decode cX0_narrowTo 38 = .ok (.if_icmp .ne 27, 3) := by decide +kernel
theorem eX0_narrowTo_41 : decode cX0_narrowTo 41 = .ok (.aload_n 0, 1) := by decide +kernel
theorem eX0_narrowTo_42 : decode cX0_narrowTo 42 = .ok (.getfield 41, 3) := by decide +kernel
theorem eX0_narrowTo_45 : decode cX0_narrowTo 45 = .ok (.iload 5, 2) := by decide +kernel
theorem eX0_narrowTo_47 : decode cX0_narrowTo 47 = .ok (.iaload, 1) := by decide +kernel
theorem eX0_narrowTo_48 : decode cX0_narrowTo 48 = .ok (.iconst 1, 1) := by decide +kernel
theorem eX0_narrowTo_49 : decode cX0_narrowTo 49 = .ok (.if_icmp .lt 14, 3) := by decide +kernel
theorem eX0_narrowTo_52 : decode cX0_narrowTo 52 = .ok (.aload_n 0, 1) := by decide +kernel
theorem eX0_narrowTo_53 : decode cX0_narrowTo 53 = .ok (.getfield 44, 3) := by decide +kernel
theorem eX0_narrowTo_56 : decode cX0_narrowTo 56 = .ok (.iload 5, 2) := by decide +kernel
theorem eX0_narrowTo_58 : decode cX0_narrowTo 58 = .ok (.iaload, 1) := by decide +kernel
theorem eX0_narrowTo_59 : decode cX0_narrowTo 59 = .ok (.iconst 1, 1) := by decide +kernel
theorem eX0_narrowTo_60 : decode cX0_narrowTo 60 = .ok (.if_icmp .ge 45, 3) := by decide +kernel
theorem eX0_narrowTo_63 : decode cX0_narrowTo 63 = .ok (.iconst 0, 1) := by decide +kernel
theorem eX0_narrowTo_64 : decode cX0_narrowTo 64 = .ok (.ireturn, 1) := by decide +kernel
theorem eX0_narrowTo_65 : decode cX0_narrowTo 65 = .ok (.aload_n 1, 1) := by decide +kernel
theorem eX0_narrowTo_66 : decode cX0_narrowTo 66 = .ok (.iload 6, 2) := by decide +kernel
theorem eX0_narrowTo_68 : decode cX0_narrowTo 68 = .ok (.iconst 1, 1) := by decide +kernel
theorem eX0_narrowTo_69 : decode cX0_narrowTo 69 = .ok (.iadd, 1) := by decide +kernel
theorem eX0_narrowTo_70 : decode cX0_narrowTo 70 = .ok (.iconst 0, 1) := by decide +kernel
theorem eX0_narrowTo_71 : decode cX0_narrowTo 71 = .ok (.aload_n 0, 1) := by decide +kernel
theorem eX0_narrowTo_72 : decode cX0_narrowTo 72 = .ok (.getfield 41, 3) := by decide +kernel
theorem eX0_narrowTo_75 : decode cX0_narrowTo 75 = .ok (.iload 5, 2) := by decide +kernel
theorem eX0_narrowTo_77 : decode cX0_narrowTo 77 = .ok (.iaload, 1) := by decide +kernel
theorem eX0_narrowTo_78 : decode cX0_narrowTo 78 = .ok (.invokevirtual 84, 3) := by decide +kernel
theorem eX0_narrowTo_81 : decode cX0_narrowTo 81 = .ok (.ifCond .eq 22, 3) := by decide +kernel
theorem eX0_narrowTo_84 : decode cX0_narrowTo 84 = .ok (.aload_n 1, 1) := by decide +kernel
theorem eX0_narrowTo_85 : decode cX0_narrowTo 85 = .ok (.iconst 0, 1) := by decide +kernel
theorem eX0_narrowTo_86 : decode cX0_narrowTo 86 = .ok (.iload 6, 2) := by decide +kernel
theorem eX0_narrowTo_88 : decode cX0_narrowTo 88 = .ok (.iconst 1, 1) := by decide +kernel
theorem eX0_narrowTo_89 : decode cX0_narrowTo 89 = .ok (.iadd, 1) := by decide +kernel
theorem eX0_narrowTo_90 : decode cX0_narrowTo 90 = .ok (.aload_n 0, 1) := by decide +kernel
theorem eX0_narrowTo_91 : decode cX0_narrowTo 91 = .ok (.getfield 44, 3) := by decide +kernel
theorem eX0_narrowTo_94 : decode cX0_narrowTo 94 = .ok (.iload 5, 2) := by decide +kernel
theorem eX0_narrowTo_96 : decode cX0_narrowTo 96 = .ok (.iaload, 1) := by decide +kernel
theorem eX0_narrowTo_97 : decode cX0_narrowTo 97 = .ok (.invokevirtual 84, 3) := by decide +kernel
theorem eX0_narrowTo_100 : decode cX0_narrowTo 100 = .ok (.ifCond .ne 5, 3) := by decide +kernel
theorem eX0_narrowTo_103 : decode cX0_narrowTo 103 = .ok (.iconst 0, 1) := by decide +kernel
theorem eX0_narrowTo_104 : decode cX0_narrowTo 104 = .ok (.ireturn, 1) := by decide +kernel
theorem eX0_narrowTo_105 : decode cX0_narrowTo 105 = .ok (.iinc 4 1, 3) := by decide +kernel
theorem eX0_narrowTo_108 : decode cX0_narrowTo 108 = .ok (.goto (-105), 3) := by decide +kernel
theorem eX0_narrowTo_111 : decode cX0_narrowTo 111 = .ok (.iconst 1, 1) := by decide +kernel
theorem eX0_narrowTo_112 : decode cX0_narrowTo 112 = .ok (.ireturn, 1) := by decide +kernel
abbrev vs_E_0_narrowTo_16 : List Cond := .code yX0_narrowTo cX0_narrowTo 7 (some .boolean) :: CM
theorem g_E_0_narrowTo_16_E_0_slot : GoodIn vs_E_0_narrowTo_16 (va_wsS RX0 65 yX0_slot vs_E_0_slot) := cm_gS cm_17 cm_18 cm_19 cm_1
theorem g_E_0_narrowTo_16_E_7_narrow_16 : GoodIn vs_E_0_narrowTo_16 (wsV RX0 84 RX7 yX7_narrow vs_E_7_narrow_16) := cm_gV cm_42 cm_43 cm_44 cm_45 cm_46
noncomputable def sp_E_0_narrowTo_16_L1 (q_f8 : Nat → Nat) (q_f9 : Nat → Nat) (f12 : Nat → Int32) (f13 : Nat → Int32) (zn : Nat) (a1 : Nat) (p2 : Int32) : ((Nat → Int32) × Nat) → ((Nat → Int32) × Nat) ⊕ (Nat × (Nat → Int32)) := fun (g_3, g_4) => (slet (min (q_f8 a1) 4) (fun u_12 => (if u_12 ≤ g_4 then (Sum.inr (1, g_3)) else (slet (min (q_f9 (a1 * 4 + g_4)) 2) (fun u_16 => (slet ((p2 : Int32) >>> (((nI u_16) : Int32) &&& 31)) (fun y_17 => (slet ((y_17 : Int32) &&& (1 : Int32)) (fun y_18 => (if (y_18 : Int32) = 1 then (slet (f12 (a1 * 4 + g_4)) (fun y_32 => (if (y_32 : Int32) < 1 then (Sum.inr (0, g_3)) else (slet (f13 (a1 * 4 + g_4)) (fun y_34 => (if (1 : Int32) ≤ y_34 then (Sum.inl (g_3, (g_4 + 1))) else (Sum.inr (0, g_3)))))))) else (slet (f12 (a1 * 4 + g_4)) (fun y_21 => (slet (sp_E_7_narrow_16 zn g_3 (u_16 + 1) 0 y_21) (fun (u_24, z_fz_23) => (if u_24 = 0 then (Sum.inr (0, z_fz_23)) else (slet (f13 (a1 * 4 + g_4)) (fun y_27 => (slet (sp_E_7_narrow_16 zn z_fz_23 0 (u_16 + 1) y_27) (fun (u_30, z_fz_29) => (if u_30 = 0 then (Sum.inr (0, z_fz_29)) else (Sum.inl (z_fz_29, (g_4 + 1)))))))))))))))))))))))
noncomputable def sp_E_0_narrowTo_16 (q_f8 : Nat → Nat) (q_f9 : Nat → Nat) (f12 : Nat → Int32) (f13 : Nat → Int32) (zn : Nat) (fz : Nat → Int32) (a1 : Nat) (p2 : Int32) : Nat × (Nat → Int32) := (itrv (α := (Nat → Int32) × Nat) (β := (Nat × (Nat → Int32))) default (sp_E_0_narrowTo_16_L1 q_f8 q_f9 f12 f13 zn a1 p2) (fz, 0))
set_option maxHeartbeats 4000000 in
set_option maxRecDepth 100000 in
theorem c_E_0_narrowTo_16 (l : Launch) (dC : Nat → ClassId) (dI : Nat → Nat → Nat) (sz : Nat) (au : Nat) (nc : Nat) (np : Nat) (ne : Nat) (st0 : Int32) (q4 : Nat) (q5 : Nat) (q6 : Nat) (q7 : Nat) (q8 : Nat) (q9 : Nat) (q10 : Nat) (q11 : Nat) (q12 : Nat) (q13 : Nat) (q14 : Nat) (q15 : Nat) (q16 : Nat) (k_f4 : ClassId) (f4 : Nat → Int32) (k_f5 : ClassId) (q_f5 : Nat → Nat) (k_f6 : ClassId) (q_f6 : Nat → Nat) (k_f7 : ClassId) (f7 : Nat → Int32) (k_f8 : ClassId) (q_f8 : Nat → Nat) (k_f9 : ClassId) (q_f9 : Nat → Nat) (k_f10 : ClassId) (f10 : Nat → Int32) (k_f11 : ClassId) (f11 : Nat → Int32) (k_f12 : ClassId) (f12 : Nat → Int32) (k_f13 : ClassId) (f13 : Nat → Int32) (k_f14 : ClassId) (f14 : Nat → Int32) (k_f15 : ClassId) (f15 : Nat → Int32) (k_f16 : ClassId) (f16 : Nat → Int32) (z : Nat) (zc : Nat) (zn : Nat) (k_fz : ClassId) (fz : Nat → Int32) (a1 : Nat) (p2 : Int32) (hnc : nc ≤ 3) (hnp : np ≤ 8) (hne : ne ≤ 14) (hst0 : pm1 7 st0) (hzn : zn ≤ 4) (ha1 : a1 ≤ 21) : Met l yX0_narrowTo vs_E_0_narrowTo_16 ({ frames := 1, cells := 0, slots := 0, locals := 29 }) (va_Pc [.ref au, .ref z, .int (nI a1), .int p2] (pu_B (dC, dI) (az16__w au (nI nc) (nI np) (nI ne) st0 q4 q5 q6 q7 q8 q9 q10 q11 q12 q13 q14 q15 q16 k_f4 f4 k_f5 (bN 7 q_f5) k_f6 (bN 7 q_f6) k_f7 f7 k_f8 (bN 4 q_f8) k_f9 (bN 2 q_f9) k_f10 f10 k_f11 f11 k_f12 f12 k_f13 f13 k_f14 f14 k_f15 f15 k_f16 f16 z zc (nI zn) k_fz fz) (az16__t k_f4 k_f5 k_f6 k_f7 k_f8 k_f9 k_f10 k_f11 k_f12 k_f13 k_f14 k_f15 k_f16 k_fz) sz)) (va_Qi (fun (r : Int32) (_ : Unit) => ∃ v : Nat, v ≤ 1 ∧ r = nI v ∧ v = (sp_E_0_narrowTo_16 q_f8 q_f9 f12 f13 zn fz a1 p2).1) (fun _ t => ∃ (z_fz : Nat → Int32), pu_E (dC, dI) (az16__w au (nI nc) (nI np) (nI ne) st0 q4 q5 q6 q7 q8 q9 q10 q11 q12 q13 q14 q15 q16 k_f4 f4 k_f5 (bN 7 q_f5) k_f6 (bN 7 q_f6) k_f7 f7 k_f8 (bN 4 q_f8) k_f9 (bN 2 q_f9) k_f10 f10 k_f11 f11 k_f12 f12 k_f13 f13 k_f14 f14 k_f15 f15 k_f16 f16 z zc (nI zn) k_fz z_fz) (az16__t k_f4 k_f5 k_f6 k_f7 k_f8 k_f9 k_f10 k_f11 k_f12 k_f13 k_f14 k_f15 k_f16 k_fz) (va_A ((az16__w au (nI nc) (nI np) (nI ne) st0 q4 q5 q6 q7 q8 q9 q10 q11 q12 q13 q14 q15 q16 k_f4 f4 k_f5 (bN 7 q_f5) k_f6 (bN 7 q_f6) k_f7 f7 k_f8 (bN 4 q_f8) k_f9 (bN 2 q_f9) k_f10 f10 k_f11 f11 k_f12 f12 k_f13 f13 k_f14 f14 k_f15 f15 k_f16 f16 z zc (nI zn) k_fz fz)) sz) t ∧ (z_fz = (sp_E_0_narrowTo_16 q_f8 q_f9 f12 f13 zn fz a1 p2).2)) (va_A ((az16__w au (nI nc) (nI np) (nI ne) st0 q4 q5 q6 q7 q8 q9 q10 q11 q12 q13 q14 q15 q16 k_f4 f4 k_f5 (bN 7 q_f5) k_f6 (bN 7 q_f6) k_f7 f7 k_f8 (bN 4 q_f8) k_f9 (bN 2 q_f9) k_f10 f10 k_f11 f11 k_f12 f12 k_f13 f13 k_f14 f14 k_f15 f15 k_f16 f16 z zc (nI zn) k_fz fz)) sz)) 0 0 (va_A ((az16__w au (nI nc) (nI np) (nI ne) st0 q4 q5 q6 q7 q8 q9 q10 q11 q12 q13 q14 q15 q16 k_f4 f4 k_f5 (bN 7 q_f5) k_f6 (bN 7 q_f6) k_f7 f7 k_f8 (bN 4 q_f8) k_f9 (bN 2 q_f9) k_f10 f10 k_f11 f11 k_f12 f12 k_f13 f13 k_f14 f14 k_f15 f15 k_f16 f16 z zc (nI zn) k_fz fz)) sz) := by
  refine Met.ofW (cc := cX0_narrowTo) (maxL := 7) (ret := (some .boolean)) (by decide) rfl ?_
  intro p e s m args below meth c s₁ B hml hv
  obtain ⟨rfl, rfl, hP, hK, hD0⟩ := hv
  have hx := B.exec
  have hb := B.bytes
  have hr := B.returns
  have hts := atoms_spec (ws := vs_E_0_narrowTo_16) B.pre
  have v_1 := hts (.fieldLink RX0 29 "ClockReach$Automaton" "counts" "[I") (List.mem_cons_of_mem _ cm_8)
  have v_6 := hts (.fieldLink RX0 32 "ClockReach$Automaton" "conditionClocks" "[I") (List.mem_cons_of_mem _ cm_14)
  have v_7 := hts (.fieldLink RX0 41 "ClockReach$Automaton" "ceilings" "[I") (List.mem_cons_of_mem _ cm_24)
  have v_13 := hts (.fieldLink RX0 44 "ClockReach$Automaton" "floors" "[I") (List.mem_cons_of_mem _ cm_26)
  have hown : s.vm.findClass RX0 = some m.cls := findClass_of_methodNamed B.named
  have hlocks := B.notSynchronized
  have hiX0 : ∀ w ∈ wsX00, w ∈ vs_E_0_narrowTo_16 := fun _ h => List.mem_cons_of_mem _ (cm_X0 h)
  have hD := hD0.self (sz := s.heap.size)
  generalize hAe : va_A ((az16__w au (nI nc) (nI np) (nI ne) st0 q4 q5 q6 q7 q8 q9 q10 q11 q12 q13 q14 q15 q16 k_f4 f4 k_f5 (bN 7 q_f5) k_f6 (bN 7 q_f6) k_f7 f7 k_f8 (bN 4 q_f8) k_f9 (bN 2 q_f9) k_f10 f10 k_f11 f11 k_f12 f12 k_f13 f13 k_f14 f14 k_f15 f15 k_f16 f16 z zc (nI zn) k_fz fz)) s.heap.size = A at hD ⊢
  have hA : ∀ q : Nat, s.heap.size ≤ q → A q := fun q h => by rw [← hAe]; exact Or.inr h
  have hS : va_S A s.heap s.heap [] := va_S.rf
  have hl := lv_entry ([.ref au, .ref z, .int (nI a1), .int p2]) (n := 7) (Nat.le_of_ble_eq_true rfl)
  rw [lg_entry_eq]
  generalize (lg_sl ([.ref au, .ref z, .int (nI a1), .int p2]) ++ List.replicate (7 - (lg_sl ([.ref au, .ref z, .int (nI a1), .int p2])).length) Slot.unset).toArray = ls at hl ⊢
  have hl : lv_has ls 7 [(0, .ref au), (1, .ref z), (2, .int (nI a1)), (3, .int p2)] := hl
  obtain ⟨RR, hRR⟩ : ∃ x, x = (sp_E_0_narrowTo_16 q_f8 q_f9 f12 f13 zn fz a1 p2) := ⟨_, rfl⟩
  have hsp := hRR
  refine lv_iconst (v := 0) hx hb eX0_narrowTo_0 (by decide) ?_
  refine lv_istore (lv' := [(4, .int 0), (0, .ref au), (1, .ref z), (2, .int (nI a1)), (3, .int p2)]) hx hb eX0_narrowTo_1 hl (by decide) rfl (fun ls hl => ?_)
  obtain ⟨lf_6, dlf_6, hlf_6, hsp⟩ := itr_ex hsp
  delta sp_E_0_narrowTo_16_L1 at hlf_6
  refine pu_while (fun nn H locs ls => ∃ (g_3 : Nat → Int32) (g_4 : Nat), nn = 4 - g_4 ∧ g_4 ≤ 4 ∧ RR = itrv dlf_6 lf_6 (g_3, g_4) ∧ va_P (dC, dI) vwCl (az16__w au (nI nc) (nI np) (nI ne) st0 q4 q5 q6 q7 q8 q9 q10 q11 q12 q13 q14 q15 q16 k_f4 f4 k_f5 (bN 7 q_f5) k_f6 (bN 7 q_f6) k_f7 f7 k_f8 (bN 4 q_f8) k_f9 (bN 2 q_f9) k_f10 f10 k_f11 f11 k_f12 f12 k_f13 f13 k_f14 f14 k_f15 f15 k_f16 f16 z zc (nI zn) k_fz g_3) H ∧ va_D A (az16__w au (nI nc) (nI np) (nI ne) st0 q4 q5 q6 q7 q8 q9 q10 q11 q12 q13 q14 q15 q16 k_f4 f4 k_f5 (bN 7 q_f5) k_f6 (bN 7 q_f6) k_f7 f7 k_f8 (bN 4 q_f8) k_f9 (bN 2 q_f9) k_f10 f10 k_f11 f11 k_f12 f12 k_f13 f13 k_f14 f14 k_f15 f15 k_f16 f16 z zc (nI zn) k_fz g_3) ∧ va_S A s.heap H locs ∧ lv_has ls 7 [(0, .ref au), (1, .ref z), (2, .int (nI a1)), (3, .int p2), (4, .int (nI g_4))]) 3 ?_ _ _ _ _ ⟨fz, 0, rfl, (Nat.le_of_ble_eq_true rfl), hsp, hP, hD, hS, lv_sub hl [1, 2, 3, 4, 0] rfl⟩
  rintro nn ih_5 H locs ls ⟨g_3, g_4, rfl, hg_4, he_8, hP, hD, hS, hl⟩
  obtain ⟨S_7, hsp, hin_9, hout_10⟩ := itr_step hlf_6 he_8
  refine lv_iload hx hb eX0_narrowTo_3 (lv_at hl 4 rfl) ?_
  refine lv_aload_n hx hb eX0_narrowTo_5 rfl (lv_at hl 0 rfl) ?_
  refine va_get (D := (dC, dI)) (ci := 0) (v := .ref q8) (C := RX0) (T := TX0) (N := 17) hx hb hts hiX0 hown hK hP 0 rfl rfl 8 (by decide) v_1 (fun _ h9 => h9) rfl eX0_narrowTo_6 ?_
  refine lv_iload_n hx hb eX0_narrowTo_9 rfl (lv_at hl 2 rfl) ?_
  refine va_iald hx hb hK hP 5 4 rfl rfl (vp_in_nI (n := a1) (Nat.lt_of_le_of_lt ha1 (Nat.le_of_ble_eq_true rfl)) (Nat.le_of_ble_eq_true rfl)) eX0_narrowTo_10 ?_
  refine lv_topi (fun y_11 ey_11 => ?_)
  obtain ⟨u_12, hu_12, qu_12, xu_12⟩ := bN_getx 4 q_f8 (n := a1) (Nat.lt_of_le_of_lt ha1 (Nat.le_of_ble_eq_true rfl))
  obtain rfl : y_11 = nI u_12 := ey_11.trans qu_12
  have hsp := hsp.trans (slet_eq xu_12)
  refine lv_icmp_ge (tgt := 111) hx hb eX0_narrowTo_11 (by decide) (fun c_13 => ?_) (fun c_13 => ?_)
  · have c_13 : u_12 ≤ g_4 := (nI_leI (a := u_12) (b := g_4) (Nat.lt_of_le_of_lt hu_12 (Nat.le_of_ble_eq_true rfl)) (Nat.lt_of_le_of_lt hg_4 (Nat.le_of_ble_eq_true rfl))).mp c_13
    have hsp := hsp.trans (if_pos c_13)
    have hsp := hout_10 _ hsp
    refine lv_iconst (v := 1) hx hb eX0_narrowTo_111 (by decide) ?_
    exact W.zret (v := 1) (ty := .boolean) hx hb hr (rfl) (fun t ht hW => ⟨⟨1, (), rfl, ⟨1, (Nat.le_of_ble_eq_true rfl), rfl, (congrArg Prod.fst (hsp.symm.trans hRR))⟩, ⟨g_3, ⟨by rw [ht]; exact hP, va_K.moved hW.alike hK, hD⟩, (congrArg Prod.snd (hsp.symm.trans hRR))⟩⟩, hS.F ht⟩) hS.2.2 eX0_narrowTo_112
  · have c_13 : ¬ u_12 ≤ g_4 := fun z => c_13 ((nI_leI (a := u_12) (b := g_4) (Nat.lt_of_le_of_lt hu_12 (Nat.le_of_ble_eq_true rfl)) (Nat.lt_of_le_of_lt hg_4 (Nat.le_of_ble_eq_true rfl))).mpr z)
    have hsp := hsp.trans (if_neg c_13)
    refine lv_iload_n hx hb eX0_narrowTo_14 rfl (lv_at hl 2 rfl) ?_
    refine lv_iload hx hb eX0_narrowTo_15 (lv_at hl 4 rfl) ?_
    refine va_calli (va_runS (As := [.int (nI a1), .int (nI g_4)]) (rest := []) ⟨hx, hb, hml, hown, hts⟩ (c_E_0_slot l dC dI _ a1 g_4 ha1 hg_4) (va_cwS 2 hts g_E_0_narrowTo_16_E_0_slot rfl rfl rfl (by decide +kernel) ⟨Nat.le_of_ble_eq_true rfl, Nat.le_of_ble_eq_true rfl⟩) ⟨pu_bl, pu_in (hP.sub [] rfl) (hK.sub [] rfl) (hD.sub [] (by decide) rfl)⟩ rfl rfl hl.1 rfl (lv_room (Nat.le_of_ble_eq_true rfl)) eX0_narrowTo_17 ⟨Nat.le_of_ble_eq_true rfl, Nat.le_of_ble_eq_true rfl⟩) hS (fun q _ h => pu_fr hS hA q h) (pu_fr hS hA) (fun r_14 u t H1 locs ht hvm hw hB hz1 hk1 hS => ?_)
    have hP := pu_keep hP hk1
    clear hk1 hz1 ht hvm
    generalize H1 = H at hP hS ⊢
    obtain rfl : r_14 = nI (a1 * 4 + g_4) := hw
    refine lv_istore (lv' := [(5, .int (nI (a1 * 4 + g_4))), (0, .ref au), (1, .ref z), (2, .int (nI a1)), (3, .int p2), (4, .int (nI g_4))]) hx hb eX0_narrowTo_20 hl (by decide) rfl (fun ls hl => ?_)
    refine lv_aload_n hx hb eX0_narrowTo_22 rfl (lv_at hl 1 rfl) ?_
    refine va_get (D := (dC, dI)) (ci := 0) (v := .ref q9) (C := RX0) (T := TX0) (N := 17) hx hb hts hiX0 hown hK hP 0 rfl rfl 9 (by decide) v_6 (fun _ h9 => h9) rfl eX0_narrowTo_23 ?_
    refine lv_iload hx hb eX0_narrowTo_26 (lv_at hl 0 rfl) ?_
    refine va_iald hx hb hK hP 6 5 rfl rfl (vp_in_nI (n := (a1 * 4 + g_4)) (by omega) (Nat.le_of_ble_eq_true rfl)) eX0_narrowTo_28 ?_
    refine lv_topi (fun y_15 ey_15 => ?_)
    obtain ⟨u_16, hu_16, qu_16, xu_16⟩ := bN_getx 2 q_f9 (n := (a1 * 4 + g_4)) (by first | omega | exact Nat.lt_trans (zx16 (by omega) (by omega) (by omega)) (Nat.le_of_ble_eq_true rfl) | exact Nat.lt_trans (zy16 (by omega) (by omega)) (Nat.le_of_ble_eq_true rfl) | exact Nat.lt_trans (zx25 (by omega) (by omega) (by omega)) (Nat.le_of_ble_eq_true rfl) | exact Nat.lt_trans (zy25 (by omega) (by omega)) (Nat.le_of_ble_eq_true rfl))
    obtain rfl : y_15 = nI u_16 := ey_15.trans qu_16
    have hsp := hsp.trans (slet_eq xu_16)
    refine lv_istore (lv' := [(6, .int (nI u_16)), (5, .int (nI (a1 * 4 + g_4))), (0, .ref au), (1, .ref z), (2, .int (nI a1)), (3, .int p2), (4, .int (nI g_4))]) hx hb eX0_narrowTo_29 hl (by decide) rfl (fun ls hl => ?_)
    refine lv_iload_n hx hb eX0_narrowTo_31 rfl (lv_at hl 5 rfl) ?_
    refine lv_iload hx hb eX0_narrowTo_32 (lv_at hl 0 rfl) ?_
    refine lv_ishr hx hb eX0_narrowTo_34 ?_
    refine lv_topi (fun y_17 ey_17 => ?_)
    have hsp := hsp.trans (slet_eq ey_17)
    refine lv_iconst (v := 1) hx hb eX0_narrowTo_35 (by decide) ?_
    refine lv_iand hx hb eX0_narrowTo_36 ?_
    refine lv_topi (fun y_18 ey_18 => ?_)
    have hsp := hsp.trans (slet_eq ey_18)
    refine lv_iconst (v := 1) hx hb eX0_narrowTo_37 (by decide) ?_
    refine lv_icmp_ne (tgt := 65) hx hb eX0_narrowTo_38 (by decide) (fun c_19 => ?_) (fun c_19 => ?_)
    · have hcc_19 := c_19
      have hsp := hsp.trans (if_neg c_19)
      refine lv_aload_n hx hb eX0_narrowTo_65 rfl (lv_at hl 3 rfl) ?_
      refine lv_iload hx hb eX0_narrowTo_66 (lv_at hl 0 rfl) ?_
      refine lv_iconst (v := 1) hx hb eX0_narrowTo_68 (by decide) ?_
      refine lv_iadd hx hb eX0_narrowTo_69 ?_
      refine lv_topi (fun y_20 ey_20 => ?_)
      obtain rfl : y_20 = (nI (u_16 + 1)) := ey_20.trans (nI_add u_16 1)
      refine lv_iconst (v := 0) hx hb eX0_narrowTo_70 (by decide) ?_
      refine lv_aload_n hx hb eX0_narrowTo_71 rfl (lv_at hl 2 rfl) ?_
      refine va_get (D := (dC, dI)) (ci := 0) (v := .ref q12) (C := RX0) (T := TX0) (N := 17) hx hb hts hiX0 hown hK hP 0 rfl rfl 12 (by decide) v_7 (fun _ h9 => h9) rfl eX0_narrowTo_72 ?_
      refine lv_iload hx hb eX0_narrowTo_75 (lv_at hl 1 rfl) ?_
      refine va_iald hx hb hK hP 9 8 rfl rfl (vp_in_nI (n := (a1 * 4 + g_4)) (by omega) (Nat.le_of_ble_eq_true rfl)) eX0_narrowTo_77 ?_
      refine lv_topi (fun y_21 ey_21 => ?_)
      have ey_21 : y_21 = f12 (a1 * 4 + g_4) := ey_21.trans (congrArg f12 (nI_clamp (n := (a1 * 4 + g_4)) (by first | omega | exact Nat.lt_trans (zx16 (by omega) (by omega) (by omega)) (Nat.le_of_ble_eq_true rfl) | exact Nat.lt_trans (zy16 (by omega) (by omega)) (Nat.le_of_ble_eq_true rfl) | exact Nat.lt_trans (zx25 (by omega) (by omega) (by omega)) (Nat.le_of_ble_eq_true rfl) | exact Nat.lt_trans (zy25 (by omega) (by omega)) (Nat.le_of_ble_eq_true rfl))))
      have hsp := hsp.trans (slet_eq ey_21)
      have hPc : va_P (dC, dI) vwCl (z16__w z zc (nI zn) k_fz g_3) _ := hP.sub [14, 15] rfl
      have hDc := hD.sub (ws' := (z16__w z zc (nI zn) k_fz g_3)) [14, 15] (by decide) rfl
      have hKc : va_K (dC, dI) vwCl (z16__t k_fz) s := hK.sub [13] rfl
      have hFc := pu_free hDc hS hA
      refine va_calli (va_runV (As := [.int (nI (u_16 + 1)), .int 0, .int y_21]) (rest := []) ⟨hx, hb, hml, hown, hts⟩ (c_E_7_narrow_16 l dC dI _ z zc zn k_fz g_3 (u_16 + 1) 0 y_21 hzn (by omega) (Nat.le_of_ble_eq_true rfl)) (cwV 3 hts g_E_0_narrowTo_16_E_7_narrow_16 rfl rfl rfl (by decide +kernel) ⟨Nat.le_of_ble_eq_true rfl, Nat.le_of_ble_eq_true rfl⟩) ⟨pu_bl, va_recv hK hP (ci := 7) (q0 := 14) rfl rfl, pu_in hPc hKc hDc⟩ rfl rfl hl.1 rfl (lv_room (Nat.le_of_ble_eq_true rfl)) eX0_narrowTo_78 ⟨Nat.le_of_ble_eq_true rfl, Nat.le_of_ble_eq_true rfl⟩) hS (fun q _ h => hFc q h) hFc (fun r_22 u t H1 locs ht hvm hw hB hz1 hk1 hS => ?_)
      obtain ⟨z_fz_23, ⟨hP1, -, hD1⟩, xr_22_0⟩ := hB
      rw [ht] at hP1
      obtain ⟨hP, hD⟩ := pj_a (X := (az16__w au (nI nc) (nI np) (nI ne) st0 q4 q5 q6 q7 q8 q9 q10 q11 q12 q13 q14 q15 q16 k_f4 f4 k_f5 (bN 7 q_f5) k_f6 (bN 7 q_f6) k_f7 f7 k_f8 (bN 4 q_f8) k_f9 (bN 2 q_f9) k_f10 f10 k_f11 f11 k_f12 f12 k_f13 f13 k_f14 f14 k_f15 f15 k_f16 f16 z zc (nI zn) k_fz g_3)) (X' := (az16__w au (nI nc) (nI np) (nI ne) st0 q4 q5 q6 q7 q8 q9 q10 q11 q12 q13 q14 q15 q16 k_f4 f4 k_f5 (bN 7 q_f5) k_f6 (bN 7 q_f6) k_f7 f7 k_f8 (bN 4 q_f8) k_f9 (bN 2 q_f9) k_f10 f10 k_f11 f11 k_f12 f12 k_f13 f13 k_f14 f14 k_f15 f15 k_f16 f16 z zc (nI zn) k_fz z_fz_23)) (wc := (z16__w z zc (nI zn) k_fz g_3)) (w1 := (z16__w z zc (nI zn) k_fz z_fz_23)) hP hD [14, 15] [2, 3, 4, 5, 6, 7, 8, 9, 10, 11, 12, 13, 14, 15, 0, 1] 2 rfl hk1 hP1 rfl rfl rfl (by decide)
      clear hP1 hD1 hFc hPc hDc hKc
      clear hk1 hz1 ht hvm
      generalize H1 = H at hP hS ⊢
      obtain ⟨u_24, hu_24, rfl, iu_24⟩ := hw
      have iu_24 : (u_24, z_fz_23) = (sp_E_7_narrow_16 zn g_3 (u_16 + 1) 0 y_21) := Prod.ext iu_24 xr_22_0
      have hsp := hsp.trans (slet_eq iu_24)
      refine lv_if_eq (tgt := 103) hx hb eX0_narrowTo_81 (by decide) (fun c_25 => ?_) (fun c_25 => ?_)
      · have c_25 : u_24 = 0 := (nI_eq (a := u_24) (b := 0) (Nat.lt_of_le_of_lt hu_24 (Nat.le_of_ble_eq_true rfl)) (Nat.le_of_ble_eq_true rfl)).mp c_25
        have hsp := hsp.trans (if_pos c_25)
        have hsp := hout_10 _ hsp
        refine lv_iconst (v := 0) hx hb eX0_narrowTo_103 (by decide) ?_
        exact W.zret (v := 0) (ty := .boolean) hx hb hr (rfl) (fun t ht hW => ⟨⟨0, (), rfl, ⟨0, (Nat.le_of_ble_eq_true rfl), rfl, (congrArg Prod.fst (hsp.symm.trans hRR))⟩, ⟨z_fz_23, ⟨by rw [ht]; exact hP, va_K.moved hW.alike hK, hD⟩, (congrArg Prod.snd (hsp.symm.trans hRR))⟩⟩, hS.F ht⟩) hS.2.2 eX0_narrowTo_104
      · have c_25 : ¬ u_24 = 0 := fun z => c_25 ((nI_eq (a := u_24) (b := 0) (Nat.lt_of_le_of_lt hu_24 (Nat.le_of_ble_eq_true rfl)) (Nat.le_of_ble_eq_true rfl)).mpr z)
        have hsp := hsp.trans (if_neg c_25)
        refine lv_aload_n hx hb eX0_narrowTo_84 rfl (lv_at hl 3 rfl) ?_
        refine lv_iconst (v := 0) hx hb eX0_narrowTo_85 (by decide) ?_
        refine lv_iload hx hb eX0_narrowTo_86 (lv_at hl 0 rfl) ?_
        refine lv_iconst (v := 1) hx hb eX0_narrowTo_88 (by decide) ?_
        refine lv_iadd hx hb eX0_narrowTo_89 ?_
        refine lv_topi (fun y_26 ey_26 => ?_)
        obtain rfl : y_26 = (nI (u_16 + 1)) := ey_26.trans (nI_add u_16 1)
        refine lv_aload_n hx hb eX0_narrowTo_90 rfl (lv_at hl 2 rfl) ?_
        refine va_get (D := (dC, dI)) (ci := 0) (v := .ref q13) (C := RX0) (T := TX0) (N := 17) hx hb hts hiX0 hown hK hP 0 rfl rfl 13 (by decide) v_13 (fun _ h9 => h9) rfl eX0_narrowTo_91 ?_
        refine lv_iload hx hb eX0_narrowTo_94 (lv_at hl 1 rfl) ?_
        refine va_iald hx hb hK hP 10 9 rfl rfl (vp_in_nI (n := (a1 * 4 + g_4)) (by omega) (Nat.le_of_ble_eq_true rfl)) eX0_narrowTo_96 ?_
        refine lv_topi (fun y_27 ey_27 => ?_)
        have ey_27 : y_27 = f13 (a1 * 4 + g_4) := ey_27.trans (congrArg f13 (nI_clamp (n := (a1 * 4 + g_4)) (by first | omega | exact Nat.lt_trans (zx16 (by omega) (by omega) (by omega)) (Nat.le_of_ble_eq_true rfl) | exact Nat.lt_trans (zy16 (by omega) (by omega)) (Nat.le_of_ble_eq_true rfl) | exact Nat.lt_trans (zx25 (by omega) (by omega) (by omega)) (Nat.le_of_ble_eq_true rfl) | exact Nat.lt_trans (zy25 (by omega) (by omega)) (Nat.le_of_ble_eq_true rfl))))
        have hsp := hsp.trans (slet_eq ey_27)
        have hPc : va_P (dC, dI) vwCl (z16__w z zc (nI zn) k_fz z_fz_23) _ := hP.sub [14, 15] rfl
        have hDc := hD.sub (ws' := (z16__w z zc (nI zn) k_fz z_fz_23)) [14, 15] (by decide) rfl
        have hKc : va_K (dC, dI) vwCl (z16__t k_fz) s := hK.sub [13] rfl
        have hFc := pu_free hDc hS hA
        refine va_calli (va_runV (As := [.int 0, .int (nI (u_16 + 1)), .int y_27]) (rest := []) ⟨hx, hb, hml, hown, hts⟩ (c_E_7_narrow_16 l dC dI _ z zc zn k_fz z_fz_23 0 (u_16 + 1) y_27 hzn (Nat.le_of_ble_eq_true rfl) (by omega)) (cwV 3 hts g_E_0_narrowTo_16_E_7_narrow_16 rfl rfl rfl (by decide +kernel) ⟨Nat.le_of_ble_eq_true rfl, Nat.le_of_ble_eq_true rfl⟩) ⟨pu_bl, va_recv hK hP (ci := 7) (q0 := 14) rfl rfl, pu_in hPc hKc hDc⟩ rfl rfl hl.1 rfl (lv_room (Nat.le_of_ble_eq_true rfl)) eX0_narrowTo_97 ⟨Nat.le_of_ble_eq_true rfl, Nat.le_of_ble_eq_true rfl⟩) hS (fun q _ h => hFc q h) hFc (fun r_28 u t H1 locs ht hvm hw hB hz1 hk1 hS => ?_)
        obtain ⟨z_fz_29, ⟨hP1, -, hD1⟩, xr_28_0⟩ := hB
        rw [ht] at hP1
        obtain ⟨hP, hD⟩ := pj_a (X := (az16__w au (nI nc) (nI np) (nI ne) st0 q4 q5 q6 q7 q8 q9 q10 q11 q12 q13 q14 q15 q16 k_f4 f4 k_f5 (bN 7 q_f5) k_f6 (bN 7 q_f6) k_f7 f7 k_f8 (bN 4 q_f8) k_f9 (bN 2 q_f9) k_f10 f10 k_f11 f11 k_f12 f12 k_f13 f13 k_f14 f14 k_f15 f15 k_f16 f16 z zc (nI zn) k_fz z_fz_23)) (X' := (az16__w au (nI nc) (nI np) (nI ne) st0 q4 q5 q6 q7 q8 q9 q10 q11 q12 q13 q14 q15 q16 k_f4 f4 k_f5 (bN 7 q_f5) k_f6 (bN 7 q_f6) k_f7 f7 k_f8 (bN 4 q_f8) k_f9 (bN 2 q_f9) k_f10 f10 k_f11 f11 k_f12 f12 k_f13 f13 k_f14 f14 k_f15 f15 k_f16 f16 z zc (nI zn) k_fz z_fz_29)) (wc := (z16__w z zc (nI zn) k_fz z_fz_23)) (w1 := (z16__w z zc (nI zn) k_fz z_fz_29)) hP hD [14, 15] [2, 3, 4, 5, 6, 7, 8, 9, 10, 11, 12, 13, 14, 15, 0, 1] 2 rfl hk1 hP1 rfl rfl rfl (by decide)
        clear hP1 hD1 hFc hPc hDc hKc
        clear hk1 hz1 ht hvm
        generalize H1 = H at hP hS ⊢
        obtain ⟨u_30, hu_30, rfl, iu_30⟩ := hw
        have iu_30 : (u_30, z_fz_29) = (sp_E_7_narrow_16 zn z_fz_23 0 (u_16 + 1) y_27) := Prod.ext iu_30 xr_28_0
        have hsp := hsp.trans (slet_eq iu_30)
        refine lv_if_ne (tgt := 105) hx hb eX0_narrowTo_100 (by decide) (fun c_31 => ?_) (fun c_31 => ?_)
        · have c_31 : ¬ u_30 = 0 := fun z => c_31 ((nI_eq (a := u_30) (b := 0) (Nat.lt_of_le_of_lt hu_30 (Nat.le_of_ble_eq_true rfl)) (Nat.le_of_ble_eq_true rfl)).mpr z)
          have hsp := hsp.trans (if_neg c_31)
          refine lv_iinc (v := (nI (g_4 + 1))) (lv' := [(4, .int (nI (g_4 + 1))), (6, .int (nI u_16)), (5, .int (nI (a1 * 4 + g_4))), (0, .ref au), (1, .ref z), (2, .int (nI a1)), (3, .int p2)]) hx hb eX0_narrowTo_105 hl (k := 6) rfl (nI_1 _) (by decide) rfl (fun ls hl => ?_)
          refine lv_goto (tgt := 3) hx hb eX0_narrowTo_108 (by decide) ?_
          exact ih_5 (4 - (g_4 + 1)) (by omega) _ _ _ ⟨z_fz_29, (g_4 + 1), rfl, (by omega), hin_9 _ hsp, hP, hD, hS, lv_sub hl [3, 4, 5, 6, 0] rfl⟩
        · have c_31 : u_30 = 0 := (nI_eq (a := u_30) (b := 0) (Nat.lt_of_le_of_lt hu_30 (Nat.le_of_ble_eq_true rfl)) (Nat.le_of_ble_eq_true rfl)).mp c_31
          have hsp := hsp.trans (if_pos c_31)
          have hsp := hout_10 _ hsp
          refine lv_iconst (v := 0) hx hb eX0_narrowTo_103 (by decide) ?_
          exact W.zret (v := 0) (ty := .boolean) hx hb hr (rfl) (fun t ht hW => ⟨⟨0, (), rfl, ⟨0, (Nat.le_of_ble_eq_true rfl), rfl, (congrArg Prod.fst (hsp.symm.trans hRR))⟩, ⟨z_fz_29, ⟨by rw [ht]; exact hP, va_K.moved hW.alike hK, hD⟩, (congrArg Prod.snd (hsp.symm.trans hRR))⟩⟩, hS.F ht⟩) hS.2.2 eX0_narrowTo_104
    · have hcc_19 := c_19
      have hsp := hsp.trans (if_pos c_19)
      refine lv_aload_n hx hb eX0_narrowTo_41 rfl (lv_at hl 2 rfl) ?_
      refine va_get (D := (dC, dI)) (ci := 0) (v := .ref q12) (C := RX0) (T := TX0) (N := 17) hx hb hts hiX0 hown hK hP 0 rfl rfl 12 (by decide) v_7 (fun _ h9 => h9) rfl eX0_narrowTo_42 ?_
      refine lv_iload hx hb eX0_narrowTo_45 (lv_at hl 1 rfl) ?_
      refine va_iald hx hb hK hP 9 8 rfl rfl (vp_in_nI (n := (a1 * 4 + g_4)) (by omega) (Nat.le_of_ble_eq_true rfl)) eX0_narrowTo_47 ?_
      refine lv_topi (fun y_32 ey_32 => ?_)
      have ey_32 : y_32 = f12 (a1 * 4 + g_4) := ey_32.trans (congrArg f12 (nI_clamp (n := (a1 * 4 + g_4)) (by first | omega | exact Nat.lt_trans (zx16 (by omega) (by omega) (by omega)) (Nat.le_of_ble_eq_true rfl) | exact Nat.lt_trans (zy16 (by omega) (by omega)) (Nat.le_of_ble_eq_true rfl) | exact Nat.lt_trans (zx25 (by omega) (by omega) (by omega)) (Nat.le_of_ble_eq_true rfl) | exact Nat.lt_trans (zy25 (by omega) (by omega)) (Nat.le_of_ble_eq_true rfl))))
      have hsp := hsp.trans (slet_eq ey_32)
      refine lv_iconst (v := 1) hx hb eX0_narrowTo_48 (by decide) ?_
      refine lv_icmp_lt (tgt := 63) hx hb eX0_narrowTo_49 (by decide) (fun c_33 => ?_) (fun c_33 => ?_)
      · have hcc_33 := c_33
        have hsp := hsp.trans (if_pos c_33)
        have hsp := hout_10 _ hsp
        refine lv_iconst (v := 0) hx hb eX0_narrowTo_63 (by decide) ?_
        exact W.zret (v := 0) (ty := .boolean) hx hb hr (rfl) (fun t ht hW => ⟨⟨0, (), rfl, ⟨0, (Nat.le_of_ble_eq_true rfl), rfl, (congrArg Prod.fst (hsp.symm.trans hRR))⟩, ⟨g_3, ⟨by rw [ht]; exact hP, va_K.moved hW.alike hK, hD⟩, (congrArg Prod.snd (hsp.symm.trans hRR))⟩⟩, hS.F ht⟩) hS.2.2 eX0_narrowTo_64
      · have hcc_33 := c_33
        have hsp := hsp.trans (if_neg c_33)
        refine lv_aload_n hx hb eX0_narrowTo_52 rfl (lv_at hl 2 rfl) ?_
        refine va_get (D := (dC, dI)) (ci := 0) (v := .ref q13) (C := RX0) (T := TX0) (N := 17) hx hb hts hiX0 hown hK hP 0 rfl rfl 13 (by decide) v_13 (fun _ h9 => h9) rfl eX0_narrowTo_53 ?_
        refine lv_iload hx hb eX0_narrowTo_56 (lv_at hl 1 rfl) ?_
        refine va_iald hx hb hK hP 10 9 rfl rfl (vp_in_nI (n := (a1 * 4 + g_4)) (by omega) (Nat.le_of_ble_eq_true rfl)) eX0_narrowTo_58 ?_
        refine lv_topi (fun y_34 ey_34 => ?_)
        have ey_34 : y_34 = f13 (a1 * 4 + g_4) := ey_34.trans (congrArg f13 (nI_clamp (n := (a1 * 4 + g_4)) (by first | omega | exact Nat.lt_trans (zx16 (by omega) (by omega) (by omega)) (Nat.le_of_ble_eq_true rfl) | exact Nat.lt_trans (zy16 (by omega) (by omega)) (Nat.le_of_ble_eq_true rfl) | exact Nat.lt_trans (zx25 (by omega) (by omega) (by omega)) (Nat.le_of_ble_eq_true rfl) | exact Nat.lt_trans (zy25 (by omega) (by omega)) (Nat.le_of_ble_eq_true rfl))))
        have hsp := hsp.trans (slet_eq ey_34)
        refine lv_iconst (v := 1) hx hb eX0_narrowTo_59 (by decide) ?_
        refine lv_icmp_ge (tgt := 105) hx hb eX0_narrowTo_60 (by decide) (fun c_35 => ?_) (fun c_35 => ?_)
        · have hcc_35 := c_35
          have hsp := hsp.trans (if_pos c_35)
          refine lv_iinc (v := (nI (g_4 + 1))) (lv' := [(4, .int (nI (g_4 + 1))), (6, .int (nI u_16)), (5, .int (nI (a1 * 4 + g_4))), (0, .ref au), (1, .ref z), (2, .int (nI a1)), (3, .int p2)]) hx hb eX0_narrowTo_105 hl (k := 6) rfl (nI_1 _) (by decide) rfl (fun ls hl => ?_)
          refine lv_goto (tgt := 3) hx hb eX0_narrowTo_108 (by decide) ?_
          exact ih_5 (4 - (g_4 + 1)) (by omega) _ _ _ ⟨g_3, (g_4 + 1), rfl, (by omega), hin_9 _ hsp, hP, hD, hS, lv_sub hl [3, 4, 5, 6, 0] rfl⟩
        · have hcc_35 := c_35
          have hsp := hsp.trans (if_neg c_35)
          have hsp := hout_10 _ hsp
          refine lv_iconst (v := 0) hx hb eX0_narrowTo_63 (by decide) ?_
          exact W.zret (v := 0) (ty := .boolean) hx hb hr (rfl) (fun t ht hW => ⟨⟨0, (), rfl, ⟨0, (Nat.le_of_ble_eq_true rfl), rfl, (congrArg Prod.fst (hsp.symm.trans hRR))⟩, ⟨g_3, ⟨by rw [ht]; exact hP, va_K.moved hW.alike hK, hD⟩, (congrArg Prod.snd (hsp.symm.trans hRR))⟩⟩, hS.F ht⟩) hS.2.2 eX0_narrowTo_64
theorem eX0_opensIn_0 : decode cX0_opensIn 0 = .ok (.aload_n 0, 1) := by decide +kernel
theorem eX0_opensIn_1 : decode cX0_opensIn 1 = .ok (.aload_n 1, 1) := by decide +kernel
theorem eX0_opensIn_2 : decode cX0_opensIn 2 = .ok (.iload_n 2, 1) := by decide +kernel
theorem eX0_opensIn_3 : decode cX0_opensIn 3 = .ok (.iconst 0, 1) := by decide +kernel
theorem eX0_opensIn_4 : decode cX0_opensIn 4 = .ok (.invokevirtual 88, 3) := by decide +kernel
theorem eX0_opensIn_7 : decode cX0_opensIn 7 = .ok (.ifCond .eq 30, 3) := by decide +kernel
theorem eX0_opensIn_10 : decode cX0_opensIn 10 = .ok (.aload_n 0, 1) := by decide +kernel
theorem eX0_opensIn_11 : decode cX0_opensIn 11 = .ok (.aload_n 1, 1) := by decide +kernel
theorem eX0_opensIn_12 : decode cX0_opensIn 12 = .ok (.aload_n 0, 1) := by decide +kernel
theorem eX0_opensIn_13 : decode cX0_opensIn 13 = .ok (.getfield 23, 3) := by decide +kernel
theorem eX0_opensIn_16 : decode cX0_opensIn 16 = .ok (.iload_n 2, 1) := by decide +kernel
theorem eX0_opensIn_17 : decode cX0_opensIn 17 = .ok (.iaload, 1) := by decide +kernel
theorem eX0_opensIn_18 : decode cX0_opensIn 18 = .ok (.invokestatic 92, 3) := by decide +kernel
theorem eX0_opensIn_21 : decode cX0_opensIn 21 = .ok (.aload_n 0, 1) := by decide +kernel
theorem eX0_opensIn_22 : decode cX0_opensIn 22 = .ok (.getfield 26, 3) := by decide +kernel
theorem eX0_opensIn_25 : decode cX0_opensIn 25 = .ok (.iload_n 2, 1) := by decide +kernel
theorem eX0_opensIn_26 : decode cX0_opensIn 26 = .ok (.iaload, 1) := by decide +kernel
theorem eX0_opensIn_27 : decode cX0_opensIn 27 = .ok (.invokevirtual 88, 3) := by decide +kernel
theorem eX0_opensIn_30 : decode cX0_opensIn 30 = .ok (.ifCond .eq 7, 3) := by decide +kernel
theorem eX0_opensIn_33 : decode cX0_opensIn 33 = .ok (.iconst 1, 1) := by decide +kernel
theorem eX0_opensIn_34 : decode cX0_opensIn 34 = .ok (.goto 4, 3) := by decide +kernel
theorem eX0_opensIn_37 : decode cX0_opensIn 37 = .ok (.iconst 0, 1) := by decide +kernel
theorem eX0_opensIn_38 : decode cX0_opensIn 38 = .ok (.ireturn, 1) := by decide +kernel
abbrev vs_E_0_opensIn_16 : List Cond := .code yX0_opensIn cX0_opensIn 3 (some .boolean) :: CM
theorem g_E_0_opensIn_16_E_0_narrowTo_16 : GoodIn vs_E_0_opensIn_16 (wsV RX0 88 RX0 yX0_narrowTo vs_E_0_narrowTo_16) := cm_gV cm_51 cm_52 cm_53 cm_19 cm_41
theorem g_E_0_opensIn_16_E_0_hostOfPlace : GoodIn vs_E_0_opensIn_16 (va_wsS RX0 92 yX0_hostOfPlace vs_E_0_hostOfPlace) := cm_gS cm_54 cm_55 cm_19 cm_0
noncomputable def sp_E_0_opensIn_16 (q_f6 : Nat → Nat) (f7 : Nat → Int32) (q_f8 : Nat → Nat) (q_f9 : Nat → Nat) (f12 : Nat → Int32) (f13 : Nat → Int32) (zn : Nat) (fz : Nat → Int32) (a1 : Nat) : Nat × (Nat → Int32) := (slet (sp_E_0_narrowTo_16 q_f8 q_f9 f12 f13 zn fz a1 0) (fun (u_3, z_fz_2) => (if u_3 = 0 then (0, z_fz_2) else (slet (min (q_f6 a1) 7) (fun u_6 => (slet (f7 a1) (fun y_8 => (slet (sp_E_0_narrowTo_16 q_f8 q_f9 f12 f13 zn z_fz_2 (14 + u_6) y_8) (fun (u_11, z_fz_10) => (if u_11 = 0 then (0, z_fz_10) else (1, z_fz_10)))))))))))
set_option maxHeartbeats 4000000 in
set_option maxRecDepth 100000 in
theorem c_E_0_opensIn_16 (l : Launch) (dC : Nat → ClassId) (dI : Nat → Nat → Nat) (sz : Nat) (au : Nat) (nc : Nat) (np : Nat) (ne : Nat) (st0 : Int32) (q4 : Nat) (q5 : Nat) (q6 : Nat) (q7 : Nat) (q8 : Nat) (q9 : Nat) (q10 : Nat) (q11 : Nat) (q12 : Nat) (q13 : Nat) (q14 : Nat) (q15 : Nat) (q16 : Nat) (k_f4 : ClassId) (f4 : Nat → Int32) (k_f5 : ClassId) (q_f5 : Nat → Nat) (k_f6 : ClassId) (q_f6 : Nat → Nat) (k_f7 : ClassId) (f7 : Nat → Int32) (k_f8 : ClassId) (q_f8 : Nat → Nat) (k_f9 : ClassId) (q_f9 : Nat → Nat) (k_f10 : ClassId) (f10 : Nat → Int32) (k_f11 : ClassId) (f11 : Nat → Int32) (k_f12 : ClassId) (f12 : Nat → Int32) (k_f13 : ClassId) (f13 : Nat → Int32) (k_f14 : ClassId) (f14 : Nat → Int32) (k_f15 : ClassId) (f15 : Nat → Int32) (k_f16 : ClassId) (f16 : Nat → Int32) (z : Nat) (zc : Nat) (zn : Nat) (k_fz : ClassId) (fz : Nat → Int32) (a1 : Nat) (hnc : nc ≤ 3) (hnp : np ≤ 8) (hne : ne ≤ 14) (hst0 : pm1 7 st0) (hzn : zn ≤ 4) (ha1 : a1 ≤ 13) : Met l yX0_opensIn vs_E_0_opensIn_16 ({ frames := 2, cells := 0, slots := 0, locals := 55 }) (va_Pc [.ref au, .ref z, .int (nI a1)] (pu_B (dC, dI) (az16__w au (nI nc) (nI np) (nI ne) st0 q4 q5 q6 q7 q8 q9 q10 q11 q12 q13 q14 q15 q16 k_f4 f4 k_f5 (bN 7 q_f5) k_f6 (bN 7 q_f6) k_f7 f7 k_f8 (bN 4 q_f8) k_f9 (bN 2 q_f9) k_f10 f10 k_f11 f11 k_f12 f12 k_f13 f13 k_f14 f14 k_f15 f15 k_f16 f16 z zc (nI zn) k_fz fz) (az16__t k_f4 k_f5 k_f6 k_f7 k_f8 k_f9 k_f10 k_f11 k_f12 k_f13 k_f14 k_f15 k_f16 k_fz) sz)) (va_Qi (fun (r : Int32) (_ : Unit) => ∃ v : Nat, v ≤ 1 ∧ r = nI v ∧ v = (sp_E_0_opensIn_16 q_f6 f7 q_f8 q_f9 f12 f13 zn fz a1).1) (fun _ t => ∃ (z_fz : Nat → Int32), pu_E (dC, dI) (az16__w au (nI nc) (nI np) (nI ne) st0 q4 q5 q6 q7 q8 q9 q10 q11 q12 q13 q14 q15 q16 k_f4 f4 k_f5 (bN 7 q_f5) k_f6 (bN 7 q_f6) k_f7 f7 k_f8 (bN 4 q_f8) k_f9 (bN 2 q_f9) k_f10 f10 k_f11 f11 k_f12 f12 k_f13 f13 k_f14 f14 k_f15 f15 k_f16 f16 z zc (nI zn) k_fz z_fz) (az16__t k_f4 k_f5 k_f6 k_f7 k_f8 k_f9 k_f10 k_f11 k_f12 k_f13 k_f14 k_f15 k_f16 k_fz) (va_A ((az16__w au (nI nc) (nI np) (nI ne) st0 q4 q5 q6 q7 q8 q9 q10 q11 q12 q13 q14 q15 q16 k_f4 f4 k_f5 (bN 7 q_f5) k_f6 (bN 7 q_f6) k_f7 f7 k_f8 (bN 4 q_f8) k_f9 (bN 2 q_f9) k_f10 f10 k_f11 f11 k_f12 f12 k_f13 f13 k_f14 f14 k_f15 f15 k_f16 f16 z zc (nI zn) k_fz fz)) sz) t ∧ (z_fz = (sp_E_0_opensIn_16 q_f6 f7 q_f8 q_f9 f12 f13 zn fz a1).2)) (va_A ((az16__w au (nI nc) (nI np) (nI ne) st0 q4 q5 q6 q7 q8 q9 q10 q11 q12 q13 q14 q15 q16 k_f4 f4 k_f5 (bN 7 q_f5) k_f6 (bN 7 q_f6) k_f7 f7 k_f8 (bN 4 q_f8) k_f9 (bN 2 q_f9) k_f10 f10 k_f11 f11 k_f12 f12 k_f13 f13 k_f14 f14 k_f15 f15 k_f16 f16 z zc (nI zn) k_fz fz)) sz)) 0 0 (va_A ((az16__w au (nI nc) (nI np) (nI ne) st0 q4 q5 q6 q7 q8 q9 q10 q11 q12 q13 q14 q15 q16 k_f4 f4 k_f5 (bN 7 q_f5) k_f6 (bN 7 q_f6) k_f7 f7 k_f8 (bN 4 q_f8) k_f9 (bN 2 q_f9) k_f10 f10 k_f11 f11 k_f12 f12 k_f13 f13 k_f14 f14 k_f15 f15 k_f16 f16 z zc (nI zn) k_fz fz)) sz) := by
  refine Met.ofW (cc := cX0_opensIn) (maxL := 3) (ret := (some .boolean)) (by decide) rfl ?_
  intro p e s m args below meth c s₁ B hml hv
  obtain ⟨rfl, rfl, hP, hK, hD0⟩ := hv
  have hx := B.exec
  have hb := B.bytes
  have hr := B.returns
  have hts := atoms_spec (ws := vs_E_0_opensIn_16) B.pre
  have v_6 := hts (.fieldLink RX0 23 "ClockReach$Automaton" "targets" "[I") (List.mem_cons_of_mem _ cm_11)
  have v_10 := hts (.fieldLink RX0 26 "ClockReach$Automaton" "resets" "[I") (List.mem_cons_of_mem _ cm_12)
  have hown : s.vm.findClass RX0 = some m.cls := findClass_of_methodNamed B.named
  have hlocks := B.notSynchronized
  have hiX0 : ∀ w ∈ wsX00, w ∈ vs_E_0_opensIn_16 := fun _ h => List.mem_cons_of_mem _ (cm_X0 h)
  have hD := hD0.self (sz := s.heap.size)
  generalize hAe : va_A ((az16__w au (nI nc) (nI np) (nI ne) st0 q4 q5 q6 q7 q8 q9 q10 q11 q12 q13 q14 q15 q16 k_f4 f4 k_f5 (bN 7 q_f5) k_f6 (bN 7 q_f6) k_f7 f7 k_f8 (bN 4 q_f8) k_f9 (bN 2 q_f9) k_f10 f10 k_f11 f11 k_f12 f12 k_f13 f13 k_f14 f14 k_f15 f15 k_f16 f16 z zc (nI zn) k_fz fz)) s.heap.size = A at hD ⊢
  have hA : ∀ q : Nat, s.heap.size ≤ q → A q := fun q h => by rw [← hAe]; exact Or.inr h
  have hS : va_S A s.heap s.heap [] := va_S.rf
  have hl := lv_entry ([.ref au, .ref z, .int (nI a1)]) (n := 3) (Nat.le_of_ble_eq_true rfl)
  rw [lg_entry_eq]
  generalize (lg_sl ([.ref au, .ref z, .int (nI a1)]) ++ List.replicate (3 - (lg_sl ([.ref au, .ref z, .int (nI a1)])).length) Slot.unset).toArray = ls at hl ⊢
  have hl : lv_has ls 3 [(0, .ref au), (1, .ref z), (2, .int (nI a1))] := hl
  obtain ⟨RR, hRR⟩ : ∃ x, x = (sp_E_0_opensIn_16 q_f6 f7 q_f8 q_f9 f12 f13 zn fz a1) := ⟨_, rfl⟩
  have hsp := hRR
  refine lv_aload_n hx hb eX0_opensIn_0 rfl (lv_at hl 0 rfl) ?_
  refine lv_aload_n hx hb eX0_opensIn_1 rfl (lv_at hl 1 rfl) ?_
  refine lv_iload_n hx hb eX0_opensIn_2 rfl (lv_at hl 2 rfl) ?_
  refine lv_iconst (v := 0) hx hb eX0_opensIn_3 (by decide) ?_
  have hFc := pu_free hD hS hA
  refine va_calli (va_runV (As := [.ref z, .int (nI a1), .int 0]) (rest := []) ⟨hx, hb, hml, hown, hts⟩ (c_E_0_narrowTo_16 l dC dI _ au nc np ne st0 q4 q5 q6 q7 q8 q9 q10 q11 q12 q13 q14 q15 q16 k_f4 f4 k_f5 q_f5 k_f6 q_f6 k_f7 f7 k_f8 q_f8 k_f9 q_f9 k_f10 f10 k_f11 f11 k_f12 f12 k_f13 f13 k_f14 f14 k_f15 f15 k_f16 f16 z zc zn k_fz fz a1 0 hnc hnp hne (hst0) hzn (Nat.le_trans ha1 (Nat.le_of_ble_eq_true rfl))) (cwV 3 hts g_E_0_opensIn_16_E_0_narrowTo_16 rfl rfl rfl (by decide +kernel) ⟨Nat.le_of_ble_eq_true rfl, Nat.le_of_ble_eq_true rfl⟩) ⟨pu_bl, va_recv hK hP (ci := 0) (q0 := 0) rfl rfl, pu_in hP hK hD⟩ rfl rfl hl.1 rfl (lv_room (Nat.le_of_ble_eq_true rfl)) eX0_opensIn_4 ⟨Nat.le_of_ble_eq_true rfl, Nat.le_of_ble_eq_true rfl⟩) hS (fun q _ h => hFc q h) hFc (fun r_1 u t H1 locs ht hvm hw hB hz1 hk1 hS => ?_)
  obtain ⟨z_fz_2, ⟨hP1, -, hD1⟩, xr_1_0⟩ := hB
  rw [ht] at hP1
  have hP := hP1
  have hD := pu_all hFc hD1
  clear hP1 hD1 hFc
  clear hk1 hz1 ht hvm
  generalize H1 = H at hP hS ⊢
  obtain ⟨u_3, hu_3, rfl, iu_3⟩ := hw
  have iu_3 : (u_3, z_fz_2) = (sp_E_0_narrowTo_16 q_f8 q_f9 f12 f13 zn fz a1 0) := Prod.ext iu_3 xr_1_0
  have hsp := hsp.trans (slet_eq iu_3)
  refine lv_if_eq (tgt := 37) hx hb eX0_opensIn_7 (by decide) (fun c_4 => ?_) (fun c_4 => ?_)
  · have c_4 : u_3 = 0 := (nI_eq (a := u_3) (b := 0) (Nat.lt_of_le_of_lt hu_3 (Nat.le_of_ble_eq_true rfl)) (Nat.le_of_ble_eq_true rfl)).mp c_4
    have hsp := hsp.trans (if_pos c_4)
    refine lv_iconst (v := 0) hx hb eX0_opensIn_37 (by decide) ?_
    exact W.zret (v := 0) (ty := .boolean) hx hb hr (rfl) (fun t ht hW => ⟨⟨0, (), rfl, ⟨0, (Nat.le_of_ble_eq_true rfl), rfl, (congrArg Prod.fst (hsp.symm.trans hRR))⟩, ⟨z_fz_2, ⟨by rw [ht]; exact hP, va_K.moved hW.alike hK, hD⟩, (congrArg Prod.snd (hsp.symm.trans hRR))⟩⟩, hS.F ht⟩) hS.2.2 eX0_opensIn_38
  · have c_4 : ¬ u_3 = 0 := fun z => c_4 ((nI_eq (a := u_3) (b := 0) (Nat.lt_of_le_of_lt hu_3 (Nat.le_of_ble_eq_true rfl)) (Nat.le_of_ble_eq_true rfl)).mpr z)
    have hsp := hsp.trans (if_neg c_4)
    refine lv_aload_n hx hb eX0_opensIn_10 rfl (lv_at hl 0 rfl) ?_
    refine lv_aload_n hx hb eX0_opensIn_11 rfl (lv_at hl 1 rfl) ?_
    refine lv_aload_n hx hb eX0_opensIn_12 rfl (lv_at hl 0 rfl) ?_
    refine va_get (D := (dC, dI)) (ci := 0) (v := .ref q6) (C := RX0) (T := TX0) (N := 17) hx hb hts hiX0 hown hK hP 0 rfl rfl 6 (by decide) v_6 (fun _ h9 => h9) rfl eX0_opensIn_13 ?_
    refine lv_iload_n hx hb eX0_opensIn_16 rfl (lv_at hl 2 rfl) ?_
    refine va_iald hx hb hK hP 3 2 rfl rfl (vp_in_nI (n := a1) (Nat.lt_of_le_of_lt ha1 (Nat.le_of_ble_eq_true rfl)) (Nat.le_of_ble_eq_true rfl)) eX0_opensIn_17 ?_
    refine lv_topi (fun y_5 ey_5 => ?_)
    obtain ⟨u_6, hu_6, qu_6, xu_6⟩ := bN_getx 7 q_f6 (n := a1) (Nat.lt_of_le_of_lt ha1 (Nat.le_of_ble_eq_true rfl))
    obtain rfl : y_5 = nI u_6 := ey_5.trans qu_6
    have hsp := hsp.trans (slet_eq xu_6)
    refine va_calli (va_runS (As := [.int (nI u_6)]) (rest := [.ref z, .ref au]) ⟨hx, hb, hml, hown, hts⟩ (c_E_0_hostOfPlace l dC dI _ u_6 hu_6) (va_cwS 1 hts g_E_0_opensIn_16_E_0_hostOfPlace rfl rfl rfl (by decide +kernel) ⟨Nat.le_of_ble_eq_true rfl, Nat.le_of_ble_eq_true rfl⟩) ⟨pu_bl, pu_in (hP.sub [] rfl) (hK.sub [] rfl) (hD.sub [] (by decide) rfl)⟩ rfl rfl hl.1 rfl (lv_room (Nat.le_of_ble_eq_true rfl)) eX0_opensIn_18 ⟨Nat.le_of_ble_eq_true rfl, Nat.le_of_ble_eq_true rfl⟩) hS (fun q _ h => pu_fr hS hA q h) (pu_fr hS hA) (fun r_7 u t H1 locs ht hvm hw hB hz1 hk1 hS => ?_)
    have hP := pu_keep hP hk1
    clear hk1 hz1 ht hvm
    generalize H1 = H at hP hS ⊢
    obtain rfl : r_7 = nI (14 + u_6) := hw
    refine lv_aload_n hx hb eX0_opensIn_21 rfl (lv_at hl 0 rfl) ?_
    refine va_get (D := (dC, dI)) (ci := 0) (v := .ref q7) (C := RX0) (T := TX0) (N := 17) hx hb hts hiX0 hown hK hP 0 rfl rfl 7 (by decide) v_10 (fun _ h9 => h9) rfl eX0_opensIn_22 ?_
    refine lv_iload_n hx hb eX0_opensIn_25 rfl (lv_at hl 2 rfl) ?_
    refine va_iald hx hb hK hP 4 3 rfl rfl (vp_in_nI (n := a1) (Nat.lt_of_le_of_lt ha1 (Nat.le_of_ble_eq_true rfl)) (Nat.le_of_ble_eq_true rfl)) eX0_opensIn_26 ?_
    refine lv_topi (fun y_8 ey_8 => ?_)
    have ey_8 : y_8 = f7 a1 := ey_8.trans (congrArg f7 (nI_clamp (n := a1) (Nat.lt_of_le_of_lt ha1 (Nat.le_of_ble_eq_true rfl))))
    have hsp := hsp.trans (slet_eq ey_8)
    have hFc := pu_free hD hS hA
    refine va_calli (va_runV (As := [.ref z, .int (nI (14 + u_6)), .int y_8]) (rest := []) ⟨hx, hb, hml, hown, hts⟩ (c_E_0_narrowTo_16 l dC dI _ au nc np ne st0 q4 q5 q6 q7 q8 q9 q10 q11 q12 q13 q14 q15 q16 k_f4 f4 k_f5 q_f5 k_f6 q_f6 k_f7 f7 k_f8 q_f8 k_f9 q_f9 k_f10 f10 k_f11 f11 k_f12 f12 k_f13 f13 k_f14 f14 k_f15 f15 k_f16 f16 z zc zn k_fz z_fz_2 (14 + u_6) y_8 hnc hnp hne (hst0) hzn (by omega)) (cwV 3 hts g_E_0_opensIn_16_E_0_narrowTo_16 rfl rfl rfl (by decide +kernel) ⟨Nat.le_of_ble_eq_true rfl, Nat.le_of_ble_eq_true rfl⟩) ⟨pu_bl, va_recv hK hP (ci := 0) (q0 := 0) rfl rfl, pu_in hP hK hD⟩ rfl rfl hl.1 rfl (lv_room (Nat.le_of_ble_eq_true rfl)) eX0_opensIn_27 ⟨Nat.le_of_ble_eq_true rfl, Nat.le_of_ble_eq_true rfl⟩) hS (fun q _ h => hFc q h) hFc (fun r_9 u t H1 locs ht hvm hw hB hz1 hk1 hS => ?_)
    obtain ⟨z_fz_10, ⟨hP1, -, hD1⟩, xr_9_0⟩ := hB
    rw [ht] at hP1
    have hP := hP1
    have hD := pu_all hFc hD1
    clear hP1 hD1 hFc
    clear hk1 hz1 ht hvm
    generalize H1 = H at hP hS ⊢
    obtain ⟨u_11, hu_11, rfl, iu_11⟩ := hw
    have iu_11 : (u_11, z_fz_10) = (sp_E_0_narrowTo_16 q_f8 q_f9 f12 f13 zn z_fz_2 (14 + u_6) y_8) := Prod.ext iu_11 xr_9_0
    have hsp := hsp.trans (slet_eq iu_11)
    refine lv_if_eq (tgt := 37) hx hb eX0_opensIn_30 (by decide) (fun c_12 => ?_) (fun c_12 => ?_)
    · have c_12 : u_11 = 0 := (nI_eq (a := u_11) (b := 0) (Nat.lt_of_le_of_lt hu_11 (Nat.le_of_ble_eq_true rfl)) (Nat.le_of_ble_eq_true rfl)).mp c_12
      have hsp := hsp.trans (if_pos c_12)
      refine lv_iconst (v := 0) hx hb eX0_opensIn_37 (by decide) ?_
      exact W.zret (v := 0) (ty := .boolean) hx hb hr (rfl) (fun t ht hW => ⟨⟨0, (), rfl, ⟨0, (Nat.le_of_ble_eq_true rfl), rfl, (congrArg Prod.fst (hsp.symm.trans hRR))⟩, ⟨z_fz_10, ⟨by rw [ht]; exact hP, va_K.moved hW.alike hK, hD⟩, (congrArg Prod.snd (hsp.symm.trans hRR))⟩⟩, hS.F ht⟩) hS.2.2 eX0_opensIn_38
    · have c_12 : ¬ u_11 = 0 := fun z => c_12 ((nI_eq (a := u_11) (b := 0) (Nat.lt_of_le_of_lt hu_11 (Nat.le_of_ble_eq_true rfl)) (Nat.le_of_ble_eq_true rfl)).mpr z)
      have hsp := hsp.trans (if_neg c_12)
      refine lv_iconst (v := 1) hx hb eX0_opensIn_33 (by decide) ?_
      refine lv_goto (tgt := 38) hx hb eX0_opensIn_34 (by decide) ?_
      exact W.zret (v := 1) (ty := .boolean) hx hb hr (rfl) (fun t ht hW => ⟨⟨1, (), rfl, ⟨1, (Nat.le_of_ble_eq_true rfl), rfl, (congrArg Prod.fst (hsp.symm.trans hRR))⟩, ⟨z_fz_10, ⟨by rw [ht]; exact hP, va_K.moved hW.alike hK, hD⟩, (congrArg Prod.snd (hsp.symm.trans hRR))⟩⟩, hS.F ht⟩) hS.2.2 eX0_opensIn_38
theorem eX0_setBackIn_0 : decode cX0_setBackIn 0 = .ok (.iconst 0, 1) := by decide +kernel
theorem eX0_setBackIn_1 : decode cX0_setBackIn 1 = .ok (.istore_n 3, 1) := by decide +kernel
theorem eX0_setBackIn_2 : decode cX0_setBackIn 2 = .ok (.iload_n 3, 1) := by decide +kernel
theorem eX0_setBackIn_3 : decode cX0_setBackIn 3 = .ok (.aload_n 0, 1) := by decide +kernel
theorem eX0_setBackIn_4 : decode cX0_setBackIn 4 = .ok (.getfield 56, 3) := by decide +kernel
theorem eX0_setBackIn_7 : decode cX0_setBackIn 7 = .ok (.if_icmp .ge 30, 3) := by decide +kernel
theorem eX0_setBackIn_10 : decode cX0_setBackIn 10 = .ok (.aload_n 0, 1) := by decide +kernel
theorem eX0_setBackIn_11 : decode cX0_setBackIn 11 = .ok (.getfield 26, 3) := by decide +kernel
theorem eX0_setBackIn_14 : decode cX0_setBackIn 14 = .ok (.iload_n 2, 1) := by decide +kernel
theorem eX0_setBackIn_15 : decode cX0_setBackIn 15 = .ok (.iaload, 1) := by decide +kernel
theorem eX0_setBackIn_16 : decode cX0_setBackIn 16 = .ok (.iload_n 3, 1) := by decide +kernel
theorem eX0_setBackIn_17 : decode cX0_setBackIn 17 = .ok (.ishr, 1) := by decide +kernel
theorem eX0_setBackIn_18 : decode cX0_setBackIn 18 = .ok (.iconst 1, 1) := by decide +kernel
theorem eX0_setBackIn_19 : decode cX0_setBackIn 19 = .ok (.iand, 1) := by decide +kernel
theorem eX0_setBackIn_20 : decode cX0_setBackIn 20 = .ok (.iconst 1, 1) := by decide +kernel
theorem eX0_setBackIn_21 : decode cX0_setBackIn 21 = .ok (.if_icmp .ne 10, 3) := by decide +kernel
theorem eX0_setBackIn_24 : decode cX0_setBackIn 24 = .ok (.aload_n 1, 1) := by decide +kernel
theorem eX0_setBackIn_25 : decode cX0_setBackIn 25 = .ok (.iload_n 3, 1) := by decide +kernel
theorem eX0_setBackIn_26 : decode cX0_setBackIn 26 = .ok (.iconst 1, 1) := by decide +kernel
theorem eX0_setBackIn_27 : decode cX0_setBackIn 27 = .ok (.iadd, 1) := by decide +kernel
theorem eX0_setBackIn_28 : decode cX0_setBackIn 28 = .ok (.invokevirtual 96, 3) := by decide +kernel
theorem eX0_setBackIn_31 : decode cX0_setBackIn 31 = .ok (.iinc 3 1, 3) := by decide +kernel
theorem eX0_setBackIn_34 : decode cX0_setBackIn 34 = .ok (.goto (-32), 3) := by decide +kernel
theorem eX0_setBackIn_37 : decode cX0_setBackIn 37 = .ok (.return_, 1) := by decide +kernel
abbrev vs_E_0_setBackIn_16 : List Cond := .code yX0_setBackIn cX0_setBackIn 4 none :: CM
theorem g_E_0_setBackIn_16_E_7_setBack_16 : GoodIn vs_E_0_setBackIn_16 (wsV RX0 96 RX7 yX7_setBack vs_E_7_setBack_16) := cm_gV cm_57 cm_58 cm_59 cm_45 cm_60
noncomputable def sp_E_0_setBackIn_16_L1 (nc : Nat) (f7 : Nat → Int32) (zn : Nat) (a1 : Nat) : ((Nat → Int32) × Nat) → ((Nat → Int32) × Nat) ⊕ ((Nat → Int32)) := fun (g_3, g_4) => (if nc ≤ g_4 then (Sum.inr g_3) else (slet (f7 a1) (fun y_12 => (slet ((y_12 : Int32) >>> (((nI g_4) : Int32) &&& 31)) (fun y_13 => (slet ((y_13 : Int32) &&& (1 : Int32)) (fun y_14 => (slet (α := (Nat → Int32)) (if (y_14 : Int32) = 1 then (slet (sp_E_7_setBack_16 zn g_3 (g_4 + 1)) (fun z_fz_22 => z_fz_22)) else g_3) (fun g_15 => (Sum.inl (g_15, (g_4 + 1))))))))))))
noncomputable def sp_E_0_setBackIn_16 (nc : Nat) (f7 : Nat → Int32) (zn : Nat) (fz : Nat → Int32) (a1 : Nat) : (Nat → Int32) := (itrv (α := (Nat → Int32) × Nat) (β := ((Nat → Int32))) default (sp_E_0_setBackIn_16_L1 nc f7 zn a1) (fz, 0))
set_option maxHeartbeats 4000000 in
set_option maxRecDepth 100000 in
theorem c_E_0_setBackIn_16 (l : Launch) (dC : Nat → ClassId) (dI : Nat → Nat → Nat) (sz : Nat) (au : Nat) (nc : Nat) (np : Nat) (ne : Nat) (st0 : Int32) (q4 : Nat) (q5 : Nat) (q6 : Nat) (q7 : Nat) (q8 : Nat) (q9 : Nat) (q10 : Nat) (q11 : Nat) (q12 : Nat) (q13 : Nat) (q14 : Nat) (q15 : Nat) (q16 : Nat) (k_f4 : ClassId) (f4 : Nat → Int32) (k_f5 : ClassId) (q_f5 : Nat → Nat) (k_f6 : ClassId) (q_f6 : Nat → Nat) (k_f7 : ClassId) (f7 : Nat → Int32) (k_f8 : ClassId) (q_f8 : Nat → Nat) (k_f9 : ClassId) (q_f9 : Nat → Nat) (k_f10 : ClassId) (f10 : Nat → Int32) (k_f11 : ClassId) (f11 : Nat → Int32) (k_f12 : ClassId) (f12 : Nat → Int32) (k_f13 : ClassId) (f13 : Nat → Int32) (k_f14 : ClassId) (f14 : Nat → Int32) (k_f15 : ClassId) (f15 : Nat → Int32) (k_f16 : ClassId) (f16 : Nat → Int32) (z : Nat) (zc : Nat) (zn : Nat) (k_fz : ClassId) (fz : Nat → Int32) (a1 : Nat) (hnc : nc ≤ 3) (hnp : np ≤ 8) (hne : ne ≤ 14) (hst0 : pm1 7 st0) (hzn : zn ≤ 4) (ha1 : a1 ≤ 13) : Met l yX0_setBackIn vs_E_0_setBackIn_16 ({ frames := 1, cells := 0, slots := 0, locals := 22 }) (va_Pc [.ref au, .ref z, .int (nI a1)] (pu_B (dC, dI) (az16__w au (nI nc) (nI np) (nI ne) st0 q4 q5 q6 q7 q8 q9 q10 q11 q12 q13 q14 q15 q16 k_f4 f4 k_f5 (bN 7 q_f5) k_f6 (bN 7 q_f6) k_f7 f7 k_f8 (bN 4 q_f8) k_f9 (bN 2 q_f9) k_f10 f10 k_f11 f11 k_f12 f12 k_f13 f13 k_f14 f14 k_f15 f15 k_f16 f16 z zc (nI zn) k_fz fz) (az16__t k_f4 k_f5 k_f6 k_f7 k_f8 k_f9 k_f10 k_f11 k_f12 k_f13 k_f14 k_f15 k_f16 k_fz) sz)) (va_Qv (fun (_ : Unit) => True) (fun _ t => ∃ (z_fz : Nat → Int32), pu_E (dC, dI) (az16__w au (nI nc) (nI np) (nI ne) st0 q4 q5 q6 q7 q8 q9 q10 q11 q12 q13 q14 q15 q16 k_f4 f4 k_f5 (bN 7 q_f5) k_f6 (bN 7 q_f6) k_f7 f7 k_f8 (bN 4 q_f8) k_f9 (bN 2 q_f9) k_f10 f10 k_f11 f11 k_f12 f12 k_f13 f13 k_f14 f14 k_f15 f15 k_f16 f16 z zc (nI zn) k_fz z_fz) (az16__t k_f4 k_f5 k_f6 k_f7 k_f8 k_f9 k_f10 k_f11 k_f12 k_f13 k_f14 k_f15 k_f16 k_fz) (va_A ((az16__w au (nI nc) (nI np) (nI ne) st0 q4 q5 q6 q7 q8 q9 q10 q11 q12 q13 q14 q15 q16 k_f4 f4 k_f5 (bN 7 q_f5) k_f6 (bN 7 q_f6) k_f7 f7 k_f8 (bN 4 q_f8) k_f9 (bN 2 q_f9) k_f10 f10 k_f11 f11 k_f12 f12 k_f13 f13 k_f14 f14 k_f15 f15 k_f16 f16 z zc (nI zn) k_fz fz)) sz) t ∧ (z_fz = (sp_E_0_setBackIn_16 nc f7 zn fz a1))) (va_A ((az16__w au (nI nc) (nI np) (nI ne) st0 q4 q5 q6 q7 q8 q9 q10 q11 q12 q13 q14 q15 q16 k_f4 f4 k_f5 (bN 7 q_f5) k_f6 (bN 7 q_f6) k_f7 f7 k_f8 (bN 4 q_f8) k_f9 (bN 2 q_f9) k_f10 f10 k_f11 f11 k_f12 f12 k_f13 f13 k_f14 f14 k_f15 f15 k_f16 f16 z zc (nI zn) k_fz fz)) sz)) 0 0 (va_A ((az16__w au (nI nc) (nI np) (nI ne) st0 q4 q5 q6 q7 q8 q9 q10 q11 q12 q13 q14 q15 q16 k_f4 f4 k_f5 (bN 7 q_f5) k_f6 (bN 7 q_f6) k_f7 f7 k_f8 (bN 4 q_f8) k_f9 (bN 2 q_f9) k_f10 f10 k_f11 f11 k_f12 f12 k_f13 f13 k_f14 f14 k_f15 f15 k_f16 f16 z zc (nI zn) k_fz fz)) sz) := by
  refine Met.ofW (cc := cX0_setBackIn) (maxL := 4) (ret := none) (by decide) rfl ?_
  intro p e s m args below meth c s₁ B hml hv
  obtain ⟨rfl, rfl, hP, hK, hD0⟩ := hv
  have hx := B.exec
  have hb := B.bytes
  have hr := B.returns
  have hts := atoms_spec (ws := vs_E_0_setBackIn_16) B.pre
  have v_1 := hts (.fieldLink RX0 56 "ClockReach$Automaton" "clocks" "I") (List.mem_cons_of_mem _ cm_3)
  have v_2 := hts (.fieldLink RX0 26 "ClockReach$Automaton" "resets" "[I") (List.mem_cons_of_mem _ cm_12)
  have hown : s.vm.findClass RX0 = some m.cls := findClass_of_methodNamed B.named
  have hlocks := B.notSynchronized
  have hiX0 : ∀ w ∈ wsX00, w ∈ vs_E_0_setBackIn_16 := fun _ h => List.mem_cons_of_mem _ (cm_X0 h)
  have hD := hD0.self (sz := s.heap.size)
  generalize hAe : va_A ((az16__w au (nI nc) (nI np) (nI ne) st0 q4 q5 q6 q7 q8 q9 q10 q11 q12 q13 q14 q15 q16 k_f4 f4 k_f5 (bN 7 q_f5) k_f6 (bN 7 q_f6) k_f7 f7 k_f8 (bN 4 q_f8) k_f9 (bN 2 q_f9) k_f10 f10 k_f11 f11 k_f12 f12 k_f13 f13 k_f14 f14 k_f15 f15 k_f16 f16 z zc (nI zn) k_fz fz)) s.heap.size = A at hD ⊢
  have hA : ∀ q : Nat, s.heap.size ≤ q → A q := fun q h => by rw [← hAe]; exact Or.inr h
  have hS : va_S A s.heap s.heap [] := va_S.rf
  have hl := lv_entry ([.ref au, .ref z, .int (nI a1)]) (n := 4) (Nat.le_of_ble_eq_true rfl)
  rw [lg_entry_eq]
  generalize (lg_sl ([.ref au, .ref z, .int (nI a1)]) ++ List.replicate (4 - (lg_sl ([.ref au, .ref z, .int (nI a1)])).length) Slot.unset).toArray = ls at hl ⊢
  have hl : lv_has ls 4 [(0, .ref au), (1, .ref z), (2, .int (nI a1))] := hl
  obtain ⟨RR, hRR⟩ : ∃ x, x = (sp_E_0_setBackIn_16 nc f7 zn fz a1) := ⟨_, rfl⟩
  have hsp := hRR
  refine lv_iconst (v := 0) hx hb eX0_setBackIn_0 (by decide) ?_
  refine lv_istore_n (lv' := [(3, .int 0), (0, .ref au), (1, .ref z), (2, .int (nI a1))]) hx hb eX0_setBackIn_1 rfl hl (by decide) rfl (fun ls hl => ?_)
  obtain ⟨lf_6, dlf_6, hlf_6, hsp⟩ := itr_ex hsp
  delta sp_E_0_setBackIn_16_L1 at hlf_6
  refine pu_while (fun nn H locs ls => ∃ (g_3 : Nat → Int32) (g_4 : Nat), nn = 3 - g_4 ∧ g_4 ≤ 3 ∧ RR = itrv dlf_6 lf_6 (g_3, g_4) ∧ va_P (dC, dI) vwCl (az16__w au (nI nc) (nI np) (nI ne) st0 q4 q5 q6 q7 q8 q9 q10 q11 q12 q13 q14 q15 q16 k_f4 f4 k_f5 (bN 7 q_f5) k_f6 (bN 7 q_f6) k_f7 f7 k_f8 (bN 4 q_f8) k_f9 (bN 2 q_f9) k_f10 f10 k_f11 f11 k_f12 f12 k_f13 f13 k_f14 f14 k_f15 f15 k_f16 f16 z zc (nI zn) k_fz g_3) H ∧ va_D A (az16__w au (nI nc) (nI np) (nI ne) st0 q4 q5 q6 q7 q8 q9 q10 q11 q12 q13 q14 q15 q16 k_f4 f4 k_f5 (bN 7 q_f5) k_f6 (bN 7 q_f6) k_f7 f7 k_f8 (bN 4 q_f8) k_f9 (bN 2 q_f9) k_f10 f10 k_f11 f11 k_f12 f12 k_f13 f13 k_f14 f14 k_f15 f15 k_f16 f16 z zc (nI zn) k_fz g_3) ∧ va_S A s.heap H locs ∧ lv_has ls 4 [(0, .ref au), (1, .ref z), (2, .int (nI a1)), (3, .int (nI g_4))]) 2 ?_ _ _ _ _ ⟨fz, 0, rfl, (Nat.le_of_ble_eq_true rfl), hsp, hP, hD, hS, lv_sub hl [1, 2, 3, 0] rfl⟩
  rintro nn ih_5 H locs ls ⟨g_3, g_4, rfl, hg_4, he_8, hP, hD, hS, hl⟩
  obtain ⟨S_7, hsp, hin_9, hout_10⟩ := itr_step hlf_6 he_8
  refine lv_iload_n hx hb eX0_setBackIn_2 rfl (lv_at hl 3 rfl) ?_
  refine lv_aload_n hx hb eX0_setBackIn_3 rfl (lv_at hl 0 rfl) ?_
  refine va_get (D := (dC, dI)) (ci := 0) (v := .int (nI nc)) (C := RX0) (T := TX0) (N := 17) hx hb hts hiX0 hown hK hP 0 rfl rfl 0 (by decide) v_1 (fun _ h9 => h9) rfl eX0_setBackIn_4 ?_
  refine lv_icmp_ge (tgt := 37) hx hb eX0_setBackIn_7 (by decide) (fun c_11 => ?_) (fun c_11 => ?_)
  · have c_11 : nc ≤ g_4 := (nI_leI (a := nc) (b := g_4) (Nat.lt_of_le_of_lt hnc (Nat.le_of_ble_eq_true rfl)) (Nat.lt_of_le_of_lt hg_4 (Nat.le_of_ble_eq_true rfl))).mp c_11
    have hsp := hsp.trans (if_pos c_11)
    have hsp := hout_10 _ hsp
    exact W.vret hx hb hr (fun t ht hW => ⟨⟨(), rfl, trivial, ⟨g_3, ⟨by rw [ht]; exact hP, va_K.moved hW.alike hK, hD⟩, (hsp.symm.trans hRR)⟩⟩, hS.F ht⟩) hS.2.2 eX0_setBackIn_37
  · have c_11 : ¬ nc ≤ g_4 := fun z => c_11 ((nI_leI (a := nc) (b := g_4) (Nat.lt_of_le_of_lt hnc (Nat.le_of_ble_eq_true rfl)) (Nat.lt_of_le_of_lt hg_4 (Nat.le_of_ble_eq_true rfl))).mpr z)
    have hsp := hsp.trans (if_neg c_11)
    refine lv_aload_n hx hb eX0_setBackIn_10 rfl (lv_at hl 0 rfl) ?_
    refine va_get (D := (dC, dI)) (ci := 0) (v := .ref q7) (C := RX0) (T := TX0) (N := 17) hx hb hts hiX0 hown hK hP 0 rfl rfl 7 (by decide) v_2 (fun _ h9 => h9) rfl eX0_setBackIn_11 ?_
    refine lv_iload_n hx hb eX0_setBackIn_14 rfl (lv_at hl 2 rfl) ?_
    refine va_iald hx hb hK hP 4 3 rfl rfl (vp_in_nI (n := a1) (Nat.lt_of_le_of_lt ha1 (Nat.le_of_ble_eq_true rfl)) (Nat.le_of_ble_eq_true rfl)) eX0_setBackIn_15 ?_
    refine lv_topi (fun y_12 ey_12 => ?_)
    have ey_12 : y_12 = f7 a1 := ey_12.trans (congrArg f7 (nI_clamp (n := a1) (Nat.lt_of_le_of_lt ha1 (Nat.le_of_ble_eq_true rfl))))
    have hsp := hsp.trans (slet_eq ey_12)
    refine lv_iload_n hx hb eX0_setBackIn_16 rfl (lv_at hl 3 rfl) ?_
    refine lv_ishr hx hb eX0_setBackIn_17 ?_
    refine lv_topi (fun y_13 ey_13 => ?_)
    have hsp := hsp.trans (slet_eq ey_13)
    refine lv_iconst (v := 1) hx hb eX0_setBackIn_18 (by decide) ?_
    refine lv_iand hx hb eX0_setBackIn_19 ?_
    refine lv_topi (fun y_14 ey_14 => ?_)
    have hsp := hsp.trans (slet_eq ey_14)
    refine lv_iconst (v := 1) hx hb eX0_setBackIn_20 (by decide) ?_
    obtain ⟨JR_17, hJR_17, hsp⟩ := slet_ex hsp
    refine pu_join (fun H locs ls st => ∃ (g_15 : Nat → Int32), st = [] ∧ g_15 = JR_17 ∧ va_P (dC, dI) vwCl (az16__w au (nI nc) (nI np) (nI ne) st0 q4 q5 q6 q7 q8 q9 q10 q11 q12 q13 q14 q15 q16 k_f4 f4 k_f5 (bN 7 q_f5) k_f6 (bN 7 q_f6) k_f7 f7 k_f8 (bN 4 q_f8) k_f9 (bN 2 q_f9) k_f10 f10 k_f11 f11 k_f12 f12 k_f13 f13 k_f14 f14 k_f15 f15 k_f16 f16 z zc (nI zn) k_fz g_15) H ∧ va_D A (az16__w au (nI nc) (nI np) (nI ne) st0 q4 q5 q6 q7 q8 q9 q10 q11 q12 q13 q14 q15 q16 k_f4 f4 k_f5 (bN 7 q_f5) k_f6 (bN 7 q_f6) k_f7 f7 k_f8 (bN 4 q_f8) k_f9 (bN 2 q_f9) k_f10 f10 k_f11 f11 k_f12 f12 k_f13 f13 k_f14 f14 k_f15 f15 k_f16 f16 z zc (nI zn) k_fz g_15) ∧ va_S A s.heap H locs ∧ lv_has ls 4 [(0, .ref au), (1, .ref z), (2, .int (nI a1)), (3, .int (nI g_4))]) 31 ?_ (fun j_16 => ?_)
    · rintro H locs ls st ⟨g_15, rfl, he_18, hP, hD, hS, hl⟩
      rw [← he_18] at hsp
      refine lv_iinc (v := (nI (g_4 + 1))) (lv' := [(3, .int (nI (g_4 + 1))), (0, .ref au), (1, .ref z), (2, .int (nI a1))]) hx hb eX0_setBackIn_31 hl (k := 3) rfl (nI_1 _) (by decide) rfl (fun ls hl => ?_)
      refine lv_goto (tgt := 2) hx hb eX0_setBackIn_34 (by decide) ?_
      exact ih_5 (3 - (g_4 + 1)) (by omega) _ _ _ ⟨g_15, (g_4 + 1), rfl, (by omega), hin_9 _ hsp, hP, hD, hS, lv_sub hl [1, 2, 3, 0] rfl⟩
    have hsp := hJR_17
    refine lv_icmp_ne (tgt := 31) hx hb eX0_setBackIn_21 (by decide) (fun c_19 => ?_) (fun c_19 => ?_)
    · have hcc_19 := c_19
      have hsp := hsp.trans (if_neg c_19)
      exact j_16 _ _ _ _ ⟨g_3, rfl, hsp.symm, hP, hD, hS, lv_sub hl [0, 1, 2, 3] rfl⟩
    · have hcc_19 := c_19
      have hsp := hsp.trans (if_pos c_19)
      refine lv_aload_n hx hb eX0_setBackIn_24 rfl (lv_at hl 1 rfl) ?_
      refine lv_iload_n hx hb eX0_setBackIn_25 rfl (lv_at hl 3 rfl) ?_
      refine lv_iconst (v := 1) hx hb eX0_setBackIn_26 (by decide) ?_
      refine lv_iadd hx hb eX0_setBackIn_27 ?_
      refine lv_topi (fun y_20 ey_20 => ?_)
      obtain rfl : y_20 = (nI (g_4 + 1)) := ey_20.trans (nI_add g_4 1)
      have hPc : va_P (dC, dI) vwCl (z16__w z zc (nI zn) k_fz g_3) _ := hP.sub [14, 15] rfl
      have hDc := hD.sub (ws' := (z16__w z zc (nI zn) k_fz g_3)) [14, 15] (by decide) rfl
      have hKc : va_K (dC, dI) vwCl (z16__t k_fz) s := hK.sub [13] rfl
      have hFc := pu_free hDc hS hA
      refine va_callv (va_runV (As := [.int (nI (g_4 + 1))]) (rest := []) ⟨hx, hb, hml, hown, hts⟩ (c_E_7_setBack_16 l dC dI _ z zc zn k_fz g_3 (g_4 + 1) hzn (by omega)) (cwV 1 hts g_E_0_setBackIn_16_E_7_setBack_16 rfl rfl rfl (by decide +kernel) ⟨Nat.le_of_ble_eq_true rfl, Nat.le_of_ble_eq_true rfl⟩) ⟨pu_bl, va_recv hK hP (ci := 7) (q0 := 14) rfl rfl, pu_in hPc hKc hDc⟩ rfl rfl hl.1 rfl (lv_room (Nat.le_of_ble_eq_true rfl)) eX0_setBackIn_28 ⟨Nat.le_of_ble_eq_true rfl, Nat.le_of_ble_eq_true rfl⟩) hS (fun q _ h => hFc q h) hFc (fun u t H1 locs ht hvm hw hB hz1 hk1 hS => ?_)
      obtain ⟨z_fz_22, ⟨hP1, -, hD1⟩, xr_21_0⟩ := hB
      rw [ht] at hP1
      obtain ⟨hP, hD⟩ := pj_a (X := (az16__w au (nI nc) (nI np) (nI ne) st0 q4 q5 q6 q7 q8 q9 q10 q11 q12 q13 q14 q15 q16 k_f4 f4 k_f5 (bN 7 q_f5) k_f6 (bN 7 q_f6) k_f7 f7 k_f8 (bN 4 q_f8) k_f9 (bN 2 q_f9) k_f10 f10 k_f11 f11 k_f12 f12 k_f13 f13 k_f14 f14 k_f15 f15 k_f16 f16 z zc (nI zn) k_fz g_3)) (X' := (az16__w au (nI nc) (nI np) (nI ne) st0 q4 q5 q6 q7 q8 q9 q10 q11 q12 q13 q14 q15 q16 k_f4 f4 k_f5 (bN 7 q_f5) k_f6 (bN 7 q_f6) k_f7 f7 k_f8 (bN 4 q_f8) k_f9 (bN 2 q_f9) k_f10 f10 k_f11 f11 k_f12 f12 k_f13 f13 k_f14 f14 k_f15 f15 k_f16 f16 z zc (nI zn) k_fz z_fz_22)) (wc := (z16__w z zc (nI zn) k_fz g_3)) (w1 := (z16__w z zc (nI zn) k_fz z_fz_22)) hP hD [14, 15] [2, 3, 4, 5, 6, 7, 8, 9, 10, 11, 12, 13, 14, 15, 0, 1] 2 rfl hk1 hP1 rfl rfl rfl (by decide)
      clear hP1 hD1 hFc hPc hDc hKc
      clear hk1 hz1 ht hvm
      generalize H1 = H at hP hS ⊢
      have hsp := hsp.trans (slet_eq xr_21_0)
      exact j_16 _ _ _ _ ⟨z_fz_22, rfl, hsp.symm, hP, hD, hS, lv_sub hl [0, 1, 2, 3] rfl⟩
theorem eX0_stayIn_0 : decode cX0_stayIn 0 = .ok (.aload_n 0, 1) := by decide +kernel
theorem eX0_stayIn_1 : decode cX0_stayIn 1 = .ok (.getfield 15, 3) := by decide +kernel
theorem eX0_stayIn_4 : decode cX0_stayIn 4 = .ok (.iload_n 2, 1) := by decide +kernel
theorem eX0_stayIn_5 : decode cX0_stayIn 5 = .ok (.baload, 1) := by decide +kernel
theorem eX0_stayIn_6 : decode cX0_stayIn 6 = .ok (.ifCond .ne 18, 3) := by decide +kernel
theorem eX0_stayIn_9 : decode cX0_stayIn 9 = .ok (.aload_n 1, 1) := by decide +kernel
theorem eX0_stayIn_10 : decode cX0_stayIn 10 = .ok (.invokevirtual 99, 3) := by decide +kernel
theorem eX0_stayIn_13 : decode cX0_stayIn 13 = .ok (.aload_n 0, 1) := by decide +kernel
theorem eX0_stayIn_14 : decode cX0_stayIn 14 = .ok (.aload_n 1, 1) := by decide +kernel
theorem eX0_stayIn_15 : decode cX0_stayIn 15 = .ok (.iload_n 2, 1) := by decide +kernel
theorem eX0_stayIn_16 : decode cX0_stayIn 16 = .ok (.invokestatic 92, 3) := by decide +kernel
theorem eX0_stayIn_19 : decode cX0_stayIn 19 = .ok (.iconst 0, 1) := by decide +kernel
theorem eX0_stayIn_20 : decode cX0_stayIn 20 = .ok (.invokevirtual 88, 3) := by decide +kernel
theorem eX0_stayIn_23 : decode cX0_stayIn 23 = .ok (.pop, 1) := by decide +kernel
theorem eX0_stayIn_24 : decode cX0_stayIn 24 = .ok (.return_, 1) := by decide +kernel
abbrev vs_E_0_stayIn_16 : List Cond := .code yX0_stayIn cX0_stayIn 3 none :: CM
theorem g_E_0_stayIn_16_E_7_delay_16 : GoodIn vs_E_0_stayIn_16 (wsV RX0 99 RX7 yX7_delay vs_E_7_delay_16) := cm_gV cm_62 cm_63 cm_64 cm_45 cm_65
theorem g_E_0_stayIn_16_E_0_hostOfPlace : GoodIn vs_E_0_stayIn_16 (va_wsS RX0 92 yX0_hostOfPlace vs_E_0_hostOfPlace) := cm_gS cm_54 cm_55 cm_19 cm_0
theorem g_E_0_stayIn_16_E_0_narrowTo_16 : GoodIn vs_E_0_stayIn_16 (wsV RX0 88 RX0 yX0_narrowTo vs_E_0_narrowTo_16) := cm_gV cm_51 cm_52 cm_53 cm_19 cm_41
noncomputable def sp_E_0_stayIn_16 (f4 : Nat → Int32) (q_f8 : Nat → Nat) (q_f9 : Nat → Nat) (f12 : Nat → Int32) (f13 : Nat → Int32) (zn : Nat) (fz : Nat → Int32) (a1 : Nat) : (Nat → Int32) := (slet (f4 a1) (fun y_1 => (if (y_1 : Int32) = 0 then (slet (sp_E_7_delay_16 zn fz) (fun z_fz_4 => (slet (sp_E_0_narrowTo_16 q_f8 q_f9 f12 f13 zn z_fz_4 (14 + a1) 0) (fun (u_8, z_fz_7) => z_fz_7)))) else fz)))
set_option maxHeartbeats 4000000 in
set_option maxRecDepth 100000 in
theorem c_E_0_stayIn_16 (l : Launch) (dC : Nat → ClassId) (dI : Nat → Nat → Nat) (sz : Nat) (au : Nat) (nc : Nat) (np : Nat) (ne : Nat) (st0 : Int32) (q4 : Nat) (q5 : Nat) (q6 : Nat) (q7 : Nat) (q8 : Nat) (q9 : Nat) (q10 : Nat) (q11 : Nat) (q12 : Nat) (q13 : Nat) (q14 : Nat) (q15 : Nat) (q16 : Nat) (k_f4 : ClassId) (f4 : Nat → Int32) (k_f5 : ClassId) (q_f5 : Nat → Nat) (k_f6 : ClassId) (q_f6 : Nat → Nat) (k_f7 : ClassId) (f7 : Nat → Int32) (k_f8 : ClassId) (q_f8 : Nat → Nat) (k_f9 : ClassId) (q_f9 : Nat → Nat) (k_f10 : ClassId) (f10 : Nat → Int32) (k_f11 : ClassId) (f11 : Nat → Int32) (k_f12 : ClassId) (f12 : Nat → Int32) (k_f13 : ClassId) (f13 : Nat → Int32) (k_f14 : ClassId) (f14 : Nat → Int32) (k_f15 : ClassId) (f15 : Nat → Int32) (k_f16 : ClassId) (f16 : Nat → Int32) (z : Nat) (zc : Nat) (zn : Nat) (k_fz : ClassId) (fz : Nat → Int32) (a1 : Nat) (hnc : nc ≤ 3) (hnp : np ≤ 8) (hne : ne ≤ 14) (hst0 : pm1 7 st0) (hzn : zn ≤ 4) (ha1 : a1 ≤ 7) : Met l yX0_stayIn vs_E_0_stayIn_16 ({ frames := 2, cells := 0, slots := 0, locals := 55 }) (va_Pc [.ref au, .ref z, .int (nI a1)] (pu_B (dC, dI) (az16__w au (nI nc) (nI np) (nI ne) st0 q4 q5 q6 q7 q8 q9 q10 q11 q12 q13 q14 q15 q16 k_f4 f4 k_f5 (bN 7 q_f5) k_f6 (bN 7 q_f6) k_f7 f7 k_f8 (bN 4 q_f8) k_f9 (bN 2 q_f9) k_f10 f10 k_f11 f11 k_f12 f12 k_f13 f13 k_f14 f14 k_f15 f15 k_f16 f16 z zc (nI zn) k_fz fz) (az16__t k_f4 k_f5 k_f6 k_f7 k_f8 k_f9 k_f10 k_f11 k_f12 k_f13 k_f14 k_f15 k_f16 k_fz) sz)) (va_Qv (fun (_ : Unit) => True) (fun _ t => ∃ (z_fz : Nat → Int32), pu_E (dC, dI) (az16__w au (nI nc) (nI np) (nI ne) st0 q4 q5 q6 q7 q8 q9 q10 q11 q12 q13 q14 q15 q16 k_f4 f4 k_f5 (bN 7 q_f5) k_f6 (bN 7 q_f6) k_f7 f7 k_f8 (bN 4 q_f8) k_f9 (bN 2 q_f9) k_f10 f10 k_f11 f11 k_f12 f12 k_f13 f13 k_f14 f14 k_f15 f15 k_f16 f16 z zc (nI zn) k_fz z_fz) (az16__t k_f4 k_f5 k_f6 k_f7 k_f8 k_f9 k_f10 k_f11 k_f12 k_f13 k_f14 k_f15 k_f16 k_fz) (va_A ((az16__w au (nI nc) (nI np) (nI ne) st0 q4 q5 q6 q7 q8 q9 q10 q11 q12 q13 q14 q15 q16 k_f4 f4 k_f5 (bN 7 q_f5) k_f6 (bN 7 q_f6) k_f7 f7 k_f8 (bN 4 q_f8) k_f9 (bN 2 q_f9) k_f10 f10 k_f11 f11 k_f12 f12 k_f13 f13 k_f14 f14 k_f15 f15 k_f16 f16 z zc (nI zn) k_fz fz)) sz) t ∧ (z_fz = (sp_E_0_stayIn_16 f4 q_f8 q_f9 f12 f13 zn fz a1))) (va_A ((az16__w au (nI nc) (nI np) (nI ne) st0 q4 q5 q6 q7 q8 q9 q10 q11 q12 q13 q14 q15 q16 k_f4 f4 k_f5 (bN 7 q_f5) k_f6 (bN 7 q_f6) k_f7 f7 k_f8 (bN 4 q_f8) k_f9 (bN 2 q_f9) k_f10 f10 k_f11 f11 k_f12 f12 k_f13 f13 k_f14 f14 k_f15 f15 k_f16 f16 z zc (nI zn) k_fz fz)) sz)) 0 0 (va_A ((az16__w au (nI nc) (nI np) (nI ne) st0 q4 q5 q6 q7 q8 q9 q10 q11 q12 q13 q14 q15 q16 k_f4 f4 k_f5 (bN 7 q_f5) k_f6 (bN 7 q_f6) k_f7 f7 k_f8 (bN 4 q_f8) k_f9 (bN 2 q_f9) k_f10 f10 k_f11 f11 k_f12 f12 k_f13 f13 k_f14 f14 k_f15 f15 k_f16 f16 z zc (nI zn) k_fz fz)) sz) := by
  refine Met.ofW (cc := cX0_stayIn) (maxL := 3) (ret := none) (by decide) rfl ?_
  intro p e s m args below meth c s₁ B hml hv
  obtain ⟨rfl, rfl, hP, hK, hD0⟩ := hv
  have hx := B.exec
  have hb := B.bytes
  have hr := B.returns
  have hts := atoms_spec (ws := vs_E_0_stayIn_16) B.pre
  have v_1 := hts (.fieldLink RX0 15 "ClockReach$Automaton" "hurried" "[Z") (List.mem_cons_of_mem _ cm_7)
  have hown : s.vm.findClass RX0 = some m.cls := findClass_of_methodNamed B.named
  have hlocks := B.notSynchronized
  have hiX0 : ∀ w ∈ wsX00, w ∈ vs_E_0_stayIn_16 := fun _ h => List.mem_cons_of_mem _ (cm_X0 h)
  have hD := hD0.self (sz := s.heap.size)
  generalize hAe : va_A ((az16__w au (nI nc) (nI np) (nI ne) st0 q4 q5 q6 q7 q8 q9 q10 q11 q12 q13 q14 q15 q16 k_f4 f4 k_f5 (bN 7 q_f5) k_f6 (bN 7 q_f6) k_f7 f7 k_f8 (bN 4 q_f8) k_f9 (bN 2 q_f9) k_f10 f10 k_f11 f11 k_f12 f12 k_f13 f13 k_f14 f14 k_f15 f15 k_f16 f16 z zc (nI zn) k_fz fz)) s.heap.size = A at hD ⊢
  have hA : ∀ q : Nat, s.heap.size ≤ q → A q := fun q h => by rw [← hAe]; exact Or.inr h
  have hS : va_S A s.heap s.heap [] := va_S.rf
  have hl := lv_entry ([.ref au, .ref z, .int (nI a1)]) (n := 3) (Nat.le_of_ble_eq_true rfl)
  rw [lg_entry_eq]
  generalize (lg_sl ([.ref au, .ref z, .int (nI a1)]) ++ List.replicate (3 - (lg_sl ([.ref au, .ref z, .int (nI a1)])).length) Slot.unset).toArray = ls at hl ⊢
  have hl : lv_has ls 3 [(0, .ref au), (1, .ref z), (2, .int (nI a1))] := hl
  obtain ⟨RR, hRR⟩ : ∃ x, x = (sp_E_0_stayIn_16 f4 q_f8 q_f9 f12 f13 zn fz a1) := ⟨_, rfl⟩
  have hsp := hRR
  refine lv_aload_n hx hb eX0_stayIn_0 rfl (lv_at hl 0 rfl) ?_
  refine va_get (D := (dC, dI)) (ci := 0) (v := .ref q4) (C := RX0) (T := TX0) (N := 17) hx hb hts hiX0 hown hK hP 0 rfl rfl 4 (by decide) v_1 (fun _ h9 => h9) rfl eX0_stayIn_1 ?_
  refine lv_iload_n hx hb eX0_stayIn_4 rfl (lv_at hl 2 rfl) ?_
  refine va_zald hx hb hK hP 1 0 rfl rfl (vp_in_nI (n := a1) (Nat.lt_of_le_of_lt ha1 (Nat.le_of_ble_eq_true rfl)) (Nat.le_of_ble_eq_true rfl)) eX0_stayIn_5 ?_
  refine lv_topi (fun y_1 ey_1 => ?_)
  have ey_1 : y_1 = f4 a1 := ey_1.trans (congrArg f4 (nI_clamp (n := a1) (Nat.lt_of_le_of_lt ha1 (Nat.le_of_ble_eq_true rfl))))
  have hsp := hsp.trans (slet_eq ey_1)
  refine lv_if_ne (tgt := 24) hx hb eX0_stayIn_6 (by decide) (fun c_2 => ?_) (fun c_2 => ?_)
  · have hcc_2 := c_2
    have hsp := hsp.trans (if_neg c_2)
    exact W.vret hx hb hr (fun t ht hW => ⟨⟨(), rfl, trivial, ⟨fz, ⟨by rw [ht]; exact hP, va_K.moved hW.alike hK, hD⟩, (hsp.symm.trans hRR)⟩⟩, hS.F ht⟩) hS.2.2 eX0_stayIn_24
  · have hcc_2 := c_2
    have hsp := hsp.trans (if_pos c_2)
    refine lv_aload_n hx hb eX0_stayIn_9 rfl (lv_at hl 1 rfl) ?_
    have hPc : va_P (dC, dI) vwCl (z16__w z zc (nI zn) k_fz fz) _ := hP.sub [14, 15] rfl
    have hDc := hD.sub (ws' := (z16__w z zc (nI zn) k_fz fz)) [14, 15] (by decide) rfl
    have hKc : va_K (dC, dI) vwCl (z16__t k_fz) s := hK.sub [13] rfl
    have hFc := pu_free hDc hS hA
    refine va_callv (va_runV (As := []) (rest := []) ⟨hx, hb, hml, hown, hts⟩ (c_E_7_delay_16 l dC dI _ z zc zn k_fz fz hzn) (cwV 0 hts g_E_0_stayIn_16_E_7_delay_16 rfl rfl rfl (by decide +kernel) ⟨Nat.le_of_ble_eq_true rfl, Nat.le_of_ble_eq_true rfl⟩) ⟨pu_bl, va_recv hK hP (ci := 7) (q0 := 14) rfl rfl, pu_in hPc hKc hDc⟩ rfl rfl hl.1 rfl (lv_room (Nat.le_of_ble_eq_true rfl)) eX0_stayIn_10 ⟨Nat.le_of_ble_eq_true rfl, Nat.le_of_ble_eq_true rfl⟩) hS (fun q _ h => hFc q h) hFc (fun u t H1 locs ht hvm hw hB hz1 hk1 hS => ?_)
    obtain ⟨z_fz_4, ⟨hP1, -, hD1⟩, xr_3_0⟩ := hB
    rw [ht] at hP1
    obtain ⟨hP, hD⟩ := pj_a (X := (az16__w au (nI nc) (nI np) (nI ne) st0 q4 q5 q6 q7 q8 q9 q10 q11 q12 q13 q14 q15 q16 k_f4 f4 k_f5 (bN 7 q_f5) k_f6 (bN 7 q_f6) k_f7 f7 k_f8 (bN 4 q_f8) k_f9 (bN 2 q_f9) k_f10 f10 k_f11 f11 k_f12 f12 k_f13 f13 k_f14 f14 k_f15 f15 k_f16 f16 z zc (nI zn) k_fz fz)) (X' := (az16__w au (nI nc) (nI np) (nI ne) st0 q4 q5 q6 q7 q8 q9 q10 q11 q12 q13 q14 q15 q16 k_f4 f4 k_f5 (bN 7 q_f5) k_f6 (bN 7 q_f6) k_f7 f7 k_f8 (bN 4 q_f8) k_f9 (bN 2 q_f9) k_f10 f10 k_f11 f11 k_f12 f12 k_f13 f13 k_f14 f14 k_f15 f15 k_f16 f16 z zc (nI zn) k_fz z_fz_4)) (wc := (z16__w z zc (nI zn) k_fz fz)) (w1 := (z16__w z zc (nI zn) k_fz z_fz_4)) hP hD [14, 15] [2, 3, 4, 5, 6, 7, 8, 9, 10, 11, 12, 13, 14, 15, 0, 1] 2 rfl hk1 hP1 rfl rfl rfl (by decide)
    clear hP1 hD1 hFc hPc hDc hKc
    clear hk1 hz1 ht hvm
    generalize H1 = H at hP hS ⊢
    have hsp := hsp.trans (slet_eq xr_3_0)
    refine lv_aload_n hx hb eX0_stayIn_13 rfl (lv_at hl 0 rfl) ?_
    refine lv_aload_n hx hb eX0_stayIn_14 rfl (lv_at hl 1 rfl) ?_
    refine lv_iload_n hx hb eX0_stayIn_15 rfl (lv_at hl 2 rfl) ?_
    refine va_calli (va_runS (As := [.int (nI a1)]) (rest := [.ref z, .ref au]) ⟨hx, hb, hml, hown, hts⟩ (c_E_0_hostOfPlace l dC dI _ a1 ha1) (va_cwS 1 hts g_E_0_stayIn_16_E_0_hostOfPlace rfl rfl rfl (by decide +kernel) ⟨Nat.le_of_ble_eq_true rfl, Nat.le_of_ble_eq_true rfl⟩) ⟨pu_bl, pu_in (hP.sub [] rfl) (hK.sub [] rfl) (hD.sub [] (by decide) rfl)⟩ rfl rfl hl.1 rfl (lv_room (Nat.le_of_ble_eq_true rfl)) eX0_stayIn_16 ⟨Nat.le_of_ble_eq_true rfl, Nat.le_of_ble_eq_true rfl⟩) hS (fun q _ h => pu_fr hS hA q h) (pu_fr hS hA) (fun r_5 u t H1 locs ht hvm hw hB hz1 hk1 hS => ?_)
    have hP := pu_keep hP hk1
    clear hk1 hz1 ht hvm
    generalize H1 = H at hP hS ⊢
    obtain rfl : r_5 = nI (14 + a1) := hw
    refine lv_iconst (v := 0) hx hb eX0_stayIn_19 (by decide) ?_
    have hFc := pu_free hD hS hA
    refine va_calli (va_runV (As := [.ref z, .int (nI (14 + a1)), .int 0]) (rest := []) ⟨hx, hb, hml, hown, hts⟩ (c_E_0_narrowTo_16 l dC dI _ au nc np ne st0 q4 q5 q6 q7 q8 q9 q10 q11 q12 q13 q14 q15 q16 k_f4 f4 k_f5 q_f5 k_f6 q_f6 k_f7 f7 k_f8 q_f8 k_f9 q_f9 k_f10 f10 k_f11 f11 k_f12 f12 k_f13 f13 k_f14 f14 k_f15 f15 k_f16 f16 z zc zn k_fz z_fz_4 (14 + a1) 0 hnc hnp hne (hst0) hzn (by omega)) (cwV 3 hts g_E_0_stayIn_16_E_0_narrowTo_16 rfl rfl rfl (by decide +kernel) ⟨Nat.le_of_ble_eq_true rfl, Nat.le_of_ble_eq_true rfl⟩) ⟨pu_bl, va_recv hK hP (ci := 0) (q0 := 0) rfl rfl, pu_in hP hK hD⟩ rfl rfl hl.1 rfl (lv_room (Nat.le_of_ble_eq_true rfl)) eX0_stayIn_20 ⟨Nat.le_of_ble_eq_true rfl, Nat.le_of_ble_eq_true rfl⟩) hS (fun q _ h => hFc q h) hFc (fun r_6 u t H1 locs ht hvm hw hB hz1 hk1 hS => ?_)
    obtain ⟨z_fz_7, ⟨hP1, -, hD1⟩, xr_6_0⟩ := hB
    rw [ht] at hP1
    have hP := hP1
    have hD := pu_all hFc hD1
    clear hP1 hD1 hFc
    clear hk1 hz1 ht hvm
    generalize H1 = H at hP hS ⊢
    obtain ⟨u_8, hu_8, rfl, iu_8⟩ := hw
    have iu_8 : (u_8, z_fz_7) = (sp_E_0_narrowTo_16 q_f8 q_f9 f12 f13 zn z_fz_4 (14 + a1) 0) := Prod.ext iu_8 xr_6_0
    have hsp := hsp.trans (slet_eq iu_8)
    refine lv_pop hx hb eX0_stayIn_23 rfl ?_
    exact W.vret hx hb hr (fun t ht hW => ⟨⟨(), rfl, trivial, ⟨z_fz_7, ⟨by rw [ht]; exact hP, va_K.moved hW.alike hK, hD⟩, (hsp.symm.trans hRR)⟩⟩, hS.F ht⟩) hS.2.2 eX0_stayIn_24
abbrev vs_E_0_narrowTo_25 : List Cond := .code yX0_narrowTo cX0_narrowTo 7 (some .boolean) :: CM
theorem g_E_0_narrowTo_25_E_0_slot : GoodIn vs_E_0_narrowTo_25 (va_wsS RX0 65 yX0_slot vs_E_0_slot) := cm_gS cm_17 cm_18 cm_19 cm_1
theorem g_E_0_narrowTo_25_E_7_narrow_25 : GoodIn vs_E_0_narrowTo_25 (wsV RX0 84 RX7 yX7_narrow vs_E_7_narrow_25) := cm_gV cm_42 cm_43 cm_44 cm_45 cm_46
noncomputable def sp_E_0_narrowTo_25_L1 (q_f8 : Nat → Nat) (q_f9 : Nat → Nat) (f12 : Nat → Int32) (f13 : Nat → Int32) (zn : Nat) (a1 : Nat) (p2 : Int32) : ((Nat → Int32) × Nat) → ((Nat → Int32) × Nat) ⊕ (Nat × (Nat → Int32)) := fun (g_3, g_4) => (slet (min (q_f8 a1) 4) (fun u_12 => (if u_12 ≤ g_4 then (Sum.inr (1, g_3)) else (slet (min (q_f9 (a1 * 4 + g_4)) 2) (fun u_16 => (slet ((p2 : Int32) >>> (((nI u_16) : Int32) &&& 31)) (fun y_17 => (slet ((y_17 : Int32) &&& (1 : Int32)) (fun y_18 => (if (y_18 : Int32) = 1 then (slet (f12 (a1 * 4 + g_4)) (fun y_32 => (if (y_32 : Int32) < 1 then (Sum.inr (0, g_3)) else (slet (f13 (a1 * 4 + g_4)) (fun y_34 => (if (1 : Int32) ≤ y_34 then (Sum.inl (g_3, (g_4 + 1))) else (Sum.inr (0, g_3)))))))) else (slet (f12 (a1 * 4 + g_4)) (fun y_21 => (slet (sp_E_7_narrow_25 zn g_3 (u_16 + 1) 0 y_21) (fun (u_24, z_fz_23) => (if u_24 = 0 then (Sum.inr (0, z_fz_23)) else (slet (f13 (a1 * 4 + g_4)) (fun y_27 => (slet (sp_E_7_narrow_25 zn z_fz_23 0 (u_16 + 1) y_27) (fun (u_30, z_fz_29) => (if u_30 = 0 then (Sum.inr (0, z_fz_29)) else (Sum.inl (z_fz_29, (g_4 + 1)))))))))))))))))))))))
noncomputable def sp_E_0_narrowTo_25 (q_f8 : Nat → Nat) (q_f9 : Nat → Nat) (f12 : Nat → Int32) (f13 : Nat → Int32) (zn : Nat) (fz : Nat → Int32) (a1 : Nat) (p2 : Int32) : Nat × (Nat → Int32) := (itrv (α := (Nat → Int32) × Nat) (β := (Nat × (Nat → Int32))) default (sp_E_0_narrowTo_25_L1 q_f8 q_f9 f12 f13 zn a1 p2) (fz, 0))
set_option maxHeartbeats 4000000 in
set_option maxRecDepth 100000 in
theorem c_E_0_narrowTo_25 (l : Launch) (dC : Nat → ClassId) (dI : Nat → Nat → Nat) (sz : Nat) (au : Nat) (nc : Nat) (np : Nat) (ne : Nat) (st0 : Int32) (q4 : Nat) (q5 : Nat) (q6 : Nat) (q7 : Nat) (q8 : Nat) (q9 : Nat) (q10 : Nat) (q11 : Nat) (q12 : Nat) (q13 : Nat) (q14 : Nat) (q15 : Nat) (q16 : Nat) (k_f4 : ClassId) (f4 : Nat → Int32) (k_f5 : ClassId) (q_f5 : Nat → Nat) (k_f6 : ClassId) (q_f6 : Nat → Nat) (k_f7 : ClassId) (f7 : Nat → Int32) (k_f8 : ClassId) (q_f8 : Nat → Nat) (k_f9 : ClassId) (q_f9 : Nat → Nat) (k_f10 : ClassId) (f10 : Nat → Int32) (k_f11 : ClassId) (f11 : Nat → Int32) (k_f12 : ClassId) (f12 : Nat → Int32) (k_f13 : ClassId) (f13 : Nat → Int32) (k_f14 : ClassId) (f14 : Nat → Int32) (k_f15 : ClassId) (f15 : Nat → Int32) (k_f16 : ClassId) (f16 : Nat → Int32) (z : Nat) (zc : Nat) (zn : Nat) (k_fz : ClassId) (fz : Nat → Int32) (a1 : Nat) (p2 : Int32) (hnc : nc ≤ 3) (hnp : np ≤ 8) (hne : ne ≤ 14) (hst0 : pm1 7 st0) (hzn : zn ≤ 5) (ha1 : a1 ≤ 21) : Met l yX0_narrowTo vs_E_0_narrowTo_25 ({ frames := 1, cells := 0, slots := 0, locals := 29 }) (va_Pc [.ref au, .ref z, .int (nI a1), .int p2] (pu_B (dC, dI) (az25__w au (nI nc) (nI np) (nI ne) st0 q4 q5 q6 q7 q8 q9 q10 q11 q12 q13 q14 q15 q16 k_f4 f4 k_f5 (bN 7 q_f5) k_f6 (bN 7 q_f6) k_f7 f7 k_f8 (bN 4 q_f8) k_f9 (bN 2 q_f9) k_f10 f10 k_f11 f11 k_f12 f12 k_f13 f13 k_f14 f14 k_f15 f15 k_f16 f16 z zc (nI zn) k_fz fz) (az25__t k_f4 k_f5 k_f6 k_f7 k_f8 k_f9 k_f10 k_f11 k_f12 k_f13 k_f14 k_f15 k_f16 k_fz) sz)) (va_Qi (fun (r : Int32) (_ : Unit) => ∃ v : Nat, v ≤ 1 ∧ r = nI v ∧ v = (sp_E_0_narrowTo_25 q_f8 q_f9 f12 f13 zn fz a1 p2).1) (fun _ t => ∃ (z_fz : Nat → Int32), pu_E (dC, dI) (az25__w au (nI nc) (nI np) (nI ne) st0 q4 q5 q6 q7 q8 q9 q10 q11 q12 q13 q14 q15 q16 k_f4 f4 k_f5 (bN 7 q_f5) k_f6 (bN 7 q_f6) k_f7 f7 k_f8 (bN 4 q_f8) k_f9 (bN 2 q_f9) k_f10 f10 k_f11 f11 k_f12 f12 k_f13 f13 k_f14 f14 k_f15 f15 k_f16 f16 z zc (nI zn) k_fz z_fz) (az25__t k_f4 k_f5 k_f6 k_f7 k_f8 k_f9 k_f10 k_f11 k_f12 k_f13 k_f14 k_f15 k_f16 k_fz) (va_A ((az25__w au (nI nc) (nI np) (nI ne) st0 q4 q5 q6 q7 q8 q9 q10 q11 q12 q13 q14 q15 q16 k_f4 f4 k_f5 (bN 7 q_f5) k_f6 (bN 7 q_f6) k_f7 f7 k_f8 (bN 4 q_f8) k_f9 (bN 2 q_f9) k_f10 f10 k_f11 f11 k_f12 f12 k_f13 f13 k_f14 f14 k_f15 f15 k_f16 f16 z zc (nI zn) k_fz fz)) sz) t ∧ (z_fz = (sp_E_0_narrowTo_25 q_f8 q_f9 f12 f13 zn fz a1 p2).2)) (va_A ((az25__w au (nI nc) (nI np) (nI ne) st0 q4 q5 q6 q7 q8 q9 q10 q11 q12 q13 q14 q15 q16 k_f4 f4 k_f5 (bN 7 q_f5) k_f6 (bN 7 q_f6) k_f7 f7 k_f8 (bN 4 q_f8) k_f9 (bN 2 q_f9) k_f10 f10 k_f11 f11 k_f12 f12 k_f13 f13 k_f14 f14 k_f15 f15 k_f16 f16 z zc (nI zn) k_fz fz)) sz)) 0 0 (va_A ((az25__w au (nI nc) (nI np) (nI ne) st0 q4 q5 q6 q7 q8 q9 q10 q11 q12 q13 q14 q15 q16 k_f4 f4 k_f5 (bN 7 q_f5) k_f6 (bN 7 q_f6) k_f7 f7 k_f8 (bN 4 q_f8) k_f9 (bN 2 q_f9) k_f10 f10 k_f11 f11 k_f12 f12 k_f13 f13 k_f14 f14 k_f15 f15 k_f16 f16 z zc (nI zn) k_fz fz)) sz) := by
  refine Met.ofW (cc := cX0_narrowTo) (maxL := 7) (ret := (some .boolean)) (by decide) rfl ?_
  intro p e s m args below meth c s₁ B hml hv
  obtain ⟨rfl, rfl, hP, hK, hD0⟩ := hv
  have hx := B.exec
  have hb := B.bytes
  have hr := B.returns
  have hts := atoms_spec (ws := vs_E_0_narrowTo_25) B.pre
  have v_1 := hts (.fieldLink RX0 29 "ClockReach$Automaton" "counts" "[I") (List.mem_cons_of_mem _ cm_8)
  have v_6 := hts (.fieldLink RX0 32 "ClockReach$Automaton" "conditionClocks" "[I") (List.mem_cons_of_mem _ cm_14)
  have v_7 := hts (.fieldLink RX0 41 "ClockReach$Automaton" "ceilings" "[I") (List.mem_cons_of_mem _ cm_24)
  have v_13 := hts (.fieldLink RX0 44 "ClockReach$Automaton" "floors" "[I") (List.mem_cons_of_mem _ cm_26)
  have hown : s.vm.findClass RX0 = some m.cls := findClass_of_methodNamed B.named
  have hlocks := B.notSynchronized
  have hiX0 : ∀ w ∈ wsX00, w ∈ vs_E_0_narrowTo_25 := fun _ h => List.mem_cons_of_mem _ (cm_X0 h)
  have hD := hD0.self (sz := s.heap.size)
  generalize hAe : va_A ((az25__w au (nI nc) (nI np) (nI ne) st0 q4 q5 q6 q7 q8 q9 q10 q11 q12 q13 q14 q15 q16 k_f4 f4 k_f5 (bN 7 q_f5) k_f6 (bN 7 q_f6) k_f7 f7 k_f8 (bN 4 q_f8) k_f9 (bN 2 q_f9) k_f10 f10 k_f11 f11 k_f12 f12 k_f13 f13 k_f14 f14 k_f15 f15 k_f16 f16 z zc (nI zn) k_fz fz)) s.heap.size = A at hD ⊢
  have hA : ∀ q : Nat, s.heap.size ≤ q → A q := fun q h => by rw [← hAe]; exact Or.inr h
  have hS : va_S A s.heap s.heap [] := va_S.rf
  have hl := lv_entry ([.ref au, .ref z, .int (nI a1), .int p2]) (n := 7) (Nat.le_of_ble_eq_true rfl)
  rw [lg_entry_eq]
  generalize (lg_sl ([.ref au, .ref z, .int (nI a1), .int p2]) ++ List.replicate (7 - (lg_sl ([.ref au, .ref z, .int (nI a1), .int p2])).length) Slot.unset).toArray = ls at hl ⊢
  have hl : lv_has ls 7 [(0, .ref au), (1, .ref z), (2, .int (nI a1)), (3, .int p2)] := hl
  obtain ⟨RR, hRR⟩ : ∃ x, x = (sp_E_0_narrowTo_25 q_f8 q_f9 f12 f13 zn fz a1 p2) := ⟨_, rfl⟩
  have hsp := hRR
  refine lv_iconst (v := 0) hx hb eX0_narrowTo_0 (by decide) ?_
  refine lv_istore (lv' := [(4, .int 0), (0, .ref au), (1, .ref z), (2, .int (nI a1)), (3, .int p2)]) hx hb eX0_narrowTo_1 hl (by decide) rfl (fun ls hl => ?_)
  obtain ⟨lf_6, dlf_6, hlf_6, hsp⟩ := itr_ex hsp
  delta sp_E_0_narrowTo_25_L1 at hlf_6
  refine pu_while (fun nn H locs ls => ∃ (g_3 : Nat → Int32) (g_4 : Nat), nn = 4 - g_4 ∧ g_4 ≤ 4 ∧ RR = itrv dlf_6 lf_6 (g_3, g_4) ∧ va_P (dC, dI) vwCl (az25__w au (nI nc) (nI np) (nI ne) st0 q4 q5 q6 q7 q8 q9 q10 q11 q12 q13 q14 q15 q16 k_f4 f4 k_f5 (bN 7 q_f5) k_f6 (bN 7 q_f6) k_f7 f7 k_f8 (bN 4 q_f8) k_f9 (bN 2 q_f9) k_f10 f10 k_f11 f11 k_f12 f12 k_f13 f13 k_f14 f14 k_f15 f15 k_f16 f16 z zc (nI zn) k_fz g_3) H ∧ va_D A (az25__w au (nI nc) (nI np) (nI ne) st0 q4 q5 q6 q7 q8 q9 q10 q11 q12 q13 q14 q15 q16 k_f4 f4 k_f5 (bN 7 q_f5) k_f6 (bN 7 q_f6) k_f7 f7 k_f8 (bN 4 q_f8) k_f9 (bN 2 q_f9) k_f10 f10 k_f11 f11 k_f12 f12 k_f13 f13 k_f14 f14 k_f15 f15 k_f16 f16 z zc (nI zn) k_fz g_3) ∧ va_S A s.heap H locs ∧ lv_has ls 7 [(0, .ref au), (1, .ref z), (2, .int (nI a1)), (3, .int p2), (4, .int (nI g_4))]) 3 ?_ _ _ _ _ ⟨fz, 0, rfl, (Nat.le_of_ble_eq_true rfl), hsp, hP, hD, hS, lv_sub hl [1, 2, 3, 4, 0] rfl⟩
  rintro nn ih_5 H locs ls ⟨g_3, g_4, rfl, hg_4, he_8, hP, hD, hS, hl⟩
  obtain ⟨S_7, hsp, hin_9, hout_10⟩ := itr_step hlf_6 he_8
  refine lv_iload hx hb eX0_narrowTo_3 (lv_at hl 4 rfl) ?_
  refine lv_aload_n hx hb eX0_narrowTo_5 rfl (lv_at hl 0 rfl) ?_
  refine va_get (D := (dC, dI)) (ci := 0) (v := .ref q8) (C := RX0) (T := TX0) (N := 17) hx hb hts hiX0 hown hK hP 0 rfl rfl 8 (by decide) v_1 (fun _ h9 => h9) rfl eX0_narrowTo_6 ?_
  refine lv_iload_n hx hb eX0_narrowTo_9 rfl (lv_at hl 2 rfl) ?_
  refine va_iald hx hb hK hP 5 4 rfl rfl (vp_in_nI (n := a1) (Nat.lt_of_le_of_lt ha1 (Nat.le_of_ble_eq_true rfl)) (Nat.le_of_ble_eq_true rfl)) eX0_narrowTo_10 ?_
  refine lv_topi (fun y_11 ey_11 => ?_)
  obtain ⟨u_12, hu_12, qu_12, xu_12⟩ := bN_getx 4 q_f8 (n := a1) (Nat.lt_of_le_of_lt ha1 (Nat.le_of_ble_eq_true rfl))
  obtain rfl : y_11 = nI u_12 := ey_11.trans qu_12
  have hsp := hsp.trans (slet_eq xu_12)
  refine lv_icmp_ge (tgt := 111) hx hb eX0_narrowTo_11 (by decide) (fun c_13 => ?_) (fun c_13 => ?_)
  · have c_13 : u_12 ≤ g_4 := (nI_leI (a := u_12) (b := g_4) (Nat.lt_of_le_of_lt hu_12 (Nat.le_of_ble_eq_true rfl)) (Nat.lt_of_le_of_lt hg_4 (Nat.le_of_ble_eq_true rfl))).mp c_13
    have hsp := hsp.trans (if_pos c_13)
    have hsp := hout_10 _ hsp
    refine lv_iconst (v := 1) hx hb eX0_narrowTo_111 (by decide) ?_
    exact W.zret (v := 1) (ty := .boolean) hx hb hr (rfl) (fun t ht hW => ⟨⟨1, (), rfl, ⟨1, (Nat.le_of_ble_eq_true rfl), rfl, (congrArg Prod.fst (hsp.symm.trans hRR))⟩, ⟨g_3, ⟨by rw [ht]; exact hP, va_K.moved hW.alike hK, hD⟩, (congrArg Prod.snd (hsp.symm.trans hRR))⟩⟩, hS.F ht⟩) hS.2.2 eX0_narrowTo_112
  · have c_13 : ¬ u_12 ≤ g_4 := fun z => c_13 ((nI_leI (a := u_12) (b := g_4) (Nat.lt_of_le_of_lt hu_12 (Nat.le_of_ble_eq_true rfl)) (Nat.lt_of_le_of_lt hg_4 (Nat.le_of_ble_eq_true rfl))).mpr z)
    have hsp := hsp.trans (if_neg c_13)
    refine lv_iload_n hx hb eX0_narrowTo_14 rfl (lv_at hl 2 rfl) ?_
    refine lv_iload hx hb eX0_narrowTo_15 (lv_at hl 4 rfl) ?_
    refine va_calli (va_runS (As := [.int (nI a1), .int (nI g_4)]) (rest := []) ⟨hx, hb, hml, hown, hts⟩ (c_E_0_slot l dC dI _ a1 g_4 ha1 hg_4) (va_cwS 2 hts g_E_0_narrowTo_25_E_0_slot rfl rfl rfl (by decide +kernel) ⟨Nat.le_of_ble_eq_true rfl, Nat.le_of_ble_eq_true rfl⟩) ⟨pu_bl, pu_in (hP.sub [] rfl) (hK.sub [] rfl) (hD.sub [] (by decide) rfl)⟩ rfl rfl hl.1 rfl (lv_room (Nat.le_of_ble_eq_true rfl)) eX0_narrowTo_17 ⟨Nat.le_of_ble_eq_true rfl, Nat.le_of_ble_eq_true rfl⟩) hS (fun q _ h => pu_fr hS hA q h) (pu_fr hS hA) (fun r_14 u t H1 locs ht hvm hw hB hz1 hk1 hS => ?_)
    have hP := pu_keep hP hk1
    clear hk1 hz1 ht hvm
    generalize H1 = H at hP hS ⊢
    obtain rfl : r_14 = nI (a1 * 4 + g_4) := hw
    refine lv_istore (lv' := [(5, .int (nI (a1 * 4 + g_4))), (0, .ref au), (1, .ref z), (2, .int (nI a1)), (3, .int p2), (4, .int (nI g_4))]) hx hb eX0_narrowTo_20 hl (by decide) rfl (fun ls hl => ?_)
    refine lv_aload_n hx hb eX0_narrowTo_22 rfl (lv_at hl 1 rfl) ?_
    refine va_get (D := (dC, dI)) (ci := 0) (v := .ref q9) (C := RX0) (T := TX0) (N := 17) hx hb hts hiX0 hown hK hP 0 rfl rfl 9 (by decide) v_6 (fun _ h9 => h9) rfl eX0_narrowTo_23 ?_
    refine lv_iload hx hb eX0_narrowTo_26 (lv_at hl 0 rfl) ?_
    refine va_iald hx hb hK hP 6 5 rfl rfl (vp_in_nI (n := (a1 * 4 + g_4)) (by omega) (Nat.le_of_ble_eq_true rfl)) eX0_narrowTo_28 ?_
    refine lv_topi (fun y_15 ey_15 => ?_)
    obtain ⟨u_16, hu_16, qu_16, xu_16⟩ := bN_getx 2 q_f9 (n := (a1 * 4 + g_4)) (by first | omega | exact Nat.lt_trans (zx16 (by omega) (by omega) (by omega)) (Nat.le_of_ble_eq_true rfl) | exact Nat.lt_trans (zy16 (by omega) (by omega)) (Nat.le_of_ble_eq_true rfl) | exact Nat.lt_trans (zx25 (by omega) (by omega) (by omega)) (Nat.le_of_ble_eq_true rfl) | exact Nat.lt_trans (zy25 (by omega) (by omega)) (Nat.le_of_ble_eq_true rfl))
    obtain rfl : y_15 = nI u_16 := ey_15.trans qu_16
    have hsp := hsp.trans (slet_eq xu_16)
    refine lv_istore (lv' := [(6, .int (nI u_16)), (5, .int (nI (a1 * 4 + g_4))), (0, .ref au), (1, .ref z), (2, .int (nI a1)), (3, .int p2), (4, .int (nI g_4))]) hx hb eX0_narrowTo_29 hl (by decide) rfl (fun ls hl => ?_)
    refine lv_iload_n hx hb eX0_narrowTo_31 rfl (lv_at hl 5 rfl) ?_
    refine lv_iload hx hb eX0_narrowTo_32 (lv_at hl 0 rfl) ?_
    refine lv_ishr hx hb eX0_narrowTo_34 ?_
    refine lv_topi (fun y_17 ey_17 => ?_)
    have hsp := hsp.trans (slet_eq ey_17)
    refine lv_iconst (v := 1) hx hb eX0_narrowTo_35 (by decide) ?_
    refine lv_iand hx hb eX0_narrowTo_36 ?_
    refine lv_topi (fun y_18 ey_18 => ?_)
    have hsp := hsp.trans (slet_eq ey_18)
    refine lv_iconst (v := 1) hx hb eX0_narrowTo_37 (by decide) ?_
    refine lv_icmp_ne (tgt := 65) hx hb eX0_narrowTo_38 (by decide) (fun c_19 => ?_) (fun c_19 => ?_)
    · have hcc_19 := c_19
      have hsp := hsp.trans (if_neg c_19)
      refine lv_aload_n hx hb eX0_narrowTo_65 rfl (lv_at hl 3 rfl) ?_
      refine lv_iload hx hb eX0_narrowTo_66 (lv_at hl 0 rfl) ?_
      refine lv_iconst (v := 1) hx hb eX0_narrowTo_68 (by decide) ?_
      refine lv_iadd hx hb eX0_narrowTo_69 ?_
      refine lv_topi (fun y_20 ey_20 => ?_)
      obtain rfl : y_20 = (nI (u_16 + 1)) := ey_20.trans (nI_add u_16 1)
      refine lv_iconst (v := 0) hx hb eX0_narrowTo_70 (by decide) ?_
      refine lv_aload_n hx hb eX0_narrowTo_71 rfl (lv_at hl 2 rfl) ?_
      refine va_get (D := (dC, dI)) (ci := 0) (v := .ref q12) (C := RX0) (T := TX0) (N := 17) hx hb hts hiX0 hown hK hP 0 rfl rfl 12 (by decide) v_7 (fun _ h9 => h9) rfl eX0_narrowTo_72 ?_
      refine lv_iload hx hb eX0_narrowTo_75 (lv_at hl 1 rfl) ?_
      refine va_iald hx hb hK hP 9 8 rfl rfl (vp_in_nI (n := (a1 * 4 + g_4)) (by omega) (Nat.le_of_ble_eq_true rfl)) eX0_narrowTo_77 ?_
      refine lv_topi (fun y_21 ey_21 => ?_)
      have ey_21 : y_21 = f12 (a1 * 4 + g_4) := ey_21.trans (congrArg f12 (nI_clamp (n := (a1 * 4 + g_4)) (by first | omega | exact Nat.lt_trans (zx16 (by omega) (by omega) (by omega)) (Nat.le_of_ble_eq_true rfl) | exact Nat.lt_trans (zy16 (by omega) (by omega)) (Nat.le_of_ble_eq_true rfl) | exact Nat.lt_trans (zx25 (by omega) (by omega) (by omega)) (Nat.le_of_ble_eq_true rfl) | exact Nat.lt_trans (zy25 (by omega) (by omega)) (Nat.le_of_ble_eq_true rfl))))
      have hsp := hsp.trans (slet_eq ey_21)
      have hPc : va_P (dC, dI) vwCl (z25__w z zc (nI zn) k_fz g_3) _ := hP.sub [14, 15] rfl
      have hDc := hD.sub (ws' := (z25__w z zc (nI zn) k_fz g_3)) [14, 15] (by decide) rfl
      have hKc : va_K (dC, dI) vwCl (z25__t k_fz) s := hK.sub [13] rfl
      have hFc := pu_free hDc hS hA
      refine va_calli (va_runV (As := [.int (nI (u_16 + 1)), .int 0, .int y_21]) (rest := []) ⟨hx, hb, hml, hown, hts⟩ (c_E_7_narrow_25 l dC dI _ z zc zn k_fz g_3 (u_16 + 1) 0 y_21 hzn (by omega) (Nat.le_of_ble_eq_true rfl)) (cwV 3 hts g_E_0_narrowTo_25_E_7_narrow_25 rfl rfl rfl (by decide +kernel) ⟨Nat.le_of_ble_eq_true rfl, Nat.le_of_ble_eq_true rfl⟩) ⟨pu_bl, va_recv hK hP (ci := 7) (q0 := 14) rfl rfl, pu_in hPc hKc hDc⟩ rfl rfl hl.1 rfl (lv_room (Nat.le_of_ble_eq_true rfl)) eX0_narrowTo_78 ⟨Nat.le_of_ble_eq_true rfl, Nat.le_of_ble_eq_true rfl⟩) hS (fun q _ h => hFc q h) hFc (fun r_22 u t H1 locs ht hvm hw hB hz1 hk1 hS => ?_)
      obtain ⟨z_fz_23, ⟨hP1, -, hD1⟩, xr_22_0⟩ := hB
      rw [ht] at hP1
      obtain ⟨hP, hD⟩ := pj_a (X := (az25__w au (nI nc) (nI np) (nI ne) st0 q4 q5 q6 q7 q8 q9 q10 q11 q12 q13 q14 q15 q16 k_f4 f4 k_f5 (bN 7 q_f5) k_f6 (bN 7 q_f6) k_f7 f7 k_f8 (bN 4 q_f8) k_f9 (bN 2 q_f9) k_f10 f10 k_f11 f11 k_f12 f12 k_f13 f13 k_f14 f14 k_f15 f15 k_f16 f16 z zc (nI zn) k_fz g_3)) (X' := (az25__w au (nI nc) (nI np) (nI ne) st0 q4 q5 q6 q7 q8 q9 q10 q11 q12 q13 q14 q15 q16 k_f4 f4 k_f5 (bN 7 q_f5) k_f6 (bN 7 q_f6) k_f7 f7 k_f8 (bN 4 q_f8) k_f9 (bN 2 q_f9) k_f10 f10 k_f11 f11 k_f12 f12 k_f13 f13 k_f14 f14 k_f15 f15 k_f16 f16 z zc (nI zn) k_fz z_fz_23)) (wc := (z25__w z zc (nI zn) k_fz g_3)) (w1 := (z25__w z zc (nI zn) k_fz z_fz_23)) hP hD [14, 15] [2, 3, 4, 5, 6, 7, 8, 9, 10, 11, 12, 13, 14, 15, 0, 1] 2 rfl hk1 hP1 rfl rfl rfl (by decide)
      clear hP1 hD1 hFc hPc hDc hKc
      clear hk1 hz1 ht hvm
      generalize H1 = H at hP hS ⊢
      obtain ⟨u_24, hu_24, rfl, iu_24⟩ := hw
      have iu_24 : (u_24, z_fz_23) = (sp_E_7_narrow_25 zn g_3 (u_16 + 1) 0 y_21) := Prod.ext iu_24 xr_22_0
      have hsp := hsp.trans (slet_eq iu_24)
      refine lv_if_eq (tgt := 103) hx hb eX0_narrowTo_81 (by decide) (fun c_25 => ?_) (fun c_25 => ?_)
      · have c_25 : u_24 = 0 := (nI_eq (a := u_24) (b := 0) (Nat.lt_of_le_of_lt hu_24 (Nat.le_of_ble_eq_true rfl)) (Nat.le_of_ble_eq_true rfl)).mp c_25
        have hsp := hsp.trans (if_pos c_25)
        have hsp := hout_10 _ hsp
        refine lv_iconst (v := 0) hx hb eX0_narrowTo_103 (by decide) ?_
        exact W.zret (v := 0) (ty := .boolean) hx hb hr (rfl) (fun t ht hW => ⟨⟨0, (), rfl, ⟨0, (Nat.le_of_ble_eq_true rfl), rfl, (congrArg Prod.fst (hsp.symm.trans hRR))⟩, ⟨z_fz_23, ⟨by rw [ht]; exact hP, va_K.moved hW.alike hK, hD⟩, (congrArg Prod.snd (hsp.symm.trans hRR))⟩⟩, hS.F ht⟩) hS.2.2 eX0_narrowTo_104
      · have c_25 : ¬ u_24 = 0 := fun z => c_25 ((nI_eq (a := u_24) (b := 0) (Nat.lt_of_le_of_lt hu_24 (Nat.le_of_ble_eq_true rfl)) (Nat.le_of_ble_eq_true rfl)).mpr z)
        have hsp := hsp.trans (if_neg c_25)
        refine lv_aload_n hx hb eX0_narrowTo_84 rfl (lv_at hl 3 rfl) ?_
        refine lv_iconst (v := 0) hx hb eX0_narrowTo_85 (by decide) ?_
        refine lv_iload hx hb eX0_narrowTo_86 (lv_at hl 0 rfl) ?_
        refine lv_iconst (v := 1) hx hb eX0_narrowTo_88 (by decide) ?_
        refine lv_iadd hx hb eX0_narrowTo_89 ?_
        refine lv_topi (fun y_26 ey_26 => ?_)
        obtain rfl : y_26 = (nI (u_16 + 1)) := ey_26.trans (nI_add u_16 1)
        refine lv_aload_n hx hb eX0_narrowTo_90 rfl (lv_at hl 2 rfl) ?_
        refine va_get (D := (dC, dI)) (ci := 0) (v := .ref q13) (C := RX0) (T := TX0) (N := 17) hx hb hts hiX0 hown hK hP 0 rfl rfl 13 (by decide) v_13 (fun _ h9 => h9) rfl eX0_narrowTo_91 ?_
        refine lv_iload hx hb eX0_narrowTo_94 (lv_at hl 1 rfl) ?_
        refine va_iald hx hb hK hP 10 9 rfl rfl (vp_in_nI (n := (a1 * 4 + g_4)) (by omega) (Nat.le_of_ble_eq_true rfl)) eX0_narrowTo_96 ?_
        refine lv_topi (fun y_27 ey_27 => ?_)
        have ey_27 : y_27 = f13 (a1 * 4 + g_4) := ey_27.trans (congrArg f13 (nI_clamp (n := (a1 * 4 + g_4)) (by first | omega | exact Nat.lt_trans (zx16 (by omega) (by omega) (by omega)) (Nat.le_of_ble_eq_true rfl) | exact Nat.lt_trans (zy16 (by omega) (by omega)) (Nat.le_of_ble_eq_true rfl) | exact Nat.lt_trans (zx25 (by omega) (by omega) (by omega)) (Nat.le_of_ble_eq_true rfl) | exact Nat.lt_trans (zy25 (by omega) (by omega)) (Nat.le_of_ble_eq_true rfl))))
        have hsp := hsp.trans (slet_eq ey_27)
        have hPc : va_P (dC, dI) vwCl (z25__w z zc (nI zn) k_fz z_fz_23) _ := hP.sub [14, 15] rfl
        have hDc := hD.sub (ws' := (z25__w z zc (nI zn) k_fz z_fz_23)) [14, 15] (by decide) rfl
        have hKc : va_K (dC, dI) vwCl (z25__t k_fz) s := hK.sub [13] rfl
        have hFc := pu_free hDc hS hA
        refine va_calli (va_runV (As := [.int 0, .int (nI (u_16 + 1)), .int y_27]) (rest := []) ⟨hx, hb, hml, hown, hts⟩ (c_E_7_narrow_25 l dC dI _ z zc zn k_fz z_fz_23 0 (u_16 + 1) y_27 hzn (Nat.le_of_ble_eq_true rfl) (by omega)) (cwV 3 hts g_E_0_narrowTo_25_E_7_narrow_25 rfl rfl rfl (by decide +kernel) ⟨Nat.le_of_ble_eq_true rfl, Nat.le_of_ble_eq_true rfl⟩) ⟨pu_bl, va_recv hK hP (ci := 7) (q0 := 14) rfl rfl, pu_in hPc hKc hDc⟩ rfl rfl hl.1 rfl (lv_room (Nat.le_of_ble_eq_true rfl)) eX0_narrowTo_97 ⟨Nat.le_of_ble_eq_true rfl, Nat.le_of_ble_eq_true rfl⟩) hS (fun q _ h => hFc q h) hFc (fun r_28 u t H1 locs ht hvm hw hB hz1 hk1 hS => ?_)
        obtain ⟨z_fz_29, ⟨hP1, -, hD1⟩, xr_28_0⟩ := hB
        rw [ht] at hP1
        obtain ⟨hP, hD⟩ := pj_a (X := (az25__w au (nI nc) (nI np) (nI ne) st0 q4 q5 q6 q7 q8 q9 q10 q11 q12 q13 q14 q15 q16 k_f4 f4 k_f5 (bN 7 q_f5) k_f6 (bN 7 q_f6) k_f7 f7 k_f8 (bN 4 q_f8) k_f9 (bN 2 q_f9) k_f10 f10 k_f11 f11 k_f12 f12 k_f13 f13 k_f14 f14 k_f15 f15 k_f16 f16 z zc (nI zn) k_fz z_fz_23)) (X' := (az25__w au (nI nc) (nI np) (nI ne) st0 q4 q5 q6 q7 q8 q9 q10 q11 q12 q13 q14 q15 q16 k_f4 f4 k_f5 (bN 7 q_f5) k_f6 (bN 7 q_f6) k_f7 f7 k_f8 (bN 4 q_f8) k_f9 (bN 2 q_f9) k_f10 f10 k_f11 f11 k_f12 f12 k_f13 f13 k_f14 f14 k_f15 f15 k_f16 f16 z zc (nI zn) k_fz z_fz_29)) (wc := (z25__w z zc (nI zn) k_fz z_fz_23)) (w1 := (z25__w z zc (nI zn) k_fz z_fz_29)) hP hD [14, 15] [2, 3, 4, 5, 6, 7, 8, 9, 10, 11, 12, 13, 14, 15, 0, 1] 2 rfl hk1 hP1 rfl rfl rfl (by decide)
        clear hP1 hD1 hFc hPc hDc hKc
        clear hk1 hz1 ht hvm
        generalize H1 = H at hP hS ⊢
        obtain ⟨u_30, hu_30, rfl, iu_30⟩ := hw
        have iu_30 : (u_30, z_fz_29) = (sp_E_7_narrow_25 zn z_fz_23 0 (u_16 + 1) y_27) := Prod.ext iu_30 xr_28_0
        have hsp := hsp.trans (slet_eq iu_30)
        refine lv_if_ne (tgt := 105) hx hb eX0_narrowTo_100 (by decide) (fun c_31 => ?_) (fun c_31 => ?_)
        · have c_31 : ¬ u_30 = 0 := fun z => c_31 ((nI_eq (a := u_30) (b := 0) (Nat.lt_of_le_of_lt hu_30 (Nat.le_of_ble_eq_true rfl)) (Nat.le_of_ble_eq_true rfl)).mpr z)
          have hsp := hsp.trans (if_neg c_31)
          refine lv_iinc (v := (nI (g_4 + 1))) (lv' := [(4, .int (nI (g_4 + 1))), (6, .int (nI u_16)), (5, .int (nI (a1 * 4 + g_4))), (0, .ref au), (1, .ref z), (2, .int (nI a1)), (3, .int p2)]) hx hb eX0_narrowTo_105 hl (k := 6) rfl (nI_1 _) (by decide) rfl (fun ls hl => ?_)
          refine lv_goto (tgt := 3) hx hb eX0_narrowTo_108 (by decide) ?_
          exact ih_5 (4 - (g_4 + 1)) (by omega) _ _ _ ⟨z_fz_29, (g_4 + 1), rfl, (by omega), hin_9 _ hsp, hP, hD, hS, lv_sub hl [3, 4, 5, 6, 0] rfl⟩
        · have c_31 : u_30 = 0 := (nI_eq (a := u_30) (b := 0) (Nat.lt_of_le_of_lt hu_30 (Nat.le_of_ble_eq_true rfl)) (Nat.le_of_ble_eq_true rfl)).mp c_31
          have hsp := hsp.trans (if_pos c_31)
          have hsp := hout_10 _ hsp
          refine lv_iconst (v := 0) hx hb eX0_narrowTo_103 (by decide) ?_
          exact W.zret (v := 0) (ty := .boolean) hx hb hr (rfl) (fun t ht hW => ⟨⟨0, (), rfl, ⟨0, (Nat.le_of_ble_eq_true rfl), rfl, (congrArg Prod.fst (hsp.symm.trans hRR))⟩, ⟨z_fz_29, ⟨by rw [ht]; exact hP, va_K.moved hW.alike hK, hD⟩, (congrArg Prod.snd (hsp.symm.trans hRR))⟩⟩, hS.F ht⟩) hS.2.2 eX0_narrowTo_104
    · have hcc_19 := c_19
      have hsp := hsp.trans (if_pos c_19)
      refine lv_aload_n hx hb eX0_narrowTo_41 rfl (lv_at hl 2 rfl) ?_
      refine va_get (D := (dC, dI)) (ci := 0) (v := .ref q12) (C := RX0) (T := TX0) (N := 17) hx hb hts hiX0 hown hK hP 0 rfl rfl 12 (by decide) v_7 (fun _ h9 => h9) rfl eX0_narrowTo_42 ?_
      refine lv_iload hx hb eX0_narrowTo_45 (lv_at hl 1 rfl) ?_
      refine va_iald hx hb hK hP 9 8 rfl rfl (vp_in_nI (n := (a1 * 4 + g_4)) (by omega) (Nat.le_of_ble_eq_true rfl)) eX0_narrowTo_47 ?_
      refine lv_topi (fun y_32 ey_32 => ?_)
      have ey_32 : y_32 = f12 (a1 * 4 + g_4) := ey_32.trans (congrArg f12 (nI_clamp (n := (a1 * 4 + g_4)) (by first | omega | exact Nat.lt_trans (zx16 (by omega) (by omega) (by omega)) (Nat.le_of_ble_eq_true rfl) | exact Nat.lt_trans (zy16 (by omega) (by omega)) (Nat.le_of_ble_eq_true rfl) | exact Nat.lt_trans (zx25 (by omega) (by omega) (by omega)) (Nat.le_of_ble_eq_true rfl) | exact Nat.lt_trans (zy25 (by omega) (by omega)) (Nat.le_of_ble_eq_true rfl))))
      have hsp := hsp.trans (slet_eq ey_32)
      refine lv_iconst (v := 1) hx hb eX0_narrowTo_48 (by decide) ?_
      refine lv_icmp_lt (tgt := 63) hx hb eX0_narrowTo_49 (by decide) (fun c_33 => ?_) (fun c_33 => ?_)
      · have hcc_33 := c_33
        have hsp := hsp.trans (if_pos c_33)
        have hsp := hout_10 _ hsp
        refine lv_iconst (v := 0) hx hb eX0_narrowTo_63 (by decide) ?_
        exact W.zret (v := 0) (ty := .boolean) hx hb hr (rfl) (fun t ht hW => ⟨⟨0, (), rfl, ⟨0, (Nat.le_of_ble_eq_true rfl), rfl, (congrArg Prod.fst (hsp.symm.trans hRR))⟩, ⟨g_3, ⟨by rw [ht]; exact hP, va_K.moved hW.alike hK, hD⟩, (congrArg Prod.snd (hsp.symm.trans hRR))⟩⟩, hS.F ht⟩) hS.2.2 eX0_narrowTo_64
      · have hcc_33 := c_33
        have hsp := hsp.trans (if_neg c_33)
        refine lv_aload_n hx hb eX0_narrowTo_52 rfl (lv_at hl 2 rfl) ?_
        refine va_get (D := (dC, dI)) (ci := 0) (v := .ref q13) (C := RX0) (T := TX0) (N := 17) hx hb hts hiX0 hown hK hP 0 rfl rfl 13 (by decide) v_13 (fun _ h9 => h9) rfl eX0_narrowTo_53 ?_
        refine lv_iload hx hb eX0_narrowTo_56 (lv_at hl 1 rfl) ?_
        refine va_iald hx hb hK hP 10 9 rfl rfl (vp_in_nI (n := (a1 * 4 + g_4)) (by omega) (Nat.le_of_ble_eq_true rfl)) eX0_narrowTo_58 ?_
        refine lv_topi (fun y_34 ey_34 => ?_)
        have ey_34 : y_34 = f13 (a1 * 4 + g_4) := ey_34.trans (congrArg f13 (nI_clamp (n := (a1 * 4 + g_4)) (by first | omega | exact Nat.lt_trans (zx16 (by omega) (by omega) (by omega)) (Nat.le_of_ble_eq_true rfl) | exact Nat.lt_trans (zy16 (by omega) (by omega)) (Nat.le_of_ble_eq_true rfl) | exact Nat.lt_trans (zx25 (by omega) (by omega) (by omega)) (Nat.le_of_ble_eq_true rfl) | exact Nat.lt_trans (zy25 (by omega) (by omega)) (Nat.le_of_ble_eq_true rfl))))
        have hsp := hsp.trans (slet_eq ey_34)
        refine lv_iconst (v := 1) hx hb eX0_narrowTo_59 (by decide) ?_
        refine lv_icmp_ge (tgt := 105) hx hb eX0_narrowTo_60 (by decide) (fun c_35 => ?_) (fun c_35 => ?_)
        · have hcc_35 := c_35
          have hsp := hsp.trans (if_pos c_35)
          refine lv_iinc (v := (nI (g_4 + 1))) (lv' := [(4, .int (nI (g_4 + 1))), (6, .int (nI u_16)), (5, .int (nI (a1 * 4 + g_4))), (0, .ref au), (1, .ref z), (2, .int (nI a1)), (3, .int p2)]) hx hb eX0_narrowTo_105 hl (k := 6) rfl (nI_1 _) (by decide) rfl (fun ls hl => ?_)
          refine lv_goto (tgt := 3) hx hb eX0_narrowTo_108 (by decide) ?_
          exact ih_5 (4 - (g_4 + 1)) (by omega) _ _ _ ⟨g_3, (g_4 + 1), rfl, (by omega), hin_9 _ hsp, hP, hD, hS, lv_sub hl [3, 4, 5, 6, 0] rfl⟩
        · have hcc_35 := c_35
          have hsp := hsp.trans (if_neg c_35)
          have hsp := hout_10 _ hsp
          refine lv_iconst (v := 0) hx hb eX0_narrowTo_63 (by decide) ?_
          exact W.zret (v := 0) (ty := .boolean) hx hb hr (rfl) (fun t ht hW => ⟨⟨0, (), rfl, ⟨0, (Nat.le_of_ble_eq_true rfl), rfl, (congrArg Prod.fst (hsp.symm.trans hRR))⟩, ⟨g_3, ⟨by rw [ht]; exact hP, va_K.moved hW.alike hK, hD⟩, (congrArg Prod.snd (hsp.symm.trans hRR))⟩⟩, hS.F ht⟩) hS.2.2 eX0_narrowTo_64
abbrev vs_E_0_opensIn_25 : List Cond := .code yX0_opensIn cX0_opensIn 3 (some .boolean) :: CM
theorem g_E_0_opensIn_25_E_0_narrowTo_25 : GoodIn vs_E_0_opensIn_25 (wsV RX0 88 RX0 yX0_narrowTo vs_E_0_narrowTo_25) := cm_gV cm_51 cm_52 cm_53 cm_19 cm_41
theorem g_E_0_opensIn_25_E_0_hostOfPlace : GoodIn vs_E_0_opensIn_25 (va_wsS RX0 92 yX0_hostOfPlace vs_E_0_hostOfPlace) := cm_gS cm_54 cm_55 cm_19 cm_0
noncomputable def sp_E_0_opensIn_25 (q_f6 : Nat → Nat) (f7 : Nat → Int32) (q_f8 : Nat → Nat) (q_f9 : Nat → Nat) (f12 : Nat → Int32) (f13 : Nat → Int32) (zn : Nat) (fz : Nat → Int32) (a1 : Nat) : Nat × (Nat → Int32) := (slet (sp_E_0_narrowTo_25 q_f8 q_f9 f12 f13 zn fz a1 0) (fun (u_3, z_fz_2) => (if u_3 = 0 then (0, z_fz_2) else (slet (min (q_f6 a1) 7) (fun u_6 => (slet (f7 a1) (fun y_8 => (slet (sp_E_0_narrowTo_25 q_f8 q_f9 f12 f13 zn z_fz_2 (14 + u_6) y_8) (fun (u_11, z_fz_10) => (if u_11 = 0 then (0, z_fz_10) else (1, z_fz_10)))))))))))
set_option maxHeartbeats 4000000 in
set_option maxRecDepth 100000 in
theorem c_E_0_opensIn_25 (l : Launch) (dC : Nat → ClassId) (dI : Nat → Nat → Nat) (sz : Nat) (au : Nat) (nc : Nat) (np : Nat) (ne : Nat) (st0 : Int32) (q4 : Nat) (q5 : Nat) (q6 : Nat) (q7 : Nat) (q8 : Nat) (q9 : Nat) (q10 : Nat) (q11 : Nat) (q12 : Nat) (q13 : Nat) (q14 : Nat) (q15 : Nat) (q16 : Nat) (k_f4 : ClassId) (f4 : Nat → Int32) (k_f5 : ClassId) (q_f5 : Nat → Nat) (k_f6 : ClassId) (q_f6 : Nat → Nat) (k_f7 : ClassId) (f7 : Nat → Int32) (k_f8 : ClassId) (q_f8 : Nat → Nat) (k_f9 : ClassId) (q_f9 : Nat → Nat) (k_f10 : ClassId) (f10 : Nat → Int32) (k_f11 : ClassId) (f11 : Nat → Int32) (k_f12 : ClassId) (f12 : Nat → Int32) (k_f13 : ClassId) (f13 : Nat → Int32) (k_f14 : ClassId) (f14 : Nat → Int32) (k_f15 : ClassId) (f15 : Nat → Int32) (k_f16 : ClassId) (f16 : Nat → Int32) (z : Nat) (zc : Nat) (zn : Nat) (k_fz : ClassId) (fz : Nat → Int32) (a1 : Nat) (hnc : nc ≤ 3) (hnp : np ≤ 8) (hne : ne ≤ 14) (hst0 : pm1 7 st0) (hzn : zn ≤ 5) (ha1 : a1 ≤ 13) : Met l yX0_opensIn vs_E_0_opensIn_25 ({ frames := 2, cells := 0, slots := 0, locals := 55 }) (va_Pc [.ref au, .ref z, .int (nI a1)] (pu_B (dC, dI) (az25__w au (nI nc) (nI np) (nI ne) st0 q4 q5 q6 q7 q8 q9 q10 q11 q12 q13 q14 q15 q16 k_f4 f4 k_f5 (bN 7 q_f5) k_f6 (bN 7 q_f6) k_f7 f7 k_f8 (bN 4 q_f8) k_f9 (bN 2 q_f9) k_f10 f10 k_f11 f11 k_f12 f12 k_f13 f13 k_f14 f14 k_f15 f15 k_f16 f16 z zc (nI zn) k_fz fz) (az25__t k_f4 k_f5 k_f6 k_f7 k_f8 k_f9 k_f10 k_f11 k_f12 k_f13 k_f14 k_f15 k_f16 k_fz) sz)) (va_Qi (fun (r : Int32) (_ : Unit) => ∃ v : Nat, v ≤ 1 ∧ r = nI v ∧ v = (sp_E_0_opensIn_25 q_f6 f7 q_f8 q_f9 f12 f13 zn fz a1).1) (fun _ t => ∃ (z_fz : Nat → Int32), pu_E (dC, dI) (az25__w au (nI nc) (nI np) (nI ne) st0 q4 q5 q6 q7 q8 q9 q10 q11 q12 q13 q14 q15 q16 k_f4 f4 k_f5 (bN 7 q_f5) k_f6 (bN 7 q_f6) k_f7 f7 k_f8 (bN 4 q_f8) k_f9 (bN 2 q_f9) k_f10 f10 k_f11 f11 k_f12 f12 k_f13 f13 k_f14 f14 k_f15 f15 k_f16 f16 z zc (nI zn) k_fz z_fz) (az25__t k_f4 k_f5 k_f6 k_f7 k_f8 k_f9 k_f10 k_f11 k_f12 k_f13 k_f14 k_f15 k_f16 k_fz) (va_A ((az25__w au (nI nc) (nI np) (nI ne) st0 q4 q5 q6 q7 q8 q9 q10 q11 q12 q13 q14 q15 q16 k_f4 f4 k_f5 (bN 7 q_f5) k_f6 (bN 7 q_f6) k_f7 f7 k_f8 (bN 4 q_f8) k_f9 (bN 2 q_f9) k_f10 f10 k_f11 f11 k_f12 f12 k_f13 f13 k_f14 f14 k_f15 f15 k_f16 f16 z zc (nI zn) k_fz fz)) sz) t ∧ (z_fz = (sp_E_0_opensIn_25 q_f6 f7 q_f8 q_f9 f12 f13 zn fz a1).2)) (va_A ((az25__w au (nI nc) (nI np) (nI ne) st0 q4 q5 q6 q7 q8 q9 q10 q11 q12 q13 q14 q15 q16 k_f4 f4 k_f5 (bN 7 q_f5) k_f6 (bN 7 q_f6) k_f7 f7 k_f8 (bN 4 q_f8) k_f9 (bN 2 q_f9) k_f10 f10 k_f11 f11 k_f12 f12 k_f13 f13 k_f14 f14 k_f15 f15 k_f16 f16 z zc (nI zn) k_fz fz)) sz)) 0 0 (va_A ((az25__w au (nI nc) (nI np) (nI ne) st0 q4 q5 q6 q7 q8 q9 q10 q11 q12 q13 q14 q15 q16 k_f4 f4 k_f5 (bN 7 q_f5) k_f6 (bN 7 q_f6) k_f7 f7 k_f8 (bN 4 q_f8) k_f9 (bN 2 q_f9) k_f10 f10 k_f11 f11 k_f12 f12 k_f13 f13 k_f14 f14 k_f15 f15 k_f16 f16 z zc (nI zn) k_fz fz)) sz) := by
  refine Met.ofW (cc := cX0_opensIn) (maxL := 3) (ret := (some .boolean)) (by decide) rfl ?_
  intro p e s m args below meth c s₁ B hml hv
  obtain ⟨rfl, rfl, hP, hK, hD0⟩ := hv
  have hx := B.exec
  have hb := B.bytes
  have hr := B.returns
  have hts := atoms_spec (ws := vs_E_0_opensIn_25) B.pre
  have v_6 := hts (.fieldLink RX0 23 "ClockReach$Automaton" "targets" "[I") (List.mem_cons_of_mem _ cm_11)
  have v_10 := hts (.fieldLink RX0 26 "ClockReach$Automaton" "resets" "[I") (List.mem_cons_of_mem _ cm_12)
  have hown : s.vm.findClass RX0 = some m.cls := findClass_of_methodNamed B.named
  have hlocks := B.notSynchronized
  have hiX0 : ∀ w ∈ wsX00, w ∈ vs_E_0_opensIn_25 := fun _ h => List.mem_cons_of_mem _ (cm_X0 h)
  have hD := hD0.self (sz := s.heap.size)
  generalize hAe : va_A ((az25__w au (nI nc) (nI np) (nI ne) st0 q4 q5 q6 q7 q8 q9 q10 q11 q12 q13 q14 q15 q16 k_f4 f4 k_f5 (bN 7 q_f5) k_f6 (bN 7 q_f6) k_f7 f7 k_f8 (bN 4 q_f8) k_f9 (bN 2 q_f9) k_f10 f10 k_f11 f11 k_f12 f12 k_f13 f13 k_f14 f14 k_f15 f15 k_f16 f16 z zc (nI zn) k_fz fz)) s.heap.size = A at hD ⊢
  have hA : ∀ q : Nat, s.heap.size ≤ q → A q := fun q h => by rw [← hAe]; exact Or.inr h
  have hS : va_S A s.heap s.heap [] := va_S.rf
  have hl := lv_entry ([.ref au, .ref z, .int (nI a1)]) (n := 3) (Nat.le_of_ble_eq_true rfl)
  rw [lg_entry_eq]
  generalize (lg_sl ([.ref au, .ref z, .int (nI a1)]) ++ List.replicate (3 - (lg_sl ([.ref au, .ref z, .int (nI a1)])).length) Slot.unset).toArray = ls at hl ⊢
  have hl : lv_has ls 3 [(0, .ref au), (1, .ref z), (2, .int (nI a1))] := hl
  obtain ⟨RR, hRR⟩ : ∃ x, x = (sp_E_0_opensIn_25 q_f6 f7 q_f8 q_f9 f12 f13 zn fz a1) := ⟨_, rfl⟩
  have hsp := hRR
  refine lv_aload_n hx hb eX0_opensIn_0 rfl (lv_at hl 0 rfl) ?_
  refine lv_aload_n hx hb eX0_opensIn_1 rfl (lv_at hl 1 rfl) ?_
  refine lv_iload_n hx hb eX0_opensIn_2 rfl (lv_at hl 2 rfl) ?_
  refine lv_iconst (v := 0) hx hb eX0_opensIn_3 (by decide) ?_
  have hFc := pu_free hD hS hA
  refine va_calli (va_runV (As := [.ref z, .int (nI a1), .int 0]) (rest := []) ⟨hx, hb, hml, hown, hts⟩ (c_E_0_narrowTo_25 l dC dI _ au nc np ne st0 q4 q5 q6 q7 q8 q9 q10 q11 q12 q13 q14 q15 q16 k_f4 f4 k_f5 q_f5 k_f6 q_f6 k_f7 f7 k_f8 q_f8 k_f9 q_f9 k_f10 f10 k_f11 f11 k_f12 f12 k_f13 f13 k_f14 f14 k_f15 f15 k_f16 f16 z zc zn k_fz fz a1 0 hnc hnp hne (hst0) hzn (Nat.le_trans ha1 (Nat.le_of_ble_eq_true rfl))) (cwV 3 hts g_E_0_opensIn_25_E_0_narrowTo_25 rfl rfl rfl (by decide +kernel) ⟨Nat.le_of_ble_eq_true rfl, Nat.le_of_ble_eq_true rfl⟩) ⟨pu_bl, va_recv hK hP (ci := 0) (q0 := 0) rfl rfl, pu_in hP hK hD⟩ rfl rfl hl.1 rfl (lv_room (Nat.le_of_ble_eq_true rfl)) eX0_opensIn_4 ⟨Nat.le_of_ble_eq_true rfl, Nat.le_of_ble_eq_true rfl⟩) hS (fun q _ h => hFc q h) hFc (fun r_1 u t H1 locs ht hvm hw hB hz1 hk1 hS => ?_)
  obtain ⟨z_fz_2, ⟨hP1, -, hD1⟩, xr_1_0⟩ := hB
  rw [ht] at hP1
  have hP := hP1
  have hD := pu_all hFc hD1
  clear hP1 hD1 hFc
  clear hk1 hz1 ht hvm
  generalize H1 = H at hP hS ⊢
  obtain ⟨u_3, hu_3, rfl, iu_3⟩ := hw
  have iu_3 : (u_3, z_fz_2) = (sp_E_0_narrowTo_25 q_f8 q_f9 f12 f13 zn fz a1 0) := Prod.ext iu_3 xr_1_0
  have hsp := hsp.trans (slet_eq iu_3)
  refine lv_if_eq (tgt := 37) hx hb eX0_opensIn_7 (by decide) (fun c_4 => ?_) (fun c_4 => ?_)
  · have c_4 : u_3 = 0 := (nI_eq (a := u_3) (b := 0) (Nat.lt_of_le_of_lt hu_3 (Nat.le_of_ble_eq_true rfl)) (Nat.le_of_ble_eq_true rfl)).mp c_4
    have hsp := hsp.trans (if_pos c_4)
    refine lv_iconst (v := 0) hx hb eX0_opensIn_37 (by decide) ?_
    exact W.zret (v := 0) (ty := .boolean) hx hb hr (rfl) (fun t ht hW => ⟨⟨0, (), rfl, ⟨0, (Nat.le_of_ble_eq_true rfl), rfl, (congrArg Prod.fst (hsp.symm.trans hRR))⟩, ⟨z_fz_2, ⟨by rw [ht]; exact hP, va_K.moved hW.alike hK, hD⟩, (congrArg Prod.snd (hsp.symm.trans hRR))⟩⟩, hS.F ht⟩) hS.2.2 eX0_opensIn_38
  · have c_4 : ¬ u_3 = 0 := fun z => c_4 ((nI_eq (a := u_3) (b := 0) (Nat.lt_of_le_of_lt hu_3 (Nat.le_of_ble_eq_true rfl)) (Nat.le_of_ble_eq_true rfl)).mpr z)
    have hsp := hsp.trans (if_neg c_4)
    refine lv_aload_n hx hb eX0_opensIn_10 rfl (lv_at hl 0 rfl) ?_
    refine lv_aload_n hx hb eX0_opensIn_11 rfl (lv_at hl 1 rfl) ?_
    refine lv_aload_n hx hb eX0_opensIn_12 rfl (lv_at hl 0 rfl) ?_
    refine va_get (D := (dC, dI)) (ci := 0) (v := .ref q6) (C := RX0) (T := TX0) (N := 17) hx hb hts hiX0 hown hK hP 0 rfl rfl 6 (by decide) v_6 (fun _ h9 => h9) rfl eX0_opensIn_13 ?_
    refine lv_iload_n hx hb eX0_opensIn_16 rfl (lv_at hl 2 rfl) ?_
    refine va_iald hx hb hK hP 3 2 rfl rfl (vp_in_nI (n := a1) (Nat.lt_of_le_of_lt ha1 (Nat.le_of_ble_eq_true rfl)) (Nat.le_of_ble_eq_true rfl)) eX0_opensIn_17 ?_
    refine lv_topi (fun y_5 ey_5 => ?_)
    obtain ⟨u_6, hu_6, qu_6, xu_6⟩ := bN_getx 7 q_f6 (n := a1) (Nat.lt_of_le_of_lt ha1 (Nat.le_of_ble_eq_true rfl))
    obtain rfl : y_5 = nI u_6 := ey_5.trans qu_6
    have hsp := hsp.trans (slet_eq xu_6)
    refine va_calli (va_runS (As := [.int (nI u_6)]) (rest := [.ref z, .ref au]) ⟨hx, hb, hml, hown, hts⟩ (c_E_0_hostOfPlace l dC dI _ u_6 hu_6) (va_cwS 1 hts g_E_0_opensIn_25_E_0_hostOfPlace rfl rfl rfl (by decide +kernel) ⟨Nat.le_of_ble_eq_true rfl, Nat.le_of_ble_eq_true rfl⟩) ⟨pu_bl, pu_in (hP.sub [] rfl) (hK.sub [] rfl) (hD.sub [] (by decide) rfl)⟩ rfl rfl hl.1 rfl (lv_room (Nat.le_of_ble_eq_true rfl)) eX0_opensIn_18 ⟨Nat.le_of_ble_eq_true rfl, Nat.le_of_ble_eq_true rfl⟩) hS (fun q _ h => pu_fr hS hA q h) (pu_fr hS hA) (fun r_7 u t H1 locs ht hvm hw hB hz1 hk1 hS => ?_)
    have hP := pu_keep hP hk1
    clear hk1 hz1 ht hvm
    generalize H1 = H at hP hS ⊢
    obtain rfl : r_7 = nI (14 + u_6) := hw
    refine lv_aload_n hx hb eX0_opensIn_21 rfl (lv_at hl 0 rfl) ?_
    refine va_get (D := (dC, dI)) (ci := 0) (v := .ref q7) (C := RX0) (T := TX0) (N := 17) hx hb hts hiX0 hown hK hP 0 rfl rfl 7 (by decide) v_10 (fun _ h9 => h9) rfl eX0_opensIn_22 ?_
    refine lv_iload_n hx hb eX0_opensIn_25 rfl (lv_at hl 2 rfl) ?_
    refine va_iald hx hb hK hP 4 3 rfl rfl (vp_in_nI (n := a1) (Nat.lt_of_le_of_lt ha1 (Nat.le_of_ble_eq_true rfl)) (Nat.le_of_ble_eq_true rfl)) eX0_opensIn_26 ?_
    refine lv_topi (fun y_8 ey_8 => ?_)
    have ey_8 : y_8 = f7 a1 := ey_8.trans (congrArg f7 (nI_clamp (n := a1) (Nat.lt_of_le_of_lt ha1 (Nat.le_of_ble_eq_true rfl))))
    have hsp := hsp.trans (slet_eq ey_8)
    have hFc := pu_free hD hS hA
    refine va_calli (va_runV (As := [.ref z, .int (nI (14 + u_6)), .int y_8]) (rest := []) ⟨hx, hb, hml, hown, hts⟩ (c_E_0_narrowTo_25 l dC dI _ au nc np ne st0 q4 q5 q6 q7 q8 q9 q10 q11 q12 q13 q14 q15 q16 k_f4 f4 k_f5 q_f5 k_f6 q_f6 k_f7 f7 k_f8 q_f8 k_f9 q_f9 k_f10 f10 k_f11 f11 k_f12 f12 k_f13 f13 k_f14 f14 k_f15 f15 k_f16 f16 z zc zn k_fz z_fz_2 (14 + u_6) y_8 hnc hnp hne (hst0) hzn (by omega)) (cwV 3 hts g_E_0_opensIn_25_E_0_narrowTo_25 rfl rfl rfl (by decide +kernel) ⟨Nat.le_of_ble_eq_true rfl, Nat.le_of_ble_eq_true rfl⟩) ⟨pu_bl, va_recv hK hP (ci := 0) (q0 := 0) rfl rfl, pu_in hP hK hD⟩ rfl rfl hl.1 rfl (lv_room (Nat.le_of_ble_eq_true rfl)) eX0_opensIn_27 ⟨Nat.le_of_ble_eq_true rfl, Nat.le_of_ble_eq_true rfl⟩) hS (fun q _ h => hFc q h) hFc (fun r_9 u t H1 locs ht hvm hw hB hz1 hk1 hS => ?_)
    obtain ⟨z_fz_10, ⟨hP1, -, hD1⟩, xr_9_0⟩ := hB
    rw [ht] at hP1
    have hP := hP1
    have hD := pu_all hFc hD1
    clear hP1 hD1 hFc
    clear hk1 hz1 ht hvm
    generalize H1 = H at hP hS ⊢
    obtain ⟨u_11, hu_11, rfl, iu_11⟩ := hw
    have iu_11 : (u_11, z_fz_10) = (sp_E_0_narrowTo_25 q_f8 q_f9 f12 f13 zn z_fz_2 (14 + u_6) y_8) := Prod.ext iu_11 xr_9_0
    have hsp := hsp.trans (slet_eq iu_11)
    refine lv_if_eq (tgt := 37) hx hb eX0_opensIn_30 (by decide) (fun c_12 => ?_) (fun c_12 => ?_)
    · have c_12 : u_11 = 0 := (nI_eq (a := u_11) (b := 0) (Nat.lt_of_le_of_lt hu_11 (Nat.le_of_ble_eq_true rfl)) (Nat.le_of_ble_eq_true rfl)).mp c_12
      have hsp := hsp.trans (if_pos c_12)
      refine lv_iconst (v := 0) hx hb eX0_opensIn_37 (by decide) ?_
      exact W.zret (v := 0) (ty := .boolean) hx hb hr (rfl) (fun t ht hW => ⟨⟨0, (), rfl, ⟨0, (Nat.le_of_ble_eq_true rfl), rfl, (congrArg Prod.fst (hsp.symm.trans hRR))⟩, ⟨z_fz_10, ⟨by rw [ht]; exact hP, va_K.moved hW.alike hK, hD⟩, (congrArg Prod.snd (hsp.symm.trans hRR))⟩⟩, hS.F ht⟩) hS.2.2 eX0_opensIn_38
    · have c_12 : ¬ u_11 = 0 := fun z => c_12 ((nI_eq (a := u_11) (b := 0) (Nat.lt_of_le_of_lt hu_11 (Nat.le_of_ble_eq_true rfl)) (Nat.le_of_ble_eq_true rfl)).mpr z)
      have hsp := hsp.trans (if_neg c_12)
      refine lv_iconst (v := 1) hx hb eX0_opensIn_33 (by decide) ?_
      refine lv_goto (tgt := 38) hx hb eX0_opensIn_34 (by decide) ?_
      exact W.zret (v := 1) (ty := .boolean) hx hb hr (rfl) (fun t ht hW => ⟨⟨1, (), rfl, ⟨1, (Nat.le_of_ble_eq_true rfl), rfl, (congrArg Prod.fst (hsp.symm.trans hRR))⟩, ⟨z_fz_10, ⟨by rw [ht]; exact hP, va_K.moved hW.alike hK, hD⟩, (congrArg Prod.snd (hsp.symm.trans hRR))⟩⟩, hS.F ht⟩) hS.2.2 eX0_opensIn_38
abbrev vs_E_0_setBackIn_25 : List Cond := .code yX0_setBackIn cX0_setBackIn 4 none :: CM
theorem g_E_0_setBackIn_25_E_7_setBack_25 : GoodIn vs_E_0_setBackIn_25 (wsV RX0 96 RX7 yX7_setBack vs_E_7_setBack_25) := cm_gV cm_57 cm_58 cm_59 cm_45 cm_60
noncomputable def sp_E_0_setBackIn_25_L1 (nc : Nat) (f7 : Nat → Int32) (zn : Nat) (a1 : Nat) : ((Nat → Int32) × Nat) → ((Nat → Int32) × Nat) ⊕ ((Nat → Int32)) := fun (g_3, g_4) => (if nc ≤ g_4 then (Sum.inr g_3) else (slet (f7 a1) (fun y_12 => (slet ((y_12 : Int32) >>> (((nI g_4) : Int32) &&& 31)) (fun y_13 => (slet ((y_13 : Int32) &&& (1 : Int32)) (fun y_14 => (slet (α := (Nat → Int32)) (if (y_14 : Int32) = 1 then (slet (sp_E_7_setBack_25 zn g_3 (g_4 + 1)) (fun z_fz_22 => z_fz_22)) else g_3) (fun g_15 => (Sum.inl (g_15, (g_4 + 1))))))))))))
noncomputable def sp_E_0_setBackIn_25 (nc : Nat) (f7 : Nat → Int32) (zn : Nat) (fz : Nat → Int32) (a1 : Nat) : (Nat → Int32) := (itrv (α := (Nat → Int32) × Nat) (β := ((Nat → Int32))) default (sp_E_0_setBackIn_25_L1 nc f7 zn a1) (fz, 0))
set_option maxHeartbeats 4000000 in
set_option maxRecDepth 100000 in
theorem c_E_0_setBackIn_25 (l : Launch) (dC : Nat → ClassId) (dI : Nat → Nat → Nat) (sz : Nat) (au : Nat) (nc : Nat) (np : Nat) (ne : Nat) (st0 : Int32) (q4 : Nat) (q5 : Nat) (q6 : Nat) (q7 : Nat) (q8 : Nat) (q9 : Nat) (q10 : Nat) (q11 : Nat) (q12 : Nat) (q13 : Nat) (q14 : Nat) (q15 : Nat) (q16 : Nat) (k_f4 : ClassId) (f4 : Nat → Int32) (k_f5 : ClassId) (q_f5 : Nat → Nat) (k_f6 : ClassId) (q_f6 : Nat → Nat) (k_f7 : ClassId) (f7 : Nat → Int32) (k_f8 : ClassId) (q_f8 : Nat → Nat) (k_f9 : ClassId) (q_f9 : Nat → Nat) (k_f10 : ClassId) (f10 : Nat → Int32) (k_f11 : ClassId) (f11 : Nat → Int32) (k_f12 : ClassId) (f12 : Nat → Int32) (k_f13 : ClassId) (f13 : Nat → Int32) (k_f14 : ClassId) (f14 : Nat → Int32) (k_f15 : ClassId) (f15 : Nat → Int32) (k_f16 : ClassId) (f16 : Nat → Int32) (z : Nat) (zc : Nat) (zn : Nat) (k_fz : ClassId) (fz : Nat → Int32) (a1 : Nat) (hnc : nc ≤ 3) (hnp : np ≤ 8) (hne : ne ≤ 14) (hst0 : pm1 7 st0) (hzn : zn ≤ 5) (ha1 : a1 ≤ 13) : Met l yX0_setBackIn vs_E_0_setBackIn_25 ({ frames := 1, cells := 0, slots := 0, locals := 22 }) (va_Pc [.ref au, .ref z, .int (nI a1)] (pu_B (dC, dI) (az25__w au (nI nc) (nI np) (nI ne) st0 q4 q5 q6 q7 q8 q9 q10 q11 q12 q13 q14 q15 q16 k_f4 f4 k_f5 (bN 7 q_f5) k_f6 (bN 7 q_f6) k_f7 f7 k_f8 (bN 4 q_f8) k_f9 (bN 2 q_f9) k_f10 f10 k_f11 f11 k_f12 f12 k_f13 f13 k_f14 f14 k_f15 f15 k_f16 f16 z zc (nI zn) k_fz fz) (az25__t k_f4 k_f5 k_f6 k_f7 k_f8 k_f9 k_f10 k_f11 k_f12 k_f13 k_f14 k_f15 k_f16 k_fz) sz)) (va_Qv (fun (_ : Unit) => True) (fun _ t => ∃ (z_fz : Nat → Int32), pu_E (dC, dI) (az25__w au (nI nc) (nI np) (nI ne) st0 q4 q5 q6 q7 q8 q9 q10 q11 q12 q13 q14 q15 q16 k_f4 f4 k_f5 (bN 7 q_f5) k_f6 (bN 7 q_f6) k_f7 f7 k_f8 (bN 4 q_f8) k_f9 (bN 2 q_f9) k_f10 f10 k_f11 f11 k_f12 f12 k_f13 f13 k_f14 f14 k_f15 f15 k_f16 f16 z zc (nI zn) k_fz z_fz) (az25__t k_f4 k_f5 k_f6 k_f7 k_f8 k_f9 k_f10 k_f11 k_f12 k_f13 k_f14 k_f15 k_f16 k_fz) (va_A ((az25__w au (nI nc) (nI np) (nI ne) st0 q4 q5 q6 q7 q8 q9 q10 q11 q12 q13 q14 q15 q16 k_f4 f4 k_f5 (bN 7 q_f5) k_f6 (bN 7 q_f6) k_f7 f7 k_f8 (bN 4 q_f8) k_f9 (bN 2 q_f9) k_f10 f10 k_f11 f11 k_f12 f12 k_f13 f13 k_f14 f14 k_f15 f15 k_f16 f16 z zc (nI zn) k_fz fz)) sz) t ∧ (z_fz = (sp_E_0_setBackIn_25 nc f7 zn fz a1))) (va_A ((az25__w au (nI nc) (nI np) (nI ne) st0 q4 q5 q6 q7 q8 q9 q10 q11 q12 q13 q14 q15 q16 k_f4 f4 k_f5 (bN 7 q_f5) k_f6 (bN 7 q_f6) k_f7 f7 k_f8 (bN 4 q_f8) k_f9 (bN 2 q_f9) k_f10 f10 k_f11 f11 k_f12 f12 k_f13 f13 k_f14 f14 k_f15 f15 k_f16 f16 z zc (nI zn) k_fz fz)) sz)) 0 0 (va_A ((az25__w au (nI nc) (nI np) (nI ne) st0 q4 q5 q6 q7 q8 q9 q10 q11 q12 q13 q14 q15 q16 k_f4 f4 k_f5 (bN 7 q_f5) k_f6 (bN 7 q_f6) k_f7 f7 k_f8 (bN 4 q_f8) k_f9 (bN 2 q_f9) k_f10 f10 k_f11 f11 k_f12 f12 k_f13 f13 k_f14 f14 k_f15 f15 k_f16 f16 z zc (nI zn) k_fz fz)) sz) := by
  refine Met.ofW (cc := cX0_setBackIn) (maxL := 4) (ret := none) (by decide) rfl ?_
  intro p e s m args below meth c s₁ B hml hv
  obtain ⟨rfl, rfl, hP, hK, hD0⟩ := hv
  have hx := B.exec
  have hb := B.bytes
  have hr := B.returns
  have hts := atoms_spec (ws := vs_E_0_setBackIn_25) B.pre
  have v_1 := hts (.fieldLink RX0 56 "ClockReach$Automaton" "clocks" "I") (List.mem_cons_of_mem _ cm_3)
  have v_2 := hts (.fieldLink RX0 26 "ClockReach$Automaton" "resets" "[I") (List.mem_cons_of_mem _ cm_12)
  have hown : s.vm.findClass RX0 = some m.cls := findClass_of_methodNamed B.named
  have hlocks := B.notSynchronized
  have hiX0 : ∀ w ∈ wsX00, w ∈ vs_E_0_setBackIn_25 := fun _ h => List.mem_cons_of_mem _ (cm_X0 h)
  have hD := hD0.self (sz := s.heap.size)
  generalize hAe : va_A ((az25__w au (nI nc) (nI np) (nI ne) st0 q4 q5 q6 q7 q8 q9 q10 q11 q12 q13 q14 q15 q16 k_f4 f4 k_f5 (bN 7 q_f5) k_f6 (bN 7 q_f6) k_f7 f7 k_f8 (bN 4 q_f8) k_f9 (bN 2 q_f9) k_f10 f10 k_f11 f11 k_f12 f12 k_f13 f13 k_f14 f14 k_f15 f15 k_f16 f16 z zc (nI zn) k_fz fz)) s.heap.size = A at hD ⊢
  have hA : ∀ q : Nat, s.heap.size ≤ q → A q := fun q h => by rw [← hAe]; exact Or.inr h
  have hS : va_S A s.heap s.heap [] := va_S.rf
  have hl := lv_entry ([.ref au, .ref z, .int (nI a1)]) (n := 4) (Nat.le_of_ble_eq_true rfl)
  rw [lg_entry_eq]
  generalize (lg_sl ([.ref au, .ref z, .int (nI a1)]) ++ List.replicate (4 - (lg_sl ([.ref au, .ref z, .int (nI a1)])).length) Slot.unset).toArray = ls at hl ⊢
  have hl : lv_has ls 4 [(0, .ref au), (1, .ref z), (2, .int (nI a1))] := hl
  obtain ⟨RR, hRR⟩ : ∃ x, x = (sp_E_0_setBackIn_25 nc f7 zn fz a1) := ⟨_, rfl⟩
  have hsp := hRR
  refine lv_iconst (v := 0) hx hb eX0_setBackIn_0 (by decide) ?_
  refine lv_istore_n (lv' := [(3, .int 0), (0, .ref au), (1, .ref z), (2, .int (nI a1))]) hx hb eX0_setBackIn_1 rfl hl (by decide) rfl (fun ls hl => ?_)
  obtain ⟨lf_6, dlf_6, hlf_6, hsp⟩ := itr_ex hsp
  delta sp_E_0_setBackIn_25_L1 at hlf_6
  refine pu_while (fun nn H locs ls => ∃ (g_3 : Nat → Int32) (g_4 : Nat), nn = 3 - g_4 ∧ g_4 ≤ 3 ∧ RR = itrv dlf_6 lf_6 (g_3, g_4) ∧ va_P (dC, dI) vwCl (az25__w au (nI nc) (nI np) (nI ne) st0 q4 q5 q6 q7 q8 q9 q10 q11 q12 q13 q14 q15 q16 k_f4 f4 k_f5 (bN 7 q_f5) k_f6 (bN 7 q_f6) k_f7 f7 k_f8 (bN 4 q_f8) k_f9 (bN 2 q_f9) k_f10 f10 k_f11 f11 k_f12 f12 k_f13 f13 k_f14 f14 k_f15 f15 k_f16 f16 z zc (nI zn) k_fz g_3) H ∧ va_D A (az25__w au (nI nc) (nI np) (nI ne) st0 q4 q5 q6 q7 q8 q9 q10 q11 q12 q13 q14 q15 q16 k_f4 f4 k_f5 (bN 7 q_f5) k_f6 (bN 7 q_f6) k_f7 f7 k_f8 (bN 4 q_f8) k_f9 (bN 2 q_f9) k_f10 f10 k_f11 f11 k_f12 f12 k_f13 f13 k_f14 f14 k_f15 f15 k_f16 f16 z zc (nI zn) k_fz g_3) ∧ va_S A s.heap H locs ∧ lv_has ls 4 [(0, .ref au), (1, .ref z), (2, .int (nI a1)), (3, .int (nI g_4))]) 2 ?_ _ _ _ _ ⟨fz, 0, rfl, (Nat.le_of_ble_eq_true rfl), hsp, hP, hD, hS, lv_sub hl [1, 2, 3, 0] rfl⟩
  rintro nn ih_5 H locs ls ⟨g_3, g_4, rfl, hg_4, he_8, hP, hD, hS, hl⟩
  obtain ⟨S_7, hsp, hin_9, hout_10⟩ := itr_step hlf_6 he_8
  refine lv_iload_n hx hb eX0_setBackIn_2 rfl (lv_at hl 3 rfl) ?_
  refine lv_aload_n hx hb eX0_setBackIn_3 rfl (lv_at hl 0 rfl) ?_
  refine va_get (D := (dC, dI)) (ci := 0) (v := .int (nI nc)) (C := RX0) (T := TX0) (N := 17) hx hb hts hiX0 hown hK hP 0 rfl rfl 0 (by decide) v_1 (fun _ h9 => h9) rfl eX0_setBackIn_4 ?_
  refine lv_icmp_ge (tgt := 37) hx hb eX0_setBackIn_7 (by decide) (fun c_11 => ?_) (fun c_11 => ?_)
  · have c_11 : nc ≤ g_4 := (nI_leI (a := nc) (b := g_4) (Nat.lt_of_le_of_lt hnc (Nat.le_of_ble_eq_true rfl)) (Nat.lt_of_le_of_lt hg_4 (Nat.le_of_ble_eq_true rfl))).mp c_11
    have hsp := hsp.trans (if_pos c_11)
    have hsp := hout_10 _ hsp
    exact W.vret hx hb hr (fun t ht hW => ⟨⟨(), rfl, trivial, ⟨g_3, ⟨by rw [ht]; exact hP, va_K.moved hW.alike hK, hD⟩, (hsp.symm.trans hRR)⟩⟩, hS.F ht⟩) hS.2.2 eX0_setBackIn_37
  · have c_11 : ¬ nc ≤ g_4 := fun z => c_11 ((nI_leI (a := nc) (b := g_4) (Nat.lt_of_le_of_lt hnc (Nat.le_of_ble_eq_true rfl)) (Nat.lt_of_le_of_lt hg_4 (Nat.le_of_ble_eq_true rfl))).mpr z)
    have hsp := hsp.trans (if_neg c_11)
    refine lv_aload_n hx hb eX0_setBackIn_10 rfl (lv_at hl 0 rfl) ?_
    refine va_get (D := (dC, dI)) (ci := 0) (v := .ref q7) (C := RX0) (T := TX0) (N := 17) hx hb hts hiX0 hown hK hP 0 rfl rfl 7 (by decide) v_2 (fun _ h9 => h9) rfl eX0_setBackIn_11 ?_
    refine lv_iload_n hx hb eX0_setBackIn_14 rfl (lv_at hl 2 rfl) ?_
    refine va_iald hx hb hK hP 4 3 rfl rfl (vp_in_nI (n := a1) (Nat.lt_of_le_of_lt ha1 (Nat.le_of_ble_eq_true rfl)) (Nat.le_of_ble_eq_true rfl)) eX0_setBackIn_15 ?_
    refine lv_topi (fun y_12 ey_12 => ?_)
    have ey_12 : y_12 = f7 a1 := ey_12.trans (congrArg f7 (nI_clamp (n := a1) (Nat.lt_of_le_of_lt ha1 (Nat.le_of_ble_eq_true rfl))))
    have hsp := hsp.trans (slet_eq ey_12)
    refine lv_iload_n hx hb eX0_setBackIn_16 rfl (lv_at hl 3 rfl) ?_
    refine lv_ishr hx hb eX0_setBackIn_17 ?_
    refine lv_topi (fun y_13 ey_13 => ?_)
    have hsp := hsp.trans (slet_eq ey_13)
    refine lv_iconst (v := 1) hx hb eX0_setBackIn_18 (by decide) ?_
    refine lv_iand hx hb eX0_setBackIn_19 ?_
    refine lv_topi (fun y_14 ey_14 => ?_)
    have hsp := hsp.trans (slet_eq ey_14)
    refine lv_iconst (v := 1) hx hb eX0_setBackIn_20 (by decide) ?_
    obtain ⟨JR_17, hJR_17, hsp⟩ := slet_ex hsp
    refine pu_join (fun H locs ls st => ∃ (g_15 : Nat → Int32), st = [] ∧ g_15 = JR_17 ∧ va_P (dC, dI) vwCl (az25__w au (nI nc) (nI np) (nI ne) st0 q4 q5 q6 q7 q8 q9 q10 q11 q12 q13 q14 q15 q16 k_f4 f4 k_f5 (bN 7 q_f5) k_f6 (bN 7 q_f6) k_f7 f7 k_f8 (bN 4 q_f8) k_f9 (bN 2 q_f9) k_f10 f10 k_f11 f11 k_f12 f12 k_f13 f13 k_f14 f14 k_f15 f15 k_f16 f16 z zc (nI zn) k_fz g_15) H ∧ va_D A (az25__w au (nI nc) (nI np) (nI ne) st0 q4 q5 q6 q7 q8 q9 q10 q11 q12 q13 q14 q15 q16 k_f4 f4 k_f5 (bN 7 q_f5) k_f6 (bN 7 q_f6) k_f7 f7 k_f8 (bN 4 q_f8) k_f9 (bN 2 q_f9) k_f10 f10 k_f11 f11 k_f12 f12 k_f13 f13 k_f14 f14 k_f15 f15 k_f16 f16 z zc (nI zn) k_fz g_15) ∧ va_S A s.heap H locs ∧ lv_has ls 4 [(0, .ref au), (1, .ref z), (2, .int (nI a1)), (3, .int (nI g_4))]) 31 ?_ (fun j_16 => ?_)
    · rintro H locs ls st ⟨g_15, rfl, he_18, hP, hD, hS, hl⟩
      rw [← he_18] at hsp
      refine lv_iinc (v := (nI (g_4 + 1))) (lv' := [(3, .int (nI (g_4 + 1))), (0, .ref au), (1, .ref z), (2, .int (nI a1))]) hx hb eX0_setBackIn_31 hl (k := 3) rfl (nI_1 _) (by decide) rfl (fun ls hl => ?_)
      refine lv_goto (tgt := 2) hx hb eX0_setBackIn_34 (by decide) ?_
      exact ih_5 (3 - (g_4 + 1)) (by omega) _ _ _ ⟨g_15, (g_4 + 1), rfl, (by omega), hin_9 _ hsp, hP, hD, hS, lv_sub hl [1, 2, 3, 0] rfl⟩
    have hsp := hJR_17
    refine lv_icmp_ne (tgt := 31) hx hb eX0_setBackIn_21 (by decide) (fun c_19 => ?_) (fun c_19 => ?_)
    · have hcc_19 := c_19
      have hsp := hsp.trans (if_neg c_19)
      exact j_16 _ _ _ _ ⟨g_3, rfl, hsp.symm, hP, hD, hS, lv_sub hl [0, 1, 2, 3] rfl⟩
    · have hcc_19 := c_19
      have hsp := hsp.trans (if_pos c_19)
      refine lv_aload_n hx hb eX0_setBackIn_24 rfl (lv_at hl 1 rfl) ?_
      refine lv_iload_n hx hb eX0_setBackIn_25 rfl (lv_at hl 3 rfl) ?_
      refine lv_iconst (v := 1) hx hb eX0_setBackIn_26 (by decide) ?_
      refine lv_iadd hx hb eX0_setBackIn_27 ?_
      refine lv_topi (fun y_20 ey_20 => ?_)
      obtain rfl : y_20 = (nI (g_4 + 1)) := ey_20.trans (nI_add g_4 1)
      have hPc : va_P (dC, dI) vwCl (z25__w z zc (nI zn) k_fz g_3) _ := hP.sub [14, 15] rfl
      have hDc := hD.sub (ws' := (z25__w z zc (nI zn) k_fz g_3)) [14, 15] (by decide) rfl
      have hKc : va_K (dC, dI) vwCl (z25__t k_fz) s := hK.sub [13] rfl
      have hFc := pu_free hDc hS hA
      refine va_callv (va_runV (As := [.int (nI (g_4 + 1))]) (rest := []) ⟨hx, hb, hml, hown, hts⟩ (c_E_7_setBack_25 l dC dI _ z zc zn k_fz g_3 (g_4 + 1) hzn (by omega)) (cwV 1 hts g_E_0_setBackIn_25_E_7_setBack_25 rfl rfl rfl (by decide +kernel) ⟨Nat.le_of_ble_eq_true rfl, Nat.le_of_ble_eq_true rfl⟩) ⟨pu_bl, va_recv hK hP (ci := 7) (q0 := 14) rfl rfl, pu_in hPc hKc hDc⟩ rfl rfl hl.1 rfl (lv_room (Nat.le_of_ble_eq_true rfl)) eX0_setBackIn_28 ⟨Nat.le_of_ble_eq_true rfl, Nat.le_of_ble_eq_true rfl⟩) hS (fun q _ h => hFc q h) hFc (fun u t H1 locs ht hvm hw hB hz1 hk1 hS => ?_)
      obtain ⟨z_fz_22, ⟨hP1, -, hD1⟩, xr_21_0⟩ := hB
      rw [ht] at hP1
      obtain ⟨hP, hD⟩ := pj_a (X := (az25__w au (nI nc) (nI np) (nI ne) st0 q4 q5 q6 q7 q8 q9 q10 q11 q12 q13 q14 q15 q16 k_f4 f4 k_f5 (bN 7 q_f5) k_f6 (bN 7 q_f6) k_f7 f7 k_f8 (bN 4 q_f8) k_f9 (bN 2 q_f9) k_f10 f10 k_f11 f11 k_f12 f12 k_f13 f13 k_f14 f14 k_f15 f15 k_f16 f16 z zc (nI zn) k_fz g_3)) (X' := (az25__w au (nI nc) (nI np) (nI ne) st0 q4 q5 q6 q7 q8 q9 q10 q11 q12 q13 q14 q15 q16 k_f4 f4 k_f5 (bN 7 q_f5) k_f6 (bN 7 q_f6) k_f7 f7 k_f8 (bN 4 q_f8) k_f9 (bN 2 q_f9) k_f10 f10 k_f11 f11 k_f12 f12 k_f13 f13 k_f14 f14 k_f15 f15 k_f16 f16 z zc (nI zn) k_fz z_fz_22)) (wc := (z25__w z zc (nI zn) k_fz g_3)) (w1 := (z25__w z zc (nI zn) k_fz z_fz_22)) hP hD [14, 15] [2, 3, 4, 5, 6, 7, 8, 9, 10, 11, 12, 13, 14, 15, 0, 1] 2 rfl hk1 hP1 rfl rfl rfl (by decide)
      clear hP1 hD1 hFc hPc hDc hKc
      clear hk1 hz1 ht hvm
      generalize H1 = H at hP hS ⊢
      have hsp := hsp.trans (slet_eq xr_21_0)
      exact j_16 _ _ _ _ ⟨z_fz_22, rfl, hsp.symm, hP, hD, hS, lv_sub hl [0, 1, 2, 3] rfl⟩
abbrev vs_E_0_stayIn_25 : List Cond := .code yX0_stayIn cX0_stayIn 3 none :: CM
theorem g_E_0_stayIn_25_E_7_delay_25 : GoodIn vs_E_0_stayIn_25 (wsV RX0 99 RX7 yX7_delay vs_E_7_delay_25) := cm_gV cm_62 cm_63 cm_64 cm_45 cm_65
theorem g_E_0_stayIn_25_E_0_hostOfPlace : GoodIn vs_E_0_stayIn_25 (va_wsS RX0 92 yX0_hostOfPlace vs_E_0_hostOfPlace) := cm_gS cm_54 cm_55 cm_19 cm_0
theorem g_E_0_stayIn_25_E_0_narrowTo_25 : GoodIn vs_E_0_stayIn_25 (wsV RX0 88 RX0 yX0_narrowTo vs_E_0_narrowTo_25) := cm_gV cm_51 cm_52 cm_53 cm_19 cm_41
noncomputable def sp_E_0_stayIn_25 (f4 : Nat → Int32) (q_f8 : Nat → Nat) (q_f9 : Nat → Nat) (f12 : Nat → Int32) (f13 : Nat → Int32) (zn : Nat) (fz : Nat → Int32) (a1 : Nat) : (Nat → Int32) := (slet (f4 a1) (fun y_1 => (if (y_1 : Int32) = 0 then (slet (sp_E_7_delay_25 zn fz) (fun z_fz_4 => (slet (sp_E_0_narrowTo_25 q_f8 q_f9 f12 f13 zn z_fz_4 (14 + a1) 0) (fun (u_8, z_fz_7) => z_fz_7)))) else fz)))
set_option maxHeartbeats 4000000 in
set_option maxRecDepth 100000 in
theorem c_E_0_stayIn_25 (l : Launch) (dC : Nat → ClassId) (dI : Nat → Nat → Nat) (sz : Nat) (au : Nat) (nc : Nat) (np : Nat) (ne : Nat) (st0 : Int32) (q4 : Nat) (q5 : Nat) (q6 : Nat) (q7 : Nat) (q8 : Nat) (q9 : Nat) (q10 : Nat) (q11 : Nat) (q12 : Nat) (q13 : Nat) (q14 : Nat) (q15 : Nat) (q16 : Nat) (k_f4 : ClassId) (f4 : Nat → Int32) (k_f5 : ClassId) (q_f5 : Nat → Nat) (k_f6 : ClassId) (q_f6 : Nat → Nat) (k_f7 : ClassId) (f7 : Nat → Int32) (k_f8 : ClassId) (q_f8 : Nat → Nat) (k_f9 : ClassId) (q_f9 : Nat → Nat) (k_f10 : ClassId) (f10 : Nat → Int32) (k_f11 : ClassId) (f11 : Nat → Int32) (k_f12 : ClassId) (f12 : Nat → Int32) (k_f13 : ClassId) (f13 : Nat → Int32) (k_f14 : ClassId) (f14 : Nat → Int32) (k_f15 : ClassId) (f15 : Nat → Int32) (k_f16 : ClassId) (f16 : Nat → Int32) (z : Nat) (zc : Nat) (zn : Nat) (k_fz : ClassId) (fz : Nat → Int32) (a1 : Nat) (hnc : nc ≤ 3) (hnp : np ≤ 8) (hne : ne ≤ 14) (hst0 : pm1 7 st0) (hzn : zn ≤ 5) (ha1 : a1 ≤ 7) : Met l yX0_stayIn vs_E_0_stayIn_25 ({ frames := 2, cells := 0, slots := 0, locals := 55 }) (va_Pc [.ref au, .ref z, .int (nI a1)] (pu_B (dC, dI) (az25__w au (nI nc) (nI np) (nI ne) st0 q4 q5 q6 q7 q8 q9 q10 q11 q12 q13 q14 q15 q16 k_f4 f4 k_f5 (bN 7 q_f5) k_f6 (bN 7 q_f6) k_f7 f7 k_f8 (bN 4 q_f8) k_f9 (bN 2 q_f9) k_f10 f10 k_f11 f11 k_f12 f12 k_f13 f13 k_f14 f14 k_f15 f15 k_f16 f16 z zc (nI zn) k_fz fz) (az25__t k_f4 k_f5 k_f6 k_f7 k_f8 k_f9 k_f10 k_f11 k_f12 k_f13 k_f14 k_f15 k_f16 k_fz) sz)) (va_Qv (fun (_ : Unit) => True) (fun _ t => ∃ (z_fz : Nat → Int32), pu_E (dC, dI) (az25__w au (nI nc) (nI np) (nI ne) st0 q4 q5 q6 q7 q8 q9 q10 q11 q12 q13 q14 q15 q16 k_f4 f4 k_f5 (bN 7 q_f5) k_f6 (bN 7 q_f6) k_f7 f7 k_f8 (bN 4 q_f8) k_f9 (bN 2 q_f9) k_f10 f10 k_f11 f11 k_f12 f12 k_f13 f13 k_f14 f14 k_f15 f15 k_f16 f16 z zc (nI zn) k_fz z_fz) (az25__t k_f4 k_f5 k_f6 k_f7 k_f8 k_f9 k_f10 k_f11 k_f12 k_f13 k_f14 k_f15 k_f16 k_fz) (va_A ((az25__w au (nI nc) (nI np) (nI ne) st0 q4 q5 q6 q7 q8 q9 q10 q11 q12 q13 q14 q15 q16 k_f4 f4 k_f5 (bN 7 q_f5) k_f6 (bN 7 q_f6) k_f7 f7 k_f8 (bN 4 q_f8) k_f9 (bN 2 q_f9) k_f10 f10 k_f11 f11 k_f12 f12 k_f13 f13 k_f14 f14 k_f15 f15 k_f16 f16 z zc (nI zn) k_fz fz)) sz) t ∧ (z_fz = (sp_E_0_stayIn_25 f4 q_f8 q_f9 f12 f13 zn fz a1))) (va_A ((az25__w au (nI nc) (nI np) (nI ne) st0 q4 q5 q6 q7 q8 q9 q10 q11 q12 q13 q14 q15 q16 k_f4 f4 k_f5 (bN 7 q_f5) k_f6 (bN 7 q_f6) k_f7 f7 k_f8 (bN 4 q_f8) k_f9 (bN 2 q_f9) k_f10 f10 k_f11 f11 k_f12 f12 k_f13 f13 k_f14 f14 k_f15 f15 k_f16 f16 z zc (nI zn) k_fz fz)) sz)) 0 0 (va_A ((az25__w au (nI nc) (nI np) (nI ne) st0 q4 q5 q6 q7 q8 q9 q10 q11 q12 q13 q14 q15 q16 k_f4 f4 k_f5 (bN 7 q_f5) k_f6 (bN 7 q_f6) k_f7 f7 k_f8 (bN 4 q_f8) k_f9 (bN 2 q_f9) k_f10 f10 k_f11 f11 k_f12 f12 k_f13 f13 k_f14 f14 k_f15 f15 k_f16 f16 z zc (nI zn) k_fz fz)) sz) := by
  refine Met.ofW (cc := cX0_stayIn) (maxL := 3) (ret := none) (by decide) rfl ?_
  intro p e s m args below meth c s₁ B hml hv
  obtain ⟨rfl, rfl, hP, hK, hD0⟩ := hv
  have hx := B.exec
  have hb := B.bytes
  have hr := B.returns
  have hts := atoms_spec (ws := vs_E_0_stayIn_25) B.pre
  have v_1 := hts (.fieldLink RX0 15 "ClockReach$Automaton" "hurried" "[Z") (List.mem_cons_of_mem _ cm_7)
  have hown : s.vm.findClass RX0 = some m.cls := findClass_of_methodNamed B.named
  have hlocks := B.notSynchronized
  have hiX0 : ∀ w ∈ wsX00, w ∈ vs_E_0_stayIn_25 := fun _ h => List.mem_cons_of_mem _ (cm_X0 h)
  have hD := hD0.self (sz := s.heap.size)
  generalize hAe : va_A ((az25__w au (nI nc) (nI np) (nI ne) st0 q4 q5 q6 q7 q8 q9 q10 q11 q12 q13 q14 q15 q16 k_f4 f4 k_f5 (bN 7 q_f5) k_f6 (bN 7 q_f6) k_f7 f7 k_f8 (bN 4 q_f8) k_f9 (bN 2 q_f9) k_f10 f10 k_f11 f11 k_f12 f12 k_f13 f13 k_f14 f14 k_f15 f15 k_f16 f16 z zc (nI zn) k_fz fz)) s.heap.size = A at hD ⊢
  have hA : ∀ q : Nat, s.heap.size ≤ q → A q := fun q h => by rw [← hAe]; exact Or.inr h
  have hS : va_S A s.heap s.heap [] := va_S.rf
  have hl := lv_entry ([.ref au, .ref z, .int (nI a1)]) (n := 3) (Nat.le_of_ble_eq_true rfl)
  rw [lg_entry_eq]
  generalize (lg_sl ([.ref au, .ref z, .int (nI a1)]) ++ List.replicate (3 - (lg_sl ([.ref au, .ref z, .int (nI a1)])).length) Slot.unset).toArray = ls at hl ⊢
  have hl : lv_has ls 3 [(0, .ref au), (1, .ref z), (2, .int (nI a1))] := hl
  obtain ⟨RR, hRR⟩ : ∃ x, x = (sp_E_0_stayIn_25 f4 q_f8 q_f9 f12 f13 zn fz a1) := ⟨_, rfl⟩
  have hsp := hRR
  refine lv_aload_n hx hb eX0_stayIn_0 rfl (lv_at hl 0 rfl) ?_
  refine va_get (D := (dC, dI)) (ci := 0) (v := .ref q4) (C := RX0) (T := TX0) (N := 17) hx hb hts hiX0 hown hK hP 0 rfl rfl 4 (by decide) v_1 (fun _ h9 => h9) rfl eX0_stayIn_1 ?_
  refine lv_iload_n hx hb eX0_stayIn_4 rfl (lv_at hl 2 rfl) ?_
  refine va_zald hx hb hK hP 1 0 rfl rfl (vp_in_nI (n := a1) (Nat.lt_of_le_of_lt ha1 (Nat.le_of_ble_eq_true rfl)) (Nat.le_of_ble_eq_true rfl)) eX0_stayIn_5 ?_
  refine lv_topi (fun y_1 ey_1 => ?_)
  have ey_1 : y_1 = f4 a1 := ey_1.trans (congrArg f4 (nI_clamp (n := a1) (Nat.lt_of_le_of_lt ha1 (Nat.le_of_ble_eq_true rfl))))
  have hsp := hsp.trans (slet_eq ey_1)
  refine lv_if_ne (tgt := 24) hx hb eX0_stayIn_6 (by decide) (fun c_2 => ?_) (fun c_2 => ?_)
  · have hcc_2 := c_2
    have hsp := hsp.trans (if_neg c_2)
    exact W.vret hx hb hr (fun t ht hW => ⟨⟨(), rfl, trivial, ⟨fz, ⟨by rw [ht]; exact hP, va_K.moved hW.alike hK, hD⟩, (hsp.symm.trans hRR)⟩⟩, hS.F ht⟩) hS.2.2 eX0_stayIn_24
  · have hcc_2 := c_2
    have hsp := hsp.trans (if_pos c_2)
    refine lv_aload_n hx hb eX0_stayIn_9 rfl (lv_at hl 1 rfl) ?_
    have hPc : va_P (dC, dI) vwCl (z25__w z zc (nI zn) k_fz fz) _ := hP.sub [14, 15] rfl
    have hDc := hD.sub (ws' := (z25__w z zc (nI zn) k_fz fz)) [14, 15] (by decide) rfl
    have hKc : va_K (dC, dI) vwCl (z25__t k_fz) s := hK.sub [13] rfl
    have hFc := pu_free hDc hS hA
    refine va_callv (va_runV (As := []) (rest := []) ⟨hx, hb, hml, hown, hts⟩ (c_E_7_delay_25 l dC dI _ z zc zn k_fz fz hzn) (cwV 0 hts g_E_0_stayIn_25_E_7_delay_25 rfl rfl rfl (by decide +kernel) ⟨Nat.le_of_ble_eq_true rfl, Nat.le_of_ble_eq_true rfl⟩) ⟨pu_bl, va_recv hK hP (ci := 7) (q0 := 14) rfl rfl, pu_in hPc hKc hDc⟩ rfl rfl hl.1 rfl (lv_room (Nat.le_of_ble_eq_true rfl)) eX0_stayIn_10 ⟨Nat.le_of_ble_eq_true rfl, Nat.le_of_ble_eq_true rfl⟩) hS (fun q _ h => hFc q h) hFc (fun u t H1 locs ht hvm hw hB hz1 hk1 hS => ?_)
    obtain ⟨z_fz_4, ⟨hP1, -, hD1⟩, xr_3_0⟩ := hB
    rw [ht] at hP1
    obtain ⟨hP, hD⟩ := pj_a (X := (az25__w au (nI nc) (nI np) (nI ne) st0 q4 q5 q6 q7 q8 q9 q10 q11 q12 q13 q14 q15 q16 k_f4 f4 k_f5 (bN 7 q_f5) k_f6 (bN 7 q_f6) k_f7 f7 k_f8 (bN 4 q_f8) k_f9 (bN 2 q_f9) k_f10 f10 k_f11 f11 k_f12 f12 k_f13 f13 k_f14 f14 k_f15 f15 k_f16 f16 z zc (nI zn) k_fz fz)) (X' := (az25__w au (nI nc) (nI np) (nI ne) st0 q4 q5 q6 q7 q8 q9 q10 q11 q12 q13 q14 q15 q16 k_f4 f4 k_f5 (bN 7 q_f5) k_f6 (bN 7 q_f6) k_f7 f7 k_f8 (bN 4 q_f8) k_f9 (bN 2 q_f9) k_f10 f10 k_f11 f11 k_f12 f12 k_f13 f13 k_f14 f14 k_f15 f15 k_f16 f16 z zc (nI zn) k_fz z_fz_4)) (wc := (z25__w z zc (nI zn) k_fz fz)) (w1 := (z25__w z zc (nI zn) k_fz z_fz_4)) hP hD [14, 15] [2, 3, 4, 5, 6, 7, 8, 9, 10, 11, 12, 13, 14, 15, 0, 1] 2 rfl hk1 hP1 rfl rfl rfl (by decide)
    clear hP1 hD1 hFc hPc hDc hKc
    clear hk1 hz1 ht hvm
    generalize H1 = H at hP hS ⊢
    have hsp := hsp.trans (slet_eq xr_3_0)
    refine lv_aload_n hx hb eX0_stayIn_13 rfl (lv_at hl 0 rfl) ?_
    refine lv_aload_n hx hb eX0_stayIn_14 rfl (lv_at hl 1 rfl) ?_
    refine lv_iload_n hx hb eX0_stayIn_15 rfl (lv_at hl 2 rfl) ?_
    refine va_calli (va_runS (As := [.int (nI a1)]) (rest := [.ref z, .ref au]) ⟨hx, hb, hml, hown, hts⟩ (c_E_0_hostOfPlace l dC dI _ a1 ha1) (va_cwS 1 hts g_E_0_stayIn_25_E_0_hostOfPlace rfl rfl rfl (by decide +kernel) ⟨Nat.le_of_ble_eq_true rfl, Nat.le_of_ble_eq_true rfl⟩) ⟨pu_bl, pu_in (hP.sub [] rfl) (hK.sub [] rfl) (hD.sub [] (by decide) rfl)⟩ rfl rfl hl.1 rfl (lv_room (Nat.le_of_ble_eq_true rfl)) eX0_stayIn_16 ⟨Nat.le_of_ble_eq_true rfl, Nat.le_of_ble_eq_true rfl⟩) hS (fun q _ h => pu_fr hS hA q h) (pu_fr hS hA) (fun r_5 u t H1 locs ht hvm hw hB hz1 hk1 hS => ?_)
    have hP := pu_keep hP hk1
    clear hk1 hz1 ht hvm
    generalize H1 = H at hP hS ⊢
    obtain rfl : r_5 = nI (14 + a1) := hw
    refine lv_iconst (v := 0) hx hb eX0_stayIn_19 (by decide) ?_
    have hFc := pu_free hD hS hA
    refine va_calli (va_runV (As := [.ref z, .int (nI (14 + a1)), .int 0]) (rest := []) ⟨hx, hb, hml, hown, hts⟩ (c_E_0_narrowTo_25 l dC dI _ au nc np ne st0 q4 q5 q6 q7 q8 q9 q10 q11 q12 q13 q14 q15 q16 k_f4 f4 k_f5 q_f5 k_f6 q_f6 k_f7 f7 k_f8 q_f8 k_f9 q_f9 k_f10 f10 k_f11 f11 k_f12 f12 k_f13 f13 k_f14 f14 k_f15 f15 k_f16 f16 z zc zn k_fz z_fz_4 (14 + a1) 0 hnc hnp hne (hst0) hzn (by omega)) (cwV 3 hts g_E_0_stayIn_25_E_0_narrowTo_25 rfl rfl rfl (by decide +kernel) ⟨Nat.le_of_ble_eq_true rfl, Nat.le_of_ble_eq_true rfl⟩) ⟨pu_bl, va_recv hK hP (ci := 0) (q0 := 0) rfl rfl, pu_in hP hK hD⟩ rfl rfl hl.1 rfl (lv_room (Nat.le_of_ble_eq_true rfl)) eX0_stayIn_20 ⟨Nat.le_of_ble_eq_true rfl, Nat.le_of_ble_eq_true rfl⟩) hS (fun q _ h => hFc q h) hFc (fun r_6 u t H1 locs ht hvm hw hB hz1 hk1 hS => ?_)
    obtain ⟨z_fz_7, ⟨hP1, -, hD1⟩, xr_6_0⟩ := hB
    rw [ht] at hP1
    have hP := hP1
    have hD := pu_all hFc hD1
    clear hP1 hD1 hFc
    clear hk1 hz1 ht hvm
    generalize H1 = H at hP hS ⊢
    obtain ⟨u_8, hu_8, rfl, iu_8⟩ := hw
    have iu_8 : (u_8, z_fz_7) = (sp_E_0_narrowTo_25 q_f8 q_f9 f12 f13 zn z_fz_4 (14 + a1) 0) := Prod.ext iu_8 xr_6_0
    have hsp := hsp.trans (slet_eq iu_8)
    refine lv_pop hx hb eX0_stayIn_23 rfl ?_
    exact W.vret hx hb hr (fun t ht hW => ⟨⟨(), rfl, trivial, ⟨z_fz_7, ⟨by rw [ht]; exact hP, va_K.moved hW.alike hK, hD⟩, (hsp.symm.trans hRR)⟩⟩, hS.F ht⟩) hS.2.2 eX0_stayIn_24
