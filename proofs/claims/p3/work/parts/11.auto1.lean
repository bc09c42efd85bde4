theorem dX0_narrowTo_0 : decode cX0_narrowTo 0 = .ok (.iconst 0, 1) := by decide +kernel
theorem dX0_narrowTo_1 : decode cX0_narrowTo 1 = .ok (.istore 4, 2) := by decide +kernel
theorem dX0_narrowTo_3 : decode cX0_narrowTo 3 = .ok (.iload 4, 2) := by decide +kernel
theorem dX0_narrowTo_5 : decode cX0_narrowTo 5 = .ok (.aload_n 0, 1) := by decide +kernel
theorem dX0_narrowTo_6 : decode cX0_narrowTo 6 = .ok (.getfield 29, 3) := by decide +kernel
theorem dX0_narrowTo_9 : decode cX0_narrowTo 9 = .ok (.iload_n 2, 1) := by decide +kernel
theorem dX0_narrowTo_10 : decode cX0_narrowTo 10 = .ok (.iaload, 1) := by decide +kernel
theorem dX0_narrowTo_11 : decode cX0_narrowTo 11 = .ok (.if_icmp .ge 100, 3) := by decide +kernel
theorem dX0_narrowTo_14 : decode cX0_narrowTo 14 = .ok (.iload_n 2, 1) := by decide +kernel
theorem dX0_narrowTo_15 : decode cX0_narrowTo 15 = .ok (.iload 4, 2) := by decide +kernel
theorem dX0_narrowTo_17 : decode cX0_narrowTo 17 = .ok (.invokestatic 65, 3) := by decide +kernel
theorem dX0_narrowTo_20 : decode cX0_narrowTo 20 = .ok (.istore 5, 2) := by decide +kernel
theorem dX0_narrowTo_22 : decode cX0_narrowTo 22 = .ok (.aload_n 0, 1) := by decide +kernel
theorem dX0_narrowTo_23 : decode cX0_narrowTo 23 = .ok (.getfield 32, 3) := by decide +kernel
theorem dX0_narrowTo_26 : decode cX0_narrowTo 26 = .ok (.iload 5, 2) := by decide +kernel
theorem dX0_narrowTo_28 : decode cX0_narrowTo 28 = .ok (.iaload, 1) := by decide +kernel
theorem dX0_narrowTo_29 : decode cX0_narrowTo 29 = .ok (.istore 6, 2) := by decide +kernel
theorem dX0_narrowTo_31 : decode cX0_narrowTo 31 = .ok (.iload_n 3, 1) := by decide +kernel
theorem dX0_narrowTo_32 : decode cX0_narrowTo 32 = .ok (.iload 6, 2) := by decide +kernel
theorem dX0_narrowTo_34 : decode cX0_narrowTo 34 = .ok (.ishr, 1) := by decide +kernel
theorem dX0_narrowTo_35 : decode cX0_narrowTo 35 = .ok (.iconst 1, 1) := by decide +kernel
theorem dX0_narrowTo_36 : decode cX0_narrowTo 36 = .ok (.iand, 1) := by decide +kernel
theorem dX0_narrowTo_37 : decode cX0_narrowTo 37 = .ok (.iconst 1, 1) := by decide +kernel
theorem dX0_narrowTo_38 : decode cX0_narrowTo 38 = .ok (.if_icmp .ne 27, 3) := by decide +kernel
theorem dX0_narrowTo_41 : decode cX0_narrowTo 41 = .ok (.aload_n 0, 1) := by decide +kernel
theorem dX0_narrowTo_42 : decode cX0_narrowTo 42 = .ok (.getfield 41, 3) := by decide +kernel
theorem dX0_narrowTo_45 : decode cX0_narrowTo 45 = .ok (.iload 5, 2) := by decide +kernel
theorem dX0_narrowTo_47 : decode cX0_narrowTo 47 = .ok (.iaload, 1) := by decide +kernel
theorem dX0_narrowTo_48 : decode cX0_narrowTo 48 = .ok (.iconst 1, 1) := by decide +kernel
theorem dX0_narrowTo_49 : decode cX0_narrowTo 49 = .ok (.if_icmp .lt 14, 3) := by decide +kernel
theorem dX0_narrowTo_52 : decode cX0_narrowTo 52 = .ok (.aload_n 0, 1) := by decide +kernel
theorem dX0_narrowTo_53 : decode cX0_narrowTo 53 = .ok (.getfield 44, 3) := by decide +kernel
theorem dX0_narrowTo_56 : decode cX0_narrowTo 56 = .ok (.iload 5, 2) := by decide +kernel
theorem dX0_narrowTo_58 : decode cX0_narrowTo 58 = .ok (.iaload, 1) := by decide +kernel
theorem dX0_narrowTo_59 : decode cX0_narrowTo 59 = .ok (.iconst 1, 1) := by decide +kernel
theorem dX0_narrowTo_60 : decode cX0_narrowTo 60 = .ok (.if_icmp .ge 45, 3) := by decide +kernel
theorem dX0_narrowTo_63 : decode cX0_narrowTo 63 = .ok (.iconst 0, 1) := by decide +kernel
theorem dX0_narrowTo_64 : decode cX0_narrowTo 64 = .ok (.ireturn, 1) := by decide +kernel
theorem dX0_narrowTo_65 : decode cX0_narrowTo 65 = .ok (.aload_n 1, 1) := by decide +kernel
theorem dX0_narrowTo_66 : decode cX0_narrowTo 66 = .ok (.iload 6, 2) := by decide +kernel
theorem dX0_narrowTo_68 : decode cX0_narrowTo 68 = .ok (.iconst 1, 1) := by decide +kernel
theorem dX0_narrowTo_69 : decode cX0_narrowTo 69 = .ok (.iadd, 1) := by decide +kernel
theorem dX0_narrowTo_70 : decode cX0_narrowTo 70 = .ok (.iconst 0, 1) := by decide +kernel
theorem dX0_narrowTo_71 : decode cX0_narrowTo 71 = .ok (.aload_n 0, 1) := by decide +kernel
theorem dX0_narrowTo_72 : decode cX0_narrowTo 72 = .ok (.getfield 41, 3) := by decide +kernel
theorem dX0_narrowTo_75 : decode cX0_narrowTo 75 = .ok (.iload 5, 2) := by decide +kernel
theorem dX0_narrowTo_77 : decode cX0_narrowTo 77 = .ok (.iaload, 1) := by decide +kernel
theorem dX0_narrowTo_78 : decode cX0_narrowTo 78 = .ok (.invokevirtual 84, 3) := by decide +kernel
theorem dX0_narrowTo_81 : decode cX0_narrowTo 81 = .ok (.ifCond .eq 22, 3) := by decide +kernel
theorem dX0_narrowTo_84 : decode cX0_narrowTo 84 = .ok (.aload_n 1, 1) := by decide +kernel
theorem dX0_narrowTo_85 : decode cX0_narrowTo 85 = .ok (.iconst 0, 1) := by decide +kernel
theorem dX0_narrowTo_86 : decode cX0_narrowTo 86 = .ok (.iload 6, 2) := by decide +kernel
theorem dX0_narrowTo_88 : decode cX0_narrowTo 88 = .ok (.iconst 1, 1) := by decide +kernel
theorem dX0_narrowTo_89 : decode cX0_narrowTo 89 = .ok (.iadd, 1) := by decide +kernel
theorem dX0_narrowTo_90 : decode cX0_narrowTo 90 = .ok (.aload_n 0, 1) := by decide +kernel
theorem dX0_narrowTo_91 : decode cX0_narrowTo 91 = .ok (.getfield 44, 3) := by decide +kernel
theorem dX0_narrowTo_94 : decode cX0_narrowTo 94 = .ok (.iload 5, 2) := by decide +kernel
theorem dX0_narrowTo_96 : decode cX0_narrowTo 96 = .ok (.iaload, 1) := by decide +kernel
theorem dX0_narrowTo_97 : decode cX0_narrowTo 97 = .ok (.invokevirtual 84, 3) := by decide +kernel
theorem dX0_narrowTo_100 : decode cX0_narrowTo 100 = .ok (.ifCond .ne 5, 3) := by decide +kernel
theorem dX0_narrowTo_103 : decode cX0_narrowTo 103 = .ok (.iconst 0, 1) := by decide +kernel
theorem dX0_narrowTo_104 : decode cX0_narrowTo 104 = .ok (.ireturn, 1) := by decide +kernel
theorem dX0_narrowTo_105 : decode cX0_narrowTo 105 = .ok (.iinc 4 1, 3) := by decide +kernel
theorem dX0_narrowTo_108 : decode cX0_narrowTo 108 = .ok (.goto (-105), 3) := by decide +kernel
theorem dX0_narrowTo_111 : decode cX0_narrowTo 111 = .ok (.iconst 1, 1) := by decide +kernel
theorem dX0_narrowTo_112 : decode cX0_narrowTo 112 = .ok (.ireturn, 1) := by decide +kernel
def vs_X0_narrowTo : List Cond := .code yX0_narrowTo cX0_narrowTo 7 (some .boolean) :: ([.fieldLink RX0 29 "ClockReach$Automaton" "counts" "[I", .methodLink RX0 65 yX0_slot, .static yX0_slot, .initialized RX0, .code yX0_slot cX0_slot 2 (some .int), .fieldLink RX0 32 "ClockReach$Automaton" "conditionClocks" "[I", .fieldLink RX0 41 "ClockReach$Automaton" "ceilings" "[I", .methodLink RX0 84 yX7_narrow, .instanceMethod yX7_narrow, .selects RX7 yX7_narrow yX7_narrow, .initialized RX7, .code yX7_narrow cX7_narrow 10 (some .boolean), .fieldLink RX7 11 "ClockReach$Zone" "cells" "[I", .fieldLink RX7 18 "ClockReach$Zone" "size" "I", .constant RX7 17 (2147483647), .fieldLink RX0 44 "ClockReach$Automaton" "floors" "[I"] ++ wsX00 ++ wsX70)
theorem g_X0_narrowTo_X0_slot : GoodIn vs_X0_narrowTo (va_wsS RX0 65 yX0_slot vs_X0_slot) := goodIn_r _ [2, 3, 4, 5] (by decide +kernel) (by decide +kernel)
theorem g_X0_narrowTo_X7_narrow : GoodIn vs_X0_narrowTo (wsV RX0 84 RX7 yX7_narrow vs_X7_narrow) := goodIn_r _ [8, 9, 10, 11, 12, 13, 14, 15, 34, 35] (by decide +kernel) (by decide +kernel)
set_option maxHeartbeats 4000000 in
set_option maxRecDepth 100000 in
theorem c_X0_narrowTo (l : Launch) (dC : Nat → ClassId) (dI : Nat → Nat → Nat) (sz : Nat) (au q4 q5 q6 q7 q8 q9 q10 q11 q12 q13 q14 q15 q16 : Nat) (nc np ne : Nat) (st0 : Int32) (k8 k9 k12 k13 : ClassId) (f8 f9 f12 f13 : Nat → Int32) (z zc : Nat) (cI : ClassId) (n N : Nat) (f : Nat → Int32) (hn : n * n ≤ N) (hN : N ≤ 25) (hc : ao_c nc f8 f9) (hz : nc + 1 ≤ n) (h : Nat) (hh : h < 22) (p0 : Int32) : Met l yX0_narrowTo vs_X0_narrowTo ({ frames := 1, cells := 0, slots := 0, locals := 29 }) (va_Pc [.ref au, .ref z, .int (nI h), .int p0] (pu_B (dC, dI) [(au, .inr (0, [.int (nI nc), .int (nI np), .int (nI ne), .int st0, .ref q4, .ref q5, .ref q6, .ref q7, .ref q8, .ref q9, .ref q10, .ref q11, .ref q12, .ref q13, .ref q14, .ref q15, .ref q16])), (q8, .inl (k8, 22, .inl f8)), (q9, .inl (k9, 88, .inl f9)), (q12, .inl (k12, 88, .inl f12)), (q13, .inl (k13, 88, .inl f13)), (z, .inr (7, [.ref zc, .int (nI n)])), (zc, .inl (cI, N, .inl f))] [(k8, .int), (k9, .int), (k12, .int), (k13, .int), (cI, .int)] sz)) (va_Qi (fun (r : Int32) (_ : Unit) => True) (fun _ t => ∃ (g : Nat → Int32), pu_E (dC, dI) [(au, .inr (0, [.int (nI nc), .int (nI np), .int (nI ne), .int st0, .ref q4, .ref q5, .ref q6, .ref q7, .ref q8, .ref q9, .ref q10, .ref q11, .ref q12, .ref q13, .ref q14, .ref q15, .ref q16])), (q8, .inl (k8, 22, .inl f8)), (q9, .inl (k9, 88, .inl f9)), (q12, .inl (k12, 88, .inl f12)), (q13, .inl (k13, 88, .inl f13)), (z, .inr (7, [.ref zc, .int (nI n)])), (zc, .inl (cI, N, .inl g))] [(k8, .int), (k9, .int), (k12, .int), (k13, .int), (cI, .int)] (va_A ([(au, .inr (0, [.int (nI nc), .int (nI np), .int (nI ne), .int st0, .ref q4, .ref q5, .ref q6, .ref q7, .ref q8, .ref q9, .ref q10, .ref q11, .ref q12, .ref q13, .ref q14, .ref q15, .ref q16])), (q8, .inl (k8, 22, .inl f8)), (q9, .inl (k9, 88, .inl f9)), (q12, .inl (k12, 88, .inl f12)), (q13, .inl (k13, 88, .inl f13)), (z, .inr (7, [.ref zc, .int (nI n)])), (zc, .inl (cI, N, .inl f))]) sz) t) (va_A ([(au, .inr (0, [.int (nI nc), .int (nI np), .int (nI ne), .int st0, .ref q4, .ref q5, .ref q6, .ref q7, .ref q8, .ref q9, .ref q10, .ref q11, .ref q12, .ref q13, .ref q14, .ref q15, .ref q16])), (q8, .inl (k8, 22, .inl f8)), (q9, .inl (k9, 88, .inl f9)), (q12, .inl (k12, 88, .inl f12)), (q13, .inl (k13, 88, .inl f13)), (z, .inr (7, [.ref zc, .int (nI n)])), (zc, .inl (cI, N, .inl f))]) sz)) 0 0 (va_A ([(au, .inr (0, [.int (nI nc), .int (nI np), .int (nI ne), .int st0, .ref q4, .ref q5, .ref q6, .ref q7, .ref q8, .ref q9, .ref q10, .ref q11, .ref q12, .ref q13, .ref q14, .ref q15, .ref q16])), (q8, .inl (k8, 22, .inl f8)), (q9, .inl (k9, 88, .inl f9)), (q12, .inl (k12, 88, .inl f12)), (q13, .inl (k13, 88, .inl f13)), (z, .inr (7, [.ref zc, .int (nI n)])), (zc, .inl (cI, N, .inl f))]) sz) := by
  refine Met.ofW (cc := cX0_narrowTo) (maxL := 7) (ret := (some .boolean)) (by decide) rfl ?_
  intro p e s m args below meth c s₁ B hml hv
  obtain ⟨rfl, rfl, hP, hK, hD0⟩ := hv
  have hx := B.exec
  have hb := B.bytes
  have hr := B.returns
  have hts := atoms_spec (ws := vs_X0_narrowTo) B.pre
  have v_1 := hts (.fieldLink RX0 29 "ClockReach$Automaton" "counts" "[I") (List.mem_of_getElem? (i := 1) rfl)
  have v_6 := hts (.fieldLink RX0 32 "ClockReach$Automaton" "conditionClocks" "[I") (List.mem_of_getElem? (i := 6) rfl)
  have v_7 := hts (.fieldLink RX0 41 "ClockReach$Automaton" "ceilings" "[I") (List.mem_of_getElem? (i := 7) rfl)
  have v_16 := hts (.fieldLink RX0 44 "ClockReach$Automaton" "floors" "[I") (List.mem_of_getElem? (i := 16) rfl)
  have hown : s.vm.findClass RX0 = some m.cls := findClass_of_methodNamed B.named
  have hlocks := B.notSynchronized
  have hiX0 : ∀ w ∈ wsX00, w ∈ vs_X0_narrowTo := fun _ h => List.mem_cons_of_mem _ (List.mem_append_left _ (List.mem_append_right _ h))
  have hD := hD0.self (sz := s.heap.size)
  generalize hAe : va_A ([(au, .inr (0, [.int (nI nc), .int (nI np), .int (nI ne), .int st0, .ref q4, .ref q5, .ref q6, .ref q7, .ref q8, .ref q9, .ref q10, .ref q11, .ref q12, .ref q13, .ref q14, .ref q15, .ref q16])), (q8, .inl (k8, 22, .inl f8)), (q9, .inl (k9, 88, .inl f9)), (q12, .inl (k12, 88, .inl f12)), (q13, .inl (k13, 88, .inl f13)), (z, .inr (7, [.ref zc, .int (nI n)])), (zc, .inl (cI, N, .inl f))]) s.heap.size = A at hD ⊢
  have hA : ∀ q : Nat, s.heap.size ≤ q → A q := fun q h => by rw [← hAe]; exact Or.inr h
  have hS : va_S A s.heap s.heap [] := va_S.rf
  have hl := lv_entry ([.ref au, .ref z, .int (nI h), .int p0]) (n := 7) (Nat.le_of_ble_eq_true rfl)
  rw [lg_entry_eq]
  generalize (lg_sl ([.ref au, .ref z, .int (nI h), .int p0]) ++ List.replicate (7 - (lg_sl ([.ref au, .ref z, .int (nI h), .int p0])).length) Slot.unset).toArray = ls at hl ⊢
  have hl : lv_has ls 7 [(0, .ref au), (1, .ref z), (2, .int (nI h)), (3, .int p0)] := hl
  have hn5 := zn_5 hn hN
  have hnq := zn_q hn hN
  refine lv_iconst (v := 0) hx hb dX0_narrowTo_0 (by decide) ?_
  refine lv_istore (lv' := [(4, .int 0), (0, .ref au), (1, .ref z), (2, .int (nI h)), (3, .int p0)]) hx hb dX0_narrowTo_1 hl (by decide) rfl (fun ls hl => ?_)
  obtain ⟨qc_1, hq_2, eq_3, hcc_4⟩ := hc h (by omega)
  refine pu_loop (qc_1) (fun ii H locs ls => ∃ f0 : Nat → Int32, va_P (dC, dI) vwCl [(au, .inr (0, [.int (nI nc), .int (nI np), .int (nI ne), .int st0, .ref q4, .ref q5, .ref q6, .ref q7, .ref q8, .ref q9, .ref q10, .ref q11, .ref q12, .ref q13, .ref q14, .ref q15, .ref q16])), (q8, .inl (k8, 22, .inl f8)), (q9, .inl (k9, 88, .inl f9)), (q12, .inl (k12, 88, .inl f12)), (q13, .inl (k13, 88, .inl f13)), (z, .inr (7, [.ref zc, .int (nI n)])), (zc, .inl (cI, N, .inl f0))] H ∧ va_D A [(au, .inr (0, [.int (nI nc), .int (nI np), .int (nI ne), .int st0, .ref q4, .ref q5, .ref q6, .ref q7, .ref q8, .ref q9, .ref q10, .ref q11, .ref q12, .ref q13, .ref q14, .ref q15, .ref q16])), (q8, .inl (k8, 22, .inl f8)), (q9, .inl (k9, 88, .inl f9)), (q12, .inl (k12, 88, .inl f12)), (q13, .inl (k13, 88, .inl f13)), (z, .inr (7, [.ref zc, .int (nI n)])), (zc, .inl (cI, N, .inl f0))] ∧ va_S A s.heap H locs ∧ lv_has ls 7 [(0, .ref au), (1, .ref z), (2, .int (nI h)), (3, .int p0), (4, .int (nI ii))]) (fun _ => 0) (fun _ => 0) 3 [] ?_ ?_ _ _ _ ⟨_, hP, hD, hS, lv_sub hl [1, 2, 3, 4, 0] rfl⟩
  · rintro H locs ls ⟨f_5, hP, hD, hS, hl⟩
    refine lv_iload hx hb dX0_narrowTo_3 (lv_at hl 4 rfl) ?_
    refine lv_aload_n hx hb dX0_narrowTo_5 rfl (lv_at hl 0 rfl) ?_
    refine va_get (D := (dC, dI)) (ci := 0) (v := .ref q8) (C := RX0) (T := TX0) (N := 17) hx hb hts hiX0 hown hK hP 0 rfl rfl 8 (by decide) v_1 (fun _ h9 => h9) rfl dX0_narrowTo_6 ?_
    refine lv_iload_n hx hb dX0_narrowTo_9 rfl (lv_at hl 2 rfl) ?_
    refine va_iald hx hb hK hP 1 0 rfl rfl (vp_in_nI (n := h) (by first | omega | exact ix_lt (by omega) (by omega) hn | exact ix_lt0 (by omega) hn | exact ix_ltq (by omega) hn | exact ix_lt1 (by omega) hn) (by omega)) dX0_narrowTo_10 ?_
    refine lv_topi (fun y_9 ey_9 => ?_)
    have ey_9 : y_9 = f8 h := ey_9.trans (congrArg f8 (nI_clamp (n := h) (by omega)))
    obtain rfl : y_9 = nI qc_1 := ey_9.trans eq_3
    refine lv_icmp_ge (tgt := 111) hx hb dX0_narrowTo_11 (by decide) (fun _ => ?_) (fun z => absurd (nI_le (a := qc_1) (b := qc_1) (by omega) (by omega)) z)
    refine lv_iconst (v := 1) hx hb dX0_narrowTo_111 (by decide) ?_
    have hP9 := hP.sub (ws' := [(au, .inr (0, [.int (nI nc), .int (nI np), .int (nI ne), .int st0, .ref q4, .ref q5, .ref q6, .ref q7, .ref q8, .ref q9, .ref q10, .ref q11, .ref q12, .ref q13, .ref q14, .ref q15, .ref q16])), (q8, .inl (k8, 22, .inl f8)), (q9, .inl (k9, 88, .inl f9)), (q12, .inl (k12, 88, .inl f12)), (q13, .inl (k13, 88, .inl f13)), (z, .inr (7, [.ref zc, .int (nI n)])), (zc, .inl (cI, N, .inl f_5))]) [0, 1, 2, 3, 4, 5, 6] rfl
    have hD9 := hD.sub (ws' := [(au, .inr (0, [.int (nI nc), .int (nI np), .int (nI ne), .int st0, .ref q4, .ref q5, .ref q6, .ref q7, .ref q8, .ref q9, .ref q10, .ref q11, .ref q12, .ref q13, .ref q14, .ref q15, .ref q16])), (q8, .inl (k8, 22, .inl f8)), (q9, .inl (k9, 88, .inl f9)), (q12, .inl (k12, 88, .inl f12)), (q13, .inl (k13, 88, .inl f13)), (z, .inr (7, [.ref zc, .int (nI n)])), (zc, .inl (cI, N, .inl f_5))]) [0, 1, 2, 3, 4, 5, 6] (by decide) rfl
    have hK9 := hK.sub (tys' := [(k8, .int), (k9, .int), (k12, .int), (k13, .int), (cI, .int)]) [0, 1, 2, 3, 4] rfl
    exact W.zret (v := 1) (ty := .boolean) hx hb hr rfl (fun t ht hW => ⟨⟨1, (), rfl, trivial, ⟨f_5, by rw [ht]; exact hP9, va_K.moved hW.alike hK9, hD9⟩⟩, hS.F ht⟩) hS.2.2 dX0_narrowTo_112
  · rintro i_6 h_7 ih_8 H locs ls ⟨f_5, hP, hD, hS, hl⟩
    refine lv_iload hx hb dX0_narrowTo_3 (lv_at hl 4 rfl) ?_
    refine lv_aload_n hx hb dX0_narrowTo_5 rfl (lv_at hl 0 rfl) ?_
    refine va_get (D := (dC, dI)) (ci := 0) (v := .ref q8) (C := RX0) (T := TX0) (N := 17) hx hb hts hiX0 hown hK hP 0 rfl rfl 8 (by decide) v_1 (fun _ h9 => h9) rfl dX0_narrowTo_6 ?_
    refine lv_iload_n hx hb dX0_narrowTo_9 rfl (lv_at hl 2 rfl) ?_
    refine va_iald hx hb hK hP 1 0 rfl rfl (vp_in_nI (n := h) (by first | omega | exact ix_lt (by omega) (by omega) hn | exact ix_lt0 (by omega) hn | exact ix_ltq (by omega) hn | exact ix_lt1 (by omega) hn) (by omega)) dX0_narrowTo_10 ?_
    refine lv_topi (fun y_10 ey_10 => ?_)
    have ey_10 : y_10 = f8 h := ey_10.trans (congrArg f8 (nI_clamp (n := h) (by omega)))
    obtain rfl : y_10 = nI qc_1 := ey_10.trans eq_3
    refine lv_icmp_ge (tgt := 111) hx hb dX0_narrowTo_11 (by decide) (fun z => absurd z (nI_ge (a := i_6) (b := qc_1) (by omega) (by omega))) (fun _ => ?_)
    refine lv_iload_n hx hb dX0_narrowTo_14 rfl (lv_at hl 2 rfl) ?_
    refine lv_iload hx hb dX0_narrowTo_15 (lv_at hl 4 rfl) ?_
    refine va_calli (va_runS (As := [.int (nI h), .int (nI i_6)]) (rest := []) ⟨hx, hb, hml, hown, hts⟩ (c_X0_slot l dC dI _ h i_6) (va_cwS 2 hts g_X0_narrowTo_X0_slot rfl rfl rfl (by decide +kernel) ⟨Nat.le_of_ble_eq_true rfl, Nat.le_of_ble_eq_true rfl⟩) ⟨pu_bl, pu_in (hP.sub [] rfl) (hK.sub [] rfl) (hD.sub [] (by decide) rfl)⟩ rfl rfl hl.1 rfl (lv_room (Nat.le_of_ble_eq_true rfl)) dX0_narrowTo_17 ⟨Nat.le_of_ble_eq_true rfl, Nat.le_of_ble_eq_true rfl⟩) hS (fun q _ h => pu_fr hS hA q h) (pu_fr hS hA) (fun r_11 u t H1 locs ht hvm hw hB hz1 hk1 hS => ?_)
    have hP := pu_keep hP hk1
    clear hk1 hz1 ht hvm
    generalize H1 = H at hP hS ⊢
    obtain rfl : r_11 = (nI (h * 4 + i_6)) := hw
    refine lv_istore (lv' := [(5, .int (nI (h * 4 + i_6))), (0, .ref au), (1, .ref z), (2, .int (nI h)), (3, .int p0), (4, .int (nI i_6))]) hx hb dX0_narrowTo_20 hl (by decide) rfl (fun ls hl => ?_)
    refine lv_aload_n hx hb dX0_narrowTo_22 rfl (lv_at hl 1 rfl) ?_
    refine va_get (D := (dC, dI)) (ci := 0) (v := .ref q9) (C := RX0) (T := TX0) (N := 17) hx hb hts hiX0 hown hK hP 0 rfl rfl 9 (by decide) v_6 (fun _ h9 => h9) rfl dX0_narrowTo_23 ?_
    refine lv_iload hx hb dX0_narrowTo_26 (lv_at hl 0 rfl) ?_
    refine va_iald hx hb hK hP 2 1 rfl rfl (vp_in_nI (n := (h * 4 + i_6)) (by first | omega | exact ix_lt (by omega) (by omega) hn | exact ix_lt0 (by omega) hn | exact ix_ltq (by omega) hn | exact ix_lt1 (by omega) hn) (by omega)) dX0_narrowTo_28 ?_
    refine lv_topi (fun y_12 ey_12 => ?_)
    have ey_12 : y_12 = f9 (h * 4 + i_6) := ey_12.trans (congrArg f9 (nI_clamp (n := (h * 4 + i_6)) (by omega)))
    obtain ⟨cq_13, hq_14, eq_15⟩ := hcc_4 i_6 (by omega)
    obtain rfl : y_12 = nI cq_13 := ey_12.trans eq_15
    refine lv_istore (lv' := [(6, .int (nI cq_13)), (5, .int (nI (h * 4 + i_6))), (0, .ref au), (1, .ref z), (2, .int (nI h)), (3, .int p0), (4, .int (nI i_6))]) hx hb dX0_narrowTo_29 hl (by decide) rfl (fun ls hl => ?_)
    refine lv_iload_n hx hb dX0_narrowTo_31 rfl (lv_at hl 5 rfl) ?_
    refine lv_iload hx hb dX0_narrowTo_32 (lv_at hl 0 rfl) ?_
    refine lv_ishr hx hb dX0_narrowTo_34 ?_
    refine lv_iconst (v := 1) hx hb dX0_narrowTo_35 (by decide) ?_
    refine lv_iand hx hb dX0_narrowTo_36 ?_
    refine lv_iconst (v := 1) hx hb dX0_narrowTo_37 (by decide) ?_
    refine lv_icmp_ne (tgt := 65) hx hb dX0_narrowTo_38 (by decide) (fun c_16 => ?_) (fun c_16 => ?_)
    · refine lv_aload_n hx hb dX0_narrowTo_65 rfl (lv_at hl 3 rfl) ?_
      refine lv_iload hx hb dX0_narrowTo_66 (lv_at hl 0 rfl) ?_
      refine lv_iconst (v := 1) hx hb dX0_narrowTo_68 (by decide) ?_
      refine lv_iadd hx hb dX0_narrowTo_69 ?_
      refine lv_topi (fun y_17 ey_17 => ?_)
      obtain rfl : y_17 = (nI (cq_13 + 1)) := ey_17.trans (nI_add cq_13 1)
      refine lv_iconst (v := 0) hx hb dX0_narrowTo_70 (by decide) ?_
      refine lv_aload_n hx hb dX0_narrowTo_71 rfl (lv_at hl 2 rfl) ?_
      refine va_get (D := (dC, dI)) (ci := 0) (v := .ref q12) (C := RX0) (T := TX0) (N := 17) hx hb hts hiX0 hown hK hP 0 rfl rfl 12 (by decide) v_7 (fun _ h9 => h9) rfl dX0_narrowTo_72 ?_
      refine lv_iload hx hb dX0_narrowTo_75 (lv_at hl 1 rfl) ?_
      refine va_iald hx hb hK hP 3 2 rfl rfl (vp_in_nI (n := (h * 4 + i_6)) (by first | omega | exact ix_lt (by omega) (by omega) hn | exact ix_lt0 (by omega) hn | exact ix_ltq (by omega) hn | exact ix_lt1 (by omega) hn) (by omega)) dX0_narrowTo_77 ?_
      have hFc := va_free (wc := [(z, .inr (7, [.ref zc, .int (nI n)])), (zc, .inl (cI, N, .inl f_5))]) hD hS hA [5, 6] rfl
      refine va_calli (va_runV (As := [.int (nI (cq_13 + 1)), .int 0, .int (f12 ((nI (h * 4 + i_6))).toNatClampNeg)]) (rest := []) ⟨hx, hb, hml, hown, hts⟩ (c_X7_narrow l dC dI _ z zc cI n N f_5 hn hN (cq_13 + 1) 0 (by omega) (by omega) (f12 ((nI (h * 4 + i_6))).toNatClampNeg)) (cwV 3 hts g_X0_narrowTo_X7_narrow rfl rfl rfl (by decide +kernel) ⟨Nat.le_of_ble_eq_true rfl, Nat.le_of_ble_eq_true rfl⟩) ⟨pu_bl, va_recv hK hP (ci := 7) (q0 := 5) rfl rfl, pu_in (hP.sub [5, 6] rfl) (hK.sub [4] rfl) (hD.sub [5, 6] (by decide) rfl)⟩ rfl rfl hl.1 rfl (lv_room (Nat.le_of_ble_eq_true rfl)) dX0_narrowTo_78 ⟨Nat.le_of_ble_eq_true rfl, Nat.le_of_ble_eq_true rfl⟩) hS (fun q _ h => hFc q h) hFc (fun r_18 u t H1 locs ht hvm hw hB hz1 hk1 hS => ?_)
      obtain ⟨g_19, ⟨hP1, hK1, hD1⟩⟩ := hB
      rw [ht] at hP1
      have hK1 := va_K.moved hvm.symm hK1
      obtain ⟨hP, hD⟩ := va_join (wr := [(au, .inr (0, [.int (nI nc), .int (nI np), .int (nI ne), .int st0, .ref q4, .ref q5, .ref q6, .ref q7, .ref q8, .ref q9, .ref q10, .ref q11, .ref q12, .ref q13, .ref q14, .ref q15, .ref q16])), (q8, .inl (k8, 22, .inl f8)), (q9, .inl (k9, 88, .inl f9)), (q12, .inl (k12, 88, .inl f12)), (q13, .inl (k13, 88, .inl f13))]) (w1 := [(z, .inr (7, [.ref zc, .int (nI n)])), (zc, .inl (cI, N, .inl g_19))]) hP hD [5, 6] [0, 1, 2, 3, 4] rfl rfl (by decide) (by decide) hk1 hFc hP1 hD1
      have hK := hK.app hK1
      clear hk1 hz1 ht hvm
      generalize H1 = H at hP hS ⊢
      have hP : va_P (dC, dI) vwCl [(au, .inr (0, [.int (nI nc), .int (nI np), .int (nI ne), .int st0, .ref q4, .ref q5, .ref q6, .ref q7, .ref q8, .ref q9, .ref q10, .ref q11, .ref q12, .ref q13, .ref q14, .ref q15, .ref q16])), (q8, .inl (k8, 22, .inl f8)), (q9, .inl (k9, 88, .inl f9)), (q12, .inl (k12, 88, .inl f12)), (q13, .inl (k13, 88, .inl f13)), (z, .inr (7, [.ref zc, .int (nI n)])), (zc, .inl (cI, N, .inl g_19))] H := hP
      have hD : va_D A [(au, .inr (0, [.int (nI nc), .int (nI np), .int (nI ne), .int st0, .ref q4, .ref q5, .ref q6, .ref q7, .ref q8, .ref q9, .ref q10, .ref q11, .ref q12, .ref q13, .ref q14, .ref q15, .ref q16])), (q8, .inl (k8, 22, .inl f8)), (q9, .inl (k9, 88, .inl f9)), (q12, .inl (k12, 88, .inl f12)), (q13, .inl (k13, 88, .inl f13)), (z, .inr (7, [.ref zc, .int (nI n)])), (zc, .inl (cI, N, .inl g_19))] := hD
      have hK : va_K (dC, dI) vwCl [(k8, .int), (k9, .int), (k12, .int), (k13, .int), (cI, .int), (cI, .int)] s := hK
      refine lv_if_eq (tgt := 103) hx hb dX0_narrowTo_81 (by decide) (fun c_20 => ?_) (fun c_20 => ?_)
      · refine lv_iconst (v := 0) hx hb dX0_narrowTo_103 (by decide) ?_
        have hP9 := hP.sub (ws' := [(au, .inr (0, [.int (nI nc), .int (nI np), .int (nI ne), .int st0, .ref q4, .ref q5, .ref q6, .ref q7, .ref q8, .ref q9, .ref q10, .ref q11, .ref q12, .ref q13, .ref q14, .ref q15, .ref q16])), (q8, .inl (k8, 22, .inl f8)), (q9, .inl (k9, 88, .inl f9)), (q12, .inl (k12, 88, .inl f12)), (q13, .inl (k13, 88, .inl f13)), (z, .inr (7, [.ref zc, .int (nI n)])), (zc, .inl (cI, N, .inl g_19))]) [0, 1, 2, 3, 4, 5, 6] rfl
        have hD9 := hD.sub (ws' := [(au, .inr (0, [.int (nI nc), .int (nI np), .int (nI ne), .int st0, .ref q4, .ref q5, .ref q6, .ref q7, .ref q8, .ref q9, .ref q10, .ref q11, .ref q12, .ref q13, .ref q14, .ref q15, .ref q16])), (q8, .inl (k8, 22, .inl f8)), (q9, .inl (k9, 88, .inl f9)), (q12, .inl (k12, 88, .inl f12)), (q13, .inl (k13, 88, .inl f13)), (z, .inr (7, [.ref zc, .int (nI n)])), (zc, .inl (cI, N, .inl g_19))]) [0, 1, 2, 3, 4, 5, 6] (by decide) rfl
        have hK9 := hK.sub (tys' := [(k8, .int), (k9, .int), (k12, .int), (k13, .int), (cI, .int)]) [0, 1, 2, 3, 4] rfl
        exact W.zret (v := 0) (ty := .boolean) hx hb hr rfl (fun t ht hW => ⟨⟨0, (), rfl, trivial, ⟨g_19, by rw [ht]; exact hP9, va_K.moved hW.alike hK9, hD9⟩⟩, hS.F ht⟩) hS.2.2 dX0_narrowTo_104
      · refine lv_aload_n hx hb dX0_narrowTo_84 rfl (lv_at hl 3 rfl) ?_
        refine lv_iconst (v := 0) hx hb dX0_narrowTo_85 (by decide) ?_
        refine lv_iload hx hb dX0_narrowTo_86 (lv_at hl 0 rfl) ?_
        refine lv_iconst (v := 1) hx hb dX0_narrowTo_88 (by decide) ?_
        refine lv_iadd hx hb dX0_narrowTo_89 ?_
        refine lv_topi (fun y_21 ey_21 => ?_)
        obtain rfl : y_21 = (nI (cq_13 + 1)) := ey_21.trans (nI_add cq_13 1)
        refine lv_aload_n hx hb dX0_narrowTo_90 rfl (lv_at hl 2 rfl) ?_
        refine va_get (D := (dC, dI)) (ci := 0) (v := .ref q13) (C := RX0) (T := TX0) (N := 17) hx hb hts hiX0 hown hK hP 0 rfl rfl 13 (by decide) v_16 (fun _ h9 => h9) rfl dX0_narrowTo_91 ?_
        refine lv_iload hx hb dX0_narrowTo_94 (lv_at hl 1 rfl) ?_
        refine va_iald hx hb hK hP 4 3 rfl rfl (vp_in_nI (n := (h * 4 + i_6)) (by first | omega | exact ix_lt (by omega) (by omega) hn | exact ix_lt0 (by omega) hn | exact ix_ltq (by omega) hn | exact ix_lt1 (by omega) hn) (by omega)) dX0_narrowTo_96 ?_
        have hFc := va_free (wc := [(z, .inr (7, [.ref zc, .int (nI n)])), (zc, .inl (cI, N, .inl g_19))]) hD hS hA [5, 6] rfl
        refine va_calli (va_runV (As := [.int 0, .int (nI (cq_13 + 1)), .int (f13 ((nI (h * 4 + i_6))).toNatClampNeg)]) (rest := []) ⟨hx, hb, hml, hown, hts⟩ (c_X7_narrow l dC dI _ z zc cI n N g_19 hn hN 0 (cq_13 + 1) (by omega) (by omega) (f13 ((nI (h * 4 + i_6))).toNatClampNeg)) (cwV 3 hts g_X0_narrowTo_X7_narrow rfl rfl rfl (by decide +kernel) ⟨Nat.le_of_ble_eq_true rfl, Nat.le_of_ble_eq_true rfl⟩) ⟨pu_bl, va_recv hK hP (ci := 7) (q0 := 5) rfl rfl, pu_in (hP.sub [5, 6] rfl) (hK.sub [4] rfl) (hD.sub [5, 6] (by decide) rfl)⟩ rfl rfl hl.1 rfl (lv_room (Nat.le_of_ble_eq_true rfl)) dX0_narrowTo_97 ⟨Nat.le_of_ble_eq_true rfl, Nat.le_of_ble_eq_true rfl⟩) hS (fun q _ h => hFc q h) hFc (fun r_22 u t H1 locs ht hvm hw hB hz1 hk1 hS => ?_)
        obtain ⟨g_23, ⟨hP1, hK1, hD1⟩⟩ := hB
        rw [ht] at hP1
        have hK1 := va_K.moved hvm.symm hK1
        obtain ⟨hP, hD⟩ := va_join (wr := [(au, .inr (0, [.int (nI nc), .int (nI np), .int (nI ne), .int st0, .ref q4, .ref q5, .ref q6, .ref q7, .ref q8, .ref q9, .ref q10, .ref q11, .ref q12, .ref q13, .ref q14, .ref q15, .ref q16])), (q8, .inl (k8, 22, .inl f8)), (q9, .inl (k9, 88, .inl f9)), (q12, .inl (k12, 88, .inl f12)), (q13, .inl (k13, 88, .inl f13))]) (w1 := [(z, .inr (7, [.ref zc, .int (nI n)])), (zc, .inl (cI, N, .inl g_23))]) hP hD [5, 6] [0, 1, 2, 3, 4] rfl rfl (by decide) (by decide) hk1 hFc hP1 hD1
        have hK := hK.app hK1
        clear hk1 hz1 ht hvm
        generalize H1 = H at hP hS ⊢
        have hP : va_P (dC, dI) vwCl [(au, .inr (0, [.int (nI nc), .int (nI np), .int (nI ne), .int st0, .ref q4, .ref q5, .ref q6, .ref q7, .ref q8, .ref q9, .ref q10, .ref q11, .ref q12, .ref q13, .ref q14, .ref q15, .ref q16])), (q8, .inl (k8, 22, .inl f8)), (q9, .inl (k9, 88, .inl f9)), (q12, .inl (k12, 88, .inl f12)), (q13, .inl (k13, 88, .inl f13)), (z, .inr (7, [.ref zc, .int (nI n)])), (zc, .inl (cI, N, .inl g_23))] H := hP
        have hD : va_D A [(au, .inr (0, [.int (nI nc), .int (nI np), .int (nI ne), .int st0, .ref q4, .ref q5, .ref q6, .ref q7, .ref q8, .ref q9, .ref q10, .ref q11, .ref q12, .ref q13, .ref q14, .ref q15, .ref q16])), (q8, .inl (k8, 22, .inl f8)), (q9, .inl (k9, 88, .inl f9)), (q12, .inl (k12, 88, .inl f12)), (q13, .inl (k13, 88, .inl f13)), (z, .inr (7, [.ref zc, .int (nI n)])), (zc, .inl (cI, N, .inl g_23))] := hD
        have hK : va_K (dC, dI) vwCl [(k8, .int), (k9, .int), (k12, .int), (k13, .int), (cI, .int), (cI, .int), (cI, .int)] s := hK
        refine lv_if_ne (tgt := 105) hx hb dX0_narrowTo_100 (by decide) (fun c_24 => ?_) (fun c_24 => ?_)
        · refine lv_iinc (v := (nI (i_6 + 1))) (lv' := [(4, .int (nI (i_6 + 1))), (6, .int (nI cq_13)), (5, .int (nI (h * 4 + i_6))), (0, .ref au), (1, .ref z), (2, .int (nI h)), (3, .int p0)]) hx hb dX0_narrowTo_105 hl (k := 6) rfl (nI_1 _) (by decide) rfl (fun ls hl => ?_)
          refine lv_goto (tgt := 3) hx hb dX0_narrowTo_108 (by decide) ?_
          exact ih_8 _ _ _ ⟨_, hP, hD, hS, lv_sub hl [3, 4, 5, 6, 0] rfl⟩
        · refine lv_iconst (v := 0) hx hb dX0_narrowTo_103 (by decide) ?_
          have hP9 := hP.sub (ws' := [(au, .inr (0, [.int (nI nc), .int (nI np), .int (nI ne), .int st0, .ref q4, .ref q5, .ref q6, .ref q7, .ref q8, .ref q9, .ref q10, .ref q11, .ref q12, .ref q13, .ref q14, .ref q15, .ref q16])), (q8, .inl (k8, 22, .inl f8)), (q9, .inl (k9, 88, .inl f9)), (q12, .inl (k12, 88, .inl f12)), (q13, .inl (k13, 88, .inl f13)), (z, .inr (7, [.ref zc, .int (nI n)])), (zc, .inl (cI, N, .inl g_23))]) [0, 1, 2, 3, 4, 5, 6] rfl
          have hD9 := hD.sub (ws' := [(au, .inr (0, [.int (nI nc), .int (nI np), .int (nI ne), .int st0, .ref q4, .ref q5, .ref q6, .ref q7, .ref q8, .ref q9, .ref q10, .ref q11, .ref q12, .ref q13, .ref q14, .ref q15, .ref q16])), (q8, .inl (k8, 22, .inl f8)), (q9, .inl (k9, 88, .inl f9)), (q12, .inl (k12, 88, .inl f12)), (q13, .inl (k13, 88, .inl f13)), (z, .inr (7, [.ref zc, .int (nI n)])), (zc, .inl (cI, N, .inl g_23))]) [0, 1, 2, 3, 4, 5, 6] (by decide) rfl
          have hK9 := hK.sub (tys' := [(k8, .int), (k9, .int), (k12, .int), (k13, .int), (cI, .int)]) [0, 1, 2, 3, 4] rfl
          exact W.zret (v := 0) (ty := .boolean) hx hb hr rfl (fun t ht hW => ⟨⟨0, (), rfl, trivial, ⟨g_23, by rw [ht]; exact hP9, va_K.moved hW.alike hK9, hD9⟩⟩, hS.F ht⟩) hS.2.2 dX0_narrowTo_104
    · refine lv_aload_n hx hb dX0_narrowTo_41 rfl (lv_at hl 2 rfl) ?_
      refine va_get (D := (dC, dI)) (ci := 0) (v := .ref q12) (C := RX0) (T := TX0) (N := 17) hx hb hts hiX0 hown hK hP 0 rfl rfl 12 (by decide) v_7 (fun _ h9 => h9) rfl dX0_narrowTo_42 ?_
      refine lv_iload hx hb dX0_narrowTo_45 (lv_at hl 1 rfl) ?_
      refine va_iald hx hb hK hP 3 2 rfl rfl (vp_in_nI (n := (h * 4 + i_6)) (by first | omega | exact ix_lt (by omega) (by omega) hn | exact ix_lt0 (by omega) hn | exact ix_ltq (by omega) hn | exact ix_lt1 (by omega) hn) (by omega)) dX0_narrowTo_47 ?_
      refine lv_iconst (v := 1) hx hb dX0_narrowTo_48 (by decide) ?_
      refine lv_icmp_lt (tgt := 63) hx hb dX0_narrowTo_49 (by decide) (fun c_25 => ?_) (fun c_25 => ?_)
      · refine lv_iconst (v := 0) hx hb dX0_narrowTo_63 (by decide) ?_
        have hP9 := hP.sub (ws' := [(au, .inr (0, [.int (nI nc), .int (nI np), .int (nI ne), .int st0, .ref q4, .ref q5, .ref q6, .ref q7, .ref q8, .ref q9, .ref q10, .ref q11, .ref q12, .ref q13, .ref q14, .ref q15, .ref q16])), (q8, .inl (k8, 22, .inl f8)), (q9, .inl (k9, 88, .inl f9)), (q12, .inl (k12, 88, .inl f12)), (q13, .inl (k13, 88, .inl f13)), (z, .inr (7, [.ref zc, .int (nI n)])), (zc, .inl (cI, N, .inl f_5))]) [0, 1, 2, 3, 4, 5, 6] rfl
        have hD9 := hD.sub (ws' := [(au, .inr (0, [.int (nI nc), .int (nI np), .int (nI ne), .int st0, .ref q4, .ref q5, .ref q6, .ref q7, .ref q8, .ref q9, .ref q10, .ref q11, .ref q12, .ref q13, .ref q14, .ref q15, .ref q16])), (q8, .inl (k8, 22, .inl f8)), (q9, .inl (k9, 88, .inl f9)), (q12, .inl (k12, 88, .inl f12)), (q13, .inl (k13, 88, .inl f13)), (z, .inr (7, [.ref zc, .int (nI n)])), (zc, .inl (cI, N, .inl f_5))]) [0, 1, 2, 3, 4, 5, 6] (by decide) rfl
        have hK9 := hK.sub (tys' := [(k8, .int), (k9, .int), (k12, .int), (k13, .int), (cI, .int)]) [0, 1, 2, 3, 4] rfl
        exact W.zret (v := 0) (ty := .boolean) hx hb hr rfl (fun t ht hW => ⟨⟨0, (), rfl, trivial, ⟨f_5, by rw [ht]; exact hP9, va_K.moved hW.alike hK9, hD9⟩⟩, hS.F ht⟩) hS.2.2 dX0_narrowTo_64
      · refine lv_aload_n hx hb dX0_narrowTo_52 rfl (lv_at hl 2 rfl) ?_
        refine va_get (D := (dC, dI)) (ci := 0) (v := .ref q13) (C := RX0) (T := TX0) (N := 17) hx hb hts hiX0 hown hK hP 0 rfl rfl 13 (by decide) v_16 (fun _ h9 => h9) rfl dX0_narrowTo_53 ?_
        refine lv_iload hx hb dX0_narrowTo_56 (lv_at hl 1 rfl) ?_
        refine va_iald hx hb hK hP 4 3 rfl rfl (vp_in_nI (n := (h * 4 + i_6)) (by first | omega | exact ix_lt (by omega) (by omega) hn | exact ix_lt0 (by omega) hn | exact ix_ltq (by omega) hn | exact ix_lt1 (by omega) hn) (by omega)) dX0_narrowTo_58 ?_
        refine lv_iconst (v := 1) hx hb dX0_narrowTo_59 (by decide) ?_
        refine lv_icmp_ge (tgt := 105) hx hb dX0_narrowTo_60 (by decide) (fun c_26 => ?_) (fun c_26 => ?_)
        · refine lv_iinc (v := (nI (i_6 + 1))) (lv' := [(4, .int (nI (i_6 + 1))), (6, .int (nI cq_13)), (5, .int (nI (h * 4 + i_6))), (0, .ref au), (1, .ref z), (2, .int (nI h)), (3, .int p0)]) hx hb dX0_narrowTo_105 hl (k := 6) rfl (nI_1 _) (by decide) rfl (fun ls hl => ?_)
          refine lv_goto (tgt := 3) hx hb dX0_narrowTo_108 (by decide) ?_
          exact ih_8 _ _ _ ⟨_, hP, hD, hS, lv_sub hl [3, 4, 5, 6, 0] rfl⟩
        · refine lv_iconst (v := 0) hx hb dX0_narrowTo_63 (by decide) ?_
          have hP9 := hP.sub (ws' := [(au, .inr (0, [.int (nI nc), .int (nI np), .int (nI ne), .int st0, .ref q4, .ref q5, .ref q6, .ref q7, .ref q8, .ref q9, .ref q10, .ref q11, .ref q12, .ref q13, .ref q14, .ref q15, .ref q16])), (q8, .inl (k8, 22, .inl f8)), (q9, .inl (k9, 88, .inl f9)), (q12, .inl (k12, 88, .inl f12)), (q13, .inl (k13, 88, .inl f13)), (z, .inr (7, [.ref zc, .int (nI n)])), (zc, .inl (cI, N, .inl f_5))]) [0, 1, 2, 3, 4, 5, 6] rfl
          have hD9 := hD.sub (ws' := [(au, .inr (0, [.int (nI nc), .int (nI np), .int (nI ne), .int st0, .ref q4, .ref q5, .ref q6, .ref q7, .ref q8, .ref q9, .ref q10, .ref q11, .ref q12, .ref q13, .ref q14, .ref q15, .ref q16])), (q8, .inl (k8, 22, .inl f8)), (q9, .inl (k9, 88, .inl f9)), (q12, .inl (k12, 88, .inl f12)), (q13, .inl (k13, 88, .inl f13)), (z, .inr (7, [.ref zc, .int (nI n)])), (zc, .inl (cI, N, .inl f_5))]) [0, 1, 2, 3, 4, 5, 6] (by decide) rfl
          have hK9 := hK.sub (tys' := [(k8, .int), (k9, .int), (k12, .int), (k13, .int), (cI, .int)]) [0, 1, 2, 3, 4] rfl
          exact W.zret (v := 0) (ty := .boolean) hx hb hr rfl (fun t ht hW => ⟨⟨0, (), rfl, trivial, ⟨f_5, by rw [ht]; exact hP9, va_K.moved hW.alike hK9, hD9⟩⟩, hS.F ht⟩) hS.2.2 dX0_narrowTo_64
