theorem dX0_opensIn_0 : decode cX0_opensIn 0 = .ok (.aload_n 0, 1) := by decide +kernel
theorem dX0_opensIn_1 : decode cX0_opensIn 1 = .ok (.aload_n 1, 1) := by decide +kernel
theorem dX0_opensIn_2 : decode cX0_opensIn 2 = .ok (.iload_n 2, 1) := by decide +kernel
theorem dX0_opensIn_3 : decode cX0_opensIn 3 = .ok (.iconst 0, 1) := by decide +kernel
theorem dX0_opensIn_4 : decode cX0_opensIn 4 = .ok (.invokevirtual 88, 3) := by decide +kernel
theorem dX0_opensIn_7 : decode cX0_opensIn 7 = .ok (.ifCond .eq 30, 3) := by decide +kernel
theorem dX0_opensIn_10 : decode cX0_opensIn 10 = .ok (.aload_n 0, 1) := by decide +kernel
theorem dX0_opensIn_11 : decode cX0_opensIn 11 = .ok (.aload_n 1, 1) := by decide +kernel
theorem dX0_opensIn_12 : decode cX0_opensIn 12 = .ok (.aload_n 0, 1) := by decide +kernel
theorem dX0_opensIn_13 : decode cX0_opensIn 13 = .ok (.getfield 23, 3) := by decide +kernel
theorem dX0_opensIn_16 : decode cX0_opensIn 16 = .ok (.iload_n 2, 1) := by decide +kernel
theorem dX0_opensIn_17 : decode cX0_opensIn 17 = .ok (.iaload, 1) := by decide +kernel
theorem dX0_opensIn_18 : decode cX0_opensIn 18 = .ok (.invokestatic 92, 3) := by decide +kernel
theorem dX0_opensIn_21 : decode cX0_opensIn 21 = .ok (.aload_n 0, 1) := by decide +kernel
theorem dX0_opensIn_22 : decode cX0_opensIn 22 = .ok (.getfield 26, 3) := by decide +kernel
theorem dX0_opensIn_25 : decode cX0_opensIn 25 = .ok (.iload_n 2, 1) := by decide +kernel
theorem dX0_opensIn_26 : decode cX0_opensIn 26 = .ok (.iaload, 1) := by decide +kernel
theorem dX0_opensIn_27 : decode cX0_opensIn 27 = .ok (.invokevirtual 88, 3) := by decide +kernel
theorem dX0_opensIn_30 : decode cX0_opensIn 30 = .ok (.ifCond .eq 7, 3) := by decide +kernel
theorem dX0_opensIn_33 : decode cX0_opensIn 33 = .ok (.iconst 1, 1) := by decide +kernel
theorem dX0_opensIn_34 : decode cX0_opensIn 34 = .ok (.goto 4, 3) := by decide +kernel
theorem dX0_opensIn_37 : decode cX0_opensIn 37 = .ok (.iconst 0, 1) := by decide +kernel
theorem dX0_opensIn_38 : decode cX0_opensIn 38 = .ok (.ireturn, 1) := by decide +kernel
def vs_X0_opensIn : List Cond := .code yX0_opensIn cX0_opensIn 3 (some .boolean) :: ([.methodLink RX0 88 yX0_narrowTo, .instanceMethod yX0_narrowTo, .selects RX0 yX0_narrowTo yX0_narrowTo, .initialized RX0, .code yX0_narrowTo cX0_narrowTo 7 (some .boolean), .fieldLink RX0 29 "ClockReach$Automaton" "counts" "[I", .methodLink RX0 65 yX0_slot, .static yX0_slot, .code yX0_slot cX0_slot 2 (some .int), .fieldLink RX0 32 "ClockReach$Automaton" "conditionClocks" "[I", .fieldLink RX0 41 "ClockReach$Automaton" "ceilings" "[I", .methodLink RX0 84 yX7_narrow, .instanceMethod yX7_narrow, .selects RX7 yX7_narrow yX7_narrow, .initialized RX7, .code yX7_narrow cX7_narrow 10 (some .boolean), .fieldLink RX7 11 "ClockReach$Zone" "cells" "[I", .fieldLink RX7 18 "ClockReach$Zone" "size" "I", .constant RX7 17 (2147483647), .fieldLink RX0 44 "ClockReach$Automaton" "floors" "[I", .fieldLink RX0 23 "ClockReach$Automaton" "targets" "[I", .methodLink RX0 92 yX0_hostOfPlace, .static yX0_hostOfPlace, .code yX0_hostOfPlace cX0_hostOfPlace 1 (some .int), .fieldLink RX0 26 "ClockReach$Automaton" "resets" "[I"] ++ wsX00 ++ wsX70)
theorem g_X0_opensIn_X0_narrowTo : GoodIn vs_X0_opensIn (wsV RX0 88 RX0 yX0_narrowTo vs_X0_narrowTo) := goodIn_r _ [1, 2, 3, 4, 5, 6, 7, 8, 4, 9, 10, 11, 12, 13, 14, 15, 16, 17, 18, 19, 20, 26, 27, 28, 29, 30, 31, 32, 33, 34, 35, 36, 37, 38, 39, 40, 41, 42, 43, 44] (by decide +kernel) (by decide +kernel)
theorem g_X0_opensIn_X0_hostOfPlace : GoodIn vs_X0_opensIn (va_wsS RX0 92 yX0_hostOfPlace vs_X0_hostOfPlace) := goodIn_r _ [22, 23, 4, 24] (by decide +kernel) (by decide +kernel)
set_option maxHeartbeats 4000000 in
set_option maxRecDepth 100000 in
theorem c_X0_opensIn (l : Launch) (dC : Nat → ClassId) (dI : Nat → Nat → Nat) (sz : Nat) (au q4 q5 q6 q7 q8 q9 q10 q11 q12 q13 q14 q15 q16 : Nat) (nc np ne : Nat) (st0 : Int32) (k6 k7 k8 k9 k12 k13 : ClassId) (f6 f7 f8 f9 f12 f13 : Nat → Int32) (z zc : Nat) (cI : ClassId) (n N : Nat) (f : Nat → Int32) (hn : n * n ≤ N) (hN : N ≤ 25) (hc : ao_c nc f8 f9) (hz : nc + 1 ≤ n) (h6 : ao_e np ne f6) (hp : np ≤ 8) (he : ne ≤ 14) (i : Nat) (hi : i < ne) : Met l yX0_opensIn vs_X0_opensIn ({ frames := 2, cells := 0, slots := 0, locals := 55 }) (va_Pc [.ref au, .ref z, .int (nI i)] (pu_B (dC, dI) [(au, .inr (0, [.int (nI nc), .int (nI np), .int (nI ne), .int st0, .ref q4, .ref q5, .ref q6, .ref q7, .ref q8, .ref q9, .ref q10, .ref q11, .ref q12, .ref q13, .ref q14, .ref q15, .ref q16])), (q6, .inl (k6, 14, .inl f6)), (q7, .inl (k7, 14, .inl f7)), (q8, .inl (k8, 22, .inl f8)), (q9, .inl (k9, 88, .inl f9)), (q12, .inl (k12, 88, .inl f12)), (q13, .inl (k13, 88, .inl f13)), (z, .inr (7, [.ref zc, .int (nI n)])), (zc, .inl (cI, N, .inl f))] [(k6, .int), (k7, .int), (k8, .int), (k9, .int), (k12, .int), (k13, .int), (cI, .int)] sz)) (va_Qi (fun (r : Int32) (_ : Unit) => True) (fun _ t => ∃ (g : Nat → Int32), pu_E (dC, dI) [(au, .inr (0, [.int (nI nc), .int (nI np), .int (nI ne), .int st0, .ref q4, .ref q5, .ref q6, .ref q7, .ref q8, .ref q9, .ref q10, .ref q11, .ref q12, .ref q13, .ref q14, .ref q15, .ref q16])), (q6, .inl (k6, 14, .inl f6)), (q7, .inl (k7, 14, .inl f7)), (q8, .inl (k8, 22, .inl f8)), (q9, .inl (k9, 88, .inl f9)), (q12, .inl (k12, 88, .inl f12)), (q13, .inl (k13, 88, .inl f13)), (z, .inr (7, [.ref zc, .int (nI n)])), (zc, .inl (cI, N, .inl g))] [(k6, .int), (k7, .int), (k8, .int), (k9, .int), (k12, .int), (k13, .int), (cI, .int)] (va_A ([(au, .inr (0, [.int (nI nc), .int (nI np), .int (nI ne), .int st0, .ref q4, .ref q5, .ref q6, .ref q7, .ref q8, .ref q9, .ref q10, .ref q11, .ref q12, .ref q13, .ref q14, .ref q15, .ref q16])), (q6, .inl (k6, 14, .inl f6)), (q7, .inl (k7, 14, .inl f7)), (q8, .inl (k8, 22, .inl f8)), (q9, .inl (k9, 88, .inl f9)), (q12, .inl (k12, 88, .inl f12)), (q13, .inl (k13, 88, .inl f13)), (z, .inr (7, [.ref zc, .int (nI n)])), (zc, .inl (cI, N, .inl f))]) sz) t) (va_A ([(au, .inr (0, [.int (nI nc), .int (nI np), .int (nI ne), .int st0, .ref q4, .ref q5, .ref q6, .ref q7, .ref q8, .ref q9, .ref q10, .ref q11, .ref q12, .ref q13, .ref q14, .ref q15, .ref q16])), (q6, .inl (k6, 14, .inl f6)), (q7, .inl (k7, 14, .inl f7)), (q8, .inl (k8, 22, .inl f8)), (q9, .inl (k9, 88, .inl f9)), (q12, .inl (k12, 88, .inl f12)), (q13, .inl (k13, 88, .inl f13)), (z, .inr (7, [.ref zc, .int (nI n)])), (zc, .inl (cI, N, .inl f))]) sz)) 0 0 (va_A ([(au, .inr (0, [.int (nI nc), .int (nI np), .int (nI ne), .int st0, .ref q4, .ref q5, .ref q6, .ref q7, .ref q8, .ref q9, .ref q10, .ref q11, .ref q12, .ref q13, .ref q14, .ref q15, .ref q16])), (q6, .inl (k6, 14, .inl f6)), (q7, .inl (k7, 14, .inl f7)), (q8, .inl (k8, 22, .inl f8)), (q9, .inl (k9, 88, .inl f9)), (q12, .inl (k12, 88, .inl f12)), (q13, .inl (k13, 88, .inl f13)), (z, .inr (7, [.ref zc, .int (nI n)])), (zc, .inl (cI, N, .inl f))]) sz) := by
  refine Met.ofW (cc := cX0_opensIn) (maxL := 3) (ret := (some .boolean)) (by decide) rfl ?_
  intro p e s m args below meth c s₁ B hml hv
  obtain ⟨rfl, rfl, hP, hK, hD0⟩ := hv
  have hx := B.exec
  have hb := B.bytes
  have hr := B.returns
  have hts := atoms_spec (ws := vs_X0_opensIn) B.pre
  have v_21 := hts (.fieldLink RX0 23 "ClockReach$Automaton" "targets" "[I") (List.mem_of_getElem? (i := 21) rfl)
  have v_25 := hts (.fieldLink RX0 26 "ClockReach$Automaton" "resets" "[I") (List.mem_of_getElem? (i := 25) rfl)
  have hown : s.vm.findClass RX0 = some m.cls := findClass_of_methodNamed B.named
  have hlocks := B.notSynchronized
  have hiX0 : ∀ w ∈ wsX00, w ∈ vs_X0_opensIn := fun _ h => List.mem_cons_of_mem _ (List.mem_append_left _ (List.mem_append_right _ h))
  have hD := hD0.self (sz := s.heap.size)
  generalize hAe : va_A ([(au, .inr (0, [.int (nI nc), .int (nI np), .int (nI ne), .int st0, .ref q4, .ref q5, .ref q6, .ref q7, .ref q8, .ref q9, .ref q10, .ref q11, .ref q12, .ref q13, .ref q14, .ref q15, .ref q16])), (q6, .inl (k6, 14, .inl f6)), (q7, .inl (k7, 14, .inl f7)), (q8, .inl (k8, 22, .inl f8)), (q9, .inl (k9, 88, .inl f9)), (q12, .inl (k12, 88, .inl f12)), (q13, .inl (k13, 88, .inl f13)), (z, .inr (7, [.ref zc, .int (nI n)])), (zc, .inl (cI, N, .inl f))]) s.heap.size = A at hD ⊢
  have hA : ∀ q : Nat, s.heap.size ≤ q → A q := fun q h => by rw [← hAe]; exact Or.inr h
  have hS : va_S A s.heap s.heap [] := va_S.rf
  have hl := lv_entry ([.ref au, .ref z, .int (nI i)]) (n := 3) (Nat.le_of_ble_eq_true rfl)
  rw [lg_entry_eq]
  generalize (lg_sl ([.ref au, .ref z, .int (nI i)]) ++ List.replicate (3 - (lg_sl ([.ref au, .ref z, .int (nI i)])).length) Slot.unset).toArray = ls at hl ⊢
  have hl : lv_has ls 3 [(0, .ref au), (1, .ref z), (2, .int (nI i))] := hl
  have hn5 := zn_5 hn hN
  have hnq := zn_q hn hN
  refine lv_aload_n hx hb dX0_opensIn_0 rfl (lv_at hl 0 rfl) ?_
  refine lv_aload_n hx hb dX0_opensIn_1 rfl (lv_at hl 1 rfl) ?_
  refine lv_iload_n hx hb dX0_opensIn_2 rfl (lv_at hl 2 rfl) ?_
  refine lv_iconst (v := 0) hx hb dX0_opensIn_3 (by decide) ?_
  have hFc := va_free (wc := [(au, .inr (0, [.int (nI nc), .int (nI np), .int (nI ne), .int st0, .ref q4, .ref q5, .ref q6, .ref q7, .ref q8, .ref q9, .ref q10, .ref q11, .ref q12, .ref q13, .ref q14, .ref q15, .ref q16])), (q8, .inl (k8, 22, .inl f8)), (q9, .inl (k9, 88, .inl f9)), (q12, .inl (k12, 88, .inl f12)), (q13, .inl (k13, 88, .inl f13)), (z, .inr (7, [.ref zc, .int (nI n)])), (zc, .inl (cI, N, .inl f))]) hD hS hA [0, 3, 4, 5, 6, 7, 8] rfl
  refine va_calli (va_runV (As := [.ref z, .int (nI i), .int 0]) (rest := []) ⟨hx, hb, hml, hown, hts⟩ (c_X0_narrowTo l dC dI _ au q4 q5 q6 q7 q8 q9 q10 q11 q12 q13 q14 q15 q16 nc np ne st0 k8 k9 k12 k13 f8 f9 f12 f13 z zc cI n N f hn hN hc hz i (by omega) 0) (cwV 3 hts g_X0_opensIn_X0_narrowTo rfl rfl rfl (by decide +kernel) ⟨Nat.le_of_ble_eq_true rfl, Nat.le_of_ble_eq_true rfl⟩) ⟨pu_bl, va_recv hK hP (ci := 0) (q0 := 0) rfl rfl, pu_in (hP.sub [0, 3, 4, 5, 6, 7, 8] rfl) (hK.sub [2, 3, 4, 5, 6] rfl) (hD.sub [0, 3, 4, 5, 6, 7, 8] (by decide) rfl)⟩ rfl rfl hl.1 rfl (lv_room (Nat.le_of_ble_eq_true rfl)) dX0_opensIn_4 ⟨Nat.le_of_ble_eq_true rfl, Nat.le_of_ble_eq_true rfl⟩) hS (fun q _ h => hFc q h) hFc (fun r_1 u t H1 locs ht hvm hw hB hz1 hk1 hS => ?_)
  obtain ⟨g_2, ⟨hP1, hK1, hD1⟩⟩ := hB
  rw [ht] at hP1
  have hK1 := va_K.moved hvm.symm hK1
  obtain ⟨hP, hD⟩ := va_join (wr := [(q6, .inl (k6, 14, .inl f6)), (q7, .inl (k7, 14, .inl f7))]) (w1 := [(au, .inr (0, [.int (nI nc), .int (nI np), .int (nI ne), .int st0, .ref q4, .ref q5, .ref q6, .ref q7, .ref q8, .ref q9, .ref q10, .ref q11, .ref q12, .ref q13, .ref q14, .ref q15, .ref q16])), (q8, .inl (k8, 22, .inl f8)), (q9, .inl (k9, 88, .inl f9)), (q12, .inl (k12, 88, .inl f12)), (q13, .inl (k13, 88, .inl f13)), (z, .inr (7, [.ref zc, .int (nI n)])), (zc, .inl (cI, N, .inl g_2))]) hP hD [0, 3, 4, 5, 6, 7, 8] [1, 2] rfl rfl (by decide) (by decide) hk1 hFc hP1 hD1
  have hK := hK.app hK1
  clear hk1 hz1 ht hvm
  generalize H1 = H at hP hS ⊢
  have hP : va_P (dC, dI) vwCl [(q6, .inl (k6, 14, .inl f6)), (q7, .inl (k7, 14, .inl f7)), (au, .inr (0, [.int (nI nc), .int (nI np), .int (nI ne), .int st0, .ref q4, .ref q5, .ref q6, .ref q7, .ref q8, .ref q9, .ref q10, .ref q11, .ref q12, .ref q13, .ref q14, .ref q15, .ref q16])), (q8, .inl (k8, 22, .inl f8)), (q9, .inl (k9, 88, .inl f9)), (q12, .inl (k12, 88, .inl f12)), (q13, .inl (k13, 88, .inl f13)), (z, .inr (7, [.ref zc, .int (nI n)])), (zc, .inl (cI, N, .inl g_2))] H := hP
  have hD : va_D A [(q6, .inl (k6, 14, .inl f6)), (q7, .inl (k7, 14, .inl f7)), (au, .inr (0, [.int (nI nc), .int (nI np), .int (nI ne), .int st0, .ref q4, .ref q5, .ref q6, .ref q7, .ref q8, .ref q9, .ref q10, .ref q11, .ref q12, .ref q13, .ref q14, .ref q15, .ref q16])), (q8, .inl (k8, 22, .inl f8)), (q9, .inl (k9, 88, .inl f9)), (q12, .inl (k12, 88, .inl f12)), (q13, .inl (k13, 88, .inl f13)), (z, .inr (7, [.ref zc, .int (nI n)])), (zc, .inl (cI, N, .inl g_2))] := hD
  have hK : va_K (dC, dI) vwCl [(k6, .int), (k7, .int), (k8, .int), (k9, .int), (k12, .int), (k13, .int), (cI, .int), (k8, .int), (k9, .int), (k12, .int), (k13, .int), (cI, .int)] s := hK
  refine lv_if_eq (tgt := 37) hx hb dX0_opensIn_7 (by decide) (fun c_3 => ?_) (fun c_3 => ?_)
  · refine lv_iconst (v := 0) hx hb dX0_opensIn_37 (by decide) ?_
    have hP9 := hP.sub (ws' := [(au, .inr (0, [.int (nI nc), .int (nI np), .int (nI ne), .int st0, .ref q4, .ref q5, .ref q6, .ref q7, .ref q8, .ref q9, .ref q10, .ref q11, .ref q12, .ref q13, .ref q14, .ref q15, .ref q16])), (q6, .inl (k6, 14, .inl f6)), (q7, .inl (k7, 14, .inl f7)), (q8, .inl (k8, 22, .inl f8)), (q9, .inl (k9, 88, .inl f9)), (q12, .inl (k12, 88, .inl f12)), (q13, .inl (k13, 88, .inl f13)), (z, .inr (7, [.ref zc, .int (nI n)])), (zc, .inl (cI, N, .inl g_2))]) [2, 0, 1, 3, 4, 5, 6, 7, 8] rfl
    have hD9 := hD.sub (ws' := [(au, .inr (0, [.int (nI nc), .int (nI np), .int (nI ne), .int st0, .ref q4, .ref q5, .ref q6, .ref q7, .ref q8, .ref q9, .ref q10, .ref q11, .ref q12, .ref q13, .ref q14, .ref q15, .ref q16])), (q6, .inl (k6, 14, .inl f6)), (q7, .inl (k7, 14, .inl f7)), (q8, .inl (k8, 22, .inl f8)), (q9, .inl (k9, 88, .inl f9)), (q12, .inl (k12, 88, .inl f12)), (q13, .inl (k13, 88, .inl f13)), (z, .inr (7, [.ref zc, .int (nI n)])), (zc, .inl (cI, N, .inl g_2))]) [2, 0, 1, 3, 4, 5, 6, 7, 8] (by decide) rfl
    have hK9 := hK.sub (tys' := [(k6, .int), (k7, .int), (k8, .int), (k9, .int), (k12, .int), (k13, .int), (cI, .int)]) [0, 1, 2, 3, 4, 5, 6] rfl
    exact W.zret (v := 0) (ty := .boolean) hx hb hr rfl (fun t ht hW => ⟨⟨0, (), rfl, trivial, ⟨g_2, by rw [ht]; exact hP9, va_K.moved hW.alike hK9, hD9⟩⟩, hS.F ht⟩) hS.2.2 dX0_opensIn_38
  · refine lv_aload_n hx hb dX0_opensIn_10 rfl (lv_at hl 0 rfl) ?_
    refine lv_aload_n hx hb dX0_opensIn_11 rfl (lv_at hl 1 rfl) ?_
    refine lv_aload_n hx hb dX0_opensIn_12 rfl (lv_at hl 0 rfl) ?_
    refine va_get (D := (dC, dI)) (ci := 0) (v := .ref q6) (C := RX0) (T := TX0) (N := 17) hx hb hts hiX0 hown hK hP 2 rfl rfl 6 (by decide) v_21 (fun _ h9 => h9) rfl dX0_opensIn_13 ?_
    refine lv_iload_n hx hb dX0_opensIn_16 rfl (lv_at hl 2 rfl) ?_
    refine va_iald hx hb hK hP 0 0 rfl rfl (vp_in_nI (n := i) (by first | omega | exact ix_lt (by omega) (by omega) hn | exact ix_lt0 (by omega) hn | exact ix_ltq (by omega) hn | exact ix_lt1 (by omega) hn) (by omega)) dX0_opensIn_17 ?_
    refine lv_topi (fun y_4 ey_4 => ?_)
    have ey_4 : y_4 = f6 i := ey_4.trans (congrArg f6 (nI_clamp (n := i) (by omega)))
    obtain ⟨eq_5, hq_6, ee_7⟩ := h6 i (by omega)
    obtain rfl : y_4 = nI eq_5 := ey_4.trans ee_7
    refine va_calli (va_runS (As := [.int (nI eq_5)]) (rest := [.ref z, .ref au]) ⟨hx, hb, hml, hown, hts⟩ (c_X0_hostOfPlace l dC dI _ eq_5) (va_cwS 1 hts g_X0_opensIn_X0_hostOfPlace rfl rfl rfl (by decide +kernel) ⟨Nat.le_of_ble_eq_true rfl, Nat.le_of_ble_eq_true rfl⟩) ⟨pu_bl, pu_in (hP.sub [] rfl) (hK.sub [] rfl) (hD.sub [] (by decide) rfl)⟩ rfl rfl hl.1 rfl (lv_room (Nat.le_of_ble_eq_true rfl)) dX0_opensIn_18 ⟨Nat.le_of_ble_eq_true rfl, Nat.le_of_ble_eq_true rfl⟩) hS (fun q _ h => pu_fr hS hA q h) (pu_fr hS hA) (fun r_8 u t H1 locs ht hvm hw hB hz1 hk1 hS => ?_)
    have hP := pu_keep hP hk1
    clear hk1 hz1 ht hvm
    generalize H1 = H at hP hS ⊢
    obtain rfl : r_8 = (nI (14 + eq_5)) := hw
    refine lv_aload_n hx hb dX0_opensIn_21 rfl (lv_at hl 0 rfl) ?_
    refine va_get (D := (dC, dI)) (ci := 0) (v := .ref q7) (C := RX0) (T := TX0) (N := 17) hx hb hts hiX0 hown hK hP 2 rfl rfl 7 (by decide) v_25 (fun _ h9 => h9) rfl dX0_opensIn_22 ?_
    refine lv_iload_n hx hb dX0_opensIn_25 rfl (lv_at hl 2 rfl) ?_
    refine va_iald hx hb hK hP 1 1 rfl rfl (vp_in_nI (n := i) (by first | omega | exact ix_lt (by omega) (by omega) hn | exact ix_lt0 (by omega) hn | exact ix_ltq (by omega) hn | exact ix_lt1 (by omega) hn) (by omega)) dX0_opensIn_26 ?_
    have hFc := va_free (wc := [(au, .inr (0, [.int (nI nc), .int (nI np), .int (nI ne), .int st0, .ref q4, .ref q5, .ref q6, .ref q7, .ref q8, .ref q9, .ref q10, .ref q11, .ref q12, .ref q13, .ref q14, .ref q15, .ref q16])), (q8, .inl (k8, 22, .inl f8)), (q9, .inl (k9, 88, .inl f9)), (q12, .inl (k12, 88, .inl f12)), (q13, .inl (k13, 88, .inl f13)), (z, .inr (7, [.ref zc, .int (nI n)])), (zc, .inl (cI, N, .inl g_2))]) hD hS hA [2, 3, 4, 5, 6, 7, 8] rfl
    refine va_calli (va_runV (As := [.ref z, .int (nI (14 + eq_5)), .int (f7 ((nI i)).toNatClampNeg)]) (rest := []) ⟨hx, hb, hml, hown, hts⟩ (c_X0_narrowTo l dC dI _ au q4 q5 q6 q7 q8 q9 q10 q11 q12 q13 q14 q15 q16 nc np ne st0 k8 k9 k12 k13 f8 f9 f12 f13 z zc cI n N g_2 hn hN hc hz (14 + eq_5) (by omega) (f7 ((nI i)).toNatClampNeg)) (cwV 3 hts g_X0_opensIn_X0_narrowTo rfl rfl rfl (by decide +kernel) ⟨Nat.le_of_ble_eq_true rfl, Nat.le_of_ble_eq_true rfl⟩) ⟨pu_bl, va_recv hK hP (ci := 0) (q0 := 2) rfl rfl, pu_in (hP.sub [2, 3, 4, 5, 6, 7, 8] rfl) (hK.sub [2, 3, 4, 5, 6] rfl) (hD.sub [2, 3, 4, 5, 6, 7, 8] (by decide) rfl)⟩ rfl rfl hl.1 rfl (lv_room (Nat.le_of_ble_eq_true rfl)) dX0_opensIn_27 ⟨Nat.le_of_ble_eq_true rfl, Nat.le_of_ble_eq_true rfl⟩) hS (fun q _ h => hFc q h) hFc (fun r_9 u t H1 locs ht hvm hw hB hz1 hk1 hS => ?_)
    obtain ⟨g_10, ⟨hP1, hK1, hD1⟩⟩ := hB
    rw [ht] at hP1
    have hK1 := va_K.moved hvm.symm hK1
    obtain ⟨hP, hD⟩ := va_join (wr := [(q6, .inl (k6, 14, .inl f6)), (q7, .inl (k7, 14, .inl f7))]) (w1 := [(au, .inr (0, [.int (nI nc), .int (nI np), .int (nI ne), .int st0, .ref q4, .ref q5, .ref q6, .ref q7, .ref q8, .ref q9, .ref q10, .ref q11, .ref q12, .ref q13, .ref q14, .ref q15, .ref q16])), (q8, .inl (k8, 22, .inl f8)), (q9, .inl (k9, 88, .inl f9)), (q12, .inl (k12, 88, .inl f12)), (q13, .inl (k13, 88, .inl f13)), (z, .inr (7, [.ref zc, .int (nI n)])), (zc, .inl (cI, N, .inl g_10))]) hP hD [2, 3, 4, 5, 6, 7, 8] [0, 1] rfl rfl (by decide) (by decide) hk1 hFc hP1 hD1
    have hK := hK.app hK1
    clear hk1 hz1 ht hvm
    generalize H1 = H at hP hS ⊢
    have hP : va_P (dC, dI) vwCl [(q6, .inl (k6, 14, .inl f6)), (q7, .inl (k7, 14, .inl f7)), (au, .inr (0, [.int (nI nc), .int (nI np), .int (nI ne), .int st0, .ref q4, .ref q5, .ref q6, .ref q7, .ref q8, .ref q9, .ref q10, .ref q11, .ref q12, .ref q13, .ref q14, .ref q15, .ref q16])), (q8, .inl (k8, 22, .inl f8)), (q9, .inl (k9, 88, .inl f9)), (q12, .inl (k12, 88, .inl f12)), (q13, .inl (k13, 88, .inl f13)), (z, .inr (7, [.ref zc, .int (nI n)])), (zc, .inl (cI, N, .inl g_10))] H := hP
    have hD : va_D A [(q6, .inl (k6, 14, .inl f6)), (q7, .inl (k7, 14, .inl f7)), (au, .inr (0, [.int (nI nc), .int (nI np), .int (nI ne), .int st0, .ref q4, .ref q5, .ref q6, .ref q7, .ref q8, .ref q9, .ref q10, .ref q11, .ref q12, .ref q13, .ref q14, .ref q15, .ref q16])), (q8, .inl (k8, 22, .inl f8)), (q9, .inl (k9, 88, .inl f9)), (q12, .inl (k12, 88, .inl f12)), (q13, .inl (k13, 88, .inl f13)), (z, .inr (7, [.ref zc, .int (nI n)])), (zc, .inl (cI, N, .inl g_10))] := hD
    have hK : va_K (dC, dI) vwCl [(k6, .int), (k7, .int), (k8, .int), (k9, .int), (k12, .int), (k13, .int), (cI, .int), (k8, .int), (k9, .int), (k12, .int), (k13, .int), (cI, .int), (k8, .int), (k9, .int), (k12, .int), (k13, .int), (cI, .int)] s := hK
    refine lv_if_eq (tgt := 37) hx hb dX0_opensIn_30 (by decide) (fun c_11 => ?_) (fun c_11 => ?_)
    · refine lv_iconst (v := 0) hx hb dX0_opensIn_37 (by decide) ?_
      have hP9 := hP.sub (ws' := [(au, .inr (0, [.int (nI nc), .int (nI np), .int (nI ne), .int st0, .ref q4, .ref q5, .ref q6, .ref q7, .ref q8, .ref q9, .ref q10, .ref q11, .ref q12, .ref q13, .ref q14, .ref q15, .ref q16])), (q6, .inl (k6, 14, .inl f6)), (q7, .inl (k7, 14, .inl f7)), (q8, .inl (k8, 22, .inl f8)), (q9, .inl (k9, 88, .inl f9)), (q12, .inl (k12, 88, .inl f12)), (q13, .inl (k13, 88, .inl f13)), (z, .inr (7, [.ref zc, .int (nI n)])), (zc, .inl (cI, N, .inl g_10))]) [2, 0, 1, 3, 4, 5, 6, 7, 8] rfl
      have hD9 := hD.sub (ws' := [(au, .inr (0, [.int (nI nc), .int (nI np), .int (nI ne), .int st0, .ref q4, .ref q5, .ref q6, .ref q7, .ref q8, .ref q9, .ref q10, .ref q11, .ref q12, .ref q13, .ref q14, .ref q15, .ref q16])), (q6, .inl (k6, 14, .inl f6)), (q7, .inl (k7, 14, .inl f7)), (q8, .inl (k8, 22, .inl f8)), (q9, .inl (k9, 88, .inl f9)), (q12, .inl (k12, 88, .inl f12)), (q13, .inl (k13, 88, .inl f13)), (z, .inr (7, [.ref zc, .int (nI n)])), (zc, .inl (cI, N, .inl g_10))]) [2, 0, 1, 3, 4, 5, 6, 7, 8] (by decide) rfl
      have hK9 := hK.sub (tys' := [(k6, .int), (k7, .int), (k8, .int), (k9, .int), (k12, .int), (k13, .int), (cI, .int)]) [0, 1, 2, 3, 4, 5, 6] rfl
      exact W.zret (v := 0) (ty := .boolean) hx hb hr rfl (fun t ht hW => ⟨⟨0, (), rfl, trivial, ⟨g_10, by rw [ht]; exact hP9, va_K.moved hW.alike hK9, hD9⟩⟩, hS.F ht⟩) hS.2.2 dX0_opensIn_38
    · refine lv_iconst (v := 1) hx hb dX0_opensIn_33 (by decide) ?_
      refine lv_goto (tgt := 38) hx hb dX0_opensIn_34 (by decide) ?_
      have hP9 := hP.sub (ws' := [(au, .inr (0, [.int (nI nc), .int (nI np), .int (nI ne), .int st0, .ref q4, .ref q5, .ref q6, .ref q7, .ref q8, .ref q9, .ref q10, .ref q11, .ref q12, .ref q13, .ref q14, .ref q15, .ref q16])), (q6, .inl (k6, 14, .inl f6)), (q7, .inl (k7, 14, .inl f7)), (q8, .inl (k8, 22, .inl f8)), (q9, .inl (k9, 88, .inl f9)), (q12, .inl (k12, 88, .inl f12)), (q13, .inl (k13, 88, .inl f13)), (z, .inr (7, [.ref zc, .int (nI n)])), (zc, .inl (cI, N, .inl g_10))]) [2, 0, 1, 3, 4, 5, 6, 7, 8] rfl
      have hD9 := hD.sub (ws' := [(au, .inr (0, [.int (nI nc), .int (nI np), .int (nI ne), .int st0, .ref q4, .ref q5, .ref q6, .ref q7, .ref q8, .ref q9, .ref q10, .ref q11, .ref q12, .ref q13, .ref q14, .ref q15, .ref q16])), (q6, .inl (k6, 14, .inl f6)), (q7, .inl (k7, 14, .inl f7)), (q8, .inl (k8, 22, .inl f8)), (q9, .inl (k9, 88, .inl f9)), (q12, .inl (k12, 88, .inl f12)), (q13, .inl (k13, 88, .inl f13)), (z, .inr (7, [.ref zc, .int (nI n)])), (zc, .inl (cI, N, .inl g_10))]) [2, 0, 1, 3, 4, 5, 6, 7, 8] (by decide) rfl
      have hK9 := hK.sub (tys' := [(k6, .int), (k7, .int), (k8, .int), (k9, .int), (k12, .int), (k13, .int), (cI, .int)]) [0, 1, 2, 3, 4, 5, 6] rfl
      exact W.zret (v := 1) (ty := .boolean) hx hb hr rfl (fun t ht hW => ⟨⟨1, (), rfl, trivial, ⟨g_10, by rw [ht]; exact hP9, va_K.moved hW.alike hK9, hD9⟩⟩, hS.F ht⟩) hS.2.2 dX0_opensIn_38
theorem dX0_setBackIn_0 : decode cX0_setBackIn 0 = .ok (.iconst 0, 1) := by decide +kernel
theorem dX0_setBackIn_1 : decode cX0_setBackIn 1 = .ok (.istore_n 3, 1) := by decide +kernel
theorem dX0_setBackIn_2 : decode cX0_setBackIn 2 = .ok (.iload_n 3, 1) := by decide +kernel
theorem dX0_setBackIn_3 : decode cX0_setBackIn 3 = .ok (.aload_n 0, 1) := by decide +kernel
theorem dX0_setBackIn_4 : decode cX0_setBackIn 4 = .ok (.getfield 56, 3) := by decide +kernel
theorem dX0_setBackIn_7 : decode cX0_setBackIn 7 = .ok (.if_icmp .ge 30, 3) := by decide +kernel
theorem dX0_setBackIn_10 : decode cX0_setBackIn 10 = .ok (.aload_n 0, 1) := by decide +kernel
theorem dX0_setBackIn_11 : decode cX0_setBackIn 11 = .ok (.getfield 26, 3) := by decide +kernel
theorem dX0_setBackIn_14 : decode cX0_setBackIn 14 = .ok (.iload_n 2, 1) := by decide +kernel
theorem dX0_setBackIn_15 : decode cX0_setBackIn 15 = .ok (.iaload, 1) := by decide +kernel
theorem dX0_setBackIn_16 : decode cX0_setBackIn 16 = .ok (.iload_n 3, 1) := by decide +kernel
theorem dX0_setBackIn_17 : decode cX0_setBackIn 17 = .ok (.ishr, 1) := by decide +kernel
theorem dX0_setBackIn_18 : decode cX0_setBackIn 18 = .ok (.iconst 1, 1) := by decide +kernel
theorem dX0_setBackIn_19 : decode cX0_setBackIn 19 = .ok (.iand, 1) := by decide +kernel
theorem dX0_setBackIn_20 : decode cX0_setBackIn 20 = .ok (.iconst 1, 1) := by decide +kernel
theorem dX0_setBackIn_21 : decode cX0_setBackIn 21 = .ok (.if_icmp .ne 10, 3) := by decide +kernel
theorem dX0_setBackIn_24 : decode cX0_setBackIn 24 = .ok (.aload_n 1, 1) := by decide +kernel
theorem dX0_setBackIn_25 : decode cX0_setBackIn 25 = .ok (.iload_n 3, 1) := by decide +kernel
theorem dX0_setBackIn_26 : decode cX0_setBackIn 26 = .ok (.iconst 1, 1) := by decide +kernel
theorem dX0_setBackIn_27 : decode cX0_setBackIn 27 = .ok (.iadd, 1) := by decide +kernel
theorem dX0_setBackIn_28 : decode cX0_setBackIn 28 = .ok (.invokevirtual 96, 3) := by decide +kernel
theorem dX0_setBackIn_31 : decode cX0_setBackIn 31 = .ok (.iinc 3 1, 3) := by decide +kernel
theorem dX0_setBackIn_34 : decode cX0_setBackIn 34 = .ok (.goto (-32), 3) := by decide +kernel
theorem dX0_setBackIn_37 : decode cX0_setBackIn 37 = .ok (.return_, 1) := by decide +kernel
def vs_X0_setBackIn : List Cond := .code yX0_setBackIn cX0_setBackIn 4 none :: ([.fieldLink RX0 56 "ClockReach$Automaton" "clocks" "I", .fieldLink RX0 26 "ClockReach$Automaton" "resets" "[I", .methodLink RX0 96 yX7_setBack, .instanceMethod yX7_setBack, .selects RX7 yX7_setBack yX7_setBack, .initialized RX7, .code yX7_setBack cX7_setBack 3 none, .fieldLink RX7 18 "ClockReach$Zone" "size" "I", .fieldLink RX7 11 "ClockReach$Zone" "cells" "[I"] ++ wsX00 ++ wsX70)
theorem g_X0_setBackIn_X7_setBack : GoodIn vs_X0_setBackIn (wsV RX0 96 RX7 yX7_setBack vs_X7_setBack) := goodIn_r _ [3, 4, 5, 6, 7, 8, 9, 27, 28] (by decide +kernel) (by decide +kernel)
set_option maxHeartbeats 4000000 in
set_option maxRecDepth 100000 in
theorem c_X0_setBackIn (l : Launch) (dC : Nat → ClassId) (dI : Nat → Nat → Nat) (sz : Nat) (au q4 q5 q6 q7 q8 q9 q10 q11 q12 q13 q14 q15 q16 : Nat) (nc np ne : Nat) (st0 : Int32) (k7 : ClassId) (f7 : Nat → Int32) (z zc : Nat) (cI : ClassId) (n N : Nat) (f : Nat → Int32) (hn : n * n ≤ N) (hN : N ≤ 25) (hz : nc + 1 ≤ n) (he : ne ≤ 14) (i : Nat) (hi : i < ne) : Met l yX0_setBackIn vs_X0_setBackIn ({ frames := 1, cells := 0, slots := 0, locals := 22 }) (va_Pc [.ref au, .ref z, .int (nI i)] (pu_B (dC, dI) [(au, .inr (0, [.int (nI nc), .int (nI np), .int (nI ne), .int st0, .ref q4, .ref q5, .ref q6, .ref q7, .ref q8, .ref q9, .ref q10, .ref q11, .ref q12, .ref q13, .ref q14, .ref q15, .ref q16])), (q7, .inl (k7, 14, .inl f7)), (z, .inr (7, [.ref zc, .int (nI n)])), (zc, .inl (cI, N, .inl f))] [(k7, .int), (cI, .int)] sz)) (va_Qv (fun (_ : Unit) => True) (fun _ t => ∃ (g : Nat → Int32), pu_E (dC, dI) [(au, .inr (0, [.int (nI nc), .int (nI np), .int (nI ne), .int st0, .ref q4, .ref q5, .ref q6, .ref q7, .ref q8, .ref q9, .ref q10, .ref q11, .ref q12, .ref q13, .ref q14, .ref q15, .ref q16])), (q7, .inl (k7, 14, .inl f7)), (z, .inr (7, [.ref zc, .int (nI n)])), (zc, .inl (cI, N, .inl g))] [(k7, .int), (cI, .int)] (va_A ([(au, .inr (0, [.int (nI nc), .int (nI np), .int (nI ne), .int st0, .ref q4, .ref q5, .ref q6, .ref q7, .ref q8, .ref q9, .ref q10, .ref q11, .ref q12, .ref q13, .ref q14, .ref q15, .ref q16])), (q7, .inl (k7, 14, .inl f7)), (z, .inr (7, [.ref zc, .int (nI n)])), (zc, .inl (cI, N, .inl f))]) sz) t) (va_A ([(au, .inr (0, [.int (nI nc), .int (nI np), .int (nI ne), .int st0, .ref q4, .ref q5, .ref q6, .ref q7, .ref q8, .ref q9, .ref q10, .ref q11, .ref q12, .ref q13, .ref q14, .ref q15, .ref q16])), (q7, .inl (k7, 14, .inl f7)), (z, .inr (7, [.ref zc, .int (nI n)])), (zc, .inl (cI, N, .inl f))]) sz)) 0 0 (va_A ([(au, .inr (0, [.int (nI nc), .int (nI np), .int (nI ne), .int st0, .ref q4, .ref q5, .ref q6, .ref q7, .ref q8, .ref q9, .ref q10, .ref q11, .ref q12, .ref q13, .ref q14, .ref q15, .ref q16])), (q7, .inl (k7, 14, .inl f7)), (z, .inr (7, [.ref zc, .int (nI n)])), (zc, .inl (cI, N, .inl f))]) sz) := by
  refine Met.ofW (cc := cX0_setBackIn) (maxL := 4) (ret := none) (by decide) rfl ?_
  intro p e s m args below meth c s₁ B hml hv
  obtain ⟨rfl, rfl, hP, hK, hD0⟩ := hv
  have hx := B.exec
  have hb := B.bytes
  have hr := B.returns
  have hts := atoms_spec (ws := vs_X0_setBackIn) B.pre
  have v_1 := hts (.fieldLink RX0 56 "ClockReach$Automaton" "clocks" "I") (List.mem_of_getElem? (i := 1) rfl)
  have v_2 := hts (.fieldLink RX0 26 "ClockReach$Automaton" "resets" "[I") (List.mem_of_getElem? (i := 2) rfl)
  have hown : s.vm.findClass RX0 = some m.cls := findClass_of_methodNamed B.named
  have hlocks := B.notSynchronized
  have hiX0 : ∀ w ∈ wsX00, w ∈ vs_X0_setBackIn := fun _ h => List.mem_cons_of_mem _ (List.mem_append_left _ (List.mem_append_right _ h))
  have hD := hD0.self (sz := s.heap.size)
  generalize hAe : va_A ([(au, .inr (0, [.int (nI nc), .int (nI np), .int (nI ne), .int st0, .ref q4, .ref q5, .ref q6, .ref q7, .ref q8, .ref q9, .ref q10, .ref q11, .ref q12, .ref q13, .ref q14, .ref q15, .ref q16])), (q7, .inl (k7, 14, .inl f7)), (z, .inr (7, [.ref zc, .int (nI n)])), (zc, .inl (cI, N, .inl f))]) s.heap.size = A at hD ⊢
  have hA : ∀ q : Nat, s.heap.size ≤ q → A q := fun q h => by rw [← hAe]; exact Or.inr h
  have hS : va_S A s.heap s.heap [] := va_S.rf
  have hl := lv_entry ([.ref au, .ref z, .int (nI i)]) (n := 4) (Nat.le_of_ble_eq_true rfl)
  rw [lg_entry_eq]
  generalize (lg_sl ([.ref au, .ref z, .int (nI i)]) ++ List.replicate (4 - (lg_sl ([.ref au, .ref z, .int (nI i)])).length) Slot.unset).toArray = ls at hl ⊢
  have hl : lv_has ls 4 [(0, .ref au), (1, .ref z), (2, .int (nI i))] := hl
  have hn5 := zn_5 hn hN
  have hnq := zn_q hn hN
  refine lv_iconst (v := 0) hx hb dX0_setBackIn_0 (by decide) ?_
  refine lv_istore_n (lv' := [(3, .int 0), (0, .ref au), (1, .ref z), (2, .int (nI i))]) hx hb dX0_setBackIn_1 rfl hl (by decide) rfl (fun ls hl => ?_)
  refine pu_loop (nc) (fun ii H locs ls => ∃ f0 : Nat → Int32, va_P (dC, dI) vwCl [(au, .inr (0, [.int (nI nc), .int (nI np), .int (nI ne), .int st0, .ref q4, .ref q5, .ref q6, .ref q7, .ref q8, .ref q9, .ref q10, .ref q11, .ref q12, .ref q13, .ref q14, .ref q15, .ref q16])), (q7, .inl (k7, 14, .inl f7)), (z, .inr (7, [.ref zc, .int (nI n)])), (zc, .inl (cI, N, .inl f0))] H ∧ va_D A [(au, .inr (0, [.int (nI nc), .int (nI np), .int (nI ne), .int st0, .ref q4, .ref q5, .ref q6, .ref q7, .ref q8, .ref q9, .ref q10, .ref q11, .ref q12, .ref q13, .ref q14, .ref q15, .ref q16])), (q7, .inl (k7, 14, .inl f7)), (z, .inr (7, [.ref zc, .int (nI n)])), (zc, .inl (cI, N, .inl f0))] ∧ va_S A s.heap H locs ∧ lv_has ls 4 [(0, .ref au), (1, .ref z), (2, .int (nI i)), (3, .int (nI ii))]) (fun _ => 0) (fun _ => 0) 2 [] ?_ ?_ _ _ _ ⟨_, hP, hD, hS, lv_sub hl [1, 2, 3, 0] rfl⟩
  · rintro H locs ls ⟨f_1, hP, hD, hS, hl⟩
    refine lv_iload_n hx hb dX0_setBackIn_2 rfl (lv_at hl 3 rfl) ?_
    refine lv_aload_n hx hb dX0_setBackIn_3 rfl (lv_at hl 0 rfl) ?_
    refine va_get (D := (dC, dI)) (ci := 0) (v := .int (nI nc)) (C := RX0) (T := TX0) (N := 17) hx hb hts hiX0 hown hK hP 0 rfl rfl 0 (by decide) v_1 (fun _ h9 => h9) rfl dX0_setBackIn_4 ?_
    refine lv_icmp_ge (tgt := 37) hx hb dX0_setBackIn_7 (by decide) (fun _ => ?_) (fun z => absurd (nI_le (a := nc) (b := nc) (by omega) (by omega)) z)
    have hP9 := hP.sub (ws' := [(au, .inr (0, [.int (nI nc), .int (nI np), .int (nI ne), .int st0, .ref q4, .ref q5, .ref q6, .ref q7, .ref q8, .ref q9, .ref q10, .ref q11, .ref q12, .ref q13, .ref q14, .ref q15, .ref q16])), (q7, .inl (k7, 14, .inl f7)), (z, .inr (7, [.ref zc, .int (nI n)])), (zc, .inl (cI, N, .inl f_1))]) [0, 1, 2, 3] rfl
    have hD9 := hD.sub (ws' := [(au, .inr (0, [.int (nI nc), .int (nI np), .int (nI ne), .int st0, .ref q4, .ref q5, .ref q6, .ref q7, .ref q8, .ref q9, .ref q10, .ref q11, .ref q12, .ref q13, .ref q14, .ref q15, .ref q16])), (q7, .inl (k7, 14, .inl f7)), (z, .inr (7, [.ref zc, .int (nI n)])), (zc, .inl (cI, N, .inl f_1))]) [0, 1, 2, 3] (by decide) rfl
    have hK9 := hK.sub (tys' := [(k7, .int), (cI, .int)]) [0, 1] rfl
    exact W.vret hx hb hr (fun t ht hW => ⟨⟨(), rfl, trivial, ⟨f_1, by rw [ht]; exact hP9, va_K.moved hW.alike hK9, hD9⟩⟩, hS.F ht⟩) hS.2.2 dX0_setBackIn_37
  · rintro i_2 h_3 ih_4 H locs ls ⟨f_1, hP, hD, hS, hl⟩
    refine lv_iload_n hx hb dX0_setBackIn_2 rfl (lv_at hl 3 rfl) ?_
    refine lv_aload_n hx hb dX0_setBackIn_3 rfl (lv_at hl 0 rfl) ?_
    refine va_get (D := (dC, dI)) (ci := 0) (v := .int (nI nc)) (C := RX0) (T := TX0) (N := 17) hx hb hts hiX0 hown hK hP 0 rfl rfl 0 (by decide) v_1 (fun _ h9 => h9) rfl dX0_setBackIn_4 ?_
    refine lv_icmp_ge (tgt := 37) hx hb dX0_setBackIn_7 (by decide) (fun z => absurd z (nI_ge (a := i_2) (b := nc) (by omega) (by omega))) (fun _ => ?_)
    refine lv_aload_n hx hb dX0_setBackIn_10 rfl (lv_at hl 0 rfl) ?_
    refine va_get (D := (dC, dI)) (ci := 0) (v := .ref q7) (C := RX0) (T := TX0) (N := 17) hx hb hts hiX0 hown hK hP 0 rfl rfl 7 (by decide) v_2 (fun _ h9 => h9) rfl dX0_setBackIn_11 ?_
    refine lv_iload_n hx hb dX0_setBackIn_14 rfl (lv_at hl 2 rfl) ?_
    refine va_iald hx hb hK hP 1 0 rfl rfl (vp_in_nI (n := i) (by first | omega | exact ix_lt (by omega) (by omega) hn | exact ix_lt0 (by omega) hn | exact ix_ltq (by omega) hn | exact ix_lt1 (by omega) hn) (by omega)) dX0_setBackIn_15 ?_
    refine lv_iload_n hx hb dX0_setBackIn_16 rfl (lv_at hl 3 rfl) ?_
    refine lv_ishr hx hb dX0_setBackIn_17 ?_
    refine lv_iconst (v := 1) hx hb dX0_setBackIn_18 (by decide) ?_
    refine lv_iand hx hb dX0_setBackIn_19 ?_
    refine lv_iconst (v := 1) hx hb dX0_setBackIn_20 (by decide) ?_
    refine lv_icmp_ne (tgt := 31) hx hb dX0_setBackIn_21 (by decide) (fun c_5 => ?_) (fun c_5 => ?_)
    · refine lv_iinc (v := (nI (i_2 + 1))) (lv' := [(3, .int (nI (i_2 + 1))), (0, .ref au), (1, .ref z), (2, .int (nI i))]) hx hb dX0_setBackIn_31 hl (k := 3) rfl (nI_1 _) (by decide) rfl (fun ls hl => ?_)
      refine lv_goto (tgt := 2) hx hb dX0_setBackIn_34 (by decide) ?_
      exact ih_4 _ _ _ ⟨_, hP, hD, hS, lv_sub hl [1, 2, 3, 0] rfl⟩
    · refine lv_aload_n hx hb dX0_setBackIn_24 rfl (lv_at hl 1 rfl) ?_
      refine lv_iload_n hx hb dX0_setBackIn_25 rfl (lv_at hl 3 rfl) ?_
      refine lv_iconst (v := 1) hx hb dX0_setBackIn_26 (by decide) ?_
      refine lv_iadd hx hb dX0_setBackIn_27 ?_
      refine lv_topi (fun y_6 ey_6 => ?_)
      obtain rfl : y_6 = (nI (i_2 + 1)) := ey_6.trans (nI_add i_2 1)
      have hFc := va_free (wc := [(z, .inr (7, [.ref zc, .int (nI n)])), (zc, .inl (cI, N, .inl f_1))]) hD hS hA [2, 3] rfl
      refine va_callv (va_runV (As := [.int (nI (i_2 + 1))]) (rest := []) ⟨hx, hb, hml, hown, hts⟩ (c_X7_setBack l dC dI _ z zc cI n N f_1 hn hN (i_2 + 1) (by omega)) (cwV 1 hts g_X0_setBackIn_X7_setBack rfl rfl rfl (by decide +kernel) ⟨Nat.le_of_ble_eq_true rfl, Nat.le_of_ble_eq_true rfl⟩) ⟨pu_bl, va_recv hK hP (ci := 7) (q0 := 2) rfl rfl, pu_in (hP.sub [2, 3] rfl) (hK.sub [1] rfl) (hD.sub [2, 3] (by decide) rfl)⟩ rfl rfl hl.1 rfl (lv_room (Nat.le_of_ble_eq_true rfl)) dX0_setBackIn_28 ⟨Nat.le_of_ble_eq_true rfl, Nat.le_of_ble_eq_true rfl⟩) hS (fun q _ h => hFc q h) hFc (fun u t H1 locs ht hvm hw hB hz1 hk1 hS => ?_)
      obtain ⟨g_8, ⟨hP1, hK1, hD1⟩⟩ := hB
      rw [ht] at hP1
      have hK1 := va_K.moved hvm.symm hK1
      obtain ⟨hP, hD⟩ := va_join (wr := [(au, .inr (0, [.int (nI nc), .int (nI np), .int (nI ne), .int st0, .ref q4, .ref q5, .ref q6, .ref q7, .ref q8, .ref q9, .ref q10, .ref q11, .ref q12, .ref q13, .ref q14, .ref q15, .ref q16])), (q7, .inl (k7, 14, .inl f7))]) (w1 := [(z, .inr (7, [.ref zc, .int (nI n)])), (zc, .inl (cI, N, .inl g_8))]) hP hD [2, 3] [0, 1] rfl rfl (by decide) (by decide) hk1 hFc hP1 hD1
      have hK := hK.app hK1
      clear hk1 hz1 ht hvm
      generalize H1 = H at hP hS ⊢
      have hP : va_P (dC, dI) vwCl [(au, .inr (0, [.int (nI nc), .int (nI np), .int (nI ne), .int st0, .ref q4, .ref q5, .ref q6, .ref q7, .ref q8, .ref q9, .ref q10, .ref q11, .ref q12, .ref q13, .ref q14, .ref q15, .ref q16])), (q7, .inl (k7, 14, .inl f7)), (z, .inr (7, [.ref zc, .int (nI n)])), (zc, .inl (cI, N, .inl g_8))] H := hP
      have hD : va_D A [(au, .inr (0, [.int (nI nc), .int (nI np), .int (nI ne), .int st0, .ref q4, .ref q5, .ref q6, .ref q7, .ref q8, .ref q9, .ref q10, .ref q11, .ref q12, .ref q13, .ref q14, .ref q15, .ref q16])), (q7, .inl (k7, 14, .inl f7)), (z, .inr (7, [.ref zc, .int (nI n)])), (zc, .inl (cI, N, .inl g_8))] := hD
      have hK : va_K (dC, dI) vwCl [(k7, .int), (cI, .int), (cI, .int)] s := hK
      refine lv_iinc (v := (nI (i_2 + 1))) (lv' := [(3, .int (nI (i_2 + 1))), (0, .ref au), (1, .ref z), (2, .int (nI i))]) hx hb dX0_setBackIn_31 hl (k := 3) rfl (nI_1 _) (by decide) rfl (fun ls hl => ?_)
      refine lv_goto (tgt := 2) hx hb dX0_setBackIn_34 (by decide) ?_
      exact ih_4 _ _ _ ⟨_, hP, hD, hS, lv_sub hl [1, 2, 3, 0] rfl⟩
theorem dX0_stayIn_0 : decode cX0_stayIn 0 = .ok (.aload_n 0, 1) := by decide +kernel
theorem dX0_stayIn_1 : decode cX0_stayIn 1 = .ok (.getfield 15, 3) := by decide +kernel
theorem dX0_stayIn_4 : decode cX0_stayIn 4 = .ok (.iload_n 2, 1) := by decide +kernel
theorem dX0_stayIn_5 : decode cX0_stayIn 5 = .ok (.baload, 1) := by decide +kernel
theorem dX0_stayIn_6 : decode cX0_stayIn 6 = .ok (.ifCond .ne 18, 3) := by decide +kernel
theorem dX0_stayIn_9 : decode cX0_stayIn 9 = .ok (.aload_n 1, 1) := by decide +kernel
theorem dX0_stayIn_10 : decode cX0_stayIn 10 = .ok (.invokevirtual 99, 3) := by decide +kernel
theorem dX0_stayIn_13 : decode cX0_stayIn 13 = .ok (.aload_n 0, 1) := by decide +kernel
theorem dX0_stayIn_14 : decode cX0_stayIn 14 = .ok (.aload_n 1, 1) := by decide +kernel
theorem dX0_stayIn_15 : decode cX0_stayIn 15 = .ok (.iload_n 2, 1) := by decide +kernel
theorem dX0_stayIn_16 : decode cX0_stayIn 16 = .ok (.invokestatic 92, 3) := by decide +kernel
theorem dX0_stayIn_19 : decode cX0_stayIn 19 = .ok (.iconst 0, 1) := by decide +kernel
theorem dX0_stayIn_20 : decode cX0_stayIn 20 = .ok (.invokevirtual 88, 3) := by decide +kernel
theorem dX0_stayIn_23 : decode cX0_stayIn 23 = .ok (.pop, 1) := by decide +kernel
theorem dX0_stayIn_24 : decode cX0_stayIn 24 = .ok (.return_, 1) := by decide +kernel
def vs_X0_stayIn : List Cond := .code yX0_stayIn cX0_stayIn 3 none :: ([.fieldLink RX0 15 "ClockReach$Automaton" "hurried" "[Z", .methodLink RX0 99 yX7_delay, .instanceMethod yX7_delay, .selects RX7 yX7_delay yX7_delay, .initialized RX7, .code yX7_delay cX7_delay 2 none, .fieldLink RX7 18 "ClockReach$Zone" "size" "I", .fieldLink RX7 11 "ClockReach$Zone" "cells" "[I", .constant RX7 17 (2147483647), .methodLink RX0 92 yX0_hostOfPlace, .static yX0_hostOfPlace, .initialized RX0, .code yX0_hostOfPlace cX0_hostOfPlace 1 (some .int), .methodLink RX0 88 yX0_narrowTo, .instanceMethod yX0_narrowTo, .selects RX0 yX0_narrowTo yX0_narrowTo, .code yX0_narrowTo cX0_narrowTo 7 (some .boolean), .fieldLink RX0 29 "ClockReach$Automaton" "counts" "[I", .methodLink RX0 65 yX0_slot, .static yX0_slot, .code yX0_slot cX0_slot 2 (some .int), .fieldLink RX0 32 "ClockReach$Automaton" "conditionClocks" "[I", .fieldLink RX0 41 "ClockReach$Automaton" "ceilings" "[I", .methodLink RX0 84 yX7_narrow, .instanceMethod yX7_narrow, .selects RX7 yX7_narrow yX7_narrow, .code yX7_narrow cX7_narrow 10 (some .boolean), .fieldLink RX0 44 "ClockReach$Automaton" "floors" "[I"] ++ wsX00 ++ wsX70)
theorem g_X0_stayIn_X7_delay : GoodIn vs_X0_stayIn (wsV RX0 99 RX7 yX7_delay vs_X7_delay) := goodIn_r _ [2, 3, 4, 5, 6, 7, 8, 9, 46, 47] (by decide +kernel) (by decide +kernel)
theorem g_X0_stayIn_X0_hostOfPlace : GoodIn vs_X0_stayIn (va_wsS RX0 92 yX0_hostOfPlace vs_X0_hostOfPlace) := goodIn_r _ [10, 11, 12, 13] (by decide +kernel) (by decide +kernel)
theorem g_X0_stayIn_X0_narrowTo : GoodIn vs_X0_stayIn (wsV RX0 88 RX0 yX0_narrowTo vs_X0_narrowTo) := goodIn_r _ [14, 15, 16, 12, 17, 18, 19, 20, 12, 21, 22, 23, 24, 25, 26, 5, 27, 8, 7, 9, 28, 29, 30, 31, 32, 33, 34, 35, 36, 37, 38, 39, 40, 41, 42, 43, 44, 45, 46, 47] (by decide +kernel) (by decide +kernel)
set_option maxHeartbeats 4000000 in
set_option maxRecDepth 100000 in
theorem c_X0_stayIn (l : Launch) (dC : Nat → ClassId) (dI : Nat → Nat → Nat) (sz : Nat) (au q4 q5 q6 q7 q8 q9 q10 q11 q12 q13 q14 q15 q16 : Nat) (nc np ne : Nat) (st0 : Int32) (k4 k8 k9 k12 k13 : ClassId) (f4 f8 f9 f12 f13 : Nat → Int32) (z zc : Nat) (cI : ClassId) (n N : Nat) (f : Nat → Int32) (hn : n * n ≤ N) (hN : N ≤ 25) (hc : ao_c nc f8 f9) (hz : nc + 1 ≤ n) (hp : np ≤ 8) (i : Nat) (hi : i < np) : Met l yX0_stayIn vs_X0_stayIn ({ frames := 2, cells := 0, slots := 0, locals := 55 }) (va_Pc [.ref au, .ref z, .int (nI i)] (pu_B (dC, dI) [(au, .inr (0, [.int (nI nc), .int (nI np), .int (nI ne), .int st0, .ref q4, .ref q5, .ref q6, .ref q7, .ref q8, .ref q9, .ref q10, .ref q11, .ref q12, .ref q13, .ref q14, .ref q15, .ref q16])), (q4, .inl (k4, 8, .inl f4)), (q8, .inl (k8, 22, .inl f8)), (q9, .inl (k9, 88, .inl f9)), (q12, .inl (k12, 88, .inl f12)), (q13, .inl (k13, 88, .inl f13)), (z, .inr (7, [.ref zc, .int (nI n)])), (zc, .inl (cI, N, .inl f))] [(k4, .boolean), (k8, .int), (k9, .int), (k12, .int), (k13, .int), (cI, .int)] sz)) (va_Qv (fun (_ : Unit) => True) (fun _ t => ∃ (g : Nat → Int32), pu_E (dC, dI) [(au, .inr (0, [.int (nI nc), .int (nI np), .int (nI ne), .int st0, .ref q4, .ref q5, .ref q6, .ref q7, .ref q8, .ref q9, .ref q10, .ref q11, .ref q12, .ref q13, .ref q14, .ref q15, .ref q16])), (q4, .inl (k4, 8, .inl f4)), (q8, .inl (k8, 22, .inl f8)), (q9, .inl (k9, 88, .inl f9)), (q12, .inl (k12, 88, .inl f12)), (q13, .inl (k13, 88, .inl f13)), (z, .inr (7, [.ref zc, .int (nI n)])), (zc, .inl (cI, N, .inl g))] [(k4, .boolean), (k8, .int), (k9, .int), (k12, .int), (k13, .int), (cI, .int)] (va_A ([(au, .inr (0, [.int (nI nc), .int (nI np), .int (nI ne), .int st0, .ref q4, .ref q5, .ref q6, .ref q7, .ref q8, .ref q9, .ref q10, .ref q11, .ref q12, .ref q13, .ref q14, .ref q15, .ref q16])), (q4, .inl (k4, 8, .inl f4)), (q8, .inl (k8, 22, .inl f8)), (q9, .inl (k9, 88, .inl f9)), (q12, .inl (k12, 88, .inl f12)), (q13, .inl (k13, 88, .inl f13)), (z, .inr (7, [.ref zc, .int (nI n)])), (zc, .inl (cI, N, .inl f))]) sz) t) (va_A ([(au, .inr (0, [.int (nI nc), .int (nI np), .int (nI ne), .int st0, .ref q4, .ref q5, .ref q6, .ref q7, .ref q8, .ref q9, .ref q10, .ref q11, .ref q12, .ref q13, .ref q14, .ref q15, .ref q16])), (q4, .inl (k4, 8, .inl f4)), (q8, .inl (k8, 22, .inl f8)), (q9, .inl (k9, 88, .inl f9)), (q12, .inl (k12, 88, .inl f12)), (q13, .inl (k13, 88, .inl f13)), (z, .inr (7, [.ref zc, .int (nI n)])), (zc, .inl (cI, N, .inl f))]) sz)) 0 0 (va_A ([(au, .inr (0, [.int (nI nc), .int (nI np), .int (nI ne), .int st0, .ref q4, .ref q5, .ref q6, .ref q7, .ref q8, .ref q9, .ref q10, .ref q11, .ref q12, .ref q13, .ref q14, .ref q15, .ref q16])), (q4, .inl (k4, 8, .inl f4)), (q8, .inl (k8, 22, .inl f8)), (q9, .inl (k9, 88, .inl f9)), (q12, .inl (k12, 88, .inl f12)), (q13, .inl (k13, 88, .inl f13)), (z, .inr (7, [.ref zc, .int (nI n)])), (zc, .inl (cI, N, .inl f))]) sz) := by
  refine Met.ofW (cc := cX0_stayIn) (maxL := 3) (ret := none) (by decide) rfl ?_
  intro p e s m args below meth c s₁ B hml hv
  obtain ⟨rfl, rfl, hP, hK, hD0⟩ := hv
  have hx := B.exec
  have hb := B.bytes
  have hr := B.returns
  have hts := atoms_spec (ws := vs_X0_stayIn) B.pre
  have v_1 := hts (.fieldLink RX0 15 "ClockReach$Automaton" "hurried" "[Z") (List.mem_of_getElem? (i := 1) rfl)
  have hown : s.vm.findClass RX0 = some m.cls := findClass_of_methodNamed B.named
  have hlocks := B.notSynchronized
  have hiX0 : ∀ w ∈ wsX00, w ∈ vs_X0_stayIn := fun _ h => List.mem_cons_of_mem _ (List.mem_append_left _ (List.mem_append_right _ h))
  have hD := hD0.self (sz := s.heap.size)
  generalize hAe : va_A ([(au, .inr (0, [.int (nI nc), .int (nI np), .int (nI ne), .int st0, .ref q4, .ref q5, .ref q6, .ref q7, .ref q8, .ref q9, .ref q10, .ref q11, .ref q12, .ref q13, .ref q14, .ref q15, .ref q16])), (q4, .inl (k4, 8, .inl f4)), (q8, .inl (k8, 22, .inl f8)), (q9, .inl (k9, 88, .inl f9)), (q12, .inl (k12, 88, .inl f12)), (q13, .inl (k13, 88, .inl f13)), (z, .inr (7, [.ref zc, .int (nI n)])), (zc, .inl (cI, N, .inl f))]) s.heap.size = A at hD ⊢
  have hA : ∀ q : Nat, s.heap.size ≤ q → A q := fun q h => by rw [← hAe]; exact Or.inr h
  have hS : va_S A s.heap s.heap [] := va_S.rf
  have hl := lv_entry ([.ref au, .ref z, .int (nI i)]) (n := 3) (Nat.le_of_ble_eq_true rfl)
  rw [lg_entry_eq]
  generalize (lg_sl ([.ref au, .ref z, .int (nI i)]) ++ List.replicate (3 - (lg_sl ([.ref au, .ref z, .int (nI i)])).length) Slot.unset).toArray = ls at hl ⊢
  have hl : lv_has ls 3 [(0, .ref au), (1, .ref z), (2, .int (nI i))] := hl
  have hn5 := zn_5 hn hN
  have hnq := zn_q hn hN
  refine lv_aload_n hx hb dX0_stayIn_0 rfl (lv_at hl 0 rfl) ?_
  refine va_get (D := (dC, dI)) (ci := 0) (v := .ref q4) (C := RX0) (T := TX0) (N := 17) hx hb hts hiX0 hown hK hP 0 rfl rfl 4 (by decide) v_1 (fun _ h9 => h9) rfl dX0_stayIn_1 ?_
  refine lv_iload_n hx hb dX0_stayIn_4 rfl (lv_at hl 2 rfl) ?_
  refine va_zald hx hb hK hP 1 0 rfl rfl (vp_in_nI (n := i) (by first | omega | exact ix_lt (by omega) (by omega) hn | exact ix_lt0 (by omega) hn | exact ix_ltq (by omega) hn | exact ix_lt1 (by omega) hn) (by omega)) dX0_stayIn_5 ?_
  refine lv_if_ne (tgt := 24) hx hb dX0_stayIn_6 (by decide) (fun c_1 => ?_) (fun c_1 => ?_)
  · have hP9 := hP.sub (ws' := [(au, .inr (0, [.int (nI nc), .int (nI np), .int (nI ne), .int st0, .ref q4, .ref q5, .ref q6, .ref q7, .ref q8, .ref q9, .ref q10, .ref q11, .ref q12, .ref q13, .ref q14, .ref q15, .ref q16])), (q4, .inl (k4, 8, .inl f4)), (q8, .inl (k8, 22, .inl f8)), (q9, .inl (k9, 88, .inl f9)), (q12, .inl (k12, 88, .inl f12)), (q13, .inl (k13, 88, .inl f13)), (z, .inr (7, [.ref zc, .int (nI n)])), (zc, .inl (cI, N, .inl f))]) [0, 1, 2, 3, 4, 5, 6, 7] rfl
    have hD9 := hD.sub (ws' := [(au, .inr (0, [.int (nI nc), .int (nI np), .int (nI ne), .int st0, .ref q4, .ref q5, .ref q6, .ref q7, .ref q8, .ref q9, .ref q10, .ref q11, .ref q12, .ref q13, .ref q14, .ref q15, .ref q16])), (q4, .inl (k4, 8, .inl f4)), (q8, .inl (k8, 22, .inl f8)), (q9, .inl (k9, 88, .inl f9)), (q12, .inl (k12, 88, .inl f12)), (q13, .inl (k13, 88, .inl f13)), (z, .inr (7, [.ref zc, .int (nI n)])), (zc, .inl (cI, N, .inl f))]) [0, 1, 2, 3, 4, 5, 6, 7] (by decide) rfl
    have hK9 := hK.sub (tys' := [(k4, .boolean), (k8, .int), (k9, .int), (k12, .int), (k13, .int), (cI, .int)]) [0, 1, 2, 3, 4, 5] rfl
    exact W.vret hx hb hr (fun t ht hW => ⟨⟨(), rfl, trivial, ⟨f, by rw [ht]; exact hP9, va_K.moved hW.alike hK9, hD9⟩⟩, hS.F ht⟩) hS.2.2 dX0_stayIn_24
  · refine lv_aload_n hx hb dX0_stayIn_9 rfl (lv_at hl 1 rfl) ?_
    have hFc := va_free (wc := [(z, .inr (7, [.ref zc, .int (nI n)])), (zc, .inl (cI, N, .inl f))]) hD hS hA [6, 7] rfl
    refine va_callv (va_runV (As := []) (rest := []) ⟨hx, hb, hml, hown, hts⟩ (c_X7_delay l dC dI _ z zc cI n N f hn hN) (cwV 0 hts g_X0_stayIn_X7_delay rfl rfl rfl (by decide +kernel) ⟨Nat.le_of_ble_eq_true rfl, Nat.le_of_ble_eq_true rfl⟩) ⟨pu_bl, va_recv hK hP (ci := 7) (q0 := 6) rfl rfl, pu_in (hP.sub [6, 7] rfl) (hK.sub [5] rfl) (hD.sub [6, 7] (by decide) rfl)⟩ rfl rfl hl.1 rfl (lv_room (Nat.le_of_ble_eq_true rfl)) dX0_stayIn_10 ⟨Nat.le_of_ble_eq_true rfl, Nat.le_of_ble_eq_true rfl⟩) hS (fun q _ h => hFc q h) hFc (fun u t H1 locs ht hvm hw hB hz1 hk1 hS => ?_)
    obtain ⟨g_3, ⟨hP1, hK1, hD1⟩⟩ := hB
    rw [ht] at hP1
    have hK1 := va_K.moved hvm.symm hK1
    obtain ⟨hP, hD⟩ := va_join (wr := [(au, .inr (0, [.int (nI nc), .int (nI np), .int (nI ne), .int st0, .ref q4, .ref q5, .ref q6, .ref q7, .ref q8, .ref q9, .ref q10, .ref q11, .ref q12, .ref q13, .ref q14, .ref q15, .ref q16])), (q4, .inl (k4, 8, .inl f4)), (q8, .inl (k8, 22, .inl f8)), (q9, .inl (k9, 88, .inl f9)), (q12, .inl (k12, 88, .inl f12)), (q13, .inl (k13, 88, .inl f13))]) (w1 := [(z, .inr (7, [.ref zc, .int (nI n)])), (zc, .inl (cI, N, .inl g_3))]) hP hD [6, 7] [0, 1, 2, 3, 4, 5] rfl rfl (by decide) (by decide) hk1 hFc hP1 hD1
    have hK := hK.app hK1
    clear hk1 hz1 ht hvm
    generalize H1 = H at hP hS ⊢
    have hP : va_P (dC, dI) vwCl [(au, .inr (0, [.int (nI nc), .int (nI np), .int (nI ne), .int st0, .ref q4, .ref q5, .ref q6, .ref q7, .ref q8, .ref q9, .ref q10, .ref q11, .ref q12, .ref q13, .ref q14, .ref q15, .ref q16])), (q4, .inl (k4, 8, .inl f4)), (q8, .inl (k8, 22, .inl f8)), (q9, .inl (k9, 88, .inl f9)), (q12, .inl (k12, 88, .inl f12)), (q13, .inl (k13, 88, .inl f13)), (z, .inr (7, [.ref zc, .int (nI n)])), (zc, .inl (cI, N, .inl g_3))] H := hP
    have hD : va_D A [(au, .inr (0, [.int (nI nc), .int (nI np), .int (nI ne), .int st0, .ref q4, .ref q5, .ref q6, .ref q7, .ref q8, .ref q9, .ref q10, .ref q11, .ref q12, .ref q13, .ref q14, .ref q15, .ref q16])), (q4, .inl (k4, 8, .inl f4)), (q8, .inl (k8, 22, .inl f8)), (q9, .inl (k9, 88, .inl f9)), (q12, .inl (k12, 88, .inl f12)), (q13, .inl (k13, 88, .inl f13)), (z, .inr (7, [.ref zc, .int (nI n)])), (zc, .inl (cI, N, .inl g_3))] := hD
    have hK : va_K (dC, dI) vwCl [(k4, .boolean), (k8, .int), (k9, .int), (k12, .int), (k13, .int), (cI, .int), (cI, .int)] s := hK
    refine lv_aload_n hx hb dX0_stayIn_13 rfl (lv_at hl 0 rfl) ?_
    refine lv_aload_n hx hb dX0_stayIn_14 rfl (lv_at hl 1 rfl) ?_
    refine lv_iload_n hx hb dX0_stayIn_15 rfl (lv_at hl 2 rfl) ?_
    refine va_calli (va_runS (As := [.int (nI i)]) (rest := [.ref z, .ref au]) ⟨hx, hb, hml, hown, hts⟩ (c_X0_hostOfPlace l dC dI _ i) (va_cwS 1 hts g_X0_stayIn_X0_hostOfPlace rfl rfl rfl (by decide +kernel) ⟨Nat.le_of_ble_eq_true rfl, Nat.le_of_ble_eq_true rfl⟩) ⟨pu_bl, pu_in (hP.sub [] rfl) (hK.sub [] rfl) (hD.sub [] (by decide) rfl)⟩ rfl rfl hl.1 rfl (lv_room (Nat.le_of_ble_eq_true rfl)) dX0_stayIn_16 ⟨Nat.le_of_ble_eq_true rfl, Nat.le_of_ble_eq_true rfl⟩) hS (fun q _ h => pu_fr hS hA q h) (pu_fr hS hA) (fun r_4 u t H1 locs ht hvm hw hB hz1 hk1 hS => ?_)
    have hP := pu_keep hP hk1
    clear hk1 hz1 ht hvm
    generalize H1 = H at hP hS ⊢
    obtain rfl : r_4 = (nI (14 + i)) := hw
    refine lv_iconst (v := 0) hx hb dX0_stayIn_19 (by decide) ?_
    have hFc := va_free (wc := [(au, .inr (0, [.int (nI nc), .int (nI np), .int (nI ne), .int st0, .ref q4, .ref q5, .ref q6, .ref q7, .ref q8, .ref q9, .ref q10, .ref q11, .ref q12, .ref q13, .ref q14, .ref q15, .ref q16])), (q8, .inl (k8, 22, .inl f8)), (q9, .inl (k9, 88, .inl f9)), (q12, .inl (k12, 88, .inl f12)), (q13, .inl (k13, 88, .inl f13)), (z, .inr (7, [.ref zc, .int (nI n)])), (zc, .inl (cI, N, .inl g_3))]) hD hS hA [0, 2, 3, 4, 5, 6, 7] rfl
    refine va_calli (va_runV (As := [.ref z, .int (nI (14 + i)), .int 0]) (rest := []) ⟨hx, hb, hml, hown, hts⟩ (c_X0_narrowTo l dC dI _ au q4 q5 q6 q7 q8 q9 q10 q11 q12 q13 q14 q15 q16 nc np ne st0 k8 k9 k12 k13 f8 f9 f12 f13 z zc cI n N g_3 hn hN hc hz (14 + i) (by omega) 0) (cwV 3 hts g_X0_stayIn_X0_narrowTo rfl rfl rfl (by decide +kernel) ⟨Nat.le_of_ble_eq_true rfl, Nat.le_of_ble_eq_true rfl⟩) ⟨pu_bl, va_recv hK hP (ci := 0) (q0 := 0) rfl rfl, pu_in (hP.sub [0, 2, 3, 4, 5, 6, 7] rfl) (hK.sub [1, 2, 3, 4, 5] rfl) (hD.sub [0, 2, 3, 4, 5, 6, 7] (by decide) rfl)⟩ rfl rfl hl.1 rfl (lv_room (Nat.le_of_ble_eq_true rfl)) dX0_stayIn_20 ⟨Nat.le_of_ble_eq_true rfl, Nat.le_of_ble_eq_true rfl⟩) hS (fun q _ h => hFc q h) hFc (fun r_5 u t H1 locs ht hvm hw hB hz1 hk1 hS => ?_)
    obtain ⟨g_6, ⟨hP1, hK1, hD1⟩⟩ := hB
    rw [ht] at hP1
    have hK1 := va_K.moved hvm.symm hK1
    obtain ⟨hP, hD⟩ := va_join (wr := [(q4, .inl (k4, 8, .inl f4))]) (w1 := [(au, .inr (0, [.int (nI nc), .int (nI np), .int (nI ne), .int st0, .ref q4, .ref q5, .ref q6, .ref q7, .ref q8, .ref q9, .ref q10, .ref q11, .ref q12, .ref q13, .ref q14, .ref q15, .ref q16])), (q8, .inl (k8, 22, .inl f8)), (q9, .inl (k9, 88, .inl f9)), (q12, .inl (k12, 88, .inl f12)), (q13, .inl (k13, 88, .inl f13)), (z, .inr (7, [.ref zc, .int (nI n)])), (zc, .inl (cI, N, .inl g_6))]) hP hD [0, 2, 3, 4, 5, 6, 7] [1] rfl rfl (by decide) (by decide) hk1 hFc hP1 hD1
    have hK := hK.app hK1
    clear hk1 hz1 ht hvm
    generalize H1 = H at hP hS ⊢
    have hP : va_P (dC, dI) vwCl [(q4, .inl (k4, 8, .inl f4)), (au, .inr (0, [.int (nI nc), .int (nI np), .int (nI ne), .int st0, .ref q4, .ref q5, .ref q6, .ref q7, .ref q8, .ref q9, .ref q10, .ref q11, .ref q12, .ref q13, .ref q14, .ref q15, .ref q16])), (q8, .inl (k8, 22, .inl f8)), (q9, .inl (k9, 88, .inl f9)), (q12, .inl (k12, 88, .inl f12)), (q13, .inl (k13, 88, .inl f13)), (z, .inr (7, [.ref zc, .int (nI n)])), (zc, .inl (cI, N, .inl g_6))] H := hP
    have hD : va_D A [(q4, .inl (k4, 8, .inl f4)), (au, .inr (0, [.int (nI nc), .int (nI np), .int (nI ne), .int st0, .ref q4, .ref q5, .ref q6, .ref q7, .ref q8, .ref q9, .ref q10, .ref q11, .ref q12, .ref q13, .ref q14, .ref q15, .ref q16])), (q8, .inl (k8, 22, .inl f8)), (q9, .inl (k9, 88, .inl f9)), (q12, .inl (k12, 88, .inl f12)), (q13, .inl (k13, 88, .inl f13)), (z, .inr (7, [.ref zc, .int (nI n)])), (zc, .inl (cI, N, .inl g_6))] := hD
    have hK : va_K (dC, dI) vwCl [(k4, .boolean), (k8, .int), (k9, .int), (k12, .int), (k13, .int), (cI, .int), (cI, .int), (k8, .int), (k9, .int), (k12, .int), (k13, .int), (cI, .int)] s := hK
    refine lv_pop hx hb dX0_stayIn_23 rfl ?_
    have hP9 := hP.sub (ws' := [(au, .inr (0, [.int (nI nc), .int (nI np), .int (nI ne), .int st0, .ref q4, .ref q5, .ref q6, .ref q7, .ref q8, .ref q9, .ref q10, .ref q11, .ref q12, .ref q13, .ref q14, .ref q15, .ref q16])), (q4, .inl (k4, 8, .inl f4)), (q8, .inl (k8, 22, .inl f8)), (q9, .inl (k9, 88, .inl f9)), (q12, .inl (k12, 88, .inl f12)), (q13, .inl (k13, 88, .inl f13)), (z, .inr (7, [.ref zc, .int (nI n)])), (zc, .inl (cI, N, .inl g_6))]) [1, 0, 2, 3, 4, 5, 6, 7] rfl
    have hD9 := hD.sub (ws' := [(au, .inr (0, [.int (nI nc), .int (nI np), .int (nI ne), .int st0, .ref q4, .ref q5, .ref q6, .ref q7, .ref q8, .ref q9, .ref q10, .ref q11, .ref q12, .ref q13, .ref q14, .ref q15, .ref q16])), (q4, .inl (k4, 8, .inl f4)), (q8, .inl (k8, 22, .inl f8)), (q9, .inl (k9, 88, .inl f9)), (q12, .inl (k12, 88, .inl f12)), (q13, .inl (k13, 88, .inl f13)), (z, .inr (7, [.ref zc, .int (nI n)])), (zc, .inl (cI, N, .inl g_6))]) [1, 0, 2, 3, 4, 5, 6, 7] (by decide) rfl
    have hK9 := hK.sub (tys' := [(k4, .boolean), (k8, .int), (k9, .int), (k12, .int), (k13, .int), (cI, .int)]) [0, 1, 2, 3, 4, 5] rfl
    exact W.vret hx hb hr (fun t ht hW => ⟨⟨(), rfl, trivial, ⟨g_6, by rw [ht]; exact hP9, va_K.moved hW.alike hK9, hD9⟩⟩, hS.F ht⟩) hS.2.2 dX0_stayIn_24
