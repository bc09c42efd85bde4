theorem dX7_init_0 : decode cX7_init 0 = .ok (.aload_n 0, 1) := by decide +kernel
theorem dX7_init_1 : decode cX7_init 1 = .ok (.invokespecial 5, 3) := by decide +kernel
theorem dX7_init_4 : decode cX7_init 4 = .ok (.aload_n 0, 1) := by decide +kernel
theorem dX7_init_5 : decode cX7_init 5 = .ok (.iload_n 1, 1) := by decide +kernel
theorem dX7_init_6 : decode cX7_init 6 = .ok (.iload_n 1, 1) := by decide +kernel
theorem dX7_init_7 : decode cX7_init 7 = .ok (.imul, 1) := by decide +kernel
theorem dX7_init_8 : decode cX7_init 8 = .ok (.newarray .int, 2) := by decide +kernel
theorem dX7_init_10 : decode cX7_init 10 = .ok (.putfield 11, 3) := by decide +kernel
theorem dX7_init_13 : decode cX7_init 13 = .ok (.return_, 1) := by decide +kernel
def vs_X7_init_4 : List Cond := .code yX7_init cX7_init 2 none :: ([.methodLink RX7 5 objectInit, .instanceMethod objectInit, .code objectInit ⟨#[0xb1]⟩ 1 none, .arrayClass .int, .fieldLink RX7 11 "ClockReach$Zone" "cells" "[I"] ++ wsX70)
set_option maxHeartbeats 4000000 in
set_option maxRecDepth 100000 in
theorem c_X7_init_4 (l : Launch) (dC : Nat → ClassId) (dI : Nat → Nat → Nat) (sz : Nat) (h0 : Nat) : Met l yX7_init vs_X7_init_4 ({ frames := 1, cells := 1, slots := 16, locals := 12 }) (va_Pc [.ref h0, .int 4] (pu_B (dC, dI) [(h0, .inr (7, [.null, .int 0]))] [] sz)) (va_Qv (fun (_ : Unit) => True) (fun _ t => ∃ (q1 : Nat) (k1 : ClassId), pu_E (dC, dI) [(h0, .inr (7, [.ref q1, .int 0])), (q1, .inl (k1, 16, .inl (fun _ => 0)))] [(k1, .int)] (va_A ([(h0, .inr (7, [.null, .int 0]))]) sz) t) (va_A ([(h0, .inr (7, [.null, .int 0]))]) sz)) 1 16 (va_A ([(h0, .inr (7, [.null, .int 0]))]) sz) := by
  refine Met.ofW (cc := cX7_init) (maxL := 2) (ret := none) (by decide) rfl ?_
  intro p e s m args below meth c s₁ B hml hv
  obtain ⟨rfl, rfl, hP, hK, hD0⟩ := hv
  have hx := B.exec
  have hb := B.bytes
  have hr := B.returns
  have hts := atoms_spec (ws := vs_X7_init_4) B.pre
  have v_1 := hts (.methodLink RX7 5 objectInit) (List.mem_of_getElem? (i := 1) rfl)
  have v_2 := hts (.instanceMethod objectInit) (List.mem_of_getElem? (i := 2) rfl)
  have v_3 := hts (.code objectInit ⟨#[0xb1]⟩ 1 none) (List.mem_of_getElem? (i := 3) rfl)
  have v_4 := hts (.arrayClass .int) (List.mem_of_getElem? (i := 4) rfl)
  have v_5 := hts (.fieldLink RX7 11 "ClockReach$Zone" "cells" "[I") (List.mem_of_getElem? (i := 5) rfl)
  have hown : s.vm.findClass RX7 = some m.cls := findClass_of_methodNamed B.named
  have hlocks := B.notSynchronized
  have hin : meth.name = "<init>" := (name_of_methodNamed B.named B.method).1
  have hiX7 : ∀ w ∈ wsX70, w ∈ vs_X7_init_4 := fun _ h => List.mem_cons_of_mem _ (List.mem_append_right _ h)
  have hD := hD0.self (sz := s.heap.size)
  generalize hAe : va_A ([(h0, .inr (7, [.null, .int 0]))]) s.heap.size = A at hD ⊢
  have hA : ∀ q : Nat, s.heap.size ≤ q → A q := fun q h => by rw [← hAe]; exact Or.inr h
  have hS : va_S A s.heap s.heap [] := va_S.rf
  have hl := lv_entry ([.ref h0, .int 4]) (n := 2) (Nat.le_of_ble_eq_true rfl)
  rw [lg_entry_eq]
  generalize (lg_sl ([.ref h0, .int 4]) ++ List.replicate (2 - (lg_sl ([.ref h0, .int 4])).length) Slot.unset).toArray = ls at hl ⊢
  have hl : lv_has ls 2 [(0, .ref h0), (1, .int 4)] := hl
  refine lv_aload_n hx hb dX7_init_0 rfl (lv_at hl 0 rfl) ?_
  refine W.objInit hx hb hown v_1 v_2 v_3 rfl (by rw [hml]; exact hl.1) rfl dX7_init_1 (Nat.le_of_ble_eq_true rfl) (Nat.le_of_ble_eq_true rfl) ?_
  refine W.eq (g2 := F0 m 4 ls []) rfl ?_
  refine lv_aload_n hx hb dX7_init_4 rfl (lv_at hl 0 rfl) ?_
  refine lv_iload_n hx hb dX7_init_5 rfl (lv_at hl 1 rfl) ?_
  refine lv_iload_n hx hb dX7_init_6 rfl (lv_at hl 1 rfl) ?_
  refine lv_imul hx hb dX7_init_7 ?_
  refine lv_topi (fun y_1 ey_1 => ?_)
  obtain rfl : y_1 = 16 := ey_1.trans (by decide)
  refine va_newa (atype := .int) (ty := .int) (N' := 16) (a0 := (16, .inl (fun _ => 0))) hx hb v_4 rfl hK hP hD hS hA (fun _ => rfl) (by decide) (by decide) (Nat.le_of_ble_eq_true rfl) (Nat.le_of_ble_eq_true rfl) (Nat.le_of_ble_eq_true rfl) dX7_init_8 (fun q_2 k_3 H hK hP hD hS => ?_)
  have hP : va_P (dC, dI) vwCl [(h0, .inr (7, [.null, .int 0])), (q_2, .inl (k_3, 16, .inl (fun _ => 0)))] H := hP
  have hD : va_D A [(h0, .inr (7, [.null, .int 0])), (q_2, .inl (k_3, 16, .inl (fun _ => 0)))] := hD
  have hK : va_K (dC, dI) vwCl [(k_3, .int)] s := hK
  refine W.widen (k := 1) (n := 16) (by omega) (by omega) ?_
  refine va_putF (D := (dC, dI)) (ci := 7) (v := .ref q_2) (ty := .array .int) (C := RX7) (T := TX7) (N := 2) hx hb hts hiX7 tyX7 tyX7_ok nmX7 hown hK hP hD hS 0 rfl rfl 0 (by decide) v_5 (fun _ h9 => h9) rfl hin rfl (by decide +kernel) rfl rfl (Nat.le_of_ble_eq_true rfl) dX7_init_10 (fun H locs hP hD hS => ?_)
  have hP : va_P (dC, dI) vwCl [(h0, .inr (7, [.ref q_2, .int 0])), (q_2, .inl (k_3, 16, .inl (fun _ => 0)))] H := hP
  have hD : va_D A [(h0, .inr (7, [.ref q_2, .int 0])), (q_2, .inl (k_3, 16, .inl (fun _ => 0)))] := hD
  refine W.widen (k := 1) (n := 16) (by first | omega | exact Nat.le_of_ble_eq_true rfl) (by first | omega | exact Nat.le_of_ble_eq_true rfl) ?_
  have hP9 := hP.sub (ws' := [(h0, .inr (7, [.ref q_2, .int 0])), (q_2, .inl (k_3, 16, .inl (fun _ => 0)))]) [0, 1] rfl
  have hD9 := hD.sub (ws' := [(h0, .inr (7, [.ref q_2, .int 0])), (q_2, .inl (k_3, 16, .inl (fun _ => 0)))]) [0, 1] (by decide) rfl
  have hK9 := hK.sub (tys' := [(k_3, .int)]) [0] rfl
  exact W.vret hx hb hr (fun t ht hW => ⟨⟨(), rfl, trivial, ⟨q_2, k_3, by rw [ht]; exact hP9, va_K.moved hW.alike hK9, hD9⟩⟩, hS.F ht⟩) hS.2.2 dX7_init_13
def vs_X7_init_5 : List Cond := .code yX7_init cX7_init 2 none :: ([.methodLink RX7 5 objectInit, .instanceMethod objectInit, .code objectInit ⟨#[0xb1]⟩ 1 none, .arrayClass .int, .fieldLink RX7 11 "ClockReach$Zone" "cells" "[I"] ++ wsX70)
set_option maxHeartbeats 4000000 in
set_option maxRecDepth 100000 in
theorem c_X7_init_5 (l : Launch) (dC : Nat → ClassId) (dI : Nat → Nat → Nat) (sz : Nat) (h0 : Nat) : Met l yX7_init vs_X7_init_5 ({ frames := 1, cells := 1, slots := 25, locals := 12 }) (va_Pc [.ref h0, .int 5] (pu_B (dC, dI) [(h0, .inr (7, [.null, .int 0]))] [] sz)) (va_Qv (fun (_ : Unit) => True) (fun _ t => ∃ (q1 : Nat) (k1 : ClassId), pu_E (dC, dI) [(h0, .inr (7, [.ref q1, .int 0])), (q1, .inl (k1, 25, .inl (fun _ => 0)))] [(k1, .int)] (va_A ([(h0, .inr (7, [.null, .int 0]))]) sz) t) (va_A ([(h0, .inr (7, [.null, .int 0]))]) sz)) 1 25 (va_A ([(h0, .inr (7, [.null, .int 0]))]) sz) := by
  refine Met.ofW (cc := cX7_init) (maxL := 2) (ret := none) (by decide) rfl ?_
  intro p e s m args below meth c s₁ B hml hv
  obtain ⟨rfl, rfl, hP, hK, hD0⟩ := hv
  have hx := B.exec
  have hb := B.bytes
  have hr := B.returns
  have hts := atoms_spec (ws := vs_X7_init_5) B.pre
  have v_1 := hts (.methodLink RX7 5 objectInit) (List.mem_of_getElem? (i := 1) rfl)
  have v_2 := hts (.instanceMethod objectInit) (List.mem_of_getElem? (i := 2) rfl)
  have v_3 := hts (.code objectInit ⟨#[0xb1]⟩ 1 none) (List.mem_of_getElem? (i := 3) rfl)
  have v_4 := hts (.arrayClass .int) (List.mem_of_getElem? (i := 4) rfl)
  have v_5 := hts (.fieldLink RX7 11 "ClockReach$Zone" "cells" "[I") (List.mem_of_getElem? (i := 5) rfl)
  have hown : s.vm.findClass RX7 = some m.cls := findClass_of_methodNamed B.named
  have hlocks := B.notSynchronized
  have hin : meth.name = "<init>" := (name_of_methodNamed B.named B.method).1
  have hiX7 : ∀ w ∈ wsX70, w ∈ vs_X7_init_5 := fun _ h => List.mem_cons_of_mem _ (List.mem_append_right _ h)
  have hD := hD0.self (sz := s.heap.size)
  generalize hAe : va_A ([(h0, .inr (7, [.null, .int 0]))]) s.heap.size = A at hD ⊢
  have hA : ∀ q : Nat, s.heap.size ≤ q → A q := fun q h => by rw [← hAe]; exact Or.inr h
  have hS : va_S A s.heap s.heap [] := va_S.rf
  have hl := lv_entry ([.ref h0, .int 5]) (n := 2) (Nat.le_of_ble_eq_true rfl)
  rw [lg_entry_eq]
  generalize (lg_sl ([.ref h0, .int 5]) ++ List.replicate (2 - (lg_sl ([.ref h0, .int 5])).length) Slot.unset).toArray = ls at hl ⊢
  have hl : lv_has ls 2 [(0, .ref h0), (1, .int 5)] := hl
  refine lv_aload_n hx hb dX7_init_0 rfl (lv_at hl 0 rfl) ?_
  refine W.objInit hx hb hown v_1 v_2 v_3 rfl (by rw [hml]; exact hl.1) rfl dX7_init_1 (Nat.le_of_ble_eq_true rfl) (Nat.le_of_ble_eq_true rfl) ?_
  refine W.eq (g2 := F0 m 4 ls []) rfl ?_
  refine lv_aload_n hx hb dX7_init_4 rfl (lv_at hl 0 rfl) ?_
  refine lv_iload_n hx hb dX7_init_5 rfl (lv_at hl 1 rfl) ?_
  refine lv_iload_n hx hb dX7_init_6 rfl (lv_at hl 1 rfl) ?_
  refine lv_imul hx hb dX7_init_7 ?_
  refine lv_topi (fun y_1 ey_1 => ?_)
  obtain rfl : y_1 = 25 := ey_1.trans (by decide)
  refine va_newa (atype := .int) (ty := .int) (N' := 25) (a0 := (25, .inl (fun _ => 0))) hx hb v_4 rfl hK hP hD hS hA (fun _ => rfl) (by decide) (by decide) (Nat.le_of_ble_eq_true rfl) (Nat.le_of_ble_eq_true rfl) (Nat.le_of_ble_eq_true rfl) dX7_init_8 (fun q_2 k_3 H hK hP hD hS => ?_)
  have hP : va_P (dC, dI) vwCl [(h0, .inr (7, [.null, .int 0])), (q_2, .inl (k_3, 25, .inl (fun _ => 0)))] H := hP
  have hD : va_D A [(h0, .inr (7, [.null, .int 0])), (q_2, .inl (k_3, 25, .inl (fun _ => 0)))] := hD
  have hK : va_K (dC, dI) vwCl [(k_3, .int)] s := hK
  refine W.widen (k := 1) (n := 25) (by omega) (by omega) ?_
  refine va_putF (D := (dC, dI)) (ci := 7) (v := .ref q_2) (ty := .array .int) (C := RX7) (T := TX7) (N := 2) hx hb hts hiX7 tyX7 tyX7_ok nmX7 hown hK hP hD hS 0 rfl rfl 0 (by decide) v_5 (fun _ h9 => h9) rfl hin rfl (by decide +kernel) rfl rfl (Nat.le_of_ble_eq_true rfl) dX7_init_10 (fun H locs hP hD hS => ?_)
  have hP : va_P (dC, dI) vwCl [(h0, .inr (7, [.ref q_2, .int 0])), (q_2, .inl (k_3, 25, .inl (fun _ => 0)))] H := hP
  have hD : va_D A [(h0, .inr (7, [.ref q_2, .int 0])), (q_2, .inl (k_3, 25, .inl (fun _ => 0)))] := hD
  refine W.widen (k := 1) (n := 25) (by first | omega | exact Nat.le_of_ble_eq_true rfl) (by first | omega | exact Nat.le_of_ble_eq_true rfl) ?_
  have hP9 := hP.sub (ws' := [(h0, .inr (7, [.ref q_2, .int 0])), (q_2, .inl (k_3, 25, .inl (fun _ => 0)))]) [0, 1] rfl
  have hD9 := hD.sub (ws' := [(h0, .inr (7, [.ref q_2, .int 0])), (q_2, .inl (k_3, 25, .inl (fun _ => 0)))]) [0, 1] (by decide) rfl
  have hK9 := hK.sub (tys' := [(k_3, .int)]) [0] rfl
  exact W.vret hx hb hr (fun t ht hW => ⟨⟨(), rfl, trivial, ⟨q_2, k_3, by rw [ht]; exact hP9, va_K.moved hW.alike hK9, hD9⟩⟩, hS.F ht⟩) hS.2.2 dX7_init_13
theorem dX0_init_0 : decode cX0_init 0 = .ok (.aload_n 0, 1) := by decide +kernel
theorem dX0_init_1 : decode cX0_init 1 = .ok (.invokespecial 3, 3) := by decide +kernel
theorem dX0_init_4 : decode cX0_init 4 = .ok (.aload_n 0, 1) := by decide +kernel
theorem dX0_init_5 : decode cX0_init 5 = .ok (.iconst (-1), 1) := by decide +kernel
theorem dX0_init_6 : decode cX0_init 6 = .ok (.putfield 9, 3) := by decide +kernel
theorem dX0_init_9 : decode cX0_init 9 = .ok (.aload_n 0, 1) := by decide +kernel
theorem dX0_init_10 : decode cX0_init 10 = .ok (.bipush 8, 2) := by decide +kernel
theorem dX0_init_12 : decode cX0_init 12 = .ok (.newarray .boolean, 2) := by decide +kernel
theorem dX0_init_14 : decode cX0_init 14 = .ok (.putfield 15, 3) := by decide +kernel
theorem dX0_init_17 : decode cX0_init 17 = .ok (.aload_n 0, 1) := by decide +kernel
theorem dX0_init_18 : decode cX0_init 18 = .ok (.bipush 14, 2) := by decide +kernel
theorem dX0_init_20 : decode cX0_init 20 = .ok (.newarray .int, 2) := by decide +kernel
theorem dX0_init_22 : decode cX0_init 22 = .ok (.putfield 19, 3) := by decide +kernel
theorem dX0_init_25 : decode cX0_init 25 = .ok (.aload_n 0, 1) := by decide +kernel
theorem dX0_init_26 : decode cX0_init 26 = .ok (.bipush 14, 2) := by decide +kernel
theorem dX0_init_28 : decode cX0_init 28 = .ok (.newarray .int, 2) := by decide +kernel
theorem dX0_init_30 : decode cX0_init 30 = .ok (.putfield 23, 3) := by decide +kernel
theorem dX0_init_33 : decode cX0_init 33 = .ok (.aload_n 0, 1) := by decide +kernel
theorem dX0_init_34 : decode cX0_init 34 = .ok (.bipush 14, 2) := by decide +kernel
theorem dX0_init_36 : decode cX0_init 36 = .ok (.newarray .int, 2) := by decide +kernel
theorem dX0_init_38 : decode cX0_init 38 = .ok (.putfield 26, 3) := by decide +kernel
theorem dX0_init_41 : decode cX0_init 41 = .ok (.aload_n 0, 1) := by decide +kernel
theorem dX0_init_42 : decode cX0_init 42 = .ok (.bipush 22, 2) := by decide +kernel
theorem dX0_init_44 : decode cX0_init 44 = .ok (.newarray .int, 2) := by decide +kernel
theorem dX0_init_46 : decode cX0_init 46 = .ok (.putfield 29, 3) := by decide +kernel
theorem dX0_init_49 : decode cX0_init 49 = .ok (.aload_n 0, 1) := by decide +kernel
theorem dX0_init_50 : decode cX0_init 50 = .ok (.bipush 88, 2) := by decide +kernel
theorem dX0_init_52 : decode cX0_init 52 = .ok (.newarray .int, 2) := by decide +kernel
theorem dX0_init_54 : decode cX0_init 54 = .ok (.putfield 32, 3) := by decide +kernel
theorem dX0_init_57 : decode cX0_init 57 = .ok (.aload_n 0, 1) := by decide +kernel
theorem dX0_init_58 : decode cX0_init 58 = .ok (.bipush 88, 2) := by decide +kernel
theorem dX0_init_60 : decode cX0_init 60 = .ok (.newarray .int, 2) := by decide +kernel
theorem dX0_init_62 : decode cX0_init 62 = .ok (.putfield 35, 3) := by decide +kernel
theorem dX0_init_65 : decode cX0_init 65 = .ok (.aload_n 0, 1) := by decide +kernel
theorem dX0_init_66 : decode cX0_init 66 = .ok (.bipush 88, 2) := by decide +kernel
theorem dX0_init_68 : decode cX0_init 68 = .ok (.newarray .int, 2) := by decide +kernel
theorem dX0_init_70 : decode cX0_init 70 = .ok (.putfield 38, 3) := by decide +kernel
theorem dX0_init_73 : decode cX0_init 73 = .ok (.aload_n 0, 1) := by decide +kernel
theorem dX0_init_74 : decode cX0_init 74 = .ok (.bipush 88, 2) := by decide +kernel
theorem dX0_init_76 : decode cX0_init 76 = .ok (.newarray .int, 2) := by decide +kernel
theorem dX0_init_78 : decode cX0_init 78 = .ok (.putfield 41, 3) := by decide +kernel
theorem dX0_init_81 : decode cX0_init 81 = .ok (.aload_n 0, 1) := by decide +kernel
theorem dX0_init_82 : decode cX0_init 82 = .ok (.bipush 88, 2) := by decide +kernel
theorem dX0_init_84 : decode cX0_init 84 = .ok (.newarray .int, 2) := by decide +kernel
theorem dX0_init_86 : decode cX0_init 86 = .ok (.putfield 44, 3) := by decide +kernel
theorem dX0_init_89 : decode cX0_init 89 = .ok (.aload_n 0, 1) := by decide +kernel
theorem dX0_init_90 : decode cX0_init 90 = .ok (.iconst 4, 1) := by decide +kernel
theorem dX0_init_91 : decode cX0_init 91 = .ok (.newarray .int, 2) := by decide +kernel
theorem dX0_init_93 : decode cX0_init 93 = .ok (.putfield 47, 3) := by decide +kernel
theorem dX0_init_96 : decode cX0_init 96 = .ok (.aload_n 0, 1) := by decide +kernel
theorem dX0_init_97 : decode cX0_init 97 = .ok (.iconst 4, 1) := by decide +kernel
theorem dX0_init_98 : decode cX0_init 98 = .ok (.newarray .int, 2) := by decide +kernel
theorem dX0_init_100 : decode cX0_init 100 = .ok (.putfield 50, 3) := by decide +kernel
theorem dX0_init_103 : decode cX0_init 103 = .ok (.aload_n 0, 1) := by decide +kernel
theorem dX0_init_104 : decode cX0_init 104 = .ok (.iconst 4, 1) := by decide +kernel
theorem dX0_init_105 : decode cX0_init 105 = .ok (.newarray .int, 2) := by decide +kernel
theorem dX0_init_107 : decode cX0_init 107 = .ok (.putfield 53, 3) := by decide +kernel
theorem dX0_init_110 : decode cX0_init 110 = .ok (.return_, 1) := by decide +kernel
def vs_X0_init : List Cond := .code yX0_init cX0_init 1 none :: ([.methodLink RX0 3 objectInit, .instanceMethod objectInit, .code objectInit ⟨#[0xb1]⟩ 1 none, .fieldLink RX0 9 "ClockReach$Automaton" "start" "I", .arrayClass .boolean, .fieldLink RX0 15 "ClockReach$Automaton" "hurried" "[Z", .arrayClass .int, .fieldLink RX0 19 "ClockReach$Automaton" "sources" "[I", .fieldLink RX0 23 "ClockReach$Automaton" "targets" "[I", .fieldLink RX0 26 "ClockReach$Automaton" "resets" "[I", .fieldLink RX0 29 "ClockReach$Automaton" "counts" "[I", .fieldLink RX0 32 "ClockReach$Automaton" "conditionClocks" "[I", .fieldLink RX0 35 "ClockReach$Automaton" "hows" "[I", .fieldLink RX0 38 "ClockReach$Automaton" "numbers" "[I", .fieldLink RX0 41 "ClockReach$Automaton" "ceilings" "[I", .fieldLink RX0 44 "ClockReach$Automaton" "floors" "[I", .fieldLink RX0 47 "ClockReach$Automaton" "greatest" "[I", .fieldLink RX0 50 "ClockReach$Automaton" "lower" "[I", .fieldLink RX0 53 "ClockReach$Automaton" "upper" "[I"] ++ wsX00)
set_option maxHeartbeats 4000000 in
set_option maxRecDepth 100000 in
theorem c_X0_init (l : Launch) (dC : Nat → ClassId) (dI : Nat → Nat → Nat) (sz : Nat) (h0 : Nat) : Met l yX0_init vs_X0_init ({ frames := 1, cells := 13, slots := 524, locals := 12 }) (va_Pc [.ref h0] (pu_B (dC, dI) [(h0, .inr (0, [.int 0, .int 0, .int 0, .int 0, .null, .null, .null, .null, .null, .null, .null, .null, .null, .null, .null, .null, .null]))] [] sz)) (va_Qv (fun (_ : Unit) => True) (fun _ t => ∃ (q1 q2 q3 q4 q5 q6 q7 q8 q9 q10 q11 q12 q13 : Nat) (k1 k2 k3 k4 k5 k6 k7 k8 k9 k10 k11 k12 k13 : ClassId), pu_E (dC, dI) [(h0, .inr (0, [.int 0, .int 0, .int 0, .int (-1), .ref q1, .ref q2, .ref q3, .ref q4, .ref q5, .ref q6, .ref q7, .ref q8, .ref q9, .ref q10, .ref q11, .ref q12, .ref q13])), (q1, .inl (k1, 8, .inl (fun _ => 0))), (q2, .inl (k2, 14, .inl (fun _ => 0))), (q3, .inl (k3, 14, .inl (fun _ => 0))), (q4, .inl (k4, 14, .inl (fun _ => 0))), (q5, .inl (k5, 22, .inl (fun _ => 0))), (q6, .inl (k6, 88, .inl (fun _ => 0))), (q7, .inl (k7, 88, .inl (fun _ => 0))), (q8, .inl (k8, 88, .inl (fun _ => 0))), (q9, .inl (k9, 88, .inl (fun _ => 0))), (q10, .inl (k10, 88, .inl (fun _ => 0))), (q11, .inl (k11, 4, .inl (fun _ => 0))), (q12, .inl (k12, 4, .inl (fun _ => 0))), (q13, .inl (k13, 4, .inl (fun _ => 0)))] [(k1, .boolean), (k2, .int), (k3, .int), (k4, .int), (k5, .int), (k6, .int), (k7, .int), (k8, .int), (k9, .int), (k10, .int), (k11, .int), (k12, .int), (k13, .int)] (va_A ([(h0, .inr (0, [.int 0, .int 0, .int 0, .int 0, .null, .null, .null, .null, .null, .null, .null, .null, .null, .null, .null, .null, .null]))]) sz) t) (va_A ([(h0, .inr (0, [.int 0, .int 0, .int 0, .int 0, .null, .null, .null, .null, .null, .null, .null, .null, .null, .null, .null, .null, .null]))]) sz)) 13 524 (va_A ([(h0, .inr (0, [.int 0, .int 0, .int 0, .int 0, .null, .null, .null, .null, .null, .null, .null, .null, .null, .null, .null, .null, .null]))]) sz) := by
  refine Met.ofW (cc := cX0_init) (maxL := 1) (ret := none) (by decide) rfl ?_
  intro p e s m args below meth c s₁ B hml hv
  obtain ⟨rfl, rfl, hP, hK, hD0⟩ := hv
  have hx := B.exec
  have hb := B.bytes
  have hr := B.returns
  have hts := atoms_spec (ws := vs_X0_init) B.pre
  have v_1 := hts (.methodLink RX0 3 objectInit) (List.mem_of_getElem? (i := 1) rfl)
  have v_2 := hts (.instanceMethod objectInit) (List.mem_of_getElem? (i := 2) rfl)
  have v_3 := hts (.code objectInit ⟨#[0xb1]⟩ 1 none) (List.mem_of_getElem? (i := 3) rfl)
  have v_4 := hts (.fieldLink RX0 9 "ClockReach$Automaton" "start" "I") (List.mem_of_getElem? (i := 4) rfl)
  have v_5 := hts (.arrayClass .boolean) (List.mem_of_getElem? (i := 5) rfl)
  have v_6 := hts (.fieldLink RX0 15 "ClockReach$Automaton" "hurried" "[Z") (List.mem_of_getElem? (i := 6) rfl)
  have v_7 := hts (.arrayClass .int) (List.mem_of_getElem? (i := 7) rfl)
  have v_8 := hts (.fieldLink RX0 19 "ClockReach$Automaton" "sources" "[I") (List.mem_of_getElem? (i := 8) rfl)
  have v_9 := hts (.fieldLink RX0 23 "ClockReach$Automaton" "targets" "[I") (List.mem_of_getElem? (i := 9) rfl)
  have v_10 := hts (.fieldLink RX0 26 "ClockReach$Automaton" "resets" "[I") (List.mem_of_getElem? (i := 10) rfl)
  have v_11 := hts (.fieldLink RX0 29 "ClockReach$Automaton" "counts" "[I") (List.mem_of_getElem? (i := 11) rfl)
  have v_12 := hts (.fieldLink RX0 32 "ClockReach$Automaton" "conditionClocks" "[I") (List.mem_of_getElem? (i := 12) rfl)
  have v_13 := hts (.fieldLink RX0 35 "ClockReach$Automaton" "hows" "[I") (List.mem_of_getElem? (i := 13) rfl)
  have v_14 := hts (.fieldLink RX0 38 "ClockReach$Automaton" "numbers" "[I") (List.mem_of_getElem? (i := 14) rfl)
  have v_15 := hts (.fieldLink RX0 41 "ClockReach$Automaton" "ceilings" "[I") (List.mem_of_getElem? (i := 15) rfl)
  have v_16 := hts (.fieldLink RX0 44 "ClockReach$Automaton" "floors" "[I") (List.mem_of_getElem? (i := 16) rfl)
  have v_17 := hts (.fieldLink RX0 47 "ClockReach$Automaton" "greatest" "[I") (List.mem_of_getElem? (i := 17) rfl)
  have v_18 := hts (.fieldLink RX0 50 "ClockReach$Automaton" "lower" "[I") (List.mem_of_getElem? (i := 18) rfl)
  have v_19 := hts (.fieldLink RX0 53 "ClockReach$Automaton" "upper" "[I") (List.mem_of_getElem? (i := 19) rfl)
  have hown : s.vm.findClass RX0 = some m.cls := findClass_of_methodNamed B.named
  have hlocks := B.notSynchronized
  have hin : meth.name = "<init>" := (name_of_methodNamed B.named B.method).1
  have hiX0 : ∀ w ∈ wsX00, w ∈ vs_X0_init := fun _ h => List.mem_cons_of_mem _ (List.mem_append_right _ h)
  have hD := hD0.self (sz := s.heap.size)
  generalize hAe : va_A ([(h0, .inr (0, [.int 0, .int 0, .int 0, .int 0, .null, .null, .null, .null, .null, .null, .null, .null, .null, .null, .null, .null, .null]))]) s.heap.size = A at hD ⊢
  have hA : ∀ q : Nat, s.heap.size ≤ q → A q := fun q h => by rw [← hAe]; exact Or.inr h
  have hS : va_S A s.heap s.heap [] := va_S.rf
  have hl := lv_entry ([.ref h0]) (n := 1) (Nat.le_of_ble_eq_true rfl)
  rw [lg_entry_eq]
  generalize (lg_sl ([.ref h0]) ++ List.replicate (1 - (lg_sl ([.ref h0])).length) Slot.unset).toArray = ls at hl ⊢
  have hl : lv_has ls 1 [(0, .ref h0)] := hl
  refine lv_aload_n hx hb dX0_init_0 rfl (lv_at hl 0 rfl) ?_
  refine W.objInit hx hb hown v_1 v_2 v_3 rfl (by rw [hml]; exact hl.1) rfl dX0_init_1 (Nat.le_of_ble_eq_true rfl) (Nat.le_of_ble_eq_true rfl) ?_
  refine W.eq (g2 := F0 m 4 ls []) rfl ?_
  refine lv_aload_n hx hb dX0_init_4 rfl (lv_at hl 0 rfl) ?_
  refine lv_iconst (v := (-1)) hx hb dX0_init_5 (by decide) ?_
  refine va_put (D := (dC, dI)) (ci := 0) (v := .int (-1)) (ty := .int) (C := RX0) (T := TX0) (N := 17) hx hb hts hiX0 tyX0 tyX0_ok nmX0 hown hK hP hD hS 0 rfl rfl 3 (by decide) v_4 (fun _ h9 => h9) rfl (by decide +kernel) rfl rfl (Nat.le_of_ble_eq_true rfl) dX0_init_6 (fun H locs hP hD hS => ?_)
  have hP : va_P (dC, dI) vwCl [(h0, .inr (0, [.int 0, .int 0, .int 0, .int (-1), .null, .null, .null, .null, .null, .null, .null, .null, .null, .null, .null, .null, .null]))] H := hP
  have hD : va_D A [(h0, .inr (0, [.int 0, .int 0, .int 0, .int (-1), .null, .null, .null, .null, .null, .null, .null, .null, .null, .null, .null, .null, .null]))] := hD
  refine lv_aload_n hx hb dX0_init_9 rfl (lv_at hl 0 rfl) ?_
  refine lv_bipush (v := 8) hx hb dX0_init_10 (by decide) ?_
  refine va_newa (atype := .boolean) (ty := .boolean) (N' := 8) (a0 := (8, .inl (fun _ => 0))) hx hb v_5 rfl hK hP hD hS hA (fun _ => rfl) (by decide) (by decide) (Nat.le_of_ble_eq_true rfl) (Nat.le_of_ble_eq_true rfl) (Nat.le_of_ble_eq_true rfl) dX0_init_12 (fun q_1 k_2 H hK hP hD hS => ?_)
  have hP : va_P (dC, dI) vwCl [(h0, .inr (0, [.int 0, .int 0, .int 0, .int (-1), .null, .null, .null, .null, .null, .null, .null, .null, .null, .null, .null, .null, .null])), (q_1, .inl (k_2, 8, .inl (fun _ => 0)))] H := hP
  have hD : va_D A [(h0, .inr (0, [.int 0, .int 0, .int 0, .int (-1), .null, .null, .null, .null, .null, .null, .null, .null, .null, .null, .null, .null, .null])), (q_1, .inl (k_2, 8, .inl (fun _ => 0)))] := hD
  have hK : va_K (dC, dI) vwCl [(k_2, .boolean)] s := hK
  refine W.widen (k := 1) (n := 8) (by omega) (by omega) ?_
  refine va_putF (D := (dC, dI)) (ci := 0) (v := .ref q_1) (ty := .array .boolean) (C := RX0) (T := TX0) (N := 17) hx hb hts hiX0 tyX0 tyX0_ok nmX0 hown hK hP hD hS 0 rfl rfl 4 (by decide) v_6 (fun _ h9 => h9) rfl hin rfl (by decide +kernel) rfl rfl (Nat.le_of_ble_eq_true rfl) dX0_init_14 (fun H locs hP hD hS => ?_)
  have hP : va_P (dC, dI) vwCl [(h0, .inr (0, [.int 0, .int 0, .int 0, .int (-1), .ref q_1, .null, .null, .null, .null, .null, .null, .null, .null, .null, .null, .null, .null])), (q_1, .inl (k_2, 8, .inl (fun _ => 0)))] H := hP
  have hD : va_D A [(h0, .inr (0, [.int 0, .int 0, .int 0, .int (-1), .ref q_1, .null, .null, .null, .null, .null, .null, .null, .null, .null, .null, .null, .null])), (q_1, .inl (k_2, 8, .inl (fun _ => 0)))] := hD
  refine lv_aload_n hx hb dX0_init_17 rfl (lv_at hl 0 rfl) ?_
  refine lv_bipush (v := 14) hx hb dX0_init_18 (by decide) ?_
  refine va_newa (atype := .int) (ty := .int) (N' := 14) (a0 := (14, .inl (fun _ => 0))) hx hb v_7 rfl hK hP hD hS hA (fun _ => rfl) (by decide) (by decide) (Nat.le_of_ble_eq_true rfl) (Nat.le_of_ble_eq_true rfl) (Nat.le_of_ble_eq_true rfl) dX0_init_20 (fun q_3 k_4 H hK hP hD hS => ?_)
  have hP : va_P (dC, dI) vwCl [(h0, .inr (0, [.int 0, .int 0, .int 0, .int (-1), .ref q_1, .null, .null, .null, .null, .null, .null, .null, .null, .null, .null, .null, .null])), (q_1, .inl (k_2, 8, .inl (fun _ => 0))), (q_3, .inl (k_4, 14, .inl (fun _ => 0)))] H := hP
  have hD : va_D A [(h0, .inr (0, [.int 0, .int 0, .int 0, .int (-1), .ref q_1, .null, .null, .null, .null, .null, .null, .null, .null, .null, .null, .null, .null])), (q_1, .inl (k_2, 8, .inl (fun _ => 0))), (q_3, .inl (k_4, 14, .inl (fun _ => 0)))] := hD
  have hK : va_K (dC, dI) vwCl [(k_2, .boolean), (k_4, .int)] s := hK
  refine W.widen (k := 2) (n := 22) (by omega) (by omega) ?_
  refine va_putF (D := (dC, dI)) (ci := 0) (v := .ref q_3) (ty := .array .int) (C := RX0) (T := TX0) (N := 17) hx hb hts hiX0 tyX0 tyX0_ok nmX0 hown hK hP hD hS 0 rfl rfl 5 (by decide) v_8 (fun _ h9 => h9) rfl hin rfl (by decide +kernel) rfl rfl (Nat.le_of_ble_eq_true rfl) dX0_init_22 (fun H locs hP hD hS => ?_)
  have hP : va_P (dC, dI) vwCl [(h0, .inr (0, [.int 0, .int 0, .int 0, .int (-1), .ref q_1, .ref q_3, .null, .null, .null, .null, .null, .null, .null, .null, .null, .null, .null])), (q_1, .inl (k_2, 8, .inl (fun _ => 0))), (q_3, .inl (k_4, 14, .inl (fun _ => 0)))] H := hP
  have hD : va_D A [(h0, .inr (0, [.int 0, .int 0, .int 0, .int (-1), .ref q_1, .ref q_3, .null, .null, .null, .null, .null, .null, .null, .null, .null, .null, .null])), (q_1, .inl (k_2, 8, .inl (fun _ => 0))), (q_3, .inl (k_4, 14, .inl (fun _ => 0)))] := hD
  refine lv_aload_n hx hb dX0_init_25 rfl (lv_at hl 0 rfl) ?_
  refine lv_bipush (v := 14) hx hb dX0_init_26 (by decide) ?_
  refine va_newa (atype := .int) (ty := .int) (N' := 14) (a0 := (14, .inl (fun _ => 0))) hx hb v_7 rfl hK hP hD hS hA (fun _ => rfl) (by decide) (by decide) (Nat.le_of_ble_eq_true rfl) (Nat.le_of_ble_eq_true rfl) (Nat.le_of_ble_eq_true rfl) dX0_init_28 (fun q_5 k_6 H hK hP hD hS => ?_)
  have hP : va_P (dC, dI) vwCl [(h0, .inr (0, [.int 0, .int 0, .int 0, .int (-1), .ref q_1, .ref q_3, .null, .null, .null, .null, .null, .null, .null, .null, .null, .null, .null])), (q_1, .inl (k_2, 8, .inl (fun _ => 0))), (q_3, .inl (k_4, 14, .inl (fun _ => 0))), (q_5, .inl (k_6, 14, .inl (fun _ => 0)))] H := hP
  have hD : va_D A [(h0, .inr (0, [.int 0, .int 0, .int 0, .int (-1), .ref q_1, .ref q_3, .null, .null, .null, .null, .null, .null, .null, .null, .null, .null, .null])), (q_1, .inl (k_2, 8, .inl (fun _ => 0))), (q_3, .inl (k_4, 14, .inl (fun _ => 0))), (q_5, .inl (k_6, 14, .inl (fun _ => 0)))] := hD
  have hK : va_K (dC, dI) vwCl [(k_2, .boolean), (k_4, .int), (k_6, .int)] s := hK
  refine W.widen (k := 3) (n := 36) (by omega) (by omega) ?_
  refine va_putF (D := (dC, dI)) (ci := 0) (v := .ref q_5) (ty := .array .int) (C := RX0) (T := TX0) (N := 17) hx hb hts hiX0 tyX0 tyX0_ok nmX0 hown hK hP hD hS 0 rfl rfl 6 (by decide) v_9 (fun _ h9 => h9) rfl hin rfl (by decide +kernel) rfl rfl (Nat.le_of_ble_eq_true rfl) dX0_init_30 (fun H locs hP hD hS => ?_)
  have hP : va_P (dC, dI) vwCl [(h0, .inr (0, [.int 0, .int 0, .int 0, .int (-1), .ref q_1, .ref q_3, .ref q_5, .null, .null, .null, .null, .null, .null, .null, .null, .null, .null])), (q_1, .inl (k_2, 8, .inl (fun _ => 0))), (q_3, .inl (k_4, 14, .inl (fun _ => 0))), (q_5, .inl (k_6, 14, .inl (fun _ => 0)))] H := hP
  have hD : va_D A [(h0, .inr (0, [.int 0, .int 0, .int 0, .int (-1), .ref q_1, .ref q_3, .ref q_5, .null, .null, .null, .null, .null, .null, .null, .null, .null, .null])), (q_1, .inl (k_2, 8, .inl (fun _ => 0))), (q_3, .inl (k_4, 14, .inl (fun _ => 0))), (q_5, .inl (k_6, 14, .inl (fun _ => 0)))] := hD
  refine lv_aload_n hx hb dX0_init_33 rfl (lv_at hl 0 rfl) ?_
  refine lv_bipush (v := 14) hx hb dX0_init_34 (by decide) ?_
  refine va_newa (atype := .int) (ty := .int) (N' := 14) (a0 := (14, .inl (fun _ => 0))) hx hb v_7 rfl hK hP hD hS hA (fun _ => rfl) (by decide) (by decide) (Nat.le_of_ble_eq_true rfl) (Nat.le_of_ble_eq_true rfl) (Nat.le_of_ble_eq_true rfl) dX0_init_36 (fun q_7 k_8 H hK hP hD hS => ?_)
  have hP : va_P (dC, dI) vwCl [(h0, .inr (0, [.int 0, .int 0, .int 0, .int (-1), .ref q_1, .ref q_3, .ref q_5, .null, .null, .null, .null, .null, .null, .null, .null, .null, .null])), (q_1, .inl (k_2, 8, .inl (fun _ => 0))), (q_3, .inl (k_4, 14, .inl (fun _ => 0))), (q_5, .inl (k_6, 14, .inl (fun _ => 0))), (q_7, .inl (k_8, 14, .inl (fun _ => 0)))] H := hP
  have hD : va_D A [(h0, .inr (0, [.int 0, .int 0, .int 0, .int (-1), .ref q_1, .ref q_3, .ref q_5, .null, .null, .null, .null, .null, .null, .null, .null, .null, .null])), (q_1, .inl (k_2, 8, .inl (fun _ => 0))), (q_3, .inl (k_4, 14, .inl (fun _ => 0))), (q_5, .inl (k_6, 14, .inl (fun _ => 0))), (q_7, .inl (k_8, 14, .inl (fun _ => 0)))] := hD
  have hK : va_K (dC, dI) vwCl [(k_2, .boolean), (k_4, .int), (k_6, .int), (k_8, .int)] s := hK
  refine W.widen (k := 4) (n := 50) (by omega) (by omega) ?_
  refine va_putF (D := (dC, dI)) (ci := 0) (v := .ref q_7) (ty := .array .int) (C := RX0) (T := TX0) (N := 17) hx hb hts hiX0 tyX0 tyX0_ok nmX0 hown hK hP hD hS 0 rfl rfl 7 (by decide) v_10 (fun _ h9 => h9) rfl hin rfl (by decide +kernel) rfl rfl (Nat.le_of_ble_eq_true rfl) dX0_init_38 (fun H locs hP hD hS => ?_)
  have hP : va_P (dC, dI) vwCl [(h0, .inr (0, [.int 0, .int 0, .int 0, .int (-1), .ref q_1, .ref q_3, .ref q_5, .ref q_7, .null, .null, .null, .null, .null, .null, .null, .null, .null])), (q_1, .inl (k_2, 8, .inl (fun _ => 0))), (q_3, .inl (k_4, 14, .inl (fun _ => 0))), (q_5, .inl (k_6, 14, .inl (fun _ => 0))), (q_7, .inl (k_8, 14, .inl (fun _ => 0)))] H := hP
  have hD : va_D A [(h0, .inr (0, [.int 0, .int 0, .int 0, .int (-1), .ref q_1, .ref q_3, .ref q_5, .ref q_7, .null, .null, .null, .null, .null, .null, .null, .null, .null])), (q_1, .inl (k_2, 8, .inl (fun _ => 0))), (q_3, .inl (k_4, 14, .inl (fun _ => 0))), (q_5, .inl (k_6, 14, .inl (fun _ => 0))), (q_7, .inl (k_8, 14, .inl (fun _ => 0)))] := hD
  refine lv_aload_n hx hb dX0_init_41 rfl (lv_at hl 0 rfl) ?_
  refine lv_bipush (v := 22) hx hb dX0_init_42 (by decide) ?_
  refine va_newa (atype := .int) (ty := .int) (N' := 22) (a0 := (22, .inl (fun _ => 0))) hx hb v_7 rfl hK hP hD hS hA (fun _ => rfl) (by decide) (by decide) (Nat.le_of_ble_eq_true rfl) (Nat.le_of_ble_eq_true rfl) (Nat.le_of_ble_eq_true rfl) dX0_init_44 (fun q_9 k_10 H hK hP hD hS => ?_)
  have hP : va_P (dC, dI) vwCl [(h0, .inr (0, [.int 0, .int 0, .int 0, .int (-1), .ref q_1, .ref q_3, .ref q_5, .ref q_7, .null, .null, .null, .null, .null, .null, .null, .null, .null])), (q_1, .inl (k_2, 8, .inl (fun _ => 0))), (q_3, .inl (k_4, 14, .inl (fun _ => 0))), (q_5, .inl (k_6, 14, .inl (fun _ => 0))), (q_7, .inl (k_8, 14, .inl (fun _ => 0))), (q_9, .inl (k_10, 22, .inl (fun _ => 0)))] H := hP
  have hD : va_D A [(h0, .inr (0, [.int 0, .int 0, .int 0, .int (-1), .ref q_1, .ref q_3, .ref q_5, .ref q_7, .null, .null, .null, .null, .null, .null, .null, .null, .null])), (q_1, .inl (k_2, 8, .inl (fun _ => 0))), (q_3, .inl (k_4, 14, .inl (fun _ => 0))), (q_5, .inl (k_6, 14, .inl (fun _ => 0))), (q_7, .inl (k_8, 14, .inl (fun _ => 0))), (q_9, .inl (k_10, 22, .inl (fun _ => 0)))] := hD
  have hK : va_K (dC, dI) vwCl [(k_2, .boolean), (k_4, .int), (k_6, .int), (k_8, .int), (k_10, .int)] s := hK
  refine W.widen (k := 5) (n := 72) (by omega) (by omega) ?_
  refine va_putF (D := (dC, dI)) (ci := 0) (v := .ref q_9) (ty := .array .int) (C := RX0) (T := TX0) (N := 17) hx hb hts hiX0 tyX0 tyX0_ok nmX0 hown hK hP hD hS 0 rfl rfl 8 (by decide) v_11 (fun _ h9 => h9) rfl hin rfl (by decide +kernel) rfl rfl (Nat.le_of_ble_eq_true rfl) dX0_init_46 (fun H locs hP hD hS => ?_)
  have hP : va_P (dC, dI) vwCl [(h0, .inr (0, [.int 0, .int 0, .int 0, .int (-1), .ref q_1, .ref q_3, .ref q_5, .ref q_7, .ref q_9, .null, .null, .null, .null, .null, .null, .null, .null])), (q_1, .inl (k_2, 8, .inl (fun _ => 0))), (q_3, .inl (k_4, 14, .inl (fun _ => 0))), (q_5, .inl (k_6, 14, .inl (fun _ => 0))), (q_7, .inl (k_8, 14, .inl (fun _ => 0))), (q_9, .inl (k_10, 22, .inl (fun _ => 0)))] H := hP
  have hD : va_D A [(h0, .inr (0, [.int 0, .int 0, .int 0, .int (-1), .ref q_1, .ref q_3, .ref q_5, .ref q_7, .ref q_9, .null, .null, .null, .null, .null, .null, .null, .null])), (q_1, .inl (k_2, 8, .inl (fun _ => 0))), (q_3, .inl (k_4, 14, .inl (fun _ => 0))), (q_5, .inl (k_6, 14, .inl (fun _ => 0))), (q_7, .inl (k_8, 14, .inl (fun _ => 0))), (q_9, .inl (k_10, 22, .inl (fun _ => 0)))] := hD
  refine lv_aload_n hx hb dX0_init_49 rfl (lv_at hl 0 rfl) ?_
  refine lv_bipush (v := 88) hx hb dX0_init_50 (by decide) ?_
  refine va_newa (atype := .int) (ty := .int) (N' := 88) (a0 := (88, .inl (fun _ => 0))) hx hb v_7 rfl hK hP hD hS hA (fun _ => rfl) (by decide) (by decide) (Nat.le_of_ble_eq_true rfl) (Nat.le_of_ble_eq_true rfl) (Nat.le_of_ble_eq_true rfl) dX0_init_52 (fun q_11 k_12 H hK hP hD hS => ?_)
  have hP : va_P (dC, dI) vwCl [(h0, .inr (0, [.int 0, .int 0, .int 0, .int (-1), .ref q_1, .ref q_3, .ref q_5, .ref q_7, .ref q_9, .null, .null, .null, .null, .null, .null, .null, .null])), (q_1, .inl (k_2, 8, .inl (fun _ => 0))), (q_3, .inl (k_4, 14, .inl (fun _ => 0))), (q_5, .inl (k_6, 14, .inl (fun _ => 0))), (q_7, .inl (k_8, 14, .inl (fun _ => 0))), (q_9, .inl (k_10, 22, .inl (fun _ => 0))), (q_11, .inl (k_12, 88, .inl (fun _ => 0)))] H := hP
  have hD : va_D A [(h0, .inr (0, [.int 0, .int 0, .int 0, .int (-1), .ref q_1, .ref q_3, .ref q_5, .ref q_7, .ref q_9, .null, .null, .null, .null, .null, .null, .null, .null])), (q_1, .inl (k_2, 8, .inl (fun _ => 0))), (q_3, .inl (k_4, 14, .inl (fun _ => 0))), (q_5, .inl (k_6, 14, .inl (fun _ => 0))), (q_7, .inl (k_8, 14, .inl (fun _ => 0))), (q_9, .inl (k_10, 22, .inl (fun _ => 0))), (q_11, .inl (k_12, 88, .inl (fun _ => 0)))] := hD
  have hK : va_K (dC, dI) vwCl [(k_2, .boolean), (k_4, .int), (k_6, .int), (k_8, .int), (k_10, .int), (k_12, .int)] s := hK
  refine W.widen (k := 6) (n := 160) (by omega) (by omega) ?_
  refine va_putF (D := (dC, dI)) (ci := 0) (v := .ref q_11) (ty := .array .int) (C := RX0) (T := TX0) (N := 17) hx hb hts hiX0 tyX0 tyX0_ok nmX0 hown hK hP hD hS 0 rfl rfl 9 (by decide) v_12 (fun _ h9 => h9) rfl hin rfl (by decide +kernel) rfl rfl (Nat.le_of_ble_eq_true rfl) dX0_init_54 (fun H locs hP hD hS => ?_)
  have hP : va_P (dC, dI) vwCl [(h0, .inr (0, [.int 0, .int 0, .int 0, .int (-1), .ref q_1, .ref q_3, .ref q_5, .ref q_7, .ref q_9, .ref q_11, .null, .null, .null, .null, .null, .null, .null])), (q_1, .inl (k_2, 8, .inl (fun _ => 0))), (q_3, .inl (k_4, 14, .inl (fun _ => 0))), (q_5, .inl (k_6, 14, .inl (fun _ => 0))), (q_7, .inl (k_8, 14, .inl (fun _ => 0))), (q_9, .inl (k_10, 22, .inl (fun _ => 0))), (q_11, .inl (k_12, 88, .inl (fun _ => 0)))] H := hP
  have hD : va_D A [(h0, .inr (0, [.int 0, .int 0, .int 0, .int (-1), .ref q_1, .ref q_3, .ref q_5, .ref q_7, .ref q_9, .ref q_11, .null, .null, .null, .null, .null, .null, .null])), (q_1, .inl (k_2, 8, .inl (fun _ => 0))), (q_3, .inl (k_4, 14, .inl (fun _ => 0))), (q_5, .inl (k_6, 14, .inl (fun _ => 0))), (q_7, .inl (k_8, 14, .inl (fun _ => 0))), (q_9, .inl (k_10, 22, .inl (fun _ => 0))), (q_11, .inl (k_12, 88, .inl (fun _ => 0)))] := hD
  refine lv_aload_n hx hb dX0_init_57 rfl (lv_at hl 0 rfl) ?_
  refine lv_bipush (v := 88) hx hb dX0_init_58 (by decide) ?_
  refine va_newa (atype := .int) (ty := .int) (N' := 88) (a0 := (88, .inl (fun _ => 0))) hx hb v_7 rfl hK hP hD hS hA (fun _ => rfl) (by decide) (by decide) (Nat.le_of_ble_eq_true rfl) (Nat.le_of_ble_eq_true rfl) (Nat.le_of_ble_eq_true rfl) dX0_init_60 (fun q_13 k_14 H hK hP hD hS => ?_)
  have hP : va_P (dC, dI) vwCl [(h0, .inr (0, [.int 0, .int 0, .int 0, .int (-1), .ref q_1, .ref q_3, .ref q_5, .ref q_7, .ref q_9, .ref q_11, .null, .null, .null, .null, .null, .null, .null])), (q_1, .inl (k_2, 8, .inl (fun _ => 0))), (q_3, .inl (k_4, 14, .inl (fun _ => 0))), (q_5, .inl (k_6, 14, .inl (fun _ => 0))), (q_7, .inl (k_8, 14, .inl (fun _ => 0))), (q_9, .inl (k_10, 22, .inl (fun _ => 0))), (q_11, .inl (k_12, 88, .inl (fun _ => 0))), (q_13, .inl (k_14, 88, .inl (fun _ => 0)))] H := hP
  have hD : va_D A [(h0, .inr (0, [.int 0, .int 0, .int 0, .int (-1), .ref q_1, .ref q_3, .ref q_5, .ref q_7, .ref q_9, .ref q_11, .null, .null, .null, .null, .null, .null, .null])), (q_1, .inl (k_2, 8, .inl (fun _ => 0))), (q_3, .inl (k_4, 14, .inl (fun _ => 0))), (q_5, .inl (k_6, 14, .inl (fun _ => 0))), (q_7, .inl (k_8, 14, .inl (fun _ => 0))), (q_9, .inl (k_10, 22, .inl (fun _ => 0))), (q_11, .inl (k_12, 88, .inl (fun _ => 0))), (q_13, .inl (k_14, 88, .inl (fun _ => 0)))] := hD
  have hK : va_K (dC, dI) vwCl [(k_2, .boolean), (k_4, .int), (k_6, .int), (k_8, .int), (k_10, .int), (k_12, .int), (k_14, .int)] s := hK
  refine W.widen (k := 7) (n := 248) (by omega) (by omega) ?_
  refine va_putF (D := (dC, dI)) (ci := 0) (v := .ref q_13) (ty := .array .int) (C := RX0) (T := TX0) (N := 17) hx hb hts hiX0 tyX0 tyX0_ok nmX0 hown hK hP hD hS 0 rfl rfl 10 (by decide) v_13 (fun _ h9 => h9) rfl hin rfl (by decide +kernel) rfl rfl (Nat.le_of_ble_eq_true rfl) dX0_init_62 (fun H locs hP hD hS => ?_)
  have hP : va_P (dC, dI) vwCl [(h0, .inr (0, [.int 0, .int 0, .int 0, .int (-1), .ref q_1, .ref q_3, .ref q_5, .ref q_7, .ref q_9, .ref q_11, .ref q_13, .null, .null, .null, .null, .null, .null])), (q_1, .inl (k_2, 8, .inl (fun _ => 0))), (q_3, .inl (k_4, 14, .inl (fun _ => 0))), (q_5, .inl (k_6, 14, .inl (fun _ => 0))), (q_7, .inl (k_8, 14, .inl (fun _ => 0))), (q_9, .inl (k_10, 22, .inl (fun _ => 0))), (q_11, .inl (k_12, 88, .inl (fun _ => 0))), (q_13, .inl (k_14, 88, .inl (fun _ => 0)))] H := hP
  have hD : va_D A [(h0, .inr (0, [.int 0, .int 0, .int 0, .int (-1), .ref q_1, .ref q_3, .ref q_5, .ref q_7, .ref q_9, .ref q_11, .ref q_13, .null, .null, .null, .null, .null, .null])), (q_1, .inl (k_2, 8, .inl (fun _ => 0))), (q_3, .inl (k_4, 14, .inl (fun _ => 0))), (q_5, .inl (k_6, 14, .inl (fun _ => 0))), (q_7, .inl (k_8, 14, .inl (fun _ => 0))), (q_9, .inl (k_10, 22, .inl (fun _ => 0))), (q_11, .inl (k_12, 88, .inl (fun _ => 0))), (q_13, .inl (k_14, 88, .inl (fun _ => 0)))] := hD
  refine lv_aload_n hx hb dX0_init_65 rfl (lv_at hl 0 rfl) ?_
  refine lv_bipush (v := 88) hx hb dX0_init_66 (by decide) ?_
  refine va_newa (atype := .int) (ty := .int) (N' := 88) (a0 := (88, .inl (fun _ => 0))) hx hb v_7 rfl hK hP hD hS hA (fun _ => rfl) (by decide) (by decide) (Nat.le_of_ble_eq_true rfl) (Nat.le_of_ble_eq_true rfl) (Nat.le_of_ble_eq_true rfl) dX0_init_68 (fun q_15 k_16 H hK hP hD hS => ?_)
  have hP : va_P (dC, dI) vwCl [(h0, .inr (0, [.int 0, .int 0, .int 0, .int (-1), .ref q_1, .ref q_3, .ref q_5, .ref q_7, .ref q_9, .ref q_11, .ref q_13, .null, .null, .null, .null, .null, .null])), (q_1, .inl (k_2, 8, .inl (fun _ => 0))), (q_3, .inl (k_4, 14, .inl (fun _ => 0))), (q_5, .inl (k_6, 14, .inl (fun _ => 0))), (q_7, .inl (k_8, 14, .inl (fun _ => 0))), (q_9, .inl (k_10, 22, .inl (fun _ => 0))), (q_11, .inl (k_12, 88, .inl (fun _ => 0))), (q_13, .inl (k_14, 88, .inl (fun _ => 0))), (q_15, .inl (k_16, 88, .inl (fun _ => 0)))] H := hP
  have hD : va_D A [(h0, .inr (0, [.int 0, .int 0, .int 0, .int (-1), .ref q_1, .ref q_3, .ref q_5, .ref q_7, .ref q_9, .ref q_11, .ref q_13, .null, .null, .null, .null, .null, .null])), (q_1, .inl (k_2, 8, .inl (fun _ => 0))), (q_3, .inl (k_4, 14, .inl (fun _ => 0))), (q_5, .inl (k_6, 14, .inl (fun _ => 0))), (q_7, .inl (k_8, 14, .inl (fun _ => 0))), (q_9, .inl (k_10, 22, .inl (fun _ => 0))), (q_11, .inl (k_12, 88, .inl (fun _ => 0))), (q_13, .inl (k_14, 88, .inl (fun _ => 0))), (q_15, .inl (k_16, 88, .inl (fun _ => 0)))] := hD
  have hK : va_K (dC, dI) vwCl [(k_2, .boolean), (k_4, .int), (k_6, .int), (k_8, .int), (k_10, .int), (k_12, .int), (k_14, .int), (k_16, .int)] s := hK
  refine W.widen (k := 8) (n := 336) (by omega) (by omega) ?_
  refine va_putF (D := (dC, dI)) (ci := 0) (v := .ref q_15) (ty := .array .int) (C := RX0) (T := TX0) (N := 17) hx hb hts hiX0 tyX0 tyX0_ok nmX0 hown hK hP hD hS 0 rfl rfl 11 (by decide) v_14 (fun _ h9 => h9) rfl hin rfl (by decide +kernel) rfl rfl (Nat.le_of_ble_eq_true rfl) dX0_init_70 (fun H locs hP hD hS => ?_)
  have hP : va_P (dC, dI) vwCl [(h0, .inr (0, [.int 0, .int 0, .int 0, .int (-1), .ref q_1, .ref q_3, .ref q_5, .ref q_7, .ref q_9, .ref q_11, .ref q_13, .ref q_15, .null, .null, .null, .null, .null])), (q_1, .inl (k_2, 8, .inl (fun _ => 0))), (q_3, .inl (k_4, 14, .inl (fun _ => 0))), (q_5, .inl (k_6, 14, .inl (fun _ => 0))), (q_7, .inl (k_8, 14, .inl (fun _ => 0))), (q_9, .inl (k_10, 22, .inl (fun _ => 0))), (q_11, .inl (k_12, 88, .inl (fun _ => 0))), (q_13, .inl (k_14, 88, .inl (fun _ => 0))), (q_15, .inl (k_16, 88, .inl (fun _ => 0)))] H := hP
  have hD : va_D A [(h0, .inr (0, [.int 0, .int 0, .int 0, .int (-1), .ref q_1, .ref q_3, .ref q_5, .ref q_7, .ref q_9, .ref q_11, .ref q_13, .ref q_15, .null, .null, .null, .null, .null])), (q_1, .inl (k_2, 8, .inl (fun _ => 0))), (q_3, .inl (k_4, 14, .inl (fun _ => 0))), (q_5, .inl (k_6, 14, .inl (fun _ => 0))), (q_7, .inl (k_8, 14, .inl (fun _ => 0))), (q_9, .inl (k_10, 22, .inl (fun _ => 0))), (q_11, .inl (k_12, 88, .inl (fun _ => 0))), (q_13, .inl (k_14, 88, .inl (fun _ => 0))), (q_15, .inl (k_16, 88, .inl (fun _ => 0)))] := hD
  refine lv_aload_n hx hb dX0_init_73 rfl (lv_at hl 0 rfl) ?_
  refine lv_bipush (v := 88) hx hb dX0_init_74 (by decide) ?_
  refine va_newa (atype := .int) (ty := .int) (N' := 88) (a0 := (88, .inl (fun _ => 0))) hx hb v_7 rfl hK hP hD hS hA (fun _ => rfl) (by decide) (by decide) (Nat.le_of_ble_eq_true rfl) (Nat.le_of_ble_eq_true rfl) (Nat.le_of_ble_eq_true rfl) dX0_init_76 (fun q_17 k_18 H hK hP hD hS => ?_)
  have hP : va_P (dC, dI) vwCl [(h0, .inr (0, [.int 0, .int 0, .int 0, .int (-1), .ref q_1, .ref q_3, .ref q_5, .ref q_7, .ref q_9, .ref q_11, .ref q_13, .ref q_15, .null, .null, .null, .null, .null])), (q_1, .inl (k_2, 8, .inl (fun _ => 0))), (q_3, .inl (k_4, 14, .inl (fun _ => 0))), (q_5, .inl (k_6, 14, .inl (fun _ => 0))), (q_7, .inl (k_8, 14, .inl (fun _ => 0))), (q_9, .inl (k_10, 22, .inl (fun _ => 0))), (q_11, .inl (k_12, 88, .inl (fun _ => 0))), (q_13, .inl (k_14, 88, .inl (fun _ => 0))), (q_15, .inl (k_16, 88, .inl (fun _ => 0))), (q_17, .inl (k_18, 88, .inl (fun _ => 0)))] H := hP
  have hD : va_D A [(h0, .inr (0, [.int 0, .int 0, .int 0, .int (-1), .ref q_1, .ref q_3, .ref q_5, .ref q_7, .ref q_9, .ref q_11, .ref q_13, .ref q_15, .null, .null, .null, .null, .null])), (q_1, .inl (k_2, 8, .inl (fun _ => 0))), (q_3, .inl (k_4, 14, .inl (fun _ => 0))), (q_5, .inl (k_6, 14, .inl (fun _ => 0))), (q_7, .inl (k_8, 14, .inl (fun _ => 0))), (q_9, .inl (k_10, 22, .inl (fun _ => 0))), (q_11, .inl (k_12, 88, .inl (fun _ => 0))), (q_13, .inl (k_14, 88, .inl (fun _ => 0))), (q_15, .inl (k_16, 88, .inl (fun _ => 0))), (q_17, .inl (k_18, 88, .inl (fun _ => 0)))] := hD
  have hK : va_K (dC, dI) vwCl [(k_2, .boolean), (k_4, .int), (k_6, .int), (k_8, .int), (k_10, .int), (k_12, .int), (k_14, .int), (k_16, .int), (k_18, .int)] s := hK
  refine W.widen (k := 9) (n := 424) (by omega) (by omega) ?_
  refine va_putF (D := (dC, dI)) (ci := 0) (v := .ref q_17) (ty := .array .int) (C := RX0) (T := TX0) (N := 17) hx hb hts hiX0 tyX0 tyX0_ok nmX0 hown hK hP hD hS 0 rfl rfl 12 (by decide) v_15 (fun _ h9 => h9) rfl hin rfl (by decide +kernel) rfl rfl (Nat.le_of_ble_eq_true rfl) dX0_init_78 (fun H locs hP hD hS => ?_)
  have hP : va_P (dC, dI) vwCl [(h0, .inr (0, [.int 0, .int 0, .int 0, .int (-1), .ref q_1, .ref q_3, .ref q_5, .ref q_7, .ref q_9, .ref q_11, .ref q_13, .ref q_15, .ref q_17, .null, .null, .null, .null])), (q_1, .inl (k_2, 8, .inl (fun _ => 0))), (q_3, .inl (k_4, 14, .inl (fun _ => 0))), (q_5, .inl (k_6, 14, .inl (fun _ => 0))), (q_7, .inl (k_8, 14, .inl (fun _ => 0))), (q_9, .inl (k_10, 22, .inl (fun _ => 0))), (q_11, .inl (k_12, 88, .inl (fun _ => 0))), (q_13, .inl (k_14, 88, .inl (fun _ => 0))), (q_15, .inl (k_16, 88, .inl (fun _ => 0))), (q_17, .inl (k_18, 88, .inl (fun _ => 0)))] H := hP
  have hD : va_D A [(h0, .inr (0, [.int 0, .int 0, .int 0, .int (-1), .ref q_1, .ref q_3, .ref q_5, .ref q_7, .ref q_9, .ref q_11, .ref q_13, .ref q_15, .ref q_17, .null, .null, .null, .null])), (q_1, .inl (k_2, 8, .inl (fun _ => 0))), (q_3, .inl (k_4, 14, .inl (fun _ => 0))), (q_5, .inl (k_6, 14, .inl (fun _ => 0))), (q_7, .inl (k_8, 14, .inl (fun _ => 0))), (q_9, .inl (k_10, 22, .inl (fun _ => 0))), (q_11, .inl (k_12, 88, .inl (fun _ => 0))), (q_13, .inl (k_14, 88, .inl (fun _ => 0))), (q_15, .inl (k_16, 88, .inl (fun _ => 0))), (q_17, .inl (k_18, 88, .inl (fun _ => 0)))] := hD
  refine lv_aload_n hx hb dX0_init_81 rfl (lv_at hl 0 rfl) ?_
  refine lv_bipush (v := 88) hx hb dX0_init_82 (by decide) ?_
  refine va_newa (atype := .int) (ty := .int) (N' := 88) (a0 := (88, .inl (fun _ => 0))) hx hb v_7 rfl hK hP hD hS hA (fun _ => rfl) (by decide) (by decide) (Nat.le_of_ble_eq_true rfl) (Nat.le_of_ble_eq_true rfl) (Nat.le_of_ble_eq_true rfl) dX0_init_84 (fun q_19 k_20 H hK hP hD hS => ?_)
  have hP : va_P (dC, dI) vwCl [(h0, .inr (0, [.int 0, .int 0, .int 0, .int (-1), .ref q_1, .ref q_3, .ref q_5, .ref q_7, .ref q_9, .ref q_11, .ref q_13, .ref q_15, .ref q_17, .null, .null, .null, .null])), (q_1, .inl (k_2, 8, .inl (fun _ => 0))), (q_3, .inl (k_4, 14, .inl (fun _ => 0))), (q_5, .inl (k_6, 14, .inl (fun _ => 0))), (q_7, .inl (k_8, 14, .inl (fun _ => 0))), (q_9, .inl (k_10, 22, .inl (fun _ => 0))), (q_11, .inl (k_12, 88, .inl (fun _ => 0))), (q_13, .inl (k_14, 88, .inl (fun _ => 0))), (q_15, .inl (k_16, 88, .inl (fun _ => 0))), (q_17, .inl (k_18, 88, .inl (fun _ => 0))), (q_19, .inl (k_20, 88, .inl (fun _ => 0)))] H := hP
  have hD : va_D A [(h0, .inr (0, [.int 0, .int 0, .int 0, .int (-1), .ref q_1, .ref q_3, .ref q_5, .ref q_7, .ref q_9, .ref q_11, .ref q_13, .ref q_15, .ref q_17, .null, .null, .null, .null])), (q_1, .inl (k_2, 8, .inl (fun _ => 0))), (q_3, .inl (k_4, 14, .inl (fun _ => 0))), (q_5, .inl (k_6, 14, .inl (fun _ => 0))), (q_7, .inl (k_8, 14, .inl (fun _ => 0))), (q_9, .inl (k_10, 22, .inl (fun _ => 0))), (q_11, .inl (k_12, 88, .inl (fun _ => 0))), (q_13, .inl (k_14, 88, .inl (fun _ => 0))), (q_15, .inl (k_16, 88, .inl (fun _ => 0))), (q_17, .inl (k_18, 88, .inl (fun _ => 0))), (q_19, .inl (k_20, 88, .inl (fun _ => 0)))] := hD
  have hK : va_K (dC, dI) vwCl [(k_2, .boolean), (k_4, .int), (k_6, .int), (k_8, .int), (k_10, .int), (k_12, .int), (k_14, .int), (k_16, .int), (k_18, .int), (k_20, .int)] s := hK
  refine W.widen (k := 10) (n := 512) (by omega) (by omega) ?_
  refine va_putF (D := (dC, dI)) (ci := 0) (v := .ref q_19) (ty := .array .int) (C := RX0) (T := TX0) (N := 17) hx hb hts hiX0 tyX0 tyX0_ok nmX0 hown hK hP hD hS 0 rfl rfl 13 (by decide) v_16 (fun _ h9 => h9) rfl hin rfl (by decide +kernel) rfl rfl (Nat.le_of_ble_eq_true rfl) dX0_init_86 (fun H locs hP hD hS => ?_)
  have hP : va_P (dC, dI) vwCl [(h0, .inr (0, [.int 0, .int 0, .int 0, .int (-1), .ref q_1, .ref q_3, .ref q_5, .ref q_7, .ref q_9, .ref q_11, .ref q_13, .ref q_15, .ref q_17, .ref q_19, .null, .null, .null])), (q_1, .inl (k_2, 8, .inl (fun _ => 0))), (q_3, .inl (k_4, 14, .inl (fun _ => 0))), (q_5, .inl (k_6, 14, .inl (fun _ => 0))), (q_7, .inl (k_8, 14, .inl (fun _ => 0))), (q_9, .inl (k_10, 22, .inl (fun _ => 0))), (q_11, .inl (k_12, 88, .inl (fun _ => 0))), (q_13, .inl (k_14, 88, .inl (fun _ => 0))), (q_15, .inl (k_16, 88, .inl (fun _ => 0))), (q_17, .inl (k_18, 88, .inl (fun _ => 0))), (q_19, .inl (k_20, 88, .inl (fun _ => 0)))] H := hP
  have hD : va_D A [(h0, .inr (0, [.int 0, .int 0, .int 0, .int (-1), .ref q_1, .ref q_3, .ref q_5, .ref q_7, .ref q_9, .ref q_11, .ref q_13, .ref q_15, .ref q_17, .ref q_19, .null, .null, .null])), (q_1, .inl (k_2, 8, .inl (fun _ => 0))), (q_3, .inl (k_4, 14, .inl (fun _ => 0))), (q_5, .inl (k_6, 14, .inl (fun _ => 0))), (q_7, .inl (k_8, 14, .inl (fun _ => 0))), (q_9, .inl (k_10, 22, .inl (fun _ => 0))), (q_11, .inl (k_12, 88, .inl (fun _ => 0))), (q_13, .inl (k_14, 88, .inl (fun _ => 0))), (q_15, .inl (k_16, 88, .inl (fun _ => 0))), (q_17, .inl (k_18, 88, .inl (fun _ => 0))), (q_19, .inl (k_20, 88, .inl (fun _ => 0)))] := hD
  refine lv_aload_n hx hb dX0_init_89 rfl (lv_at hl 0 rfl) ?_
  refine lv_iconst (v := 4) hx hb dX0_init_90 (by decide) ?_
  refine va_newa (atype := .int) (ty := .int) (N' := 4) (a0 := (4, .inl (fun _ => 0))) hx hb v_7 rfl hK hP hD hS hA (fun _ => rfl) (by decide) (by decide) (Nat.le_of_ble_eq_true rfl) (Nat.le_of_ble_eq_true rfl) (Nat.le_of_ble_eq_true rfl) dX0_init_91 (fun q_21 k_22 H hK hP hD hS => ?_)
  have hP : va_P (dC, dI) vwCl [(h0, .inr (0, [.int 0, .int 0, .int 0, .int (-1), .ref q_1, .ref q_3, .ref q_5, .ref q_7, .ref q_9, .ref q_11, .ref q_13, .ref q_15, .ref q_17, .ref q_19, .null, .null, .null])), (q_1, .inl (k_2, 8, .inl (fun _ => 0))), (q_3, .inl (k_4, 14, .inl (fun _ => 0))), (q_5, .inl (k_6, 14, .inl (fun _ => 0))), (q_7, .inl (k_8, 14, .inl (fun _ => 0))), (q_9, .inl (k_10, 22, .inl (fun _ => 0))), (q_11, .inl (k_12, 88, .inl (fun _ => 0))), (q_13, .inl (k_14, 88, .inl (fun _ => 0))), (q_15, .inl (k_16, 88, .inl (fun _ => 0))), (q_17, .inl (k_18, 88, .inl (fun _ => 0))), (q_19, .inl (k_20, 88, .inl (fun _ => 0))), (q_21, .inl (k_22, 4, .inl (fun _ => 0)))] H := hP
  have hD : va_D A [(h0, .inr (0, [.int 0, .int 0, .int 0, .int (-1), .ref q_1, .ref q_3, .ref q_5, .ref q_7, .ref q_9, .ref q_11, .ref q_13, .ref q_15, .ref q_17, .ref q_19, .null, .null, .null])), (q_1, .inl (k_2, 8, .inl (fun _ => 0))), (q_3, .inl (k_4, 14, .inl (fun _ => 0))), (q_5, .inl (k_6, 14, .inl (fun _ => 0))), (q_7, .inl (k_8, 14, .inl (fun _ => 0))), (q_9, .inl (k_10, 22, .inl (fun _ => 0))), (q_11, .inl (k_12, 88, .inl (fun _ => 0))), (q_13, .inl (k_14, 88, .inl (fun _ => 0))), (q_15, .inl (k_16, 88, .inl (fun _ => 0))), (q_17, .inl (k_18, 88, .inl (fun _ => 0))), (q_19, .inl (k_20, 88, .inl (fun _ => 0))), (q_21, .inl (k_22, 4, .inl (fun _ => 0)))] := hD
  have hK : va_K (dC, dI) vwCl [(k_2, .boolean), (k_4, .int), (k_6, .int), (k_8, .int), (k_10, .int), (k_12, .int), (k_14, .int), (k_16, .int), (k_18, .int), (k_20, .int), (k_22, .int)] s := hK
  refine W.widen (k := 11) (n := 516) (by omega) (by omega) ?_
  refine va_putF (D := (dC, dI)) (ci := 0) (v := .ref q_21) (ty := .array .int) (C := RX0) (T := TX0) (N := 17) hx hb hts hiX0 tyX0 tyX0_ok nmX0 hown hK hP hD hS 0 rfl rfl 14 (by decide) v_17 (fun _ h9 => h9) rfl hin rfl (by decide +kernel) rfl rfl (Nat.le_of_ble_eq_true rfl) dX0_init_93 (fun H locs hP hD hS => ?_)
  have hP : va_P (dC, dI) vwCl [(h0, .inr (0, [.int 0, .int 0, .int 0, .int (-1), .ref q_1, .ref q_3, .ref q_5, .ref q_7, .ref q_9, .ref q_11, .ref q_13, .ref q_15, .ref q_17, .ref q_19, .ref q_21, .null, .null])), (q_1, .inl (k_2, 8, .inl (fun _ => 0))), (q_3, .inl (k_4, 14, .inl (fun _ => 0))), (q_5, .inl (k_6, 14, .inl (fun _ => 0))), (q_7, .inl (k_8, 14, .inl (fun _ => 0))), (q_9, .inl (k_10, 22, .inl (fun _ => 0))), (q_11, .inl (k_12, 88, .inl (fun _ => 0))), (q_13, .inl (k_14, 88, .inl (fun _ => 0))), (q_15, .inl (k_16, 88, .inl (fun _ => 0))), (q_17, .inl (k_18, 88, .inl (fun _ => 0))), (q_19, .inl (k_20, 88, .inl (fun _ => 0))), (q_21, .inl (k_22, 4, .inl (fun _ => 0)))] H := hP
  have hD : va_D A [(h0, .inr (0, [.int 0, .int 0, .int 0, .int (-1), .ref q_1, .ref q_3, .ref q_5, .ref q_7, .ref q_9, .ref q_11, .ref q_13, .ref q_15, .ref q_17, .ref q_19, .ref q_21, .null, .null])), (q_1, .inl (k_2, 8, .inl (fun _ => 0))), (q_3, .inl (k_4, 14, .inl (fun _ => 0))), (q_5, .inl (k_6, 14, .inl (fun _ => 0))), (q_7, .inl (k_8, 14, .inl (fun _ => 0))), (q_9, .inl (k_10, 22, .inl (fun _ => 0))), (q_11, .inl (k_12, 88, .inl (fun _ => 0))), (q_13, .inl (k_14, 88, .inl (fun _ => 0))), (q_15, .inl (k_16, 88, .inl (fun _ => 0))), (q_17, .inl (k_18, 88, .inl (fun _ => 0))), (q_19, .inl (k_20, 88, .inl (fun _ => 0))), (q_21, .inl (k_22, 4, .inl (fun _ => 0)))] := hD
  refine lv_aload_n hx hb dX0_init_96 rfl (lv_at hl 0 rfl) ?_
  refine lv_iconst (v := 4) hx hb dX0_init_97 (by decide) ?_
  refine va_newa (atype := .int) (ty := .int) (N' := 4) (a0 := (4, .inl (fun _ => 0))) hx hb v_7 rfl hK hP hD hS hA (fun _ => rfl) (by decide) (by decide) (Nat.le_of_ble_eq_true rfl) (Nat.le_of_ble_eq_true rfl) (Nat.le_of_ble_eq_true rfl) dX0_init_98 (fun q_23 k_24 H hK hP hD hS => ?_)
  have hP : va_P (dC, dI) vwCl [(h0, .inr (0, [.int 0, .int 0, .int 0, .int (-1), .ref q_1, .ref q_3, .ref q_5, .ref q_7, .ref q_9, .ref q_11, .ref q_13, .ref q_15, .ref q_17, .ref q_19, .ref q_21, .null, .null])), (q_1, .inl (k_2, 8, .inl (fun _ => 0))), (q_3, .inl (k_4, 14, .inl (fun _ => 0))), (q_5, .inl (k_6, 14, .inl (fun _ => 0))), (q_7, .inl (k_8, 14, .inl (fun _ => 0))), (q_9, .inl (k_10, 22, .inl (fun _ => 0))), (q_11, .inl (k_12, 88, .inl (fun _ => 0))), (q_13, .inl (k_14, 88, .inl (fun _ => 0))), (q_15, .inl (k_16, 88, .inl (fun _ => 0))), (q_17, .inl (k_18, 88, .inl (fun _ => 0))), (q_19, .inl (k_20, 88, .inl (fun _ => 0))), (q_21, .inl (k_22, 4, .inl (fun _ => 0))), (q_23, .inl (k_24, 4, .inl (fun _ => 0)))] H := hP
  have hD : va_D A [(h0, .inr (0, [.int 0, .int 0, .int 0, .int (-1), .ref q_1, .ref q_3, .ref q_5, .ref q_7, .ref q_9, .ref q_11, .ref q_13, .ref q_15, .ref q_17, .ref q_19, .ref q_21, .null, .null])), (q_1, .inl (k_2, 8, .inl (fun _ => 0))), (q_3, .inl (k_4, 14, .inl (fun _ => 0))), (q_5, .inl (k_6, 14, .inl (fun _ => 0))), (q_7, .inl (k_8, 14, .inl (fun _ => 0))), (q_9, .inl (k_10, 22, .inl (fun _ => 0))), (q_11, .inl (k_12, 88, .inl (fun _ => 0))), (q_13, .inl (k_14, 88, .inl (fun _ => 0))), (q_15, .inl (k_16, 88, .inl (fun _ => 0))), (q_17, .inl (k_18, 88, .inl (fun _ => 0))), (q_19, .inl (k_20, 88, .inl (fun _ => 0))), (q_21, .inl (k_22, 4, .inl (fun _ => 0))), (q_23, .inl (k_24, 4, .inl (fun _ => 0)))] := hD
  have hK : va_K (dC, dI) vwCl [(k_2, .boolean), (k_4, .int), (k_6, .int), (k_8, .int), (k_10, .int), (k_12, .int), (k_14, .int), (k_16, .int), (k_18, .int), (k_20, .int), (k_22, .int), (k_24, .int)] s := hK
  refine W.widen (k := 12) (n := 520) (by omega) (by omega) ?_
  refine va_putF (D := (dC, dI)) (ci := 0) (v := .ref q_23) (ty := .array .int) (C := RX0) (T := TX0) (N := 17) hx hb hts hiX0 tyX0 tyX0_ok nmX0 hown hK hP hD hS 0 rfl rfl 15 (by decide) v_18 (fun _ h9 => h9) rfl hin rfl (by decide +kernel) rfl rfl (Nat.le_of_ble_eq_true rfl) dX0_init_100 (fun H locs hP hD hS => ?_)
  have hP : va_P (dC, dI) vwCl [(h0, .inr (0, [.int 0, .int 0, .int 0, .int (-1), .ref q_1, .ref q_3, .ref q_5, .ref q_7, .ref q_9, .ref q_11, .ref q_13, .ref q_15, .ref q_17, .ref q_19, .ref q_21, .ref q_23, .null])), (q_1, .inl (k_2, 8, .inl (fun _ => 0))), (q_3, .inl (k_4, 14, .inl (fun _ => 0))), (q_5, .inl (k_6, 14, .inl (fun _ => 0))), (q_7, .inl (k_8, 14, .inl (fun _ => 0))), (q_9, .inl (k_10, 22, .inl (fun _ => 0))), (q_11, .inl (k_12, 88, .inl (fun _ => 0))), (q_13, .inl (k_14, 88, .inl (fun _ => 0))), (q_15, .inl (k_16, 88, .inl (fun _ => 0))), (q_17, .inl (k_18, 88, .inl (fun _ => 0))), (q_19, .inl (k_20, 88, .inl (fun _ => 0))), (q_21, .inl (k_22, 4, .inl (fun _ => 0))), (q_23, .inl (k_24, 4, .inl (fun _ => 0)))] H := hP
  have hD : va_D A [(h0, .inr (0, [.int 0, .int 0, .int 0, .int (-1), .ref q_1, .ref q_3, .ref q_5, .ref q_7, .ref q_9, .ref q_11, .ref q_13, .ref q_15, .ref q_17, .ref q_19, .ref q_21, .ref q_23, .null])), (q_1, .inl (k_2, 8, .inl (fun _ => 0))), (q_3, .inl (k_4, 14, .inl (fun _ => 0))), (q_5, .inl (k_6, 14, .inl (fun _ => 0))), (q_7, .inl (k_8, 14, .inl (fun _ => 0))), (q_9, .inl (k_10, 22, .inl (fun _ => 0))), (q_11, .inl (k_12, 88, .inl (fun _ => 0))), (q_13, .inl (k_14, 88, .inl (fun _ => 0))), (q_15, .inl (k_16, 88, .inl (fun _ => 0))), (q_17, .inl (k_18, 88, .inl (fun _ => 0))), (q_19, .inl (k_20, 88, .inl (fun _ => 0))), (q_21, .inl (k_22, 4, .inl (fun _ => 0))), (q_23, .inl (k_24, 4, .inl (fun _ => 0)))] := hD
  refine lv_aload_n hx hb dX0_init_103 rfl (lv_at hl 0 rfl) ?_
  refine lv_iconst (v := 4) hx hb dX0_init_104 (by decide) ?_
  refine va_newa (atype := .int) (ty := .int) (N' := 4) (a0 := (4, .inl (fun _ => 0))) hx hb v_7 rfl hK hP hD hS hA (fun _ => rfl) (by decide) (by decide) (Nat.le_of_ble_eq_true rfl) (Nat.le_of_ble_eq_true rfl) (Nat.le_of_ble_eq_true rfl) dX0_init_105 (fun q_25 k_26 H hK hP hD hS => ?_)
  have hP : va_P (dC, dI) vwCl [(h0, .inr (0, [.int 0, .int 0, .int 0, .int (-1), .ref q_1, .ref q_3, .ref q_5, .ref q_7, .ref q_9, .ref q_11, .ref q_13, .ref q_15, .ref q_17, .ref q_19, .ref q_21, .ref q_23, .null])), (q_1, .inl (k_2, 8, .inl (fun _ => 0))), (q_3, .inl (k_4, 14, .inl (fun _ => 0))), (q_5, .inl (k_6, 14, .inl (fun _ => 0))), (q_7, .inl (k_8, 14, .inl (fun _ => 0))), (q_9, .inl (k_10, 22, .inl (fun _ => 0))), (q_11, .inl (k_12, 88, .inl (fun _ => 0))), (q_13, .inl (k_14, 88, .inl (fun _ => 0))), (q_15, .inl (k_16, 88, .inl (fun _ => 0))), (q_17, .inl (k_18, 88, .inl (fun _ => 0))), (q_19, .inl (k_20, 88, .inl (fun _ => 0))), (q_21, .inl (k_22, 4, .inl (fun _ => 0))), (q_23, .inl (k_24, 4, .inl (fun _ => 0))), (q_25, .inl (k_26, 4, .inl (fun _ => 0)))] H := hP
  have hD : va_D A [(h0, .inr (0, [.int 0, .int 0, .int 0, .int (-1), .ref q_1, .ref q_3, .ref q_5, .ref q_7, .ref q_9, .ref q_11, .ref q_13, .ref q_15, .ref q_17, .ref q_19, .ref q_21, .ref q_23, .null])), (q_1, .inl (k_2, 8, .inl (fun _ => 0))), (q_3, .inl (k_4, 14, .inl (fun _ => 0))), (q_5, .inl (k_6, 14, .inl (fun _ => 0))), (q_7, .inl (k_8, 14, .inl (fun _ => 0))), (q_9, .inl (k_10, 22, .inl (fun _ => 0))), (q_11, .inl (k_12, 88, .inl (fun _ => 0))), (q_13, .inl (k_14, 88, .inl (fun _ => 0))), (q_15, .inl (k_16, 88, .inl (fun _ => 0))), (q_17, .inl (k_18, 88, .inl (fun _ => 0))), (q_19, .inl (k_20, 88, .inl (fun _ => 0))), (q_21, .inl (k_22, 4, .inl (fun _ => 0))), (q_23, .inl (k_24, 4, .inl (fun _ => 0))), (q_25, .inl (k_26, 4, .inl (fun _ => 0)))] := hD
  have hK : va_K (dC, dI) vwCl [(k_2, .boolean), (k_4, .int), (k_6, .int), (k_8, .int), (k_10, .int), (k_12, .int), (k_14, .int), (k_16, .int), (k_18, .int), (k_20, .int), (k_22, .int), (k_24, .int), (k_26, .int)] s := hK
  refine W.widen (k := 13) (n := 524) (by omega) (by omega) ?_
  refine va_putF (D := (dC, dI)) (ci := 0) (v := .ref q_25) (ty := .array .int) (C := RX0) (T := TX0) (N := 17) hx hb hts hiX0 tyX0 tyX0_ok nmX0 hown hK hP hD hS 0 rfl rfl 16 (by decide) v_19 (fun _ h9 => h9) rfl hin rfl (by decide +kernel) rfl rfl (Nat.le_of_ble_eq_true rfl) dX0_init_107 (fun H locs hP hD hS => ?_)
  have hP : va_P (dC, dI) vwCl [(h0, .inr (0, [.int 0, .int 0, .int 0, .int (-1), .ref q_1, .ref q_3, .ref q_5, .ref q_7, .ref q_9, .ref q_11, .ref q_13, .ref q_15, .ref q_17, .ref q_19, .ref q_21, .ref q_23, .ref q_25])), (q_1, .inl (k_2, 8, .inl (fun _ => 0))), (q_3, .inl (k_4, 14, .inl (fun _ => 0))), (q_5, .inl (k_6, 14, .inl (fun _ => 0))), (q_7, .inl (k_8, 14, .inl (fun _ => 0))), (q_9, .inl (k_10, 22, .inl (fun _ => 0))), (q_11, .inl (k_12, 88, .inl (fun _ => 0))), (q_13, .inl (k_14, 88, .inl (fun _ => 0))), (q_15, .inl (k_16, 88, .inl (fun _ => 0))), (q_17, .inl (k_18, 88, .inl (fun _ => 0))), (q_19, .inl (k_20, 88, .inl (fun _ => 0))), (q_21, .inl (k_22, 4, .inl (fun _ => 0))), (q_23, .inl (k_24, 4, .inl (fun _ => 0))), (q_25, .inl (k_26, 4, .inl (fun _ => 0)))] H := hP
  have hD : va_D A [(h0, .inr (0, [.int 0, .int 0, .int 0, .int (-1), .ref q_1, .ref q_3, .ref q_5, .ref q_7, .ref q_9, .ref q_11, .ref q_13, .ref q_15, .ref q_17, .ref q_19, .ref q_21, .ref q_23, .ref q_25])), (q_1, .inl (k_2, 8, .inl (fun _ => 0))), (q_3, .inl (k_4, 14, .inl (fun _ => 0))), (q_5, .inl (k_6, 14, .inl (fun _ => 0))), (q_7, .inl (k_8, 14, .inl (fun _ => 0))), (q_9, .inl (k_10, 22, .inl (fun _ => 0))), (q_11, .inl (k_12, 88, .inl (fun _ => 0))), (q_13, .inl (k_14, 88, .inl (fun _ => 0))), (q_15, .inl (k_16, 88, .inl (fun _ => 0))), (q_17, .inl (k_18, 88, .inl (fun _ => 0))), (q_19, .inl (k_20, 88, .inl (fun _ => 0))), (q_21, .inl (k_22, 4, .inl (fun _ => 0))), (q_23, .inl (k_24, 4, .inl (fun _ => 0))), (q_25, .inl (k_26, 4, .inl (fun _ => 0)))] := hD
  refine W.widen (k := 13) (n := 524) (by first | omega | exact Nat.le_of_ble_eq_true rfl) (by first | omega | exact Nat.le_of_ble_eq_true rfl) ?_
  have hP9 := hP.sub (ws' := [(h0, .inr (0, [.int 0, .int 0, .int 0, .int (-1), .ref q_1, .ref q_3, .ref q_5, .ref q_7, .ref q_9, .ref q_11, .ref q_13, .ref q_15, .ref q_17, .ref q_19, .ref q_21, .ref q_23, .ref q_25])), (q_1, .inl (k_2, 8, .inl (fun _ => 0))), (q_3, .inl (k_4, 14, .inl (fun _ => 0))), (q_5, .inl (k_6, 14, .inl (fun _ => 0))), (q_7, .inl (k_8, 14, .inl (fun _ => 0))), (q_9, .inl (k_10, 22, .inl (fun _ => 0))), (q_11, .inl (k_12, 88, .inl (fun _ => 0))), (q_13, .inl (k_14, 88, .inl (fun _ => 0))), (q_15, .inl (k_16, 88, .inl (fun _ => 0))), (q_17, .inl (k_18, 88, .inl (fun _ => 0))), (q_19, .inl (k_20, 88, .inl (fun _ => 0))), (q_21, .inl (k_22, 4, .inl (fun _ => 0))), (q_23, .inl (k_24, 4, .inl (fun _ => 0))), (q_25, .inl (k_26, 4, .inl (fun _ => 0)))]) [0, 1, 2, 3, 4, 5, 6, 7, 8, 9, 10, 11, 12, 13] rfl
  have hD9 := hD.sub (ws' := [(h0, .inr (0, [.int 0, .int 0, .int 0, .int (-1), .ref q_1, .ref q_3, .ref q_5, .ref q_7, .ref q_9, .ref q_11, .ref q_13, .ref q_15, .ref q_17, .ref q_19, .ref q_21, .ref q_23, .ref q_25])), (q_1, .inl (k_2, 8, .inl (fun _ => 0))), (q_3, .inl (k_4, 14, .inl (fun _ => 0))), (q_5, .inl (k_6, 14, .inl (fun _ => 0))), (q_7, .inl (k_8, 14, .inl (fun _ => 0))), (q_9, .inl (k_10, 22, .inl (fun _ => 0))), (q_11, .inl (k_12, 88, .inl (fun _ => 0))), (q_13, .inl (k_14, 88, .inl (fun _ => 0))), (q_15, .inl (k_16, 88, .inl (fun _ => 0))), (q_17, .inl (k_18, 88, .inl (fun _ => 0))), (q_19, .inl (k_20, 88, .inl (fun _ => 0))), (q_21, .inl (k_22, 4, .inl (fun _ => 0))), (q_23, .inl (k_24, 4, .inl (fun _ => 0))), (q_25, .inl (k_26, 4, .inl (fun _ => 0)))]) [0, 1, 2, 3, 4, 5, 6, 7, 8, 9, 10, 11, 12, 13] (by decide) rfl
  have hK9 := hK.sub (tys' := [(k_2, .boolean), (k_4, .int), (k_6, .int), (k_8, .int), (k_10, .int), (k_12, .int), (k_14, .int), (k_16, .int), (k_18, .int), (k_20, .int), (k_22, .int), (k_24, .int), (k_26, .int)]) [0, 1, 2, 3, 4, 5, 6, 7, 8, 9, 10, 11, 12] rfl
  exact W.vret hx hb hr (fun t ht hW => ⟨⟨(), rfl, trivial, ⟨q_1, q_3, q_5, q_7, q_9, q_11, q_13, q_15, q_17, q_19, q_21, q_23, q_25, k_2, k_4, k_6, k_8, k_10, k_12, k_14, k_16, k_18, k_20, k_22, k_24, k_26, by rw [ht]; exact hP9, va_K.moved hW.alike hK9, hD9⟩⟩, hS.F ht⟩) hS.2.2 dX0_init_110
theorem dX2_init_0 : decode cX2_init 0 = .ok (.aload_n 0, 1) := by decide +kernel
theorem dX2_init_1 : decode cX2_init 1 = .ok (.invokespecial 3, 3) := by decide +kernel
theorem dX2_init_4 : decode cX2_init 4 = .ok (.aload_n 0, 1) := by decide +kernel
theorem dX2_init_5 : decode cX2_init 5 = .ok (.bipush 20, 2) := by decide +kernel
theorem dX2_init_7 : decode cX2_init 7 = .ok (.newarray .int, 2) := by decide +kernel
theorem dX2_init_9 : decode cX2_init 9 = .ok (.putfield 9, 3) := by decide +kernel
theorem dX2_init_12 : decode cX2_init 12 = .ok (.aload_n 0, 1) := by decide +kernel
theorem dX2_init_13 : decode cX2_init 13 = .ok (.bipush 20, 2) := by decide +kernel
theorem dX2_init_15 : decode cX2_init 15 = .ok (.newarray .int, 2) := by decide +kernel
theorem dX2_init_17 : decode cX2_init 17 = .ok (.putfield 15, 3) := by decide +kernel
theorem dX2_init_20 : decode cX2_init 20 = .ok (.return_, 1) := by decide +kernel
def vs_X2_init : List Cond := .code yX2_init cX2_init 1 none :: ([.methodLink RX2 3 objectInit, .instanceMethod objectInit, .code objectInit ⟨#[0xb1]⟩ 1 none, .arrayClass .int, .fieldLink RX2 9 "ClockReach$History" "codes" "[I", .fieldLink RX2 15 "ClockReach$History" "olds" "[I"] ++ wsX20)
set_option maxHeartbeats 4000000 in
set_option maxRecDepth 100000 in
theorem c_X2_init (l : Launch) (dC : Nat → ClassId) (dI : Nat → Nat → Nat) (sz : Nat) (h0 : Nat) : Met l yX2_init vs_X2_init ({ frames := 1, cells := 2, slots := 40, locals := 12 }) (va_Pc [.ref h0] (pu_B (dC, dI) [(h0, .inr (2, [.int 0, .null, .null]))] [] sz)) (va_Qv (fun (_ : Unit) => True) (fun _ t => ∃ (q1 q2 : Nat) (k1 k2 : ClassId), pu_E (dC, dI) [(h0, .inr (2, [.int 0, .ref q1, .ref q2])), (q1, .inl (k1, 20, .inl (fun _ => 0))), (q2, .inl (k2, 20, .inl (fun _ => 0)))] [(k1, .int), (k2, .int)] (va_A ([(h0, .inr (2, [.int 0, .null, .null]))]) sz) t) (va_A ([(h0, .inr (2, [.int 0, .null, .null]))]) sz)) 2 40 (va_A ([(h0, .inr (2, [.int 0, .null, .null]))]) sz) := by
  refine Met.ofW (cc := cX2_init) (maxL := 1) (ret := none) (by decide) rfl ?_
  intro p e s m args below meth c s₁ B hml hv
  obtain ⟨rfl, rfl, hP, hK, hD0⟩ := hv
  have hx := B.exec
  have hb := B.bytes
  have hr := B.returns
  have hts := atoms_spec (ws := vs_X2_init) B.pre
  have v_1 := hts (.methodLink RX2 3 objectInit) (List.mem_of_getElem? (i := 1) rfl)
  have v_2 := hts (.instanceMethod objectInit) (List.mem_of_getElem? (i := 2) rfl)
  have v_3 := hts (.code objectInit ⟨#[0xb1]⟩ 1 none) (List.mem_of_getElem? (i := 3) rfl)
  have v_4 := hts (.arrayClass .int) (List.mem_of_getElem? (i := 4) rfl)
  have v_5 := hts (.fieldLink RX2 9 "ClockReach$History" "codes" "[I") (List.mem_of_getElem? (i := 5) rfl)
  have v_6 := hts (.fieldLink RX2 15 "ClockReach$History" "olds" "[I") (List.mem_of_getElem? (i := 6) rfl)
  have hown : s.vm.findClass RX2 = some m.cls := findClass_of_methodNamed B.named
  have hlocks := B.notSynchronized
  have hin : meth.name = "<init>" := (name_of_methodNamed B.named B.method).1
  have hiX2 : ∀ w ∈ wsX20, w ∈ vs_X2_init := fun _ h => List.mem_cons_of_mem _ (List.mem_append_right _ h)
  have hD := hD0.self (sz := s.heap.size)
  generalize hAe : va_A ([(h0, .inr (2, [.int 0, .null, .null]))]) s.heap.size = A at hD ⊢
  have hA : ∀ q : Nat, s.heap.size ≤ q → A q := fun q h => by rw [← hAe]; exact Or.inr h
  have hS : va_S A s.heap s.heap [] := va_S.rf
  have hl := lv_entry ([.ref h0]) (n := 1) (Nat.le_of_ble_eq_true rfl)
  rw [lg_entry_eq]
  generalize (lg_sl ([.ref h0]) ++ List.replicate (1 - (lg_sl ([.ref h0])).length) Slot.unset).toArray = ls at hl ⊢
  have hl : lv_has ls 1 [(0, .ref h0)] := hl
  refine lv_aload_n hx hb dX2_init_0 rfl (lv_at hl 0 rfl) ?_
  refine W.objInit hx hb hown v_1 v_2 v_3 rfl (by rw [hml]; exact hl.1) rfl dX2_init_1 (Nat.le_of_ble_eq_true rfl) (Nat.le_of_ble_eq_true rfl) ?_
  refine W.eq (g2 := F0 m 4 ls []) rfl ?_
  refine lv_aload_n hx hb dX2_init_4 rfl (lv_at hl 0 rfl) ?_
  refine lv_bipush (v := 20) hx hb dX2_init_5 (by decide) ?_
  refine va_newa (atype := .int) (ty := .int) (N' := 20) (a0 := (20, .inl (fun _ => 0))) hx hb v_4 rfl hK hP hD hS hA (fun _ => rfl) (by decide) (by decide) (Nat.le_of_ble_eq_true rfl) (Nat.le_of_ble_eq_true rfl) (Nat.le_of_ble_eq_true rfl) dX2_init_7 (fun q_1 k_2 H hK hP hD hS => ?_)
  have hP : va_P (dC, dI) vwCl [(h0, .inr (2, [.int 0, .null, .null])), (q_1, .inl (k_2, 20, .inl (fun _ => 0)))] H := hP
  have hD : va_D A [(h0, .inr (2, [.int 0, .null, .null])), (q_1, .inl (k_2, 20, .inl (fun _ => 0)))] := hD
  have hK : va_K (dC, dI) vwCl [(k_2, .int)] s := hK
  refine W.widen (k := 1) (n := 20) (by omega) (by omega) ?_
  refine va_putF (D := (dC, dI)) (ci := 2) (v := .ref q_1) (ty := .array .int) (C := RX2) (T := TX2) (N := 3) hx hb hts hiX2 tyX2 tyX2_ok nmX2 hown hK hP hD hS 0 rfl rfl 1 (by decide) v_5 (fun _ h9 => h9) rfl hin rfl (by decide +kernel) rfl rfl (Nat.le_of_ble_eq_true rfl) dX2_init_9 (fun H locs hP hD hS => ?_)
  have hP : va_P (dC, dI) vwCl [(h0, .inr (2, [.int 0, .ref q_1, .null])), (q_1, .inl (k_2, 20, .inl (fun _ => 0)))] H := hP
  have hD : va_D A [(h0, .inr (2, [.int 0, .ref q_1, .null])), (q_1, .inl (k_2, 20, .inl (fun _ => 0)))] := hD
  refine lv_aload_n hx hb dX2_init_12 rfl (lv_at hl 0 rfl) ?_
  refine lv_bipush (v := 20) hx hb dX2_init_13 (by decide) ?_
  refine va_newa (atype := .int) (ty := .int) (N' := 20) (a0 := (20, .inl (fun _ => 0))) hx hb v_4 rfl hK hP hD hS hA (fun _ => rfl) (by decide) (by decide) (Nat.le_of_ble_eq_true rfl) (Nat.le_of_ble_eq_true rfl) (Nat.le_of_ble_eq_true rfl) dX2_init_15 (fun q_3 k_4 H hK hP hD hS => ?_)
  have hP : va_P (dC, dI) vwCl [(h0, .inr (2, [.int 0, .ref q_1, .null])), (q_1, .inl (k_2, 20, .inl (fun _ => 0))), (q_3, .inl (k_4, 20, .inl (fun _ => 0)))] H := hP
  have hD : va_D A [(h0, .inr (2, [.int 0, .ref q_1, .null])), (q_1, .inl (k_2, 20, .inl (fun _ => 0))), (q_3, .inl (k_4, 20, .inl (fun _ => 0)))] := hD
  have hK : va_K (dC, dI) vwCl [(k_2, .int), (k_4, .int)] s := hK
  refine W.widen (k := 2) (n := 40) (by omega) (by omega) ?_
  refine va_putF (D := (dC, dI)) (ci := 2) (v := .ref q_3) (ty := .array .int) (C := RX2) (T := TX2) (N := 3) hx hb hts hiX2 tyX2 tyX2_ok nmX2 hown hK hP hD hS 0 rfl rfl 2 (by decide) v_6 (fun _ h9 => h9) rfl hin rfl (by decide +kernel) rfl rfl (Nat.le_of_ble_eq_true rfl) dX2_init_17 (fun H locs hP hD hS => ?_)
  have hP : va_P (dC, dI) vwCl [(h0, .inr (2, [.int 0, .ref q_1, .ref q_3])), (q_1, .inl (k_2, 20, .inl (fun _ => 0))), (q_3, .inl (k_4, 20, .inl (fun _ => 0)))] H := hP
  have hD : va_D A [(h0, .inr (2, [.int 0, .ref q_1, .ref q_3])), (q_1, .inl (k_2, 20, .inl (fun _ => 0))), (q_3, .inl (k_4, 20, .inl (fun _ => 0)))] := hD
  refine W.widen (k := 2) (n := 40) (by first | omega | exact Nat.le_of_ble_eq_true rfl) (by first | omega | exact Nat.le_of_ble_eq_true rfl) ?_
  have hP9 := hP.sub (ws' := [(h0, .inr (2, [.int 0, .ref q_1, .ref q_3])), (q_1, .inl (k_2, 20, .inl (fun _ => 0))), (q_3, .inl (k_4, 20, .inl (fun _ => 0)))]) [0, 1, 2] rfl
  have hD9 := hD.sub (ws' := [(h0, .inr (2, [.int 0, .ref q_1, .ref q_3])), (q_1, .inl (k_2, 20, .inl (fun _ => 0))), (q_3, .inl (k_4, 20, .inl (fun _ => 0)))]) [0, 1, 2] (by decide) rfl
  have hK9 := hK.sub (tys' := [(k_2, .int), (k_4, .int)]) [0, 1] rfl
  exact W.vret hx hb hr (fun t ht hW => ⟨⟨(), rfl, trivial, ⟨q_1, q_3, k_2, k_4, by rw [ht]; exact hP9, va_K.moved hW.alike hK9, hD9⟩⟩, hS.F ht⟩) hS.2.2 dX2_init_20
theorem dX3_init_0 : decode cX3_init 0 = .ok (.aload_n 0, 1) := by decide +kernel
theorem dX3_init_1 : decode cX3_init 1 = .ok (.invokespecial 3, 3) := by decide +kernel
theorem dX3_init_4 : decode cX3_init 4 = .ok (.aload_n 0, 1) := by decide +kernel
theorem dX3_init_5 : decode cX3_init 5 = .ok (.iconst 3, 1) := by decide +kernel
theorem dX3_init_6 : decode cX3_init 6 = .ok (.newarray .int, 2) := by decide +kernel
theorem dX3_init_8 : decode cX3_init 8 = .ok (.putfield 9, 3) := by decide +kernel
theorem dX3_init_11 : decode cX3_init 11 = .ok (.aload_n 0, 1) := by decide +kernel
theorem dX3_init_12 : decode cX3_init 12 = .ok (.iconst 3, 1) := by decide +kernel
theorem dX3_init_13 : decode cX3_init 13 = .ok (.newarray .int, 2) := by decide +kernel
theorem dX3_init_15 : decode cX3_init 15 = .ok (.putfield 15, 3) := by decide +kernel
theorem dX3_init_18 : decode cX3_init 18 = .ok (.return_, 1) := by decide +kernel
def vs_X3_init : List Cond := .code yX3_init cX3_init 1 none :: ([.methodLink RX3 3 objectInit, .instanceMethod objectInit, .code objectInit ⟨#[0xb1]⟩ 1 none, .arrayClass .int, .fieldLink RX3 9 "ClockReach$Play" "times" "[I", .fieldLink RX3 15 "ClockReach$Play" "behind" "[I"] ++ wsX30)
set_option maxHeartbeats 4000000 in
set_option maxRecDepth 100000 in
theorem c_X3_init (l : Launch) (dC : Nat → ClassId) (dI : Nat → Nat → Nat) (sz : Nat) (h0 : Nat) : Met l yX3_init vs_X3_init ({ frames := 1, cells := 2, slots := 6, locals := 12 }) (va_Pc [.ref h0] (pu_B (dC, dI) [(h0, .inr (3, [.int 0, .int 0, .int 0, .null, .null]))] [] sz)) (va_Qv (fun (_ : Unit) => True) (fun _ t => ∃ (q1 q2 : Nat) (k1 k2 : ClassId), pu_E (dC, dI) [(h0, .inr (3, [.int 0, .int 0, .int 0, .ref q1, .ref q2])), (q1, .inl (k1, 3, .inl (fun _ => 0))), (q2, .inl (k2, 3, .inl (fun _ => 0)))] [(k1, .int), (k2, .int)] (va_A ([(h0, .inr (3, [.int 0, .int 0, .int 0, .null, .null]))]) sz) t) (va_A ([(h0, .inr (3, [.int 0, .int 0, .int 0, .null, .null]))]) sz)) 2 6 (va_A ([(h0, .inr (3, [.int 0, .int 0, .int 0, .null, .null]))]) sz) := by
  refine Met.ofW (cc := cX3_init) (maxL := 1) (ret := none) (by decide) rfl ?_
  intro p e s m args below meth c s₁ B hml hv
  obtain ⟨rfl, rfl, hP, hK, hD0⟩ := hv
  have hx := B.exec
  have hb := B.bytes
  have hr := B.returns
  have hts := atoms_spec (ws := vs_X3_init) B.pre
  have v_1 := hts (.methodLink RX3 3 objectInit) (List.mem_of_getElem? (i := 1) rfl)
  have v_2 := hts (.instanceMethod objectInit) (List.mem_of_getElem? (i := 2) rfl)
  have v_3 := hts (.code objectInit ⟨#[0xb1]⟩ 1 none) (List.mem_of_getElem? (i := 3) rfl)
  have v_4 := hts (.arrayClass .int) (List.mem_of_getElem? (i := 4) rfl)
  have v_5 := hts (.fieldLink RX3 9 "ClockReach$Play" "times" "[I") (List.mem_of_getElem? (i := 5) rfl)
  have v_6 := hts (.fieldLink RX3 15 "ClockReach$Play" "behind" "[I") (List.mem_of_getElem? (i := 6) rfl)
  have hown : s.vm.findClass RX3 = some m.cls := findClass_of_methodNamed B.named
  have hlocks := B.notSynchronized
  have hin : meth.name = "<init>" := (name_of_methodNamed B.named B.method).1
  have hiX3 : ∀ w ∈ wsX30, w ∈ vs_X3_init := fun _ h => List.mem_cons_of_mem _ (List.mem_append_right _ h)
  have hD := hD0.self (sz := s.heap.size)
  generalize hAe : va_A ([(h0, .inr (3, [.int 0, .int 0, .int 0, .null, .null]))]) s.heap.size = A at hD ⊢
  have hA : ∀ q : Nat, s.heap.size ≤ q → A q := fun q h => by rw [← hAe]; exact Or.inr h
  have hS : va_S A s.heap s.heap [] := va_S.rf
  have hl := lv_entry ([.ref h0]) (n := 1) (Nat.le_of_ble_eq_true rfl)
  rw [lg_entry_eq]
  generalize (lg_sl ([.ref h0]) ++ List.replicate (1 - (lg_sl ([.ref h0])).length) Slot.unset).toArray = ls at hl ⊢
  have hl : lv_has ls 1 [(0, .ref h0)] := hl
  refine lv_aload_n hx hb dX3_init_0 rfl (lv_at hl 0 rfl) ?_
  refine W.objInit hx hb hown v_1 v_2 v_3 rfl (by rw [hml]; exact hl.1) rfl dX3_init_1 (Nat.le_of_ble_eq_true rfl) (Nat.le_of_ble_eq_true rfl) ?_
  refine W.eq (g2 := F0 m 4 ls []) rfl ?_
  refine lv_aload_n hx hb dX3_init_4 rfl (lv_at hl 0 rfl) ?_
  refine lv_iconst (v := 3) hx hb dX3_init_5 (by decide) ?_
  refine va_newa (atype := .int) (ty := .int) (N' := 3) (a0 := (3, .inl (fun _ => 0))) hx hb v_4 rfl hK hP hD hS hA (fun _ => rfl) (by decide) (by decide) (Nat.le_of_ble_eq_true rfl) (Nat.le_of_ble_eq_true rfl) (Nat.le_of_ble_eq_true rfl) dX3_init_6 (fun q_1 k_2 H hK hP hD hS => ?_)
  have hP : va_P (dC, dI) vwCl [(h0, .inr (3, [.int 0, .int 0, .int 0, .null, .null])), (q_1, .inl (k_2, 3, .inl (fun _ => 0)))] H := hP
  have hD : va_D A [(h0, .inr (3, [.int 0, .int 0, .int 0, .null, .null])), (q_1, .inl (k_2, 3, .inl (fun _ => 0)))] := hD
  have hK : va_K (dC, dI) vwCl [(k_2, .int)] s := hK
  refine W.widen (k := 1) (n := 3) (by omega) (by omega) ?_
  refine va_putF (D := (dC, dI)) (ci := 3) (v := .ref q_1) (ty := .array .int) (C := RX3) (T := TX3) (N := 5) hx hb hts hiX3 tyX3 tyX3_ok nmX3 hown hK hP hD hS 0 rfl rfl 3 (by decide) v_5 (fun _ h9 => h9) rfl hin rfl (by decide +kernel) rfl rfl (Nat.le_of_ble_eq_true rfl) dX3_init_8 (fun H locs hP hD hS => ?_)
  have hP : va_P (dC, dI) vwCl [(h0, .inr (3, [.int 0, .int 0, .int 0, .ref q_1, .null])), (q_1, .inl (k_2, 3, .inl (fun _ => 0)))] H := hP
  have hD : va_D A [(h0, .inr (3, [.int 0, .int 0, .int 0, .ref q_1, .null])), (q_1, .inl (k_2, 3, .inl (fun _ => 0)))] := hD
  refine lv_aload_n hx hb dX3_init_11 rfl (lv_at hl 0 rfl) ?_
  refine lv_iconst (v := 3) hx hb dX3_init_12 (by decide) ?_
  refine va_newa (atype := .int) (ty := .int) (N' := 3) (a0 := (3, .inl (fun _ => 0))) hx hb v_4 rfl hK hP hD hS hA (fun _ => rfl) (by decide) (by decide) (Nat.le_of_ble_eq_true rfl) (Nat.le_of_ble_eq_true rfl) (Nat.le_of_ble_eq_true rfl) dX3_init_13 (fun q_3 k_4 H hK hP hD hS => ?_)
  have hP : va_P (dC, dI) vwCl [(h0, .inr (3, [.int 0, .int 0, .int 0, .ref q_1, .null])), (q_1, .inl (k_2, 3, .inl (fun _ => 0))), (q_3, .inl (k_4, 3, .inl (fun _ => 0)))] H := hP
  have hD : va_D A [(h0, .inr (3, [.int 0, .int 0, .int 0, .ref q_1, .null])), (q_1, .inl (k_2, 3, .inl (fun _ => 0))), (q_3, .inl (k_4, 3, .inl (fun _ => 0)))] := hD
  have hK : va_K (dC, dI) vwCl [(k_2, .int), (k_4, .int)] s := hK
  refine W.widen (k := 2) (n := 6) (by omega) (by omega) ?_
  refine va_putF (D := (dC, dI)) (ci := 3) (v := .ref q_3) (ty := .array .int) (C := RX3) (T := TX3) (N := 5) hx hb hts hiX3 tyX3 tyX3_ok nmX3 hown hK hP hD hS 0 rfl rfl 4 (by decide) v_6 (fun _ h9 => h9) rfl hin rfl (by decide +kernel) rfl rfl (Nat.le_of_ble_eq_true rfl) dX3_init_15 (fun H locs hP hD hS => ?_)
  have hP : va_P (dC, dI) vwCl [(h0, .inr (3, [.int 0, .int 0, .int 0, .ref q_1, .ref q_3])), (q_1, .inl (k_2, 3, .inl (fun _ => 0))), (q_3, .inl (k_4, 3, .inl (fun _ => 0)))] H := hP
  have hD : va_D A [(h0, .inr (3, [.int 0, .int 0, .int 0, .ref q_1, .ref q_3])), (q_1, .inl (k_2, 3, .inl (fun _ => 0))), (q_3, .inl (k_4, 3, .inl (fun _ => 0)))] := hD
  refine W.widen (k := 2) (n := 6) (by first | omega | exact Nat.le_of_ble_eq_true rfl) (by first | omega | exact Nat.le_of_ble_eq_true rfl) ?_
  have hP9 := hP.sub (ws' := [(h0, .inr (3, [.int 0, .int 0, .int 0, .ref q_1, .ref q_3])), (q_1, .inl (k_2, 3, .inl (fun _ => 0))), (q_3, .inl (k_4, 3, .inl (fun _ => 0)))]) [0, 1, 2] rfl
  have hD9 := hD.sub (ws' := [(h0, .inr (3, [.int 0, .int 0, .int 0, .ref q_1, .ref q_3])), (q_1, .inl (k_2, 3, .inl (fun _ => 0))), (q_3, .inl (k_4, 3, .inl (fun _ => 0)))]) [0, 1, 2] (by decide) rfl
  have hK9 := hK.sub (tys' := [(k_2, .int), (k_4, .int)]) [0, 1] rfl
  exact W.vret hx hb hr (fun t ht hW => ⟨⟨(), rfl, trivial, ⟨q_1, q_3, k_2, k_4, by rw [ht]; exact hP9, va_K.moved hW.alike hK9, hD9⟩⟩, hS.F ht⟩) hS.2.2 dX3_init_18
theorem dX6_init_0 : decode cX6_init 0 = .ok (.aload_n 0, 1) := by decide +kernel
theorem dX6_init_1 : decode cX6_init 1 = .ok (.invokespecial 3, 3) := by decide +kernel
theorem dX6_init_4 : decode cX6_init 4 = .ok (.aload_n 0, 1) := by decide +kernel
theorem dX6_init_5 : decode cX6_init 5 = .ok (.bipush 120, 2) := by decide +kernel
theorem dX6_init_7 : decode cX6_init 7 = .ok (.newarray .int, 2) := by decide +kernel
theorem dX6_init_9 : decode cX6_init 9 = .ok (.putfield 9, 3) := by decide +kernel
theorem dX6_init_12 : decode cX6_init 12 = .ok (.aload_n 0, 1) := by decide +kernel
theorem dX6_init_13 : decode cX6_init 13 = .ok (.bipush 121, 2) := by decide +kernel
theorem dX6_init_15 : decode cX6_init 15 = .ok (.newarray .int, 2) := by decide +kernel
theorem dX6_init_17 : decode cX6_init 17 = .ok (.putfield 15, 3) := by decide +kernel
theorem dX6_init_20 : decode cX6_init 20 = .ok (.aload_n 0, 1) := by decide +kernel
theorem dX6_init_21 : decode cX6_init 21 = .ok (.sipush 1920, 3) := by decide +kernel
theorem dX6_init_24 : decode cX6_init 24 = .ok (.newarray .int, 2) := by decide +kernel
theorem dX6_init_26 : decode cX6_init 26 = .ok (.putfield 18, 3) := by decide +kernel
theorem dX6_init_29 : decode cX6_init 29 = .ok (.aload_n 0, 1) := by decide +kernel
theorem dX6_init_30 : decode cX6_init 30 = .ok (.sipush 1920, 3) := by decide +kernel
theorem dX6_init_33 : decode cX6_init 33 = .ok (.newarray .int, 2) := by decide +kernel
theorem dX6_init_35 : decode cX6_init 35 = .ok (.putfield 21, 3) := by decide +kernel
theorem dX6_init_38 : decode cX6_init 38 = .ok (.aload_n 0, 1) := by decide +kernel
theorem dX6_init_39 : decode cX6_init 39 = .ok (.sipush 1920, 3) := by decide +kernel
theorem dX6_init_42 : decode cX6_init 42 = .ok (.newarray .int, 2) := by decide +kernel
theorem dX6_init_44 : decode cX6_init 44 = .ok (.putfield 24, 3) := by decide +kernel
theorem dX6_init_47 : decode cX6_init 47 = .ok (.aload_n 0, 1) := by decide +kernel
theorem dX6_init_48 : decode cX6_init 48 = .ok (.iconst 3, 1) := by decide +kernel
theorem dX6_init_49 : decode cX6_init 49 = .ok (.newarray .int, 2) := by decide +kernel
theorem dX6_init_51 : decode cX6_init 51 = .ok (.putfield 27, 3) := by decide +kernel
theorem dX6_init_54 : decode cX6_init 54 = .ok (.aload_n 0, 1) := by decide +kernel
theorem dX6_init_55 : decode cX6_init 55 = .ok (.iconst 5, 1) := by decide +kernel
theorem dX6_init_56 : decode cX6_init 56 = .ok (.newarray .int, 2) := by decide +kernel
theorem dX6_init_58 : decode cX6_init 58 = .ok (.putfield 30, 3) := by decide +kernel
theorem dX6_init_61 : decode cX6_init 61 = .ok (.aload_n 0, 1) := by decide +kernel
theorem dX6_init_62 : decode cX6_init 62 = .ok (.new 33, 3) := by decide +kernel
theorem dX6_init_65 : decode cX6_init 65 = .ok (.dup, 1) := by decide +kernel
theorem dX6_init_66 : decode cX6_init 66 = .ok (.iconst 5, 1) := by decide +kernel
theorem dX6_init_67 : decode cX6_init 67 = .ok (.invokespecial 35, 3) := by decide +kernel
theorem dX6_init_70 : decode cX6_init 70 = .ok (.putfield 38, 3) := by decide +kernel
theorem dX6_init_73 : decode cX6_init 73 = .ok (.return_, 1) := by decide +kernel
def vs_X6_init : List Cond := .code yX6_init cX6_init 1 none :: ([.methodLink RX6 3 objectInit, .instanceMethod objectInit, .code objectInit ⟨#[0xb1]⟩ 1 none, .arrayClass .int, .fieldLink RX6 9 "ClockReach$Timing" "path" "[I", .fieldLink RX6 15 "ClockReach$Timing" "at" "[I", .fieldLink RX6 18 "ClockReach$Timing" "laters" "[I", .fieldLink RX6 21 "ClockReach$Timing" "earliers" "[I", .fieldLink RX6 24 "ClockReach$Timing" "gaps" "[I", .fieldLink RX6 27 "ClockReach$Timing" "since" "[I", .fieldLink RX6 30 "ClockReach$Timing" "zeros" "[I", .classLink RX6 33 RX7, .instantiable RX7 2, .initialized RX7, .code yX7_init cX7_init 2 none, .methodLink RX7 5 objectInit, .fieldLink RX7 11 "ClockReach$Zone" "cells" "[I", .methodLink RX6 35 yX7_init, .instanceMethod yX7_init, .fieldLink RX6 38 "ClockReach$Timing" "zone" "LClockReach$Zone;"] ++ wsX60 ++ wsX70)
theorem g_X6_init_X7_init_5 : GoodIn vs_X6_init vs_X7_init_5 := goodIn_r _ [15, 16, 2, 3, 4, 17, 31, 32] (by decide +kernel) (by decide +kernel)
set_option maxHeartbeats 4000000 in
set_option maxRecDepth 100000 in
theorem c_X6_init (l : Launch) (dC : Nat → ClassId) (dI : Nat → Nat → Nat) (sz : Nat) (h0 : Nat) : Met l yX6_init vs_X6_init ({ frames := 2, cells := 9, slots := 6036, locals := 33 }) (va_Pc [.ref h0] (pu_B (dC, dI) [(h0, .inr (6, [.null, .int 0, .null, .null, .null, .null, .int 0, .null, .null, .null]))] [] sz)) (va_Qv (fun (_ : Unit) => True) (fun _ t => ∃ (q1 q2 q3 q4 q5 q6 q7 qz qy : Nat) (k1 k2 k3 k4 k5 k6 k7 ky : ClassId), pu_E (dC, dI) [(h0, .inr (6, [.ref q1, .int 0, .ref q2, .ref q3, .ref q4, .ref q5, .int 0, .ref q6, .ref q7, .ref qz])), (q1, .inl (k1, 120, .inl (fun _ => 0))), (q2, .inl (k2, 121, .inl (fun _ => 0))), (q3, .inl (k3, 1920, .inl (fun _ => 0))), (q4, .inl (k4, 1920, .inl (fun _ => 0))), (q5, .inl (k5, 1920, .inl (fun _ => 0))), (q6, .inl (k6, 3, .inl (fun _ => 0))), (q7, .inl (k7, 5, .inl (fun _ => 0))), (qz, .inr (7, [.ref qy, .int 0])), (qy, .inl (ky, 25, .inl (fun _ => 0)))] [(k1, .int), (k2, .int), (k3, .int), (k4, .int), (k5, .int), (k6, .int), (k7, .int), (ky, .int)] (va_A ([(h0, .inr (6, [.null, .int 0, .null, .null, .null, .null, .int 0, .null, .null, .null]))]) sz) t) (va_A ([(h0, .inr (6, [.null, .int 0, .null, .null, .null, .null, .int 0, .null, .null, .null]))]) sz)) 9 6036 (va_A ([(h0, .inr (6, [.null, .int 0, .null, .null, .null, .null, .int 0, .null, .null, .null]))]) sz) := by
  refine Met.ofW (cc := cX6_init) (maxL := 1) (ret := none) (by decide) rfl ?_
  intro p e s m args below meth c s₁ B hml hv
  obtain ⟨rfl, rfl, hP, hK, hD0⟩ := hv
  have hx := B.exec
  have hb := B.bytes
  have hr := B.returns
  have hts := atoms_spec (ws := vs_X6_init) B.pre
  have v_1 := hts (.methodLink RX6 3 objectInit) (List.mem_of_getElem? (i := 1) rfl)
  have v_2 := hts (.instanceMethod objectInit) (List.mem_of_getElem? (i := 2) rfl)
  have v_3 := hts (.code objectInit ⟨#[0xb1]⟩ 1 none) (List.mem_of_getElem? (i := 3) rfl)
  have v_4 := hts (.arrayClass .int) (List.mem_of_getElem? (i := 4) rfl)
  have v_5 := hts (.fieldLink RX6 9 "ClockReach$Timing" "path" "[I") (List.mem_of_getElem? (i := 5) rfl)
  have v_6 := hts (.fieldLink RX6 15 "ClockReach$Timing" "at" "[I") (List.mem_of_getElem? (i := 6) rfl)
  have v_7 := hts (.fieldLink RX6 18 "ClockReach$Timing" "laters" "[I") (List.mem_of_getElem? (i := 7) rfl)
  have v_8 := hts (.fieldLink RX6 21 "ClockReach$Timing" "earliers" "[I") (List.mem_of_getElem? (i := 8) rfl)
  have v_9 := hts (.fieldLink RX6 24 "ClockReach$Timing" "gaps" "[I") (List.mem_of_getElem? (i := 9) rfl)
  have v_10 := hts (.fieldLink RX6 27 "ClockReach$Timing" "since" "[I") (List.mem_of_getElem? (i := 10) rfl)
  have v_11 := hts (.fieldLink RX6 30 "ClockReach$Timing" "zeros" "[I") (List.mem_of_getElem? (i := 11) rfl)
  have v_12 := hts (.classLink RX6 33 RX7) (List.mem_of_getElem? (i := 12) rfl)
  have v_13 := hts (.instantiable RX7 2) (List.mem_of_getElem? (i := 13) rfl)
  have v_14 := hts (.initialized RX7) (List.mem_of_getElem? (i := 14) rfl)
  have v_18 := hts (.methodLink RX6 35 yX7_init) (List.mem_of_getElem? (i := 18) rfl)
  have v_19 := hts (.instanceMethod yX7_init) (List.mem_of_getElem? (i := 19) rfl)
  have v_20 := hts (.fieldLink RX6 38 "ClockReach$Timing" "zone" "LClockReach$Zone;") (List.mem_of_getElem? (i := 20) rfl)
  have hown : s.vm.findClass RX6 = some m.cls := findClass_of_methodNamed B.named
  have hlocks := B.notSynchronized
  have hin : meth.name = "<init>" := (name_of_methodNamed B.named B.method).1
  have hiX6 : ∀ w ∈ wsX60, w ∈ vs_X6_init := fun _ h => List.mem_cons_of_mem _ (List.mem_append_left _ (List.mem_append_right _ h))
  have hiX7 : ∀ w ∈ wsX70, w ∈ vs_X6_init := fun _ h => List.mem_cons_of_mem _ (List.mem_append_right _ h)
  have hD := hD0.self (sz := s.heap.size)
  generalize hAe : va_A ([(h0, .inr (6, [.null, .int 0, .null, .null, .null, .null, .int 0, .null, .null, .null]))]) s.heap.size = A at hD ⊢
  have hA : ∀ q : Nat, s.heap.size ≤ q → A q := fun q h => by rw [← hAe]; exact Or.inr h
  have hS : va_S A s.heap s.heap [] := va_S.rf
  have hl := lv_entry ([.ref h0]) (n := 1) (Nat.le_of_ble_eq_true rfl)
  rw [lg_entry_eq]
  generalize (lg_sl ([.ref h0]) ++ List.replicate (1 - (lg_sl ([.ref h0])).length) Slot.unset).toArray = ls at hl ⊢
  have hl : lv_has ls 1 [(0, .ref h0)] := hl
  refine lv_aload_n hx hb dX6_init_0 rfl (lv_at hl 0 rfl) ?_
  refine W.objInit hx hb hown v_1 v_2 v_3 rfl (by rw [hml]; exact hl.1) rfl dX6_init_1 (Nat.le_of_ble_eq_true rfl) (Nat.le_of_ble_eq_true rfl) ?_
  refine W.eq (g2 := F0 m 4 ls []) rfl ?_
  refine lv_aload_n hx hb dX6_init_4 rfl (lv_at hl 0 rfl) ?_
  refine lv_bipush (v := 120) hx hb dX6_init_5 (by decide) ?_
  refine va_newa (atype := .int) (ty := .int) (N' := 120) (a0 := (120, .inl (fun _ => 0))) hx hb v_4 rfl hK hP hD hS hA (fun _ => rfl) (by decide) (by decide) (Nat.le_of_ble_eq_true rfl) (Nat.le_of_ble_eq_true rfl) (Nat.le_of_ble_eq_true rfl) dX6_init_7 (fun q_1 k_2 H hK hP hD hS => ?_)
  have hP : va_P (dC, dI) vwCl [(h0, .inr (6, [.null, .int 0, .null, .null, .null, .null, .int 0, .null, .null, .null])), (q_1, .inl (k_2, 120, .inl (fun _ => 0)))] H := hP
  have hD : va_D A [(h0, .inr (6, [.null, .int 0, .null, .null, .null, .null, .int 0, .null, .null, .null])), (q_1, .inl (k_2, 120, .inl (fun _ => 0)))] := hD
  have hK : va_K (dC, dI) vwCl [(k_2, .int)] s := hK
  refine W.widen (k := 1) (n := 120) (by omega) (by omega) ?_
  refine va_putF (D := (dC, dI)) (ci := 6) (v := .ref q_1) (ty := .array .int) (C := RX6) (T := TX6) (N := 10) hx hb hts hiX6 tyX6 tyX6_ok nmX6 hown hK hP hD hS 0 rfl rfl 0 (by decide) v_5 (fun _ h9 => h9) rfl hin rfl (by decide +kernel) rfl rfl (Nat.le_of_ble_eq_true rfl) dX6_init_9 (fun H locs hP hD hS => ?_)
  have hP : va_P (dC, dI) vwCl [(h0, .inr (6, [.ref q_1, .int 0, .null, .null, .null, .null, .int 0, .null, .null, .null])), (q_1, .inl (k_2, 120, .inl (fun _ => 0)))] H := hP
  have hD : va_D A [(h0, .inr (6, [.ref q_1, .int 0, .null, .null, .null, .null, .int 0, .null, .null, .null])), (q_1, .inl (k_2, 120, .inl (fun _ => 0)))] := hD
  refine lv_aload_n hx hb dX6_init_12 rfl (lv_at hl 0 rfl) ?_
  refine lv_bipush (v := 121) hx hb dX6_init_13 (by decide) ?_
  refine va_newa (atype := .int) (ty := .int) (N' := 121) (a0 := (121, .inl (fun _ => 0))) hx hb v_4 rfl hK hP hD hS hA (fun _ => rfl) (by decide) (by decide) (Nat.le_of_ble_eq_true rfl) (Nat.le_of_ble_eq_true rfl) (Nat.le_of_ble_eq_true rfl) dX6_init_15 (fun q_3 k_4 H hK hP hD hS => ?_)
  have hP : va_P (dC, dI) vwCl [(h0, .inr (6, [.ref q_1, .int 0, .null, .null, .null, .null, .int 0, .null, .null, .null])), (q_1, .inl (k_2, 120, .inl (fun _ => 0))), (q_3, .inl (k_4, 121, .inl (fun _ => 0)))] H := hP
  have hD : va_D A [(h0, .inr (6, [.ref q_1, .int 0, .null, .null, .null, .null, .int 0, .null, .null, .null])), (q_1, .inl (k_2, 120, .inl (fun _ => 0))), (q_3, .inl (k_4, 121, .inl (fun _ => 0)))] := hD
  have hK : va_K (dC, dI) vwCl [(k_2, .int), (k_4, .int)] s := hK
  refine W.widen (k := 2) (n := 241) (by omega) (by omega) ?_
  refine va_putF (D := (dC, dI)) (ci := 6) (v := .ref q_3) (ty := .array .int) (C := RX6) (T := TX6) (N := 10) hx hb hts hiX6 tyX6 tyX6_ok nmX6 hown hK hP hD hS 0 rfl rfl 2 (by decide) v_6 (fun _ h9 => h9) rfl hin rfl (by decide +kernel) rfl rfl (Nat.le_of_ble_eq_true rfl) dX6_init_17 (fun H locs hP hD hS => ?_)
  have hP : va_P (dC, dI) vwCl [(h0, .inr (6, [.ref q_1, .int 0, .ref q_3, .null, .null, .null, .int 0, .null, .null, .null])), (q_1, .inl (k_2, 120, .inl (fun _ => 0))), (q_3, .inl (k_4, 121, .inl (fun _ => 0)))] H := hP
  have hD : va_D A [(h0, .inr (6, [.ref q_1, .int 0, .ref q_3, .null, .null, .null, .int 0, .null, .null, .null])), (q_1, .inl (k_2, 120, .inl (fun _ => 0))), (q_3, .inl (k_4, 121, .inl (fun _ => 0)))] := hD
  refine lv_aload_n hx hb dX6_init_20 rfl (lv_at hl 0 rfl) ?_
  refine lv_sipush (v := 1920) hx hb dX6_init_21 (by decide) ?_
  refine va_newa (atype := .int) (ty := .int) (N' := 1920) (a0 := (1920, .inl (fun _ => 0))) hx hb v_4 rfl hK hP hD hS hA (fun _ => rfl) (by decide) (by decide) (Nat.le_of_ble_eq_true rfl) (Nat.le_of_ble_eq_true rfl) (Nat.le_of_ble_eq_true rfl) dX6_init_24 (fun q_5 k_6 H hK hP hD hS => ?_)
  have hP : va_P (dC, dI) vwCl [(h0, .inr (6, [.ref q_1, .int 0, .ref q_3, .null, .null, .null, .int 0, .null, .null, .null])), (q_1, .inl (k_2, 120, .inl (fun _ => 0))), (q_3, .inl (k_4, 121, .inl (fun _ => 0))), (q_5, .inl (k_6, 1920, .inl (fun _ => 0)))] H := hP
  have hD : va_D A [(h0, .inr (6, [.ref q_1, .int 0, .ref q_3, .null, .null, .null, .int 0, .null, .null, .null])), (q_1, .inl (k_2, 120, .inl (fun _ => 0))), (q_3, .inl (k_4, 121, .inl (fun _ => 0))), (q_5, .inl (k_6, 1920, .inl (fun _ => 0)))] := hD
  have hK : va_K (dC, dI) vwCl [(k_2, .int), (k_4, .int), (k_6, .int)] s := hK
  refine W.widen (k := 3) (n := 2161) (by omega) (by omega) ?_
  refine va_putF (D := (dC, dI)) (ci := 6) (v := .ref q_5) (ty := .array .int) (C := RX6) (T := TX6) (N := 10) hx hb hts hiX6 tyX6 tyX6_ok nmX6 hown hK hP hD hS 0 rfl rfl 3 (by decide) v_7 (fun _ h9 => h9) rfl hin rfl (by decide +kernel) rfl rfl (Nat.le_of_ble_eq_true rfl) dX6_init_26 (fun H locs hP hD hS => ?_)
  have hP : va_P (dC, dI) vwCl [(h0, .inr (6, [.ref q_1, .int 0, .ref q_3, .ref q_5, .null, .null, .int 0, .null, .null, .null])), (q_1, .inl (k_2, 120, .inl (fun _ => 0))), (q_3, .inl (k_4, 121, .inl (fun _ => 0))), (q_5, .inl (k_6, 1920, .inl (fun _ => 0)))] H := hP
  have hD : va_D A [(h0, .inr (6, [.ref q_1, .int 0, .ref q_3, .ref q_5, .null, .null, .int 0, .null, .null, .null])), (q_1, .inl (k_2, 120, .inl (fun _ => 0))), (q_3, .inl (k_4, 121, .inl (fun _ => 0))), (q_5, .inl (k_6, 1920, .inl (fun _ => 0)))] := hD
  refine lv_aload_n hx hb dX6_init_29 rfl (lv_at hl 0 rfl) ?_
  refine lv_sipush (v := 1920) hx hb dX6_init_30 (by decide) ?_
  refine va_newa (atype := .int) (ty := .int) (N' := 1920) (a0 := (1920, .inl (fun _ => 0))) hx hb v_4 rfl hK hP hD hS hA (fun _ => rfl) (by decide) (by decide) (Nat.le_of_ble_eq_true rfl) (Nat.le_of_ble_eq_true rfl) (Nat.le_of_ble_eq_true rfl) dX6_init_33 (fun q_7 k_8 H hK hP hD hS => ?_)
  have hP : va_P (dC, dI) vwCl [(h0, .inr (6, [.ref q_1, .int 0, .ref q_3, .ref q_5, .null, .null, .int 0, .null, .null, .null])), (q_1, .inl (k_2, 120, .inl (fun _ => 0))), (q_3, .inl (k_4, 121, .inl (fun _ => 0))), (q_5, .inl (k_6, 1920, .inl (fun _ => 0))), (q_7, .inl (k_8, 1920, .inl (fun _ => 0)))] H := hP
  have hD : va_D A [(h0, .inr (6, [.ref q_1, .int 0, .ref q_3, .ref q_5, .null, .null, .int 0, .null, .null, .null])), (q_1, .inl (k_2, 120, .inl (fun _ => 0))), (q_3, .inl (k_4, 121, .inl (fun _ => 0))), (q_5, .inl (k_6, 1920, .inl (fun _ => 0))), (q_7, .inl (k_8, 1920, .inl (fun _ => 0)))] := hD
  have hK : va_K (dC, dI) vwCl [(k_2, .int), (k_4, .int), (k_6, .int), (k_8, .int)] s := hK
  refine W.widen (k := 4) (n := 4081) (by omega) (by omega) ?_
  refine va_putF (D := (dC, dI)) (ci := 6) (v := .ref q_7) (ty := .array .int) (C := RX6) (T := TX6) (N := 10) hx hb hts hiX6 tyX6 tyX6_ok nmX6 hown hK hP hD hS 0 rfl rfl 4 (by decide) v_8 (fun _ h9 => h9) rfl hin rfl (by decide +kernel) rfl rfl (Nat.le_of_ble_eq_true rfl) dX6_init_35 (fun H locs hP hD hS => ?_)
  have hP : va_P (dC, dI) vwCl [(h0, .inr (6, [.ref q_1, .int 0, .ref q_3, .ref q_5, .ref q_7, .null, .int 0, .null, .null, .null])), (q_1, .inl (k_2, 120, .inl (fun _ => 0))), (q_3, .inl (k_4, 121, .inl (fun _ => 0))), (q_5, .inl (k_6, 1920, .inl (fun _ => 0))), (q_7, .inl (k_8, 1920, .inl (fun _ => 0)))] H := hP
  have hD : va_D A [(h0, .inr (6, [.ref q_1, .int 0, .ref q_3, .ref q_5, .ref q_7, .null, .int 0, .null, .null, .null])), (q_1, .inl (k_2, 120, .inl (fun _ => 0))), (q_3, .inl (k_4, 121, .inl (fun _ => 0))), (q_5, .inl (k_6, 1920, .inl (fun _ => 0))), (q_7, .inl (k_8, 1920, .inl (fun _ => 0)))] := hD
  refine lv_aload_n hx hb dX6_init_38 rfl (lv_at hl 0 rfl) ?_
  refine lv_sipush (v := 1920) hx hb dX6_init_39 (by decide) ?_
  refine va_newa (atype := .int) (ty := .int) (N' := 1920) (a0 := (1920, .inl (fun _ => 0))) hx hb v_4 rfl hK hP hD hS hA (fun _ => rfl) (by decide) (by decide) (Nat.le_of_ble_eq_true rfl) (Nat.le_of_ble_eq_true rfl) (Nat.le_of_ble_eq_true rfl) dX6_init_42 (fun q_9 k_10 H hK hP hD hS => ?_)
  have hP : va_P (dC, dI) vwCl [(h0, .inr (6, [.ref q_1, .int 0, .ref q_3, .ref q_5, .ref q_7, .null, .int 0, .null, .null, .null])), (q_1, .inl (k_2, 120, .inl (fun _ => 0))), (q_3, .inl (k_4, 121, .inl (fun _ => 0))), (q_5, .inl (k_6, 1920, .inl (fun _ => 0))), (q_7, .inl (k_8, 1920, .inl (fun _ => 0))), (q_9, .inl (k_10, 1920, .inl (fun _ => 0)))] H := hP
  have hD : va_D A [(h0, .inr (6, [.ref q_1, .int 0, .ref q_3, .ref q_5, .ref q_7, .null, .int 0, .null, .null, .null])), (q_1, .inl (k_2, 120, .inl (fun _ => 0))), (q_3, .inl (k_4, 121, .inl (fun _ => 0))), (q_5, .inl (k_6, 1920, .inl (fun _ => 0))), (q_7, .inl (k_8, 1920, .inl (fun _ => 0))), (q_9, .inl (k_10, 1920, .inl (fun _ => 0)))] := hD
  have hK : va_K (dC, dI) vwCl [(k_2, .int), (k_4, .int), (k_6, .int), (k_8, .int), (k_10, .int)] s := hK
  refine W.widen (k := 5) (n := 6001) (by omega) (by omega) ?_
  refine va_putF (D := (dC, dI)) (ci := 6) (v := .ref q_9) (ty := .array .int) (C := RX6) (T := TX6) (N := 10) hx hb hts hiX6 tyX6 tyX6_ok nmX6 hown hK hP hD hS 0 rfl rfl 5 (by decide) v_9 (fun _ h9 => h9) rfl hin rfl (by decide +kernel) rfl rfl (Nat.le_of_ble_eq_true rfl) dX6_init_44 (fun H locs hP hD hS => ?_)
  have hP : va_P (dC, dI) vwCl [(h0, .inr (6, [.ref q_1, .int 0, .ref q_3, .ref q_5, .ref q_7, .ref q_9, .int 0, .null, .null, .null])), (q_1, .inl (k_2, 120, .inl (fun _ => 0))), (q_3, .inl (k_4, 121, .inl (fun _ => 0))), (q_5, .inl (k_6, 1920, .inl (fun _ => 0))), (q_7, .inl (k_8, 1920, .inl (fun _ => 0))), (q_9, .inl (k_10, 1920, .inl (fun _ => 0)))] H := hP
  have hD : va_D A [(h0, .inr (6, [.ref q_1, .int 0, .ref q_3, .ref q_5, .ref q_7, .ref q_9, .int 0, .null, .null, .null])), (q_1, .inl (k_2, 120, .inl (fun _ => 0))), (q_3, .inl (k_4, 121, .inl (fun _ => 0))), (q_5, .inl (k_6, 1920, .inl (fun _ => 0))), (q_7, .inl (k_8, 1920, .inl (fun _ => 0))), (q_9, .inl (k_10, 1920, .inl (fun _ => 0)))] := hD
  refine lv_aload_n hx hb dX6_init_47 rfl (lv_at hl 0 rfl) ?_
  refine lv_iconst (v := 3) hx hb dX6_init_48 (by decide) ?_
  refine va_newa (atype := .int) (ty := .int) (N' := 3) (a0 := (3, .inl (fun _ => 0))) hx hb v_4 rfl hK hP hD hS hA (fun _ => rfl) (by decide) (by decide) (Nat.le_of_ble_eq_true rfl) (Nat.le_of_ble_eq_true rfl) (Nat.le_of_ble_eq_true rfl) dX6_init_49 (fun q_11 k_12 H hK hP hD hS => ?_)
  have hP : va_P (dC, dI) vwCl [(h0, .inr (6, [.ref q_1, .int 0, .ref q_3, .ref q_5, .ref q_7, .ref q_9, .int 0, .null, .null, .null])), (q_1, .inl (k_2, 120, .inl (fun _ => 0))), (q_3, .inl (k_4, 121, .inl (fun _ => 0))), (q_5, .inl (k_6, 1920, .inl (fun _ => 0))), (q_7, .inl (k_8, 1920, .inl (fun _ => 0))), (q_9, .inl (k_10, 1920, .inl (fun _ => 0))), (q_11, .inl (k_12, 3, .inl (fun _ => 0)))] H := hP
  have hD : va_D A [(h0, .inr (6, [.ref q_1, .int 0, .ref q_3, .ref q_5, .ref q_7, .ref q_9, .int 0, .null, .null, .null])), (q_1, .inl (k_2, 120, .inl (fun _ => 0))), (q_3, .inl (k_4, 121, .inl (fun _ => 0))), (q_5, .inl (k_6, 1920, .inl (fun _ => 0))), (q_7, .inl (k_8, 1920, .inl (fun _ => 0))), (q_9, .inl (k_10, 1920, .inl (fun _ => 0))), (q_11, .inl (k_12, 3, .inl (fun _ => 0)))] := hD
  have hK : va_K (dC, dI) vwCl [(k_2, .int), (k_4, .int), (k_6, .int), (k_8, .int), (k_10, .int), (k_12, .int)] s := hK
  refine W.widen (k := 6) (n := 6004) (by omega) (by omega) ?_
  refine va_putF (D := (dC, dI)) (ci := 6) (v := .ref q_11) (ty := .array .int) (C := RX6) (T := TX6) (N := 10) hx hb hts hiX6 tyX6 tyX6_ok nmX6 hown hK hP hD hS 0 rfl rfl 7 (by decide) v_10 (fun _ h9 => h9) rfl hin rfl (by decide +kernel) rfl rfl (Nat.le_of_ble_eq_true rfl) dX6_init_51 (fun H locs hP hD hS => ?_)
  have hP : va_P (dC, dI) vwCl [(h0, .inr (6, [.ref q_1, .int 0, .ref q_3, .ref q_5, .ref q_7, .ref q_9, .int 0, .ref q_11, .null, .null])), (q_1, .inl (k_2, 120, .inl (fun _ => 0))), (q_3, .inl (k_4, 121, .inl (fun _ => 0))), (q_5, .inl (k_6, 1920, .inl (fun _ => 0))), (q_7, .inl (k_8, 1920, .inl (fun _ => 0))), (q_9, .inl (k_10, 1920, .inl (fun _ => 0))), (q_11, .inl (k_12, 3, .inl (fun _ => 0)))] H := hP
  have hD : va_D A [(h0, .inr (6, [.ref q_1, .int 0, .ref q_3, .ref q_5, .ref q_7, .ref q_9, .int 0, .ref q_11, .null, .null])), (q_1, .inl (k_2, 120, .inl (fun _ => 0))), (q_3, .inl (k_4, 121, .inl (fun _ => 0))), (q_5, .inl (k_6, 1920, .inl (fun _ => 0))), (q_7, .inl (k_8, 1920, .inl (fun _ => 0))), (q_9, .inl (k_10, 1920, .inl (fun _ => 0))), (q_11, .inl (k_12, 3, .inl (fun _ => 0)))] := hD
  refine lv_aload_n hx hb dX6_init_54 rfl (lv_at hl 0 rfl) ?_
  refine lv_iconst (v := 5) hx hb dX6_init_55 (by decide) ?_
  refine va_newa (atype := .int) (ty := .int) (N' := 5) (a0 := (5, .inl (fun _ => 0))) hx hb v_4 rfl hK hP hD hS hA (fun _ => rfl) (by decide) (by decide) (Nat.le_of_ble_eq_true rfl) (Nat.le_of_ble_eq_true rfl) (Nat.le_of_ble_eq_true rfl) dX6_init_56 (fun q_13 k_14 H hK hP hD hS => ?_)
  have hP : va_P (dC, dI) vwCl [(h0, .inr (6, [.ref q_1, .int 0, .ref q_3, .ref q_5, .ref q_7, .ref q_9, .int 0, .ref q_11, .null, .null])), (q_1, .inl (k_2, 120, .inl (fun _ => 0))), (q_3, .inl (k_4, 121, .inl (fun _ => 0))), (q_5, .inl (k_6, 1920, .inl (fun _ => 0))), (q_7, .inl (k_8, 1920, .inl (fun _ => 0))), (q_9, .inl (k_10, 1920, .inl (fun _ => 0))), (q_11, .inl (k_12, 3, .inl (fun _ => 0))), (q_13, .inl (k_14, 5, .inl (fun _ => 0)))] H := hP
  have hD : va_D A [(h0, .inr (6, [.ref q_1, .int 0, .ref q_3, .ref q_5, .ref q_7, .ref q_9, .int 0, .ref q_11, .null, .null])), (q_1, .inl (k_2, 120, .inl (fun _ => 0))), (q_3, .inl (k_4, 121, .inl (fun _ => 0))), (q_5, .inl (k_6, 1920, .inl (fun _ => 0))), (q_7, .inl (k_8, 1920, .inl (fun _ => 0))), (q_9, .inl (k_10, 1920, .inl (fun _ => 0))), (q_11, .inl (k_12, 3, .inl (fun _ => 0))), (q_13, .inl (k_14, 5, .inl (fun _ => 0)))] := hD
  have hK : va_K (dC, dI) vwCl [(k_2, .int), (k_4, .int), (k_6, .int), (k_8, .int), (k_10, .int), (k_12, .int), (k_14, .int)] s := hK
  refine W.widen (k := 7) (n := 6009) (by omega) (by omega) ?_
  refine va_putF (D := (dC, dI)) (ci := 6) (v := .ref q_13) (ty := .array .int) (C := RX6) (T := TX6) (N := 10) hx hb hts hiX6 tyX6 tyX6_ok nmX6 hown hK hP hD hS 0 rfl rfl 8 (by decide) v_11 (fun _ h9 => h9) rfl hin rfl (by decide +kernel) rfl rfl (Nat.le_of_ble_eq_true rfl) dX6_init_58 (fun H locs hP hD hS => ?_)
  have hP : va_P (dC, dI) vwCl [(h0, .inr (6, [.ref q_1, .int 0, .ref q_3, .ref q_5, .ref q_7, .ref q_9, .int 0, .ref q_11, .ref q_13, .null])), (q_1, .inl (k_2, 120, .inl (fun _ => 0))), (q_3, .inl (k_4, 121, .inl (fun _ => 0))), (q_5, .inl (k_6, 1920, .inl (fun _ => 0))), (q_7, .inl (k_8, 1920, .inl (fun _ => 0))), (q_9, .inl (k_10, 1920, .inl (fun _ => 0))), (q_11, .inl (k_12, 3, .inl (fun _ => 0))), (q_13, .inl (k_14, 5, .inl (fun _ => 0)))] H := hP
  have hD : va_D A [(h0, .inr (6, [.ref q_1, .int 0, .ref q_3, .ref q_5, .ref q_7, .ref q_9, .int 0, .ref q_11, .ref q_13, .null])), (q_1, .inl (k_2, 120, .inl (fun _ => 0))), (q_3, .inl (k_4, 121, .inl (fun _ => 0))), (q_5, .inl (k_6, 1920, .inl (fun _ => 0))), (q_7, .inl (k_8, 1920, .inl (fun _ => 0))), (q_9, .inl (k_10, 1920, .inl (fun _ => 0))), (q_11, .inl (k_12, 3, .inl (fun _ => 0))), (q_13, .inl (k_14, 5, .inl (fun _ => 0)))] := hD
  refine lv_aload_n hx hb dX6_init_61 rfl (lv_at hl 0 rfl) ?_
  refine va_new (ci := 7) (fs := [.null, .int 0]) (C := RX7) (T := TX7) (N := 2) hx hb hts hiX7 tyX7 tyX7_ok hown v_12 v_13 v_14 hK hP hD hS hA rfl (pu_fs (by decide)) (Nat.le_of_ble_eq_true rfl) (Nat.le_of_ble_eq_true rfl) dX6_init_62 (fun q_15 H hP hD hS => ?_)
  have hP : va_P (dC, dI) vwCl [(h0, .inr (6, [.ref q_1, .int 0, .ref q_3, .ref q_5, .ref q_7, .ref q_9, .int 0, .ref q_11, .ref q_13, .null])), (q_1, .inl (k_2, 120, .inl (fun _ => 0))), (q_3, .inl (k_4, 121, .inl (fun _ => 0))), (q_5, .inl (k_6, 1920, .inl (fun _ => 0))), (q_7, .inl (k_8, 1920, .inl (fun _ => 0))), (q_9, .inl (k_10, 1920, .inl (fun _ => 0))), (q_11, .inl (k_12, 3, .inl (fun _ => 0))), (q_13, .inl (k_14, 5, .inl (fun _ => 0))), (q_15, .inr (7, [.null, .int 0]))] H := hP
  have hD : va_D A [(h0, .inr (6, [.ref q_1, .int 0, .ref q_3, .ref q_5, .ref q_7, .ref q_9, .int 0, .ref q_11, .ref q_13, .null])), (q_1, .inl (k_2, 120, .inl (fun _ => 0))), (q_3, .inl (k_4, 121, .inl (fun _ => 0))), (q_5, .inl (k_6, 1920, .inl (fun _ => 0))), (q_7, .inl (k_8, 1920, .inl (fun _ => 0))), (q_9, .inl (k_10, 1920, .inl (fun _ => 0))), (q_11, .inl (k_12, 3, .inl (fun _ => 0))), (q_13, .inl (k_14, 5, .inl (fun _ => 0))), (q_15, .inr (7, [.null, .int 0]))] := hD
  refine W.widen (k := 8) (n := 6011) (by omega) (by omega) ?_
  refine lv_dup hx hb dX6_init_65 rfl ?_
  refine lv_iconst (v := 5) hx hb dX6_init_66 (by decide) ?_
  have hFc := va_free (wc := [(q_15, .inr (7, [.null, .int 0]))]) hD hS hA [8] rfl
  refine va_callv (va_runI (As := [.int 5]) (rest := [.ref q_15, .ref h0]) ⟨hx, hb, hml, hown, hts⟩ (c_X7_init_5 l dC dI _ q_15) (cwI 1 hts g_X6_init_X7_init_5 rfl rfl rfl v_14 v_18 v_19 rfl (by decide +kernel) ⟨Nat.le_of_ble_eq_true rfl, Nat.le_of_ble_eq_true rfl⟩) ⟨pu_bl, pu_in (hP.sub [8] rfl) (hK.sub [] rfl) (hD.sub [8] (by decide) rfl)⟩ rfl rfl hl.1 rfl (lv_room (Nat.le_of_ble_eq_true rfl)) dX6_init_67 ⟨Nat.le_of_ble_eq_true rfl, Nat.le_of_ble_eq_true rfl⟩) hS (fun q _ h => hFc q h) hFc (fun u t H1 locs ht hvm hw hB hz1 hk1 hS => ?_)
  obtain ⟨q1_16, k1_17, ⟨hP1, hK1, hD1⟩⟩ := hB
  rw [ht] at hP1
  have hK1 := va_K.moved hvm.symm hK1
  obtain ⟨hP, hD⟩ := jn_last (X := [(h0, .inr (6, [.ref q_1, .int 0, .ref q_3, .ref q_5, .ref q_7, .ref q_9, .int 0, .ref q_11, .ref q_13, .null])), (q_1, .inl (k_2, 120, .inl (fun _ => 0))), (q_3, .inl (k_4, 121, .inl (fun _ => 0))), (q_5, .inl (k_6, 1920, .inl (fun _ => 0))), (q_7, .inl (k_8, 1920, .inl (fun _ => 0))), (q_9, .inl (k_10, 1920, .inl (fun _ => 0))), (q_11, .inl (k_12, 3, .inl (fun _ => 0))), (q_13, .inl (k_14, 5, .inl (fun _ => 0)))]) (T := []) (wc := [(q_15, .inr (7, [.null, .int 0]))]) (w1 := [(q_15, .inr (7, [.ref q1_16, .int 0])), (q1_16, .inl (k1_17, 25, .inl (fun _ => 0)))]) (by rw [List.append_nil]; exact hP) (by rw [List.append_nil]; exact hD) hk1 hFc hP1 hD1
  have hK := wk_ins (a := [(k_2, .int), (k_4, .int), (k_6, .int), (k_8, .int), (k_10, .int), (k_12, .int), (k_14, .int)]) (b := []) (c := [(k1_17, .int)]) (by rw [List.append_nil]; exact hK) hK1
  clear hk1 hz1 ht hvm
  generalize H1 = H at hP hS ⊢
  have hP : va_P (dC, dI) vwCl [(h0, .inr (6, [.ref q_1, .int 0, .ref q_3, .ref q_5, .ref q_7, .ref q_9, .int 0, .ref q_11, .ref q_13, .null])), (q_1, .inl (k_2, 120, .inl (fun _ => 0))), (q_3, .inl (k_4, 121, .inl (fun _ => 0))), (q_5, .inl (k_6, 1920, .inl (fun _ => 0))), (q_7, .inl (k_8, 1920, .inl (fun _ => 0))), (q_9, .inl (k_10, 1920, .inl (fun _ => 0))), (q_11, .inl (k_12, 3, .inl (fun _ => 0))), (q_13, .inl (k_14, 5, .inl (fun _ => 0))), (q_15, .inr (7, [.ref q1_16, .int 0])), (q1_16, .inl (k1_17, 25, .inl (fun _ => 0)))] H := by rw [List.append_nil] at hP; exact hP
  have hD : va_D A [(h0, .inr (6, [.ref q_1, .int 0, .ref q_3, .ref q_5, .ref q_7, .ref q_9, .int 0, .ref q_11, .ref q_13, .null])), (q_1, .inl (k_2, 120, .inl (fun _ => 0))), (q_3, .inl (k_4, 121, .inl (fun _ => 0))), (q_5, .inl (k_6, 1920, .inl (fun _ => 0))), (q_7, .inl (k_8, 1920, .inl (fun _ => 0))), (q_9, .inl (k_10, 1920, .inl (fun _ => 0))), (q_11, .inl (k_12, 3, .inl (fun _ => 0))), (q_13, .inl (k_14, 5, .inl (fun _ => 0))), (q_15, .inr (7, [.ref q1_16, .int 0])), (q1_16, .inl (k1_17, 25, .inl (fun _ => 0)))] := by rw [List.append_nil] at hD; exact hD
  have hK : va_K (dC, dI) vwCl [(k_2, .int), (k_4, .int), (k_6, .int), (k_8, .int), (k_10, .int), (k_12, .int), (k_14, .int), (k1_17, .int)] s := by rw [List.append_nil] at hK; exact hK
  refine W.widen (k := 9) (n := 6036) (by first | omega | exact Nat.le_of_ble_eq_true rfl) (by first | omega | exact Nat.le_of_ble_eq_true rfl) ?_
  refine va_putF (D := (dC, dI)) (ci := 6) (v := .ref q_15) (ty := .object "ClockReach$Zone") (C := RX6) (T := TX6) (N := 10) hx hb hts hiX6 tyX6 tyX6_ok nmX6 hown hK hP hD hS 0 rfl rfl 9 (by decide) v_20 (fun _ h9 => h9) rfl hin rfl (by decide +kernel) rfl rfl (Nat.le_of_ble_eq_true rfl) dX6_init_70 (fun H locs hP hD hS => ?_)
  have hP : va_P (dC, dI) vwCl [(h0, .inr (6, [.ref q_1, .int 0, .ref q_3, .ref q_5, .ref q_7, .ref q_9, .int 0, .ref q_11, .ref q_13, .ref q_15])), (q_1, .inl (k_2, 120, .inl (fun _ => 0))), (q_3, .inl (k_4, 121, .inl (fun _ => 0))), (q_5, .inl (k_6, 1920, .inl (fun _ => 0))), (q_7, .inl (k_8, 1920, .inl (fun _ => 0))), (q_9, .inl (k_10, 1920, .inl (fun _ => 0))), (q_11, .inl (k_12, 3, .inl (fun _ => 0))), (q_13, .inl (k_14, 5, .inl (fun _ => 0))), (q_15, .inr (7, [.ref q1_16, .int 0])), (q1_16, .inl (k1_17, 25, .inl (fun _ => 0)))] H := hP
  have hD : va_D A [(h0, .inr (6, [.ref q_1, .int 0, .ref q_3, .ref q_5, .ref q_7, .ref q_9, .int 0, .ref q_11, .ref q_13, .ref q_15])), (q_1, .inl (k_2, 120, .inl (fun _ => 0))), (q_3, .inl (k_4, 121, .inl (fun _ => 0))), (q_5, .inl (k_6, 1920, .inl (fun _ => 0))), (q_7, .inl (k_8, 1920, .inl (fun _ => 0))), (q_9, .inl (k_10, 1920, .inl (fun _ => 0))), (q_11, .inl (k_12, 3, .inl (fun _ => 0))), (q_13, .inl (k_14, 5, .inl (fun _ => 0))), (q_15, .inr (7, [.ref q1_16, .int 0])), (q1_16, .inl (k1_17, 25, .inl (fun _ => 0)))] := hD
  refine W.widen (k := 9) (n := 6036) (by first | omega | exact Nat.le_of_ble_eq_true rfl) (by first | omega | exact Nat.le_of_ble_eq_true rfl) ?_
  have hP9 := hP.sub (ws' := [(h0, .inr (6, [.ref q_1, .int 0, .ref q_3, .ref q_5, .ref q_7, .ref q_9, .int 0, .ref q_11, .ref q_13, .ref q_15])), (q_1, .inl (k_2, 120, .inl (fun _ => 0))), (q_3, .inl (k_4, 121, .inl (fun _ => 0))), (q_5, .inl (k_6, 1920, .inl (fun _ => 0))), (q_7, .inl (k_8, 1920, .inl (fun _ => 0))), (q_9, .inl (k_10, 1920, .inl (fun _ => 0))), (q_11, .inl (k_12, 3, .inl (fun _ => 0))), (q_13, .inl (k_14, 5, .inl (fun _ => 0))), (q_15, .inr (7, [.ref q1_16, .int 0])), (q1_16, .inl (k1_17, 25, .inl (fun _ => 0)))]) [0, 1, 2, 3, 4, 5, 6, 7, 8, 9] rfl
  have hD9 := hD.sub (ws' := [(h0, .inr (6, [.ref q_1, .int 0, .ref q_3, .ref q_5, .ref q_7, .ref q_9, .int 0, .ref q_11, .ref q_13, .ref q_15])), (q_1, .inl (k_2, 120, .inl (fun _ => 0))), (q_3, .inl (k_4, 121, .inl (fun _ => 0))), (q_5, .inl (k_6, 1920, .inl (fun _ => 0))), (q_7, .inl (k_8, 1920, .inl (fun _ => 0))), (q_9, .inl (k_10, 1920, .inl (fun _ => 0))), (q_11, .inl (k_12, 3, .inl (fun _ => 0))), (q_13, .inl (k_14, 5, .inl (fun _ => 0))), (q_15, .inr (7, [.ref q1_16, .int 0])), (q1_16, .inl (k1_17, 25, .inl (fun _ => 0)))]) [0, 1, 2, 3, 4, 5, 6, 7, 8, 9] (by decide) rfl
  have hK9 := hK.sub (tys' := [(k_2, .int), (k_4, .int), (k_6, .int), (k_8, .int), (k_10, .int), (k_12, .int), (k_14, .int), (k1_17, .int)]) [0, 1, 2, 3, 4, 5, 6, 7] rfl
  exact W.vret hx hb hr (fun t ht hW => ⟨⟨(), rfl, trivial, ⟨q_1, q_3, q_5, q_7, q_9, q_11, q_13, q_15, q1_16, k_2, k_4, k_6, k_8, k_10, k_12, k_14, k1_17, by rw [ht]; exact hP9, va_K.moved hW.alike hK9, hD9⟩⟩, hS.F ht⟩) hS.2.2 dX6_init_73
theorem dX1_init_0 : decode cX1_init 0 = .ok (.aload_n 0, 1) := by decide +kernel
theorem dX1_init_1 : decode cX1_init 1 = .ok (.invokespecial 3, 3) := by decide +kernel
theorem dX1_init_4 : decode cX1_init 4 = .ok (.aload_n 0, 1) := by decide +kernel
theorem dX1_init_5 : decode cX1_init 5 = .ok (.iload_n 1, 1) := by decide +kernel
theorem dX1_init_6 : decode cX1_init 6 = .ok (.putfield 9, 3) := by decide +kernel
theorem dX1_init_9 : decode cX1_init 9 = .ok (.aload_n 0, 1) := by decide +kernel
theorem dX1_init_10 : decode cX1_init 10 = .ok (.iload_n 1, 1) := by decide +kernel
theorem dX1_init_11 : decode cX1_init 11 = .ok (.iconst 1, 1) := by decide +kernel
theorem dX1_init_12 : decode cX1_init 12 = .ok (.iadd, 1) := by decide +kernel
theorem dX1_init_13 : decode cX1_init 13 = .ok (.anewarray 15, 3) := by decide +kernel
theorem dX1_init_16 : decode cX1_init 16 = .ok (.putfield 17, 3) := by decide +kernel
theorem dX1_init_19 : decode cX1_init 19 = .ok (.iconst 0, 1) := by decide +kernel
theorem dX1_init_20 : decode cX1_init 20 = .ok (.istore_n 3, 1) := by decide +kernel
theorem dX1_init_21 : decode cX1_init 21 = .ok (.iload_n 3, 1) := by decide +kernel
theorem dX1_init_22 : decode cX1_init 22 = .ok (.iload_n 1, 1) := by decide +kernel
theorem dX1_init_23 : decode cX1_init 23 = .ok (.if_icmp .gt 23, 3) := by decide +kernel
theorem dX1_init_26 : decode cX1_init 26 = .ok (.aload_n 0, 1) := by decide +kernel
theorem dX1_init_27 : decode cX1_init 27 = .ok (.getfield 17, 3) := by decide +kernel
theorem dX1_init_30 : decode cX1_init 30 = .ok (.iload_n 3, 1) := by decide +kernel
theorem dX1_init_31 : decode cX1_init 31 = .ok (.new 15, 3) := by decide +kernel
theorem dX1_init_34 : decode cX1_init 34 = .ok (.dup, 1) := by decide +kernel
theorem dX1_init_35 : decode cX1_init 35 = .ok (.iload_n 2, 1) := by decide +kernel
theorem dX1_init_36 : decode cX1_init 36 = .ok (.invokespecial 21, 3) := by decide +kernel
theorem dX1_init_39 : decode cX1_init 39 = .ok (.aastore, 1) := by decide +kernel
theorem dX1_init_40 : decode cX1_init 40 = .ok (.iinc 3 1, 3) := by decide +kernel
theorem dX1_init_43 : decode cX1_init 43 = .ok (.goto (-22), 3) := by decide +kernel
theorem dX1_init_46 : decode cX1_init 46 = .ok (.aload_n 0, 1) := by decide +kernel
theorem dX1_init_47 : decode cX1_init 47 = .ok (.iload_n 1, 1) := by decide +kernel
theorem dX1_init_48 : decode cX1_init 48 = .ok (.newarray .int, 2) := by decide +kernel
theorem dX1_init_50 : decode cX1_init 50 = .ok (.putfield 24, 3) := by decide +kernel
theorem dX1_init_53 : decode cX1_init 53 = .ok (.aload_n 0, 1) := by decide +kernel
theorem dX1_init_54 : decode cX1_init 54 = .ok (.iload_n 1, 1) := by decide +kernel
theorem dX1_init_55 : decode cX1_init 55 = .ok (.newarray .int, 2) := by decide +kernel
theorem dX1_init_57 : decode cX1_init 57 = .ok (.putfield 28, 3) := by decide +kernel
theorem dX1_init_60 : decode cX1_init 60 = .ok (.aload_n 0, 1) := by decide +kernel
theorem dX1_init_61 : decode cX1_init 61 = .ok (.iload_n 1, 1) := by decide +kernel
theorem dX1_init_62 : decode cX1_init 62 = .ok (.newarray .int, 2) := by decide +kernel
theorem dX1_init_64 : decode cX1_init 64 = .ok (.putfield 31, 3) := by decide +kernel
theorem dX1_init_67 : decode cX1_init 67 = .ok (.aload_n 0, 1) := by decide +kernel
theorem dX1_init_68 : decode cX1_init 68 = .ok (.iload_n 1, 1) := by decide +kernel
theorem dX1_init_69 : decode cX1_init 69 = .ok (.newarray .int, 2) := by decide +kernel
theorem dX1_init_71 : decode cX1_init 71 = .ok (.putfield 34, 3) := by decide +kernel
theorem dX1_init_74 : decode cX1_init 74 = .ok (.aload_n 0, 1) := by decide +kernel
theorem dX1_init_75 : decode cX1_init 75 = .ok (.iload_n 1, 1) := by decide +kernel
theorem dX1_init_76 : decode cX1_init 76 = .ok (.newarray .int, 2) := by decide +kernel
theorem dX1_init_78 : decode cX1_init 78 = .ok (.putfield 37, 3) := by decide +kernel
theorem dX1_init_81 : decode cX1_init 81 = .ok (.aload_n 0, 1) := by decide +kernel
theorem dX1_init_82 : decode cX1_init 82 = .ok (.iconst 5, 1) := by decide +kernel
theorem dX1_init_83 : decode cX1_init 83 = .ok (.newarray .int, 2) := by decide +kernel
theorem dX1_init_85 : decode cX1_init 85 = .ok (.putfield 40, 3) := by decide +kernel
theorem dX1_init_88 : decode cX1_init 88 = .ok (.aload_n 0, 1) := by decide +kernel
theorem dX1_init_89 : decode cX1_init 89 = .ok (.iconst 5, 1) := by decide +kernel
theorem dX1_init_90 : decode cX1_init 90 = .ok (.newarray .int, 2) := by decide +kernel
theorem dX1_init_92 : decode cX1_init 92 = .ok (.putfield 43, 3) := by decide +kernel
theorem dX1_init_95 : decode cX1_init 95 = .ok (.return_, 1) := by decide +kernel
def vs_X1_init_120 : List Cond := .code yX1_init cX1_init 4 none :: ([.methodLink RX1 3 objectInit, .instanceMethod objectInit, .code objectInit ⟨#[0xb1]⟩ 1 none, .fieldLink RX1 9 "ClockReach$Graph" "most" "I", .classLink RX1 15 RX7, .fieldLink RX1 17 "ClockReach$Graph" "zones" "[LClockReach$Zone;", .arrayClass .int, .fieldLink RX1 24 "ClockReach$Graph" "sites" "[I", .fieldLink RX1 28 "ClockReach$Graph" "parents" "[I", .fieldLink RX1 31 "ClockReach$Graph" "entries" "[I", .fieldLink RX1 34 "ClockReach$Graph" "depths" "[I", .fieldLink RX1 37 "ClockReach$Graph" "broods" "[I", .fieldLink RX1 40 "ClockReach$Graph" "high" "[I", .fieldLink RX1 43 "ClockReach$Graph" "low" "[I", .instantiable RX7 2, .initialized RX7, .code yX7_init cX7_init 2 none, .methodLink RX7 5 objectInit, .fieldLink RX7 11 "ClockReach$Zone" "cells" "[I", .methodLink RX1 21 yX7_init, .instanceMethod yX7_init] ++ wsX10 ++ wsX70)
theorem g_X1_init_120_X7_init_4 : GoodIn vs_X1_init_120 vs_X7_init_4 := goodIn_r _ [17, 18, 2, 3, 7, 19, 40, 41] (by decide +kernel) (by decide +kernel)
set_option maxHeartbeats 4000000 in
set_option maxRecDepth 100000 in
theorem c_X1_init_120 (l : Launch) (dC : Nat → ClassId) (dI : Nat → Nat → Nat) (sz : Nat) (adK adV : Nat → Nat) (fz : Option Nat) (h0 : Nat) : Met l yX1_init vs_X1_init_120 ({ frames := 2, cells := 250, slots := 2909, locals := 33 }) (va_Pc [.ref h0, .int 120, .int 4] (pu_X adK adV fz (dC, dI) [(h0, .inr (1, [.null, .null, .null, .null, .null, .null, .int 0, .int 0, .int 0, .int 0, .int 0, .int 0, .int 0, .int 0, .int 0, .int 0, .null, .null]))] [] sz)) (va_Qv (fun (_ : Unit) => True) (fun _ t => ∃ (q1 q2 q3 q4 q5 q6 q7 q8 : Nat) (k1 k2 k3 k4 k5 k6 k7 k8 : ClassId) (az ac : Nat → Nat) (kz : Nat → ClassId), pu_E (dC, dI) ([(h0, .inr (1, [.ref q1, .ref q2, .ref q3, .ref q4, .ref q5, .ref q6, .int 0, .int 0, .int 0, .int 0, .int 0, .int 0, .int 0, .int 120, .int 0, .int 0, .ref q7, .ref q8])), (q1, .inl (k1, 121, .inr (.inr (.inr (.inr (zs 0 121 az)))))), (q2, .inl (k2, 120, .inl (fun _ => 0))), (q3, .inl (k3, 120, .inl (fun _ => 0))), (q4, .inl (k4, 120, .inl (fun _ => 0))), (q5, .inl (k5, 120, .inl (fun _ => 0))), (q6, .inl (k6, 120, .inl (fun _ => 0))), (q7, .inl (k7, 5, .inl (fun _ => 0))), (q8, .inl (k8, 5, .inl (fun _ => 0)))] ++ (zp 4 16 121 az ac kz q0z f0z ++ [])) ([(k1, .object RX7), (k2, .int), (k3, .int), (k4, .int), (k5, .int), (k6, .int), (k7, .int), (k8, .int)] ++ (zt 121 kz ++ [])) (va_A ([(h0, .inr (1, [.null, .null, .null, .null, .null, .null, .int 0, .int 0, .int 0, .int 0, .int 0, .int 0, .int 0, .int 0, .int 0, .int 0, .null, .null]))]) sz) t) (va_A ([(h0, .inr (1, [.null, .null, .null, .null, .null, .null, .int 0, .int 0, .int 0, .int 0, .int 0, .int 0, .int 0, .int 0, .int 0, .int 0, .null, .null]))]) sz)) 250 2909 (va_A ([(h0, .inr (1, [.null, .null, .null, .null, .null, .null, .int 0, .int 0, .int 0, .int 0, .int 0, .int 0, .int 0, .int 0, .int 0, .int 0, .null, .null]))]) sz) := by
  refine Met.ofW (cc := cX1_init) (maxL := 4) (ret := none) (by decide) rfl ?_
  intro p e s m args below meth c s₁ B hml hv
  obtain ⟨rfl, ⟨rfl, hP, hK, hD0⟩, hE⟩ := hv
  have hx := B.exec
  have hb := B.bytes
  have hr := B.returns
  have hts := atoms_spec (ws := vs_X1_init_120) B.pre
  have v_1 := hts (.methodLink RX1 3 objectInit) (List.mem_of_getElem? (i := 1) rfl)
  have v_2 := hts (.instanceMethod objectInit) (List.mem_of_getElem? (i := 2) rfl)
  have v_3 := hts (.code objectInit ⟨#[0xb1]⟩ 1 none) (List.mem_of_getElem? (i := 3) rfl)
  have v_4 := hts (.fieldLink RX1 9 "ClockReach$Graph" "most" "I") (List.mem_of_getElem? (i := 4) rfl)
  have v_5 := hts (.classLink RX1 15 RX7) (List.mem_of_getElem? (i := 5) rfl)
  have v_6 := hts (.fieldLink RX1 17 "ClockReach$Graph" "zones" "[LClockReach$Zone;") (List.mem_of_getElem? (i := 6) rfl)
  have v_7 := hts (.arrayClass .int) (List.mem_of_getElem? (i := 7) rfl)
  have v_8 := hts (.fieldLink RX1 24 "ClockReach$Graph" "sites" "[I") (List.mem_of_getElem? (i := 8) rfl)
  have v_9 := hts (.fieldLink RX1 28 "ClockReach$Graph" "parents" "[I") (List.mem_of_getElem? (i := 9) rfl)
  have v_10 := hts (.fieldLink RX1 31 "ClockReach$Graph" "entries" "[I") (List.mem_of_getElem? (i := 10) rfl)
  have v_11 := hts (.fieldLink RX1 34 "ClockReach$Graph" "depths" "[I") (List.mem_of_getElem? (i := 11) rfl)
  have v_12 := hts (.fieldLink RX1 37 "ClockReach$Graph" "broods" "[I") (List.mem_of_getElem? (i := 12) rfl)
  have v_13 := hts (.fieldLink RX1 40 "ClockReach$Graph" "high" "[I") (List.mem_of_getElem? (i := 13) rfl)
  have v_14 := hts (.fieldLink RX1 43 "ClockReach$Graph" "low" "[I") (List.mem_of_getElem? (i := 14) rfl)
  have v_15 := hts (.instantiable RX7 2) (List.mem_of_getElem? (i := 15) rfl)
  have v_16 := hts (.initialized RX7) (List.mem_of_getElem? (i := 16) rfl)
  have v_20 := hts (.methodLink RX1 21 yX7_init) (List.mem_of_getElem? (i := 20) rfl)
  have v_21 := hts (.instanceMethod yX7_init) (List.mem_of_getElem? (i := 21) rfl)
  have hown : s.vm.findClass RX1 = some m.cls := findClass_of_methodNamed B.named
  have hlocks := B.notSynchronized
  have hin : meth.name = "<init>" := (name_of_methodNamed B.named B.method).1
  have hiX1 : ∀ w ∈ wsX10, w ∈ vs_X1_init_120 := fun _ h => List.mem_cons_of_mem _ (List.mem_append_left _ (List.mem_append_right _ h))
  have hiX7 : ∀ w ∈ wsX70, w ∈ vs_X1_init_120 := fun _ h => List.mem_cons_of_mem _ (List.mem_append_right _ h)
  have hD := hD0.self (sz := s.heap.size)
  generalize hAe : va_A ([(h0, .inr (1, [.null, .null, .null, .null, .null, .null, .int 0, .int 0, .int 0, .int 0, .int 0, .int 0, .int 0, .int 0, .int 0, .int 0, .null, .null]))]) s.heap.size = A at hD hE ⊢
  have hA : ∀ q : Nat, s.heap.size ≤ q → A q := fun q h => by rw [← hAe]; exact Or.inr h
  have hS : va_S A s.heap s.heap [] := va_S.rf
  have hl := lv_entry ([.ref h0, .int 120, .int 4]) (n := 4) (Nat.le_of_ble_eq_true rfl)
  rw [lg_entry_eq]
  generalize (lg_sl ([.ref h0, .int 120, .int 4]) ++ List.replicate (4 - (lg_sl ([.ref h0, .int 120, .int 4])).length) Slot.unset).toArray = ls at hl ⊢
  have hl : lv_has ls 4 [(0, .ref h0), (1, .int 120), (2, .int 4)] := hl
  refine lv_aload_n hx hb dX1_init_0 rfl (lv_at hl 0 rfl) ?_
  refine W.objInit hx hb hown v_1 v_2 v_3 rfl (by rw [hml]; exact hl.1) rfl dX1_init_1 (Nat.le_of_ble_eq_true rfl) (Nat.le_of_ble_eq_true rfl) ?_
  refine W.eq (g2 := F0 m 4 ls []) rfl ?_
  refine lv_aload_n hx hb dX1_init_4 rfl (lv_at hl 0 rfl) ?_
  refine lv_iload_n hx hb dX1_init_5 rfl (lv_at hl 1 rfl) ?_
  refine va_putF (D := (dC, dI)) (ci := 1) (v := .int 120) (ty := .int) (C := RX1) (T := TX1) (N := 18) hx hb hts hiX1 tyX1 tyX1_ok nmX1 hown hK hP hD hS 0 rfl rfl 13 (by decide) v_4 (fun _ h9 => h9) rfl hin rfl (by decide +kernel) rfl rfl (Nat.le_of_ble_eq_true rfl) dX1_init_6 (fun H locs hP hD hS => ?_)
  have hP : va_P (dC, dI) vwCl [(h0, .inr (1, [.null, .null, .null, .null, .null, .null, .int 0, .int 0, .int 0, .int 0, .int 0, .int 0, .int 0, .int 120, .int 0, .int 0, .null, .null]))] H := hP
  have hD : va_D A [(h0, .inr (1, [.null, .null, .null, .null, .null, .null, .int 0, .int 0, .int 0, .int 0, .int 0, .int 0, .int 0, .int 120, .int 0, .int 0, .null, .null]))] := hD
  refine lv_aload_n hx hb dX1_init_9 rfl (lv_at hl 0 rfl) ?_
  refine lv_iload_n hx hb dX1_init_10 rfl (lv_at hl 1 rfl) ?_
  refine lv_iconst (v := 1) hx hb dX1_init_11 (by decide) ?_
  refine lv_iadd hx hb dX1_init_12 ?_
  refine lv_topi (fun y_1 ey_1 => ?_)
  obtain rfl : y_1 = 121 := ey_1.trans (by decide)
  refine va_newq (C := RX7) (N' := 121) hx hb hown v_5 hE.1 hK hP hD hS hA (by decide) (by decide) (Nat.le_of_ble_eq_true rfl) (Nat.le_of_ble_eq_true rfl) (Nat.le_of_ble_eq_true rfl) dX1_init_13 (fun q_2 k_3 H hK hP hD hS => ?_)
  have hP : va_P (dC, dI) vwCl [(h0, .inr (1, [.null, .null, .null, .null, .null, .null, .int 0, .int 0, .int 0, .int 0, .int 0, .int 0, .int 0, .int 120, .int 0, .int 0, .null, .null])), (q_2, .inl (k_3, 121, .inr (.inr (.inr (.inr (fun _ => none))))))] H := hP
  have hD : va_D A [(h0, .inr (1, [.null, .null, .null, .null, .null, .null, .int 0, .int 0, .int 0, .int 0, .int 0, .int 0, .int 0, .int 120, .int 0, .int 0, .null, .null])), (q_2, .inl (k_3, 121, .inr (.inr (.inr (.inr (fun _ => none))))))] := hD
  have hK : va_K (dC, dI) vwCl [(k_3, .object RX7)] s := hK
  refine W.widen (k := 1) (n := 121) (by omega) (by omega) ?_
  refine va_putF (D := (dC, dI)) (ci := 1) (v := .ref q_2) (ty := .array (.object "ClockReach$Zone")) (C := RX1) (T := TX1) (N := 18) hx hb hts hiX1 tyX1 tyX1_ok nmX1 hown hK hP hD hS 0 rfl rfl 0 (by decide) v_6 (fun _ h9 => h9) rfl hin rfl (by decide +kernel) rfl rfl (Nat.le_of_ble_eq_true rfl) dX1_init_16 (fun H locs hP hD hS => ?_)
  have hP : va_P (dC, dI) vwCl [(h0, .inr (1, [.ref q_2, .null, .null, .null, .null, .null, .int 0, .int 0, .int 0, .int 0, .int 0, .int 0, .int 0, .int 120, .int 0, .int 0, .null, .null])), (q_2, .inl (k_3, 121, .inr (.inr (.inr (.inr (fun _ => none))))))] H := hP
  have hD : va_D A [(h0, .inr (1, [.ref q_2, .null, .null, .null, .null, .null, .int 0, .int 0, .int 0, .int 0, .int 0, .int 0, .int 0, .int 120, .int 0, .int 0, .null, .null])), (q_2, .inl (k_3, 121, .inr (.inr (.inr (.inr (fun _ => none))))))] := hD
  refine lv_iconst (v := 0) hx hb dX1_init_19 (by decide) ?_
  refine lv_istore_n (lv' := [(3, .int 0), (0, .ref h0), (1, .int 120), (2, .int 4)]) hx hb dX1_init_20 rfl hl (by decide) rfl (fun ls hl => ?_)
  have e00 : zs 0 0 (fun _ => 0) = fun _ => none := zs_0
  have hP : va_P (dC, dI) vwCl ([(h0, .inr (1, [.ref q_2, .null, .null, .null, .null, .null, .int 0, .int 0, .int 0, .int 0, .int 0, .int 0, .int 0, .int 120, .int 0, .int 0, .null, .null])), (q_2, .inl (k_3, 121, .inr (.inr (.inr (.inr (zs 0 0 (fun _ => 0)))))))] ++ (zp 4 16 0 (fun _ => 0) (fun _ => 0) (fun _ => k_3) q0z f0z ++ [])) H := by rw [e00]; show va_P (dC, dI) vwCl ([(h0, .inr (1, [.ref q_2, .null, .null, .null, .null, .null, .int 0, .int 0, .int 0, .int 0, .int 0, .int 0, .int 0, .int 120, .int 0, .int 0, .null, .null])), (q_2, .inl (k_3, 121, .inr (.inr (.inr (.inr (fun _ => none))))))] ++ []) H; rw [List.append_nil]; exact hP
  have hD : va_D A ([(h0, .inr (1, [.ref q_2, .null, .null, .null, .null, .null, .int 0, .int 0, .int 0, .int 0, .int 0, .int 0, .int 0, .int 120, .int 0, .int 0, .null, .null])), (q_2, .inl (k_3, 121, .inr (.inr (.inr (.inr (zs 0 0 (fun _ => 0)))))))] ++ (zp 4 16 0 (fun _ => 0) (fun _ => 0) (fun _ => k_3) q0z f0z ++ [])) := by rw [e00]; show va_D A ([(h0, .inr (1, [.ref q_2, .null, .null, .null, .null, .null, .int 0, .int 0, .int 0, .int 0, .int 0, .int 0, .int 0, .int 120, .int 0, .int 0, .null, .null])), (q_2, .inl (k_3, 121, .inr (.inr (.inr (.inr (fun _ => none))))))] ++ []); rw [List.append_nil]; exact hD
  have hK : va_K (dC, dI) vwCl ([(k_3, .object RX7)] ++ (zt 0 (fun _ => k_3) ++ [])) s := by show va_K (dC, dI) vwCl ([(k_3, .object RX7)] ++ []) s; rw [List.append_nil]; exact hK
  refine pu_loop 121 (fun i H locs ls => ∃ (az_4 ac_5 : Nat → Nat) (kz_6 : Nat → ClassId), va_P (dC, dI) vwCl ([(h0, .inr (1, [.ref q_2, .null, .null, .null, .null, .null, .int 0, .int 0, .int 0, .int 0, .int 0, .int 0, .int 0, .int 120, .int 0, .int 0, .null, .null])), (q_2, .inl (k_3, 121, .inr (.inr (.inr (.inr (zs 0 i az_4))))))] ++ (zp 4 16 i az_4 ac_5 kz_6 q0z f0z ++ [])) H ∧ va_D A ([(h0, .inr (1, [.ref q_2, .null, .null, .null, .null, .null, .int 0, .int 0, .int 0, .int 0, .int 0, .int 0, .int 0, .int 120, .int 0, .int 0, .null, .null])), (q_2, .inl (k_3, 121, .inr (.inr (.inr (.inr (zs 0 i az_4))))))] ++ (zp 4 16 i az_4 ac_5 kz_6 q0z f0z ++ [])) ∧ va_K (dC, dI) vwCl ([(k_3, .object RX7)] ++ (zt i kz_6 ++ [])) s ∧ va_S A s.heap H locs ∧ lv_has ls 4 [(0, .ref h0), (1, .int 120), (2, .int 4), (3, .int (nI i))]) (fun i => 1 + 2 * i) (fun i => 121 + 18 * i) 21 [] ?_ ?_ _ _ _ ⟨fun _ => 0, fun _ => 0, fun _ => k_3, hP, hD, hK, hS, lv_sub hl [1, 2, 3, 0] rfl⟩
  · rintro H locs ls ⟨az_4, ac_5, kz_6, hP, hD, hK, hS, hl⟩
    refine W.widen (k := 243) (n := 2299) (by omega) (by omega) ?_
    refine lv_iload_n hx hb dX1_init_21 rfl (lv_at hl 3 rfl) ?_
    refine lv_iload_n hx hb dX1_init_22 rfl (lv_at hl 1 rfl) ?_
    refine lv_icmp_gt (tgt := 46) hx hb dX1_init_23 (by decide) (fun _ => ?_) (fun z => absurd z (by decide))
    refine lv_aload_n hx hb dX1_init_46 rfl (lv_at hl 0 rfl) ?_
    refine lv_iload_n hx hb dX1_init_47 rfl (lv_at hl 1 rfl) ?_
    refine va_newa (atype := .int) (ty := .int) (N' := 120) (a0 := (120, .inl (fun _ => 0))) hx hb v_7 rfl hK hP hD hS hA (fun _ => rfl) (by decide) (by decide) (Nat.le_of_ble_eq_true rfl) (Nat.le_of_ble_eq_true rfl) (Nat.le_of_ble_eq_true rfl) dX1_init_48 (fun q_10 k_11 H hK hP hD hS => ?_)
    have hK : va_K (dC, dI) vwCl ([(k_3, .object RX7), (k_11, .int)] ++ (zt 121 kz_6 ++ [])) s := wk_swap (a := [(k_3, .object RX7)]) (b := (zt 121 kz_6 ++ [])) (c := [(k_11, .int)]) hK
    have hP : va_P (dC, dI) vwCl ([(h0, .inr (1, [.ref q_2, .null, .null, .null, .null, .null, .int 0, .int 0, .int 0, .int 0, .int 0, .int 0, .int 0, .int 120, .int 0, .int 0, .null, .null])), (q_2, .inl (k_3, 121, .inr (.inr (.inr (.inr (zs 0 121 az_4)))))), (q_10, .inl (k_11, 120, .inl (fun _ => 0)))] ++ (zp 4 16 121 az_4 ac_5 kz_6 q0z f0z ++ [])) H := va_P.swap (a := [(h0, .inr (1, [.ref q_2, .null, .null, .null, .null, .null, .int 0, .int 0, .int 0, .int 0, .int 0, .int 0, .int 0, .int 120, .int 0, .int 0, .null, .null])), (q_2, .inl (k_3, 121, .inr (.inr (.inr (.inr (zs 0 121 az_4))))))]) (b := (zp 4 16 121 az_4 ac_5 kz_6 q0z f0z ++ [])) (c := [(q_10, .inl (k_11, 120, .inl (fun _ => 0)))]) hP
    have hD : va_D A ([(h0, .inr (1, [.ref q_2, .null, .null, .null, .null, .null, .int 0, .int 0, .int 0, .int 0, .int 0, .int 0, .int 0, .int 120, .int 0, .int 0, .null, .null])), (q_2, .inl (k_3, 121, .inr (.inr (.inr (.inr (zs 0 121 az_4)))))), (q_10, .inl (k_11, 120, .inl (fun _ => 0)))] ++ (zp 4 16 121 az_4 ac_5 kz_6 q0z f0z ++ [])) := va_D.swap (a := [(h0, .inr (1, [.ref q_2, .null, .null, .null, .null, .null, .int 0, .int 0, .int 0, .int 0, .int 0, .int 0, .int 0, .int 120, .int 0, .int 0, .null, .null])), (q_2, .inl (k_3, 121, .inr (.inr (.inr (.inr (zs 0 121 az_4))))))]) (b := (zp 4 16 121 az_4 ac_5 kz_6 q0z f0z ++ [])) (c := [(q_10, .inl (k_11, 120, .inl (fun _ => 0)))]) hD
    refine W.widen (k := 244) (n := 2419) (by omega) (by omega) ?_
    refine va_putF (D := (dC, dI)) (ci := 1) (v := .ref q_10) (ty := .array .int) (C := RX1) (T := TX1) (N := 18) hx hb hts hiX1 tyX1 tyX1_ok nmX1 hown hK hP hD hS 0 rfl rfl 1 (by decide) v_8 (fun _ h9 => h9) rfl hin rfl (by decide +kernel) rfl rfl (Nat.le_of_ble_eq_true rfl) dX1_init_50 (fun H locs hP hD hS => ?_)
    have hP : va_P (dC, dI) vwCl ([(h0, .inr (1, [.ref q_2, .ref q_10, .null, .null, .null, .null, .int 0, .int 0, .int 0, .int 0, .int 0, .int 0, .int 0, .int 120, .int 0, .int 0, .null, .null])), (q_2, .inl (k_3, 121, .inr (.inr (.inr (.inr (zs 0 121 az_4)))))), (q_10, .inl (k_11, 120, .inl (fun _ => 0)))] ++ (zp 4 16 121 az_4 ac_5 kz_6 q0z f0z ++ [])) H := hP
    have hD : va_D A ([(h0, .inr (1, [.ref q_2, .ref q_10, .null, .null, .null, .null, .int 0, .int 0, .int 0, .int 0, .int 0, .int 0, .int 0, .int 120, .int 0, .int 0, .null, .null])), (q_2, .inl (k_3, 121, .inr (.inr (.inr (.inr (zs 0 121 az_4)))))), (q_10, .inl (k_11, 120, .inl (fun _ => 0)))] ++ (zp 4 16 121 az_4 ac_5 kz_6 q0z f0z ++ [])) := hD
    refine lv_aload_n hx hb dX1_init_53 rfl (lv_at hl 0 rfl) ?_
    refine lv_iload_n hx hb dX1_init_54 rfl (lv_at hl 1 rfl) ?_
    refine va_newa (atype := .int) (ty := .int) (N' := 120) (a0 := (120, .inl (fun _ => 0))) hx hb v_7 rfl hK hP hD hS hA (fun _ => rfl) (by decide) (by decide) (Nat.le_of_ble_eq_true rfl) (Nat.le_of_ble_eq_true rfl) (Nat.le_of_ble_eq_true rfl) dX1_init_55 (fun q_12 k_13 H hK hP hD hS => ?_)
    have hK : va_K (dC, dI) vwCl ([(k_3, .object RX7), (k_11, .int), (k_13, .int)] ++ (zt 121 kz_6 ++ [])) s := wk_swap (a := [(k_3, .object RX7), (k_11, .int)]) (b := (zt 121 kz_6 ++ [])) (c := [(k_13, .int)]) hK
    have hP : va_P (dC, dI) vwCl ([(h0, .inr (1, [.ref q_2, .ref q_10, .null, .null, .null, .null, .int 0, .int 0, .int 0, .int 0, .int 0, .int 0, .int 0, .int 120, .int 0, .int 0, .null, .null])), (q_2, .inl (k_3, 121, .inr (.inr (.inr (.inr (zs 0 121 az_4)))))), (q_10, .inl (k_11, 120, .inl (fun _ => 0))), (q_12, .inl (k_13, 120, .inl (fun _ => 0)))] ++ (zp 4 16 121 az_4 ac_5 kz_6 q0z f0z ++ [])) H := va_P.swap (a := [(h0, .inr (1, [.ref q_2, .ref q_10, .null, .null, .null, .null, .int 0, .int 0, .int 0, .int 0, .int 0, .int 0, .int 0, .int 120, .int 0, .int 0, .null, .null])), (q_2, .inl (k_3, 121, .inr (.inr (.inr (.inr (zs 0 121 az_4)))))), (q_10, .inl (k_11, 120, .inl (fun _ => 0)))]) (b := (zp 4 16 121 az_4 ac_5 kz_6 q0z f0z ++ [])) (c := [(q_12, .inl (k_13, 120, .inl (fun _ => 0)))]) hP
    have hD : va_D A ([(h0, .inr (1, [.ref q_2, .ref q_10, .null, .null, .null, .null, .int 0, .int 0, .int 0, .int 0, .int 0, .int 0, .int 0, .int 120, .int 0, .int 0, .null, .null])), (q_2, .inl (k_3, 121, .inr (.inr (.inr (.inr (zs 0 121 az_4)))))), (q_10, .inl (k_11, 120, .inl (fun _ => 0))), (q_12, .inl (k_13, 120, .inl (fun _ => 0)))] ++ (zp 4 16 121 az_4 ac_5 kz_6 q0z f0z ++ [])) := va_D.swap (a := [(h0, .inr (1, [.ref q_2, .ref q_10, .null, .null, .null, .null, .int 0, .int 0, .int 0, .int 0, .int 0, .int 0, .int 0, .int 120, .int 0, .int 0, .null, .null])), (q_2, .inl (k_3, 121, .inr (.inr (.inr (.inr (zs 0 121 az_4)))))), (q_10, .inl (k_11, 120, .inl (fun _ => 0)))]) (b := (zp 4 16 121 az_4 ac_5 kz_6 q0z f0z ++ [])) (c := [(q_12, .inl (k_13, 120, .inl (fun _ => 0)))]) hD
    refine W.widen (k := 245) (n := 2539) (by omega) (by omega) ?_
    refine va_putF (D := (dC, dI)) (ci := 1) (v := .ref q_12) (ty := .array .int) (C := RX1) (T := TX1) (N := 18) hx hb hts hiX1 tyX1 tyX1_ok nmX1 hown hK hP hD hS 0 rfl rfl 2 (by decide) v_9 (fun _ h9 => h9) rfl hin rfl (by decide +kernel) rfl rfl (Nat.le_of_ble_eq_true rfl) dX1_init_57 (fun H locs hP hD hS => ?_)
    have hP : va_P (dC, dI) vwCl ([(h0, .inr (1, [.ref q_2, .ref q_10, .ref q_12, .null, .null, .null, .int 0, .int 0, .int 0, .int 0, .int 0, .int 0, .int 0, .int 120, .int 0, .int 0, .null, .null])), (q_2, .inl (k_3, 121, .inr (.inr (.inr (.inr (zs 0 121 az_4)))))), (q_10, .inl (k_11, 120, .inl (fun _ => 0))), (q_12, .inl (k_13, 120, .inl (fun _ => 0)))] ++ (zp 4 16 121 az_4 ac_5 kz_6 q0z f0z ++ [])) H := hP
    have hD : va_D A ([(h0, .inr (1, [.ref q_2, .ref q_10, .ref q_12, .null, .null, .null, .int 0, .int 0, .int 0, .int 0, .int 0, .int 0, .int 0, .int 120, .int 0, .int 0, .null, .null])), (q_2, .inl (k_3, 121, .inr (.inr (.inr (.inr (zs 0 121 az_4)))))), (q_10, .inl (k_11, 120, .inl (fun _ => 0))), (q_12, .inl (k_13, 120, .inl (fun _ => 0)))] ++ (zp 4 16 121 az_4 ac_5 kz_6 q0z f0z ++ [])) := hD
    refine lv_aload_n hx hb dX1_init_60 rfl (lv_at hl 0 rfl) ?_
    refine lv_iload_n hx hb dX1_init_61 rfl (lv_at hl 1 rfl) ?_
    refine va_newa (atype := .int) (ty := .int) (N' := 120) (a0 := (120, .inl (fun _ => 0))) hx hb v_7 rfl hK hP hD hS hA (fun _ => rfl) (by decide) (by decide) (Nat.le_of_ble_eq_true rfl) (Nat.le_of_ble_eq_true rfl) (Nat.le_of_ble_eq_true rfl) dX1_init_62 (fun q_14 k_15 H hK hP hD hS => ?_)
    have hK : va_K (dC, dI) vwCl ([(k_3, .object RX7), (k_11, .int), (k_13, .int), (k_15, .int)] ++ (zt 121 kz_6 ++ [])) s := wk_swap (a := [(k_3, .object RX7), (k_11, .int), (k_13, .int)]) (b := (zt 121 kz_6 ++ [])) (c := [(k_15, .int)]) hK
    have hP : va_P (dC, dI) vwCl ([(h0, .inr (1, [.ref q_2, .ref q_10, .ref q_12, .null, .null, .null, .int 0, .int 0, .int 0, .int 0, .int 0, .int 0, .int 0, .int 120, .int 0, .int 0, .null, .null])), (q_2, .inl (k_3, 121, .inr (.inr (.inr (.inr (zs 0 121 az_4)))))), (q_10, .inl (k_11, 120, .inl (fun _ => 0))), (q_12, .inl (k_13, 120, .inl (fun _ => 0))), (q_14, .inl (k_15, 120, .inl (fun _ => 0)))] ++ (zp 4 16 121 az_4 ac_5 kz_6 q0z f0z ++ [])) H := va_P.swap (a := [(h0, .inr (1, [.ref q_2, .ref q_10, .ref q_12, .null, .null, .null, .int 0, .int 0, .int 0, .int 0, .int 0, .int 0, .int 0, .int 120, .int 0, .int 0, .null, .null])), (q_2, .inl (k_3, 121, .inr (.inr (.inr (.inr (zs 0 121 az_4)))))), (q_10, .inl (k_11, 120, .inl (fun _ => 0))), (q_12, .inl (k_13, 120, .inl (fun _ => 0)))]) (b := (zp 4 16 121 az_4 ac_5 kz_6 q0z f0z ++ [])) (c := [(q_14, .inl (k_15, 120, .inl (fun _ => 0)))]) hP
    have hD : va_D A ([(h0, .inr (1, [.ref q_2, .ref q_10, .ref q_12, .null, .null, .null, .int 0, .int 0, .int 0, .int 0, .int 0, .int 0, .int 0, .int 120, .int 0, .int 0, .null, .null])), (q_2, .inl (k_3, 121, .inr (.inr (.inr (.inr (zs 0 121 az_4)))))), (q_10, .inl (k_11, 120, .inl (fun _ => 0))), (q_12, .inl (k_13, 120, .inl (fun _ => 0))), (q_14, .inl (k_15, 120, .inl (fun _ => 0)))] ++ (zp 4 16 121 az_4 ac_5 kz_6 q0z f0z ++ [])) := va_D.swap (a := [(h0, .inr (1, [.ref q_2, .ref q_10, .ref q_12, .null, .null, .null, .int 0, .int 0, .int 0, .int 0, .int 0, .int 0, .int 0, .int 120, .int 0, .int 0, .null, .null])), (q_2, .inl (k_3, 121, .inr (.inr (.inr (.inr (zs 0 121 az_4)))))), (q_10, .inl (k_11, 120, .inl (fun _ => 0))), (q_12, .inl (k_13, 120, .inl (fun _ => 0)))]) (b := (zp 4 16 121 az_4 ac_5 kz_6 q0z f0z ++ [])) (c := [(q_14, .inl (k_15, 120, .inl (fun _ => 0)))]) hD
    refine W.widen (k := 246) (n := 2659) (by omega) (by omega) ?_
    refine va_putF (D := (dC, dI)) (ci := 1) (v := .ref q_14) (ty := .array .int) (C := RX1) (T := TX1) (N := 18) hx hb hts hiX1 tyX1 tyX1_ok nmX1 hown hK hP hD hS 0 rfl rfl 3 (by decide) v_10 (fun _ h9 => h9) rfl hin rfl (by decide +kernel) rfl rfl (Nat.le_of_ble_eq_true rfl) dX1_init_64 (fun H locs hP hD hS => ?_)
    have hP : va_P (dC, dI) vwCl ([(h0, .inr (1, [.ref q_2, .ref q_10, .ref q_12, .ref q_14, .null, .null, .int 0, .int 0, .int 0, .int 0, .int 0, .int 0, .int 0, .int 120, .int 0, .int 0, .null, .null])), (q_2, .inl (k_3, 121, .inr (.inr (.inr (.inr (zs 0 121 az_4)))))), (q_10, .inl (k_11, 120, .inl (fun _ => 0))), (q_12, .inl (k_13, 120, .inl (fun _ => 0))), (q_14, .inl (k_15, 120, .inl (fun _ => 0)))] ++ (zp 4 16 121 az_4 ac_5 kz_6 q0z f0z ++ [])) H := hP
    have hD : va_D A ([(h0, .inr (1, [.ref q_2, .ref q_10, .ref q_12, .ref q_14, .null, .null, .int 0, .int 0, .int 0, .int 0, .int 0, .int 0, .int 0, .int 120, .int 0, .int 0, .null, .null])), (q_2, .inl (k_3, 121, .inr (.inr (.inr (.inr (zs 0 121 az_4)))))), (q_10, .inl (k_11, 120, .inl (fun _ => 0))), (q_12, .inl (k_13, 120, .inl (fun _ => 0))), (q_14, .inl (k_15, 120, .inl (fun _ => 0)))] ++ (zp 4 16 121 az_4 ac_5 kz_6 q0z f0z ++ [])) := hD
    refine lv_aload_n hx hb dX1_init_67 rfl (lv_at hl 0 rfl) ?_
    refine lv_iload_n hx hb dX1_init_68 rfl (lv_at hl 1 rfl) ?_
    refine va_newa (atype := .int) (ty := .int) (N' := 120) (a0 := (120, .inl (fun _ => 0))) hx hb v_7 rfl hK hP hD hS hA (fun _ => rfl) (by decide) (by decide) (Nat.le_of_ble_eq_true rfl) (Nat.le_of_ble_eq_true rfl) (Nat.le_of_ble_eq_true rfl) dX1_init_69 (fun q_16 k_17 H hK hP hD hS => ?_)
    have hK : va_K (dC, dI) vwCl ([(k_3, .object RX7), (k_11, .int), (k_13, .int), (k_15, .int), (k_17, .int)] ++ (zt 121 kz_6 ++ [])) s := wk_swap (a := [(k_3, .object RX7), (k_11, .int), (k_13, .int), (k_15, .int)]) (b := (zt 121 kz_6 ++ [])) (c := [(k_17, .int)]) hK
    have hP : va_P (dC, dI) vwCl ([(h0, .inr (1, [.ref q_2, .ref q_10, .ref q_12, .ref q_14, .null, .null, .int 0, .int 0, .int 0, .int 0, .int 0, .int 0, .int 0, .int 120, .int 0, .int 0, .null, .null])), (q_2, .inl (k_3, 121, .inr (.inr (.inr (.inr (zs 0 121 az_4)))))), (q_10, .inl (k_11, 120, .inl (fun _ => 0))), (q_12, .inl (k_13, 120, .inl (fun _ => 0))), (q_14, .inl (k_15, 120, .inl (fun _ => 0))), (q_16, .inl (k_17, 120, .inl (fun _ => 0)))] ++ (zp 4 16 121 az_4 ac_5 kz_6 q0z f0z ++ [])) H := va_P.swap (a := [(h0, .inr (1, [.ref q_2, .ref q_10, .ref q_12, .ref q_14, .null, .null, .int 0, .int 0, .int 0, .int 0, .int 0, .int 0, .int 0, .int 120, .int 0, .int 0, .null, .null])), (q_2, .inl (k_3, 121, .inr (.inr (.inr (.inr (zs 0 121 az_4)))))), (q_10, .inl (k_11, 120, .inl (fun _ => 0))), (q_12, .inl (k_13, 120, .inl (fun _ => 0))), (q_14, .inl (k_15, 120, .inl (fun _ => 0)))]) (b := (zp 4 16 121 az_4 ac_5 kz_6 q0z f0z ++ [])) (c := [(q_16, .inl (k_17, 120, .inl (fun _ => 0)))]) hP
    have hD : va_D A ([(h0, .inr (1, [.ref q_2, .ref q_10, .ref q_12, .ref q_14, .null, .null, .int 0, .int 0, .int 0, .int 0, .int 0, .int 0, .int 0, .int 120, .int 0, .int 0, .null, .null])), (q_2, .inl (k_3, 121, .inr (.inr (.inr (.inr (zs 0 121 az_4)))))), (q_10, .inl (k_11, 120, .inl (fun _ => 0))), (q_12, .inl (k_13, 120, .inl (fun _ => 0))), (q_14, .inl (k_15, 120, .inl (fun _ => 0))), (q_16, .inl (k_17, 120, .inl (fun _ => 0)))] ++ (zp 4 16 121 az_4 ac_5 kz_6 q0z f0z ++ [])) := va_D.swap (a := [(h0, .inr (1, [.ref q_2, .ref q_10, .ref q_12, .ref q_14, .null, .null, .int 0, .int 0, .int 0, .int 0, .int 0, .int 0, .int 0, .int 120, .int 0, .int 0, .null, .null])), (q_2, .inl (k_3, 121, .inr (.inr (.inr (.inr (zs 0 121 az_4)))))), (q_10, .inl (k_11, 120, .inl (fun _ => 0))), (q_12, .inl (k_13, 120, .inl (fun _ => 0))), (q_14, .inl (k_15, 120, .inl (fun _ => 0)))]) (b := (zp 4 16 121 az_4 ac_5 kz_6 q0z f0z ++ [])) (c := [(q_16, .inl (k_17, 120, .inl (fun _ => 0)))]) hD
    refine W.widen (k := 247) (n := 2779) (by omega) (by omega) ?_
    refine va_putF (D := (dC, dI)) (ci := 1) (v := .ref q_16) (ty := .array .int) (C := RX1) (T := TX1) (N := 18) hx hb hts hiX1 tyX1 tyX1_ok nmX1 hown hK hP hD hS 0 rfl rfl 4 (by decide) v_11 (fun _ h9 => h9) rfl hin rfl (by decide +kernel) rfl rfl (Nat.le_of_ble_eq_true rfl) dX1_init_71 (fun H locs hP hD hS => ?_)
    have hP : va_P (dC, dI) vwCl ([(h0, .inr (1, [.ref q_2, .ref q_10, .ref q_12, .ref q_14, .ref q_16, .null, .int 0, .int 0, .int 0, .int 0, .int 0, .int 0, .int 0, .int 120, .int 0, .int 0, .null, .null])), (q_2, .inl (k_3, 121, .inr (.inr (.inr (.inr (zs 0 121 az_4)))))), (q_10, .inl (k_11, 120, .inl (fun _ => 0))), (q_12, .inl (k_13, 120, .inl (fun _ => 0))), (q_14, .inl (k_15, 120, .inl (fun _ => 0))), (q_16, .inl (k_17, 120, .inl (fun _ => 0)))] ++ (zp 4 16 121 az_4 ac_5 kz_6 q0z f0z ++ [])) H := hP
    have hD : va_D A ([(h0, .inr (1, [.ref q_2, .ref q_10, .ref q_12, .ref q_14, .ref q_16, .null, .int 0, .int 0, .int 0, .int 0, .int 0, .int 0, .int 0, .int 120, .int 0, .int 0, .null, .null])), (q_2, .inl (k_3, 121, .inr (.inr (.inr (.inr (zs 0 121 az_4)))))), (q_10, .inl (k_11, 120, .inl (fun _ => 0))), (q_12, .inl (k_13, 120, .inl (fun _ => 0))), (q_14, .inl (k_15, 120, .inl (fun _ => 0))), (q_16, .inl (k_17, 120, .inl (fun _ => 0)))] ++ (zp 4 16 121 az_4 ac_5 kz_6 q0z f0z ++ [])) := hD
    refine lv_aload_n hx hb dX1_init_74 rfl (lv_at hl 0 rfl) ?_
    refine lv_iload_n hx hb dX1_init_75 rfl (lv_at hl 1 rfl) ?_
    refine va_newa (atype := .int) (ty := .int) (N' := 120) (a0 := (120, .inl (fun _ => 0))) hx hb v_7 rfl hK hP hD hS hA (fun _ => rfl) (by decide) (by decide) (Nat.le_of_ble_eq_true rfl) (Nat.le_of_ble_eq_true rfl) (Nat.le_of_ble_eq_true rfl) dX1_init_76 (fun q_18 k_19 H hK hP hD hS => ?_)
    have hK : va_K (dC, dI) vwCl ([(k_3, .object RX7), (k_11, .int), (k_13, .int), (k_15, .int), (k_17, .int), (k_19, .int)] ++ (zt 121 kz_6 ++ [])) s := wk_swap (a := [(k_3, .object RX7), (k_11, .int), (k_13, .int), (k_15, .int), (k_17, .int)]) (b := (zt 121 kz_6 ++ [])) (c := [(k_19, .int)]) hK
    have hP : va_P (dC, dI) vwCl ([(h0, .inr (1, [.ref q_2, .ref q_10, .ref q_12, .ref q_14, .ref q_16, .null, .int 0, .int 0, .int 0, .int 0, .int 0, .int 0, .int 0, .int 120, .int 0, .int 0, .null, .null])), (q_2, .inl (k_3, 121, .inr (.inr (.inr (.inr (zs 0 121 az_4)))))), (q_10, .inl (k_11, 120, .inl (fun _ => 0))), (q_12, .inl (k_13, 120, .inl (fun _ => 0))), (q_14, .inl (k_15, 120, .inl (fun _ => 0))), (q_16, .inl (k_17, 120, .inl (fun _ => 0))), (q_18, .inl (k_19, 120, .inl (fun _ => 0)))] ++ (zp 4 16 121 az_4 ac_5 kz_6 q0z f0z ++ [])) H := va_P.swap (a := [(h0, .inr (1, [.ref q_2, .ref q_10, .ref q_12, .ref q_14, .ref q_16, .null, .int 0, .int 0, .int 0, .int 0, .int 0, .int 0, .int 0, .int 120, .int 0, .int 0, .null, .null])), (q_2, .inl (k_3, 121, .inr (.inr (.inr (.inr (zs 0 121 az_4)))))), (q_10, .inl (k_11, 120, .inl (fun _ => 0))), (q_12, .inl (k_13, 120, .inl (fun _ => 0))), (q_14, .inl (k_15, 120, .inl (fun _ => 0))), (q_16, .inl (k_17, 120, .inl (fun _ => 0)))]) (b := (zp 4 16 121 az_4 ac_5 kz_6 q0z f0z ++ [])) (c := [(q_18, .inl (k_19, 120, .inl (fun _ => 0)))]) hP
    have hD : va_D A ([(h0, .inr (1, [.ref q_2, .ref q_10, .ref q_12, .ref q_14, .ref q_16, .null, .int 0, .int 0, .int 0, .int 0, .int 0, .int 0, .int 0, .int 120, .int 0, .int 0, .null, .null])), (q_2, .inl (k_3, 121, .inr (.inr (.inr (.inr (zs 0 121 az_4)))))), (q_10, .inl (k_11, 120, .inl (fun _ => 0))), (q_12, .inl (k_13, 120, .inl (fun _ => 0))), (q_14, .inl (k_15, 120, .inl (fun _ => 0))), (q_16, .inl (k_17, 120, .inl (fun _ => 0))), (q_18, .inl (k_19, 120, .inl (fun _ => 0)))] ++ (zp 4 16 121 az_4 ac_5 kz_6 q0z f0z ++ [])) := va_D.swap (a := [(h0, .inr (1, [.ref q_2, .ref q_10, .ref q_12, .ref q_14, .ref q_16, .null, .int 0, .int 0, .int 0, .int 0, .int 0, .int 0, .int 0, .int 120, .int 0, .int 0, .null, .null])), (q_2, .inl (k_3, 121, .inr (.inr (.inr (.inr (zs 0 121 az_4)))))), (q_10, .inl (k_11, 120, .inl (fun _ => 0))), (q_12, .inl (k_13, 120, .inl (fun _ => 0))), (q_14, .inl (k_15, 120, .inl (fun _ => 0))), (q_16, .inl (k_17, 120, .inl (fun _ => 0)))]) (b := (zp 4 16 121 az_4 ac_5 kz_6 q0z f0z ++ [])) (c := [(q_18, .inl (k_19, 120, .inl (fun _ => 0)))]) hD
    refine W.widen (k := 248) (n := 2899) (by omega) (by omega) ?_
    refine va_putF (D := (dC, dI)) (ci := 1) (v := .ref q_18) (ty := .array .int) (C := RX1) (T := TX1) (N := 18) hx hb hts hiX1 tyX1 tyX1_ok nmX1 hown hK hP hD hS 0 rfl rfl 5 (by decide) v_12 (fun _ h9 => h9) rfl hin rfl (by decide +kernel) rfl rfl (Nat.le_of_ble_eq_true rfl) dX1_init_78 (fun H locs hP hD hS => ?_)
    have hP : va_P (dC, dI) vwCl ([(h0, .inr (1, [.ref q_2, .ref q_10, .ref q_12, .ref q_14, .ref q_16, .ref q_18, .int 0, .int 0, .int 0, .int 0, .int 0, .int 0, .int 0, .int 120, .int 0, .int 0, .null, .null])), (q_2, .inl (k_3, 121, .inr (.inr (.inr (.inr (zs 0 121 az_4)))))), (q_10, .inl (k_11, 120, .inl (fun _ => 0))), (q_12, .inl (k_13, 120, .inl (fun _ => 0))), (q_14, .inl (k_15, 120, .inl (fun _ => 0))), (q_16, .inl (k_17, 120, .inl (fun _ => 0))), (q_18, .inl (k_19, 120, .inl (fun _ => 0)))] ++ (zp 4 16 121 az_4 ac_5 kz_6 q0z f0z ++ [])) H := hP
    have hD : va_D A ([(h0, .inr (1, [.ref q_2, .ref q_10, .ref q_12, .ref q_14, .ref q_16, .ref q_18, .int 0, .int 0, .int 0, .int 0, .int 0, .int 0, .int 0, .int 120, .int 0, .int 0, .null, .null])), (q_2, .inl (k_3, 121, .inr (.inr (.inr (.inr (zs 0 121 az_4)))))), (q_10, .inl (k_11, 120, .inl (fun _ => 0))), (q_12, .inl (k_13, 120, .inl (fun _ => 0))), (q_14, .inl (k_15, 120, .inl (fun _ => 0))), (q_16, .inl (k_17, 120, .inl (fun _ => 0))), (q_18, .inl (k_19, 120, .inl (fun _ => 0)))] ++ (zp 4 16 121 az_4 ac_5 kz_6 q0z f0z ++ [])) := hD
    refine lv_aload_n hx hb dX1_init_81 rfl (lv_at hl 0 rfl) ?_
    refine lv_iconst (v := 5) hx hb dX1_init_82 (by decide) ?_
    refine va_newa (atype := .int) (ty := .int) (N' := 5) (a0 := (5, .inl (fun _ => 0))) hx hb v_7 rfl hK hP hD hS hA (fun _ => rfl) (by decide) (by decide) (Nat.le_of_ble_eq_true rfl) (Nat.le_of_ble_eq_true rfl) (Nat.le_of_ble_eq_true rfl) dX1_init_83 (fun q_20 k_21 H hK hP hD hS => ?_)
    have hK : va_K (dC, dI) vwCl ([(k_3, .object RX7), (k_11, .int), (k_13, .int), (k_15, .int), (k_17, .int), (k_19, .int), (k_21, .int)] ++ (zt 121 kz_6 ++ [])) s := wk_swap (a := [(k_3, .object RX7), (k_11, .int), (k_13, .int), (k_15, .int), (k_17, .int), (k_19, .int)]) (b := (zt 121 kz_6 ++ [])) (c := [(k_21, .int)]) hK
    have hP : va_P (dC, dI) vwCl ([(h0, .inr (1, [.ref q_2, .ref q_10, .ref q_12, .ref q_14, .ref q_16, .ref q_18, .int 0, .int 0, .int 0, .int 0, .int 0, .int 0, .int 0, .int 120, .int 0, .int 0, .null, .null])), (q_2, .inl (k_3, 121, .inr (.inr (.inr (.inr (zs 0 121 az_4)))))), (q_10, .inl (k_11, 120, .inl (fun _ => 0))), (q_12, .inl (k_13, 120, .inl (fun _ => 0))), (q_14, .inl (k_15, 120, .inl (fun _ => 0))), (q_16, .inl (k_17, 120, .inl (fun _ => 0))), (q_18, .inl (k_19, 120, .inl (fun _ => 0))), (q_20, .inl (k_21, 5, .inl (fun _ => 0)))] ++ (zp 4 16 121 az_4 ac_5 kz_6 q0z f0z ++ [])) H := va_P.swap (a := [(h0, .inr (1, [.ref q_2, .ref q_10, .ref q_12, .ref q_14, .ref q_16, .ref q_18, .int 0, .int 0, .int 0, .int 0, .int 0, .int 0, .int 0, .int 120, .int 0, .int 0, .null, .null])), (q_2, .inl (k_3, 121, .inr (.inr (.inr (.inr (zs 0 121 az_4)))))), (q_10, .inl (k_11, 120, .inl (fun _ => 0))), (q_12, .inl (k_13, 120, .inl (fun _ => 0))), (q_14, .inl (k_15, 120, .inl (fun _ => 0))), (q_16, .inl (k_17, 120, .inl (fun _ => 0))), (q_18, .inl (k_19, 120, .inl (fun _ => 0)))]) (b := (zp 4 16 121 az_4 ac_5 kz_6 q0z f0z ++ [])) (c := [(q_20, .inl (k_21, 5, .inl (fun _ => 0)))]) hP
    have hD : va_D A ([(h0, .inr (1, [.ref q_2, .ref q_10, .ref q_12, .ref q_14, .ref q_16, .ref q_18, .int 0, .int 0, .int 0, .int 0, .int 0, .int 0, .int 0, .int 120, .int 0, .int 0, .null, .null])), (q_2, .inl (k_3, 121, .inr (.inr (.inr (.inr (zs 0 121 az_4)))))), (q_10, .inl (k_11, 120, .inl (fun _ => 0))), (q_12, .inl (k_13, 120, .inl (fun _ => 0))), (q_14, .inl (k_15, 120, .inl (fun _ => 0))), (q_16, .inl (k_17, 120, .inl (fun _ => 0))), (q_18, .inl (k_19, 120, .inl (fun _ => 0))), (q_20, .inl (k_21, 5, .inl (fun _ => 0)))] ++ (zp 4 16 121 az_4 ac_5 kz_6 q0z f0z ++ [])) := va_D.swap (a := [(h0, .inr (1, [.ref q_2, .ref q_10, .ref q_12, .ref q_14, .ref q_16, .ref q_18, .int 0, .int 0, .int 0, .int 0, .int 0, .int 0, .int 0, .int 120, .int 0, .int 0, .null, .null])), (q_2, .inl (k_3, 121, .inr (.inr (.inr (.inr (zs 0 121 az_4)))))), (q_10, .inl (k_11, 120, .inl (fun _ => 0))), (q_12, .inl (k_13, 120, .inl (fun _ => 0))), (q_14, .inl (k_15, 120, .inl (fun _ => 0))), (q_16, .inl (k_17, 120, .inl (fun _ => 0))), (q_18, .inl (k_19, 120, .inl (fun _ => 0)))]) (b := (zp 4 16 121 az_4 ac_5 kz_6 q0z f0z ++ [])) (c := [(q_20, .inl (k_21, 5, .inl (fun _ => 0)))]) hD
    refine W.widen (k := 249) (n := 2904) (by omega) (by omega) ?_
    refine va_putF (D := (dC, dI)) (ci := 1) (v := .ref q_20) (ty := .array .int) (C := RX1) (T := TX1) (N := 18) hx hb hts hiX1 tyX1 tyX1_ok nmX1 hown hK hP hD hS 0 rfl rfl 16 (by decide) v_13 (fun _ h9 => h9) rfl hin rfl (by decide +kernel) rfl rfl (Nat.le_of_ble_eq_true rfl) dX1_init_85 (fun H locs hP hD hS => ?_)
    have hP : va_P (dC, dI) vwCl ([(h0, .inr (1, [.ref q_2, .ref q_10, .ref q_12, .ref q_14, .ref q_16, .ref q_18, .int 0, .int 0, .int 0, .int 0, .int 0, .int 0, .int 0, .int 120, .int 0, .int 0, .ref q_20, .null])), (q_2, .inl (k_3, 121, .inr (.inr (.inr (.inr (zs 0 121 az_4)))))), (q_10, .inl (k_11, 120, .inl (fun _ => 0))), (q_12, .inl (k_13, 120, .inl (fun _ => 0))), (q_14, .inl (k_15, 120, .inl (fun _ => 0))), (q_16, .inl (k_17, 120, .inl (fun _ => 0))), (q_18, .inl (k_19, 120, .inl (fun _ => 0))), (q_20, .inl (k_21, 5, .inl (fun _ => 0)))] ++ (zp 4 16 121 az_4 ac_5 kz_6 q0z f0z ++ [])) H := hP
    have hD : va_D A ([(h0, .inr (1, [.ref q_2, .ref q_10, .ref q_12, .ref q_14, .ref q_16, .ref q_18, .int 0, .int 0, .int 0, .int 0, .int 0, .int 0, .int 0, .int 120, .int 0, .int 0, .ref q_20, .null])), (q_2, .inl (k_3, 121, .inr (.inr (.inr (.inr (zs 0 121 az_4)))))), (q_10, .inl (k_11, 120, .inl (fun _ => 0))), (q_12, .inl (k_13, 120, .inl (fun _ => 0))), (q_14, .inl (k_15, 120, .inl (fun _ => 0))), (q_16, .inl (k_17, 120, .inl (fun _ => 0))), (q_18, .inl (k_19, 120, .inl (fun _ => 0))), (q_20, .inl (k_21, 5, .inl (fun _ => 0)))] ++ (zp 4 16 121 az_4 ac_5 kz_6 q0z f0z ++ [])) := hD
    refine lv_aload_n hx hb dX1_init_88 rfl (lv_at hl 0 rfl) ?_
    refine lv_iconst (v := 5) hx hb dX1_init_89 (by decide) ?_
    refine va_newa (atype := .int) (ty := .int) (N' := 5) (a0 := (5, .inl (fun _ => 0))) hx hb v_7 rfl hK hP hD hS hA (fun _ => rfl) (by decide) (by decide) (Nat.le_of_ble_eq_true rfl) (Nat.le_of_ble_eq_true rfl) (Nat.le_of_ble_eq_true rfl) dX1_init_90 (fun q_22 k_23 H hK hP hD hS => ?_)
    have hK : va_K (dC, dI) vwCl ([(k_3, .object RX7), (k_11, .int), (k_13, .int), (k_15, .int), (k_17, .int), (k_19, .int), (k_21, .int), (k_23, .int)] ++ (zt 121 kz_6 ++ [])) s := wk_swap (a := [(k_3, .object RX7), (k_11, .int), (k_13, .int), (k_15, .int), (k_17, .int), (k_19, .int), (k_21, .int)]) (b := (zt 121 kz_6 ++ [])) (c := [(k_23, .int)]) hK
    have hP : va_P (dC, dI) vwCl ([(h0, .inr (1, [.ref q_2, .ref q_10, .ref q_12, .ref q_14, .ref q_16, .ref q_18, .int 0, .int 0, .int 0, .int 0, .int 0, .int 0, .int 0, .int 120, .int 0, .int 0, .ref q_20, .null])), (q_2, .inl (k_3, 121, .inr (.inr (.inr (.inr (zs 0 121 az_4)))))), (q_10, .inl (k_11, 120, .inl (fun _ => 0))), (q_12, .inl (k_13, 120, .inl (fun _ => 0))), (q_14, .inl (k_15, 120, .inl (fun _ => 0))), (q_16, .inl (k_17, 120, .inl (fun _ => 0))), (q_18, .inl (k_19, 120, .inl (fun _ => 0))), (q_20, .inl (k_21, 5, .inl (fun _ => 0))), (q_22, .inl (k_23, 5, .inl (fun _ => 0)))] ++ (zp 4 16 121 az_4 ac_5 kz_6 q0z f0z ++ [])) H := va_P.swap (a := [(h0, .inr (1, [.ref q_2, .ref q_10, .ref q_12, .ref q_14, .ref q_16, .ref q_18, .int 0, .int 0, .int 0, .int 0, .int 0, .int 0, .int 0, .int 120, .int 0, .int 0, .ref q_20, .null])), (q_2, .inl (k_3, 121, .inr (.inr (.inr (.inr (zs 0 121 az_4)))))), (q_10, .inl (k_11, 120, .inl (fun _ => 0))), (q_12, .inl (k_13, 120, .inl (fun _ => 0))), (q_14, .inl (k_15, 120, .inl (fun _ => 0))), (q_16, .inl (k_17, 120, .inl (fun _ => 0))), (q_18, .inl (k_19, 120, .inl (fun _ => 0))), (q_20, .inl (k_21, 5, .inl (fun _ => 0)))]) (b := (zp 4 16 121 az_4 ac_5 kz_6 q0z f0z ++ [])) (c := [(q_22, .inl (k_23, 5, .inl (fun _ => 0)))]) hP
    have hD : va_D A ([(h0, .inr (1, [.ref q_2, .ref q_10, .ref q_12, .ref q_14, .ref q_16, .ref q_18, .int 0, .int 0, .int 0, .int 0, .int 0, .int 0, .int 0, .int 120, .int 0, .int 0, .ref q_20, .null])), (q_2, .inl (k_3, 121, .inr (.inr (.inr (.inr (zs 0 121 az_4)))))), (q_10, .inl (k_11, 120, .inl (fun _ => 0))), (q_12, .inl (k_13, 120, .inl (fun _ => 0))), (q_14, .inl (k_15, 120, .inl (fun _ => 0))), (q_16, .inl (k_17, 120, .inl (fun _ => 0))), (q_18, .inl (k_19, 120, .inl (fun _ => 0))), (q_20, .inl (k_21, 5, .inl (fun _ => 0))), (q_22, .inl (k_23, 5, .inl (fun _ => 0)))] ++ (zp 4 16 121 az_4 ac_5 kz_6 q0z f0z ++ [])) := va_D.swap (a := [(h0, .inr (1, [.ref q_2, .ref q_10, .ref q_12, .ref q_14, .ref q_16, .ref q_18, .int 0, .int 0, .int 0, .int 0, .int 0, .int 0, .int 0, .int 120, .int 0, .int 0, .ref q_20, .null])), (q_2, .inl (k_3, 121, .inr (.inr (.inr (.inr (zs 0 121 az_4)))))), (q_10, .inl (k_11, 120, .inl (fun _ => 0))), (q_12, .inl (k_13, 120, .inl (fun _ => 0))), (q_14, .inl (k_15, 120, .inl (fun _ => 0))), (q_16, .inl (k_17, 120, .inl (fun _ => 0))), (q_18, .inl (k_19, 120, .inl (fun _ => 0))), (q_20, .inl (k_21, 5, .inl (fun _ => 0)))]) (b := (zp 4 16 121 az_4 ac_5 kz_6 q0z f0z ++ [])) (c := [(q_22, .inl (k_23, 5, .inl (fun _ => 0)))]) hD
    refine W.widen (k := 250) (n := 2909) (by omega) (by omega) ?_
    refine va_putF (D := (dC, dI)) (ci := 1) (v := .ref q_22) (ty := .array .int) (C := RX1) (T := TX1) (N := 18) hx hb hts hiX1 tyX1 tyX1_ok nmX1 hown hK hP hD hS 0 rfl rfl 17 (by decide) v_14 (fun _ h9 => h9) rfl hin rfl (by decide +kernel) rfl rfl (Nat.le_of_ble_eq_true rfl) dX1_init_92 (fun H locs hP hD hS => ?_)
    have hP : va_P (dC, dI) vwCl ([(h0, .inr (1, [.ref q_2, .ref q_10, .ref q_12, .ref q_14, .ref q_16, .ref q_18, .int 0, .int 0, .int 0, .int 0, .int 0, .int 0, .int 0, .int 120, .int 0, .int 0, .ref q_20, .ref q_22])), (q_2, .inl (k_3, 121, .inr (.inr (.inr (.inr (zs 0 121 az_4)))))), (q_10, .inl (k_11, 120, .inl (fun _ => 0))), (q_12, .inl (k_13, 120, .inl (fun _ => 0))), (q_14, .inl (k_15, 120, .inl (fun _ => 0))), (q_16, .inl (k_17, 120, .inl (fun _ => 0))), (q_18, .inl (k_19, 120, .inl (fun _ => 0))), (q_20, .inl (k_21, 5, .inl (fun _ => 0))), (q_22, .inl (k_23, 5, .inl (fun _ => 0)))] ++ (zp 4 16 121 az_4 ac_5 kz_6 q0z f0z ++ [])) H := hP
    have hD : va_D A ([(h0, .inr (1, [.ref q_2, .ref q_10, .ref q_12, .ref q_14, .ref q_16, .ref q_18, .int 0, .int 0, .int 0, .int 0, .int 0, .int 0, .int 0, .int 120, .int 0, .int 0, .ref q_20, .ref q_22])), (q_2, .inl (k_3, 121, .inr (.inr (.inr (.inr (zs 0 121 az_4)))))), (q_10, .inl (k_11, 120, .inl (fun _ => 0))), (q_12, .inl (k_13, 120, .inl (fun _ => 0))), (q_14, .inl (k_15, 120, .inl (fun _ => 0))), (q_16, .inl (k_17, 120, .inl (fun _ => 0))), (q_18, .inl (k_19, 120, .inl (fun _ => 0))), (q_20, .inl (k_21, 5, .inl (fun _ => 0))), (q_22, .inl (k_23, 5, .inl (fun _ => 0)))] ++ (zp 4 16 121 az_4 ac_5 kz_6 q0z f0z ++ [])) := hD
    refine W.widen (k := 250) (n := 2909) (by first | omega | exact Nat.le_of_ble_eq_true rfl) (by first | omega | exact Nat.le_of_ble_eq_true rfl) ?_
    have hP9 : va_P (dC, dI) vwCl ([(h0, .inr (1, [.ref q_2, .ref q_10, .ref q_12, .ref q_14, .ref q_16, .ref q_18, .int 0, .int 0, .int 0, .int 0, .int 0, .int 0, .int 0, .int 120, .int 0, .int 0, .ref q_20, .ref q_22])), (q_2, .inl (k_3, 121, .inr (.inr (.inr (.inr (zs 0 121 az_4)))))), (q_10, .inl (k_11, 120, .inl (fun _ => 0))), (q_12, .inl (k_13, 120, .inl (fun _ => 0))), (q_14, .inl (k_15, 120, .inl (fun _ => 0))), (q_16, .inl (k_17, 120, .inl (fun _ => 0))), (q_18, .inl (k_19, 120, .inl (fun _ => 0))), (q_20, .inl (k_21, 5, .inl (fun _ => 0))), (q_22, .inl (k_23, 5, .inl (fun _ => 0)))] ++ (zp 4 16 121 az_4 ac_5 kz_6 q0z f0z ++ [])) H := hP.part [0, 1, 2, 3, 4, 5, 6, 7, 8] rfl
    have hD9 : va_D A ([(h0, .inr (1, [.ref q_2, .ref q_10, .ref q_12, .ref q_14, .ref q_16, .ref q_18, .int 0, .int 0, .int 0, .int 0, .int 0, .int 0, .int 0, .int 120, .int 0, .int 0, .ref q_20, .ref q_22])), (q_2, .inl (k_3, 121, .inr (.inr (.inr (.inr (zs 0 121 az_4)))))), (q_10, .inl (k_11, 120, .inl (fun _ => 0))), (q_12, .inl (k_13, 120, .inl (fun _ => 0))), (q_14, .inl (k_15, 120, .inl (fun _ => 0))), (q_16, .inl (k_17, 120, .inl (fun _ => 0))), (q_18, .inl (k_19, 120, .inl (fun _ => 0))), (q_20, .inl (k_21, 5, .inl (fun _ => 0))), (q_22, .inl (k_23, 5, .inl (fun _ => 0)))] ++ (zp 4 16 121 az_4 ac_5 kz_6 q0z f0z ++ [])) := hD.part [0, 1, 2, 3, 4, 5, 6, 7, 8] (by decide) rfl
    have hK9 : va_K (dC, dI) vwCl ([(k_3, .object RX7), (k_11, .int), (k_13, .int), (k_15, .int), (k_17, .int), (k_19, .int), (k_21, .int), (k_23, .int)] ++ (zt 121 kz_6 ++ [])) s := zk_part hK [0, 1, 2, 3, 4, 5, 6, 7] rfl
    exact W.vret hx hb hr (fun t ht hW => ⟨⟨(), rfl, trivial, q_2, q_10, q_12, q_14, q_16, q_18, q_20, q_22, k_3, k_11, k_13, k_15, k_17, k_19, k_21, k_23, az_4, ac_5, kz_6, ⟨by rw [ht]; exact hP9, va_K.moved hW.alike hK9, hD9⟩⟩, hS.F ht⟩) hS.2.2 dX1_init_95
  · rintro i_7 h_8 ih_9 H locs ls ⟨az_4, ac_5, kz_6, hP, hD, hK, hS, hl⟩
    refine lv_iload_n hx hb dX1_init_21 rfl (lv_at hl 3 rfl) ?_
    refine lv_iload_n hx hb dX1_init_22 rfl (lv_at hl 1 rfl) ?_
    refine lv_icmp_gt (tgt := 46) hx hb dX1_init_23 (by decide) (fun z => absurd z (nI_nlt (a := 120) (by omega) (by decide))) (fun _ => ?_)
    refine lv_aload_n hx hb dX1_init_26 rfl (lv_at hl 0 rfl) ?_
    refine va_get (D := (dC, dI)) (ci := 1) (v := .ref q_2) (C := RX1) (T := TX1) (N := 18) hx hb hts hiX1 hown hK hP 0 rfl rfl 0 (by decide) v_6 (fun _ h9 => h9) rfl dX1_init_27 ?_
    refine lv_iload_n hx hb dX1_init_30 rfl (lv_at hl 3 rfl) ?_
    refine va_new (ci := 7) (fs := [.null, .int 0]) (C := RX7) (T := TX7) (N := 2) hx hb hts hiX7 tyX7 tyX7_ok hown v_5 v_15 v_16 hK hP hD hS hA rfl (pu_fs (by decide)) (by show _ ≤ 250; omega) (by show _ ≤ 2909; omega) dX1_init_31 (fun q_24 H hP hD hS => ?_)
    have hP : va_P (dC, dI) vwCl ([(h0, .inr (1, [.ref q_2, .null, .null, .null, .null, .null, .int 0, .int 0, .int 0, .int 0, .int 0, .int 0, .int 0, .int 120, .int 0, .int 0, .null, .null])), (q_2, .inl (k_3, 121, .inr (.inr (.inr (.inr (zs 0 i_7 az_4)))))), (q_24, .inr (7, [.null, .int 0]))] ++ (zp 4 16 i_7 az_4 ac_5 kz_6 q0z f0z ++ [])) H := va_P.swap (a := [(h0, .inr (1, [.ref q_2, .null, .null, .null, .null, .null, .int 0, .int 0, .int 0, .int 0, .int 0, .int 0, .int 0, .int 120, .int 0, .int 0, .null, .null])), (q_2, .inl (k_3, 121, .inr (.inr (.inr (.inr (zs 0 i_7 az_4))))))]) (b := (zp 4 16 i_7 az_4 ac_5 kz_6 q0z f0z ++ [])) (c := [(q_24, .inr (7, [.null, .int 0]))]) hP
    have hD : va_D A ([(h0, .inr (1, [.ref q_2, .null, .null, .null, .null, .null, .int 0, .int 0, .int 0, .int 0, .int 0, .int 0, .int 0, .int 120, .int 0, .int 0, .null, .null])), (q_2, .inl (k_3, 121, .inr (.inr (.inr (.inr (zs 0 i_7 az_4)))))), (q_24, .inr (7, [.null, .int 0]))] ++ (zp 4 16 i_7 az_4 ac_5 kz_6 q0z f0z ++ [])) := va_D.swap (a := [(h0, .inr (1, [.ref q_2, .null, .null, .null, .null, .null, .int 0, .int 0, .int 0, .int 0, .int 0, .int 0, .int 0, .int 120, .int 0, .int 0, .null, .null])), (q_2, .inl (k_3, 121, .inr (.inr (.inr (.inr (zs 0 i_7 az_4))))))]) (b := (zp 4 16 i_7 az_4 ac_5 kz_6 q0z f0z ++ [])) (c := [(q_24, .inr (7, [.null, .int 0]))]) hD
    refine W.widen (k := 2 + 2 * i_7) (n := 123 + 18 * i_7) (by omega) (by omega) ?_
    refine lv_dup hx hb dX1_init_34 rfl ?_
    refine lv_iload_n hx hb dX1_init_35 rfl (lv_at hl 2 rfl) ?_
    have hFc := va_free (wc := [(q_24, .inr (7, [.null, .int 0]))]) hD hS hA [2] rfl
    refine va_callv (va_runI (As := [.int 4]) (rest := [.ref q_24, .int (nI i_7), .ref q_2]) ⟨hx, hb, hml, hown, hts⟩ (c_X7_init_4 l dC dI _ q_24) (cwI 1 hts g_X1_init_120_X7_init_4 rfl rfl rfl v_16 v_20 v_21 rfl (by decide +kernel) ⟨Nat.le_of_ble_eq_true rfl, Nat.le_of_ble_eq_true rfl⟩) ⟨pu_bl, pu_in (hP.sub [2] rfl) (hK.sub [] rfl) (hD.sub [2] (by decide) rfl)⟩ rfl rfl hl.1 rfl (lv_room (Nat.le_of_ble_eq_true rfl)) dX1_init_36 ⟨by show _ ≤ 250; omega, by show _ ≤ 2909; omega⟩) hS (fun q _ h => hFc q h) hFc (fun u t H1 locs ht hvm hw hB hz1 hk1 hS => ?_)
    obtain ⟨q1_25, k1_26, ⟨hP1, hK1, hD1⟩⟩ := hB
    rw [ht] at hP1
    have hK1 := va_K.moved hvm.symm hK1
    obtain ⟨hP, hD⟩ := jn_last (X := [(h0, .inr (1, [.ref q_2, .null, .null, .null, .null, .null, .int 0, .int 0, .int 0, .int 0, .int 0, .int 0, .int 0, .int 120, .int 0, .int 0, .null, .null])), (q_2, .inl (k_3, 121, .inr (.inr (.inr (.inr (zs 0 i_7 az_4))))))]) (T := (zp 4 16 i_7 az_4 ac_5 kz_6 q0z f0z ++ [])) (wc := [(q_24, .inr (7, [.null, .int 0]))]) (w1 := [(q_24, .inr (7, [.ref q1_25, .int 0])), (q1_25, .inl (k1_26, 16, .inl (fun _ => 0)))]) hP hD hk1 hFc hP1 hD1
    have hK := wk_ins (a := [(k_3, .object RX7)]) (b := (zt i_7 kz_6 ++ [])) (c := [(k1_26, .int)]) hK hK1
    clear hk1 hz1 ht hvm
    generalize H1 = H at hP hS ⊢
    have hP : va_P (dC, dI) vwCl ([(h0, .inr (1, [.ref q_2, .null, .null, .null, .null, .null, .int 0, .int 0, .int 0, .int 0, .int 0, .int 0, .int 0, .int 120, .int 0, .int 0, .null, .null])), (q_2, .inl (k_3, 121, .inr (.inr (.inr (.inr (zs 0 i_7 az_4)))))), (q_24, .inr (7, [.ref q1_25, .int 0])), (q1_25, .inl (k1_26, 16, .inl (fun _ => 0)))] ++ (zp 4 16 i_7 az_4 ac_5 kz_6 q0z f0z ++ [])) H := hP
    have hD : va_D A ([(h0, .inr (1, [.ref q_2, .null, .null, .null, .null, .null, .int 0, .int 0, .int 0, .int 0, .int 0, .int 0, .int 0, .int 120, .int 0, .int 0, .null, .null])), (q_2, .inl (k_3, 121, .inr (.inr (.inr (.inr (zs 0 i_7 az_4)))))), (q_24, .inr (7, [.ref q1_25, .int 0])), (q1_25, .inl (k1_26, 16, .inl (fun _ => 0)))] ++ (zp 4 16 i_7 az_4 ac_5 kz_6 q0z f0z ++ [])) := hD
    have hK : va_K (dC, dI) vwCl ([(k_3, .object RX7), (k1_26, .int)] ++ (zt i_7 kz_6 ++ [])) s := hK
    refine W.widen (k := 3 + 2 * i_7) (n := 139 + 18 * i_7) (by first | omega | exact Nat.le_of_ble_eq_true rfl) (by first | omega | exact Nat.le_of_ble_eq_true rfl) ?_
    refine va_astq (r := (RX7, TX7, 2)) hx hb hK hP hD hS 1 0 2 7 rfl rfl rfl rfl (vp_in_nI (by omega) (by decide)) dX1_init_39 (fun H locs hP hD hS => ?_)
    have hP : va_P (dC, dI) vwCl ([(h0, .inr (1, [.ref q_2, .null, .null, .null, .null, .null, .int 0, .int 0, .int 0, .int 0, .int 0, .int 0, .int 0, .int 120, .int 0, .int 0, .null, .null])), (q_2, .inl (k_3, 121, .inr (.inr (.inr (.inr (va_up (zs 0 i_7 az_4) ((nI i_7) : Int32).toNatClampNeg (some q_24))))))), (q_24, .inr (7, [.ref q1_25, .int 0])), (q1_25, .inl (k1_26, 16, .inl (fun _ => 0)))] ++ (zp 4 16 i_7 az_4 ac_5 kz_6 q0z f0z ++ [])) H := hP
    have hD : va_D A ([(h0, .inr (1, [.ref q_2, .null, .null, .null, .null, .null, .int 0, .int 0, .int 0, .int 0, .int 0, .int 0, .int 0, .int 120, .int 0, .int 0, .null, .null])), (q_2, .inl (k_3, 121, .inr (.inr (.inr (.inr (va_up (zs 0 i_7 az_4) ((nI i_7) : Int32).toNatClampNeg (some q_24))))))), (q_24, .inr (7, [.ref q1_25, .int 0])), (q1_25, .inl (k1_26, 16, .inl (fun _ => 0)))] ++ (zp 4 16 i_7 az_4 ac_5 kz_6 q0z f0z ++ [])) := hD
    refine lv_iinc (v := (nI (i_7 + 1))) (lv' := [(3, .int (nI (i_7 + 1))), (0, .ref h0), (1, .int 120), (2, .int 4)]) hx hb dX1_init_40 hl (k := 3) rfl (nI_1 _) (by decide) rfl (fun ls hl => ?_)
    refine lv_goto (tgt := 21) hx hb dX1_init_43 (by decide) ?_
    rw [zs_push (by omega)] at hP hD
    have hP : va_P (dC, dI) vwCl ([(h0, .inr (1, [.ref q_2, .null, .null, .null, .null, .null, .int 0, .int 0, .int 0, .int 0, .int 0, .int 0, .int 0, .int 120, .int 0, .int 0, .null, .null])), (q_2, .inl (k_3, 121, .inr (.inr (.inr (.inr (zs 0 (i_7 + 1) (pz i_7 q_24 az_4)))))))] ++ (zp 4 16 (i_7 + 1) (pz i_7 q_24 az_4) (pz i_7 q1_25 ac_5) (pz i_7 k1_26 kz_6) q0z f0z ++ [])) H := zp_pushP (X := [(h0, .inr (1, [.ref q_2, .null, .null, .null, .null, .null, .int 0, .int 0, .int 0, .int 0, .int 0, .int 0, .int 0, .int 120, .int 0, .int 0, .null, .null])), (q_2, .inl (k_3, 121, .inr (.inr (.inr (.inr (zs 0 (i_7 + 1) (pz i_7 q_24 az_4)))))))]) hP
    have hD : va_D A ([(h0, .inr (1, [.ref q_2, .null, .null, .null, .null, .null, .int 0, .int 0, .int 0, .int 0, .int 0, .int 0, .int 0, .int 120, .int 0, .int 0, .null, .null])), (q_2, .inl (k_3, 121, .inr (.inr (.inr (.inr (zs 0 (i_7 + 1) (pz i_7 q_24 az_4)))))))] ++ (zp 4 16 (i_7 + 1) (pz i_7 q_24 az_4) (pz i_7 q1_25 ac_5) (pz i_7 k1_26 kz_6) q0z f0z ++ [])) := zp_pushD (X := [(h0, .inr (1, [.ref q_2, .null, .null, .null, .null, .null, .int 0, .int 0, .int 0, .int 0, .int 0, .int 0, .int 0, .int 120, .int 0, .int 0, .null, .null])), (q_2, .inl (k_3, 121, .inr (.inr (.inr (.inr (zs 0 (i_7 + 1) (pz i_7 q_24 az_4)))))))]) hD
    have hK := zt_push (X := [(k_3, .object RX7)]) hK
    refine W.widen (k := 1 + 2 * (i_7 + 1)) (n := 121 + 18 * (i_7 + 1)) (by omega) (by omega) ?_
    exact ih_9 _ _ _ ⟨_, _, _, hP, hD, hK, hS, lv_sub hl [1, 2, 3, 0] rfl⟩
def vs_X1_init_400 : List Cond := .code yX1_init cX1_init 4 none :: ([.methodLink RX1 3 objectInit, .instanceMethod objectInit, .code objectInit ⟨#[0xb1]⟩ 1 none, .fieldLink RX1 9 "ClockReach$Graph" "most" "I", .classLink RX1 15 RX7, .fieldLink RX1 17 "ClockReach$Graph" "zones" "[LClockReach$Zone;", .arrayClass .int, .fieldLink RX1 24 "ClockReach$Graph" "sites" "[I", .fieldLink RX1 28 "ClockReach$Graph" "parents" "[I", .fieldLink RX1 31 "ClockReach$Graph" "entries" "[I", .fieldLink RX1 34 "ClockReach$Graph" "depths" "[I", .fieldLink RX1 37 "ClockReach$Graph" "broods" "[I", .fieldLink RX1 40 "ClockReach$Graph" "high" "[I", .fieldLink RX1 43 "ClockReach$Graph" "low" "[I", .instantiable RX7 2, .initialized RX7, .code yX7_init cX7_init 2 none, .methodLink RX7 5 objectInit, .fieldLink RX7 11 "ClockReach$Zone" "cells" "[I", .methodLink RX1 21 yX7_init, .instanceMethod yX7_init] ++ wsX10 ++ wsX70)
theorem g_X1_init_400_X7_init_5 : GoodIn vs_X1_init_400 vs_X7_init_5 := goodIn_r _ [17, 18, 2, 3, 7, 19, 40, 41] (by decide +kernel) (by decide +kernel)
set_option maxHeartbeats 4000000 in
set_option maxRecDepth 100000 in
theorem c_X1_init_400 (l : Launch) (dC : Nat → ClassId) (dI : Nat → Nat → Nat) (sz : Nat) (adK adV : Nat → Nat) (fz : Option Nat) (h0 : Nat) : Met l yX1_init vs_X1_init_400 ({ frames := 2, cells := 810, slots := 13238, locals := 33 }) (va_Pc [.ref h0, .int 400, .int 5] (pu_X adK adV fz (dC, dI) [(h0, .inr (1, [.null, .null, .null, .null, .null, .null, .int 0, .int 0, .int 0, .int 0, .int 0, .int 0, .int 0, .int 0, .int 0, .int 0, .null, .null]))] [] sz)) (va_Qv (fun (_ : Unit) => True) (fun _ t => ∃ (q1 q2 q3 q4 q5 q6 q7 q8 : Nat) (k1 k2 k3 k4 k5 k6 k7 k8 : ClassId) (az ac : Nat → Nat) (kz : Nat → ClassId), pu_E (dC, dI) ([(h0, .inr (1, [.ref q1, .ref q2, .ref q3, .ref q4, .ref q5, .ref q6, .int 0, .int 0, .int 0, .int 0, .int 0, .int 0, .int 0, .int 400, .int 0, .int 0, .ref q7, .ref q8])), (q1, .inl (k1, 401, .inr (.inr (.inr (.inr (zs 0 401 az)))))), (q2, .inl (k2, 400, .inl (fun _ => 0))), (q3, .inl (k3, 400, .inl (fun _ => 0))), (q4, .inl (k4, 400, .inl (fun _ => 0))), (q5, .inl (k5, 400, .inl (fun _ => 0))), (q6, .inl (k6, 400, .inl (fun _ => 0))), (q7, .inl (k7, 5, .inl (fun _ => 0))), (q8, .inl (k8, 5, .inl (fun _ => 0)))] ++ (zp 5 25 401 az ac kz q0z f0z ++ [])) ([(k1, .object RX7), (k2, .int), (k3, .int), (k4, .int), (k5, .int), (k6, .int), (k7, .int), (k8, .int)] ++ (zt 401 kz ++ [])) (va_A ([(h0, .inr (1, [.null, .null, .null, .null, .null, .null, .int 0, .int 0, .int 0, .int 0, .int 0, .int 0, .int 0, .int 0, .int 0, .int 0, .null, .null]))]) sz) t) (va_A ([(h0, .inr (1, [.null, .null, .null, .null, .null, .null, .int 0, .int 0, .int 0, .int 0, .int 0, .int 0, .int 0, .int 0, .int 0, .int 0, .null, .null]))]) sz)) 810 13238 (va_A ([(h0, .inr (1, [.null, .null, .null, .null, .null, .null, .int 0, .int 0, .int 0, .int 0, .int 0, .int 0, .int 0, .int 0, .int 0, .int 0, .null, .null]))]) sz) := by
  refine Met.ofW (cc := cX1_init) (maxL := 4) (ret := none) (by decide) rfl ?_
  intro p e s m args below meth c s₁ B hml hv
  obtain ⟨rfl, ⟨rfl, hP, hK, hD0⟩, hE⟩ := hv
  have hx := B.exec
  have hb := B.bytes
  have hr := B.returns
  have hts := atoms_spec (ws := vs_X1_init_400) B.pre
  have v_1 := hts (.methodLink RX1 3 objectInit) (List.mem_of_getElem? (i := 1) rfl)
  have v_2 := hts (.instanceMethod objectInit) (List.mem_of_getElem? (i := 2) rfl)
  have v_3 := hts (.code objectInit ⟨#[0xb1]⟩ 1 none) (List.mem_of_getElem? (i := 3) rfl)
  have v_4 := hts (.fieldLink RX1 9 "ClockReach$Graph" "most" "I") (List.mem_of_getElem? (i := 4) rfl)
  have v_5 := hts (.classLink RX1 15 RX7) (List.mem_of_getElem? (i := 5) rfl)
  have v_6 := hts (.fieldLink RX1 17 "ClockReach$Graph" "zones" "[LClockReach$Zone;") (List.mem_of_getElem? (i := 6) rfl)
  have v_7 := hts (.arrayClass .int) (List.mem_of_getElem? (i := 7) rfl)
  have v_8 := hts (.fieldLink RX1 24 "ClockReach$Graph" "sites" "[I") (List.mem_of_getElem? (i := 8) rfl)
  have v_9 := hts (.fieldLink RX1 28 "ClockReach$Graph" "parents" "[I") (List.mem_of_getElem? (i := 9) rfl)
  have v_10 := hts (.fieldLink RX1 31 "ClockReach$Graph" "entries" "[I") (List.mem_of_getElem? (i := 10) rfl)
  have v_11 := hts (.fieldLink RX1 34 "ClockReach$Graph" "depths" "[I") (List.mem_of_getElem? (i := 11) rfl)
  have v_12 := hts (.fieldLink RX1 37 "ClockReach$Graph" "broods" "[I") (List.mem_of_getElem? (i := 12) rfl)
  have v_13 := hts (.fieldLink RX1 40 "ClockReach$Graph" "high" "[I") (List.mem_of_getElem? (i := 13) rfl)
  have v_14 := hts (.fieldLink RX1 43 "ClockReach$Graph" "low" "[I") (List.mem_of_getElem? (i := 14) rfl)
  have v_15 := hts (.instantiable RX7 2) (List.mem_of_getElem? (i := 15) rfl)
  have v_16 := hts (.initialized RX7) (List.mem_of_getElem? (i := 16) rfl)
  have v_20 := hts (.methodLink RX1 21 yX7_init) (List.mem_of_getElem? (i := 20) rfl)
  have v_21 := hts (.instanceMethod yX7_init) (List.mem_of_getElem? (i := 21) rfl)
  have hown : s.vm.findClass RX1 = some m.cls := findClass_of_methodNamed B.named
  have hlocks := B.notSynchronized
  have hin : meth.name = "<init>" := (name_of_methodNamed B.named B.method).1
  have hiX1 : ∀ w ∈ wsX10, w ∈ vs_X1_init_400 := fun _ h => List.mem_cons_of_mem _ (List.mem_append_left _ (List.mem_append_right _ h))
  have hiX7 : ∀ w ∈ wsX70, w ∈ vs_X1_init_400 := fun _ h => List.mem_cons_of_mem _ (List.mem_append_right _ h)
  have hD := hD0.self (sz := s.heap.size)
  generalize hAe : va_A ([(h0, .inr (1, [.null, .null, .null, .null, .null, .null, .int 0, .int 0, .int 0, .int 0, .int 0, .int 0, .int 0, .int 0, .int 0, .int 0, .null, .null]))]) s.heap.size = A at hD hE ⊢
  have hA : ∀ q : Nat, s.heap.size ≤ q → A q := fun q h => by rw [← hAe]; exact Or.inr h
  have hS : va_S A s.heap s.heap [] := va_S.rf
  have hl := lv_entry ([.ref h0, .int 400, .int 5]) (n := 4) (Nat.le_of_ble_eq_true rfl)
  rw [lg_entry_eq]
  generalize (lg_sl ([.ref h0, .int 400, .int 5]) ++ List.replicate (4 - (lg_sl ([.ref h0, .int 400, .int 5])).length) Slot.unset).toArray = ls at hl ⊢
  have hl : lv_has ls 4 [(0, .ref h0), (1, .int 400), (2, .int 5)] := hl
  refine lv_aload_n hx hb dX1_init_0 rfl (lv_at hl 0 rfl) ?_
  refine W.objInit hx hb hown v_1 v_2 v_3 rfl (by rw [hml]; exact hl.1) rfl dX1_init_1 (Nat.le_of_ble_eq_true rfl) (Nat.le_of_ble_eq_true rfl) ?_
  refine W.eq (g2 := F0 m 4 ls []) rfl ?_
  refine lv_aload_n hx hb dX1_init_4 rfl (lv_at hl 0 rfl) ?_
  refine lv_iload_n hx hb dX1_init_5 rfl (lv_at hl 1 rfl) ?_
  refine va_putF (D := (dC, dI)) (ci := 1) (v := .int 400) (ty := .int) (C := RX1) (T := TX1) (N := 18) hx hb hts hiX1 tyX1 tyX1_ok nmX1 hown hK hP hD hS 0 rfl rfl 13 (by decide) v_4 (fun _ h9 => h9) rfl hin rfl (by decide +kernel) rfl rfl (Nat.le_of_ble_eq_true rfl) dX1_init_6 (fun H locs hP hD hS => ?_)
  have hP : va_P (dC, dI) vwCl [(h0, .inr (1, [.null, .null, .null, .null, .null, .null, .int 0, .int 0, .int 0, .int 0, .int 0, .int 0, .int 0, .int 400, .int 0, .int 0, .null, .null]))] H := hP
  have hD : va_D A [(h0, .inr (1, [.null, .null, .null, .null, .null, .null, .int 0, .int 0, .int 0, .int 0, .int 0, .int 0, .int 0, .int 400, .int 0, .int 0, .null, .null]))] := hD
  refine lv_aload_n hx hb dX1_init_9 rfl (lv_at hl 0 rfl) ?_
  refine lv_iload_n hx hb dX1_init_10 rfl (lv_at hl 1 rfl) ?_
  refine lv_iconst (v := 1) hx hb dX1_init_11 (by decide) ?_
  refine lv_iadd hx hb dX1_init_12 ?_
  refine lv_topi (fun y_1 ey_1 => ?_)
  obtain rfl : y_1 = 401 := ey_1.trans (by decide)
  refine va_newq (C := RX7) (N' := 401) hx hb hown v_5 hE.1 hK hP hD hS hA (by decide) (by decide) (Nat.le_of_ble_eq_true rfl) (Nat.le_of_ble_eq_true rfl) (Nat.le_of_ble_eq_true rfl) dX1_init_13 (fun q_2 k_3 H hK hP hD hS => ?_)
  have hP : va_P (dC, dI) vwCl [(h0, .inr (1, [.null, .null, .null, .null, .null, .null, .int 0, .int 0, .int 0, .int 0, .int 0, .int 0, .int 0, .int 400, .int 0, .int 0, .null, .null])), (q_2, .inl (k_3, 401, .inr (.inr (.inr (.inr (fun _ => none))))))] H := hP
  have hD : va_D A [(h0, .inr (1, [.null, .null, .null, .null, .null, .null, .int 0, .int 0, .int 0, .int 0, .int 0, .int 0, .int 0, .int 400, .int 0, .int 0, .null, .null])), (q_2, .inl (k_3, 401, .inr (.inr (.inr (.inr (fun _ => none))))))] := hD
  have hK : va_K (dC, dI) vwCl [(k_3, .object RX7)] s := hK
  refine W.widen (k := 1) (n := 401) (by omega) (by omega) ?_
  refine va_putF (D := (dC, dI)) (ci := 1) (v := .ref q_2) (ty := .array (.object "ClockReach$Zone")) (C := RX1) (T := TX1) (N := 18) hx hb hts hiX1 tyX1 tyX1_ok nmX1 hown hK hP hD hS 0 rfl rfl 0 (by decide) v_6 (fun _ h9 => h9) rfl hin rfl (by decide +kernel) rfl rfl (Nat.le_of_ble_eq_true rfl) dX1_init_16 (fun H locs hP hD hS => ?_)
  have hP : va_P (dC, dI) vwCl [(h0, .inr (1, [.ref q_2, .null, .null, .null, .null, .null, .int 0, .int 0, .int 0, .int 0, .int 0, .int 0, .int 0, .int 400, .int 0, .int 0, .null, .null])), (q_2, .inl (k_3, 401, .inr (.inr (.inr (.inr (fun _ => none))))))] H := hP
  have hD : va_D A [(h0, .inr (1, [.ref q_2, .null, .null, .null, .null, .null, .int 0, .int 0, .int 0, .int 0, .int 0, .int 0, .int 0, .int 400, .int 0, .int 0, .null, .null])), (q_2, .inl (k_3, 401, .inr (.inr (.inr (.inr (fun _ => none))))))] := hD
  refine lv_iconst (v := 0) hx hb dX1_init_19 (by decide) ?_
  refine lv_istore_n (lv' := [(3, .int 0), (0, .ref h0), (1, .int 400), (2, .int 5)]) hx hb dX1_init_20 rfl hl (by decide) rfl (fun ls hl => ?_)
  have e00 : zs 0 0 (fun _ => 0) = fun _ => none := zs_0
  have hP : va_P (dC, dI) vwCl ([(h0, .inr (1, [.ref q_2, .null, .null, .null, .null, .null, .int 0, .int 0, .int 0, .int 0, .int 0, .int 0, .int 0, .int 400, .int 0, .int 0, .null, .null])), (q_2, .inl (k_3, 401, .inr (.inr (.inr (.inr (zs 0 0 (fun _ => 0)))))))] ++ (zp 5 25 0 (fun _ => 0) (fun _ => 0) (fun _ => k_3) q0z f0z ++ [])) H := by rw [e00]; show va_P (dC, dI) vwCl ([(h0, .inr (1, [.ref q_2, .null, .null, .null, .null, .null, .int 0, .int 0, .int 0, .int 0, .int 0, .int 0, .int 0, .int 400, .int 0, .int 0, .null, .null])), (q_2, .inl (k_3, 401, .inr (.inr (.inr (.inr (fun _ => none))))))] ++ []) H; rw [List.append_nil]; exact hP
  have hD : va_D A ([(h0, .inr (1, [.ref q_2, .null, .null, .null, .null, .null, .int 0, .int 0, .int 0, .int 0, .int 0, .int 0, .int 0, .int 400, .int 0, .int 0, .null, .null])), (q_2, .inl (k_3, 401, .inr (.inr (.inr (.inr (zs 0 0 (fun _ => 0)))))))] ++ (zp 5 25 0 (fun _ => 0) (fun _ => 0) (fun _ => k_3) q0z f0z ++ [])) := by rw [e00]; show va_D A ([(h0, .inr (1, [.ref q_2, .null, .null, .null, .null, .null, .int 0, .int 0, .int 0, .int 0, .int 0, .int 0, .int 0, .int 400, .int 0, .int 0, .null, .null])), (q_2, .inl (k_3, 401, .inr (.inr (.inr (.inr (fun _ => none))))))] ++ []); rw [List.append_nil]; exact hD
  have hK : va_K (dC, dI) vwCl ([(k_3, .object RX7)] ++ (zt 0 (fun _ => k_3) ++ [])) s := by show va_K (dC, dI) vwCl ([(k_3, .object RX7)] ++ []) s; rw [List.append_nil]; exact hK
  refine pu_loop 401 (fun i H locs ls => ∃ (az_4 ac_5 : Nat → Nat) (kz_6 : Nat → ClassId), va_P (dC, dI) vwCl ([(h0, .inr (1, [.ref q_2, .null, .null, .null, .null, .null, .int 0, .int 0, .int 0, .int 0, .int 0, .int 0, .int 0, .int 400, .int 0, .int 0, .null, .null])), (q_2, .inl (k_3, 401, .inr (.inr (.inr (.inr (zs 0 i az_4))))))] ++ (zp 5 25 i az_4 ac_5 kz_6 q0z f0z ++ [])) H ∧ va_D A ([(h0, .inr (1, [.ref q_2, .null, .null, .null, .null, .null, .int 0, .int 0, .int 0, .int 0, .int 0, .int 0, .int 0, .int 400, .int 0, .int 0, .null, .null])), (q_2, .inl (k_3, 401, .inr (.inr (.inr (.inr (zs 0 i az_4))))))] ++ (zp 5 25 i az_4 ac_5 kz_6 q0z f0z ++ [])) ∧ va_K (dC, dI) vwCl ([(k_3, .object RX7)] ++ (zt i kz_6 ++ [])) s ∧ va_S A s.heap H locs ∧ lv_has ls 4 [(0, .ref h0), (1, .int 400), (2, .int 5), (3, .int (nI i))]) (fun i => 1 + 2 * i) (fun i => 401 + 27 * i) 21 [] ?_ ?_ _ _ _ ⟨fun _ => 0, fun _ => 0, fun _ => k_3, hP, hD, hK, hS, lv_sub hl [1, 2, 3, 0] rfl⟩
  · rintro H locs ls ⟨az_4, ac_5, kz_6, hP, hD, hK, hS, hl⟩
    refine W.widen (k := 803) (n := 11228) (by omega) (by omega) ?_
    refine lv_iload_n hx hb dX1_init_21 rfl (lv_at hl 3 rfl) ?_
    refine lv_iload_n hx hb dX1_init_22 rfl (lv_at hl 1 rfl) ?_
    refine lv_icmp_gt (tgt := 46) hx hb dX1_init_23 (by decide) (fun _ => ?_) (fun z => absurd z (by decide))
    refine lv_aload_n hx hb dX1_init_46 rfl (lv_at hl 0 rfl) ?_
    refine lv_iload_n hx hb dX1_init_47 rfl (lv_at hl 1 rfl) ?_
    refine va_newa (atype := .int) (ty := .int) (N' := 400) (a0 := (400, .inl (fun _ => 0))) hx hb v_7 rfl hK hP hD hS hA (fun _ => rfl) (by decide) (by decide) (Nat.le_of_ble_eq_true rfl) (Nat.le_of_ble_eq_true rfl) (Nat.le_of_ble_eq_true rfl) dX1_init_48 (fun q_10 k_11 H hK hP hD hS => ?_)
    have hK : va_K (dC, dI) vwCl ([(k_3, .object RX7), (k_11, .int)] ++ (zt 401 kz_6 ++ [])) s := wk_swap (a := [(k_3, .object RX7)]) (b := (zt 401 kz_6 ++ [])) (c := [(k_11, .int)]) hK
    have hP : va_P (dC, dI) vwCl ([(h0, .inr (1, [.ref q_2, .null, .null, .null, .null, .null, .int 0, .int 0, .int 0, .int 0, .int 0, .int 0, .int 0, .int 400, .int 0, .int 0, .null, .null])), (q_2, .inl (k_3, 401, .inr (.inr (.inr (.inr (zs 0 401 az_4)))))), (q_10, .inl (k_11, 400, .inl (fun _ => 0)))] ++ (zp 5 25 401 az_4 ac_5 kz_6 q0z f0z ++ [])) H := va_P.swap (a := [(h0, .inr (1, [.ref q_2, .null, .null, .null, .null, .null, .int 0, .int 0, .int 0, .int 0, .int 0, .int 0, .int 0, .int 400, .int 0, .int 0, .null, .null])), (q_2, .inl (k_3, 401, .inr (.inr (.inr (.inr (zs 0 401 az_4))))))]) (b := (zp 5 25 401 az_4 ac_5 kz_6 q0z f0z ++ [])) (c := [(q_10, .inl (k_11, 400, .inl (fun _ => 0)))]) hP
    have hD : va_D A ([(h0, .inr (1, [.ref q_2, .null, .null, .null, .null, .null, .int 0, .int 0, .int 0, .int 0, .int 0, .int 0, .int 0, .int 400, .int 0, .int 0, .null, .null])), (q_2, .inl (k_3, 401, .inr (.inr (.inr (.inr (zs 0 401 az_4)))))), (q_10, .inl (k_11, 400, .inl (fun _ => 0)))] ++ (zp 5 25 401 az_4 ac_5 kz_6 q0z f0z ++ [])) := va_D.swap (a := [(h0, .inr (1, [.ref q_2, .null, .null, .null, .null, .null, .int 0, .int 0, .int 0, .int 0, .int 0, .int 0, .int 0, .int 400, .int 0, .int 0, .null, .null])), (q_2, .inl (k_3, 401, .inr (.inr (.inr (.inr (zs 0 401 az_4))))))]) (b := (zp 5 25 401 az_4 ac_5 kz_6 q0z f0z ++ [])) (c := [(q_10, .inl (k_11, 400, .inl (fun _ => 0)))]) hD
    refine W.widen (k := 804) (n := 11628) (by omega) (by omega) ?_
    refine va_putF (D := (dC, dI)) (ci := 1) (v := .ref q_10) (ty := .array .int) (C := RX1) (T := TX1) (N := 18) hx hb hts hiX1 tyX1 tyX1_ok nmX1 hown hK hP hD hS 0 rfl rfl 1 (by decide) v_8 (fun _ h9 => h9) rfl hin rfl (by decide +kernel) rfl rfl (Nat.le_of_ble_eq_true rfl) dX1_init_50 (fun H locs hP hD hS => ?_)
    have hP : va_P (dC, dI) vwCl ([(h0, .inr (1, [.ref q_2, .ref q_10, .null, .null, .null, .null, .int 0, .int 0, .int 0, .int 0, .int 0, .int 0, .int 0, .int 400, .int 0, .int 0, .null, .null])), (q_2, .inl (k_3, 401, .inr (.inr (.inr (.inr (zs 0 401 az_4)))))), (q_10, .inl (k_11, 400, .inl (fun _ => 0)))] ++ (zp 5 25 401 az_4 ac_5 kz_6 q0z f0z ++ [])) H := hP
    have hD : va_D A ([(h0, .inr (1, [.ref q_2, .ref q_10, .null, .null, .null, .null, .int 0, .int 0, .int 0, .int 0, .int 0, .int 0, .int 0, .int 400, .int 0, .int 0, .null, .null])), (q_2, .inl (k_3, 401, .inr (.inr (.inr (.inr (zs 0 401 az_4)))))), (q_10, .inl (k_11, 400, .inl (fun _ => 0)))] ++ (zp 5 25 401 az_4 ac_5 kz_6 q0z f0z ++ [])) := hD
    refine lv_aload_n hx hb dX1_init_53 rfl (lv_at hl 0 rfl) ?_
    refine lv_iload_n hx hb dX1_init_54 rfl (lv_at hl 1 rfl) ?_
    refine va_newa (atype := .int) (ty := .int) (N' := 400) (a0 := (400, .inl (fun _ => 0))) hx hb v_7 rfl hK hP hD hS hA (fun _ => rfl) (by decide) (by decide) (Nat.le_of_ble_eq_true rfl) (Nat.le_of_ble_eq_true rfl) (Nat.le_of_ble_eq_true rfl) dX1_init_55 (fun q_12 k_13 H hK hP hD hS => ?_)
    have hK : va_K (dC, dI) vwCl ([(k_3, .object RX7), (k_11, .int), (k_13, .int)] ++ (zt 401 kz_6 ++ [])) s := wk_swap (a := [(k_3, .object RX7), (k_11, .int)]) (b := (zt 401 kz_6 ++ [])) (c := [(k_13, .int)]) hK
    have hP : va_P (dC, dI) vwCl ([(h0, .inr (1, [.ref q_2, .ref q_10, .null, .null, .null, .null, .int 0, .int 0, .int 0, .int 0, .int 0, .int 0, .int 0, .int 400, .int 0, .int 0, .null, .null])), (q_2, .inl (k_3, 401, .inr (.inr (.inr (.inr (zs 0 401 az_4)))))), (q_10, .inl (k_11, 400, .inl (fun _ => 0))), (q_12, .inl (k_13, 400, .inl (fun _ => 0)))] ++ (zp 5 25 401 az_4 ac_5 kz_6 q0z f0z ++ [])) H := va_P.swap (a := [(h0, .inr (1, [.ref q_2, .ref q_10, .null, .null, .null, .null, .int 0, .int 0, .int 0, .int 0, .int 0, .int 0, .int 0, .int 400, .int 0, .int 0, .null, .null])), (q_2, .inl (k_3, 401, .inr (.inr (.inr (.inr (zs 0 401 az_4)))))), (q_10, .inl (k_11, 400, .inl (fun _ => 0)))]) (b := (zp 5 25 401 az_4 ac_5 kz_6 q0z f0z ++ [])) (c := [(q_12, .inl (k_13, 400, .inl (fun _ => 0)))]) hP
    have hD : va_D A ([(h0, .inr (1, [.ref q_2, .ref q_10, .null, .null, .null, .null, .int 0, .int 0, .int 0, .int 0, .int 0, .int 0, .int 0, .int 400, .int 0, .int 0, .null, .null])), (q_2, .inl (k_3, 401, .inr (.inr (.inr (.inr (zs 0 401 az_4)))))), (q_10, .inl (k_11, 400, .inl (fun _ => 0))), (q_12, .inl (k_13, 400, .inl (fun _ => 0)))] ++ (zp 5 25 401 az_4 ac_5 kz_6 q0z f0z ++ [])) := va_D.swap (a := [(h0, .inr (1, [.ref q_2, .ref q_10, .null, .null, .null, .null, .int 0, .int 0, .int 0, .int 0, .int 0, .int 0, .int 0, .int 400, .int 0, .int 0, .null, .null])), (q_2, .inl (k_3, 401, .inr (.inr (.inr (.inr (zs 0 401 az_4)))))), (q_10, .inl (k_11, 400, .inl (fun _ => 0)))]) (b := (zp 5 25 401 az_4 ac_5 kz_6 q0z f0z ++ [])) (c := [(q_12, .inl (k_13, 400, .inl (fun _ => 0)))]) hD
    refine W.widen (k := 805) (n := 12028) (by omega) (by omega) ?_
    refine va_putF (D := (dC, dI)) (ci := 1) (v := .ref q_12) (ty := .array .int) (C := RX1) (T := TX1) (N := 18) hx hb hts hiX1 tyX1 tyX1_ok nmX1 hown hK hP hD hS 0 rfl rfl 2 (by decide) v_9 (fun _ h9 => h9) rfl hin rfl (by decide +kernel) rfl rfl (Nat.le_of_ble_eq_true rfl) dX1_init_57 (fun H locs hP hD hS => ?_)
    have hP : va_P (dC, dI) vwCl ([(h0, .inr (1, [.ref q_2, .ref q_10, .ref q_12, .null, .null, .null, .int 0, .int 0, .int 0, .int 0, .int 0, .int 0, .int 0, .int 400, .int 0, .int 0, .null, .null])), (q_2, .inl (k_3, 401, .inr (.inr (.inr (.inr (zs 0 401 az_4)))))), (q_10, .inl (k_11, 400, .inl (fun _ => 0))), (q_12, .inl (k_13, 400, .inl (fun _ => 0)))] ++ (zp 5 25 401 az_4 ac_5 kz_6 q0z f0z ++ [])) H := hP
    have hD : va_D A ([(h0, .inr (1, [.ref q_2, .ref q_10, .ref q_12, .null, .null, .null, .int 0, .int 0, .int 0, .int 0, .int 0, .int 0, .int 0, .int 400, .int 0, .int 0, .null, .null])), (q_2, .inl (k_3, 401, .inr (.inr (.inr (.inr (zs 0 401 az_4)))))), (q_10, .inl (k_11, 400, .inl (fun _ => 0))), (q_12, .inl (k_13, 400, .inl (fun _ => 0)))] ++ (zp 5 25 401 az_4 ac_5 kz_6 q0z f0z ++ [])) := hD
    refine lv_aload_n hx hb dX1_init_60 rfl (lv_at hl 0 rfl) ?_
    refine lv_iload_n hx hb dX1_init_61 rfl (lv_at hl 1 rfl) ?_
    refine va_newa (atype := .int) (ty := .int) (N' := 400) (a0 := (400, .inl (fun _ => 0))) hx hb v_7 rfl hK hP hD hS hA (fun _ => rfl) (by decide) (by decide) (Nat.le_of_ble_eq_true rfl) (Nat.le_of_ble_eq_true rfl) (Nat.le_of_ble_eq_true rfl) dX1_init_62 (fun q_14 k_15 H hK hP hD hS => ?_)
    have hK : va_K (dC, dI) vwCl ([(k_3, .object RX7), (k_11, .int), (k_13, .int), (k_15, .int)] ++ (zt 401 kz_6 ++ [])) s := wk_swap (a := [(k_3, .object RX7), (k_11, .int), (k_13, .int)]) (b := (zt 401 kz_6 ++ [])) (c := [(k_15, .int)]) hK
    have hP : va_P (dC, dI) vwCl ([(h0, .inr (1, [.ref q_2, .ref q_10, .ref q_12, .null, .null, .null, .int 0, .int 0, .int 0, .int 0, .int 0, .int 0, .int 0, .int 400, .int 0, .int 0, .null, .null])), (q_2, .inl (k_3, 401, .inr (.inr (.inr (.inr (zs 0 401 az_4)))))), (q_10, .inl (k_11, 400, .inl (fun _ => 0))), (q_12, .inl (k_13, 400, .inl (fun _ => 0))), (q_14, .inl (k_15, 400, .inl (fun _ => 0)))] ++ (zp 5 25 401 az_4 ac_5 kz_6 q0z f0z ++ [])) H := va_P.swap (a := [(h0, .inr (1, [.ref q_2, .ref q_10, .ref q_12, .null, .null, .null, .int 0, .int 0, .int 0, .int 0, .int 0, .int 0, .int 0, .int 400, .int 0, .int 0, .null, .null])), (q_2, .inl (k_3, 401, .inr (.inr (.inr (.inr (zs 0 401 az_4)))))), (q_10, .inl (k_11, 400, .inl (fun _ => 0))), (q_12, .inl (k_13, 400, .inl (fun _ => 0)))]) (b := (zp 5 25 401 az_4 ac_5 kz_6 q0z f0z ++ [])) (c := [(q_14, .inl (k_15, 400, .inl (fun _ => 0)))]) hP
    have hD : va_D A ([(h0, .inr (1, [.ref q_2, .ref q_10, .ref q_12, .null, .null, .null, .int 0, .int 0, .int 0, .int 0, .int 0, .int 0, .int 0, .int 400, .int 0, .int 0, .null, .null])), (q_2, .inl (k_3, 401, .inr (.inr (.inr (.inr (zs 0 401 az_4)))))), (q_10, .inl (k_11, 400, .inl (fun _ => 0))), (q_12, .inl (k_13, 400, .inl (fun _ => 0))), (q_14, .inl (k_15, 400, .inl (fun _ => 0)))] ++ (zp 5 25 401 az_4 ac_5 kz_6 q0z f0z ++ [])) := va_D.swap (a := [(h0, .inr (1, [.ref q_2, .ref q_10, .ref q_12, .null, .null, .null, .int 0, .int 0, .int 0, .int 0, .int 0, .int 0, .int 0, .int 400, .int 0, .int 0, .null, .null])), (q_2, .inl (k_3, 401, .inr (.inr (.inr (.inr (zs 0 401 az_4)))))), (q_10, .inl (k_11, 400, .inl (fun _ => 0))), (q_12, .inl (k_13, 400, .inl (fun _ => 0)))]) (b := (zp 5 25 401 az_4 ac_5 kz_6 q0z f0z ++ [])) (c := [(q_14, .inl (k_15, 400, .inl (fun _ => 0)))]) hD
    refine W.widen (k := 806) (n := 12428) (by omega) (by omega) ?_
    refine va_putF (D := (dC, dI)) (ci := 1) (v := .ref q_14) (ty := .array .int) (C := RX1) (T := TX1) (N := 18) hx hb hts hiX1 tyX1 tyX1_ok nmX1 hown hK hP hD hS 0 rfl rfl 3 (by decide) v_10 (fun _ h9 => h9) rfl hin rfl (by decide +kernel) rfl rfl (Nat.le_of_ble_eq_true rfl) dX1_init_64 (fun H locs hP hD hS => ?_)
    have hP : va_P (dC, dI) vwCl ([(h0, .inr (1, [.ref q_2, .ref q_10, .ref q_12, .ref q_14, .null, .null, .int 0, .int 0, .int 0, .int 0, .int 0, .int 0, .int 0, .int 400, .int 0, .int 0, .null, .null])), (q_2, .inl (k_3, 401, .inr (.inr (.inr (.inr (zs 0 401 az_4)))))), (q_10, .inl (k_11, 400, .inl (fun _ => 0))), (q_12, .inl (k_13, 400, .inl (fun _ => 0))), (q_14, .inl (k_15, 400, .inl (fun _ => 0)))] ++ (zp 5 25 401 az_4 ac_5 kz_6 q0z f0z ++ [])) H := hP
    have hD : va_D A ([(h0, .inr (1, [.ref q_2, .ref q_10, .ref q_12, .ref q_14, .null, .null, .int 0, .int 0, .int 0, .int 0, .int 0, .int 0, .int 0, .int 400, .int 0, .int 0, .null, .null])), (q_2, .inl (k_3, 401, .inr (.inr (.inr (.inr (zs 0 401 az_4)))))), (q_10, .inl (k_11, 400, .inl (fun _ => 0))), (q_12, .inl (k_13, 400, .inl (fun _ => 0))), (q_14, .inl (k_15, 400, .inl (fun _ => 0)))] ++ (zp 5 25 401 az_4 ac_5 kz_6 q0z f0z ++ [])) := hD
    refine lv_aload_n hx hb dX1_init_67 rfl (lv_at hl 0 rfl) ?_
    refine lv_iload_n hx hb dX1_init_68 rfl (lv_at hl 1 rfl) ?_
    refine va_newa (atype := .int) (ty := .int) (N' := 400) (a0 := (400, .inl (fun _ => 0))) hx hb v_7 rfl hK hP hD hS hA (fun _ => rfl) (by decide) (by decide) (Nat.le_of_ble_eq_true rfl) (Nat.le_of_ble_eq_true rfl) (Nat.le_of_ble_eq_true rfl) dX1_init_69 (fun q_16 k_17 H hK hP hD hS => ?_)
    have hK : va_K (dC, dI) vwCl ([(k_3, .object RX7), (k_11, .int), (k_13, .int), (k_15, .int), (k_17, .int)] ++ (zt 401 kz_6 ++ [])) s := wk_swap (a := [(k_3, .object RX7), (k_11, .int), (k_13, .int), (k_15, .int)]) (b := (zt 401 kz_6 ++ [])) (c := [(k_17, .int)]) hK
    have hP : va_P (dC, dI) vwCl ([(h0, .inr (1, [.ref q_2, .ref q_10, .ref q_12, .ref q_14, .null, .null, .int 0, .int 0, .int 0, .int 0, .int 0, .int 0, .int 0, .int 400, .int 0, .int 0, .null, .null])), (q_2, .inl (k_3, 401, .inr (.inr (.inr (.inr (zs 0 401 az_4)))))), (q_10, .inl (k_11, 400, .inl (fun _ => 0))), (q_12, .inl (k_13, 400, .inl (fun _ => 0))), (q_14, .inl (k_15, 400, .inl (fun _ => 0))), (q_16, .inl (k_17, 400, .inl (fun _ => 0)))] ++ (zp 5 25 401 az_4 ac_5 kz_6 q0z f0z ++ [])) H := va_P.swap (a := [(h0, .inr (1, [.ref q_2, .ref q_10, .ref q_12, .ref q_14, .null, .null, .int 0, .int 0, .int 0, .int 0, .int 0, .int 0, .int 0, .int 400, .int 0, .int 0, .null, .null])), (q_2, .inl (k_3, 401, .inr (.inr (.inr (.inr (zs 0 401 az_4)))))), (q_10, .inl (k_11, 400, .inl (fun _ => 0))), (q_12, .inl (k_13, 400, .inl (fun _ => 0))), (q_14, .inl (k_15, 400, .inl (fun _ => 0)))]) (b := (zp 5 25 401 az_4 ac_5 kz_6 q0z f0z ++ [])) (c := [(q_16, .inl (k_17, 400, .inl (fun _ => 0)))]) hP
    have hD : va_D A ([(h0, .inr (1, [.ref q_2, .ref q_10, .ref q_12, .ref q_14, .null, .null, .int 0, .int 0, .int 0, .int 0, .int 0, .int 0, .int 0, .int 400, .int 0, .int 0, .null, .null])), (q_2, .inl (k_3, 401, .inr (.inr (.inr (.inr (zs 0 401 az_4)))))), (q_10, .inl (k_11, 400, .inl (fun _ => 0))), (q_12, .inl (k_13, 400, .inl (fun _ => 0))), (q_14, .inl (k_15, 400, .inl (fun _ => 0))), (q_16, .inl (k_17, 400, .inl (fun _ => 0)))] ++ (zp 5 25 401 az_4 ac_5 kz_6 q0z f0z ++ [])) := va_D.swap (a := [(h0, .inr (1, [.ref q_2, .ref q_10, .ref q_12, .ref q_14, .null, .null, .int 0, .int 0, .int 0, .int 0, .int 0, .int 0, .int 0, .int 400, .int 0, .int 0, .null, .null])), (q_2, .inl (k_3, 401, .inr (.inr (.inr (.inr (zs 0 401 az_4)))))), (q_10, .inl (k_11, 400, .inl (fun _ => 0))), (q_12, .inl (k_13, 400, .inl (fun _ => 0))), (q_14, .inl (k_15, 400, .inl (fun _ => 0)))]) (b := (zp 5 25 401 az_4 ac_5 kz_6 q0z f0z ++ [])) (c := [(q_16, .inl (k_17, 400, .inl (fun _ => 0)))]) hD
    refine W.widen (k := 807) (n := 12828) (by omega) (by omega) ?_
    refine va_putF (D := (dC, dI)) (ci := 1) (v := .ref q_16) (ty := .array .int) (C := RX1) (T := TX1) (N := 18) hx hb hts hiX1 tyX1 tyX1_ok nmX1 hown hK hP hD hS 0 rfl rfl 4 (by decide) v_11 (fun _ h9 => h9) rfl hin rfl (by decide +kernel) rfl rfl (Nat.le_of_ble_eq_true rfl) dX1_init_71 (fun H locs hP hD hS => ?_)
    have hP : va_P (dC, dI) vwCl ([(h0, .inr (1, [.ref q_2, .ref q_10, .ref q_12, .ref q_14, .ref q_16, .null, .int 0, .int 0, .int 0, .int 0, .int 0, .int 0, .int 0, .int 400, .int 0, .int 0, .null, .null])), (q_2, .inl (k_3, 401, .inr (.inr (.inr (.inr (zs 0 401 az_4)))))), (q_10, .inl (k_11, 400, .inl (fun _ => 0))), (q_12, .inl (k_13, 400, .inl (fun _ => 0))), (q_14, .inl (k_15, 400, .inl (fun _ => 0))), (q_16, .inl (k_17, 400, .inl (fun _ => 0)))] ++ (zp 5 25 401 az_4 ac_5 kz_6 q0z f0z ++ [])) H := hP
    have hD : va_D A ([(h0, .inr (1, [.ref q_2, .ref q_10, .ref q_12, .ref q_14, .ref q_16, .null, .int 0, .int 0, .int 0, .int 0, .int 0, .int 0, .int 0, .int 400, .int 0, .int 0, .null, .null])), (q_2, .inl (k_3, 401, .inr (.inr (.inr (.inr (zs 0 401 az_4)))))), (q_10, .inl (k_11, 400, .inl (fun _ => 0))), (q_12, .inl (k_13, 400, .inl (fun _ => 0))), (q_14, .inl (k_15, 400, .inl (fun _ => 0))), (q_16, .inl (k_17, 400, .inl (fun _ => 0)))] ++ (zp 5 25 401 az_4 ac_5 kz_6 q0z f0z ++ [])) := hD
    refine lv_aload_n hx hb dX1_init_74 rfl (lv_at hl 0 rfl) ?_
    refine lv_iload_n hx hb dX1_init_75 rfl (lv_at hl 1 rfl) ?_
    refine va_newa (atype := .int) (ty := .int) (N' := 400) (a0 := (400, .inl (fun _ => 0))) hx hb v_7 rfl hK hP hD hS hA (fun _ => rfl) (by decide) (by decide) (Nat.le_of_ble_eq_true rfl) (Nat.le_of_ble_eq_true rfl) (Nat.le_of_ble_eq_true rfl) dX1_init_76 (fun q_18 k_19 H hK hP hD hS => ?_)
    have hK : va_K (dC, dI) vwCl ([(k_3, .object RX7), (k_11, .int), (k_13, .int), (k_15, .int), (k_17, .int), (k_19, .int)] ++ (zt 401 kz_6 ++ [])) s := wk_swap (a := [(k_3, .object RX7), (k_11, .int), (k_13, .int), (k_15, .int), (k_17, .int)]) (b := (zt 401 kz_6 ++ [])) (c := [(k_19, .int)]) hK
    have hP : va_P (dC, dI) vwCl ([(h0, .inr (1, [.ref q_2, .ref q_10, .ref q_12, .ref q_14, .ref q_16, .null, .int 0, .int 0, .int 0, .int 0, .int 0, .int 0, .int 0, .int 400, .int 0, .int 0, .null, .null])), (q_2, .inl (k_3, 401, .inr (.inr (.inr (.inr (zs 0 401 az_4)))))), (q_10, .inl (k_11, 400, .inl (fun _ => 0))), (q_12, .inl (k_13, 400, .inl (fun _ => 0))), (q_14, .inl (k_15, 400, .inl (fun _ => 0))), (q_16, .inl (k_17, 400, .inl (fun _ => 0))), (q_18, .inl (k_19, 400, .inl (fun _ => 0)))] ++ (zp 5 25 401 az_4 ac_5 kz_6 q0z f0z ++ [])) H := va_P.swap (a := [(h0, .inr (1, [.ref q_2, .ref q_10, .ref q_12, .ref q_14, .ref q_16, .null, .int 0, .int 0, .int 0, .int 0, .int 0, .int 0, .int 0, .int 400, .int 0, .int 0, .null, .null])), (q_2, .inl (k_3, 401, .inr (.inr (.inr (.inr (zs 0 401 az_4)))))), (q_10, .inl (k_11, 400, .inl (fun _ => 0))), (q_12, .inl (k_13, 400, .inl (fun _ => 0))), (q_14, .inl (k_15, 400, .inl (fun _ => 0))), (q_16, .inl (k_17, 400, .inl (fun _ => 0)))]) (b := (zp 5 25 401 az_4 ac_5 kz_6 q0z f0z ++ [])) (c := [(q_18, .inl (k_19, 400, .inl (fun _ => 0)))]) hP
    have hD : va_D A ([(h0, .inr (1, [.ref q_2, .ref q_10, .ref q_12, .ref q_14, .ref q_16, .null, .int 0, .int 0, .int 0, .int 0, .int 0, .int 0, .int 0, .int 400, .int 0, .int 0, .null, .null])), (q_2, .inl (k_3, 401, .inr (.inr (.inr (.inr (zs 0 401 az_4)))))), (q_10, .inl (k_11, 400, .inl (fun _ => 0))), (q_12, .inl (k_13, 400, .inl (fun _ => 0))), (q_14, .inl (k_15, 400, .inl (fun _ => 0))), (q_16, .inl (k_17, 400, .inl (fun _ => 0))), (q_18, .inl (k_19, 400, .inl (fun _ => 0)))] ++ (zp 5 25 401 az_4 ac_5 kz_6 q0z f0z ++ [])) := va_D.swap (a := [(h0, .inr (1, [.ref q_2, .ref q_10, .ref q_12, .ref q_14, .ref q_16, .null, .int 0, .int 0, .int 0, .int 0, .int 0, .int 0, .int 0, .int 400, .int 0, .int 0, .null, .null])), (q_2, .inl (k_3, 401, .inr (.inr (.inr (.inr (zs 0 401 az_4)))))), (q_10, .inl (k_11, 400, .inl (fun _ => 0))), (q_12, .inl (k_13, 400, .inl (fun _ => 0))), (q_14, .inl (k_15, 400, .inl (fun _ => 0))), (q_16, .inl (k_17, 400, .inl (fun _ => 0)))]) (b := (zp 5 25 401 az_4 ac_5 kz_6 q0z f0z ++ [])) (c := [(q_18, .inl (k_19, 400, .inl (fun _ => 0)))]) hD
    refine W.widen (k := 808) (n := 13228) (by omega) (by omega) ?_
    refine va_putF (D := (dC, dI)) (ci := 1) (v := .ref q_18) (ty := .array .int) (C := RX1) (T := TX1) (N := 18) hx hb hts hiX1 tyX1 tyX1_ok nmX1 hown hK hP hD hS 0 rfl rfl 5 (by decide) v_12 (fun _ h9 => h9) rfl hin rfl (by decide +kernel) rfl rfl (Nat.le_of_ble_eq_true rfl) dX1_init_78 (fun H locs hP hD hS => ?_)
    have hP : va_P (dC, dI) vwCl ([(h0, .inr (1, [.ref q_2, .ref q_10, .ref q_12, .ref q_14, .ref q_16, .ref q_18, .int 0, .int 0, .int 0, .int 0, .int 0, .int 0, .int 0, .int 400, .int 0, .int 0, .null, .null])), (q_2, .inl (k_3, 401, .inr (.inr (.inr (.inr (zs 0 401 az_4)))))), (q_10, .inl (k_11, 400, .inl (fun _ => 0))), (q_12, .inl (k_13, 400, .inl (fun _ => 0))), (q_14, .inl (k_15, 400, .inl (fun _ => 0))), (q_16, .inl (k_17, 400, .inl (fun _ => 0))), (q_18, .inl (k_19, 400, .inl (fun _ => 0)))] ++ (zp 5 25 401 az_4 ac_5 kz_6 q0z f0z ++ [])) H := hP
    have hD : va_D A ([(h0, .inr (1, [.ref q_2, .ref q_10, .ref q_12, .ref q_14, .ref q_16, .ref q_18, .int 0, .int 0, .int 0, .int 0, .int 0, .int 0, .int 0, .int 400, .int 0, .int 0, .null, .null])), (q_2, .inl (k_3, 401, .inr (.inr (.inr (.inr (zs 0 401 az_4)))))), (q_10, .inl (k_11, 400, .inl (fun _ => 0))), (q_12, .inl (k_13, 400, .inl (fun _ => 0))), (q_14, .inl (k_15, 400, .inl (fun _ => 0))), (q_16, .inl (k_17, 400, .inl (fun _ => 0))), (q_18, .inl (k_19, 400, .inl (fun _ => 0)))] ++ (zp 5 25 401 az_4 ac_5 kz_6 q0z f0z ++ [])) := hD
    refine lv_aload_n hx hb dX1_init_81 rfl (lv_at hl 0 rfl) ?_
    refine lv_iconst (v := 5) hx hb dX1_init_82 (by decide) ?_
    refine va_newa (atype := .int) (ty := .int) (N' := 5) (a0 := (5, .inl (fun _ => 0))) hx hb v_7 rfl hK hP hD hS hA (fun _ => rfl) (by decide) (by decide) (Nat.le_of_ble_eq_true rfl) (Nat.le_of_ble_eq_true rfl) (Nat.le_of_ble_eq_true rfl) dX1_init_83 (fun q_20 k_21 H hK hP hD hS => ?_)
    have hK : va_K (dC, dI) vwCl ([(k_3, .object RX7), (k_11, .int), (k_13, .int), (k_15, .int), (k_17, .int), (k_19, .int), (k_21, .int)] ++ (zt 401 kz_6 ++ [])) s := wk_swap (a := [(k_3, .object RX7), (k_11, .int), (k_13, .int), (k_15, .int), (k_17, .int), (k_19, .int)]) (b := (zt 401 kz_6 ++ [])) (c := [(k_21, .int)]) hK
    have hP : va_P (dC, dI) vwCl ([(h0, .inr (1, [.ref q_2, .ref q_10, .ref q_12, .ref q_14, .ref q_16, .ref q_18, .int 0, .int 0, .int 0, .int 0, .int 0, .int 0, .int 0, .int 400, .int 0, .int 0, .null, .null])), (q_2, .inl (k_3, 401, .inr (.inr (.inr (.inr (zs 0 401 az_4)))))), (q_10, .inl (k_11, 400, .inl (fun _ => 0))), (q_12, .inl (k_13, 400, .inl (fun _ => 0))), (q_14, .inl (k_15, 400, .inl (fun _ => 0))), (q_16, .inl (k_17, 400, .inl (fun _ => 0))), (q_18, .inl (k_19, 400, .inl (fun _ => 0))), (q_20, .inl (k_21, 5, .inl (fun _ => 0)))] ++ (zp 5 25 401 az_4 ac_5 kz_6 q0z f0z ++ [])) H := va_P.swap (a := [(h0, .inr (1, [.ref q_2, .ref q_10, .ref q_12, .ref q_14, .ref q_16, .ref q_18, .int 0, .int 0, .int 0, .int 0, .int 0, .int 0, .int 0, .int 400, .int 0, .int 0, .null, .null])), (q_2, .inl (k_3, 401, .inr (.inr (.inr (.inr (zs 0 401 az_4)))))), (q_10, .inl (k_11, 400, .inl (fun _ => 0))), (q_12, .inl (k_13, 400, .inl (fun _ => 0))), (q_14, .inl (k_15, 400, .inl (fun _ => 0))), (q_16, .inl (k_17, 400, .inl (fun _ => 0))), (q_18, .inl (k_19, 400, .inl (fun _ => 0)))]) (b := (zp 5 25 401 az_4 ac_5 kz_6 q0z f0z ++ [])) (c := [(q_20, .inl (k_21, 5, .inl (fun _ => 0)))]) hP
    have hD : va_D A ([(h0, .inr (1, [.ref q_2, .ref q_10, .ref q_12, .ref q_14, .ref q_16, .ref q_18, .int 0, .int 0, .int 0, .int 0, .int 0, .int 0, .int 0, .int 400, .int 0, .int 0, .null, .null])), (q_2, .inl (k_3, 401, .inr (.inr (.inr (.inr (zs 0 401 az_4)))))), (q_10, .inl (k_11, 400, .inl (fun _ => 0))), (q_12, .inl (k_13, 400, .inl (fun _ => 0))), (q_14, .inl (k_15, 400, .inl (fun _ => 0))), (q_16, .inl (k_17, 400, .inl (fun _ => 0))), (q_18, .inl (k_19, 400, .inl (fun _ => 0))), (q_20, .inl (k_21, 5, .inl (fun _ => 0)))] ++ (zp 5 25 401 az_4 ac_5 kz_6 q0z f0z ++ [])) := va_D.swap (a := [(h0, .inr (1, [.ref q_2, .ref q_10, .ref q_12, .ref q_14, .ref q_16, .ref q_18, .int 0, .int 0, .int 0, .int 0, .int 0, .int 0, .int 0, .int 400, .int 0, .int 0, .null, .null])), (q_2, .inl (k_3, 401, .inr (.inr (.inr (.inr (zs 0 401 az_4)))))), (q_10, .inl (k_11, 400, .inl (fun _ => 0))), (q_12, .inl (k_13, 400, .inl (fun _ => 0))), (q_14, .inl (k_15, 400, .inl (fun _ => 0))), (q_16, .inl (k_17, 400, .inl (fun _ => 0))), (q_18, .inl (k_19, 400, .inl (fun _ => 0)))]) (b := (zp 5 25 401 az_4 ac_5 kz_6 q0z f0z ++ [])) (c := [(q_20, .inl (k_21, 5, .inl (fun _ => 0)))]) hD
    refine W.widen (k := 809) (n := 13233) (by omega) (by omega) ?_
    refine va_putF (D := (dC, dI)) (ci := 1) (v := .ref q_20) (ty := .array .int) (C := RX1) (T := TX1) (N := 18) hx hb hts hiX1 tyX1 tyX1_ok nmX1 hown hK hP hD hS 0 rfl rfl 16 (by decide) v_13 (fun _ h9 => h9) rfl hin rfl (by decide +kernel) rfl rfl (Nat.le_of_ble_eq_true rfl) dX1_init_85 (fun H locs hP hD hS => ?_)
    have hP : va_P (dC, dI) vwCl ([(h0, .inr (1, [.ref q_2, .ref q_10, .ref q_12, .ref q_14, .ref q_16, .ref q_18, .int 0, .int 0, .int 0, .int 0, .int 0, .int 0, .int 0, .int 400, .int 0, .int 0, .ref q_20, .null])), (q_2, .inl (k_3, 401, .inr (.inr (.inr (.inr (zs 0 401 az_4)))))), (q_10, .inl (k_11, 400, .inl (fun _ => 0))), (q_12, .inl (k_13, 400, .inl (fun _ => 0))), (q_14, .inl (k_15, 400, .inl (fun _ => 0))), (q_16, .inl (k_17, 400, .inl (fun _ => 0))), (q_18, .inl (k_19, 400, .inl (fun _ => 0))), (q_20, .inl (k_21, 5, .inl (fun _ => 0)))] ++ (zp 5 25 401 az_4 ac_5 kz_6 q0z f0z ++ [])) H := hP
    have hD : va_D A ([(h0, .inr (1, [.ref q_2, .ref q_10, .ref q_12, .ref q_14, .ref q_16, .ref q_18, .int 0, .int 0, .int 0, .int 0, .int 0, .int 0, .int 0, .int 400, .int 0, .int 0, .ref q_20, .null])), (q_2, .inl (k_3, 401, .inr (.inr (.inr (.inr (zs 0 401 az_4)))))), (q_10, .inl (k_11, 400, .inl (fun _ => 0))), (q_12, .inl (k_13, 400, .inl (fun _ => 0))), (q_14, .inl (k_15, 400, .inl (fun _ => 0))), (q_16, .inl (k_17, 400, .inl (fun _ => 0))), (q_18, .inl (k_19, 400, .inl (fun _ => 0))), (q_20, .inl (k_21, 5, .inl (fun _ => 0)))] ++ (zp 5 25 401 az_4 ac_5 kz_6 q0z f0z ++ [])) := hD
    refine lv_aload_n hx hb dX1_init_88 rfl (lv_at hl 0 rfl) ?_
    refine lv_iconst (v := 5) hx hb dX1_init_89 (by decide) ?_
    refine va_newa (atype := .int) (ty := .int) (N' := 5) (a0 := (5, .inl (fun _ => 0))) hx hb v_7 rfl hK hP hD hS hA (fun _ => rfl) (by decide) (by decide) (Nat.le_of_ble_eq_true rfl) (Nat.le_of_ble_eq_true rfl) (Nat.le_of_ble_eq_true rfl) dX1_init_90 (fun q_22 k_23 H hK hP hD hS => ?_)
    have hK : va_K (dC, dI) vwCl ([(k_3, .object RX7), (k_11, .int), (k_13, .int), (k_15, .int), (k_17, .int), (k_19, .int), (k_21, .int), (k_23, .int)] ++ (zt 401 kz_6 ++ [])) s := wk_swap (a := [(k_3, .object RX7), (k_11, .int), (k_13, .int), (k_15, .int), (k_17, .int), (k_19, .int), (k_21, .int)]) (b := (zt 401 kz_6 ++ [])) (c := [(k_23, .int)]) hK
    have hP : va_P (dC, dI) vwCl ([(h0, .inr (1, [.ref q_2, .ref q_10, .ref q_12, .ref q_14, .ref q_16, .ref q_18, .int 0, .int 0, .int 0, .int 0, .int 0, .int 0, .int 0, .int 400, .int 0, .int 0, .ref q_20, .null])), (q_2, .inl (k_3, 401, .inr (.inr (.inr (.inr (zs 0 401 az_4)))))), (q_10, .inl (k_11, 400, .inl (fun _ => 0))), (q_12, .inl (k_13, 400, .inl (fun _ => 0))), (q_14, .inl (k_15, 400, .inl (fun _ => 0))), (q_16, .inl (k_17, 400, .inl (fun _ => 0))), (q_18, .inl (k_19, 400, .inl (fun _ => 0))), (q_20, .inl (k_21, 5, .inl (fun _ => 0))), (q_22, .inl (k_23, 5, .inl (fun _ => 0)))] ++ (zp 5 25 401 az_4 ac_5 kz_6 q0z f0z ++ [])) H := va_P.swap (a := [(h0, .inr (1, [.ref q_2, .ref q_10, .ref q_12, .ref q_14, .ref q_16, .ref q_18, .int 0, .int 0, .int 0, .int 0, .int 0, .int 0, .int 0, .int 400, .int 0, .int 0, .ref q_20, .null])), (q_2, .inl (k_3, 401, .inr (.inr (.inr (.inr (zs 0 401 az_4)))))), (q_10, .inl (k_11, 400, .inl (fun _ => 0))), (q_12, .inl (k_13, 400, .inl (fun _ => 0))), (q_14, .inl (k_15, 400, .inl (fun _ => 0))), (q_16, .inl (k_17, 400, .inl (fun _ => 0))), (q_18, .inl (k_19, 400, .inl (fun _ => 0))), (q_20, .inl (k_21, 5, .inl (fun _ => 0)))]) (b := (zp 5 25 401 az_4 ac_5 kz_6 q0z f0z ++ [])) (c := [(q_22, .inl (k_23, 5, .inl (fun _ => 0)))]) hP
    have hD : va_D A ([(h0, .inr (1, [.ref q_2, .ref q_10, .ref q_12, .ref q_14, .ref q_16, .ref q_18, .int 0, .int 0, .int 0, .int 0, .int 0, .int 0, .int 0, .int 400, .int 0, .int 0, .ref q_20, .null])), (q_2, .inl (k_3, 401, .inr (.inr (.inr (.inr (zs 0 401 az_4)))))), (q_10, .inl (k_11, 400, .inl (fun _ => 0))), (q_12, .inl (k_13, 400, .inl (fun _ => 0))), (q_14, .inl (k_15, 400, .inl (fun _ => 0))), (q_16, .inl (k_17, 400, .inl (fun _ => 0))), (q_18, .inl (k_19, 400, .inl (fun _ => 0))), (q_20, .inl (k_21, 5, .inl (fun _ => 0))), (q_22, .inl (k_23, 5, .inl (fun _ => 0)))] ++ (zp 5 25 401 az_4 ac_5 kz_6 q0z f0z ++ [])) := va_D.swap (a := [(h0, .inr (1, [.ref q_2, .ref q_10, .ref q_12, .ref q_14, .ref q_16, .ref q_18, .int 0, .int 0, .int 0, .int 0, .int 0, .int 0, .int 0, .int 400, .int 0, .int 0, .ref q_20, .null])), (q_2, .inl (k_3, 401, .inr (.inr (.inr (.inr (zs 0 401 az_4)))))), (q_10, .inl (k_11, 400, .inl (fun _ => 0))), (q_12, .inl (k_13, 400, .inl (fun _ => 0))), (q_14, .inl (k_15, 400, .inl (fun _ => 0))), (q_16, .inl (k_17, 400, .inl (fun _ => 0))), (q_18, .inl (k_19, 400, .inl (fun _ => 0))), (q_20, .inl (k_21, 5, .inl (fun _ => 0)))]) (b := (zp 5 25 401 az_4 ac_5 kz_6 q0z f0z ++ [])) (c := [(q_22, .inl (k_23, 5, .inl (fun _ => 0)))]) hD
    refine W.widen (k := 810) (n := 13238) (by omega) (by omega) ?_
    refine va_putF (D := (dC, dI)) (ci := 1) (v := .ref q_22) (ty := .array .int) (C := RX1) (T := TX1) (N := 18) hx hb hts hiX1 tyX1 tyX1_ok nmX1 hown hK hP hD hS 0 rfl rfl 17 (by decide) v_14 (fun _ h9 => h9) rfl hin rfl (by decide +kernel) rfl rfl (Nat.le_of_ble_eq_true rfl) dX1_init_92 (fun H locs hP hD hS => ?_)
    have hP : va_P (dC, dI) vwCl ([(h0, .inr (1, [.ref q_2, .ref q_10, .ref q_12, .ref q_14, .ref q_16, .ref q_18, .int 0, .int 0, .int 0, .int 0, .int 0, .int 0, .int 0, .int 400, .int 0, .int 0, .ref q_20, .ref q_22])), (q_2, .inl (k_3, 401, .inr (.inr (.inr (.inr (zs 0 401 az_4)))))), (q_10, .inl (k_11, 400, .inl (fun _ => 0))), (q_12, .inl (k_13, 400, .inl (fun _ => 0))), (q_14, .inl (k_15, 400, .inl (fun _ => 0))), (q_16, .inl (k_17, 400, .inl (fun _ => 0))), (q_18, .inl (k_19, 400, .inl (fun _ => 0))), (q_20, .inl (k_21, 5, .inl (fun _ => 0))), (q_22, .inl (k_23, 5, .inl (fun _ => 0)))] ++ (zp 5 25 401 az_4 ac_5 kz_6 q0z f0z ++ [])) H := hP
    have hD : va_D A ([(h0, .inr (1, [.ref q_2, .ref q_10, .ref q_12, .ref q_14, .ref q_16, .ref q_18, .int 0, .int 0, .int 0, .int 0, .int 0, .int 0, .int 0, .int 400, .int 0, .int 0, .ref q_20, .ref q_22])), (q_2, .inl (k_3, 401, .inr (.inr (.inr (.inr (zs 0 401 az_4)))))), (q_10, .inl (k_11, 400, .inl (fun _ => 0))), (q_12, .inl (k_13, 400, .inl (fun _ => 0))), (q_14, .inl (k_15, 400, .inl (fun _ => 0))), (q_16, .inl (k_17, 400, .inl (fun _ => 0))), (q_18, .inl (k_19, 400, .inl (fun _ => 0))), (q_20, .inl (k_21, 5, .inl (fun _ => 0))), (q_22, .inl (k_23, 5, .inl (fun _ => 0)))] ++ (zp 5 25 401 az_4 ac_5 kz_6 q0z f0z ++ [])) := hD
    refine W.widen (k := 810) (n := 13238) (by first | omega | exact Nat.le_of_ble_eq_true rfl) (by first | omega | exact Nat.le_of_ble_eq_true rfl) ?_
    have hP9 : va_P (dC, dI) vwCl ([(h0, .inr (1, [.ref q_2, .ref q_10, .ref q_12, .ref q_14, .ref q_16, .ref q_18, .int 0, .int 0, .int 0, .int 0, .int 0, .int 0, .int 0, .int 400, .int 0, .int 0, .ref q_20, .ref q_22])), (q_2, .inl (k_3, 401, .inr (.inr (.inr (.inr (zs 0 401 az_4)))))), (q_10, .inl (k_11, 400, .inl (fun _ => 0))), (q_12, .inl (k_13, 400, .inl (fun _ => 0))), (q_14, .inl (k_15, 400, .inl (fun _ => 0))), (q_16, .inl (k_17, 400, .inl (fun _ => 0))), (q_18, .inl (k_19, 400, .inl (fun _ => 0))), (q_20, .inl (k_21, 5, .inl (fun _ => 0))), (q_22, .inl (k_23, 5, .inl (fun _ => 0)))] ++ (zp 5 25 401 az_4 ac_5 kz_6 q0z f0z ++ [])) H := hP.part [0, 1, 2, 3, 4, 5, 6, 7, 8] rfl
    have hD9 : va_D A ([(h0, .inr (1, [.ref q_2, .ref q_10, .ref q_12, .ref q_14, .ref q_16, .ref q_18, .int 0, .int 0, .int 0, .int 0, .int 0, .int 0, .int 0, .int 400, .int 0, .int 0, .ref q_20, .ref q_22])), (q_2, .inl (k_3, 401, .inr (.inr (.inr (.inr (zs 0 401 az_4)))))), (q_10, .inl (k_11, 400, .inl (fun _ => 0))), (q_12, .inl (k_13, 400, .inl (fun _ => 0))), (q_14, .inl (k_15, 400, .inl (fun _ => 0))), (q_16, .inl (k_17, 400, .inl (fun _ => 0))), (q_18, .inl (k_19, 400, .inl (fun _ => 0))), (q_20, .inl (k_21, 5, .inl (fun _ => 0))), (q_22, .inl (k_23, 5, .inl (fun _ => 0)))] ++ (zp 5 25 401 az_4 ac_5 kz_6 q0z f0z ++ [])) := hD.part [0, 1, 2, 3, 4, 5, 6, 7, 8] (by decide) rfl
    have hK9 : va_K (dC, dI) vwCl ([(k_3, .object RX7), (k_11, .int), (k_13, .int), (k_15, .int), (k_17, .int), (k_19, .int), (k_21, .int), (k_23, .int)] ++ (zt 401 kz_6 ++ [])) s := zk_part hK [0, 1, 2, 3, 4, 5, 6, 7] rfl
    exact W.vret hx hb hr (fun t ht hW => ⟨⟨(), rfl, trivial, q_2, q_10, q_12, q_14, q_16, q_18, q_20, q_22, k_3, k_11, k_13, k_15, k_17, k_19, k_21, k_23, az_4, ac_5, kz_6, ⟨by rw [ht]; exact hP9, va_K.moved hW.alike hK9, hD9⟩⟩, hS.F ht⟩) hS.2.2 dX1_init_95
  · rintro i_7 h_8 ih_9 H locs ls ⟨az_4, ac_5, kz_6, hP, hD, hK, hS, hl⟩
    refine lv_iload_n hx hb dX1_init_21 rfl (lv_at hl 3 rfl) ?_
    refine lv_iload_n hx hb dX1_init_22 rfl (lv_at hl 1 rfl) ?_
    refine lv_icmp_gt (tgt := 46) hx hb dX1_init_23 (by decide) (fun z => absurd z (nI_nlt (a := 400) (by omega) (by decide))) (fun _ => ?_)
    refine lv_aload_n hx hb dX1_init_26 rfl (lv_at hl 0 rfl) ?_
    refine va_get (D := (dC, dI)) (ci := 1) (v := .ref q_2) (C := RX1) (T := TX1) (N := 18) hx hb hts hiX1 hown hK hP 0 rfl rfl 0 (by decide) v_6 (fun _ h9 => h9) rfl dX1_init_27 ?_
    refine lv_iload_n hx hb dX1_init_30 rfl (lv_at hl 3 rfl) ?_
    refine va_new (ci := 7) (fs := [.null, .int 0]) (C := RX7) (T := TX7) (N := 2) hx hb hts hiX7 tyX7 tyX7_ok hown v_5 v_15 v_16 hK hP hD hS hA rfl (pu_fs (by decide)) (by show _ ≤ 810; omega) (by show _ ≤ 13238; omega) dX1_init_31 (fun q_24 H hP hD hS => ?_)
    have hP : va_P (dC, dI) vwCl ([(h0, .inr (1, [.ref q_2, .null, .null, .null, .null, .null, .int 0, .int 0, .int 0, .int 0, .int 0, .int 0, .int 0, .int 400, .int 0, .int 0, .null, .null])), (q_2, .inl (k_3, 401, .inr (.inr (.inr (.inr (zs 0 i_7 az_4)))))), (q_24, .inr (7, [.null, .int 0]))] ++ (zp 5 25 i_7 az_4 ac_5 kz_6 q0z f0z ++ [])) H := va_P.swap (a := [(h0, .inr (1, [.ref q_2, .null, .null, .null, .null, .null, .int 0, .int 0, .int 0, .int 0, .int 0, .int 0, .int 0, .int 400, .int 0, .int 0, .null, .null])), (q_2, .inl (k_3, 401, .inr (.inr (.inr (.inr (zs 0 i_7 az_4))))))]) (b := (zp 5 25 i_7 az_4 ac_5 kz_6 q0z f0z ++ [])) (c := [(q_24, .inr (7, [.null, .int 0]))]) hP
    have hD : va_D A ([(h0, .inr (1, [.ref q_2, .null, .null, .null, .null, .null, .int 0, .int 0, .int 0, .int 0, .int 0, .int 0, .int 0, .int 400, .int 0, .int 0, .null, .null])), (q_2, .inl (k_3, 401, .inr (.inr (.inr (.inr (zs 0 i_7 az_4)))))), (q_24, .inr (7, [.null, .int 0]))] ++ (zp 5 25 i_7 az_4 ac_5 kz_6 q0z f0z ++ [])) := va_D.swap (a := [(h0, .inr (1, [.ref q_2, .null, .null, .null, .null, .null, .int 0, .int 0, .int 0, .int 0, .int 0, .int 0, .int 0, .int 400, .int 0, .int 0, .null, .null])), (q_2, .inl (k_3, 401, .inr (.inr (.inr (.inr (zs 0 i_7 az_4))))))]) (b := (zp 5 25 i_7 az_4 ac_5 kz_6 q0z f0z ++ [])) (c := [(q_24, .inr (7, [.null, .int 0]))]) hD
    refine W.widen (k := 2 + 2 * i_7) (n := 403 + 27 * i_7) (by omega) (by omega) ?_
    refine lv_dup hx hb dX1_init_34 rfl ?_
    refine lv_iload_n hx hb dX1_init_35 rfl (lv_at hl 2 rfl) ?_
    have hFc := va_free (wc := [(q_24, .inr (7, [.null, .int 0]))]) hD hS hA [2] rfl
    refine va_callv (va_runI (As := [.int 5]) (rest := [.ref q_24, .int (nI i_7), .ref q_2]) ⟨hx, hb, hml, hown, hts⟩ (c_X7_init_5 l dC dI _ q_24) (cwI 1 hts g_X1_init_400_X7_init_5 rfl rfl rfl v_16 v_20 v_21 rfl (by decide +kernel) ⟨Nat.le_of_ble_eq_true rfl, Nat.le_of_ble_eq_true rfl⟩) ⟨pu_bl, pu_in (hP.sub [2] rfl) (hK.sub [] rfl) (hD.sub [2] (by decide) rfl)⟩ rfl rfl hl.1 rfl (lv_room (Nat.le_of_ble_eq_true rfl)) dX1_init_36 ⟨by show _ ≤ 810; omega, by show _ ≤ 13238; omega⟩) hS (fun q _ h => hFc q h) hFc (fun u t H1 locs ht hvm hw hB hz1 hk1 hS => ?_)
    obtain ⟨q1_25, k1_26, ⟨hP1, hK1, hD1⟩⟩ := hB
    rw [ht] at hP1
    have hK1 := va_K.moved hvm.symm hK1
    obtain ⟨hP, hD⟩ := jn_last (X := [(h0, .inr (1, [.ref q_2, .null, .null, .null, .null, .null, .int 0, .int 0, .int 0, .int 0, .int 0, .int 0, .int 0, .int 400, .int 0, .int 0, .null, .null])), (q_2, .inl (k_3, 401, .inr (.inr (.inr (.inr (zs 0 i_7 az_4))))))]) (T := (zp 5 25 i_7 az_4 ac_5 kz_6 q0z f0z ++ [])) (wc := [(q_24, .inr (7, [.null, .int 0]))]) (w1 := [(q_24, .inr (7, [.ref q1_25, .int 0])), (q1_25, .inl (k1_26, 25, .inl (fun _ => 0)))]) hP hD hk1 hFc hP1 hD1
    have hK := wk_ins (a := [(k_3, .object RX7)]) (b := (zt i_7 kz_6 ++ [])) (c := [(k1_26, .int)]) hK hK1
    clear hk1 hz1 ht hvm
    generalize H1 = H at hP hS ⊢
    have hP : va_P (dC, dI) vwCl ([(h0, .inr (1, [.ref q_2, .null, .null, .null, .null, .null, .int 0, .int 0, .int 0, .int 0, .int 0, .int 0, .int 0, .int 400, .int 0, .int 0, .null, .null])), (q_2, .inl (k_3, 401, .inr (.inr (.inr (.inr (zs 0 i_7 az_4)))))), (q_24, .inr (7, [.ref q1_25, .int 0])), (q1_25, .inl (k1_26, 25, .inl (fun _ => 0)))] ++ (zp 5 25 i_7 az_4 ac_5 kz_6 q0z f0z ++ [])) H := hP
    have hD : va_D A ([(h0, .inr (1, [.ref q_2, .null, .null, .null, .null, .null, .int 0, .int 0, .int 0, .int 0, .int 0, .int 0, .int 0, .int 400, .int 0, .int 0, .null, .null])), (q_2, .inl (k_3, 401, .inr (.inr (.inr (.inr (zs 0 i_7 az_4)))))), (q_24, .inr (7, [.ref q1_25, .int 0])), (q1_25, .inl (k1_26, 25, .inl (fun _ => 0)))] ++ (zp 5 25 i_7 az_4 ac_5 kz_6 q0z f0z ++ [])) := hD
    have hK : va_K (dC, dI) vwCl ([(k_3, .object RX7), (k1_26, .int)] ++ (zt i_7 kz_6 ++ [])) s := hK
    refine W.widen (k := 3 + 2 * i_7) (n := 428 + 27 * i_7) (by first | omega | exact Nat.le_of_ble_eq_true rfl) (by first | omega | exact Nat.le_of_ble_eq_true rfl) ?_
    refine va_astq (r := (RX7, TX7, 2)) hx hb hK hP hD hS 1 0 2 7 rfl rfl rfl rfl (vp_in_nI (by omega) (by decide)) dX1_init_39 (fun H locs hP hD hS => ?_)
    have hP : va_P (dC, dI) vwCl ([(h0, .inr (1, [.ref q_2, .null, .null, .null, .null, .null, .int 0, .int 0, .int 0, .int 0, .int 0, .int 0, .int 0, .int 400, .int 0, .int 0, .null, .null])), (q_2, .inl (k_3, 401, .inr (.inr (.inr (.inr (va_up (zs 0 i_7 az_4) ((nI i_7) : Int32).toNatClampNeg (some q_24))))))), (q_24, .inr (7, [.ref q1_25, .int 0])), (q1_25, .inl (k1_26, 25, .inl (fun _ => 0)))] ++ (zp 5 25 i_7 az_4 ac_5 kz_6 q0z f0z ++ [])) H := hP
    have hD : va_D A ([(h0, .inr (1, [.ref q_2, .null, .null, .null, .null, .null, .int 0, .int 0, .int 0, .int 0, .int 0, .int 0, .int 0, .int 400, .int 0, .int 0, .null, .null])), (q_2, .inl (k_3, 401, .inr (.inr (.inr (.inr (va_up (zs 0 i_7 az_4) ((nI i_7) : Int32).toNatClampNeg (some q_24))))))), (q_24, .inr (7, [.ref q1_25, .int 0])), (q1_25, .inl (k1_26, 25, .inl (fun _ => 0)))] ++ (zp 5 25 i_7 az_4 ac_5 kz_6 q0z f0z ++ [])) := hD
    refine lv_iinc (v := (nI (i_7 + 1))) (lv' := [(3, .int (nI (i_7 + 1))), (0, .ref h0), (1, .int 400), (2, .int 5)]) hx hb dX1_init_40 hl (k := 3) rfl (nI_1 _) (by decide) rfl (fun ls hl => ?_)
    refine lv_goto (tgt := 21) hx hb dX1_init_43 (by decide) ?_
    rw [zs_push (by omega)] at hP hD
    have hP : va_P (dC, dI) vwCl ([(h0, .inr (1, [.ref q_2, .null, .null, .null, .null, .null, .int 0, .int 0, .int 0, .int 0, .int 0, .int 0, .int 0, .int 400, .int 0, .int 0, .null, .null])), (q_2, .inl (k_3, 401, .inr (.inr (.inr (.inr (zs 0 (i_7 + 1) (pz i_7 q_24 az_4)))))))] ++ (zp 5 25 (i_7 + 1) (pz i_7 q_24 az_4) (pz i_7 q1_25 ac_5) (pz i_7 k1_26 kz_6) q0z f0z ++ [])) H := zp_pushP (X := [(h0, .inr (1, [.ref q_2, .null, .null, .null, .null, .null, .int 0, .int 0, .int 0, .int 0, .int 0, .int 0, .int 0, .int 400, .int 0, .int 0, .null, .null])), (q_2, .inl (k_3, 401, .inr (.inr (.inr (.inr (zs 0 (i_7 + 1) (pz i_7 q_24 az_4)))))))]) hP
    have hD : va_D A ([(h0, .inr (1, [.ref q_2, .null, .null, .null, .null, .null, .int 0, .int 0, .int 0, .int 0, .int 0, .int 0, .int 0, .int 400, .int 0, .int 0, .null, .null])), (q_2, .inl (k_3, 401, .inr (.inr (.inr (.inr (zs 0 (i_7 + 1) (pz i_7 q_24 az_4)))))))] ++ (zp 5 25 (i_7 + 1) (pz i_7 q_24 az_4) (pz i_7 q1_25 ac_5) (pz i_7 k1_26 kz_6) q0z f0z ++ [])) := zp_pushD (X := [(h0, .inr (1, [.ref q_2, .null, .null, .null, .null, .null, .int 0, .int 0, .int 0, .int 0, .int 0, .int 0, .int 0, .int 400, .int 0, .int 0, .null, .null])), (q_2, .inl (k_3, 401, .inr (.inr (.inr (.inr (zs 0 (i_7 + 1) (pz i_7 q_24 az_4)))))))]) hD
    have hK := zt_push (X := [(k_3, .object RX7)]) hK
    refine W.widen (k := 1 + 2 * (i_7 + 1)) (n := 401 + 27 * (i_7 + 1)) (by omega) (by omega) ?_
    exact ih_9 _ _ _ ⟨_, _, _, hP, hD, hK, hS, lv_sub hl [1, 2, 3, 0] rfl⟩
theorem dX5_init_0 : decode cX5_init 0 = .ok (.aload_n 0, 1) := by decide +kernel
theorem dX5_init_1 : decode cX5_init 1 = .ok (.invokespecial 3, 3) := by decide +kernel
theorem dX5_init_4 : decode cX5_init 4 = .ok (.aload_n 0, 1) := by decide +kernel
theorem dX5_init_5 : decode cX5_init 5 = .ok (.bipush 120, 2) := by decide +kernel
theorem dX5_init_7 : decode cX5_init 7 = .ok (.anewarray 9, 3) := by decide +kernel
theorem dX5_init_10 : decode cX5_init 10 = .ok (.putfield 11, 3) := by decide +kernel
theorem dX5_init_13 : decode cX5_init 13 = .ok (.aload_n 0, 1) := by decide +kernel
theorem dX5_init_14 : decode cX5_init 14 = .ok (.bipush 28, 2) := by decide +kernel
theorem dX5_init_16 : decode cX5_init 16 = .ok (.anewarray 9, 3) := by decide +kernel
theorem dX5_init_19 : decode cX5_init 19 = .ok (.putfield 17, 3) := by decide +kernel
theorem dX5_init_22 : decode cX5_init 22 = .ok (.iconst 0, 1) := by decide +kernel
theorem dX5_init_23 : decode cX5_init 23 = .ok (.istore_n 1, 1) := by decide +kernel
theorem dX5_init_24 : decode cX5_init 24 = .ok (.iload_n 1, 1) := by decide +kernel
theorem dX5_init_25 : decode cX5_init 25 = .ok (.aload_n 0, 1) := by decide +kernel
theorem dX5_init_26 : decode cX5_init 26 = .ok (.getfield 17, 3) := by decide +kernel
theorem dX5_init_29 : decode cX5_init 29 = .ok (.arraylength, 1) := by decide +kernel
theorem dX5_init_30 : decode cX5_init 30 = .ok (.if_icmp .ge 23, 3) := by decide +kernel
theorem dX5_init_33 : decode cX5_init 33 = .ok (.aload_n 0, 1) := by decide +kernel
theorem dX5_init_34 : decode cX5_init 34 = .ok (.getfield 17, 3) := by decide +kernel
theorem dX5_init_37 : decode cX5_init 37 = .ok (.iload_n 1, 1) := by decide +kernel
theorem dX5_init_38 : decode cX5_init 38 = .ok (.new 9, 3) := by decide +kernel
theorem dX5_init_41 : decode cX5_init 41 = .ok (.dup, 1) := by decide +kernel
theorem dX5_init_42 : decode cX5_init 42 = .ok (.iconst 4, 1) := by decide +kernel
theorem dX5_init_43 : decode cX5_init 43 = .ok (.invokespecial 20, 3) := by decide +kernel
theorem dX5_init_46 : decode cX5_init 46 = .ok (.aastore, 1) := by decide +kernel
theorem dX5_init_47 : decode cX5_init 47 = .ok (.iinc 1 1, 3) := by decide +kernel
theorem dX5_init_50 : decode cX5_init 50 = .ok (.goto (-26), 3) := by decide +kernel
theorem dX5_init_53 : decode cX5_init 53 = .ok (.aload_n 0, 1) := by decide +kernel
theorem dX5_init_54 : decode cX5_init 54 = .ok (.bipush 122, 2) := by decide +kernel
theorem dX5_init_56 : decode cX5_init 56 = .ok (.anewarray 9, 3) := by decide +kernel
theorem dX5_init_59 : decode cX5_init 59 = .ok (.putfield 23, 3) := by decide +kernel
theorem dX5_init_62 : decode cX5_init 62 = .ok (.iconst 0, 1) := by decide +kernel
theorem dX5_init_63 : decode cX5_init 63 = .ok (.istore_n 1, 1) := by decide +kernel
theorem dX5_init_64 : decode cX5_init 64 = .ok (.iload_n 1, 1) := by decide +kernel
theorem dX5_init_65 : decode cX5_init 65 = .ok (.aload_n 0, 1) := by decide +kernel
theorem dX5_init_66 : decode cX5_init 66 = .ok (.getfield 23, 3) := by decide +kernel
theorem dX5_init_69 : decode cX5_init 69 = .ok (.arraylength, 1) := by decide +kernel
theorem dX5_init_70 : decode cX5_init 70 = .ok (.if_icmp .ge 23, 3) := by decide +kernel
theorem dX5_init_73 : decode cX5_init 73 = .ok (.aload_n 0, 1) := by decide +kernel
theorem dX5_init_74 : decode cX5_init 74 = .ok (.getfield 23, 3) := by decide +kernel
theorem dX5_init_77 : decode cX5_init 77 = .ok (.iload_n 1, 1) := by decide +kernel
theorem dX5_init_78 : decode cX5_init 78 = .ok (.new 9, 3) := by decide +kernel
theorem dX5_init_81 : decode cX5_init 81 = .ok (.dup, 1) := by decide +kernel
theorem dX5_init_82 : decode cX5_init 82 = .ok (.iconst 4, 1) := by decide +kernel
theorem dX5_init_83 : decode cX5_init 83 = .ok (.invokespecial 20, 3) := by decide +kernel
theorem dX5_init_86 : decode cX5_init 86 = .ok (.aastore, 1) := by decide +kernel
theorem dX5_init_87 : decode cX5_init 87 = .ok (.iinc 1 1, 3) := by decide +kernel
theorem dX5_init_90 : decode cX5_init 90 = .ok (.goto (-26), 3) := by decide +kernel
theorem dX5_init_93 : decode cX5_init 93 = .ok (.aload_n 0, 1) := by decide +kernel
theorem dX5_init_94 : decode cX5_init 94 = .ok (.bipush 122, 2) := by decide +kernel
theorem dX5_init_96 : decode cX5_init 96 = .ok (.newarray .int, 2) := by decide +kernel
theorem dX5_init_98 : decode cX5_init 98 = .ok (.putfield 26, 3) := by decide +kernel
theorem dX5_init_101 : decode cX5_init 101 = .ok (.aload_n 0, 1) := by decide +kernel
theorem dX5_init_102 : decode cX5_init 102 = .ok (.bipush 122, 2) := by decide +kernel
theorem dX5_init_104 : decode cX5_init 104 = .ok (.newarray .int, 2) := by decide +kernel
theorem dX5_init_106 : decode cX5_init 106 = .ok (.putfield 30, 3) := by decide +kernel
theorem dX5_init_109 : decode cX5_init 109 = .ok (.aload_n 0, 1) := by decide +kernel
theorem dX5_init_110 : decode cX5_init 110 = .ok (.new 9, 3) := by decide +kernel
theorem dX5_init_113 : decode cX5_init 113 = .ok (.dup, 1) := by decide +kernel
theorem dX5_init_114 : decode cX5_init 114 = .ok (.iconst 4, 1) := by decide +kernel
theorem dX5_init_115 : decode cX5_init 115 = .ok (.invokespecial 20, 3) := by decide +kernel
theorem dX5_init_118 : decode cX5_init 118 = .ok (.putfield 33, 3) := by decide +kernel
theorem dX5_init_121 : decode cX5_init 121 = .ok (.return_, 1) := by decide +kernel
def vs_X5_init : List Cond := .code yX5_init cX5_init 2 none :: ([.methodLink RX5 3 objectInit, .instanceMethod objectInit, .code objectInit ⟨#[0xb1]⟩ 1 none, .classLink RX5 9 RX7, .fieldLink RX5 11 "ClockReach$Remainder" "covers" "[LClockReach$Zone;", .fieldLink RX5 17 "ClockReach$Remainder" "made" "[LClockReach$Zone;", .fieldLink RX5 23 "ClockReach$Remainder" "pieces" "[LClockReach$Zone;", .arrayClass .int, .fieldLink RX5 26 "ClockReach$Remainder" "cutting" "[I", .fieldLink RX5 30 "ClockReach$Remainder" "cells" "[I", .instantiable RX7 2, .initialized RX7, .code yX7_init cX7_init 2 none, .methodLink RX7 5 objectInit, .fieldLink RX7 11 "ClockReach$Zone" "cells" "[I", .methodLink RX5 20 yX7_init, .instanceMethod yX7_init, .fieldLink RX5 33 "ClockReach$Remainder" "scratch" "LClockReach$Zone;"] ++ wsX50 ++ wsX70)
theorem g_X5_init_X7_init_4 : GoodIn vs_X5_init vs_X7_init_4 := goodIn_r _ [13, 14, 2, 3, 8, 15, 27, 28] (by decide +kernel) (by decide +kernel)
set_option maxHeartbeats 4000000 in
set_option maxRecDepth 100000 in
theorem c_X5_init (l : Launch) (dC : Nat → ClassId) (dI : Nat → Nat → Nat) (sz : Nat) (adK adV : Nat → Nat) (fz : Option Nat) (h0 : Nat) : Met l yX5_init vs_X5_init ({ frames := 2, cells := 307, slots := 3232, locals := 33 }) (va_Pc [.ref h0] (pu_X adK adV fz (dC, dI) [(h0, .inr (5, [.null, .int 0, .null, .int 0, .null, .null, .null, .null]))] [] sz)) (va_Qv (fun (_ : Unit) => True) (fun _ t => ∃ (q1 q2 q3 q4 q5 qz qy : Nat) (k1 k2 k3 k4 k5 ky : ClassId) (az ac ay a2 : Nat → Nat) (kz k0 : Nat → ClassId), pu_E (dC, dI) ([(h0, .inr (5, [.ref q1, .int 0, .ref q2, .int 0, .ref q3, .ref q4, .ref q5, .ref qz])), (q1, .inl (k1, 120, .inr (.inr (.inr (.inr (fun _ => none)))))), (q2, .inl (k2, 28, .inr (.inr (.inr (.inr (zs 0 28 az)))))), (q3, .inl (k3, 122, .inr (.inr (.inr (.inr (zs 0 122 ay)))))), (q4, .inl (k4, 122, .inl (fun _ => 0))), (q5, .inl (k5, 122, .inl (fun _ => 0))), (qz, .inr (7, [.ref qy, .int 0])), (qy, .inl (ky, 16, .inl (fun _ => 0)))] ++ (zp 4 16 122 ay a2 k0 q0z f0z ++ (zp 4 16 28 az ac kz q0z f0z ++ []))) ([(k1, .object RX7), (k2, .object RX7), (k3, .object RX7), (k4, .int), (k5, .int), (ky, .int)] ++ (zt 122 k0 ++ (zt 28 kz ++ []))) (va_A ([(h0, .inr (5, [.null, .int 0, .null, .int 0, .null, .null, .null, .null]))]) sz) t) (va_A ([(h0, .inr (5, [.null, .int 0, .null, .int 0, .null, .null, .null, .null]))]) sz)) 307 3232 (va_A ([(h0, .inr (5, [.null, .int 0, .null, .int 0, .null, .null, .null, .null]))]) sz) := by
  refine Met.ofW (cc := cX5_init) (maxL := 2) (ret := none) (by decide) rfl ?_
  intro p e s m args below meth c s₁ B hml hv
  obtain ⟨rfl, ⟨rfl, hP, hK, hD0⟩, hE⟩ := hv
  have hx := B.exec
  have hb := B.bytes
  have hr := B.returns
  have hts := atoms_spec (ws := vs_X5_init) B.pre
  have v_1 := hts (.methodLink RX5 3 objectInit) (List.mem_of_getElem? (i := 1) rfl)
  have v_2 := hts (.instanceMethod objectInit) (List.mem_of_getElem? (i := 2) rfl)
  have v_3 := hts (.code objectInit ⟨#[0xb1]⟩ 1 none) (List.mem_of_getElem? (i := 3) rfl)
  have v_4 := hts (.classLink RX5 9 RX7) (List.mem_of_getElem? (i := 4) rfl)
  have v_5 := hts (.fieldLink RX5 11 "ClockReach$Remainder" "covers" "[LClockReach$Zone;") (List.mem_of_getElem? (i := 5) rfl)
  have v_6 := hts (.fieldLink RX5 17 "ClockReach$Remainder" "made" "[LClockReach$Zone;") (List.mem_of_getElem? (i := 6) rfl)
  have v_7 := hts (.fieldLink RX5 23 "ClockReach$Remainder" "pieces" "[LClockReach$Zone;") (List.mem_of_getElem? (i := 7) rfl)
  have v_8 := hts (.arrayClass .int) (List.mem_of_getElem? (i := 8) rfl)
  have v_9 := hts (.fieldLink RX5 26 "ClockReach$Remainder" "cutting" "[I") (List.mem_of_getElem? (i := 9) rfl)
  have v_10 := hts (.fieldLink RX5 30 "ClockReach$Remainder" "cells" "[I") (List.mem_of_getElem? (i := 10) rfl)
  have v_11 := hts (.instantiable RX7 2) (List.mem_of_getElem? (i := 11) rfl)
  have v_12 := hts (.initialized RX7) (List.mem_of_getElem? (i := 12) rfl)
  have v_16 := hts (.methodLink RX5 20 yX7_init) (List.mem_of_getElem? (i := 16) rfl)
  have v_17 := hts (.instanceMethod yX7_init) (List.mem_of_getElem? (i := 17) rfl)
  have v_18 := hts (.fieldLink RX5 33 "ClockReach$Remainder" "scratch" "LClockReach$Zone;") (List.mem_of_getElem? (i := 18) rfl)
  have hown : s.vm.findClass RX5 = some m.cls := findClass_of_methodNamed B.named
  have hlocks := B.notSynchronized
  have hin : meth.name = "<init>" := (name_of_methodNamed B.named B.method).1
  have hiX5 : ∀ w ∈ wsX50, w ∈ vs_X5_init := fun _ h => List.mem_cons_of_mem _ (List.mem_append_left _ (List.mem_append_right _ h))
  have hiX7 : ∀ w ∈ wsX70, w ∈ vs_X5_init := fun _ h => List.mem_cons_of_mem _ (List.mem_append_right _ h)
  have hD := hD0.self (sz := s.heap.size)
  generalize hAe : va_A ([(h0, .inr (5, [.null, .int 0, .null, .int 0, .null, .null, .null, .null]))]) s.heap.size = A at hD hE ⊢
  have hA : ∀ q : Nat, s.heap.size ≤ q → A q := fun q h => by rw [← hAe]; exact Or.inr h
  have hS : va_S A s.heap s.heap [] := va_S.rf
  have hl := lv_entry ([.ref h0]) (n := 2) (Nat.le_of_ble_eq_true rfl)
  rw [lg_entry_eq]
  generalize (lg_sl ([.ref h0]) ++ List.replicate (2 - (lg_sl ([.ref h0])).length) Slot.unset).toArray = ls at hl ⊢
  have hl : lv_has ls 2 [(0, .ref h0)] := hl
  refine lv_aload_n hx hb dX5_init_0 rfl (lv_at hl 0 rfl) ?_
  refine W.objInit hx hb hown v_1 v_2 v_3 rfl (by rw [hml]; exact hl.1) rfl dX5_init_1 (Nat.le_of_ble_eq_true rfl) (Nat.le_of_ble_eq_true rfl) ?_
  refine W.eq (g2 := F0 m 4 ls []) rfl ?_
  refine lv_aload_n hx hb dX5_init_4 rfl (lv_at hl 0 rfl) ?_
  refine lv_bipush (v := 120) hx hb dX5_init_5 (by decide) ?_
  refine va_newq (C := RX7) (N' := 120) hx hb hown v_4 hE.1 hK hP hD hS hA (by decide) (by decide) (Nat.le_of_ble_eq_true rfl) (Nat.le_of_ble_eq_true rfl) (Nat.le_of_ble_eq_true rfl) dX5_init_7 (fun q_1 k_2 H hK hP hD hS => ?_)
  have hP : va_P (dC, dI) vwCl [(h0, .inr (5, [.null, .int 0, .null, .int 0, .null, .null, .null, .null])), (q_1, .inl (k_2, 120, .inr (.inr (.inr (.inr (fun _ => none))))))] H := hP
  have hD : va_D A [(h0, .inr (5, [.null, .int 0, .null, .int 0, .null, .null, .null, .null])), (q_1, .inl (k_2, 120, .inr (.inr (.inr (.inr (fun _ => none))))))] := hD
  have hK : va_K (dC, dI) vwCl [(k_2, .object RX7)] s := hK
  refine W.widen (k := 1) (n := 120) (by omega) (by omega) ?_
  refine va_putF (D := (dC, dI)) (ci := 5) (v := .ref q_1) (ty := .array (.object "ClockReach$Zone")) (C := RX5) (T := TX5) (N := 8) hx hb hts hiX5 tyX5 tyX5_ok nmX5 hown hK hP hD hS 0 rfl rfl 0 (by decide) v_5 (fun _ h9 => h9) rfl hin rfl (by decide +kernel) rfl rfl (Nat.le_of_ble_eq_true rfl) dX5_init_10 (fun H locs hP hD hS => ?_)
  have hP : va_P (dC, dI) vwCl [(h0, .inr (5, [.ref q_1, .int 0, .null, .int 0, .null, .null, .null, .null])), (q_1, .inl (k_2, 120, .inr (.inr (.inr (.inr (fun _ => none))))))] H := hP
  have hD : va_D A [(h0, .inr (5, [.ref q_1, .int 0, .null, .int 0, .null, .null, .null, .null])), (q_1, .inl (k_2, 120, .inr (.inr (.inr (.inr (fun _ => none))))))] := hD
  refine lv_aload_n hx hb dX5_init_13 rfl (lv_at hl 0 rfl) ?_
  refine lv_bipush (v := 28) hx hb dX5_init_14 (by decide) ?_
  refine va_newq (C := RX7) (N' := 28) hx hb hown v_4 hE.1 hK hP hD hS hA (by decide) (by decide) (Nat.le_of_ble_eq_true rfl) (Nat.le_of_ble_eq_true rfl) (Nat.le_of_ble_eq_true rfl) dX5_init_16 (fun q_3 k_4 H hK hP hD hS => ?_)
  have hP : va_P (dC, dI) vwCl [(h0, .inr (5, [.ref q_1, .int 0, .null, .int 0, .null, .null, .null, .null])), (q_1, .inl (k_2, 120, .inr (.inr (.inr (.inr (fun _ => none)))))), (q_3, .inl (k_4, 28, .inr (.inr (.inr (.inr (fun _ => none))))))] H := hP
  have hD : va_D A [(h0, .inr (5, [.ref q_1, .int 0, .null, .int 0, .null, .null, .null, .null])), (q_1, .inl (k_2, 120, .inr (.inr (.inr (.inr (fun _ => none)))))), (q_3, .inl (k_4, 28, .inr (.inr (.inr (.inr (fun _ => none))))))] := hD
  have hK : va_K (dC, dI) vwCl [(k_2, .object RX7), (k_4, .object RX7)] s := hK
  refine W.widen (k := 2) (n := 148) (by omega) (by omega) ?_
  refine va_putF (D := (dC, dI)) (ci := 5) (v := .ref q_3) (ty := .array (.object "ClockReach$Zone")) (C := RX5) (T := TX5) (N := 8) hx hb hts hiX5 tyX5 tyX5_ok nmX5 hown hK hP hD hS 0 rfl rfl 2 (by decide) v_6 (fun _ h9 => h9) rfl hin rfl (by decide +kernel) rfl rfl (Nat.le_of_ble_eq_true rfl) dX5_init_19 (fun H locs hP hD hS => ?_)
  have hP : va_P (dC, dI) vwCl [(h0, .inr (5, [.ref q_1, .int 0, .ref q_3, .int 0, .null, .null, .null, .null])), (q_1, .inl (k_2, 120, .inr (.inr (.inr (.inr (fun _ => none)))))), (q_3, .inl (k_4, 28, .inr (.inr (.inr (.inr (fun _ => none))))))] H := hP
  have hD : va_D A [(h0, .inr (5, [.ref q_1, .int 0, .ref q_3, .int 0, .null, .null, .null, .null])), (q_1, .inl (k_2, 120, .inr (.inr (.inr (.inr (fun _ => none)))))), (q_3, .inl (k_4, 28, .inr (.inr (.inr (.inr (fun _ => none))))))] := hD
  refine lv_iconst (v := 0) hx hb dX5_init_22 (by decide) ?_
  refine lv_istore_n (lv' := [(1, .int 0), (0, .ref h0)]) hx hb dX5_init_23 rfl hl (by decide) rfl (fun ls hl => ?_)
  have e00 : zs 0 0 (fun _ => 0) = fun _ => none := zs_0
  have hP : va_P (dC, dI) vwCl ([(h0, .inr (5, [.ref q_1, .int 0, .ref q_3, .int 0, .null, .null, .null, .null])), (q_1, .inl (k_2, 120, .inr (.inr (.inr (.inr (fun _ => none)))))), (q_3, .inl (k_4, 28, .inr (.inr (.inr (.inr (zs 0 0 (fun _ => 0)))))))] ++ (zp 4 16 0 (fun _ => 0) (fun _ => 0) (fun _ => k_2) q0z f0z ++ [])) H := by rw [e00]; show va_P (dC, dI) vwCl ([(h0, .inr (5, [.ref q_1, .int 0, .ref q_3, .int 0, .null, .null, .null, .null])), (q_1, .inl (k_2, 120, .inr (.inr (.inr (.inr (fun _ => none)))))), (q_3, .inl (k_4, 28, .inr (.inr (.inr (.inr (fun _ => none))))))] ++ []) H; rw [List.append_nil]; exact hP
  have hD : va_D A ([(h0, .inr (5, [.ref q_1, .int 0, .ref q_3, .int 0, .null, .null, .null, .null])), (q_1, .inl (k_2, 120, .inr (.inr (.inr (.inr (fun _ => none)))))), (q_3, .inl (k_4, 28, .inr (.inr (.inr (.inr (zs 0 0 (fun _ => 0)))))))] ++ (zp 4 16 0 (fun _ => 0) (fun _ => 0) (fun _ => k_2) q0z f0z ++ [])) := by rw [e00]; show va_D A ([(h0, .inr (5, [.ref q_1, .int 0, .ref q_3, .int 0, .null, .null, .null, .null])), (q_1, .inl (k_2, 120, .inr (.inr (.inr (.inr (fun _ => none)))))), (q_3, .inl (k_4, 28, .inr (.inr (.inr (.inr (fun _ => none))))))] ++ []); rw [List.append_nil]; exact hD
  have hK : va_K (dC, dI) vwCl ([(k_2, .object RX7), (k_4, .object RX7)] ++ (zt 0 (fun _ => k_2) ++ [])) s := by show va_K (dC, dI) vwCl ([(k_2, .object RX7), (k_4, .object RX7)] ++ []) s; rw [List.append_nil]; exact hK
  refine pu_loop 28 (fun i H locs ls => ∃ (az_5 ac_6 : Nat → Nat) (kz_7 : Nat → ClassId), va_P (dC, dI) vwCl ([(h0, .inr (5, [.ref q_1, .int 0, .ref q_3, .int 0, .null, .null, .null, .null])), (q_1, .inl (k_2, 120, .inr (.inr (.inr (.inr (fun _ => none)))))), (q_3, .inl (k_4, 28, .inr (.inr (.inr (.inr (zs 0 i az_5))))))] ++ (zp 4 16 i az_5 ac_6 kz_7 q0z f0z ++ [])) H ∧ va_D A ([(h0, .inr (5, [.ref q_1, .int 0, .ref q_3, .int 0, .null, .null, .null, .null])), (q_1, .inl (k_2, 120, .inr (.inr (.inr (.inr (fun _ => none)))))), (q_3, .inl (k_4, 28, .inr (.inr (.inr (.inr (zs 0 i az_5))))))] ++ (zp 4 16 i az_5 ac_6 kz_7 q0z f0z ++ [])) ∧ va_K (dC, dI) vwCl ([(k_2, .object RX7), (k_4, .object RX7)] ++ (zt i kz_7 ++ [])) s ∧ va_S A s.heap H locs ∧ lv_has ls 2 [(0, .ref h0), (1, .int (nI i))]) (fun i => 2 + 2 * i) (fun i => 148 + 18 * i) 24 [] ?_ ?_ _ _ _ ⟨fun _ => 0, fun _ => 0, fun _ => k_2, hP, hD, hK, hS, lv_sub hl [1, 0] rfl⟩
  · rintro H locs ls ⟨az_5, ac_6, kz_7, hP, hD, hK, hS, hl⟩
    refine W.widen (k := 58) (n := 652) (by omega) (by omega) ?_
    refine lv_iload_n hx hb dX5_init_24 rfl (lv_at hl 1 rfl) ?_
    refine lv_aload_n hx hb dX5_init_25 rfl (lv_at hl 0 rfl) ?_
    refine va_get (D := (dC, dI)) (ci := 5) (v := .ref q_3) (C := RX5) (T := TX5) (N := 8) hx hb hts hiX5 hown hK hP 0 rfl rfl 2 (by decide) v_6 (fun _ h9 => h9) rfl dX5_init_26 ?_
    refine va_alen (v := 28) hx hb hK hP 2 1 rfl rfl rfl dX5_init_29 ?_
    refine lv_icmp_ge (tgt := 53) hx hb dX5_init_30 (by decide) (fun _ => ?_) (fun z => absurd z (by decide))
    refine lv_aload_n hx hb dX5_init_53 rfl (lv_at hl 0 rfl) ?_
    refine lv_bipush (v := 122) hx hb dX5_init_54 (by decide) ?_
    refine va_newq (C := RX7) (N' := 122) hx hb hown v_4 hE.1 hK hP hD hS hA (by decide) (by decide) (Nat.le_of_ble_eq_true rfl) (Nat.le_of_ble_eq_true rfl) (Nat.le_of_ble_eq_true rfl) dX5_init_56 (fun q_11 k_12 H hK hP hD hS => ?_)
    have hK : va_K (dC, dI) vwCl ([(k_2, .object RX7), (k_4, .object RX7), (k_12, .object RX7)] ++ (zt 28 kz_7 ++ [])) s := wk_swap (a := [(k_2, .object RX7), (k_4, .object RX7)]) (b := (zt 28 kz_7 ++ [])) (c := [(k_12, .object RX7)]) hK
    have hP : va_P (dC, dI) vwCl ([(h0, .inr (5, [.ref q_1, .int 0, .ref q_3, .int 0, .null, .null, .null, .null])), (q_1, .inl (k_2, 120, .inr (.inr (.inr (.inr (fun _ => none)))))), (q_3, .inl (k_4, 28, .inr (.inr (.inr (.inr (zs 0 28 az_5)))))), (q_11, .inl (k_12, 122, .inr (.inr (.inr (.inr (fun _ => none))))))] ++ (zp 4 16 28 az_5 ac_6 kz_7 q0z f0z ++ [])) H := va_P.swap (a := [(h0, .inr (5, [.ref q_1, .int 0, .ref q_3, .int 0, .null, .null, .null, .null])), (q_1, .inl (k_2, 120, .inr (.inr (.inr (.inr (fun _ => none)))))), (q_3, .inl (k_4, 28, .inr (.inr (.inr (.inr (zs 0 28 az_5))))))]) (b := (zp 4 16 28 az_5 ac_6 kz_7 q0z f0z ++ [])) (c := [(q_11, .inl (k_12, 122, .inr (.inr (.inr (.inr (fun _ => none))))))]) hP
    have hD : va_D A ([(h0, .inr (5, [.ref q_1, .int 0, .ref q_3, .int 0, .null, .null, .null, .null])), (q_1, .inl (k_2, 120, .inr (.inr (.inr (.inr (fun _ => none)))))), (q_3, .inl (k_4, 28, .inr (.inr (.inr (.inr (zs 0 28 az_5)))))), (q_11, .inl (k_12, 122, .inr (.inr (.inr (.inr (fun _ => none))))))] ++ (zp 4 16 28 az_5 ac_6 kz_7 q0z f0z ++ [])) := va_D.swap (a := [(h0, .inr (5, [.ref q_1, .int 0, .ref q_3, .int 0, .null, .null, .null, .null])), (q_1, .inl (k_2, 120, .inr (.inr (.inr (.inr (fun _ => none)))))), (q_3, .inl (k_4, 28, .inr (.inr (.inr (.inr (zs 0 28 az_5))))))]) (b := (zp 4 16 28 az_5 ac_6 kz_7 q0z f0z ++ [])) (c := [(q_11, .inl (k_12, 122, .inr (.inr (.inr (.inr (fun _ => none))))))]) hD
    refine W.widen (k := 59) (n := 774) (by omega) (by omega) ?_
    refine va_putF (D := (dC, dI)) (ci := 5) (v := .ref q_11) (ty := .array (.object "ClockReach$Zone")) (C := RX5) (T := TX5) (N := 8) hx hb hts hiX5 tyX5 tyX5_ok nmX5 hown hK hP hD hS 0 rfl rfl 4 (by decide) v_7 (fun _ h9 => h9) rfl hin rfl (by decide +kernel) rfl rfl (Nat.le_of_ble_eq_true rfl) dX5_init_59 (fun H locs hP hD hS => ?_)
    have hP : va_P (dC, dI) vwCl ([(h0, .inr (5, [.ref q_1, .int 0, .ref q_3, .int 0, .ref q_11, .null, .null, .null])), (q_1, .inl (k_2, 120, .inr (.inr (.inr (.inr (fun _ => none)))))), (q_3, .inl (k_4, 28, .inr (.inr (.inr (.inr (zs 0 28 az_5)))))), (q_11, .inl (k_12, 122, .inr (.inr (.inr (.inr (fun _ => none))))))] ++ (zp 4 16 28 az_5 ac_6 kz_7 q0z f0z ++ [])) H := hP
    have hD : va_D A ([(h0, .inr (5, [.ref q_1, .int 0, .ref q_3, .int 0, .ref q_11, .null, .null, .null])), (q_1, .inl (k_2, 120, .inr (.inr (.inr (.inr (fun _ => none)))))), (q_3, .inl (k_4, 28, .inr (.inr (.inr (.inr (zs 0 28 az_5)))))), (q_11, .inl (k_12, 122, .inr (.inr (.inr (.inr (fun _ => none))))))] ++ (zp 4 16 28 az_5 ac_6 kz_7 q0z f0z ++ [])) := hD
    refine lv_iconst (v := 0) hx hb dX5_init_62 (by decide) ?_
    refine lv_istore_n (lv' := [(1, .int 0), (0, .ref h0)]) hx hb dX5_init_63 rfl hl (by decide) rfl (fun ls hl => ?_)
    have e00 : zs 0 0 (fun _ => 0) = fun _ => none := zs_0
    have hP : va_P (dC, dI) vwCl ([(h0, .inr (5, [.ref q_1, .int 0, .ref q_3, .int 0, .ref q_11, .null, .null, .null])), (q_1, .inl (k_2, 120, .inr (.inr (.inr (.inr (fun _ => none)))))), (q_3, .inl (k_4, 28, .inr (.inr (.inr (.inr (zs 0 28 az_5)))))), (q_11, .inl (k_12, 122, .inr (.inr (.inr (.inr (zs 0 0 (fun _ => 0)))))))] ++ (zp 4 16 0 (fun _ => 0) (fun _ => 0) (fun _ => k_2) q0z f0z ++ (zp 4 16 28 az_5 ac_6 kz_7 q0z f0z ++ []))) H := by rw [e00]; show va_P (dC, dI) vwCl ([(h0, .inr (5, [.ref q_1, .int 0, .ref q_3, .int 0, .ref q_11, .null, .null, .null])), (q_1, .inl (k_2, 120, .inr (.inr (.inr (.inr (fun _ => none)))))), (q_3, .inl (k_4, 28, .inr (.inr (.inr (.inr (zs 0 28 az_5)))))), (q_11, .inl (k_12, 122, .inr (.inr (.inr (.inr (fun _ => none))))))] ++ (zp 4 16 28 az_5 ac_6 kz_7 q0z f0z ++ [])) H; exact hP
    have hD : va_D A ([(h0, .inr (5, [.ref q_1, .int 0, .ref q_3, .int 0, .ref q_11, .null, .null, .null])), (q_1, .inl (k_2, 120, .inr (.inr (.inr (.inr (fun _ => none)))))), (q_3, .inl (k_4, 28, .inr (.inr (.inr (.inr (zs 0 28 az_5)))))), (q_11, .inl (k_12, 122, .inr (.inr (.inr (.inr (zs 0 0 (fun _ => 0)))))))] ++ (zp 4 16 0 (fun _ => 0) (fun _ => 0) (fun _ => k_2) q0z f0z ++ (zp 4 16 28 az_5 ac_6 kz_7 q0z f0z ++ []))) := by rw [e00]; show va_D A ([(h0, .inr (5, [.ref q_1, .int 0, .ref q_3, .int 0, .ref q_11, .null, .null, .null])), (q_1, .inl (k_2, 120, .inr (.inr (.inr (.inr (fun _ => none)))))), (q_3, .inl (k_4, 28, .inr (.inr (.inr (.inr (zs 0 28 az_5)))))), (q_11, .inl (k_12, 122, .inr (.inr (.inr (.inr (fun _ => none))))))] ++ (zp 4 16 28 az_5 ac_6 kz_7 q0z f0z ++ [])); exact hD
    have hK : va_K (dC, dI) vwCl ([(k_2, .object RX7), (k_4, .object RX7), (k_12, .object RX7)] ++ (zt 0 (fun _ => k_2) ++ (zt 28 kz_7 ++ []))) s := by show va_K (dC, dI) vwCl ([(k_2, .object RX7), (k_4, .object RX7), (k_12, .object RX7)] ++ (zt 28 kz_7 ++ [])) s; exact hK
    refine pu_loop 122 (fun i H locs ls => ∃ (az_13 ac_14 : Nat → Nat) (kz_15 : Nat → ClassId), va_P (dC, dI) vwCl ([(h0, .inr (5, [.ref q_1, .int 0, .ref q_3, .int 0, .ref q_11, .null, .null, .null])), (q_1, .inl (k_2, 120, .inr (.inr (.inr (.inr (fun _ => none)))))), (q_3, .inl (k_4, 28, .inr (.inr (.inr (.inr (zs 0 28 az_5)))))), (q_11, .inl (k_12, 122, .inr (.inr (.inr (.inr (zs 0 i az_13))))))] ++ (zp 4 16 i az_13 ac_14 kz_15 q0z f0z ++ (zp 4 16 28 az_5 ac_6 kz_7 q0z f0z ++ []))) H ∧ va_D A ([(h0, .inr (5, [.ref q_1, .int 0, .ref q_3, .int 0, .ref q_11, .null, .null, .null])), (q_1, .inl (k_2, 120, .inr (.inr (.inr (.inr (fun _ => none)))))), (q_3, .inl (k_4, 28, .inr (.inr (.inr (.inr (zs 0 28 az_5)))))), (q_11, .inl (k_12, 122, .inr (.inr (.inr (.inr (zs 0 i az_13))))))] ++ (zp 4 16 i az_13 ac_14 kz_15 q0z f0z ++ (zp 4 16 28 az_5 ac_6 kz_7 q0z f0z ++ []))) ∧ va_K (dC, dI) vwCl ([(k_2, .object RX7), (k_4, .object RX7), (k_12, .object RX7)] ++ (zt i kz_15 ++ (zt 28 kz_7 ++ []))) s ∧ va_S A s.heap H locs ∧ lv_has ls 2 [(0, .ref h0), (1, .int (nI i))]) (fun i => 59 + 2 * i) (fun i => 774 + 18 * i) 64 [] ?_ ?_ _ _ _ ⟨fun _ => 0, fun _ => 0, fun _ => k_2, hP, hD, hK, hS, lv_sub hl [1, 0] rfl⟩
    · rintro H locs ls ⟨az_13, ac_14, kz_15, hP, hD, hK, hS, hl⟩
      refine W.widen (k := 303) (n := 2970) (by omega) (by omega) ?_
      refine lv_iload_n hx hb dX5_init_64 rfl (lv_at hl 1 rfl) ?_
      refine lv_aload_n hx hb dX5_init_65 rfl (lv_at hl 0 rfl) ?_
      refine va_get (D := (dC, dI)) (ci := 5) (v := .ref q_11) (C := RX5) (T := TX5) (N := 8) hx hb hts hiX5 hown hK hP 0 rfl rfl 4 (by decide) v_7 (fun _ h9 => h9) rfl dX5_init_66 ?_
      refine va_alen (v := 122) hx hb hK hP 3 2 rfl rfl rfl dX5_init_69 ?_
      refine lv_icmp_ge (tgt := 93) hx hb dX5_init_70 (by decide) (fun _ => ?_) (fun z => absurd z (by decide))
      refine lv_aload_n hx hb dX5_init_93 rfl (lv_at hl 0 rfl) ?_
      refine lv_bipush (v := 122) hx hb dX5_init_94 (by decide) ?_
      refine va_newa (atype := .int) (ty := .int) (N' := 122) (a0 := (122, .inl (fun _ => 0))) hx hb v_8 rfl hK hP hD hS hA (fun _ => rfl) (by decide) (by decide) (Nat.le_of_ble_eq_true rfl) (Nat.le_of_ble_eq_true rfl) (Nat.le_of_ble_eq_true rfl) dX5_init_96 (fun q_19 k_20 H hK hP hD hS => ?_)
      have hK : va_K (dC, dI) vwCl ([(k_2, .object RX7), (k_4, .object RX7), (k_12, .object RX7), (k_20, .int)] ++ (zt 122 kz_15 ++ (zt 28 kz_7 ++ []))) s := wk_swap (a := [(k_2, .object RX7), (k_4, .object RX7), (k_12, .object RX7)]) (b := (zt 122 kz_15 ++ (zt 28 kz_7 ++ []))) (c := [(k_20, .int)]) hK
      have hP : va_P (dC, dI) vwCl ([(h0, .inr (5, [.ref q_1, .int 0, .ref q_3, .int 0, .ref q_11, .null, .null, .null])), (q_1, .inl (k_2, 120, .inr (.inr (.inr (.inr (fun _ => none)))))), (q_3, .inl (k_4, 28, .inr (.inr (.inr (.inr (zs 0 28 az_5)))))), (q_11, .inl (k_12, 122, .inr (.inr (.inr (.inr (zs 0 122 az_13)))))), (q_19, .inl (k_20, 122, .inl (fun _ => 0)))] ++ (zp 4 16 122 az_13 ac_14 kz_15 q0z f0z ++ (zp 4 16 28 az_5 ac_6 kz_7 q0z f0z ++ []))) H := va_P.swap (a := [(h0, .inr (5, [.ref q_1, .int 0, .ref q_3, .int 0, .ref q_11, .null, .null, .null])), (q_1, .inl (k_2, 120, .inr (.inr (.inr (.inr (fun _ => none)))))), (q_3, .inl (k_4, 28, .inr (.inr (.inr (.inr (zs 0 28 az_5)))))), (q_11, .inl (k_12, 122, .inr (.inr (.inr (.inr (zs 0 122 az_13))))))]) (b := (zp 4 16 122 az_13 ac_14 kz_15 q0z f0z ++ (zp 4 16 28 az_5 ac_6 kz_7 q0z f0z ++ []))) (c := [(q_19, .inl (k_20, 122, .inl (fun _ => 0)))]) hP
      have hD : va_D A ([(h0, .inr (5, [.ref q_1, .int 0, .ref q_3, .int 0, .ref q_11, .null, .null, .null])), (q_1, .inl (k_2, 120, .inr (.inr (.inr (.inr (fun _ => none)))))), (q_3, .inl (k_4, 28, .inr (.inr (.inr (.inr (zs 0 28 az_5)))))), (q_11, .inl (k_12, 122, .inr (.inr (.inr (.inr (zs 0 122 az_13)))))), (q_19, .inl (k_20, 122, .inl (fun _ => 0)))] ++ (zp 4 16 122 az_13 ac_14 kz_15 q0z f0z ++ (zp 4 16 28 az_5 ac_6 kz_7 q0z f0z ++ []))) := va_D.swap (a := [(h0, .inr (5, [.ref q_1, .int 0, .ref q_3, .int 0, .ref q_11, .null, .null, .null])), (q_1, .inl (k_2, 120, .inr (.inr (.inr (.inr (fun _ => none)))))), (q_3, .inl (k_4, 28, .inr (.inr (.inr (.inr (zs 0 28 az_5)))))), (q_11, .inl (k_12, 122, .inr (.inr (.inr (.inr (zs 0 122 az_13))))))]) (b := (zp 4 16 122 az_13 ac_14 kz_15 q0z f0z ++ (zp 4 16 28 az_5 ac_6 kz_7 q0z f0z ++ []))) (c := [(q_19, .inl (k_20, 122, .inl (fun _ => 0)))]) hD
      refine W.widen (k := 304) (n := 3092) (by omega) (by omega) ?_
      refine va_putF (D := (dC, dI)) (ci := 5) (v := .ref q_19) (ty := .array .int) (C := RX5) (T := TX5) (N := 8) hx hb hts hiX5 tyX5 tyX5_ok nmX5 hown hK hP hD hS 0 rfl rfl 5 (by decide) v_9 (fun _ h9 => h9) rfl hin rfl (by decide +kernel) rfl rfl (Nat.le_of_ble_eq_true rfl) dX5_init_98 (fun H locs hP hD hS => ?_)
      have hP : va_P (dC, dI) vwCl ([(h0, .inr (5, [.ref q_1, .int 0, .ref q_3, .int 0, .ref q_11, .ref q_19, .null, .null])), (q_1, .inl (k_2, 120, .inr (.inr (.inr (.inr (fun _ => none)))))), (q_3, .inl (k_4, 28, .inr (.inr (.inr (.inr (zs 0 28 az_5)))))), (q_11, .inl (k_12, 122, .inr (.inr (.inr (.inr (zs 0 122 az_13)))))), (q_19, .inl (k_20, 122, .inl (fun _ => 0)))] ++ (zp 4 16 122 az_13 ac_14 kz_15 q0z f0z ++ (zp 4 16 28 az_5 ac_6 kz_7 q0z f0z ++ []))) H := hP
      have hD : va_D A ([(h0, .inr (5, [.ref q_1, .int 0, .ref q_3, .int 0, .ref q_11, .ref q_19, .null, .null])), (q_1, .inl (k_2, 120, .inr (.inr (.inr (.inr (fun _ => none)))))), (q_3, .inl (k_4, 28, .inr (.inr (.inr (.inr (zs 0 28 az_5)))))), (q_11, .inl (k_12, 122, .inr (.inr (.inr (.inr (zs 0 122 az_13)))))), (q_19, .inl (k_20, 122, .inl (fun _ => 0)))] ++ (zp 4 16 122 az_13 ac_14 kz_15 q0z f0z ++ (zp 4 16 28 az_5 ac_6 kz_7 q0z f0z ++ []))) := hD
      refine lv_aload_n hx hb dX5_init_101 rfl (lv_at hl 0 rfl) ?_
      refine lv_bipush (v := 122) hx hb dX5_init_102 (by decide) ?_
      refine va_newa (atype := .int) (ty := .int) (N' := 122) (a0 := (122, .inl (fun _ => 0))) hx hb v_8 rfl hK hP hD hS hA (fun _ => rfl) (by decide) (by decide) (Nat.le_of_ble_eq_true rfl) (Nat.le_of_ble_eq_true rfl) (Nat.le_of_ble_eq_true rfl) dX5_init_104 (fun q_21 k_22 H hK hP hD hS => ?_)
      have hK : va_K (dC, dI) vwCl ([(k_2, .object RX7), (k_4, .object RX7), (k_12, .object RX7), (k_20, .int), (k_22, .int)] ++ (zt 122 kz_15 ++ (zt 28 kz_7 ++ []))) s := wk_swap (a := [(k_2, .object RX7), (k_4, .object RX7), (k_12, .object RX7), (k_20, .int)]) (b := (zt 122 kz_15 ++ (zt 28 kz_7 ++ []))) (c := [(k_22, .int)]) hK
      have hP : va_P (dC, dI) vwCl ([(h0, .inr (5, [.ref q_1, .int 0, .ref q_3, .int 0, .ref q_11, .ref q_19, .null, .null])), (q_1, .inl (k_2, 120, .inr (.inr (.inr (.inr (fun _ => none)))))), (q_3, .inl (k_4, 28, .inr (.inr (.inr (.inr (zs 0 28 az_5)))))), (q_11, .inl (k_12, 122, .inr (.inr (.inr (.inr (zs 0 122 az_13)))))), (q_19, .inl (k_20, 122, .inl (fun _ => 0))), (q_21, .inl (k_22, 122, .inl (fun _ => 0)))] ++ (zp 4 16 122 az_13 ac_14 kz_15 q0z f0z ++ (zp 4 16 28 az_5 ac_6 kz_7 q0z f0z ++ []))) H := va_P.swap (a := [(h0, .inr (5, [.ref q_1, .int 0, .ref q_3, .int 0, .ref q_11, .ref q_19, .null, .null])), (q_1, .inl (k_2, 120, .inr (.inr (.inr (.inr (fun _ => none)))))), (q_3, .inl (k_4, 28, .inr (.inr (.inr (.inr (zs 0 28 az_5)))))), (q_11, .inl (k_12, 122, .inr (.inr (.inr (.inr (zs 0 122 az_13)))))), (q_19, .inl (k_20, 122, .inl (fun _ => 0)))]) (b := (zp 4 16 122 az_13 ac_14 kz_15 q0z f0z ++ (zp 4 16 28 az_5 ac_6 kz_7 q0z f0z ++ []))) (c := [(q_21, .inl (k_22, 122, .inl (fun _ => 0)))]) hP
      have hD : va_D A ([(h0, .inr (5, [.ref q_1, .int 0, .ref q_3, .int 0, .ref q_11, .ref q_19, .null, .null])), (q_1, .inl (k_2, 120, .inr (.inr (.inr (.inr (fun _ => none)))))), (q_3, .inl (k_4, 28, .inr (.inr (.inr (.inr (zs 0 28 az_5)))))), (q_11, .inl (k_12, 122, .inr (.inr (.inr (.inr (zs 0 122 az_13)))))), (q_19, .inl (k_20, 122, .inl (fun _ => 0))), (q_21, .inl (k_22, 122, .inl (fun _ => 0)))] ++ (zp 4 16 122 az_13 ac_14 kz_15 q0z f0z ++ (zp 4 16 28 az_5 ac_6 kz_7 q0z f0z ++ []))) := va_D.swap (a := [(h0, .inr (5, [.ref q_1, .int 0, .ref q_3, .int 0, .ref q_11, .ref q_19, .null, .null])), (q_1, .inl (k_2, 120, .inr (.inr (.inr (.inr (fun _ => none)))))), (q_3, .inl (k_4, 28, .inr (.inr (.inr (.inr (zs 0 28 az_5)))))), (q_11, .inl (k_12, 122, .inr (.inr (.inr (.inr (zs 0 122 az_13)))))), (q_19, .inl (k_20, 122, .inl (fun _ => 0)))]) (b := (zp 4 16 122 az_13 ac_14 kz_15 q0z f0z ++ (zp 4 16 28 az_5 ac_6 kz_7 q0z f0z ++ []))) (c := [(q_21, .inl (k_22, 122, .inl (fun _ => 0)))]) hD
      refine W.widen (k := 305) (n := 3214) (by omega) (by omega) ?_
      refine va_putF (D := (dC, dI)) (ci := 5) (v := .ref q_21) (ty := .array .int) (C := RX5) (T := TX5) (N := 8) hx hb hts hiX5 tyX5 tyX5_ok nmX5 hown hK hP hD hS 0 rfl rfl 6 (by decide) v_10 (fun _ h9 => h9) rfl hin rfl (by decide +kernel) rfl rfl (Nat.le_of_ble_eq_true rfl) dX5_init_106 (fun H locs hP hD hS => ?_)
      have hP : va_P (dC, dI) vwCl ([(h0, .inr (5, [.ref q_1, .int 0, .ref q_3, .int 0, .ref q_11, .ref q_19, .ref q_21, .null])), (q_1, .inl (k_2, 120, .inr (.inr (.inr (.inr (fun _ => none)))))), (q_3, .inl (k_4, 28, .inr (.inr (.inr (.inr (zs 0 28 az_5)))))), (q_11, .inl (k_12, 122, .inr (.inr (.inr (.inr (zs 0 122 az_13)))))), (q_19, .inl (k_20, 122, .inl (fun _ => 0))), (q_21, .inl (k_22, 122, .inl (fun _ => 0)))] ++ (zp 4 16 122 az_13 ac_14 kz_15 q0z f0z ++ (zp 4 16 28 az_5 ac_6 kz_7 q0z f0z ++ []))) H := hP
      have hD : va_D A ([(h0, .inr (5, [.ref q_1, .int 0, .ref q_3, .int 0, .ref q_11, .ref q_19, .ref q_21, .null])), (q_1, .inl (k_2, 120, .inr (.inr (.inr (.inr (fun _ => none)))))), (q_3, .inl (k_4, 28, .inr (.inr (.inr (.inr (zs 0 28 az_5)))))), (q_11, .inl (k_12, 122, .inr (.inr (.inr (.inr (zs 0 122 az_13)))))), (q_19, .inl (k_20, 122, .inl (fun _ => 0))), (q_21, .inl (k_22, 122, .inl (fun _ => 0)))] ++ (zp 4 16 122 az_13 ac_14 kz_15 q0z f0z ++ (zp 4 16 28 az_5 ac_6 kz_7 q0z f0z ++ []))) := hD
      refine lv_aload_n hx hb dX5_init_109 rfl (lv_at hl 0 rfl) ?_
      refine va_new (ci := 7) (fs := [.null, .int 0]) (C := RX7) (T := TX7) (N := 2) hx hb hts hiX7 tyX7 tyX7_ok hown v_4 v_11 v_12 hK hP hD hS hA rfl (pu_fs (by decide)) (Nat.le_of_ble_eq_true rfl) (Nat.le_of_ble_eq_true rfl) dX5_init_110 (fun q_23 H hP hD hS => ?_)
      have hP : va_P (dC, dI) vwCl ([(h0, .inr (5, [.ref q_1, .int 0, .ref q_3, .int 0, .ref q_11, .ref q_19, .ref q_21, .null])), (q_1, .inl (k_2, 120, .inr (.inr (.inr (.inr (fun _ => none)))))), (q_3, .inl (k_4, 28, .inr (.inr (.inr (.inr (zs 0 28 az_5)))))), (q_11, .inl (k_12, 122, .inr (.inr (.inr (.inr (zs 0 122 az_13)))))), (q_19, .inl (k_20, 122, .inl (fun _ => 0))), (q_21, .inl (k_22, 122, .inl (fun _ => 0))), (q_23, .inr (7, [.null, .int 0]))] ++ (zp 4 16 122 az_13 ac_14 kz_15 q0z f0z ++ (zp 4 16 28 az_5 ac_6 kz_7 q0z f0z ++ []))) H := va_P.swap (a := [(h0, .inr (5, [.ref q_1, .int 0, .ref q_3, .int 0, .ref q_11, .ref q_19, .ref q_21, .null])), (q_1, .inl (k_2, 120, .inr (.inr (.inr (.inr (fun _ => none)))))), (q_3, .inl (k_4, 28, .inr (.inr (.inr (.inr (zs 0 28 az_5)))))), (q_11, .inl (k_12, 122, .inr (.inr (.inr (.inr (zs 0 122 az_13)))))), (q_19, .inl (k_20, 122, .inl (fun _ => 0))), (q_21, .inl (k_22, 122, .inl (fun _ => 0)))]) (b := (zp 4 16 122 az_13 ac_14 kz_15 q0z f0z ++ (zp 4 16 28 az_5 ac_6 kz_7 q0z f0z ++ []))) (c := [(q_23, .inr (7, [.null, .int 0]))]) hP
      have hD : va_D A ([(h0, .inr (5, [.ref q_1, .int 0, .ref q_3, .int 0, .ref q_11, .ref q_19, .ref q_21, .null])), (q_1, .inl (k_2, 120, .inr (.inr (.inr (.inr (fun _ => none)))))), (q_3, .inl (k_4, 28, .inr (.inr (.inr (.inr (zs 0 28 az_5)))))), (q_11, .inl (k_12, 122, .inr (.inr (.inr (.inr (zs 0 122 az_13)))))), (q_19, .inl (k_20, 122, .inl (fun _ => 0))), (q_21, .inl (k_22, 122, .inl (fun _ => 0))), (q_23, .inr (7, [.null, .int 0]))] ++ (zp 4 16 122 az_13 ac_14 kz_15 q0z f0z ++ (zp 4 16 28 az_5 ac_6 kz_7 q0z f0z ++ []))) := va_D.swap (a := [(h0, .inr (5, [.ref q_1, .int 0, .ref q_3, .int 0, .ref q_11, .ref q_19, .ref q_21, .null])), (q_1, .inl (k_2, 120, .inr (.inr (.inr (.inr (fun _ => none)))))), (q_3, .inl (k_4, 28, .inr (.inr (.inr (.inr (zs 0 28 az_5)))))), (q_11, .inl (k_12, 122, .inr (.inr (.inr (.inr (zs 0 122 az_13)))))), (q_19, .inl (k_20, 122, .inl (fun _ => 0))), (q_21, .inl (k_22, 122, .inl (fun _ => 0)))]) (b := (zp 4 16 122 az_13 ac_14 kz_15 q0z f0z ++ (zp 4 16 28 az_5 ac_6 kz_7 q0z f0z ++ []))) (c := [(q_23, .inr (7, [.null, .int 0]))]) hD
      refine W.widen (k := 306) (n := 3216) (by omega) (by omega) ?_
      refine lv_dup hx hb dX5_init_113 rfl ?_
      refine lv_iconst (v := 4) hx hb dX5_init_114 (by decide) ?_
      have hFc := va_free (wc := [(q_23, .inr (7, [.null, .int 0]))]) hD hS hA [6] rfl
      refine va_callv (va_runI (As := [.int 4]) (rest := [.ref q_23, .ref h0]) ⟨hx, hb, hml, hown, hts⟩ (c_X7_init_4 l dC dI _ q_23) (cwI 1 hts g_X5_init_X7_init_4 rfl rfl rfl v_12 v_16 v_17 rfl (by decide +kernel) ⟨Nat.le_of_ble_eq_true rfl, Nat.le_of_ble_eq_true rfl⟩) ⟨pu_bl, pu_in (hP.sub [6] rfl) (hK.sub [] rfl) (hD.sub [6] (by decide) rfl)⟩ rfl rfl hl.1 rfl (lv_room (Nat.le_of_ble_eq_true rfl)) dX5_init_115 ⟨Nat.le_of_ble_eq_true rfl, Nat.le_of_ble_eq_true rfl⟩) hS (fun q _ h => hFc q h) hFc (fun u t H1 locs ht hvm hw hB hz1 hk1 hS => ?_)
      obtain ⟨q1_24, k1_25, ⟨hP1, hK1, hD1⟩⟩ := hB
      rw [ht] at hP1
      have hK1 := va_K.moved hvm.symm hK1
      obtain ⟨hP, hD⟩ := jn_last (X := [(h0, .inr (5, [.ref q_1, .int 0, .ref q_3, .int 0, .ref q_11, .ref q_19, .ref q_21, .null])), (q_1, .inl (k_2, 120, .inr (.inr (.inr (.inr (fun _ => none)))))), (q_3, .inl (k_4, 28, .inr (.inr (.inr (.inr (zs 0 28 az_5)))))), (q_11, .inl (k_12, 122, .inr (.inr (.inr (.inr (zs 0 122 az_13)))))), (q_19, .inl (k_20, 122, .inl (fun _ => 0))), (q_21, .inl (k_22, 122, .inl (fun _ => 0)))]) (T := (zp 4 16 122 az_13 ac_14 kz_15 q0z f0z ++ (zp 4 16 28 az_5 ac_6 kz_7 q0z f0z ++ []))) (wc := [(q_23, .inr (7, [.null, .int 0]))]) (w1 := [(q_23, .inr (7, [.ref q1_24, .int 0])), (q1_24, .inl (k1_25, 16, .inl (fun _ => 0)))]) hP hD hk1 hFc hP1 hD1
      have hK := wk_ins (a := [(k_2, .object RX7), (k_4, .object RX7), (k_12, .object RX7), (k_20, .int), (k_22, .int)]) (b := (zt 122 kz_15 ++ (zt 28 kz_7 ++ []))) (c := [(k1_25, .int)]) hK hK1
      clear hk1 hz1 ht hvm
      generalize H1 = H at hP hS ⊢
      have hP : va_P (dC, dI) vwCl ([(h0, .inr (5, [.ref q_1, .int 0, .ref q_3, .int 0, .ref q_11, .ref q_19, .ref q_21, .null])), (q_1, .inl (k_2, 120, .inr (.inr (.inr (.inr (fun _ => none)))))), (q_3, .inl (k_4, 28, .inr (.inr (.inr (.inr (zs 0 28 az_5)))))), (q_11, .inl (k_12, 122, .inr (.inr (.inr (.inr (zs 0 122 az_13)))))), (q_19, .inl (k_20, 122, .inl (fun _ => 0))), (q_21, .inl (k_22, 122, .inl (fun _ => 0))), (q_23, .inr (7, [.ref q1_24, .int 0])), (q1_24, .inl (k1_25, 16, .inl (fun _ => 0)))] ++ (zp 4 16 122 az_13 ac_14 kz_15 q0z f0z ++ (zp 4 16 28 az_5 ac_6 kz_7 q0z f0z ++ []))) H := hP
      have hD : va_D A ([(h0, .inr (5, [.ref q_1, .int 0, .ref q_3, .int 0, .ref q_11, .ref q_19, .ref q_21, .null])), (q_1, .inl (k_2, 120, .inr (.inr (.inr (.inr (fun _ => none)))))), (q_3, .inl (k_4, 28, .inr (.inr (.inr (.inr (zs 0 28 az_5)))))), (q_11, .inl (k_12, 122, .inr (.inr (.inr (.inr (zs 0 122 az_13)))))), (q_19, .inl (k_20, 122, .inl (fun _ => 0))), (q_21, .inl (k_22, 122, .inl (fun _ => 0))), (q_23, .inr (7, [.ref q1_24, .int 0])), (q1_24, .inl (k1_25, 16, .inl (fun _ => 0)))] ++ (zp 4 16 122 az_13 ac_14 kz_15 q0z f0z ++ (zp 4 16 28 az_5 ac_6 kz_7 q0z f0z ++ []))) := hD
      have hK : va_K (dC, dI) vwCl ([(k_2, .object RX7), (k_4, .object RX7), (k_12, .object RX7), (k_20, .int), (k_22, .int), (k1_25, .int)] ++ (zt 122 kz_15 ++ (zt 28 kz_7 ++ []))) s := hK
      refine W.widen (k := 307) (n := 3232) (by first | omega | exact Nat.le_of_ble_eq_true rfl) (by first | omega | exact Nat.le_of_ble_eq_true rfl) ?_
      refine va_putF (D := (dC, dI)) (ci := 5) (v := .ref q_23) (ty := .object "ClockReach$Zone") (C := RX5) (T := TX5) (N := 8) hx hb hts hiX5 tyX5 tyX5_ok nmX5 hown hK hP hD hS 0 rfl rfl 7 (by decide) v_18 (fun _ h9 => h9) rfl hin rfl (by decide +kernel) rfl rfl (Nat.le_of_ble_eq_true rfl) dX5_init_118 (fun H locs hP hD hS => ?_)
      have hP : va_P (dC, dI) vwCl ([(h0, .inr (5, [.ref q_1, .int 0, .ref q_3, .int 0, .ref q_11, .ref q_19, .ref q_21, .ref q_23])), (q_1, .inl (k_2, 120, .inr (.inr (.inr (.inr (fun _ => none)))))), (q_3, .inl (k_4, 28, .inr (.inr (.inr (.inr (zs 0 28 az_5)))))), (q_11, .inl (k_12, 122, .inr (.inr (.inr (.inr (zs 0 122 az_13)))))), (q_19, .inl (k_20, 122, .inl (fun _ => 0))), (q_21, .inl (k_22, 122, .inl (fun _ => 0))), (q_23, .inr (7, [.ref q1_24, .int 0])), (q1_24, .inl (k1_25, 16, .inl (fun _ => 0)))] ++ (zp 4 16 122 az_13 ac_14 kz_15 q0z f0z ++ (zp 4 16 28 az_5 ac_6 kz_7 q0z f0z ++ []))) H := hP
      have hD : va_D A ([(h0, .inr (5, [.ref q_1, .int 0, .ref q_3, .int 0, .ref q_11, .ref q_19, .ref q_21, .ref q_23])), (q_1, .inl (k_2, 120, .inr (.inr (.inr (.inr (fun _ => none)))))), (q_3, .inl (k_4, 28, .inr (.inr (.inr (.inr (zs 0 28 az_5)))))), (q_11, .inl (k_12, 122, .inr (.inr (.inr (.inr (zs 0 122 az_13)))))), (q_19, .inl (k_20, 122, .inl (fun _ => 0))), (q_21, .inl (k_22, 122, .inl (fun _ => 0))), (q_23, .inr (7, [.ref q1_24, .int 0])), (q1_24, .inl (k1_25, 16, .inl (fun _ => 0)))] ++ (zp 4 16 122 az_13 ac_14 kz_15 q0z f0z ++ (zp 4 16 28 az_5 ac_6 kz_7 q0z f0z ++ []))) := hD
      refine W.widen (k := 307) (n := 3232) (by first | omega | exact Nat.le_of_ble_eq_true rfl) (by first | omega | exact Nat.le_of_ble_eq_true rfl) ?_
      have hP9 : va_P (dC, dI) vwCl ([(h0, .inr (5, [.ref q_1, .int 0, .ref q_3, .int 0, .ref q_11, .ref q_19, .ref q_21, .ref q_23])), (q_1, .inl (k_2, 120, .inr (.inr (.inr (.inr (fun _ => none)))))), (q_3, .inl (k_4, 28, .inr (.inr (.inr (.inr (zs 0 28 az_5)))))), (q_11, .inl (k_12, 122, .inr (.inr (.inr (.inr (zs 0 122 az_13)))))), (q_19, .inl (k_20, 122, .inl (fun _ => 0))), (q_21, .inl (k_22, 122, .inl (fun _ => 0))), (q_23, .inr (7, [.ref q1_24, .int 0])), (q1_24, .inl (k1_25, 16, .inl (fun _ => 0)))] ++ (zp 4 16 122 az_13 ac_14 kz_15 q0z f0z ++ (zp 4 16 28 az_5 ac_6 kz_7 q0z f0z ++ []))) H := hP.part [0, 1, 2, 3, 4, 5, 6, 7] rfl
      have hD9 : va_D A ([(h0, .inr (5, [.ref q_1, .int 0, .ref q_3, .int 0, .ref q_11, .ref q_19, .ref q_21, .ref q_23])), (q_1, .inl (k_2, 120, .inr (.inr (.inr (.inr (fun _ => none)))))), (q_3, .inl (k_4, 28, .inr (.inr (.inr (.inr (zs 0 28 az_5)))))), (q_11, .inl (k_12, 122, .inr (.inr (.inr (.inr (zs 0 122 az_13)))))), (q_19, .inl (k_20, 122, .inl (fun _ => 0))), (q_21, .inl (k_22, 122, .inl (fun _ => 0))), (q_23, .inr (7, [.ref q1_24, .int 0])), (q1_24, .inl (k1_25, 16, .inl (fun _ => 0)))] ++ (zp 4 16 122 az_13 ac_14 kz_15 q0z f0z ++ (zp 4 16 28 az_5 ac_6 kz_7 q0z f0z ++ []))) := hD.part [0, 1, 2, 3, 4, 5, 6, 7] (by decide) rfl
      have hK9 : va_K (dC, dI) vwCl ([(k_2, .object RX7), (k_4, .object RX7), (k_12, .object RX7), (k_20, .int), (k_22, .int), (k1_25, .int)] ++ (zt 122 kz_15 ++ (zt 28 kz_7 ++ []))) s := zk_part hK [0, 1, 2, 3, 4, 5] rfl
      exact W.vret hx hb hr (fun t ht hW => ⟨⟨(), rfl, trivial, q_1, q_3, q_11, q_19, q_21, q_23, q1_24, k_2, k_4, k_12, k_20, k_22, k1_25, az_5, ac_6, az_13, ac_14, kz_7, kz_15, ⟨by rw [ht]; exact hP9, va_K.moved hW.alike hK9, hD9⟩⟩, hS.F ht⟩) hS.2.2 dX5_init_121
    · rintro i_16 h_17 ih_18 H locs ls ⟨az_13, ac_14, kz_15, hP, hD, hK, hS, hl⟩
      refine lv_iload_n hx hb dX5_init_64 rfl (lv_at hl 1 rfl) ?_
      refine lv_aload_n hx hb dX5_init_65 rfl (lv_at hl 0 rfl) ?_
      refine va_get (D := (dC, dI)) (ci := 5) (v := .ref q_11) (C := RX5) (T := TX5) (N := 8) hx hb hts hiX5 hown hK hP 0 rfl rfl 4 (by decide) v_7 (fun _ h9 => h9) rfl dX5_init_66 ?_
      refine va_alen (v := 122) hx hb hK hP 3 2 rfl rfl rfl dX5_init_69 ?_
      refine lv_icmp_ge (tgt := 93) hx hb dX5_init_70 (by decide) (fun z => absurd z (nI_ge (b := 122) (by omega) (by decide))) (fun _ => ?_)
      refine lv_aload_n hx hb dX5_init_73 rfl (lv_at hl 0 rfl) ?_
      refine va_get (D := (dC, dI)) (ci := 5) (v := .ref q_11) (C := RX5) (T := TX5) (N := 8) hx hb hts hiX5 hown hK hP 0 rfl rfl 4 (by decide) v_7 (fun _ h9 => h9) rfl dX5_init_74 ?_
      refine lv_iload_n hx hb dX5_init_77 rfl (lv_at hl 1 rfl) ?_
      refine va_new (ci := 7) (fs := [.null, .int 0]) (C := RX7) (T := TX7) (N := 2) hx hb hts hiX7 tyX7 tyX7_ok hown v_4 v_11 v_12 hK hP hD hS hA rfl (pu_fs (by decide)) (by show _ ≤ 307; omega) (by show _ ≤ 3232; omega) dX5_init_78 (fun q_26 H hP hD hS => ?_)
      have hP : va_P (dC, dI) vwCl ([(h0, .inr (5, [.ref q_1, .int 0, .ref q_3, .int 0, .ref q_11, .null, .null, .null])), (q_1, .inl (k_2, 120, .inr (.inr (.inr (.inr (fun _ => none)))))), (q_3, .inl (k_4, 28, .inr (.inr (.inr (.inr (zs 0 28 az_5)))))), (q_11, .inl (k_12, 122, .inr (.inr (.inr (.inr (zs 0 i_16 az_13)))))), (q_26, .inr (7, [.null, .int 0]))] ++ (zp 4 16 i_16 az_13 ac_14 kz_15 q0z f0z ++ (zp 4 16 28 az_5 ac_6 kz_7 q0z f0z ++ []))) H := va_P.swap (a := [(h0, .inr (5, [.ref q_1, .int 0, .ref q_3, .int 0, .ref q_11, .null, .null, .null])), (q_1, .inl (k_2, 120, .inr (.inr (.inr (.inr (fun _ => none)))))), (q_3, .inl (k_4, 28, .inr (.inr (.inr (.inr (zs 0 28 az_5)))))), (q_11, .inl (k_12, 122, .inr (.inr (.inr (.inr (zs 0 i_16 az_13))))))]) (b := (zp 4 16 i_16 az_13 ac_14 kz_15 q0z f0z ++ (zp 4 16 28 az_5 ac_6 kz_7 q0z f0z ++ []))) (c := [(q_26, .inr (7, [.null, .int 0]))]) hP
      have hD : va_D A ([(h0, .inr (5, [.ref q_1, .int 0, .ref q_3, .int 0, .ref q_11, .null, .null, .null])), (q_1, .inl (k_2, 120, .inr (.inr (.inr (.inr (fun _ => none)))))), (q_3, .inl (k_4, 28, .inr (.inr (.inr (.inr (zs 0 28 az_5)))))), (q_11, .inl (k_12, 122, .inr (.inr (.inr (.inr (zs 0 i_16 az_13)))))), (q_26, .inr (7, [.null, .int 0]))] ++ (zp 4 16 i_16 az_13 ac_14 kz_15 q0z f0z ++ (zp 4 16 28 az_5 ac_6 kz_7 q0z f0z ++ []))) := va_D.swap (a := [(h0, .inr (5, [.ref q_1, .int 0, .ref q_3, .int 0, .ref q_11, .null, .null, .null])), (q_1, .inl (k_2, 120, .inr (.inr (.inr (.inr (fun _ => none)))))), (q_3, .inl (k_4, 28, .inr (.inr (.inr (.inr (zs 0 28 az_5)))))), (q_11, .inl (k_12, 122, .inr (.inr (.inr (.inr (zs 0 i_16 az_13))))))]) (b := (zp 4 16 i_16 az_13 ac_14 kz_15 q0z f0z ++ (zp 4 16 28 az_5 ac_6 kz_7 q0z f0z ++ []))) (c := [(q_26, .inr (7, [.null, .int 0]))]) hD
      refine W.widen (k := 60 + 2 * i_16) (n := 776 + 18 * i_16) (by omega) (by omega) ?_
      refine lv_dup hx hb dX5_init_81 rfl ?_
      refine lv_iconst (v := 4) hx hb dX5_init_82 (by decide) ?_
      have hFc := va_free (wc := [(q_26, .inr (7, [.null, .int 0]))]) hD hS hA [4] rfl
      refine va_callv (va_runI (As := [.int 4]) (rest := [.ref q_26, .int (nI i_16), .ref q_11]) ⟨hx, hb, hml, hown, hts⟩ (c_X7_init_4 l dC dI _ q_26) (cwI 1 hts g_X5_init_X7_init_4 rfl rfl rfl v_12 v_16 v_17 rfl (by decide +kernel) ⟨Nat.le_of_ble_eq_true rfl, Nat.le_of_ble_eq_true rfl⟩) ⟨pu_bl, pu_in (hP.sub [4] rfl) (hK.sub [] rfl) (hD.sub [4] (by decide) rfl)⟩ rfl rfl hl.1 rfl (lv_room (Nat.le_of_ble_eq_true rfl)) dX5_init_83 ⟨by show _ ≤ 307; omega, by show _ ≤ 3232; omega⟩) hS (fun q _ h => hFc q h) hFc (fun u t H1 locs ht hvm hw hB hz1 hk1 hS => ?_)
      obtain ⟨q1_27, k1_28, ⟨hP1, hK1, hD1⟩⟩ := hB
      rw [ht] at hP1
      have hK1 := va_K.moved hvm.symm hK1
      obtain ⟨hP, hD⟩ := jn_last (X := [(h0, .inr (5, [.ref q_1, .int 0, .ref q_3, .int 0, .ref q_11, .null, .null, .null])), (q_1, .inl (k_2, 120, .inr (.inr (.inr (.inr (fun _ => none)))))), (q_3, .inl (k_4, 28, .inr (.inr (.inr (.inr (zs 0 28 az_5)))))), (q_11, .inl (k_12, 122, .inr (.inr (.inr (.inr (zs 0 i_16 az_13))))))]) (T := (zp 4 16 i_16 az_13 ac_14 kz_15 q0z f0z ++ (zp 4 16 28 az_5 ac_6 kz_7 q0z f0z ++ []))) (wc := [(q_26, .inr (7, [.null, .int 0]))]) (w1 := [(q_26, .inr (7, [.ref q1_27, .int 0])), (q1_27, .inl (k1_28, 16, .inl (fun _ => 0)))]) hP hD hk1 hFc hP1 hD1
      have hK := wk_ins (a := [(k_2, .object RX7), (k_4, .object RX7), (k_12, .object RX7)]) (b := (zt i_16 kz_15 ++ (zt 28 kz_7 ++ []))) (c := [(k1_28, .int)]) hK hK1
      clear hk1 hz1 ht hvm
      generalize H1 = H at hP hS ⊢
      have hP : va_P (dC, dI) vwCl ([(h0, .inr (5, [.ref q_1, .int 0, .ref q_3, .int 0, .ref q_11, .null, .null, .null])), (q_1, .inl (k_2, 120, .inr (.inr (.inr (.inr (fun _ => none)))))), (q_3, .inl (k_4, 28, .inr (.inr (.inr (.inr (zs 0 28 az_5)))))), (q_11, .inl (k_12, 122, .inr (.inr (.inr (.inr (zs 0 i_16 az_13)))))), (q_26, .inr (7, [.ref q1_27, .int 0])), (q1_27, .inl (k1_28, 16, .inl (fun _ => 0)))] ++ (zp 4 16 i_16 az_13 ac_14 kz_15 q0z f0z ++ (zp 4 16 28 az_5 ac_6 kz_7 q0z f0z ++ []))) H := hP
      have hD : va_D A ([(h0, .inr (5, [.ref q_1, .int 0, .ref q_3, .int 0, .ref q_11, .null, .null, .null])), (q_1, .inl (k_2, 120, .inr (.inr (.inr (.inr (fun _ => none)))))), (q_3, .inl (k_4, 28, .inr (.inr (.inr (.inr (zs 0 28 az_5)))))), (q_11, .inl (k_12, 122, .inr (.inr (.inr (.inr (zs 0 i_16 az_13)))))), (q_26, .inr (7, [.ref q1_27, .int 0])), (q1_27, .inl (k1_28, 16, .inl (fun _ => 0)))] ++ (zp 4 16 i_16 az_13 ac_14 kz_15 q0z f0z ++ (zp 4 16 28 az_5 ac_6 kz_7 q0z f0z ++ []))) := hD
      have hK : va_K (dC, dI) vwCl ([(k_2, .object RX7), (k_4, .object RX7), (k_12, .object RX7), (k1_28, .int)] ++ (zt i_16 kz_15 ++ (zt 28 kz_7 ++ []))) s := hK
      refine W.widen (k := 61 + 2 * i_16) (n := 792 + 18 * i_16) (by first | omega | exact Nat.le_of_ble_eq_true rfl) (by first | omega | exact Nat.le_of_ble_eq_true rfl) ?_
      refine va_astq (r := (RX7, TX7, 2)) hx hb hK hP hD hS 3 2 4 7 rfl rfl rfl rfl (vp_in_nI (by omega) (by decide)) dX5_init_86 (fun H locs hP hD hS => ?_)
      have hP : va_P (dC, dI) vwCl ([(h0, .inr (5, [.ref q_1, .int 0, .ref q_3, .int 0, .ref q_11, .null, .null, .null])), (q_1, .inl (k_2, 120, .inr (.inr (.inr (.inr (fun _ => none)))))), (q_3, .inl (k_4, 28, .inr (.inr (.inr (.inr (zs 0 28 az_5)))))), (q_11, .inl (k_12, 122, .inr (.inr (.inr (.inr (va_up (zs 0 i_16 az_13) ((nI i_16) : Int32).toNatClampNeg (some q_26))))))), (q_26, .inr (7, [.ref q1_27, .int 0])), (q1_27, .inl (k1_28, 16, .inl (fun _ => 0)))] ++ (zp 4 16 i_16 az_13 ac_14 kz_15 q0z f0z ++ (zp 4 16 28 az_5 ac_6 kz_7 q0z f0z ++ []))) H := hP
      have hD : va_D A ([(h0, .inr (5, [.ref q_1, .int 0, .ref q_3, .int 0, .ref q_11, .null, .null, .null])), (q_1, .inl (k_2, 120, .inr (.inr (.inr (.inr (fun _ => none)))))), (q_3, .inl (k_4, 28, .inr (.inr (.inr (.inr (zs 0 28 az_5)))))), (q_11, .inl (k_12, 122, .inr (.inr (.inr (.inr (va_up (zs 0 i_16 az_13) ((nI i_16) : Int32).toNatClampNeg (some q_26))))))), (q_26, .inr (7, [.ref q1_27, .int 0])), (q1_27, .inl (k1_28, 16, .inl (fun _ => 0)))] ++ (zp 4 16 i_16 az_13 ac_14 kz_15 q0z f0z ++ (zp 4 16 28 az_5 ac_6 kz_7 q0z f0z ++ []))) := hD
      refine lv_iinc (v := (nI (i_16 + 1))) (lv' := [(1, .int (nI (i_16 + 1))), (0, .ref h0)]) hx hb dX5_init_87 hl (k := 1) rfl (nI_1 _) (by decide) rfl (fun ls hl => ?_)
      refine lv_goto (tgt := 64) hx hb dX5_init_90 (by decide) ?_
      rw [zs_push (by omega)] at hP hD
      have hP : va_P (dC, dI) vwCl ([(h0, .inr (5, [.ref q_1, .int 0, .ref q_3, .int 0, .ref q_11, .null, .null, .null])), (q_1, .inl (k_2, 120, .inr (.inr (.inr (.inr (fun _ => none)))))), (q_3, .inl (k_4, 28, .inr (.inr (.inr (.inr (zs 0 28 az_5)))))), (q_11, .inl (k_12, 122, .inr (.inr (.inr (.inr (zs 0 (i_16 + 1) (pz i_16 q_26 az_13)))))))] ++ (zp 4 16 (i_16 + 1) (pz i_16 q_26 az_13) (pz i_16 q1_27 ac_14) (pz i_16 k1_28 kz_15) q0z f0z ++ (zp 4 16 28 az_5 ac_6 kz_7 q0z f0z ++ []))) H := zp_pushP (X := [(h0, .inr (5, [.ref q_1, .int 0, .ref q_3, .int 0, .ref q_11, .null, .null, .null])), (q_1, .inl (k_2, 120, .inr (.inr (.inr (.inr (fun _ => none)))))), (q_3, .inl (k_4, 28, .inr (.inr (.inr (.inr (zs 0 28 az_5)))))), (q_11, .inl (k_12, 122, .inr (.inr (.inr (.inr (zs 0 (i_16 + 1) (pz i_16 q_26 az_13)))))))]) hP
      have hD : va_D A ([(h0, .inr (5, [.ref q_1, .int 0, .ref q_3, .int 0, .ref q_11, .null, .null, .null])), (q_1, .inl (k_2, 120, .inr (.inr (.inr (.inr (fun _ => none)))))), (q_3, .inl (k_4, 28, .inr (.inr (.inr (.inr (zs 0 28 az_5)))))), (q_11, .inl (k_12, 122, .inr (.inr (.inr (.inr (zs 0 (i_16 + 1) (pz i_16 q_26 az_13)))))))] ++ (zp 4 16 (i_16 + 1) (pz i_16 q_26 az_13) (pz i_16 q1_27 ac_14) (pz i_16 k1_28 kz_15) q0z f0z ++ (zp 4 16 28 az_5 ac_6 kz_7 q0z f0z ++ []))) := zp_pushD (X := [(h0, .inr (5, [.ref q_1, .int 0, .ref q_3, .int 0, .ref q_11, .null, .null, .null])), (q_1, .inl (k_2, 120, .inr (.inr (.inr (.inr (fun _ => none)))))), (q_3, .inl (k_4, 28, .inr (.inr (.inr (.inr (zs 0 28 az_5)))))), (q_11, .inl (k_12, 122, .inr (.inr (.inr (.inr (zs 0 (i_16 + 1) (pz i_16 q_26 az_13)))))))]) hD
      have hK := zt_push (X := [(k_2, .object RX7), (k_4, .object RX7), (k_12, .object RX7)]) hK
      refine W.widen (k := 59 + 2 * (i_16 + 1)) (n := 774 + 18 * (i_16 + 1)) (by omega) (by omega) ?_
      exact ih_18 _ _ _ ⟨_, _, _, hP, hD, hK, hS, lv_sub hl [1, 0] rfl⟩
  · rintro i_8 h_9 ih_10 H locs ls ⟨az_5, ac_6, kz_7, hP, hD, hK, hS, hl⟩
    refine lv_iload_n hx hb dX5_init_24 rfl (lv_at hl 1 rfl) ?_
    refine lv_aload_n hx hb dX5_init_25 rfl (lv_at hl 0 rfl) ?_
    refine va_get (D := (dC, dI)) (ci := 5) (v := .ref q_3) (C := RX5) (T := TX5) (N := 8) hx hb hts hiX5 hown hK hP 0 rfl rfl 2 (by decide) v_6 (fun _ h9 => h9) rfl dX5_init_26 ?_
    refine va_alen (v := 28) hx hb hK hP 2 1 rfl rfl rfl dX5_init_29 ?_
    refine lv_icmp_ge (tgt := 53) hx hb dX5_init_30 (by decide) (fun z => absurd z (nI_ge (b := 28) (by omega) (by decide))) (fun _ => ?_)
    refine lv_aload_n hx hb dX5_init_33 rfl (lv_at hl 0 rfl) ?_
    refine va_get (D := (dC, dI)) (ci := 5) (v := .ref q_3) (C := RX5) (T := TX5) (N := 8) hx hb hts hiX5 hown hK hP 0 rfl rfl 2 (by decide) v_6 (fun _ h9 => h9) rfl dX5_init_34 ?_
    refine lv_iload_n hx hb dX5_init_37 rfl (lv_at hl 1 rfl) ?_
    refine va_new (ci := 7) (fs := [.null, .int 0]) (C := RX7) (T := TX7) (N := 2) hx hb hts hiX7 tyX7 tyX7_ok hown v_4 v_11 v_12 hK hP hD hS hA rfl (pu_fs (by decide)) (by show _ ≤ 307; omega) (by show _ ≤ 3232; omega) dX5_init_38 (fun q_29 H hP hD hS => ?_)
    have hP : va_P (dC, dI) vwCl ([(h0, .inr (5, [.ref q_1, .int 0, .ref q_3, .int 0, .null, .null, .null, .null])), (q_1, .inl (k_2, 120, .inr (.inr (.inr (.inr (fun _ => none)))))), (q_3, .inl (k_4, 28, .inr (.inr (.inr (.inr (zs 0 i_8 az_5)))))), (q_29, .inr (7, [.null, .int 0]))] ++ (zp 4 16 i_8 az_5 ac_6 kz_7 q0z f0z ++ [])) H := va_P.swap (a := [(h0, .inr (5, [.ref q_1, .int 0, .ref q_3, .int 0, .null, .null, .null, .null])), (q_1, .inl (k_2, 120, .inr (.inr (.inr (.inr (fun _ => none)))))), (q_3, .inl (k_4, 28, .inr (.inr (.inr (.inr (zs 0 i_8 az_5))))))]) (b := (zp 4 16 i_8 az_5 ac_6 kz_7 q0z f0z ++ [])) (c := [(q_29, .inr (7, [.null, .int 0]))]) hP
    have hD : va_D A ([(h0, .inr (5, [.ref q_1, .int 0, .ref q_3, .int 0, .null, .null, .null, .null])), (q_1, .inl (k_2, 120, .inr (.inr (.inr (.inr (fun _ => none)))))), (q_3, .inl (k_4, 28, .inr (.inr (.inr (.inr (zs 0 i_8 az_5)))))), (q_29, .inr (7, [.null, .int 0]))] ++ (zp 4 16 i_8 az_5 ac_6 kz_7 q0z f0z ++ [])) := va_D.swap (a := [(h0, .inr (5, [.ref q_1, .int 0, .ref q_3, .int 0, .null, .null, .null, .null])), (q_1, .inl (k_2, 120, .inr (.inr (.inr (.inr (fun _ => none)))))), (q_3, .inl (k_4, 28, .inr (.inr (.inr (.inr (zs 0 i_8 az_5))))))]) (b := (zp 4 16 i_8 az_5 ac_6 kz_7 q0z f0z ++ [])) (c := [(q_29, .inr (7, [.null, .int 0]))]) hD
    refine W.widen (k := 3 + 2 * i_8) (n := 150 + 18 * i_8) (by omega) (by omega) ?_
    refine lv_dup hx hb dX5_init_41 rfl ?_
    refine lv_iconst (v := 4) hx hb dX5_init_42 (by decide) ?_
    have hFc := va_free (wc := [(q_29, .inr (7, [.null, .int 0]))]) hD hS hA [3] rfl
    refine va_callv (va_runI (As := [.int 4]) (rest := [.ref q_29, .int (nI i_8), .ref q_3]) ⟨hx, hb, hml, hown, hts⟩ (c_X7_init_4 l dC dI _ q_29) (cwI 1 hts g_X5_init_X7_init_4 rfl rfl rfl v_12 v_16 v_17 rfl (by decide +kernel) ⟨Nat.le_of_ble_eq_true rfl, Nat.le_of_ble_eq_true rfl⟩) ⟨pu_bl, pu_in (hP.sub [3] rfl) (hK.sub [] rfl) (hD.sub [3] (by decide) rfl)⟩ rfl rfl hl.1 rfl (lv_room (Nat.le_of_ble_eq_true rfl)) dX5_init_43 ⟨by show _ ≤ 307; omega, by show _ ≤ 3232; omega⟩) hS (fun q _ h => hFc q h) hFc (fun u t H1 locs ht hvm hw hB hz1 hk1 hS => ?_)
    obtain ⟨q1_30, k1_31, ⟨hP1, hK1, hD1⟩⟩ := hB
    rw [ht] at hP1
    have hK1 := va_K.moved hvm.symm hK1
    obtain ⟨hP, hD⟩ := jn_last (X := [(h0, .inr (5, [.ref q_1, .int 0, .ref q_3, .int 0, .null, .null, .null, .null])), (q_1, .inl (k_2, 120, .inr (.inr (.inr (.inr (fun _ => none)))))), (q_3, .inl (k_4, 28, .inr (.inr (.inr (.inr (zs 0 i_8 az_5))))))]) (T := (zp 4 16 i_8 az_5 ac_6 kz_7 q0z f0z ++ [])) (wc := [(q_29, .inr (7, [.null, .int 0]))]) (w1 := [(q_29, .inr (7, [.ref q1_30, .int 0])), (q1_30, .inl (k1_31, 16, .inl (fun _ => 0)))]) hP hD hk1 hFc hP1 hD1
    have hK := wk_ins (a := [(k_2, .object RX7), (k_4, .object RX7)]) (b := (zt i_8 kz_7 ++ [])) (c := [(k1_31, .int)]) hK hK1
    clear hk1 hz1 ht hvm
    generalize H1 = H at hP hS ⊢
    have hP : va_P (dC, dI) vwCl ([(h0, .inr (5, [.ref q_1, .int 0, .ref q_3, .int 0, .null, .null, .null, .null])), (q_1, .inl (k_2, 120, .inr (.inr (.inr (.inr (fun _ => none)))))), (q_3, .inl (k_4, 28, .inr (.inr (.inr (.inr (zs 0 i_8 az_5)))))), (q_29, .inr (7, [.ref q1_30, .int 0])), (q1_30, .inl (k1_31, 16, .inl (fun _ => 0)))] ++ (zp 4 16 i_8 az_5 ac_6 kz_7 q0z f0z ++ [])) H := hP
    have hD : va_D A ([(h0, .inr (5, [.ref q_1, .int 0, .ref q_3, .int 0, .null, .null, .null, .null])), (q_1, .inl (k_2, 120, .inr (.inr (.inr (.inr (fun _ => none)))))), (q_3, .inl (k_4, 28, .inr (.inr (.inr (.inr (zs 0 i_8 az_5)))))), (q_29, .inr (7, [.ref q1_30, .int 0])), (q1_30, .inl (k1_31, 16, .inl (fun _ => 0)))] ++ (zp 4 16 i_8 az_5 ac_6 kz_7 q0z f0z ++ [])) := hD
    have hK : va_K (dC, dI) vwCl ([(k_2, .object RX7), (k_4, .object RX7), (k1_31, .int)] ++ (zt i_8 kz_7 ++ [])) s := hK
    refine W.widen (k := 4 + 2 * i_8) (n := 166 + 18 * i_8) (by first | omega | exact Nat.le_of_ble_eq_true rfl) (by first | omega | exact Nat.le_of_ble_eq_true rfl) ?_
    refine va_astq (r := (RX7, TX7, 2)) hx hb hK hP hD hS 2 1 3 7 rfl rfl rfl rfl (vp_in_nI (by omega) (by decide)) dX5_init_46 (fun H locs hP hD hS => ?_)
    have hP : va_P (dC, dI) vwCl ([(h0, .inr (5, [.ref q_1, .int 0, .ref q_3, .int 0, .null, .null, .null, .null])), (q_1, .inl (k_2, 120, .inr (.inr (.inr (.inr (fun _ => none)))))), (q_3, .inl (k_4, 28, .inr (.inr (.inr (.inr (va_up (zs 0 i_8 az_5) ((nI i_8) : Int32).toNatClampNeg (some q_29))))))), (q_29, .inr (7, [.ref q1_30, .int 0])), (q1_30, .inl (k1_31, 16, .inl (fun _ => 0)))] ++ (zp 4 16 i_8 az_5 ac_6 kz_7 q0z f0z ++ [])) H := hP
    have hD : va_D A ([(h0, .inr (5, [.ref q_1, .int 0, .ref q_3, .int 0, .null, .null, .null, .null])), (q_1, .inl (k_2, 120, .inr (.inr (.inr (.inr (fun _ => none)))))), (q_3, .inl (k_4, 28, .inr (.inr (.inr (.inr (va_up (zs 0 i_8 az_5) ((nI i_8) : Int32).toNatClampNeg (some q_29))))))), (q_29, .inr (7, [.ref q1_30, .int 0])), (q1_30, .inl (k1_31, 16, .inl (fun _ => 0)))] ++ (zp 4 16 i_8 az_5 ac_6 kz_7 q0z f0z ++ [])) := hD
    refine lv_iinc (v := (nI (i_8 + 1))) (lv' := [(1, .int (nI (i_8 + 1))), (0, .ref h0)]) hx hb dX5_init_47 hl (k := 1) rfl (nI_1 _) (by decide) rfl (fun ls hl => ?_)
    refine lv_goto (tgt := 24) hx hb dX5_init_50 (by decide) ?_
    rw [zs_push (by omega)] at hP hD
    have hP : va_P (dC, dI) vwCl ([(h0, .inr (5, [.ref q_1, .int 0, .ref q_3, .int 0, .null, .null, .null, .null])), (q_1, .inl (k_2, 120, .inr (.inr (.inr (.inr (fun _ => none)))))), (q_3, .inl (k_4, 28, .inr (.inr (.inr (.inr (zs 0 (i_8 + 1) (pz i_8 q_29 az_5)))))))] ++ (zp 4 16 (i_8 + 1) (pz i_8 q_29 az_5) (pz i_8 q1_30 ac_6) (pz i_8 k1_31 kz_7) q0z f0z ++ [])) H := zp_pushP (X := [(h0, .inr (5, [.ref q_1, .int 0, .ref q_3, .int 0, .null, .null, .null, .null])), (q_1, .inl (k_2, 120, .inr (.inr (.inr (.inr (fun _ => none)))))), (q_3, .inl (k_4, 28, .inr (.inr (.inr (.inr (zs 0 (i_8 + 1) (pz i_8 q_29 az_5)))))))]) hP
    have hD : va_D A ([(h0, .inr (5, [.ref q_1, .int 0, .ref q_3, .int 0, .null, .null, .null, .null])), (q_1, .inl (k_2, 120, .inr (.inr (.inr (.inr (fun _ => none)))))), (q_3, .inl (k_4, 28, .inr (.inr (.inr (.inr (zs 0 (i_8 + 1) (pz i_8 q_29 az_5)))))))] ++ (zp 4 16 (i_8 + 1) (pz i_8 q_29 az_5) (pz i_8 q1_30 ac_6) (pz i_8 k1_31 kz_7) q0z f0z ++ [])) := zp_pushD (X := [(h0, .inr (5, [.ref q_1, .int 0, .ref q_3, .int 0, .null, .null, .null, .null])), (q_1, .inl (k_2, 120, .inr (.inr (.inr (.inr (fun _ => none)))))), (q_3, .inl (k_4, 28, .inr (.inr (.inr (.inr (zs 0 (i_8 + 1) (pz i_8 q_29 az_5)))))))]) hD
    have hK := zt_push (X := [(k_2, .object RX7), (k_4, .object RX7)]) hK
    refine W.widen (k := 2 + 2 * (i_8 + 1)) (n := 148 + 18 * (i_8 + 1)) (by omega) (by omega) ?_
    exact ih_10 _ _ _ ⟨_, _, _, hP, hD, hK, hS, lv_sub hl [1, 0] rfl⟩
