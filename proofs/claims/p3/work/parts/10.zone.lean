theorem dX7_ticks_0 : decode cX7_ticks 0 = .ok (.iload_n 0, 1) := by decide +kernel
theorem dX7_ticks_1 : decode cX7_ticks 1 = .ok (.ldc 17, 2) := by decide +kernel
theorem dX7_ticks_3 : decode cX7_ticks 3 = .ok (.if_icmp .ne 6, 3) := by decide +kernel
theorem dX7_ticks_6 : decode cX7_ticks 6 = .ok (.ldc 17, 2) := by decide +kernel
theorem dX7_ticks_8 : decode cX7_ticks 8 = .ok (.ireturn, 1) := by decide +kernel
theorem dX7_ticks_9 : decode cX7_ticks 9 = .ok (.iload_n 0, 1) := by decide +kernel
theorem dX7_ticks_10 : decode cX7_ticks 10 = .ok (.iconst 1, 1) := by decide +kernel
theorem dX7_ticks_11 : decode cX7_ticks 11 = .ok (.ishr, 1) := by decide +kernel
theorem dX7_ticks_12 : decode cX7_ticks 12 = .ok (.sipush 256, 3) := by decide +kernel
theorem dX7_ticks_15 : decode cX7_ticks 15 = .ok (.imul, 1) := by decide +kernel
theorem dX7_ticks_16 : decode cX7_ticks 16 = .ok (.iconst 1, 1) := by decide +kernel
theorem dX7_ticks_17 : decode cX7_ticks 17 = .ok (.isub, 1) := by decide +kernel
theorem dX7_ticks_18 : decode cX7_ticks 18 = .ok (.iload_n 0, 1) := by decide +kernel
theorem dX7_ticks_19 : decode cX7_ticks 19 = .ok (.iconst 1, 1) := by decide +kernel
theorem dX7_ticks_20 : decode cX7_ticks 20 = .ok (.iand, 1) := by decide +kernel
theorem dX7_ticks_21 : decode cX7_ticks 21 = .ok (.iadd, 1) := by decide +kernel
theorem dX7_ticks_22 : decode cX7_ticks 22 = .ok (.ireturn, 1) := by decide +kernel
def vs_X7_ticks : List Cond := .code yX7_ticks cX7_ticks 1 (some .int) :: ([.constant RX7 17 (2147483647)])
set_option maxHeartbeats 4000000 in
set_option maxRecDepth 100000 in
theorem c_X7_ticks (l : Launch) (dC : Nat → ClassId) (dI : Nat → Nat → Nat) (sz : Nat) (p0 : Int32) : Met l yX7_ticks vs_X7_ticks ({ frames := 0, cells := 0, slots := 0, locals := 0 }) (va_Pc [.int p0] (pu_B (dC, dI) [] [] sz)) (va_Qi (fun (r : Int32) (_ : Unit) => True) (fun _ _ => True) (va_A [] sz)) 0 0 (va_A [] sz) := by
  refine Met.ofW (cc := cX7_ticks) (maxL := 1) (ret := (some .int)) (by decide) rfl ?_
  intro p e s m args below meth c s₁ B hml hv
  obtain ⟨rfl, rfl, hP, hK, hD0⟩ := hv
  have hx := B.exec
  have hb := B.bytes
  have hr := B.returns
  have hts := atoms_spec (ws := vs_X7_ticks) B.pre
  have v_1 := hts (.constant RX7 17 (2147483647)) (List.mem_of_getElem? (i := 1) rfl)
  have hown : s.vm.findClass RX7 = some m.cls := findClass_of_methodNamed B.named
  have hlocks := B.notSynchronized
  have hD := hD0
  have hA : ∀ q : Nat, s.heap.size ≤ q → va_A [] s.heap.size q := fun _ h => Or.inr h
  have hS : va_S (va_A [] s.heap.size) s.heap s.heap [] := va_S.rf
  have hl := lv_entry ([.int p0]) (n := 1) (Nat.le_of_ble_eq_true rfl)
  rw [lg_entry_eq]
  generalize (lg_sl ([.int p0]) ++ List.replicate (1 - (lg_sl ([.int p0])).length) Slot.unset).toArray = ls at hl ⊢
  have hl : lv_has ls 1 [(0, .int p0)] := hl
  refine lv_iload_n hx hb dX7_ticks_0 rfl (lv_at hl 0 rfl) ?_
  refine lv_ldc hx hb hown v_1 dX7_ticks_1 ?_
  refine lv_icmp_ne (tgt := 9) hx hb dX7_ticks_3 (by decide) (fun c_1 => ?_) (fun c_1 => ?_)
  · refine lv_iload_n hx hb dX7_ticks_9 rfl (lv_at hl 0 rfl) ?_
    refine lv_iconst (v := 1) hx hb dX7_ticks_10 (by decide) ?_
    refine lv_ishr hx hb dX7_ticks_11 ?_
    refine lv_sipush (v := 256) hx hb dX7_ticks_12 (by decide) ?_
    refine lv_imul hx hb dX7_ticks_15 ?_
    refine lv_iconst (v := 1) hx hb dX7_ticks_16 (by decide) ?_
    refine lv_isub hx hb dX7_ticks_17 ?_
    refine lv_iload_n hx hb dX7_ticks_18 rfl (lv_at hl 0 rfl) ?_
    refine lv_iconst (v := 1) hx hb dX7_ticks_19 (by decide) ?_
    refine lv_iand hx hb dX7_ticks_20 ?_
    refine lv_iadd hx hb dX7_ticks_21 ?_
    exact W.iret (v := (((((p0 : Int32) >>> ((1 : Int32) &&& 31)) * 256) - 1) + (p0 &&& 1))) hx hb hr (fun t ht hW => ⟨⟨(((((p0 : Int32) >>> ((1 : Int32) &&& 31)) * 256) - 1) + (p0 &&& 1)), (), rfl, trivial, trivial⟩, hS.F ht⟩) hS.2.2 dX7_ticks_22
  · refine lv_ldc hx hb hown v_1 dX7_ticks_6 ?_
    exact W.iret (v := 2147483647) hx hb hr (fun t ht hW => ⟨⟨2147483647, (), rfl, trivial, trivial⟩, hS.F ht⟩) hS.2.2 dX7_ticks_8
theorem dX7_wholePart_0 : decode cX7_wholePart 0 = .ok (.iload_n 0, 1) := by decide +kernel
theorem dX7_wholePart_1 : decode cX7_wholePart 1 = .ok (.iconst 1, 1) := by decide +kernel
theorem dX7_wholePart_2 : decode cX7_wholePart 2 = .ok (.isub, 1) := by decide +kernel
theorem dX7_wholePart_3 : decode cX7_wholePart 3 = .ok (.iconst 1, 1) := by decide +kernel
theorem dX7_wholePart_4 : decode cX7_wholePart 4 = .ok (.ishr, 1) := by decide +kernel
theorem dX7_wholePart_5 : decode cX7_wholePart 5 = .ok (.ireturn, 1) := by decide +kernel
def vs_X7_wholePart : List Cond := .code yX7_wholePart cX7_wholePart 1 (some .int) :: ([])
set_option maxHeartbeats 4000000 in
set_option maxRecDepth 100000 in
theorem c_X7_wholePart (l : Launch) (dC : Nat → ClassId) (dI : Nat → Nat → Nat) (sz : Nat) (p0 : Int32) : Met l yX7_wholePart vs_X7_wholePart ({ frames := 0, cells := 0, slots := 0, locals := 0 }) (va_Pc [.int p0] (pu_B (dC, dI) [] [] sz)) (va_Qi (fun (r : Int32) (_ : Unit) => True) (fun _ _ => True) (va_A [] sz)) 0 0 (va_A [] sz) := by
  refine Met.ofW (cc := cX7_wholePart) (maxL := 1) (ret := (some .int)) (by decide) rfl ?_
  intro p e s m args below meth c s₁ B hml hv
  obtain ⟨rfl, rfl, hP, hK, hD0⟩ := hv
  have hx := B.exec
  have hb := B.bytes
  have hr := B.returns
  have hts := atoms_spec (ws := vs_X7_wholePart) B.pre
  have hown : s.vm.findClass RX7 = some m.cls := findClass_of_methodNamed B.named
  have hlocks := B.notSynchronized
  have hD := hD0
  have hA : ∀ q : Nat, s.heap.size ≤ q → va_A [] s.heap.size q := fun _ h => Or.inr h
  have hS : va_S (va_A [] s.heap.size) s.heap s.heap [] := va_S.rf
  have hl := lv_entry ([.int p0]) (n := 1) (Nat.le_of_ble_eq_true rfl)
  rw [lg_entry_eq]
  generalize (lg_sl ([.int p0]) ++ List.replicate (1 - (lg_sl ([.int p0])).length) Slot.unset).toArray = ls at hl ⊢
  have hl : lv_has ls 1 [(0, .int p0)] := hl
  refine lv_iload_n hx hb dX7_wholePart_0 rfl (lv_at hl 0 rfl) ?_
  refine lv_iconst (v := 1) hx hb dX7_wholePart_1 (by decide) ?_
  refine lv_isub hx hb dX7_wholePart_2 ?_
  refine lv_iconst (v := 1) hx hb dX7_wholePart_3 (by decide) ?_
  refine lv_ishr hx hb dX7_wholePart_4 ?_
  exact W.iret (v := (((p0 - 1) : Int32) >>> ((1 : Int32) &&& 31))) hx hb hr (fun t ht hW => ⟨⟨(((p0 - 1) : Int32) >>> ((1 : Int32) &&& 31)), (), rfl, trivial, trivial⟩, hS.F ht⟩) hS.2.2 dX7_wholePart_5
theorem dX7_cellOf_0 : decode cX7_cellOf 0 = .ok (.aload_n 0, 1) := by decide +kernel
theorem dX7_cellOf_1 : decode cX7_cellOf 1 = .ok (.getfield 11, 3) := by decide +kernel
theorem dX7_cellOf_4 : decode cX7_cellOf 4 = .ok (.iload_n 1, 1) := by decide +kernel
theorem dX7_cellOf_5 : decode cX7_cellOf 5 = .ok (.aload_n 0, 1) := by decide +kernel
theorem dX7_cellOf_6 : decode cX7_cellOf 6 = .ok (.getfield 18, 3) := by decide +kernel
theorem dX7_cellOf_9 : decode cX7_cellOf 9 = .ok (.imul, 1) := by decide +kernel
theorem dX7_cellOf_10 : decode cX7_cellOf 10 = .ok (.iload_n 2, 1) := by decide +kernel
theorem dX7_cellOf_11 : decode cX7_cellOf 11 = .ok (.iadd, 1) := by decide +kernel
theorem dX7_cellOf_12 : decode cX7_cellOf 12 = .ok (.iaload, 1) := by decide +kernel
theorem dX7_cellOf_13 : decode cX7_cellOf 13 = .ok (.ireturn, 1) := by decide +kernel
def vs_X7_cellOf : List Cond := .code yX7_cellOf cX7_cellOf 3 (some .int) :: ([.fieldLink RX7 11 "ClockReach$Zone" "cells" "[I", .fieldLink RX7 18 "ClockReach$Zone" "size" "I"] ++ wsX70)
set_option maxHeartbeats 4000000 in
set_option maxRecDepth 100000 in
theorem c_X7_cellOf (l : Launch) (dC : Nat → ClassId) (dI : Nat → Nat → Nat) (sz : Nat) (z zc : Nat) (cI : ClassId) (n N : Nat) (f : Nat → Int32) (hn : n * n ≤ N) (hN : N ≤ 25) (i j : Nat) (hi : i < n) (hj : j < n) : Met l yX7_cellOf vs_X7_cellOf ({ frames := 0, cells := 0, slots := 0, locals := 0 }) (va_Pc [.ref z, .int (nI i), .int (nI j)] (pu_B (dC, dI) [(z, .inr (7, [.ref zc, .int (nI n)])), (zc, .inl (cI, N, .inl f))] [(cI, .int)] sz)) (va_Qi (fun (r : Int32) (_ : Unit) => True) (fun _ _ => True) (va_A [] sz)) 0 0 (va_A [] sz) := by
  refine Met.ofW (cc := cX7_cellOf) (maxL := 3) (ret := (some .int)) (by decide) rfl ?_
  intro p e s m args below meth c s₁ B hml hv
  obtain ⟨rfl, rfl, hP, hK, hD0⟩ := hv
  have hx := B.exec
  have hb := B.bytes
  have hr := B.returns
  have hts := atoms_spec (ws := vs_X7_cellOf) B.pre
  have v_1 := hts (.fieldLink RX7 11 "ClockReach$Zone" "cells" "[I") (List.mem_of_getElem? (i := 1) rfl)
  have v_2 := hts (.fieldLink RX7 18 "ClockReach$Zone" "size" "I") (List.mem_of_getElem? (i := 2) rfl)
  have hown : s.vm.findClass RX7 = some m.cls := findClass_of_methodNamed B.named
  have hlocks := B.notSynchronized
  have hiX7 : ∀ w ∈ wsX70, w ∈ vs_X7_cellOf := fun _ h => List.mem_cons_of_mem _ (List.mem_append_right _ h)
  have hD := hD0
  have hA : ∀ q : Nat, s.heap.size ≤ q → va_A [] s.heap.size q := fun _ h => Or.inr h
  have hS : va_S (va_A [] s.heap.size) s.heap s.heap [] := va_S.rf
  have hl := lv_entry ([.ref z, .int (nI i), .int (nI j)]) (n := 3) (Nat.le_of_ble_eq_true rfl)
  rw [lg_entry_eq]
  generalize (lg_sl ([.ref z, .int (nI i), .int (nI j)]) ++ List.replicate (3 - (lg_sl ([.ref z, .int (nI i), .int (nI j)])).length) Slot.unset).toArray = ls at hl ⊢
  have hl : lv_has ls 3 [(0, .ref z), (1, .int (nI i)), (2, .int (nI j))] := hl
  have hn5 := zn_5 hn hN
  have hnq := zn_q hn hN
  have him := zn_m hi hn hN
  refine lv_aload_n hx hb dX7_cellOf_0 rfl (lv_at hl 0 rfl) ?_
  refine va_get (D := (dC, dI)) (ci := 7) (v := .ref zc) (C := RX7) (T := TX7) (N := 2) hx hb hts hiX7 hown hK hP 0 rfl rfl 0 (by decide) v_1 (fun _ h9 => h9) rfl dX7_cellOf_1 ?_
  refine lv_iload_n hx hb dX7_cellOf_4 rfl (lv_at hl 1 rfl) ?_
  refine lv_aload_n hx hb dX7_cellOf_5 rfl (lv_at hl 0 rfl) ?_
  refine va_get (D := (dC, dI)) (ci := 7) (v := .int (nI n)) (C := RX7) (T := TX7) (N := 2) hx hb hts hiX7 hown hK hP 0 rfl rfl 1 (by decide) v_2 (fun _ h9 => h9) rfl dX7_cellOf_6 ?_
  refine lv_imul hx hb dX7_cellOf_9 ?_
  refine lv_topi (fun y_1 ey_1 => ?_)
  obtain rfl : y_1 = (nI (i * n)) := ey_1.trans (pk_mul i n)
  refine lv_iload_n hx hb dX7_cellOf_10 rfl (lv_at hl 2 rfl) ?_
  refine lv_iadd hx hb dX7_cellOf_11 ?_
  refine lv_topi (fun y_2 ey_2 => ?_)
  obtain rfl : y_2 = (nI ((i * n) + j)) := ey_2.trans (nI_add (i * n) j)
  refine va_iald hx hb hK hP 1 0 rfl rfl (vp_in_nI (n := ((i * n) + j)) (by first | omega | exact ix_lt (by omega) (by omega) hn | exact ix_lt0 (by omega) hn | exact ix_ltq (by omega) hn | exact ix_lt1 (by omega) hn) (by omega)) dX7_cellOf_12 ?_
  exact W.iret (v := (f ((nI ((i * n) + j))).toNatClampNeg)) hx hb hr (fun t ht hW => ⟨⟨(f ((nI ((i * n) + j))).toNatClampNeg), (), rfl, trivial, trivial⟩, hS.F ht⟩) hS.2.2 dX7_cellOf_13
theorem dX7_setPoint_0 : decode cX7_setPoint 0 = .ok (.aload_n 0, 1) := by decide +kernel
theorem dX7_setPoint_1 : decode cX7_setPoint 1 = .ok (.iload_n 1, 1) := by decide +kernel
theorem dX7_setPoint_2 : decode cX7_setPoint 2 = .ok (.putfield 18, 3) := by decide +kernel
theorem dX7_setPoint_5 : decode cX7_setPoint 5 = .ok (.iconst 0, 1) := by decide +kernel
theorem dX7_setPoint_6 : decode cX7_setPoint 6 = .ok (.istore_n 3, 1) := by decide +kernel
theorem dX7_setPoint_7 : decode cX7_setPoint 7 = .ok (.iload_n 3, 1) := by decide +kernel
theorem dX7_setPoint_8 : decode cX7_setPoint 8 = .ok (.aload_n 0, 1) := by decide +kernel
theorem dX7_setPoint_9 : decode cX7_setPoint 9 = .ok (.getfield 18, 3) := by decide +kernel
theorem dX7_setPoint_12 : decode cX7_setPoint 12 = .ok (.if_icmp .ge 53, 3) := by decide +kernel
theorem dX7_setPoint_15 : decode cX7_setPoint 15 = .ok (.iconst 0, 1) := by decide +kernel
theorem dX7_setPoint_16 : decode cX7_setPoint 16 = .ok (.istore 4, 2) := by decide +kernel
theorem dX7_setPoint_18 : decode cX7_setPoint 18 = .ok (.iload 4, 2) := by decide +kernel
theorem dX7_setPoint_20 : decode cX7_setPoint 20 = .ok (.aload_n 0, 1) := by decide +kernel
theorem dX7_setPoint_21 : decode cX7_setPoint 21 = .ok (.getfield 18, 3) := by decide +kernel
theorem dX7_setPoint_24 : decode cX7_setPoint 24 = .ok (.if_icmp .ge 35, 3) := by decide +kernel
theorem dX7_setPoint_27 : decode cX7_setPoint 27 = .ok (.aload_n 0, 1) := by decide +kernel
theorem dX7_setPoint_28 : decode cX7_setPoint 28 = .ok (.getfield 11, 3) := by decide +kernel
theorem dX7_setPoint_31 : decode cX7_setPoint 31 = .ok (.iload_n 3, 1) := by decide +kernel
theorem dX7_setPoint_32 : decode cX7_setPoint 32 = .ok (.aload_n 0, 1) := by decide +kernel
theorem dX7_setPoint_33 : decode cX7_setPoint 33 = .ok (.getfield 18, 3) := by decide +kernel
theorem dX7_setPoint_36 : decode cX7_setPoint 36 = .ok (.imul, 1) := by decide +kernel
theorem dX7_setPoint_37 : decode cX7_setPoint 37 = .ok (.iload 4, 2) := by decide +kernel
theorem dX7_setPoint_39 : decode cX7_setPoint 39 = .ok (.iadd, 1) := by decide +kernel
theorem dX7_setPoint_40 : decode cX7_setPoint 40 = .ok (.iconst 2, 1) := by decide +kernel
theorem dX7_setPoint_41 : decode cX7_setPoint 41 = .ok (.aload_n 2, 1) := by decide +kernel
theorem dX7_setPoint_42 : decode cX7_setPoint 42 = .ok (.iload_n 3, 1) := by decide +kernel
theorem dX7_setPoint_43 : decode cX7_setPoint 43 = .ok (.iaload, 1) := by decide +kernel
theorem dX7_setPoint_44 : decode cX7_setPoint 44 = .ok (.aload_n 2, 1) := by decide +kernel
theorem dX7_setPoint_45 : decode cX7_setPoint 45 = .ok (.iload 4, 2) := by decide +kernel
theorem dX7_setPoint_47 : decode cX7_setPoint 47 = .ok (.iaload, 1) := by decide +kernel
theorem dX7_setPoint_48 : decode cX7_setPoint 48 = .ok (.isub, 1) := by decide +kernel
theorem dX7_setPoint_49 : decode cX7_setPoint 49 = .ok (.imul, 1) := by decide +kernel
theorem dX7_setPoint_50 : decode cX7_setPoint 50 = .ok (.iconst 1, 1) := by decide +kernel
theorem dX7_setPoint_51 : decode cX7_setPoint 51 = .ok (.iadd, 1) := by decide +kernel
theorem dX7_setPoint_52 : decode cX7_setPoint 52 = .ok (.iastore, 1) := by decide +kernel
theorem dX7_setPoint_53 : decode cX7_setPoint 53 = .ok (.iinc 4 1, 3) := by decide +kernel
theorem dX7_setPoint_56 : decode cX7_setPoint 56 = .ok (.goto (-38), 3) := by decide +kernel
theorem dX7_setPoint_59 : decode cX7_setPoint 59 = .ok (.iinc 3 1, 3) := by decide +kernel
theorem dX7_setPoint_62 : decode cX7_setPoint 62 = .ok (.goto (-55), 3) := by decide +kernel
theorem dX7_setPoint_65 : decode cX7_setPoint 65 = .ok (.return_, 1) := by decide +kernel
def vs_X7_setPoint : List Cond := .code yX7_setPoint cX7_setPoint 5 none :: ([.fieldLink RX7 18 "ClockReach$Zone" "size" "I", .fieldLink RX7 11 "ClockReach$Zone" "cells" "[I"] ++ wsX70)
set_option maxHeartbeats 4000000 in
set_option maxRecDepth 100000 in
theorem c_X7_setPoint (l : Launch) (dC : Nat → ClassId) (dI : Nat → Nat → Nat) (sz : Nat) (z zc : Nat) (cI : ClassId) (x0 : Int32) (n N : Nat) (f : Nat → Int32) (hn : n * n ≤ N) (hN : N ≤ 25) (vz : Nat) (cV : ClassId) (M : Nat) (fu : Nat → Int32) (hM : n ≤ M) (hM2 : M ≤ 100) : Met l yX7_setPoint vs_X7_setPoint ({ frames := 0, cells := 0, slots := 0, locals := 0 }) (va_Pc [.ref z, .int (nI n), .ref vz] (pu_B (dC, dI) [(z, .inr (7, [.ref zc, .int x0])), (zc, .inl (cI, N, .inl f)), (vz, .inl (cV, M, .inl fu))] [(cI, .int), (cV, .int)] sz)) (va_Qv (fun (_ : Unit) => True) (fun _ t => ∃ (g : Nat → Int32), pu_E (dC, dI) [(z, .inr (7, [.ref zc, .int (nI n)])), (zc, .inl (cI, N, .inl g)), (vz, .inl (cV, M, .inl fu))] [(cI, .int), (cV, .int)] (va_A ([(z, .inr (7, [.ref zc, .int x0])), (zc, .inl (cI, N, .inl f)), (vz, .inl (cV, M, .inl fu))]) sz) t) (va_A ([(z, .inr (7, [.ref zc, .int x0])), (zc, .inl (cI, N, .inl f)), (vz, .inl (cV, M, .inl fu))]) sz)) 0 0 (va_A ([(z, .inr (7, [.ref zc, .int x0])), (zc, .inl (cI, N, .inl f)), (vz, .inl (cV, M, .inl fu))]) sz) := by
  refine Met.ofW (cc := cX7_setPoint) (maxL := 5) (ret := none) (by decide) rfl ?_
  intro p e s m args below meth c s₁ B hml hv
  obtain ⟨rfl, rfl, hP, hK, hD0⟩ := hv
  have hx := B.exec
  have hb := B.bytes
  have hr := B.returns
  have hts := atoms_spec (ws := vs_X7_setPoint) B.pre
  have v_1 := hts (.fieldLink RX7 18 "ClockReach$Zone" "size" "I") (List.mem_of_getElem? (i := 1) rfl)
  have v_2 := hts (.fieldLink RX7 11 "ClockReach$Zone" "cells" "[I") (List.mem_of_getElem? (i := 2) rfl)
  have hown : s.vm.findClass RX7 = some m.cls := findClass_of_methodNamed B.named
  have hlocks := B.notSynchronized
  have hiX7 : ∀ w ∈ wsX70, w ∈ vs_X7_setPoint := fun _ h => List.mem_cons_of_mem _ (List.mem_append_right _ h)
  have hD := hD0.self (sz := s.heap.size)
  generalize hAe : va_A ([(z, .inr (7, [.ref zc, .int x0])), (zc, .inl (cI, N, .inl f)), (vz, .inl (cV, M, .inl fu))]) s.heap.size = A at hD ⊢
  have hA : ∀ q : Nat, s.heap.size ≤ q → A q := fun q h => by rw [← hAe]; exact Or.inr h
  have hS : va_S A s.heap s.heap [] := va_S.rf
  have hl := lv_entry ([.ref z, .int (nI n), .ref vz]) (n := 5) (Nat.le_of_ble_eq_true rfl)
  rw [lg_entry_eq]
  generalize (lg_sl ([.ref z, .int (nI n), .ref vz]) ++ List.replicate (5 - (lg_sl ([.ref z, .int (nI n), .ref vz])).length) Slot.unset).toArray = ls at hl ⊢
  have hl : lv_has ls 5 [(0, .ref z), (1, .int (nI n)), (2, .ref vz)] := hl
  have hn5 := zn_5 hn hN
  have hnq := zn_q hn hN
  refine lv_aload_n hx hb dX7_setPoint_0 rfl (lv_at hl 0 rfl) ?_
  refine lv_iload_n hx hb dX7_setPoint_1 rfl (lv_at hl 1 rfl) ?_
  refine va_put (D := (dC, dI)) (ci := 7) (v := .int (nI n)) (ty := .int) (C := RX7) (T := TX7) (N := 2) hx hb hts hiX7 tyX7 tyX7_ok nmX7 hown hK hP hD hS 0 rfl rfl 1 (by decide) v_1 (fun _ h9 => h9) rfl (by decide +kernel) rfl rfl (Nat.le_of_ble_eq_true rfl) dX7_setPoint_2 (fun H locs hP hD hS => ?_)
  have hP : va_P (dC, dI) vwCl [(z, .inr (7, [.ref zc, .int (nI n)])), (zc, .inl (cI, N, .inl f)), (vz, .inl (cV, M, .inl fu))] H := hP
  have hD : va_D A [(z, .inr (7, [.ref zc, .int (nI n)])), (zc, .inl (cI, N, .inl f)), (vz, .inl (cV, M, .inl fu))] := hD
  refine lv_iconst (v := 0) hx hb dX7_setPoint_5 (by decide) ?_
  refine lv_istore_n (lv' := [(3, .int 0), (0, .ref z), (1, .int (nI n)), (2, .ref vz)]) hx hb dX7_setPoint_6 rfl hl (by decide) rfl (fun ls hl => ?_)
  refine pu_loop (n) (fun ii H locs ls => ∃ f0 : Nat → Int32, va_P (dC, dI) vwCl [(z, .inr (7, [.ref zc, .int (nI n)])), (zc, .inl (cI, N, .inl f0)), (vz, .inl (cV, M, .inl fu))] H ∧ va_D A [(z, .inr (7, [.ref zc, .int (nI n)])), (zc, .inl (cI, N, .inl f0)), (vz, .inl (cV, M, .inl fu))] ∧ va_S A s.heap H locs ∧ lv_has ls 5 [(0, .ref z), (1, .int (nI n)), (2, .ref vz), (3, .int (nI ii))]) (fun _ => 0) (fun _ => 0) 7 [] ?_ ?_ _ _ _ ⟨_, hP, hD, hS, lv_sub hl [1, 2, 3, 0] rfl⟩
  · rintro H locs ls ⟨f_1, hP, hD, hS, hl⟩
    refine lv_iload_n hx hb dX7_setPoint_7 rfl (lv_at hl 3 rfl) ?_
    refine lv_aload_n hx hb dX7_setPoint_8 rfl (lv_at hl 0 rfl) ?_
    refine va_get (D := (dC, dI)) (ci := 7) (v := .int (nI n)) (C := RX7) (T := TX7) (N := 2) hx hb hts hiX7 hown hK hP 0 rfl rfl 1 (by decide) v_1 (fun _ h9 => h9) rfl dX7_setPoint_9 ?_
    refine lv_icmp_ge (tgt := 65) hx hb dX7_setPoint_12 (by decide) (fun _ => ?_) (fun z => absurd (nI_le (a := n) (b := n) (by omega) (by omega)) z)
    have hP9 := hP.sub (ws' := [(z, .inr (7, [.ref zc, .int (nI n)])), (zc, .inl (cI, N, .inl f_1)), (vz, .inl (cV, M, .inl fu))]) [0, 1, 2] rfl
    have hD9 := hD.sub (ws' := [(z, .inr (7, [.ref zc, .int (nI n)])), (zc, .inl (cI, N, .inl f_1)), (vz, .inl (cV, M, .inl fu))]) [0, 1, 2] (by decide) rfl
    have hK9 := hK.sub (tys' := [(cI, .int), (cV, .int)]) [0, 1] rfl
    exact W.vret hx hb hr (fun t ht hW => ⟨⟨(), rfl, trivial, ⟨f_1, by rw [ht]; exact hP9, va_K.moved hW.alike hK9, hD9⟩⟩, hS.F ht⟩) hS.2.2 dX7_setPoint_65
  · rintro i_2 h_3 ih_4 H locs ls ⟨f_1, hP, hD, hS, hl⟩
    refine lv_iload_n hx hb dX7_setPoint_7 rfl (lv_at hl 3 rfl) ?_
    refine lv_aload_n hx hb dX7_setPoint_8 rfl (lv_at hl 0 rfl) ?_
    refine va_get (D := (dC, dI)) (ci := 7) (v := .int (nI n)) (C := RX7) (T := TX7) (N := 2) hx hb hts hiX7 hown hK hP 0 rfl rfl 1 (by decide) v_1 (fun _ h9 => h9) rfl dX7_setPoint_9 ?_
    refine lv_icmp_ge (tgt := 65) hx hb dX7_setPoint_12 (by decide) (fun z => absurd z (nI_ge (a := i_2) (b := n) (by omega) (by omega))) (fun _ => ?_)
    refine lv_iconst (v := 0) hx hb dX7_setPoint_15 (by decide) ?_
    refine lv_istore (lv' := [(4, .int 0), (0, .ref z), (1, .int (nI n)), (2, .ref vz), (3, .int (nI i_2))]) hx hb dX7_setPoint_16 hl (by decide) rfl (fun ls hl => ?_)
    refine pu_loop (n) (fun ii H locs ls => ∃ f0 : Nat → Int32, va_P (dC, dI) vwCl [(z, .inr (7, [.ref zc, .int (nI n)])), (zc, .inl (cI, N, .inl f0)), (vz, .inl (cV, M, .inl fu))] H ∧ va_D A [(z, .inr (7, [.ref zc, .int (nI n)])), (zc, .inl (cI, N, .inl f0)), (vz, .inl (cV, M, .inl fu))] ∧ va_S A s.heap H locs ∧ lv_has ls 5 [(0, .ref z), (1, .int (nI n)), (2, .ref vz), (3, .int (nI i_2)), (4, .int (nI ii))]) (fun _ => 0) (fun _ => 0) 18 [] ?_ ?_ _ _ _ ⟨_, hP, hD, hS, lv_sub hl [1, 2, 3, 4, 0] rfl⟩
    · rintro H locs ls ⟨f_5, hP, hD, hS, hl⟩
      refine lv_iload hx hb dX7_setPoint_18 (lv_at hl 4 rfl) ?_
      refine lv_aload_n hx hb dX7_setPoint_20 rfl (lv_at hl 0 rfl) ?_
      refine va_get (D := (dC, dI)) (ci := 7) (v := .int (nI n)) (C := RX7) (T := TX7) (N := 2) hx hb hts hiX7 hown hK hP 0 rfl rfl 1 (by decide) v_1 (fun _ h9 => h9) rfl dX7_setPoint_21 ?_
      refine lv_icmp_ge (tgt := 59) hx hb dX7_setPoint_24 (by decide) (fun _ => ?_) (fun z => absurd (nI_le (a := n) (b := n) (by omega) (by omega)) z)
      refine lv_iinc (v := (nI (i_2 + 1))) (lv' := [(3, .int (nI (i_2 + 1))), (0, .ref z), (1, .int (nI n)), (2, .ref vz), (4, .int (nI n))]) hx hb dX7_setPoint_59 hl (k := 3) rfl (nI_1 _) (by decide) rfl (fun ls hl => ?_)
      refine lv_goto (tgt := 7) hx hb dX7_setPoint_62 (by decide) ?_
      exact ih_4 _ _ _ ⟨_, hP, hD, hS, lv_sub hl [1, 2, 3, 0] rfl⟩
    · rintro i_6 h_7 ih_8 H locs ls ⟨f_5, hP, hD, hS, hl⟩
      refine lv_iload hx hb dX7_setPoint_18 (lv_at hl 4 rfl) ?_
      refine lv_aload_n hx hb dX7_setPoint_20 rfl (lv_at hl 0 rfl) ?_
      refine va_get (D := (dC, dI)) (ci := 7) (v := .int (nI n)) (C := RX7) (T := TX7) (N := 2) hx hb hts hiX7 hown hK hP 0 rfl rfl 1 (by decide) v_1 (fun _ h9 => h9) rfl dX7_setPoint_21 ?_
      refine lv_icmp_ge (tgt := 59) hx hb dX7_setPoint_24 (by decide) (fun z => absurd z (nI_ge (a := i_6) (b := n) (by omega) (by omega))) (fun _ => ?_)
      refine lv_aload_n hx hb dX7_setPoint_27 rfl (lv_at hl 0 rfl) ?_
      refine va_get (D := (dC, dI)) (ci := 7) (v := .ref zc) (C := RX7) (T := TX7) (N := 2) hx hb hts hiX7 hown hK hP 0 rfl rfl 0 (by decide) v_2 (fun _ h9 => h9) rfl dX7_setPoint_28 ?_
      refine lv_iload_n hx hb dX7_setPoint_31 rfl (lv_at hl 3 rfl) ?_
      refine lv_aload_n hx hb dX7_setPoint_32 rfl (lv_at hl 0 rfl) ?_
      refine va_get (D := (dC, dI)) (ci := 7) (v := .int (nI n)) (C := RX7) (T := TX7) (N := 2) hx hb hts hiX7 hown hK hP 0 rfl rfl 1 (by decide) v_1 (fun _ h9 => h9) rfl dX7_setPoint_33 ?_
      refine lv_imul hx hb dX7_setPoint_36 ?_
      refine lv_topi (fun y_9 ey_9 => ?_)
      obtain rfl : y_9 = (nI (i_2 * n)) := ey_9.trans (pk_mul i_2 n)
      refine lv_iload hx hb dX7_setPoint_37 (lv_at hl 4 rfl) ?_
      refine lv_iadd hx hb dX7_setPoint_39 ?_
      refine lv_topi (fun y_10 ey_10 => ?_)
      obtain rfl : y_10 = (nI ((i_2 * n) + i_6)) := ey_10.trans (nI_add (i_2 * n) i_6)
      refine lv_iconst (v := 2) hx hb dX7_setPoint_40 (by decide) ?_
      refine lv_aload_n hx hb dX7_setPoint_41 rfl (lv_at hl 2 rfl) ?_
      refine lv_iload_n hx hb dX7_setPoint_42 rfl (lv_at hl 3 rfl) ?_
      refine va_iald hx hb hK hP 2 1 rfl rfl (vp_in_nI (n := i_2) (by first | omega | exact ix_lt (by omega) (by omega) hn | exact ix_lt0 (by omega) hn | exact ix_ltq (by omega) hn | exact ix_lt1 (by omega) hn) (by omega)) dX7_setPoint_43 ?_
      refine lv_aload_n hx hb dX7_setPoint_44 rfl (lv_at hl 2 rfl) ?_
      refine lv_iload hx hb dX7_setPoint_45 (lv_at hl 4 rfl) ?_
      refine va_iald hx hb hK hP 2 1 rfl rfl (vp_in_nI (n := i_6) (by first | omega | exact ix_lt (by omega) (by omega) hn | exact ix_lt0 (by omega) hn | exact ix_ltq (by omega) hn | exact ix_lt1 (by omega) hn) (by omega)) dX7_setPoint_47 ?_
      refine lv_isub hx hb dX7_setPoint_48 ?_
      refine lv_imul hx hb dX7_setPoint_49 ?_
      refine lv_iconst (v := 1) hx hb dX7_setPoint_50 (by decide) ?_
      refine lv_iadd hx hb dX7_setPoint_51 ?_
      refine va_iast hx hb hK hP hD hS 1 0 rfl rfl (vp_in_nI (n := ((i_2 * n) + i_6)) (by first | omega | exact ix_lt (by omega) (by omega) hn | exact ix_lt0 (by omega) hn | exact ix_ltq (by omega) hn | exact ix_lt1 (by omega) hn) (by omega)) dX7_setPoint_52 (fun H locs hP hD hS => ?_)
      have hP : va_P (dC, dI) vwCl [(z, .inr (7, [.ref zc, .int (nI n)])), (zc, .inl (cI, N, .inl (upd f_5 ((nI ((i_2 * n) + i_6)) : Int32).toNatClampNeg ((2 * ((fu ((nI i_2)).toNatClampNeg) - (fu ((nI i_6)).toNatClampNeg))) + 1)))), (vz, .inl (cV, M, .inl fu))] H := hP
      have hD : va_D A [(z, .inr (7, [.ref zc, .int (nI n)])), (zc, .inl (cI, N, .inl (upd f_5 ((nI ((i_2 * n) + i_6)) : Int32).toNatClampNeg ((2 * ((fu ((nI i_2)).toNatClampNeg) - (fu ((nI i_6)).toNatClampNeg))) + 1)))), (vz, .inl (cV, M, .inl fu))] := hD
      refine lv_iinc (v := (nI (i_6 + 1))) (lv' := [(4, .int (nI (i_6 + 1))), (0, .ref z), (1, .int (nI n)), (2, .ref vz), (3, .int (nI i_2))]) hx hb dX7_setPoint_53 hl (k := 4) rfl (nI_1 _) (by decide) rfl (fun ls hl => ?_)
      refine lv_goto (tgt := 18) hx hb dX7_setPoint_56 (by decide) ?_
      exact ih_8 _ _ _ ⟨_, hP, hD, hS, lv_sub hl [1, 2, 3, 4, 0] rfl⟩
theorem dX7_setAll_0 : decode cX7_setAll 0 = .ok (.aload_n 0, 1) := by decide +kernel
theorem dX7_setAll_1 : decode cX7_setAll 1 = .ok (.iload_n 1, 1) := by decide +kernel
theorem dX7_setAll_2 : decode cX7_setAll 2 = .ok (.putfield 18, 3) := by decide +kernel
theorem dX7_setAll_5 : decode cX7_setAll 5 = .ok (.iconst 0, 1) := by decide +kernel
theorem dX7_setAll_6 : decode cX7_setAll 6 = .ok (.istore_n 2, 1) := by decide +kernel
theorem dX7_setAll_7 : decode cX7_setAll 7 = .ok (.iload_n 2, 1) := by decide +kernel
theorem dX7_setAll_8 : decode cX7_setAll 8 = .ok (.aload_n 0, 1) := by decide +kernel
theorem dX7_setAll_9 : decode cX7_setAll 9 = .ok (.getfield 18, 3) := by decide +kernel
theorem dX7_setAll_12 : decode cX7_setAll 12 = .ok (.if_icmp .ge 53, 3) := by decide +kernel
theorem dX7_setAll_15 : decode cX7_setAll 15 = .ok (.iconst 0, 1) := by decide +kernel
theorem dX7_setAll_16 : decode cX7_setAll 16 = .ok (.istore_n 3, 1) := by decide +kernel
theorem dX7_setAll_17 : decode cX7_setAll 17 = .ok (.iload_n 3, 1) := by decide +kernel
theorem dX7_setAll_18 : decode cX7_setAll 18 = .ok (.aload_n 0, 1) := by decide +kernel
theorem dX7_setAll_19 : decode cX7_setAll 19 = .ok (.getfield 18, 3) := by decide +kernel
theorem dX7_setAll_22 : decode cX7_setAll 22 = .ok (.if_icmp .ge 37, 3) := by decide +kernel
theorem dX7_setAll_25 : decode cX7_setAll 25 = .ok (.aload_n 0, 1) := by decide +kernel
theorem dX7_setAll_26 : decode cX7_setAll 26 = .ok (.getfield 11, 3) := by decide +kernel
theorem dX7_setAll_29 : decode cX7_setAll 29 = .ok (.iload_n 2, 1) := by decide +kernel
theorem dX7_setAll_30 : decode cX7_setAll 30 = .ok (.aload_n 0, 1) := by decide +kernel
theorem dX7_setAll_31 : decode cX7_setAll 31 = .ok (.getfield 18, 3) := by decide +kernel
theorem dX7_setAll_34 : decode cX7_setAll 34 = .ok (.imul, 1) := by decide +kernel
theorem dX7_setAll_35 : decode cX7_setAll 35 = .ok (.iload_n 3, 1) := by decide +kernel
theorem dX7_setAll_36 : decode cX7_setAll 36 = .ok (.iadd, 1) := by decide +kernel
theorem dX7_setAll_37 : decode cX7_setAll 37 = .ok (.iload_n 2, 1) := by decide +kernel
theorem dX7_setAll_38 : decode cX7_setAll 38 = .ok (.ifCond .eq 8, 3) := by decide +kernel
theorem dX7_setAll_41 : decode cX7_setAll 41 = .ok (.iload_n 2, 1) := by decide +kernel
theorem dX7_setAll_42 : decode cX7_setAll 42 = .ok (.iload_n 3, 1) := by decide +kernel
theorem dX7_setAll_43 : decode cX7_setAll 43 = .ok (.if_icmp .ne 7, 3) := by decide +kernel
theorem dX7_setAll_46 : decode cX7_setAll 46 = .ok (.iconst 1, 1) := by decide +kernel
theorem dX7_setAll_47 : decode cX7_setAll 47 = .ok (.goto 5, 3) := by decide +kernel
theorem dX7_setAll_50 : decode cX7_setAll 50 = .ok (.ldc 17, 2) := by decide +kernel
theorem dX7_setAll_52 : decode cX7_setAll 52 = .ok (.iastore, 1) := by decide +kernel
theorem dX7_setAll_53 : decode cX7_setAll 53 = .ok (.iinc 3 1, 3) := by decide +kernel
theorem dX7_setAll_56 : decode cX7_setAll 56 = .ok (.goto (-39), 3) := by decide +kernel
theorem dX7_setAll_59 : decode cX7_setAll 59 = .ok (.iinc 2 1, 3) := by decide +kernel
theorem dX7_setAll_62 : decode cX7_setAll 62 = .ok (.goto (-55), 3) := by decide +kernel
theorem dX7_setAll_65 : decode cX7_setAll 65 = .ok (.return_, 1) := by decide +kernel
def vs_X7_setAll : List Cond := .code yX7_setAll cX7_setAll 4 none :: ([.fieldLink RX7 18 "ClockReach$Zone" "size" "I", .fieldLink RX7 11 "ClockReach$Zone" "cells" "[I", .constant RX7 17 (2147483647)] ++ wsX70)
set_option maxHeartbeats 4000000 in
set_option maxRecDepth 100000 in
theorem c_X7_setAll (l : Launch) (dC : Nat → ClassId) (dI : Nat → Nat → Nat) (sz : Nat) (z zc : Nat) (cI : ClassId) (x0 : Int32) (n N : Nat) (f : Nat → Int32) (hn : n * n ≤ N) (hN : N ≤ 25) : Met l yX7_setAll vs_X7_setAll ({ frames := 0, cells := 0, slots := 0, locals := 0 }) (va_Pc [.ref z, .int (nI n)] (pu_B (dC, dI) [(z, .inr (7, [.ref zc, .int x0])), (zc, .inl (cI, N, .inl f))] [(cI, .int)] sz)) (va_Qv (fun (_ : Unit) => True) (fun _ t => ∃ (g : Nat → Int32), pu_E (dC, dI) [(z, .inr (7, [.ref zc, .int (nI n)])), (zc, .inl (cI, N, .inl g))] [(cI, .int)] (va_A ([(z, .inr (7, [.ref zc, .int x0])), (zc, .inl (cI, N, .inl f))]) sz) t) (va_A ([(z, .inr (7, [.ref zc, .int x0])), (zc, .inl (cI, N, .inl f))]) sz)) 0 0 (va_A ([(z, .inr (7, [.ref zc, .int x0])), (zc, .inl (cI, N, .inl f))]) sz) := by
  refine Met.ofW (cc := cX7_setAll) (maxL := 4) (ret := none) (by decide) rfl ?_
  intro p e s m args below meth c s₁ B hml hv
  obtain ⟨rfl, rfl, hP, hK, hD0⟩ := hv
  have hx := B.exec
  have hb := B.bytes
  have hr := B.returns
  have hts := atoms_spec (ws := vs_X7_setAll) B.pre
  have v_1 := hts (.fieldLink RX7 18 "ClockReach$Zone" "size" "I") (List.mem_of_getElem? (i := 1) rfl)
  have v_2 := hts (.fieldLink RX7 11 "ClockReach$Zone" "cells" "[I") (List.mem_of_getElem? (i := 2) rfl)
  have v_3 := hts (.constant RX7 17 (2147483647)) (List.mem_of_getElem? (i := 3) rfl)
  have hown : s.vm.findClass RX7 = some m.cls := findClass_of_methodNamed B.named
  have hlocks := B.notSynchronized
  have hiX7 : ∀ w ∈ wsX70, w ∈ vs_X7_setAll := fun _ h => List.mem_cons_of_mem _ (List.mem_append_right _ h)
  have hD := hD0.self (sz := s.heap.size)
  generalize hAe : va_A ([(z, .inr (7, [.ref zc, .int x0])), (zc, .inl (cI, N, .inl f))]) s.heap.size = A at hD ⊢
  have hA : ∀ q : Nat, s.heap.size ≤ q → A q := fun q h => by rw [← hAe]; exact Or.inr h
  have hS : va_S A s.heap s.heap [] := va_S.rf
  have hl := lv_entry ([.ref z, .int (nI n)]) (n := 4) (Nat.le_of_ble_eq_true rfl)
  rw [lg_entry_eq]
  generalize (lg_sl ([.ref z, .int (nI n)]) ++ List.replicate (4 - (lg_sl ([.ref z, .int (nI n)])).length) Slot.unset).toArray = ls at hl ⊢
  have hl : lv_has ls 4 [(0, .ref z), (1, .int (nI n))] := hl
  have hn5 := zn_5 hn hN
  have hnq := zn_q hn hN
  refine lv_aload_n hx hb dX7_setAll_0 rfl (lv_at hl 0 rfl) ?_
  refine lv_iload_n hx hb dX7_setAll_1 rfl (lv_at hl 1 rfl) ?_
  refine va_put (D := (dC, dI)) (ci := 7) (v := .int (nI n)) (ty := .int) (C := RX7) (T := TX7) (N := 2) hx hb hts hiX7 tyX7 tyX7_ok nmX7 hown hK hP hD hS 0 rfl rfl 1 (by decide) v_1 (fun _ h9 => h9) rfl (by decide +kernel) rfl rfl (Nat.le_of_ble_eq_true rfl) dX7_setAll_2 (fun H locs hP hD hS => ?_)
  have hP : va_P (dC, dI) vwCl [(z, .inr (7, [.ref zc, .int (nI n)])), (zc, .inl (cI, N, .inl f))] H := hP
  have hD : va_D A [(z, .inr (7, [.ref zc, .int (nI n)])), (zc, .inl (cI, N, .inl f))] := hD
  refine lv_iconst (v := 0) hx hb dX7_setAll_5 (by decide) ?_
  refine lv_istore_n (lv' := [(2, .int 0), (0, .ref z), (1, .int (nI n))]) hx hb dX7_setAll_6 rfl hl (by decide) rfl (fun ls hl => ?_)
  refine pu_loop (n) (fun ii H locs ls => ∃ f0 : Nat → Int32, va_P (dC, dI) vwCl [(z, .inr (7, [.ref zc, .int (nI n)])), (zc, .inl (cI, N, .inl f0))] H ∧ va_D A [(z, .inr (7, [.ref zc, .int (nI n)])), (zc, .inl (cI, N, .inl f0))] ∧ va_S A s.heap H locs ∧ lv_has ls 4 [(0, .ref z), (1, .int (nI n)), (2, .int (nI ii))]) (fun _ => 0) (fun _ => 0) 7 [] ?_ ?_ _ _ _ ⟨_, hP, hD, hS, lv_sub hl [1, 2, 0] rfl⟩
  · rintro H locs ls ⟨f_1, hP, hD, hS, hl⟩
    refine lv_iload_n hx hb dX7_setAll_7 rfl (lv_at hl 2 rfl) ?_
    refine lv_aload_n hx hb dX7_setAll_8 rfl (lv_at hl 0 rfl) ?_
    refine va_get (D := (dC, dI)) (ci := 7) (v := .int (nI n)) (C := RX7) (T := TX7) (N := 2) hx hb hts hiX7 hown hK hP 0 rfl rfl 1 (by decide) v_1 (fun _ h9 => h9) rfl dX7_setAll_9 ?_
    refine lv_icmp_ge (tgt := 65) hx hb dX7_setAll_12 (by decide) (fun _ => ?_) (fun z => absurd (nI_le (a := n) (b := n) (by omega) (by omega)) z)
    have hP9 := hP.sub (ws' := [(z, .inr (7, [.ref zc, .int (nI n)])), (zc, .inl (cI, N, .inl f_1))]) [0, 1] rfl
    have hD9 := hD.sub (ws' := [(z, .inr (7, [.ref zc, .int (nI n)])), (zc, .inl (cI, N, .inl f_1))]) [0, 1] (by decide) rfl
    have hK9 := hK.sub (tys' := [(cI, .int)]) [0] rfl
    exact W.vret hx hb hr (fun t ht hW => ⟨⟨(), rfl, trivial, ⟨f_1, by rw [ht]; exact hP9, va_K.moved hW.alike hK9, hD9⟩⟩, hS.F ht⟩) hS.2.2 dX7_setAll_65
  · rintro i_2 h_3 ih_4 H locs ls ⟨f_1, hP, hD, hS, hl⟩
    refine lv_iload_n hx hb dX7_setAll_7 rfl (lv_at hl 2 rfl) ?_
    refine lv_aload_n hx hb dX7_setAll_8 rfl (lv_at hl 0 rfl) ?_
    refine va_get (D := (dC, dI)) (ci := 7) (v := .int (nI n)) (C := RX7) (T := TX7) (N := 2) hx hb hts hiX7 hown hK hP 0 rfl rfl 1 (by decide) v_1 (fun _ h9 => h9) rfl dX7_setAll_9 ?_
    refine lv_icmp_ge (tgt := 65) hx hb dX7_setAll_12 (by decide) (fun z => absurd z (nI_ge (a := i_2) (b := n) (by omega) (by omega))) (fun _ => ?_)
    refine lv_iconst (v := 0) hx hb dX7_setAll_15 (by decide) ?_
    refine lv_istore_n (lv' := [(3, .int 0), (0, .ref z), (1, .int (nI n)), (2, .int (nI i_2))]) hx hb dX7_setAll_16 rfl hl (by decide) rfl (fun ls hl => ?_)
    refine pu_loop (n) (fun ii H locs ls => ∃ f0 : Nat → Int32, va_P (dC, dI) vwCl [(z, .inr (7, [.ref zc, .int (nI n)])), (zc, .inl (cI, N, .inl f0))] H ∧ va_D A [(z, .inr (7, [.ref zc, .int (nI n)])), (zc, .inl (cI, N, .inl f0))] ∧ va_S A s.heap H locs ∧ lv_has ls 4 [(0, .ref z), (1, .int (nI n)), (2, .int (nI i_2)), (3, .int (nI ii))]) (fun _ => 0) (fun _ => 0) 17 [] ?_ ?_ _ _ _ ⟨_, hP, hD, hS, lv_sub hl [1, 2, 3, 0] rfl⟩
    · rintro H locs ls ⟨f_5, hP, hD, hS, hl⟩
      refine lv_iload_n hx hb dX7_setAll_17 rfl (lv_at hl 3 rfl) ?_
      refine lv_aload_n hx hb dX7_setAll_18 rfl (lv_at hl 0 rfl) ?_
      refine va_get (D := (dC, dI)) (ci := 7) (v := .int (nI n)) (C := RX7) (T := TX7) (N := 2) hx hb hts hiX7 hown hK hP 0 rfl rfl 1 (by decide) v_1 (fun _ h9 => h9) rfl dX7_setAll_19 ?_
      refine lv_icmp_ge (tgt := 59) hx hb dX7_setAll_22 (by decide) (fun _ => ?_) (fun z => absurd (nI_le (a := n) (b := n) (by omega) (by omega)) z)
      refine lv_iinc (v := (nI (i_2 + 1))) (lv' := [(2, .int (nI (i_2 + 1))), (0, .ref z), (1, .int (nI n)), (3, .int (nI n))]) hx hb dX7_setAll_59 hl (k := 2) rfl (nI_1 _) (by decide) rfl (fun ls hl => ?_)
      refine lv_goto (tgt := 7) hx hb dX7_setAll_62 (by decide) ?_
      exact ih_4 _ _ _ ⟨_, hP, hD, hS, lv_sub hl [1, 2, 0] rfl⟩
    · rintro i_6 h_7 ih_8 H locs ls ⟨f_5, hP, hD, hS, hl⟩
      refine lv_iload_n hx hb dX7_setAll_17 rfl (lv_at hl 3 rfl) ?_
      refine lv_aload_n hx hb dX7_setAll_18 rfl (lv_at hl 0 rfl) ?_
      refine va_get (D := (dC, dI)) (ci := 7) (v := .int (nI n)) (C := RX7) (T := TX7) (N := 2) hx hb hts hiX7 hown hK hP 0 rfl rfl 1 (by decide) v_1 (fun _ h9 => h9) rfl dX7_setAll_19 ?_
      refine lv_icmp_ge (tgt := 59) hx hb dX7_setAll_22 (by decide) (fun z => absurd z (nI_ge (a := i_6) (b := n) (by omega) (by omega))) (fun _ => ?_)
      refine lv_aload_n hx hb dX7_setAll_25 rfl (lv_at hl 0 rfl) ?_
      refine va_get (D := (dC, dI)) (ci := 7) (v := .ref zc) (C := RX7) (T := TX7) (N := 2) hx hb hts hiX7 hown hK hP 0 rfl rfl 0 (by decide) v_2 (fun _ h9 => h9) rfl dX7_setAll_26 ?_
      refine lv_iload_n hx hb dX7_setAll_29 rfl (lv_at hl 2 rfl) ?_
      refine lv_aload_n hx hb dX7_setAll_30 rfl (lv_at hl 0 rfl) ?_
      refine va_get (D := (dC, dI)) (ci := 7) (v := .int (nI n)) (C := RX7) (T := TX7) (N := 2) hx hb hts hiX7 hown hK hP 0 rfl rfl 1 (by decide) v_1 (fun _ h9 => h9) rfl dX7_setAll_31 ?_
      refine lv_imul hx hb dX7_setAll_34 ?_
      refine lv_topi (fun y_9 ey_9 => ?_)
      obtain rfl : y_9 = (nI (i_2 * n)) := ey_9.trans (pk_mul i_2 n)
      refine lv_iload_n hx hb dX7_setAll_35 rfl (lv_at hl 3 rfl) ?_
      refine lv_iadd hx hb dX7_setAll_36 ?_
      refine lv_topi (fun y_10 ey_10 => ?_)
      obtain rfl : y_10 = (nI ((i_2 * n) + i_6)) := ey_10.trans (nI_add (i_2 * n) i_6)
      refine lv_iload_n hx hb dX7_setAll_37 rfl (lv_at hl 2 rfl) ?_
      refine lv_if_eq (tgt := 46) hx hb dX7_setAll_38 (by decide) (fun c_11 => ?_) (fun c_11 => ?_)
      · have c_11 : i_2 = 0 := (nI_eq (a := i_2) (b := 0) (by omega) (by omega)).mp c_11
        refine lv_iconst (v := 1) hx hb dX7_setAll_46 (by decide) ?_
        refine lv_goto (tgt := 52) hx hb dX7_setAll_47 (by decide) ?_
        refine va_iast hx hb hK hP hD hS 1 0 rfl rfl (vp_in_nI (n := ((i_2 * n) + i_6)) (by first | omega | exact ix_lt (by omega) (by omega) hn | exact ix_lt0 (by omega) hn | exact ix_ltq (by omega) hn | exact ix_lt1 (by omega) hn) (by omega)) dX7_setAll_52 (fun H locs hP hD hS => ?_)
        have hP : va_P (dC, dI) vwCl [(z, .inr (7, [.ref zc, .int (nI n)])), (zc, .inl (cI, N, .inl (upd f_5 ((nI ((i_2 * n) + i_6)) : Int32).toNatClampNeg 1)))] H := hP
        have hD : va_D A [(z, .inr (7, [.ref zc, .int (nI n)])), (zc, .inl (cI, N, .inl (upd f_5 ((nI ((i_2 * n) + i_6)) : Int32).toNatClampNeg 1)))] := hD
        refine lv_iinc (v := (nI (i_6 + 1))) (lv' := [(3, .int (nI (i_6 + 1))), (0, .ref z), (1, .int (nI n)), (2, .int (nI i_2))]) hx hb dX7_setAll_53 hl (k := 3) rfl (nI_1 _) (by decide) rfl (fun ls hl => ?_)
        refine lv_goto (tgt := 17) hx hb dX7_setAll_56 (by decide) ?_
        exact ih_8 _ _ _ ⟨_, hP, hD, hS, lv_sub hl [1, 2, 3, 0] rfl⟩
      · have c_11 : ¬ i_2 = 0 := fun z => c_11 ((nI_eq (a := i_2) (b := 0) (by omega) (by omega)).mpr z)
        refine lv_iload_n hx hb dX7_setAll_41 rfl (lv_at hl 2 rfl) ?_
        refine lv_iload_n hx hb dX7_setAll_42 rfl (lv_at hl 3 rfl) ?_
        refine lv_icmp_ne (tgt := 50) hx hb dX7_setAll_43 (by decide) (fun c_12 => ?_) (fun c_12 => ?_)
        · have c_12 : ¬ i_2 = i_6 := fun z => c_12 ((nI_eq (a := i_2) (b := i_6) (by omega) (by omega)).mpr z)
          refine lv_ldc hx hb hown v_3 dX7_setAll_50 ?_
          refine va_iast hx hb hK hP hD hS 1 0 rfl rfl (vp_in_nI (n := ((i_2 * n) + i_6)) (by first | omega | exact ix_lt (by omega) (by omega) hn | exact ix_lt0 (by omega) hn | exact ix_ltq (by omega) hn | exact ix_lt1 (by omega) hn) (by omega)) dX7_setAll_52 (fun H locs hP hD hS => ?_)
          have hP : va_P (dC, dI) vwCl [(z, .inr (7, [.ref zc, .int (nI n)])), (zc, .inl (cI, N, .inl (upd f_5 ((nI ((i_2 * n) + i_6)) : Int32).toNatClampNeg 2147483647)))] H := hP
          have hD : va_D A [(z, .inr (7, [.ref zc, .int (nI n)])), (zc, .inl (cI, N, .inl (upd f_5 ((nI ((i_2 * n) + i_6)) : Int32).toNatClampNeg 2147483647)))] := hD
          refine lv_iinc (v := (nI (i_6 + 1))) (lv' := [(3, .int (nI (i_6 + 1))), (0, .ref z), (1, .int (nI n)), (2, .int (nI i_2))]) hx hb dX7_setAll_53 hl (k := 3) rfl (nI_1 _) (by decide) rfl (fun ls hl => ?_)
          refine lv_goto (tgt := 17) hx hb dX7_setAll_56 (by decide) ?_
          exact ih_8 _ _ _ ⟨_, hP, hD, hS, lv_sub hl [1, 2, 3, 0] rfl⟩
        · have c_12 : i_2 = i_6 := (nI_eq (a := i_2) (b := i_6) (by omega) (by omega)).mp c_12
          refine lv_iconst (v := 1) hx hb dX7_setAll_46 (by decide) ?_
          refine lv_goto (tgt := 52) hx hb dX7_setAll_47 (by decide) ?_
          refine va_iast hx hb hK hP hD hS 1 0 rfl rfl (vp_in_nI (n := ((i_2 * n) + i_6)) (by first | omega | exact ix_lt (by omega) (by omega) hn | exact ix_lt0 (by omega) hn | exact ix_ltq (by omega) hn | exact ix_lt1 (by omega) hn) (by omega)) dX7_setAll_52 (fun H locs hP hD hS => ?_)
          have hP : va_P (dC, dI) vwCl [(z, .inr (7, [.ref zc, .int (nI n)])), (zc, .inl (cI, N, .inl (upd f_5 ((nI ((i_2 * n) + i_6)) : Int32).toNatClampNeg 1)))] H := hP
          have hD : va_D A [(z, .inr (7, [.ref zc, .int (nI n)])), (zc, .inl (cI, N, .inl (upd f_5 ((nI ((i_2 * n) + i_6)) : Int32).toNatClampNeg 1)))] := hD
          refine lv_iinc (v := (nI (i_6 + 1))) (lv' := [(3, .int (nI (i_6 + 1))), (0, .ref z), (1, .int (nI n)), (2, .int (nI i_2))]) hx hb dX7_setAll_53 hl (k := 3) rfl (nI_1 _) (by decide) rfl (fun ls hl => ?_)
          refine lv_goto (tgt := 17) hx hb dX7_setAll_56 (by decide) ?_
          exact ih_8 _ _ _ ⟨_, hP, hD, hS, lv_sub hl [1, 2, 3, 0] rfl⟩
theorem dX7_copyOf_0 : decode cX7_copyOf 0 = .ok (.aload_n 0, 1) := by decide +kernel
theorem dX7_copyOf_1 : decode cX7_copyOf 1 = .ok (.aload_n 1, 1) := by decide +kernel
theorem dX7_copyOf_2 : decode cX7_copyOf 2 = .ok (.getfield 18, 3) := by decide +kernel
theorem dX7_copyOf_5 : decode cX7_copyOf 5 = .ok (.putfield 18, 3) := by decide +kernel
theorem dX7_copyOf_8 : decode cX7_copyOf 8 = .ok (.iconst 0, 1) := by decide +kernel
theorem dX7_copyOf_9 : decode cX7_copyOf 9 = .ok (.istore_n 2, 1) := by decide +kernel
theorem dX7_copyOf_10 : decode cX7_copyOf 10 = .ok (.iload_n 2, 1) := by decide +kernel
theorem dX7_copyOf_11 : decode cX7_copyOf 11 = .ok (.aload_n 0, 1) := by decide +kernel
theorem dX7_copyOf_12 : decode cX7_copyOf 12 = .ok (.getfield 18, 3) := by decide +kernel
theorem dX7_copyOf_15 : decode cX7_copyOf 15 = .ok (.aload_n 0, 1) := by decide +kernel
theorem dX7_copyOf_16 : decode cX7_copyOf 16 = .ok (.getfield 18, 3) := by decide +kernel
theorem dX7_copyOf_19 : decode cX7_copyOf 19 = .ok (.imul, 1) := by decide +kernel
theorem dX7_copyOf_20 : decode cX7_copyOf 20 = .ok (.if_icmp .ge 21, 3) := by decide +kernel
theorem dX7_copyOf_23 : decode cX7_copyOf 23 = .ok (.aload_n 0, 1) := by decide +kernel
theorem dX7_copyOf_24 : decode cX7_copyOf 24 = .ok (.getfield 11, 3) := by decide +kernel
theorem dX7_copyOf_27 : decode cX7_copyOf 27 = .ok (.iload_n 2, 1) := by decide +kernel
theorem dX7_copyOf_28 : decode cX7_copyOf 28 = .ok (.aload_n 1, 1) := by decide +kernel
theorem dX7_copyOf_29 : decode cX7_copyOf 29 = .ok (.getfield 11, 3) := by decide +kernel
theorem dX7_copyOf_32 : decode cX7_copyOf 32 = .ok (.iload_n 2, 1) := by decide +kernel
theorem dX7_copyOf_33 : decode cX7_copyOf 33 = .ok (.iaload, 1) := by decide +kernel
theorem dX7_copyOf_34 : decode cX7_copyOf 34 = .ok (.iastore, 1) := by decide +kernel
theorem dX7_copyOf_35 : decode cX7_copyOf 35 = .ok (.iinc 2 1, 3) := by decide +kernel
theorem dX7_copyOf_38 : decode cX7_copyOf 38 = .ok (.goto (-28), 3) := by decide +kernel
theorem dX7_copyOf_41 : decode cX7_copyOf 41 = .ok (.return_, 1) := by decide +kernel
def vs_X7_copyOf : List Cond := .code yX7_copyOf cX7_copyOf 3 none :: ([.fieldLink RX7 18 "ClockReach$Zone" "size" "I", .fieldLink RX7 11 "ClockReach$Zone" "cells" "[I"] ++ wsX70)
set_option maxHeartbeats 4000000 in
set_option maxRecDepth 100000 in
theorem c_X7_copyOf (l : Launch) (dC : Nat → ClassId) (dI : Nat → Nat → Nat) (sz : Nat) (z zc : Nat) (cI : ClassId) (x0 : Int32) (n N : Nat) (f : Nat → Int32) (hn : n * n ≤ N) (hN : N ≤ 25) (zo zd : Nat) (cJ : ClassId) (M : Nat) (fu : Nat → Int32) (hm : n * n ≤ M) (hM : M ≤ 25) : Met l yX7_copyOf vs_X7_copyOf ({ frames := 0, cells := 0, slots := 0, locals := 0 }) (va_Pc [.ref z, .ref zo] (pu_B (dC, dI) [(z, .inr (7, [.ref zc, .int x0])), (zc, .inl (cI, N, .inl f)), (zo, .inr (7, [.ref zd, .int (nI n)])), (zd, .inl (cJ, M, .inl fu))] [(cI, .int), (cJ, .int)] sz)) (va_Qv (fun (_ : Unit) => True) (fun _ t => ∃ (g : Nat → Int32), pu_E (dC, dI) [(z, .inr (7, [.ref zc, .int (nI n)])), (zc, .inl (cI, N, .inl g)), (zo, .inr (7, [.ref zd, .int (nI n)])), (zd, .inl (cJ, M, .inl fu))] [(cI, .int), (cJ, .int)] (va_A ([(z, .inr (7, [.ref zc, .int x0])), (zc, .inl (cI, N, .inl f)), (zo, .inr (7, [.ref zd, .int (nI n)])), (zd, .inl (cJ, M, .inl fu))]) sz) t) (va_A ([(z, .inr (7, [.ref zc, .int x0])), (zc, .inl (cI, N, .inl f)), (zo, .inr (7, [.ref zd, .int (nI n)])), (zd, .inl (cJ, M, .inl fu))]) sz)) 0 0 (va_A ([(z, .inr (7, [.ref zc, .int x0])), (zc, .inl (cI, N, .inl f)), (zo, .inr (7, [.ref zd, .int (nI n)])), (zd, .inl (cJ, M, .inl fu))]) sz) := by
  refine Met.ofW (cc := cX7_copyOf) (maxL := 3) (ret := none) (by decide) rfl ?_
  intro p e s m args below meth c s₁ B hml hv
  obtain ⟨rfl, rfl, hP, hK, hD0⟩ := hv
  have hx := B.exec
  have hb := B.bytes
  have hr := B.returns
  have hts := atoms_spec (ws := vs_X7_copyOf) B.pre
  have v_1 := hts (.fieldLink RX7 18 "ClockReach$Zone" "size" "I") (List.mem_of_getElem? (i := 1) rfl)
  have v_2 := hts (.fieldLink RX7 11 "ClockReach$Zone" "cells" "[I") (List.mem_of_getElem? (i := 2) rfl)
  have hown : s.vm.findClass RX7 = some m.cls := findClass_of_methodNamed B.named
  have hlocks := B.notSynchronized
  have hiX7 : ∀ w ∈ wsX70, w ∈ vs_X7_copyOf := fun _ h => List.mem_cons_of_mem _ (List.mem_append_right _ h)
  have hD := hD0.self (sz := s.heap.size)
  generalize hAe : va_A ([(z, .inr (7, [.ref zc, .int x0])), (zc, .inl (cI, N, .inl f)), (zo, .inr (7, [.ref zd, .int (nI n)])), (zd, .inl (cJ, M, .inl fu))]) s.heap.size = A at hD ⊢
  have hA : ∀ q : Nat, s.heap.size ≤ q → A q := fun q h => by rw [← hAe]; exact Or.inr h
  have hS : va_S A s.heap s.heap [] := va_S.rf
  have hl := lv_entry ([.ref z, .ref zo]) (n := 3) (Nat.le_of_ble_eq_true rfl)
  rw [lg_entry_eq]
  generalize (lg_sl ([.ref z, .ref zo]) ++ List.replicate (3 - (lg_sl ([.ref z, .ref zo])).length) Slot.unset).toArray = ls at hl ⊢
  have hl : lv_has ls 3 [(0, .ref z), (1, .ref zo)] := hl
  have hn5 := zn_5 hn hN
  have hnq := zn_q hn hN
  refine lv_aload_n hx hb dX7_copyOf_0 rfl (lv_at hl 0 rfl) ?_
  refine lv_aload_n hx hb dX7_copyOf_1 rfl (lv_at hl 1 rfl) ?_
  refine va_get (D := (dC, dI)) (ci := 7) (v := .int (nI n)) (C := RX7) (T := TX7) (N := 2) hx hb hts hiX7 hown hK hP 2 rfl rfl 1 (by decide) v_1 (fun _ h9 => h9) rfl dX7_copyOf_2 ?_
  refine va_put (D := (dC, dI)) (ci := 7) (v := .int (nI n)) (ty := .int) (C := RX7) (T := TX7) (N := 2) hx hb hts hiX7 tyX7 tyX7_ok nmX7 hown hK hP hD hS 0 rfl rfl 1 (by decide) v_1 (fun _ h9 => h9) rfl (by decide +kernel) rfl rfl (Nat.le_of_ble_eq_true rfl) dX7_copyOf_5 (fun H locs hP hD hS => ?_)
  have hP : va_P (dC, dI) vwCl [(z, .inr (7, [.ref zc, .int (nI n)])), (zc, .inl (cI, N, .inl f)), (zo, .inr (7, [.ref zd, .int (nI n)])), (zd, .inl (cJ, M, .inl fu))] H := hP
  have hD : va_D A [(z, .inr (7, [.ref zc, .int (nI n)])), (zc, .inl (cI, N, .inl f)), (zo, .inr (7, [.ref zd, .int (nI n)])), (zd, .inl (cJ, M, .inl fu))] := hD
  refine lv_iconst (v := 0) hx hb dX7_copyOf_8 (by decide) ?_
  refine lv_istore_n (lv' := [(2, .int 0), (0, .ref z), (1, .ref zo)]) hx hb dX7_copyOf_9 rfl hl (by decide) rfl (fun ls hl => ?_)
  refine pu_loop (n * n) (fun ii H locs ls => ∃ f0 : Nat → Int32, va_P (dC, dI) vwCl [(z, .inr (7, [.ref zc, .int (nI n)])), (zc, .inl (cI, N, .inl f0)), (zo, .inr (7, [.ref zd, .int (nI n)])), (zd, .inl (cJ, M, .inl fu))] H ∧ va_D A [(z, .inr (7, [.ref zc, .int (nI n)])), (zc, .inl (cI, N, .inl f0)), (zo, .inr (7, [.ref zd, .int (nI n)])), (zd, .inl (cJ, M, .inl fu))] ∧ va_S A s.heap H locs ∧ lv_has ls 3 [(0, .ref z), (1, .ref zo), (2, .int (nI ii))]) (fun _ => 0) (fun _ => 0) 10 [] ?_ ?_ _ _ _ ⟨_, hP, hD, hS, lv_sub hl [1, 2, 0] rfl⟩
  · rintro H locs ls ⟨f_1, hP, hD, hS, hl⟩
    refine lv_iload_n hx hb dX7_copyOf_10 rfl (lv_at hl 2 rfl) ?_
    refine lv_aload_n hx hb dX7_copyOf_11 rfl (lv_at hl 0 rfl) ?_
    refine va_get (D := (dC, dI)) (ci := 7) (v := .int (nI n)) (C := RX7) (T := TX7) (N := 2) hx hb hts hiX7 hown hK hP 0 rfl rfl 1 (by decide) v_1 (fun _ h9 => h9) rfl dX7_copyOf_12 ?_
    refine lv_aload_n hx hb dX7_copyOf_15 rfl (lv_at hl 0 rfl) ?_
    refine va_get (D := (dC, dI)) (ci := 7) (v := .int (nI n)) (C := RX7) (T := TX7) (N := 2) hx hb hts hiX7 hown hK hP 0 rfl rfl 1 (by decide) v_1 (fun _ h9 => h9) rfl dX7_copyOf_16 ?_
    refine lv_imul hx hb dX7_copyOf_19 ?_
    refine lv_topi (fun y_5 ey_5 => ?_)
    obtain rfl : y_5 = (nI (n * n)) := ey_5.trans (pk_mul n n)
    refine lv_icmp_ge (tgt := 41) hx hb dX7_copyOf_20 (by decide) (fun _ => ?_) (fun z => absurd (nI_le (a := (n * n)) (b := (n * n)) (by omega) (by omega)) z)
    have hP9 := hP.sub (ws' := [(z, .inr (7, [.ref zc, .int (nI n)])), (zc, .inl (cI, N, .inl f_1)), (zo, .inr (7, [.ref zd, .int (nI n)])), (zd, .inl (cJ, M, .inl fu))]) [0, 1, 2, 3] rfl
    have hD9 := hD.sub (ws' := [(z, .inr (7, [.ref zc, .int (nI n)])), (zc, .inl (cI, N, .inl f_1)), (zo, .inr (7, [.ref zd, .int (nI n)])), (zd, .inl (cJ, M, .inl fu))]) [0, 1, 2, 3] (by decide) rfl
    have hK9 := hK.sub (tys' := [(cI, .int), (cJ, .int)]) [0, 1] rfl
    exact W.vret hx hb hr (fun t ht hW => ⟨⟨(), rfl, trivial, ⟨f_1, by rw [ht]; exact hP9, va_K.moved hW.alike hK9, hD9⟩⟩, hS.F ht⟩) hS.2.2 dX7_copyOf_41
  · rintro i_2 h_3 ih_4 H locs ls ⟨f_1, hP, hD, hS, hl⟩
    refine lv_iload_n hx hb dX7_copyOf_10 rfl (lv_at hl 2 rfl) ?_
    refine lv_aload_n hx hb dX7_copyOf_11 rfl (lv_at hl 0 rfl) ?_
    refine va_get (D := (dC, dI)) (ci := 7) (v := .int (nI n)) (C := RX7) (T := TX7) (N := 2) hx hb hts hiX7 hown hK hP 0 rfl rfl 1 (by decide) v_1 (fun _ h9 => h9) rfl dX7_copyOf_12 ?_
    refine lv_aload_n hx hb dX7_copyOf_15 rfl (lv_at hl 0 rfl) ?_
    refine va_get (D := (dC, dI)) (ci := 7) (v := .int (nI n)) (C := RX7) (T := TX7) (N := 2) hx hb hts hiX7 hown hK hP 0 rfl rfl 1 (by decide) v_1 (fun _ h9 => h9) rfl dX7_copyOf_16 ?_
    refine lv_imul hx hb dX7_copyOf_19 ?_
    refine lv_topi (fun y_6 ey_6 => ?_)
    obtain rfl : y_6 = (nI (n * n)) := ey_6.trans (pk_mul n n)
    refine lv_icmp_ge (tgt := 41) hx hb dX7_copyOf_20 (by decide) (fun z => absurd z (nI_ge (a := i_2) (b := (n * n)) (by omega) (by omega))) (fun _ => ?_)
    refine lv_aload_n hx hb dX7_copyOf_23 rfl (lv_at hl 0 rfl) ?_
    refine va_get (D := (dC, dI)) (ci := 7) (v := .ref zc) (C := RX7) (T := TX7) (N := 2) hx hb hts hiX7 hown hK hP 0 rfl rfl 0 (by decide) v_2 (fun _ h9 => h9) rfl dX7_copyOf_24 ?_
    refine lv_iload_n hx hb dX7_copyOf_27 rfl (lv_at hl 2 rfl) ?_
    refine lv_aload_n hx hb dX7_copyOf_28 rfl (lv_at hl 1 rfl) ?_
    refine va_get (D := (dC, dI)) (ci := 7) (v := .ref zd) (C := RX7) (T := TX7) (N := 2) hx hb hts hiX7 hown hK hP 2 rfl rfl 0 (by decide) v_2 (fun _ h9 => h9) rfl dX7_copyOf_29 ?_
    refine lv_iload_n hx hb dX7_copyOf_32 rfl (lv_at hl 2 rfl) ?_
    refine va_iald hx hb hK hP 3 1 rfl rfl (vp_in_nI (n := i_2) (by first | omega | exact ix_lt (by omega) (by omega) hn | exact ix_lt0 (by omega) hn | exact ix_ltq (by omega) hn | exact ix_lt1 (by omega) hn) (by omega)) dX7_copyOf_33 ?_
    refine va_iast hx hb hK hP hD hS 1 0 rfl rfl (vp_in_nI (n := i_2) (by first | omega | exact ix_lt (by omega) (by omega) hn | exact ix_lt0 (by omega) hn | exact ix_ltq (by omega) hn | exact ix_lt1 (by omega) hn) (by omega)) dX7_copyOf_34 (fun H locs hP hD hS => ?_)
    have hP : va_P (dC, dI) vwCl [(z, .inr (7, [.ref zc, .int (nI n)])), (zc, .inl (cI, N, .inl (upd f_1 ((nI i_2) : Int32).toNatClampNeg (fu ((nI i_2)).toNatClampNeg)))), (zo, .inr (7, [.ref zd, .int (nI n)])), (zd, .inl (cJ, M, .inl fu))] H := hP
    have hD : va_D A [(z, .inr (7, [.ref zc, .int (nI n)])), (zc, .inl (cI, N, .inl (upd f_1 ((nI i_2) : Int32).toNatClampNeg (fu ((nI i_2)).toNatClampNeg)))), (zo, .inr (7, [.ref zd, .int (nI n)])), (zd, .inl (cJ, M, .inl fu))] := hD
    refine lv_iinc (v := (nI (i_2 + 1))) (lv' := [(2, .int (nI (i_2 + 1))), (0, .ref z), (1, .ref zo)]) hx hb dX7_copyOf_35 hl (k := 2) rfl (nI_1 _) (by decide) rfl (fun ls hl => ?_)
    refine lv_goto (tgt := 10) hx hb dX7_copyOf_38 (by decide) ?_
    exact ih_4 _ _ _ ⟨_, hP, hD, hS, lv_sub hl [1, 2, 0] rfl⟩
theorem dX7_narrow_0 : decode cX7_narrow 0 = .ok (.iload_n 3, 1) := by decide +kernel
theorem dX7_narrow_1 : decode cX7_narrow 1 = .ok (.aload_n 0, 1) := by decide +kernel
theorem dX7_narrow_2 : decode cX7_narrow 2 = .ok (.getfield 11, 3) := by decide +kernel
theorem dX7_narrow_5 : decode cX7_narrow 5 = .ok (.iload_n 1, 1) := by decide +kernel
theorem dX7_narrow_6 : decode cX7_narrow 6 = .ok (.aload_n 0, 1) := by decide +kernel
theorem dX7_narrow_7 : decode cX7_narrow 7 = .ok (.getfield 18, 3) := by decide +kernel
theorem dX7_narrow_10 : decode cX7_narrow 10 = .ok (.imul, 1) := by decide +kernel
theorem dX7_narrow_11 : decode cX7_narrow 11 = .ok (.iload_n 2, 1) := by decide +kernel
theorem dX7_narrow_12 : decode cX7_narrow 12 = .ok (.iadd, 1) := by decide +kernel
theorem dX7_narrow_13 : decode cX7_narrow 13 = .ok (.iaload, 1) := by decide +kernel
theorem dX7_narrow_14 : decode cX7_narrow 14 = .ok (.if_icmp .lt 5, 3) := by decide +kernel
theorem dX7_narrow_17 : decode cX7_narrow 17 = .ok (.iconst 1, 1) := by decide +kernel
theorem dX7_narrow_18 : decode cX7_narrow 18 = .ok (.ireturn, 1) := by decide +kernel
theorem dX7_narrow_19 : decode cX7_narrow 19 = .ok (.aload_n 0, 1) := by decide +kernel
theorem dX7_narrow_20 : decode cX7_narrow 20 = .ok (.getfield 11, 3) := by decide +kernel
theorem dX7_narrow_23 : decode cX7_narrow 23 = .ok (.iload_n 2, 1) := by decide +kernel
theorem dX7_narrow_24 : decode cX7_narrow 24 = .ok (.aload_n 0, 1) := by decide +kernel
theorem dX7_narrow_25 : decode cX7_narrow 25 = .ok (.getfield 18, 3) := by decide +kernel
theorem dX7_narrow_28 : decode cX7_narrow 28 = .ok (.imul, 1) := by decide +kernel
theorem dX7_narrow_29 : decode cX7_narrow 29 = .ok (.iload_n 1, 1) := by decide +kernel
theorem dX7_narrow_30 : decode cX7_narrow 30 = .ok (.iadd, 1) := by decide +kernel
theorem dX7_narrow_31 : decode cX7_narrow 31 = .ok (.iaload, 1) := by decide +kernel
theorem dX7_narrow_32 : decode cX7_narrow 32 = .ok (.istore 4, 2) := by decide +kernel
theorem dX7_narrow_34 : decode cX7_narrow 34 = .ok (.iload 4, 2) := by decide +kernel
theorem dX7_narrow_36 : decode cX7_narrow 36 = .ok (.ldc 17, 2) := by decide +kernel
theorem dX7_narrow_38 : decode cX7_narrow 38 = .ok (.if_icmp .eq 20, 3) := by decide +kernel
theorem dX7_narrow_41 : decode cX7_narrow 41 = .ok (.iload 4, 2) := by decide +kernel
theorem dX7_narrow_43 : decode cX7_narrow 43 = .ok (.iload_n 3, 1) := by decide +kernel
theorem dX7_narrow_44 : decode cX7_narrow 44 = .ok (.iadd, 1) := by decide +kernel
theorem dX7_narrow_45 : decode cX7_narrow 45 = .ok (.iload 4, 2) := by decide +kernel
theorem dX7_narrow_47 : decode cX7_narrow 47 = .ok (.iload_n 3, 1) := by decide +kernel
theorem dX7_narrow_48 : decode cX7_narrow 48 = .ok (.ior, 1) := by decide +kernel
theorem dX7_narrow_49 : decode cX7_narrow 49 = .ok (.iconst 1, 1) := by decide +kernel
theorem dX7_narrow_50 : decode cX7_narrow 50 = .ok (.iand, 1) := by decide +kernel
theorem dX7_narrow_51 : decode cX7_narrow 51 = .ok (.isub, 1) := by decide +kernel
theorem dX7_narrow_52 : decode cX7_narrow 52 = .ok (.iconst 1, 1) := by decide +kernel
theorem dX7_narrow_53 : decode cX7_narrow 53 = .ok (.if_icmp .ge 5, 3) := by decide +kernel
theorem dX7_narrow_56 : decode cX7_narrow 56 = .ok (.iconst 0, 1) := by decide +kernel
theorem dX7_narrow_57 : decode cX7_narrow 57 = .ok (.ireturn, 1) := by decide +kernel
theorem dX7_narrow_58 : decode cX7_narrow 58 = .ok (.iconst 0, 1) := by decide +kernel
theorem dX7_narrow_59 : decode cX7_narrow 59 = .ok (.istore 5, 2) := by decide +kernel
theorem dX7_narrow_61 : decode cX7_narrow 61 = .ok (.iload 5, 2) := by decide +kernel
theorem dX7_narrow_63 : decode cX7_narrow 63 = .ok (.aload_n 0, 1) := by decide +kernel
theorem dX7_narrow_64 : decode cX7_narrow 64 = .ok (.getfield 18, 3) := by decide +kernel
theorem dX7_narrow_67 : decode cX7_narrow 67 = .ok (.if_icmp .ge 144, 3) := by decide +kernel
theorem dX7_narrow_70 : decode cX7_narrow 70 = .ok (.aload_n 0, 1) := by decide +kernel
theorem dX7_narrow_71 : decode cX7_narrow 71 = .ok (.getfield 11, 3) := by decide +kernel
theorem dX7_narrow_74 : decode cX7_narrow 74 = .ok (.iload 5, 2) := by decide +kernel
theorem dX7_narrow_76 : decode cX7_narrow 76 = .ok (.aload_n 0, 1) := by decide +kernel
theorem dX7_narrow_77 : decode cX7_narrow 77 = .ok (.getfield 18, 3) := by decide +kernel
theorem dX7_narrow_80 : decode cX7_narrow 80 = .ok (.imul, 1) := by decide +kernel
theorem dX7_narrow_81 : decode cX7_narrow 81 = .ok (.iload_n 1, 1) := by decide +kernel
theorem dX7_narrow_82 : decode cX7_narrow 82 = .ok (.iadd, 1) := by decide +kernel
theorem dX7_narrow_83 : decode cX7_narrow 83 = .ok (.iaload, 1) := by decide +kernel
theorem dX7_narrow_84 : decode cX7_narrow 84 = .ok (.istore 6, 2) := by decide +kernel
theorem dX7_narrow_86 : decode cX7_narrow 86 = .ok (.iload 6, 2) := by decide +kernel
theorem dX7_narrow_88 : decode cX7_narrow 88 = .ok (.ldc 17, 2) := by decide +kernel
theorem dX7_narrow_90 : decode cX7_narrow 90 = .ok (.if_icmp .ne 6, 3) := by decide +kernel
theorem dX7_narrow_93 : decode cX7_narrow 93 = .ok (.goto 112, 3) := by decide +kernel
theorem dX7_narrow_96 : decode cX7_narrow 96 = .ok (.iload 6, 2) := by decide +kernel
theorem dX7_narrow_98 : decode cX7_narrow 98 = .ok (.iload_n 3, 1) := by decide +kernel
theorem dX7_narrow_99 : decode cX7_narrow 99 = .ok (.iadd, 1) := by decide +kernel
theorem dX7_narrow_100 : decode cX7_narrow 100 = .ok (.iload 6, 2) := by decide +kernel
theorem dX7_narrow_102 : decode cX7_narrow 102 = .ok (.iload_n 3, 1) := by decide +kernel
theorem dX7_narrow_103 : decode cX7_narrow 103 = .ok (.ior, 1) := by decide +kernel
theorem dX7_narrow_104 : decode cX7_narrow 104 = .ok (.iconst 1, 1) := by decide +kernel
theorem dX7_narrow_105 : decode cX7_narrow 105 = .ok (.iand, 1) := by decide +kernel
theorem dX7_narrow_106 : decode cX7_narrow 106 = .ok (.isub, 1) := by decide +kernel
theorem dX7_narrow_107 : decode cX7_narrow 107 = .ok (.istore 6, 2) := by decide +kernel
theorem dX7_narrow_109 : decode cX7_narrow 109 = .ok (.iconst 0, 1) := by decide +kernel
theorem dX7_narrow_110 : decode cX7_narrow 110 = .ok (.istore 7, 2) := by decide +kernel
theorem dX7_narrow_112 : decode cX7_narrow 112 = .ok (.iload 7, 2) := by decide +kernel
theorem dX7_narrow_114 : decode cX7_narrow 114 = .ok (.aload_n 0, 1) := by decide +kernel
theorem dX7_narrow_115 : decode cX7_narrow 115 = .ok (.getfield 18, 3) := by decide +kernel
theorem dX7_narrow_118 : decode cX7_narrow 118 = .ok (.if_icmp .ge 87, 3) := by decide +kernel
theorem dX7_narrow_121 : decode cX7_narrow 121 = .ok (.aload_n 0, 1) := by decide +kernel
theorem dX7_narrow_122 : decode cX7_narrow 122 = .ok (.getfield 11, 3) := by decide +kernel
theorem dX7_narrow_125 : decode cX7_narrow 125 = .ok (.iload_n 2, 1) := by decide +kernel
theorem dX7_narrow_126 : decode cX7_narrow 126 = .ok (.aload_n 0, 1) := by decide +kernel
theorem dX7_narrow_127 : decode cX7_narrow 127 = .ok (.getfield 18, 3) := by decide +kernel
theorem dX7_narrow_130 : decode cX7_narrow 130 = .ok (.imul, 1) := by decide +kernel
theorem dX7_narrow_131 : decode cX7_narrow 131 = .ok (.iload 7, 2) := by decide +kernel
theorem dX7_narrow_133 : decode cX7_narrow 133 = .ok (.iadd, 1) := by decide +kernel
theorem dX7_narrow_134 : decode cX7_narrow 134 = .ok (.iaload, 1) := by decide +kernel
theorem dX7_narrow_135 : decode cX7_narrow 135 = .ok (.istore 8, 2) := by decide +kernel
theorem dX7_narrow_137 : decode cX7_narrow 137 = .ok (.iload 8, 2) := by decide +kernel
theorem dX7_narrow_139 : decode cX7_narrow 139 = .ok (.ldc 17, 2) := by decide +kernel
theorem dX7_narrow_141 : decode cX7_narrow 141 = .ok (.if_icmp .ne 6, 3) := by decide +kernel
theorem dX7_narrow_144 : decode cX7_narrow 144 = .ok (.goto 55, 3) := by decide +kernel
theorem dX7_narrow_147 : decode cX7_narrow 147 = .ok (.iload 6, 2) := by decide +kernel
theorem dX7_narrow_149 : decode cX7_narrow 149 = .ok (.iload 8, 2) := by decide +kernel
theorem dX7_narrow_151 : decode cX7_narrow 151 = .ok (.iadd, 1) := by decide +kernel
theorem dX7_narrow_152 : decode cX7_narrow 152 = .ok (.iload 6, 2) := by decide +kernel
theorem dX7_narrow_154 : decode cX7_narrow 154 = .ok (.iload 8, 2) := by decide +kernel
theorem dX7_narrow_156 : decode cX7_narrow 156 = .ok (.ior, 1) := by decide +kernel
theorem dX7_narrow_157 : decode cX7_narrow 157 = .ok (.iconst 1, 1) := by decide +kernel
theorem dX7_narrow_158 : decode cX7_narrow 158 = .ok (.iand, 1) := by decide +kernel
theorem dX7_narrow_159 : decode cX7_narrow 159 = .ok (.isub, 1) := by decide +kernel
theorem dX7_narrow_160 : decode cX7_narrow 160 = .ok (.istore 9, 2) := by decide +kernel
theorem dX7_narrow_162 : decode cX7_narrow 162 = .ok (.iload 9, 2) := by decide +kernel
theorem dX7_narrow_164 : decode cX7_narrow 164 = .ok (.aload_n 0, 1) := by decide +kernel
theorem dX7_narrow_165 : decode cX7_narrow 165 = .ok (.getfield 11, 3) := by decide +kernel
theorem dX7_narrow_168 : decode cX7_narrow 168 = .ok (.iload 5, 2) := by decide +kernel
theorem dX7_narrow_170 : decode cX7_narrow 170 = .ok (.aload_n 0, 1) := by decide +kernel
theorem dX7_narrow_171 : decode cX7_narrow 171 = .ok (.getfield 18, 3) := by decide +kernel
theorem dX7_narrow_174 : decode cX7_narrow 174 = .ok (.imul, 1) := by decide +kernel
theorem dX7_narrow_175 : decode cX7_narrow 175 = .ok (.iload 7, 2) := by decide +kernel
theorem dX7_narrow_177 : decode cX7_narrow 177 = .ok (.iadd, 1) := by decide +kernel
theorem dX7_narrow_178 : decode cX7_narrow 178 = .ok (.iaload, 1) := by decide +kernel
theorem dX7_narrow_179 : decode cX7_narrow 179 = .ok (.if_icmp .ge 20, 3) := by decide +kernel
theorem dX7_narrow_182 : decode cX7_narrow 182 = .ok (.aload_n 0, 1) := by decide +kernel
theorem dX7_narrow_183 : decode cX7_narrow 183 = .ok (.getfield 11, 3) := by decide +kernel
theorem dX7_narrow_186 : decode cX7_narrow 186 = .ok (.iload 5, 2) := by decide +kernel
theorem dX7_narrow_188 : decode cX7_narrow 188 = .ok (.aload_n 0, 1) := by decide +kernel
theorem dX7_narrow_189 : decode cX7_narrow 189 = .ok (.getfield 18, 3) := by decide +kernel
theorem dX7_narrow_192 : decode cX7_narrow 192 = .ok (.imul, 1) := by decide +kernel
theorem dX7_narrow_193 : decode cX7_narrow 193 = .ok (.iload 7, 2) := by decide +kernel
theorem dX7_narrow_195 : decode cX7_narrow 195 = .ok (.iadd, 1) := by decide +kernel
theorem dX7_narrow_196 : decode cX7_narrow 196 = .ok (.iload 9, 2) := by decide +kernel
theorem dX7_narrow_198 : decode cX7_narrow 198 = .ok (.iastore, 1) := by decide +kernel
theorem dX7_narrow_199 : decode cX7_narrow 199 = .ok (.iinc 7 1, 3) := by decide +kernel
theorem dX7_narrow_202 : decode cX7_narrow 202 = .ok (.goto (-90), 3) := by decide +kernel
theorem dX7_narrow_205 : decode cX7_narrow 205 = .ok (.iinc 5 1, 3) := by decide +kernel
theorem dX7_narrow_208 : decode cX7_narrow 208 = .ok (.goto (-147), 3) := by decide +kernel
theorem dX7_narrow_211 : decode cX7_narrow 211 = .ok (.iconst 1, 1) := by decide +kernel
theorem dX7_narrow_212 : decode cX7_narrow 212 = .ok (.ireturn, 1) := by decide +kernel
def vs_X7_narrow : List Cond := .code yX7_narrow cX7_narrow 10 (some .boolean) :: ([.fieldLink RX7 11 "ClockReach$Zone" "cells" "[I", .fieldLink RX7 18 "ClockReach$Zone" "size" "I", .constant RX7 17 (2147483647)] ++ wsX70)
set_option maxHeartbeats 4000000 in
set_option maxRecDepth 100000 in
theorem c_X7_narrow (l : Launch) (dC : Nat → ClassId) (dI : Nat → Nat → Nat) (sz : Nat) (z zc : Nat) (cI : ClassId) (n N : Nat) (f : Nat → Int32) (hn : n * n ≤ N) (hN : N ≤ 25) (i j : Nat) (hi : i < n) (hj : j < n) (p0 : Int32) : Met l yX7_narrow vs_X7_narrow ({ frames := 0, cells := 0, slots := 0, locals := 0 }) (va_Pc [.ref z, .int (nI i), .int (nI j), .int p0] (pu_B (dC, dI) [(z, .inr (7, [.ref zc, .int (nI n)])), (zc, .inl (cI, N, .inl f))] [(cI, .int)] sz)) (va_Qi (fun (r : Int32) (_ : Unit) => True) (fun _ t => ∃ (g : Nat → Int32), pu_E (dC, dI) [(z, .inr (7, [.ref zc, .int (nI n)])), (zc, .inl (cI, N, .inl g))] [(cI, .int)] (va_A ([(z, .inr (7, [.ref zc, .int (nI n)])), (zc, .inl (cI, N, .inl f))]) sz) t) (va_A ([(z, .inr (7, [.ref zc, .int (nI n)])), (zc, .inl (cI, N, .inl f))]) sz)) 0 0 (va_A ([(z, .inr (7, [.ref zc, .int (nI n)])), (zc, .inl (cI, N, .inl f))]) sz) := by
  refine Met.ofW (cc := cX7_narrow) (maxL := 10) (ret := (some .boolean)) (by decide) rfl ?_
  intro p e s m args below meth c s₁ B hml hv
  obtain ⟨rfl, rfl, hP, hK, hD0⟩ := hv
  have hx := B.exec
  have hb := B.bytes
  have hr := B.returns
  have hts := atoms_spec (ws := vs_X7_narrow) B.pre
  have v_1 := hts (.fieldLink RX7 11 "ClockReach$Zone" "cells" "[I") (List.mem_of_getElem? (i := 1) rfl)
  have v_2 := hts (.fieldLink RX7 18 "ClockReach$Zone" "size" "I") (List.mem_of_getElem? (i := 2) rfl)
  have v_3 := hts (.constant RX7 17 (2147483647)) (List.mem_of_getElem? (i := 3) rfl)
  have hown : s.vm.findClass RX7 = some m.cls := findClass_of_methodNamed B.named
  have hlocks := B.notSynchronized
  have hiX7 : ∀ w ∈ wsX70, w ∈ vs_X7_narrow := fun _ h => List.mem_cons_of_mem _ (List.mem_append_right _ h)
  have hD := hD0.self (sz := s.heap.size)
  generalize hAe : va_A ([(z, .inr (7, [.ref zc, .int (nI n)])), (zc, .inl (cI, N, .inl f))]) s.heap.size = A at hD ⊢
  have hA : ∀ q : Nat, s.heap.size ≤ q → A q := fun q h => by rw [← hAe]; exact Or.inr h
  have hS : va_S A s.heap s.heap [] := va_S.rf
  have hl := lv_entry ([.ref z, .int (nI i), .int (nI j), .int p0]) (n := 10) (Nat.le_of_ble_eq_true rfl)
  rw [lg_entry_eq]
  generalize (lg_sl ([.ref z, .int (nI i), .int (nI j), .int p0]) ++ List.replicate (10 - (lg_sl ([.ref z, .int (nI i), .int (nI j), .int p0])).length) Slot.unset).toArray = ls at hl ⊢
  have hl : lv_has ls 10 [(0, .ref z), (1, .int (nI i)), (2, .int (nI j)), (3, .int p0)] := hl
  have hn5 := zn_5 hn hN
  have hnq := zn_q hn hN
  have him := zn_m hi hn hN
  have hjm := zn_m hj hn hN
  refine lv_iload_n hx hb dX7_narrow_0 rfl (lv_at hl 3 rfl) ?_
  refine lv_aload_n hx hb dX7_narrow_1 rfl (lv_at hl 0 rfl) ?_
  refine va_get (D := (dC, dI)) (ci := 7) (v := .ref zc) (C := RX7) (T := TX7) (N := 2) hx hb hts hiX7 hown hK hP 0 rfl rfl 0 (by decide) v_1 (fun _ h9 => h9) rfl dX7_narrow_2 ?_
  refine lv_iload_n hx hb dX7_narrow_5 rfl (lv_at hl 1 rfl) ?_
  refine lv_aload_n hx hb dX7_narrow_6 rfl (lv_at hl 0 rfl) ?_
  refine va_get (D := (dC, dI)) (ci := 7) (v := .int (nI n)) (C := RX7) (T := TX7) (N := 2) hx hb hts hiX7 hown hK hP 0 rfl rfl 1 (by decide) v_2 (fun _ h9 => h9) rfl dX7_narrow_7 ?_
  refine lv_imul hx hb dX7_narrow_10 ?_
  refine lv_topi (fun y_1 ey_1 => ?_)
  obtain rfl : y_1 = (nI (i * n)) := ey_1.trans (pk_mul i n)
  refine lv_iload_n hx hb dX7_narrow_11 rfl (lv_at hl 2 rfl) ?_
  refine lv_iadd hx hb dX7_narrow_12 ?_
  refine lv_topi (fun y_2 ey_2 => ?_)
  obtain rfl : y_2 = (nI ((i * n) + j)) := ey_2.trans (nI_add (i * n) j)
  refine va_iald hx hb hK hP 1 0 rfl rfl (vp_in_nI (n := ((i * n) + j)) (by first | omega | exact ix_lt (by omega) (by omega) hn | exact ix_lt0 (by omega) hn | exact ix_ltq (by omega) hn | exact ix_lt1 (by omega) hn) (by omega)) dX7_narrow_13 ?_
  refine lv_icmp_lt (tgt := 19) hx hb dX7_narrow_14 (by decide) (fun c_3 => ?_) (fun c_3 => ?_)
  · refine lv_aload_n hx hb dX7_narrow_19 rfl (lv_at hl 0 rfl) ?_
    refine va_get (D := (dC, dI)) (ci := 7) (v := .ref zc) (C := RX7) (T := TX7) (N := 2) hx hb hts hiX7 hown hK hP 0 rfl rfl 0 (by decide) v_1 (fun _ h9 => h9) rfl dX7_narrow_20 ?_
    refine lv_iload_n hx hb dX7_narrow_23 rfl (lv_at hl 2 rfl) ?_
    refine lv_aload_n hx hb dX7_narrow_24 rfl (lv_at hl 0 rfl) ?_
    refine va_get (D := (dC, dI)) (ci := 7) (v := .int (nI n)) (C := RX7) (T := TX7) (N := 2) hx hb hts hiX7 hown hK hP 0 rfl rfl 1 (by decide) v_2 (fun _ h9 => h9) rfl dX7_narrow_25 ?_
    refine lv_imul hx hb dX7_narrow_28 ?_
    refine lv_topi (fun y_4 ey_4 => ?_)
    obtain rfl : y_4 = (nI (j * n)) := ey_4.trans (pk_mul j n)
    refine lv_iload_n hx hb dX7_narrow_29 rfl (lv_at hl 1 rfl) ?_
    refine lv_iadd hx hb dX7_narrow_30 ?_
    refine lv_topi (fun y_5 ey_5 => ?_)
    obtain rfl : y_5 = (nI ((j * n) + i)) := ey_5.trans (nI_add (j * n) i)
    refine va_iald hx hb hK hP 1 0 rfl rfl (vp_in_nI (n := ((j * n) + i)) (by first | omega | exact ix_lt (by omega) (by omega) hn | exact ix_lt0 (by omega) hn | exact ix_ltq (by omega) hn | exact ix_lt1 (by omega) hn) (by omega)) dX7_narrow_31 ?_
    refine lv_istore (lv' := [(4, .int (f ((nI ((j * n) + i))).toNatClampNeg)), (0, .ref z), (1, .int (nI i)), (2, .int (nI j)), (3, .int p0)]) hx hb dX7_narrow_32 hl (by decide) rfl (fun ls hl => ?_)
    refine lv_iload hx hb dX7_narrow_34 (lv_at hl 0 rfl) ?_
    refine lv_ldc hx hb hown v_3 dX7_narrow_36 ?_
    refine lv_icmp_eq (tgt := 58) hx hb dX7_narrow_38 (by decide) (fun c_6 => ?_) (fun c_6 => ?_)
    · refine lv_iconst (v := 0) hx hb dX7_narrow_58 (by decide) ?_
      refine lv_istore (lv' := [(5, .int 0), (4, .int (f ((nI ((j * n) + i))).toNatClampNeg)), (0, .ref z), (1, .int (nI i)), (2, .int (nI j)), (3, .int p0)]) hx hb dX7_narrow_59 hl (by decide) rfl (fun ls hl => ?_)
      refine pu_loop (n) (fun ii H locs ls => ∃ f0 : Nat → Int32, va_P (dC, dI) vwCl [(z, .inr (7, [.ref zc, .int (nI n)])), (zc, .inl (cI, N, .inl f0))] H ∧ va_D A [(z, .inr (7, [.ref zc, .int (nI n)])), (zc, .inl (cI, N, .inl f0))] ∧ va_S A s.heap H locs ∧ lv_has ls 10 [(0, .ref z), (1, .int (nI i)), (2, .int (nI j)), (3, .int p0), (4, .int (f ((nI ((j * n) + i))).toNatClampNeg)), (5, .int (nI ii))]) (fun _ => 0) (fun _ => 0) 61 [] ?_ ?_ _ _ _ ⟨_, hP, hD, hS, lv_sub hl [2, 3, 4, 5, 1, 0] rfl⟩
      · rintro H locs ls ⟨f_7, hP, hD, hS, hl⟩
        refine lv_iload hx hb dX7_narrow_61 (lv_at hl 5 rfl) ?_
        refine lv_aload_n hx hb dX7_narrow_63 rfl (lv_at hl 0 rfl) ?_
        refine va_get (D := (dC, dI)) (ci := 7) (v := .int (nI n)) (C := RX7) (T := TX7) (N := 2) hx hb hts hiX7 hown hK hP 0 rfl rfl 1 (by decide) v_2 (fun _ h9 => h9) rfl dX7_narrow_64 ?_
        refine lv_icmp_ge (tgt := 211) hx hb dX7_narrow_67 (by decide) (fun _ => ?_) (fun z => absurd (nI_le (a := n) (b := n) (by omega) (by omega)) z)
        refine lv_iconst (v := 1) hx hb dX7_narrow_211 (by decide) ?_
        have hP9 := hP.sub (ws' := [(z, .inr (7, [.ref zc, .int (nI n)])), (zc, .inl (cI, N, .inl f_7))]) [0, 1] rfl
        have hD9 := hD.sub (ws' := [(z, .inr (7, [.ref zc, .int (nI n)])), (zc, .inl (cI, N, .inl f_7))]) [0, 1] (by decide) rfl
        have hK9 := hK.sub (tys' := [(cI, .int)]) [0] rfl
        exact W.zret (v := 1) (ty := .boolean) hx hb hr rfl (fun t ht hW => ⟨⟨1, (), rfl, trivial, ⟨f_7, by rw [ht]; exact hP9, va_K.moved hW.alike hK9, hD9⟩⟩, hS.F ht⟩) hS.2.2 dX7_narrow_212
      · rintro i_8 h_9 ih_10 H locs ls ⟨f_7, hP, hD, hS, hl⟩
        refine lv_iload hx hb dX7_narrow_61 (lv_at hl 5 rfl) ?_
        refine lv_aload_n hx hb dX7_narrow_63 rfl (lv_at hl 0 rfl) ?_
        refine va_get (D := (dC, dI)) (ci := 7) (v := .int (nI n)) (C := RX7) (T := TX7) (N := 2) hx hb hts hiX7 hown hK hP 0 rfl rfl 1 (by decide) v_2 (fun _ h9 => h9) rfl dX7_narrow_64 ?_
        refine lv_icmp_ge (tgt := 211) hx hb dX7_narrow_67 (by decide) (fun z => absurd z (nI_ge (a := i_8) (b := n) (by omega) (by omega))) (fun _ => ?_)
        refine lv_aload_n hx hb dX7_narrow_70 rfl (lv_at hl 0 rfl) ?_
        refine va_get (D := (dC, dI)) (ci := 7) (v := .ref zc) (C := RX7) (T := TX7) (N := 2) hx hb hts hiX7 hown hK hP 0 rfl rfl 0 (by decide) v_1 (fun _ h9 => h9) rfl dX7_narrow_71 ?_
        refine lv_iload hx hb dX7_narrow_74 (lv_at hl 5 rfl) ?_
        refine lv_aload_n hx hb dX7_narrow_76 rfl (lv_at hl 0 rfl) ?_
        refine va_get (D := (dC, dI)) (ci := 7) (v := .int (nI n)) (C := RX7) (T := TX7) (N := 2) hx hb hts hiX7 hown hK hP 0 rfl rfl 1 (by decide) v_2 (fun _ h9 => h9) rfl dX7_narrow_77 ?_
        refine lv_imul hx hb dX7_narrow_80 ?_
        refine lv_topi (fun y_11 ey_11 => ?_)
        obtain rfl : y_11 = (nI (i_8 * n)) := ey_11.trans (pk_mul i_8 n)
        refine lv_iload_n hx hb dX7_narrow_81 rfl (lv_at hl 1 rfl) ?_
        refine lv_iadd hx hb dX7_narrow_82 ?_
        refine lv_topi (fun y_12 ey_12 => ?_)
        obtain rfl : y_12 = (nI ((i_8 * n) + i)) := ey_12.trans (nI_add (i_8 * n) i)
        refine va_iald hx hb hK hP 1 0 rfl rfl (vp_in_nI (n := ((i_8 * n) + i)) (by first | omega | exact ix_lt (by omega) (by omega) hn | exact ix_lt0 (by omega) hn | exact ix_ltq (by omega) hn | exact ix_lt1 (by omega) hn) (by omega)) dX7_narrow_83 ?_
        refine lv_istore (lv' := [(6, .int (f_7 ((nI ((i_8 * n) + i))).toNatClampNeg)), (0, .ref z), (1, .int (nI i)), (2, .int (nI j)), (3, .int p0), (4, .int (f ((nI ((j * n) + i))).toNatClampNeg)), (5, .int (nI i_8))]) hx hb dX7_narrow_84 hl (by decide) rfl (fun ls hl => ?_)
        refine lv_iload hx hb dX7_narrow_86 (lv_at hl 0 rfl) ?_
        refine lv_ldc hx hb hown v_3 dX7_narrow_88 ?_
        refine lv_icmp_ne (tgt := 96) hx hb dX7_narrow_90 (by decide) (fun c_13 => ?_) (fun c_13 => ?_)
        · refine lv_iload hx hb dX7_narrow_96 (lv_at hl 0 rfl) ?_
          refine lv_iload_n hx hb dX7_narrow_98 rfl (lv_at hl 4 rfl) ?_
          refine lv_iadd hx hb dX7_narrow_99 ?_
          refine lv_iload hx hb dX7_narrow_100 (lv_at hl 0 rfl) ?_
          refine lv_iload_n hx hb dX7_narrow_102 rfl (lv_at hl 4 rfl) ?_
          refine lv_ior hx hb dX7_narrow_103 ?_
          refine lv_iconst (v := 1) hx hb dX7_narrow_104 (by decide) ?_
          refine lv_iand hx hb dX7_narrow_105 ?_
          refine lv_isub hx hb dX7_narrow_106 ?_
          refine lv_istore (lv' := [(6, .int (((f_7 ((nI ((i_8 * n) + i))).toNatClampNeg) + p0) - (((f_7 ((nI ((i_8 * n) + i))).toNatClampNeg) ||| p0) &&& 1))), (0, .ref z), (1, .int (nI i)), (2, .int (nI j)), (3, .int p0), (4, .int (f ((nI ((j * n) + i))).toNatClampNeg)), (5, .int (nI i_8))]) hx hb dX7_narrow_107 hl (by decide) rfl (fun ls hl => ?_)
          refine lv_iconst (v := 0) hx hb dX7_narrow_109 (by decide) ?_
          refine lv_istore (lv' := [(7, .int 0), (6, .int (((f_7 ((nI ((i_8 * n) + i))).toNatClampNeg) + p0) - (((f_7 ((nI ((i_8 * n) + i))).toNatClampNeg) ||| p0) &&& 1))), (0, .ref z), (1, .int (nI i)), (2, .int (nI j)), (3, .int p0), (4, .int (f ((nI ((j * n) + i))).toNatClampNeg)), (5, .int (nI i_8))]) hx hb dX7_narrow_110 hl (by decide) rfl (fun ls hl => ?_)
          refine pu_loop (n) (fun ii H locs ls => ∃ f0 : Nat → Int32, va_P (dC, dI) vwCl [(z, .inr (7, [.ref zc, .int (nI n)])), (zc, .inl (cI, N, .inl f0))] H ∧ va_D A [(z, .inr (7, [.ref zc, .int (nI n)])), (zc, .inl (cI, N, .inl f0))] ∧ va_S A s.heap H locs ∧ lv_has ls 10 [(0, .ref z), (1, .int (nI i)), (2, .int (nI j)), (3, .int p0), (4, .int (f ((nI ((j * n) + i))).toNatClampNeg)), (5, .int (nI i_8)), (6, .int (((f_7 ((nI ((i_8 * n) + i))).toNatClampNeg) + p0) - (((f_7 ((nI ((i_8 * n) + i))).toNatClampNeg) ||| p0) &&& 1))), (7, .int (nI ii))]) (fun _ => 0) (fun _ => 0) 112 [] ?_ ?_ _ _ _ ⟨_, hP, hD, hS, lv_sub hl [2, 3, 4, 5, 6, 7, 1, 0] rfl⟩
          · rintro H locs ls ⟨f_14, hP, hD, hS, hl⟩
            refine lv_iload hx hb dX7_narrow_112 (lv_at hl 7 rfl) ?_
            refine lv_aload_n hx hb dX7_narrow_114 rfl (lv_at hl 0 rfl) ?_
            refine va_get (D := (dC, dI)) (ci := 7) (v := .int (nI n)) (C := RX7) (T := TX7) (N := 2) hx hb hts hiX7 hown hK hP 0 rfl rfl 1 (by decide) v_2 (fun _ h9 => h9) rfl dX7_narrow_115 ?_
            refine lv_icmp_ge (tgt := 205) hx hb dX7_narrow_118 (by decide) (fun _ => ?_) (fun z => absurd (nI_le (a := n) (b := n) (by omega) (by omega)) z)
            refine lv_iinc (v := (nI (i_8 + 1))) (lv' := [(5, .int (nI (i_8 + 1))), (0, .ref z), (1, .int (nI i)), (2, .int (nI j)), (3, .int p0), (4, .int (f ((nI ((j * n) + i))).toNatClampNeg)), (6, .int (((f_7 ((nI ((i_8 * n) + i))).toNatClampNeg) + p0) - (((f_7 ((nI ((i_8 * n) + i))).toNatClampNeg) ||| p0) &&& 1))), (7, .int (nI n))]) hx hb dX7_narrow_205 hl (k := 5) rfl (nI_1 _) (by decide) rfl (fun ls hl => ?_)
            refine lv_goto (tgt := 61) hx hb dX7_narrow_208 (by decide) ?_
            exact ih_10 _ _ _ ⟨_, hP, hD, hS, lv_sub hl [1, 2, 3, 4, 5, 0] rfl⟩
          · rintro i_15 h_16 ih_17 H locs ls ⟨f_14, hP, hD, hS, hl⟩
            refine lv_iload hx hb dX7_narrow_112 (lv_at hl 7 rfl) ?_
            refine lv_aload_n hx hb dX7_narrow_114 rfl (lv_at hl 0 rfl) ?_
            refine va_get (D := (dC, dI)) (ci := 7) (v := .int (nI n)) (C := RX7) (T := TX7) (N := 2) hx hb hts hiX7 hown hK hP 0 rfl rfl 1 (by decide) v_2 (fun _ h9 => h9) rfl dX7_narrow_115 ?_
            refine lv_icmp_ge (tgt := 205) hx hb dX7_narrow_118 (by decide) (fun z => absurd z (nI_ge (a := i_15) (b := n) (by omega) (by omega))) (fun _ => ?_)
            refine lv_aload_n hx hb dX7_narrow_121 rfl (lv_at hl 0 rfl) ?_
            refine va_get (D := (dC, dI)) (ci := 7) (v := .ref zc) (C := RX7) (T := TX7) (N := 2) hx hb hts hiX7 hown hK hP 0 rfl rfl 0 (by decide) v_1 (fun _ h9 => h9) rfl dX7_narrow_122 ?_
            refine lv_iload_n hx hb dX7_narrow_125 rfl (lv_at hl 2 rfl) ?_
            refine lv_aload_n hx hb dX7_narrow_126 rfl (lv_at hl 0 rfl) ?_
            refine va_get (D := (dC, dI)) (ci := 7) (v := .int (nI n)) (C := RX7) (T := TX7) (N := 2) hx hb hts hiX7 hown hK hP 0 rfl rfl 1 (by decide) v_2 (fun _ h9 => h9) rfl dX7_narrow_127 ?_
            refine lv_imul hx hb dX7_narrow_130 ?_
            refine lv_topi (fun y_18 ey_18 => ?_)
            obtain rfl : y_18 = (nI (j * n)) := ey_18.trans (pk_mul j n)
            refine lv_iload hx hb dX7_narrow_131 (lv_at hl 7 rfl) ?_
            refine lv_iadd hx hb dX7_narrow_133 ?_
            refine lv_topi (fun y_19 ey_19 => ?_)
            obtain rfl : y_19 = (nI ((j * n) + i_15)) := ey_19.trans (nI_add (j * n) i_15)
            refine va_iald hx hb hK hP 1 0 rfl rfl (vp_in_nI (n := ((j * n) + i_15)) (by first | omega | exact ix_lt (by omega) (by omega) hn | exact ix_lt0 (by omega) hn | exact ix_ltq (by omega) hn | exact ix_lt1 (by omega) hn) (by omega)) dX7_narrow_134 ?_
            refine lv_istore (lv' := [(8, .int (f_14 ((nI ((j * n) + i_15))).toNatClampNeg)), (0, .ref z), (1, .int (nI i)), (2, .int (nI j)), (3, .int p0), (4, .int (f ((nI ((j * n) + i))).toNatClampNeg)), (5, .int (nI i_8)), (6, .int (((f_7 ((nI ((i_8 * n) + i))).toNatClampNeg) + p0) - (((f_7 ((nI ((i_8 * n) + i))).toNatClampNeg) ||| p0) &&& 1))), (7, .int (nI i_15))]) hx hb dX7_narrow_135 hl (by decide) rfl (fun ls hl => ?_)
            refine lv_iload hx hb dX7_narrow_137 (lv_at hl 0 rfl) ?_
            refine lv_ldc hx hb hown v_3 dX7_narrow_139 ?_
            refine lv_icmp_ne (tgt := 147) hx hb dX7_narrow_141 (by decide) (fun c_20 => ?_) (fun c_20 => ?_)
            · refine lv_iload hx hb dX7_narrow_147 (lv_at hl 7 rfl) ?_
              refine lv_iload hx hb dX7_narrow_149 (lv_at hl 0 rfl) ?_
              refine lv_iadd hx hb dX7_narrow_151 ?_
              refine lv_iload hx hb dX7_narrow_152 (lv_at hl 7 rfl) ?_
              refine lv_iload hx hb dX7_narrow_154 (lv_at hl 0 rfl) ?_
              refine lv_ior hx hb dX7_narrow_156 ?_
              refine lv_iconst (v := 1) hx hb dX7_narrow_157 (by decide) ?_
              refine lv_iand hx hb dX7_narrow_158 ?_
              refine lv_isub hx hb dX7_narrow_159 ?_
              refine lv_istore (lv' := [(9, .int (((((f_7 ((nI ((i_8 * n) + i))).toNatClampNeg) + p0) - (((f_7 ((nI ((i_8 * n) + i))).toNatClampNeg) ||| p0) &&& 1)) + (f_14 ((nI ((j * n) + i_15))).toNatClampNeg)) - (((((f_7 ((nI ((i_8 * n) + i))).toNatClampNeg) + p0) - (((f_7 ((nI ((i_8 * n) + i))).toNatClampNeg) ||| p0) &&& 1)) ||| (f_14 ((nI ((j * n) + i_15))).toNatClampNeg)) &&& 1))), (8, .int (f_14 ((nI ((j * n) + i_15))).toNatClampNeg)), (0, .ref z), (1, .int (nI i)), (2, .int (nI j)), (3, .int p0), (4, .int (f ((nI ((j * n) + i))).toNatClampNeg)), (5, .int (nI i_8)), (6, .int (((f_7 ((nI ((i_8 * n) + i))).toNatClampNeg) + p0) - (((f_7 ((nI ((i_8 * n) + i))).toNatClampNeg) ||| p0) &&& 1))), (7, .int (nI i_15))]) hx hb dX7_narrow_160 hl (by decide) rfl (fun ls hl => ?_)
              refine lv_iload hx hb dX7_narrow_162 (lv_at hl 0 rfl) ?_
              refine lv_aload_n hx hb dX7_narrow_164 rfl (lv_at hl 2 rfl) ?_
              refine va_get (D := (dC, dI)) (ci := 7) (v := .ref zc) (C := RX7) (T := TX7) (N := 2) hx hb hts hiX7 hown hK hP 0 rfl rfl 0 (by decide) v_1 (fun _ h9 => h9) rfl dX7_narrow_165 ?_
              refine lv_iload hx hb dX7_narrow_168 (lv_at hl 7 rfl) ?_
              refine lv_aload_n hx hb dX7_narrow_170 rfl (lv_at hl 2 rfl) ?_
              refine va_get (D := (dC, dI)) (ci := 7) (v := .int (nI n)) (C := RX7) (T := TX7) (N := 2) hx hb hts hiX7 hown hK hP 0 rfl rfl 1 (by decide) v_2 (fun _ h9 => h9) rfl dX7_narrow_171 ?_
              refine lv_imul hx hb dX7_narrow_174 ?_
              refine lv_topi (fun y_21 ey_21 => ?_)
              obtain rfl : y_21 = (nI (i_8 * n)) := ey_21.trans (pk_mul i_8 n)
              refine lv_iload hx hb dX7_narrow_175 (lv_at hl 9 rfl) ?_
              refine lv_iadd hx hb dX7_narrow_177 ?_
              refine lv_topi (fun y_22 ey_22 => ?_)
              obtain rfl : y_22 = (nI ((i_8 * n) + i_15)) := ey_22.trans (nI_add (i_8 * n) i_15)
              refine va_iald hx hb hK hP 1 0 rfl rfl (vp_in_nI (n := ((i_8 * n) + i_15)) (by first | omega | exact ix_lt (by omega) (by omega) hn | exact ix_lt0 (by omega) hn | exact ix_ltq (by omega) hn | exact ix_lt1 (by omega) hn) (by omega)) dX7_narrow_178 ?_
              refine lv_icmp_ge (tgt := 199) hx hb dX7_narrow_179 (by decide) (fun c_23 => ?_) (fun c_23 => ?_)
              · refine lv_iinc (v := (nI (i_15 + 1))) (lv' := [(7, .int (nI (i_15 + 1))), (9, .int (((((f_7 ((nI ((i_8 * n) + i))).toNatClampNeg) + p0) - (((f_7 ((nI ((i_8 * n) + i))).toNatClampNeg) ||| p0) &&& 1)) + (f_14 ((nI ((j * n) + i_15))).toNatClampNeg)) - (((((f_7 ((nI ((i_8 * n) + i))).toNatClampNeg) + p0) - (((f_7 ((nI ((i_8 * n) + i))).toNatClampNeg) ||| p0) &&& 1)) ||| (f_14 ((nI ((j * n) + i_15))).toNatClampNeg)) &&& 1))), (8, .int (f_14 ((nI ((j * n) + i_15))).toNatClampNeg)), (0, .ref z), (1, .int (nI i)), (2, .int (nI j)), (3, .int p0), (4, .int (f ((nI ((j * n) + i))).toNatClampNeg)), (5, .int (nI i_8)), (6, .int (((f_7 ((nI ((i_8 * n) + i))).toNatClampNeg) + p0) - (((f_7 ((nI ((i_8 * n) + i))).toNatClampNeg) ||| p0) &&& 1)))]) hx hb dX7_narrow_199 hl (k := 9) rfl (nI_1 _) (by decide) rfl (fun ls hl => ?_)
                refine lv_goto (tgt := 112) hx hb dX7_narrow_202 (by decide) ?_
                exact ih_17 _ _ _ ⟨_, hP, hD, hS, lv_sub hl [3, 4, 5, 6, 7, 8, 9, 0] rfl⟩
              · refine lv_aload_n hx hb dX7_narrow_182 rfl (lv_at hl 2 rfl) ?_
                refine va_get (D := (dC, dI)) (ci := 7) (v := .ref zc) (C := RX7) (T := TX7) (N := 2) hx hb hts hiX7 hown hK hP 0 rfl rfl 0 (by decide) v_1 (fun _ h9 => h9) rfl dX7_narrow_183 ?_
                refine lv_iload hx hb dX7_narrow_186 (lv_at hl 7 rfl) ?_
                refine lv_aload_n hx hb dX7_narrow_188 rfl (lv_at hl 2 rfl) ?_
                refine va_get (D := (dC, dI)) (ci := 7) (v := .int (nI n)) (C := RX7) (T := TX7) (N := 2) hx hb hts hiX7 hown hK hP 0 rfl rfl 1 (by decide) v_2 (fun _ h9 => h9) rfl dX7_narrow_189 ?_
                refine lv_imul hx hb dX7_narrow_192 ?_
                refine lv_topi (fun y_24 ey_24 => ?_)
                obtain rfl : y_24 = (nI (i_8 * n)) := ey_24.trans (pk_mul i_8 n)
                refine lv_iload hx hb dX7_narrow_193 (lv_at hl 9 rfl) ?_
                refine lv_iadd hx hb dX7_narrow_195 ?_
                refine lv_topi (fun y_25 ey_25 => ?_)
                obtain rfl : y_25 = (nI ((i_8 * n) + i_15)) := ey_25.trans (nI_add (i_8 * n) i_15)
                refine lv_iload hx hb dX7_narrow_196 (lv_at hl 0 rfl) ?_
                refine va_iast hx hb hK hP hD hS 1 0 rfl rfl (vp_in_nI (n := ((i_8 * n) + i_15)) (by first | omega | exact ix_lt (by omega) (by omega) hn | exact ix_lt0 (by omega) hn | exact ix_ltq (by omega) hn | exact ix_lt1 (by omega) hn) (by omega)) dX7_narrow_198 (fun H locs hP hD hS => ?_)
                have hP : va_P (dC, dI) vwCl [(z, .inr (7, [.ref zc, .int (nI n)])), (zc, .inl (cI, N, .inl (upd f_14 ((nI ((i_8 * n) + i_15)) : Int32).toNatClampNeg (((((f_7 ((nI ((i_8 * n) + i))).toNatClampNeg) + p0) - (((f_7 ((nI ((i_8 * n) + i))).toNatClampNeg) ||| p0) &&& 1)) + (f_14 ((nI ((j * n) + i_15))).toNatClampNeg)) - (((((f_7 ((nI ((i_8 * n) + i))).toNatClampNeg) + p0) - (((f_7 ((nI ((i_8 * n) + i))).toNatClampNeg) ||| p0) &&& 1)) ||| (f_14 ((nI ((j * n) + i_15))).toNatClampNeg)) &&& 1)))))] H := hP
                have hD : va_D A [(z, .inr (7, [.ref zc, .int (nI n)])), (zc, .inl (cI, N, .inl (upd f_14 ((nI ((i_8 * n) + i_15)) : Int32).toNatClampNeg (((((f_7 ((nI ((i_8 * n) + i))).toNatClampNeg) + p0) - (((f_7 ((nI ((i_8 * n) + i))).toNatClampNeg) ||| p0) &&& 1)) + (f_14 ((nI ((j * n) + i_15))).toNatClampNeg)) - (((((f_7 ((nI ((i_8 * n) + i))).toNatClampNeg) + p0) - (((f_7 ((nI ((i_8 * n) + i))).toNatClampNeg) ||| p0) &&& 1)) ||| (f_14 ((nI ((j * n) + i_15))).toNatClampNeg)) &&& 1)))))] := hD
                refine lv_iinc (v := (nI (i_15 + 1))) (lv' := [(7, .int (nI (i_15 + 1))), (9, .int (((((f_7 ((nI ((i_8 * n) + i))).toNatClampNeg) + p0) - (((f_7 ((nI ((i_8 * n) + i))).toNatClampNeg) ||| p0) &&& 1)) + (f_14 ((nI ((j * n) + i_15))).toNatClampNeg)) - (((((f_7 ((nI ((i_8 * n) + i))).toNatClampNeg) + p0) - (((f_7 ((nI ((i_8 * n) + i))).toNatClampNeg) ||| p0) &&& 1)) ||| (f_14 ((nI ((j * n) + i_15))).toNatClampNeg)) &&& 1))), (8, .int (f_14 ((nI ((j * n) + i_15))).toNatClampNeg)), (0, .ref z), (1, .int (nI i)), (2, .int (nI j)), (3, .int p0), (4, .int (f ((nI ((j * n) + i))).toNatClampNeg)), (5, .int (nI i_8)), (6, .int (((f_7 ((nI ((i_8 * n) + i))).toNatClampNeg) + p0) - (((f_7 ((nI ((i_8 * n) + i))).toNatClampNeg) ||| p0) &&& 1)))]) hx hb dX7_narrow_199 hl (k := 9) rfl (nI_1 _) (by decide) rfl (fun ls hl => ?_)
                refine lv_goto (tgt := 112) hx hb dX7_narrow_202 (by decide) ?_
                exact ih_17 _ _ _ ⟨_, hP, hD, hS, lv_sub hl [3, 4, 5, 6, 7, 8, 9, 0] rfl⟩
            · refine lv_goto (tgt := 199) hx hb dX7_narrow_144 (by decide) ?_
              refine lv_iinc (v := (nI (i_15 + 1))) (lv' := [(7, .int (nI (i_15 + 1))), (8, .int (f_14 ((nI ((j * n) + i_15))).toNatClampNeg)), (0, .ref z), (1, .int (nI i)), (2, .int (nI j)), (3, .int p0), (4, .int (f ((nI ((j * n) + i))).toNatClampNeg)), (5, .int (nI i_8)), (6, .int (((f_7 ((nI ((i_8 * n) + i))).toNatClampNeg) + p0) - (((f_7 ((nI ((i_8 * n) + i))).toNatClampNeg) ||| p0) &&& 1)))]) hx hb dX7_narrow_199 hl (k := 8) rfl (nI_1 _) (by decide) rfl (fun ls hl => ?_)
              refine lv_goto (tgt := 112) hx hb dX7_narrow_202 (by decide) ?_
              exact ih_17 _ _ _ ⟨_, hP, hD, hS, lv_sub hl [2, 3, 4, 5, 6, 7, 8, 0] rfl⟩
        · refine lv_goto (tgt := 205) hx hb dX7_narrow_93 (by decide) ?_
          refine lv_iinc (v := (nI (i_8 + 1))) (lv' := [(5, .int (nI (i_8 + 1))), (6, .int (f_7 ((nI ((i_8 * n) + i))).toNatClampNeg)), (0, .ref z), (1, .int (nI i)), (2, .int (nI j)), (3, .int p0), (4, .int (f ((nI ((j * n) + i))).toNatClampNeg))]) hx hb dX7_narrow_205 hl (k := 6) rfl (nI_1 _) (by decide) rfl (fun ls hl => ?_)
          refine lv_goto (tgt := 61) hx hb dX7_narrow_208 (by decide) ?_
          exact ih_10 _ _ _ ⟨_, hP, hD, hS, lv_sub hl [2, 3, 4, 5, 6, 0] rfl⟩
    · refine lv_iload hx hb dX7_narrow_41 (lv_at hl 0 rfl) ?_
      refine lv_iload_n hx hb dX7_narrow_43 rfl (lv_at hl 4 rfl) ?_
      refine lv_iadd hx hb dX7_narrow_44 ?_
      refine lv_iload hx hb dX7_narrow_45 (lv_at hl 0 rfl) ?_
      refine lv_iload_n hx hb dX7_narrow_47 rfl (lv_at hl 4 rfl) ?_
      refine lv_ior hx hb dX7_narrow_48 ?_
      refine lv_iconst (v := 1) hx hb dX7_narrow_49 (by decide) ?_
      refine lv_iand hx hb dX7_narrow_50 ?_
      refine lv_isub hx hb dX7_narrow_51 ?_
      refine lv_iconst (v := 1) hx hb dX7_narrow_52 (by decide) ?_
      refine lv_icmp_ge (tgt := 58) hx hb dX7_narrow_53 (by decide) (fun c_26 => ?_) (fun c_26 => ?_)
      · refine lv_iconst (v := 0) hx hb dX7_narrow_58 (by decide) ?_
        refine lv_istore (lv' := [(5, .int 0), (4, .int (f ((nI ((j * n) + i))).toNatClampNeg)), (0, .ref z), (1, .int (nI i)), (2, .int (nI j)), (3, .int p0)]) hx hb dX7_narrow_59 hl (by decide) rfl (fun ls hl => ?_)
        refine pu_loop (n) (fun ii H locs ls => ∃ f0 : Nat → Int32, va_P (dC, dI) vwCl [(z, .inr (7, [.ref zc, .int (nI n)])), (zc, .inl (cI, N, .inl f0))] H ∧ va_D A [(z, .inr (7, [.ref zc, .int (nI n)])), (zc, .inl (cI, N, .inl f0))] ∧ va_S A s.heap H locs ∧ lv_has ls 10 [(0, .ref z), (1, .int (nI i)), (2, .int (nI j)), (3, .int p0), (4, .int (f ((nI ((j * n) + i))).toNatClampNeg)), (5, .int (nI ii))]) (fun _ => 0) (fun _ => 0) 61 [] ?_ ?_ _ _ _ ⟨_, hP, hD, hS, lv_sub hl [2, 3, 4, 5, 1, 0] rfl⟩
        · rintro H locs ls ⟨f_27, hP, hD, hS, hl⟩
          refine lv_iload hx hb dX7_narrow_61 (lv_at hl 5 rfl) ?_
          refine lv_aload_n hx hb dX7_narrow_63 rfl (lv_at hl 0 rfl) ?_
          refine va_get (D := (dC, dI)) (ci := 7) (v := .int (nI n)) (C := RX7) (T := TX7) (N := 2) hx hb hts hiX7 hown hK hP 0 rfl rfl 1 (by decide) v_2 (fun _ h9 => h9) rfl dX7_narrow_64 ?_
          refine lv_icmp_ge (tgt := 211) hx hb dX7_narrow_67 (by decide) (fun _ => ?_) (fun z => absurd (nI_le (a := n) (b := n) (by omega) (by omega)) z)
          refine lv_iconst (v := 1) hx hb dX7_narrow_211 (by decide) ?_
          have hP9 := hP.sub (ws' := [(z, .inr (7, [.ref zc, .int (nI n)])), (zc, .inl (cI, N, .inl f_27))]) [0, 1] rfl
          have hD9 := hD.sub (ws' := [(z, .inr (7, [.ref zc, .int (nI n)])), (zc, .inl (cI, N, .inl f_27))]) [0, 1] (by decide) rfl
          have hK9 := hK.sub (tys' := [(cI, .int)]) [0] rfl
          exact W.zret (v := 1) (ty := .boolean) hx hb hr rfl (fun t ht hW => ⟨⟨1, (), rfl, trivial, ⟨f_27, by rw [ht]; exact hP9, va_K.moved hW.alike hK9, hD9⟩⟩, hS.F ht⟩) hS.2.2 dX7_narrow_212
        · rintro i_28 h_29 ih_30 H locs ls ⟨f_27, hP, hD, hS, hl⟩
          refine lv_iload hx hb dX7_narrow_61 (lv_at hl 5 rfl) ?_
          refine lv_aload_n hx hb dX7_narrow_63 rfl (lv_at hl 0 rfl) ?_
          refine va_get (D := (dC, dI)) (ci := 7) (v := .int (nI n)) (C := RX7) (T := TX7) (N := 2) hx hb hts hiX7 hown hK hP 0 rfl rfl 1 (by decide) v_2 (fun _ h9 => h9) rfl dX7_narrow_64 ?_
          refine lv_icmp_ge (tgt := 211) hx hb dX7_narrow_67 (by decide) (fun z => absurd z (nI_ge (a := i_28) (b := n) (by omega) (by omega))) (fun _ => ?_)
          refine lv_aload_n hx hb dX7_narrow_70 rfl (lv_at hl 0 rfl) ?_
          refine va_get (D := (dC, dI)) (ci := 7) (v := .ref zc) (C := RX7) (T := TX7) (N := 2) hx hb hts hiX7 hown hK hP 0 rfl rfl 0 (by decide) v_1 (fun _ h9 => h9) rfl dX7_narrow_71 ?_
          refine lv_iload hx hb dX7_narrow_74 (lv_at hl 5 rfl) ?_
          refine lv_aload_n hx hb dX7_narrow_76 rfl (lv_at hl 0 rfl) ?_
          refine va_get (D := (dC, dI)) (ci := 7) (v := .int (nI n)) (C := RX7) (T := TX7) (N := 2) hx hb hts hiX7 hown hK hP 0 rfl rfl 1 (by decide) v_2 (fun _ h9 => h9) rfl dX7_narrow_77 ?_
          refine lv_imul hx hb dX7_narrow_80 ?_
          refine lv_topi (fun y_31 ey_31 => ?_)
          obtain rfl : y_31 = (nI (i_28 * n)) := ey_31.trans (pk_mul i_28 n)
          refine lv_iload_n hx hb dX7_narrow_81 rfl (lv_at hl 1 rfl) ?_
          refine lv_iadd hx hb dX7_narrow_82 ?_
          refine lv_topi (fun y_32 ey_32 => ?_)
          obtain rfl : y_32 = (nI ((i_28 * n) + i)) := ey_32.trans (nI_add (i_28 * n) i)
          refine va_iald hx hb hK hP 1 0 rfl rfl (vp_in_nI (n := ((i_28 * n) + i)) (by first | omega | exact ix_lt (by omega) (by omega) hn | exact ix_lt0 (by omega) hn | exact ix_ltq (by omega) hn | exact ix_lt1 (by omega) hn) (by omega)) dX7_narrow_83 ?_
          refine lv_istore (lv' := [(6, .int (f_27 ((nI ((i_28 * n) + i))).toNatClampNeg)), (0, .ref z), (1, .int (nI i)), (2, .int (nI j)), (3, .int p0), (4, .int (f ((nI ((j * n) + i))).toNatClampNeg)), (5, .int (nI i_28))]) hx hb dX7_narrow_84 hl (by decide) rfl (fun ls hl => ?_)
          refine lv_iload hx hb dX7_narrow_86 (lv_at hl 0 rfl) ?_
          refine lv_ldc hx hb hown v_3 dX7_narrow_88 ?_
          refine lv_icmp_ne (tgt := 96) hx hb dX7_narrow_90 (by decide) (fun c_33 => ?_) (fun c_33 => ?_)
          · refine lv_iload hx hb dX7_narrow_96 (lv_at hl 0 rfl) ?_
            refine lv_iload_n hx hb dX7_narrow_98 rfl (lv_at hl 4 rfl) ?_
            refine lv_iadd hx hb dX7_narrow_99 ?_
            refine lv_iload hx hb dX7_narrow_100 (lv_at hl 0 rfl) ?_
            refine lv_iload_n hx hb dX7_narrow_102 rfl (lv_at hl 4 rfl) ?_
            refine lv_ior hx hb dX7_narrow_103 ?_
            refine lv_iconst (v := 1) hx hb dX7_narrow_104 (by decide) ?_
            refine lv_iand hx hb dX7_narrow_105 ?_
            refine lv_isub hx hb dX7_narrow_106 ?_
            refine lv_istore (lv' := [(6, .int (((f_27 ((nI ((i_28 * n) + i))).toNatClampNeg) + p0) - (((f_27 ((nI ((i_28 * n) + i))).toNatClampNeg) ||| p0) &&& 1))), (0, .ref z), (1, .int (nI i)), (2, .int (nI j)), (3, .int p0), (4, .int (f ((nI ((j * n) + i))).toNatClampNeg)), (5, .int (nI i_28))]) hx hb dX7_narrow_107 hl (by decide) rfl (fun ls hl => ?_)
            refine lv_iconst (v := 0) hx hb dX7_narrow_109 (by decide) ?_
            refine lv_istore (lv' := [(7, .int 0), (6, .int (((f_27 ((nI ((i_28 * n) + i))).toNatClampNeg) + p0) - (((f_27 ((nI ((i_28 * n) + i))).toNatClampNeg) ||| p0) &&& 1))), (0, .ref z), (1, .int (nI i)), (2, .int (nI j)), (3, .int p0), (4, .int (f ((nI ((j * n) + i))).toNatClampNeg)), (5, .int (nI i_28))]) hx hb dX7_narrow_110 hl (by decide) rfl (fun ls hl => ?_)
            refine pu_loop (n) (fun ii H locs ls => ∃ f0 : Nat → Int32, va_P (dC, dI) vwCl [(z, .inr (7, [.ref zc, .int (nI n)])), (zc, .inl (cI, N, .inl f0))] H ∧ va_D A [(z, .inr (7, [.ref zc, .int (nI n)])), (zc, .inl (cI, N, .inl f0))] ∧ va_S A s.heap H locs ∧ lv_has ls 10 [(0, .ref z), (1, .int (nI i)), (2, .int (nI j)), (3, .int p0), (4, .int (f ((nI ((j * n) + i))).toNatClampNeg)), (5, .int (nI i_28)), (6, .int (((f_27 ((nI ((i_28 * n) + i))).toNatClampNeg) + p0) - (((f_27 ((nI ((i_28 * n) + i))).toNatClampNeg) ||| p0) &&& 1))), (7, .int (nI ii))]) (fun _ => 0) (fun _ => 0) 112 [] ?_ ?_ _ _ _ ⟨_, hP, hD, hS, lv_sub hl [2, 3, 4, 5, 6, 7, 1, 0] rfl⟩
            · rintro H locs ls ⟨f_34, hP, hD, hS, hl⟩
              refine lv_iload hx hb dX7_narrow_112 (lv_at hl 7 rfl) ?_
              refine lv_aload_n hx hb dX7_narrow_114 rfl (lv_at hl 0 rfl) ?_
              refine va_get (D := (dC, dI)) (ci := 7) (v := .int (nI n)) (C := RX7) (T := TX7) (N := 2) hx hb hts hiX7 hown hK hP 0 rfl rfl 1 (by decide) v_2 (fun _ h9 => h9) rfl dX7_narrow_115 ?_
              refine lv_icmp_ge (tgt := 205) hx hb dX7_narrow_118 (by decide) (fun _ => ?_) (fun z => absurd (nI_le (a := n) (b := n) (by omega) (by omega)) z)
              refine lv_iinc (v := (nI (i_28 + 1))) (lv' := [(5, .int (nI (i_28 + 1))), (0, .ref z), (1, .int (nI i)), (2, .int (nI j)), (3, .int p0), (4, .int (f ((nI ((j * n) + i))).toNatClampNeg)), (6, .int (((f_27 ((nI ((i_28 * n) + i))).toNatClampNeg) + p0) - (((f_27 ((nI ((i_28 * n) + i))).toNatClampNeg) ||| p0) &&& 1))), (7, .int (nI n))]) hx hb dX7_narrow_205 hl (k := 5) rfl (nI_1 _) (by decide) rfl (fun ls hl => ?_)
              refine lv_goto (tgt := 61) hx hb dX7_narrow_208 (by decide) ?_
              exact ih_30 _ _ _ ⟨_, hP, hD, hS, lv_sub hl [1, 2, 3, 4, 5, 0] rfl⟩
            · rintro i_35 h_36 ih_37 H locs ls ⟨f_34, hP, hD, hS, hl⟩
              refine lv_iload hx hb dX7_narrow_112 (lv_at hl 7 rfl) ?_
              refine lv_aload_n hx hb dX7_narrow_114 rfl (lv_at hl 0 rfl) ?_
              refine va_get (D := (dC, dI)) (ci := 7) (v := .int (nI n)) (C := RX7) (T := TX7) (N := 2) hx hb hts hiX7 hown hK hP 0 rfl rfl 1 (by decide) v_2 (fun _ h9 => h9) rfl dX7_narrow_115 ?_
              refine lv_icmp_ge (tgt := 205) hx hb dX7_narrow_118 (by decide) (fun z => absurd z (nI_ge (a := i_35) (b := n) (by omega) (by omega))) (fun _ => ?_)
              refine lv_aload_n hx hb dX7_narrow_121 rfl (lv_at hl 0 rfl) ?_
              refine va_get (D := (dC, dI)) (ci := 7) (v := .ref zc) (C := RX7) (T := TX7) (N := 2) hx hb hts hiX7 hown hK hP 0 rfl rfl 0 (by decide) v_1 (fun _ h9 => h9) rfl dX7_narrow_122 ?_
              refine lv_iload_n hx hb dX7_narrow_125 rfl (lv_at hl 2 rfl) ?_
              refine lv_aload_n hx hb dX7_narrow_126 rfl (lv_at hl 0 rfl) ?_
              refine va_get (D := (dC, dI)) (ci := 7) (v := .int (nI n)) (C := RX7) (T := TX7) (N := 2) hx hb hts hiX7 hown hK hP 0 rfl rfl 1 (by decide) v_2 (fun _ h9 => h9) rfl dX7_narrow_127 ?_
              refine lv_imul hx hb dX7_narrow_130 ?_
              refine lv_topi (fun y_38 ey_38 => ?_)
              obtain rfl : y_38 = (nI (j * n)) := ey_38.trans (pk_mul j n)
              refine lv_iload hx hb dX7_narrow_131 (lv_at hl 7 rfl) ?_
              refine lv_iadd hx hb dX7_narrow_133 ?_
              refine lv_topi (fun y_39 ey_39 => ?_)
              obtain rfl : y_39 = (nI ((j * n) + i_35)) := ey_39.trans (nI_add (j * n) i_35)
              refine va_iald hx hb hK hP 1 0 rfl rfl (vp_in_nI (n := ((j * n) + i_35)) (by first | omega | exact ix_lt (by omega) (by omega) hn | exact ix_lt0 (by omega) hn | exact ix_ltq (by omega) hn | exact ix_lt1 (by omega) hn) (by omega)) dX7_narrow_134 ?_
              refine lv_istore (lv' := [(8, .int (f_34 ((nI ((j * n) + i_35))).toNatClampNeg)), (0, .ref z), (1, .int (nI i)), (2, .int (nI j)), (3, .int p0), (4, .int (f ((nI ((j * n) + i))).toNatClampNeg)), (5, .int (nI i_28)), (6, .int (((f_27 ((nI ((i_28 * n) + i))).toNatClampNeg) + p0) - (((f_27 ((nI ((i_28 * n) + i))).toNatClampNeg) ||| p0) &&& 1))), (7, .int (nI i_35))]) hx hb dX7_narrow_135 hl (by decide) rfl (fun ls hl => ?_)
              refine lv_iload hx hb dX7_narrow_137 (lv_at hl 0 rfl) ?_
              refine lv_ldc hx hb hown v_3 dX7_narrow_139 ?_
              refine lv_icmp_ne (tgt := 147) hx hb dX7_narrow_141 (by decide) (fun c_40 => ?_) (fun c_40 => ?_)
              · refine lv_iload hx hb dX7_narrow_147 (lv_at hl 7 rfl) ?_
                refine lv_iload hx hb dX7_narrow_149 (lv_at hl 0 rfl) ?_
                refine lv_iadd hx hb dX7_narrow_151 ?_
                refine lv_iload hx hb dX7_narrow_152 (lv_at hl 7 rfl) ?_
                refine lv_iload hx hb dX7_narrow_154 (lv_at hl 0 rfl) ?_
                refine lv_ior hx hb dX7_narrow_156 ?_
                refine lv_iconst (v := 1) hx hb dX7_narrow_157 (by decide) ?_
                refine lv_iand hx hb dX7_narrow_158 ?_
                refine lv_isub hx hb dX7_narrow_159 ?_
                refine lv_istore (lv' := [(9, .int (((((f_27 ((nI ((i_28 * n) + i))).toNatClampNeg) + p0) - (((f_27 ((nI ((i_28 * n) + i))).toNatClampNeg) ||| p0) &&& 1)) + (f_34 ((nI ((j * n) + i_35))).toNatClampNeg)) - (((((f_27 ((nI ((i_28 * n) + i))).toNatClampNeg) + p0) - (((f_27 ((nI ((i_28 * n) + i))).toNatClampNeg) ||| p0) &&& 1)) ||| (f_34 ((nI ((j * n) + i_35))).toNatClampNeg)) &&& 1))), (8, .int (f_34 ((nI ((j * n) + i_35))).toNatClampNeg)), (0, .ref z), (1, .int (nI i)), (2, .int (nI j)), (3, .int p0), (4, .int (f ((nI ((j * n) + i))).toNatClampNeg)), (5, .int (nI i_28)), (6, .int (((f_27 ((nI ((i_28 * n) + i))).toNatClampNeg) + p0) - (((f_27 ((nI ((i_28 * n) + i))).toNatClampNeg) ||| p0) &&& 1))), (7, .int (nI i_35))]) hx hb dX7_narrow_160 hl (by decide) rfl (fun ls hl => ?_)
                refine lv_iload hx hb dX7_narrow_162 (lv_at hl 0 rfl) ?_
                refine lv_aload_n hx hb dX7_narrow_164 rfl (lv_at hl 2 rfl) ?_
                refine va_get (D := (dC, dI)) (ci := 7) (v := .ref zc) (C := RX7) (T := TX7) (N := 2) hx hb hts hiX7 hown hK hP 0 rfl rfl 0 (by decide) v_1 (fun _ h9 => h9) rfl dX7_narrow_165 ?_
                refine lv_iload hx hb dX7_narrow_168 (lv_at hl 7 rfl) ?_
                refine lv_aload_n hx hb dX7_narrow_170 rfl (lv_at hl 2 rfl) ?_
                refine va_get (D := (dC, dI)) (ci := 7) (v := .int (nI n)) (C := RX7) (T := TX7) (N := 2) hx hb hts hiX7 hown hK hP 0 rfl rfl 1 (by decide) v_2 (fun _ h9 => h9) rfl dX7_narrow_171 ?_
                refine lv_imul hx hb dX7_narrow_174 ?_
                refine lv_topi (fun y_41 ey_41 => ?_)
                obtain rfl : y_41 = (nI (i_28 * n)) := ey_41.trans (pk_mul i_28 n)
                refine lv_iload hx hb dX7_narrow_175 (lv_at hl 9 rfl) ?_
                refine lv_iadd hx hb dX7_narrow_177 ?_
                refine lv_topi (fun y_42 ey_42 => ?_)
                obtain rfl : y_42 = (nI ((i_28 * n) + i_35)) := ey_42.trans (nI_add (i_28 * n) i_35)
                refine va_iald hx hb hK hP 1 0 rfl rfl (vp_in_nI (n := ((i_28 * n) + i_35)) (by first | omega | exact ix_lt (by omega) (by omega) hn | exact ix_lt0 (by omega) hn | exact ix_ltq (by omega) hn | exact ix_lt1 (by omega) hn) (by omega)) dX7_narrow_178 ?_
                refine lv_icmp_ge (tgt := 199) hx hb dX7_narrow_179 (by decide) (fun c_43 => ?_) (fun c_43 => ?_)
                · refine lv_iinc (v := (nI (i_35 + 1))) (lv' := [(7, .int (nI (i_35 + 1))), (9, .int (((((f_27 ((nI ((i_28 * n) + i))).toNatClampNeg) + p0) - (((f_27 ((nI ((i_28 * n) + i))).toNatClampNeg) ||| p0) &&& 1)) + (f_34 ((nI ((j * n) + i_35))).toNatClampNeg)) - (((((f_27 ((nI ((i_28 * n) + i))).toNatClampNeg) + p0) - (((f_27 ((nI ((i_28 * n) + i))).toNatClampNeg) ||| p0) &&& 1)) ||| (f_34 ((nI ((j * n) + i_35))).toNatClampNeg)) &&& 1))), (8, .int (f_34 ((nI ((j * n) + i_35))).toNatClampNeg)), (0, .ref z), (1, .int (nI i)), (2, .int (nI j)), (3, .int p0), (4, .int (f ((nI ((j * n) + i))).toNatClampNeg)), (5, .int (nI i_28)), (6, .int (((f_27 ((nI ((i_28 * n) + i))).toNatClampNeg) + p0) - (((f_27 ((nI ((i_28 * n) + i))).toNatClampNeg) ||| p0) &&& 1)))]) hx hb dX7_narrow_199 hl (k := 9) rfl (nI_1 _) (by decide) rfl (fun ls hl => ?_)
                  refine lv_goto (tgt := 112) hx hb dX7_narrow_202 (by decide) ?_
                  exact ih_37 _ _ _ ⟨_, hP, hD, hS, lv_sub hl [3, 4, 5, 6, 7, 8, 9, 0] rfl⟩
                · refine lv_aload_n hx hb dX7_narrow_182 rfl (lv_at hl 2 rfl) ?_
                  refine va_get (D := (dC, dI)) (ci := 7) (v := .ref zc) (C := RX7) (T := TX7) (N := 2) hx hb hts hiX7 hown hK hP 0 rfl rfl 0 (by decide) v_1 (fun _ h9 => h9) rfl dX7_narrow_183 ?_
                  refine lv_iload hx hb dX7_narrow_186 (lv_at hl 7 rfl) ?_
                  refine lv_aload_n hx hb dX7_narrow_188 rfl (lv_at hl 2 rfl) ?_
                  refine va_get (D := (dC, dI)) (ci := 7) (v := .int (nI n)) (C := RX7) (T := TX7) (N := 2) hx hb hts hiX7 hown hK hP 0 rfl rfl 1 (by decide) v_2 (fun _ h9 => h9) rfl dX7_narrow_189 ?_
                  refine lv_imul hx hb dX7_narrow_192 ?_
                  refine lv_topi (fun y_44 ey_44 => ?_)
                  obtain rfl : y_44 = (nI (i_28 * n)) := ey_44.trans (pk_mul i_28 n)
                  refine lv_iload hx hb dX7_narrow_193 (lv_at hl 9 rfl) ?_
                  refine lv_iadd hx hb dX7_narrow_195 ?_
                  refine lv_topi (fun y_45 ey_45 => ?_)
                  obtain rfl : y_45 = (nI ((i_28 * n) + i_35)) := ey_45.trans (nI_add (i_28 * n) i_35)
                  refine lv_iload hx hb dX7_narrow_196 (lv_at hl 0 rfl) ?_
                  refine va_iast hx hb hK hP hD hS 1 0 rfl rfl (vp_in_nI (n := ((i_28 * n) + i_35)) (by first | omega | exact ix_lt (by omega) (by omega) hn | exact ix_lt0 (by omega) hn | exact ix_ltq (by omega) hn | exact ix_lt1 (by omega) hn) (by omega)) dX7_narrow_198 (fun H locs hP hD hS => ?_)
                  have hP : va_P (dC, dI) vwCl [(z, .inr (7, [.ref zc, .int (nI n)])), (zc, .inl (cI, N, .inl (upd f_34 ((nI ((i_28 * n) + i_35)) : Int32).toNatClampNeg (((((f_27 ((nI ((i_28 * n) + i))).toNatClampNeg) + p0) - (((f_27 ((nI ((i_28 * n) + i))).toNatClampNeg) ||| p0) &&& 1)) + (f_34 ((nI ((j * n) + i_35))).toNatClampNeg)) - (((((f_27 ((nI ((i_28 * n) + i))).toNatClampNeg) + p0) - (((f_27 ((nI ((i_28 * n) + i))).toNatClampNeg) ||| p0) &&& 1)) ||| (f_34 ((nI ((j * n) + i_35))).toNatClampNeg)) &&& 1)))))] H := hP
                  have hD : va_D A [(z, .inr (7, [.ref zc, .int (nI n)])), (zc, .inl (cI, N, .inl (upd f_34 ((nI ((i_28 * n) + i_35)) : Int32).toNatClampNeg (((((f_27 ((nI ((i_28 * n) + i))).toNatClampNeg) + p0) - (((f_27 ((nI ((i_28 * n) + i))).toNatClampNeg) ||| p0) &&& 1)) + (f_34 ((nI ((j * n) + i_35))).toNatClampNeg)) - (((((f_27 ((nI ((i_28 * n) + i))).toNatClampNeg) + p0) - (((f_27 ((nI ((i_28 * n) + i))).toNatClampNeg) ||| p0) &&& 1)) ||| (f_34 ((nI ((j * n) + i_35))).toNatClampNeg)) &&& 1)))))] := hD
                  refine lv_iinc (v := (nI (i_35 + 1))) (lv' := [(7, .int (nI (i_35 + 1))), (9, .int (((((f_27 ((nI ((i_28 * n) + i))).toNatClampNeg) + p0) - (((f_27 ((nI ((i_28 * n) + i))).toNatClampNeg) ||| p0) &&& 1)) + (f_34 ((nI ((j * n) + i_35))).toNatClampNeg)) - (((((f_27 ((nI ((i_28 * n) + i))).toNatClampNeg) + p0) - (((f_27 ((nI ((i_28 * n) + i))).toNatClampNeg) ||| p0) &&& 1)) ||| (f_34 ((nI ((j * n) + i_35))).toNatClampNeg)) &&& 1))), (8, .int (f_34 ((nI ((j * n) + i_35))).toNatClampNeg)), (0, .ref z), (1, .int (nI i)), (2, .int (nI j)), (3, .int p0), (4, .int (f ((nI ((j * n) + i))).toNatClampNeg)), (5, .int (nI i_28)), (6, .int (((f_27 ((nI ((i_28 * n) + i))).toNatClampNeg) + p0) - (((f_27 ((nI ((i_28 * n) + i))).toNatClampNeg) ||| p0) &&& 1)))]) hx hb dX7_narrow_199 hl (k := 9) rfl (nI_1 _) (by decide) rfl (fun ls hl => ?_)
                  refine lv_goto (tgt := 112) hx hb dX7_narrow_202 (by decide) ?_
                  exact ih_37 _ _ _ ⟨_, hP, hD, hS, lv_sub hl [3, 4, 5, 6, 7, 8, 9, 0] rfl⟩
              · refine lv_goto (tgt := 199) hx hb dX7_narrow_144 (by decide) ?_
                refine lv_iinc (v := (nI (i_35 + 1))) (lv' := [(7, .int (nI (i_35 + 1))), (8, .int (f_34 ((nI ((j * n) + i_35))).toNatClampNeg)), (0, .ref z), (1, .int (nI i)), (2, .int (nI j)), (3, .int p0), (4, .int (f ((nI ((j * n) + i))).toNatClampNeg)), (5, .int (nI i_28)), (6, .int (((f_27 ((nI ((i_28 * n) + i))).toNatClampNeg) + p0) - (((f_27 ((nI ((i_28 * n) + i))).toNatClampNeg) ||| p0) &&& 1)))]) hx hb dX7_narrow_199 hl (k := 8) rfl (nI_1 _) (by decide) rfl (fun ls hl => ?_)
                refine lv_goto (tgt := 112) hx hb dX7_narrow_202 (by decide) ?_
                exact ih_37 _ _ _ ⟨_, hP, hD, hS, lv_sub hl [2, 3, 4, 5, 6, 7, 8, 0] rfl⟩
          · refine lv_goto (tgt := 205) hx hb dX7_narrow_93 (by decide) ?_
            refine lv_iinc (v := (nI (i_28 + 1))) (lv' := [(5, .int (nI (i_28 + 1))), (6, .int (f_27 ((nI ((i_28 * n) + i))).toNatClampNeg)), (0, .ref z), (1, .int (nI i)), (2, .int (nI j)), (3, .int p0), (4, .int (f ((nI ((j * n) + i))).toNatClampNeg))]) hx hb dX7_narrow_205 hl (k := 6) rfl (nI_1 _) (by decide) rfl (fun ls hl => ?_)
            refine lv_goto (tgt := 61) hx hb dX7_narrow_208 (by decide) ?_
            exact ih_30 _ _ _ ⟨_, hP, hD, hS, lv_sub hl [2, 3, 4, 5, 6, 0] rfl⟩
      · refine lv_iconst (v := 0) hx hb dX7_narrow_56 (by decide) ?_
        have hP9 := hP.sub (ws' := [(z, .inr (7, [.ref zc, .int (nI n)])), (zc, .inl (cI, N, .inl f))]) [0, 1] rfl
        have hD9 := hD.sub (ws' := [(z, .inr (7, [.ref zc, .int (nI n)])), (zc, .inl (cI, N, .inl f))]) [0, 1] (by decide) rfl
        have hK9 := hK.sub (tys' := [(cI, .int)]) [0] rfl
        exact W.zret (v := 0) (ty := .boolean) hx hb hr rfl (fun t ht hW => ⟨⟨0, (), rfl, trivial, ⟨f, by rw [ht]; exact hP9, va_K.moved hW.alike hK9, hD9⟩⟩, hS.F ht⟩) hS.2.2 dX7_narrow_57
  · refine lv_iconst (v := 1) hx hb dX7_narrow_17 (by decide) ?_
    have hP9 := hP.sub (ws' := [(z, .inr (7, [.ref zc, .int (nI n)])), (zc, .inl (cI, N, .inl f))]) [0, 1] rfl
    have hD9 := hD.sub (ws' := [(z, .inr (7, [.ref zc, .int (nI n)])), (zc, .inl (cI, N, .inl f))]) [0, 1] (by decide) rfl
    have hK9 := hK.sub (tys' := [(cI, .int)]) [0] rfl
    exact W.zret (v := 1) (ty := .boolean) hx hb hr rfl (fun t ht hW => ⟨⟨1, (), rfl, trivial, ⟨f, by rw [ht]; exact hP9, va_K.moved hW.alike hK9, hD9⟩⟩, hS.F ht⟩) hS.2.2 dX7_narrow_18
theorem dX7_setBack_0 : decode cX7_setBack 0 = .ok (.iconst 0, 1) := by decide +kernel
theorem dX7_setBack_1 : decode cX7_setBack 1 = .ok (.istore_n 2, 1) := by decide +kernel
theorem dX7_setBack_2 : decode cX7_setBack 2 = .ok (.iload_n 2, 1) := by decide +kernel
theorem dX7_setBack_3 : decode cX7_setBack 3 = .ok (.aload_n 0, 1) := by decide +kernel
theorem dX7_setBack_4 : decode cX7_setBack 4 = .ok (.getfield 18, 3) := by decide +kernel
theorem dX7_setBack_7 : decode cX7_setBack 7 = .ok (.if_icmp .ge 52, 3) := by decide +kernel
theorem dX7_setBack_10 : decode cX7_setBack 10 = .ok (.aload_n 0, 1) := by decide +kernel
theorem dX7_setBack_11 : decode cX7_setBack 11 = .ok (.getfield 11, 3) := by decide +kernel
theorem dX7_setBack_14 : decode cX7_setBack 14 = .ok (.iload_n 1, 1) := by decide +kernel
theorem dX7_setBack_15 : decode cX7_setBack 15 = .ok (.aload_n 0, 1) := by decide +kernel
theorem dX7_setBack_16 : decode cX7_setBack 16 = .ok (.getfield 18, 3) := by decide +kernel
theorem dX7_setBack_19 : decode cX7_setBack 19 = .ok (.imul, 1) := by decide +kernel
theorem dX7_setBack_20 : decode cX7_setBack 20 = .ok (.iload_n 2, 1) := by decide +kernel
theorem dX7_setBack_21 : decode cX7_setBack 21 = .ok (.iadd, 1) := by decide +kernel
theorem dX7_setBack_22 : decode cX7_setBack 22 = .ok (.aload_n 0, 1) := by decide +kernel
theorem dX7_setBack_23 : decode cX7_setBack 23 = .ok (.getfield 11, 3) := by decide +kernel
theorem dX7_setBack_26 : decode cX7_setBack 26 = .ok (.iload_n 2, 1) := by decide +kernel
theorem dX7_setBack_27 : decode cX7_setBack 27 = .ok (.iaload, 1) := by decide +kernel
theorem dX7_setBack_28 : decode cX7_setBack 28 = .ok (.iastore, 1) := by decide +kernel
theorem dX7_setBack_29 : decode cX7_setBack 29 = .ok (.aload_n 0, 1) := by decide +kernel
theorem dX7_setBack_30 : decode cX7_setBack 30 = .ok (.getfield 11, 3) := by decide +kernel
theorem dX7_setBack_33 : decode cX7_setBack 33 = .ok (.iload_n 2, 1) := by decide +kernel
theorem dX7_setBack_34 : decode cX7_setBack 34 = .ok (.aload_n 0, 1) := by decide +kernel
theorem dX7_setBack_35 : decode cX7_setBack 35 = .ok (.getfield 18, 3) := by decide +kernel
theorem dX7_setBack_38 : decode cX7_setBack 38 = .ok (.imul, 1) := by decide +kernel
theorem dX7_setBack_39 : decode cX7_setBack 39 = .ok (.iload_n 1, 1) := by decide +kernel
theorem dX7_setBack_40 : decode cX7_setBack 40 = .ok (.iadd, 1) := by decide +kernel
theorem dX7_setBack_41 : decode cX7_setBack 41 = .ok (.aload_n 0, 1) := by decide +kernel
theorem dX7_setBack_42 : decode cX7_setBack 42 = .ok (.getfield 11, 3) := by decide +kernel
theorem dX7_setBack_45 : decode cX7_setBack 45 = .ok (.iload_n 2, 1) := by decide +kernel
theorem dX7_setBack_46 : decode cX7_setBack 46 = .ok (.aload_n 0, 1) := by decide +kernel
theorem dX7_setBack_47 : decode cX7_setBack 47 = .ok (.getfield 18, 3) := by decide +kernel
theorem dX7_setBack_50 : decode cX7_setBack 50 = .ok (.imul, 1) := by decide +kernel
theorem dX7_setBack_51 : decode cX7_setBack 51 = .ok (.iaload, 1) := by decide +kernel
theorem dX7_setBack_52 : decode cX7_setBack 52 = .ok (.iastore, 1) := by decide +kernel
theorem dX7_setBack_53 : decode cX7_setBack 53 = .ok (.iinc 2 1, 3) := by decide +kernel
theorem dX7_setBack_56 : decode cX7_setBack 56 = .ok (.goto (-54), 3) := by decide +kernel
theorem dX7_setBack_59 : decode cX7_setBack 59 = .ok (.aload_n 0, 1) := by decide +kernel
theorem dX7_setBack_60 : decode cX7_setBack 60 = .ok (.getfield 11, 3) := by decide +kernel
theorem dX7_setBack_63 : decode cX7_setBack 63 = .ok (.iload_n 1, 1) := by decide +kernel
theorem dX7_setBack_64 : decode cX7_setBack 64 = .ok (.aload_n 0, 1) := by decide +kernel
theorem dX7_setBack_65 : decode cX7_setBack 65 = .ok (.getfield 18, 3) := by decide +kernel
theorem dX7_setBack_68 : decode cX7_setBack 68 = .ok (.imul, 1) := by decide +kernel
theorem dX7_setBack_69 : decode cX7_setBack 69 = .ok (.iload_n 1, 1) := by decide +kernel
theorem dX7_setBack_70 : decode cX7_setBack 70 = .ok (.iadd, 1) := by decide +kernel
theorem dX7_setBack_71 : decode cX7_setBack 71 = .ok (.iconst 1, 1) := by decide +kernel
theorem dX7_setBack_72 : decode cX7_setBack 72 = .ok (.iastore, 1) := by decide +kernel
theorem dX7_setBack_73 : decode cX7_setBack 73 = .ok (.return_, 1) := by decide +kernel
def vs_X7_setBack : List Cond := .code yX7_setBack cX7_setBack 3 none :: ([.fieldLink RX7 18 "ClockReach$Zone" "size" "I", .fieldLink RX7 11 "ClockReach$Zone" "cells" "[I"] ++ wsX70)
set_option maxHeartbeats 4000000 in
set_option maxRecDepth 100000 in
theorem c_X7_setBack (l : Launch) (dC : Nat → ClassId) (dI : Nat → Nat → Nat) (sz : Nat) (z zc : Nat) (cI : ClassId) (n N : Nat) (f : Nat → Int32) (hn : n * n ≤ N) (hN : N ≤ 25) (i : Nat) (hi : i < n) : Met l yX7_setBack vs_X7_setBack ({ frames := 0, cells := 0, slots := 0, locals := 0 }) (va_Pc [.ref z, .int (nI i)] (pu_B (dC, dI) [(z, .inr (7, [.ref zc, .int (nI n)])), (zc, .inl (cI, N, .inl f))] [(cI, .int)] sz)) (va_Qv (fun (_ : Unit) => True) (fun _ t => ∃ (g : Nat → Int32), pu_E (dC, dI) [(z, .inr (7, [.ref zc, .int (nI n)])), (zc, .inl (cI, N, .inl g))] [(cI, .int)] (va_A ([(z, .inr (7, [.ref zc, .int (nI n)])), (zc, .inl (cI, N, .inl f))]) sz) t) (va_A ([(z, .inr (7, [.ref zc, .int (nI n)])), (zc, .inl (cI, N, .inl f))]) sz)) 0 0 (va_A ([(z, .inr (7, [.ref zc, .int (nI n)])), (zc, .inl (cI, N, .inl f))]) sz) := by
  refine Met.ofW (cc := cX7_setBack) (maxL := 3) (ret := none) (by decide) rfl ?_
  intro p e s m args below meth c s₁ B hml hv
  obtain ⟨rfl, rfl, hP, hK, hD0⟩ := hv
  have hx := B.exec
  have hb := B.bytes
  have hr := B.returns
  have hts := atoms_spec (ws := vs_X7_setBack) B.pre
  have v_1 := hts (.fieldLink RX7 18 "ClockReach$Zone" "size" "I") (List.mem_of_getElem? (i := 1) rfl)
  have v_2 := hts (.fieldLink RX7 11 "ClockReach$Zone" "cells" "[I") (List.mem_of_getElem? (i := 2) rfl)
  have hown : s.vm.findClass RX7 = some m.cls := findClass_of_methodNamed B.named
  have hlocks := B.notSynchronized
  have hiX7 : ∀ w ∈ wsX70, w ∈ vs_X7_setBack := fun _ h => List.mem_cons_of_mem _ (List.mem_append_right _ h)
  have hD := hD0.self (sz := s.heap.size)
  generalize hAe : va_A ([(z, .inr (7, [.ref zc, .int (nI n)])), (zc, .inl (cI, N, .inl f))]) s.heap.size = A at hD ⊢
  have hA : ∀ q : Nat, s.heap.size ≤ q → A q := fun q h => by rw [← hAe]; exact Or.inr h
  have hS : va_S A s.heap s.heap [] := va_S.rf
  have hl := lv_entry ([.ref z, .int (nI i)]) (n := 3) (Nat.le_of_ble_eq_true rfl)
  rw [lg_entry_eq]
  generalize (lg_sl ([.ref z, .int (nI i)]) ++ List.replicate (3 - (lg_sl ([.ref z, .int (nI i)])).length) Slot.unset).toArray = ls at hl ⊢
  have hl : lv_has ls 3 [(0, .ref z), (1, .int (nI i))] := hl
  have hn5 := zn_5 hn hN
  have hnq := zn_q hn hN
  have him := zn_m hi hn hN
  refine lv_iconst (v := 0) hx hb dX7_setBack_0 (by decide) ?_
  refine lv_istore_n (lv' := [(2, .int 0), (0, .ref z), (1, .int (nI i))]) hx hb dX7_setBack_1 rfl hl (by decide) rfl (fun ls hl => ?_)
  refine pu_loop (n) (fun ii H locs ls => ∃ f0 : Nat → Int32, va_P (dC, dI) vwCl [(z, .inr (7, [.ref zc, .int (nI n)])), (zc, .inl (cI, N, .inl f0))] H ∧ va_D A [(z, .inr (7, [.ref zc, .int (nI n)])), (zc, .inl (cI, N, .inl f0))] ∧ va_S A s.heap H locs ∧ lv_has ls 3 [(0, .ref z), (1, .int (nI i)), (2, .int (nI ii))]) (fun _ => 0) (fun _ => 0) 2 [] ?_ ?_ _ _ _ ⟨_, hP, hD, hS, lv_sub hl [1, 2, 0] rfl⟩
  · rintro H locs ls ⟨f_1, hP, hD, hS, hl⟩
    refine lv_iload_n hx hb dX7_setBack_2 rfl (lv_at hl 2 rfl) ?_
    refine lv_aload_n hx hb dX7_setBack_3 rfl (lv_at hl 0 rfl) ?_
    refine va_get (D := (dC, dI)) (ci := 7) (v := .int (nI n)) (C := RX7) (T := TX7) (N := 2) hx hb hts hiX7 hown hK hP 0 rfl rfl 1 (by decide) v_1 (fun _ h9 => h9) rfl dX7_setBack_4 ?_
    refine lv_icmp_ge (tgt := 59) hx hb dX7_setBack_7 (by decide) (fun _ => ?_) (fun z => absurd (nI_le (a := n) (b := n) (by omega) (by omega)) z)
    refine lv_aload_n hx hb dX7_setBack_59 rfl (lv_at hl 0 rfl) ?_
    refine va_get (D := (dC, dI)) (ci := 7) (v := .ref zc) (C := RX7) (T := TX7) (N := 2) hx hb hts hiX7 hown hK hP 0 rfl rfl 0 (by decide) v_2 (fun _ h9 => h9) rfl dX7_setBack_60 ?_
    refine lv_iload_n hx hb dX7_setBack_63 rfl (lv_at hl 1 rfl) ?_
    refine lv_aload_n hx hb dX7_setBack_64 rfl (lv_at hl 0 rfl) ?_
    refine va_get (D := (dC, dI)) (ci := 7) (v := .int (nI n)) (C := RX7) (T := TX7) (N := 2) hx hb hts hiX7 hown hK hP 0 rfl rfl 1 (by decide) v_1 (fun _ h9 => h9) rfl dX7_setBack_65 ?_
    refine lv_imul hx hb dX7_setBack_68 ?_
    refine lv_topi (fun y_5 ey_5 => ?_)
    obtain rfl : y_5 = (nI (i * n)) := ey_5.trans (pk_mul i n)
    refine lv_iload_n hx hb dX7_setBack_69 rfl (lv_at hl 1 rfl) ?_
    refine lv_iadd hx hb dX7_setBack_70 ?_
    refine lv_topi (fun y_6 ey_6 => ?_)
    obtain rfl : y_6 = (nI ((i * n) + i)) := ey_6.trans (nI_add (i * n) i)
    refine lv_iconst (v := 1) hx hb dX7_setBack_71 (by decide) ?_
    refine va_iast hx hb hK hP hD hS 1 0 rfl rfl (vp_in_nI (n := ((i * n) + i)) (by first | omega | exact ix_lt (by omega) (by omega) hn | exact ix_lt0 (by omega) hn | exact ix_ltq (by omega) hn | exact ix_lt1 (by omega) hn) (by omega)) dX7_setBack_72 (fun H locs hP hD hS => ?_)
    have hP : va_P (dC, dI) vwCl [(z, .inr (7, [.ref zc, .int (nI n)])), (zc, .inl (cI, N, .inl (upd f_1 ((nI ((i * n) + i)) : Int32).toNatClampNeg 1)))] H := hP
    have hD : va_D A [(z, .inr (7, [.ref zc, .int (nI n)])), (zc, .inl (cI, N, .inl (upd f_1 ((nI ((i * n) + i)) : Int32).toNatClampNeg 1)))] := hD
    have hP9 := hP.sub (ws' := [(z, .inr (7, [.ref zc, .int (nI n)])), (zc, .inl (cI, N, .inl (upd f_1 ((nI ((i * n) + i)) : Int32).toNatClampNeg 1)))]) [0, 1] rfl
    have hD9 := hD.sub (ws' := [(z, .inr (7, [.ref zc, .int (nI n)])), (zc, .inl (cI, N, .inl (upd f_1 ((nI ((i * n) + i)) : Int32).toNatClampNeg 1)))]) [0, 1] (by decide) rfl
    have hK9 := hK.sub (tys' := [(cI, .int)]) [0] rfl
    exact W.vret hx hb hr (fun t ht hW => ⟨⟨(), rfl, trivial, ⟨upd f_1 ((nI ((i * n) + i)) : Int32).toNatClampNeg 1, by rw [ht]; exact hP9, va_K.moved hW.alike hK9, hD9⟩⟩, hS.F ht⟩) hS.2.2 dX7_setBack_73
  · rintro i_2 h_3 ih_4 H locs ls ⟨f_1, hP, hD, hS, hl⟩
    refine lv_iload_n hx hb dX7_setBack_2 rfl (lv_at hl 2 rfl) ?_
    refine lv_aload_n hx hb dX7_setBack_3 rfl (lv_at hl 0 rfl) ?_
    refine va_get (D := (dC, dI)) (ci := 7) (v := .int (nI n)) (C := RX7) (T := TX7) (N := 2) hx hb hts hiX7 hown hK hP 0 rfl rfl 1 (by decide) v_1 (fun _ h9 => h9) rfl dX7_setBack_4 ?_
    refine lv_icmp_ge (tgt := 59) hx hb dX7_setBack_7 (by decide) (fun z => absurd z (nI_ge (a := i_2) (b := n) (by omega) (by omega))) (fun _ => ?_)
    refine lv_aload_n hx hb dX7_setBack_10 rfl (lv_at hl 0 rfl) ?_
    refine va_get (D := (dC, dI)) (ci := 7) (v := .ref zc) (C := RX7) (T := TX7) (N := 2) hx hb hts hiX7 hown hK hP 0 rfl rfl 0 (by decide) v_2 (fun _ h9 => h9) rfl dX7_setBack_11 ?_
    refine lv_iload_n hx hb dX7_setBack_14 rfl (lv_at hl 1 rfl) ?_
    refine lv_aload_n hx hb dX7_setBack_15 rfl (lv_at hl 0 rfl) ?_
    refine va_get (D := (dC, dI)) (ci := 7) (v := .int (nI n)) (C := RX7) (T := TX7) (N := 2) hx hb hts hiX7 hown hK hP 0 rfl rfl 1 (by decide) v_1 (fun _ h9 => h9) rfl dX7_setBack_16 ?_
    refine lv_imul hx hb dX7_setBack_19 ?_
    refine lv_topi (fun y_7 ey_7 => ?_)
    obtain rfl : y_7 = (nI (i * n)) := ey_7.trans (pk_mul i n)
    refine lv_iload_n hx hb dX7_setBack_20 rfl (lv_at hl 2 rfl) ?_
    refine lv_iadd hx hb dX7_setBack_21 ?_
    refine lv_topi (fun y_8 ey_8 => ?_)
    obtain rfl : y_8 = (nI ((i * n) + i_2)) := ey_8.trans (nI_add (i * n) i_2)
    refine lv_aload_n hx hb dX7_setBack_22 rfl (lv_at hl 0 rfl) ?_
    refine va_get (D := (dC, dI)) (ci := 7) (v := .ref zc) (C := RX7) (T := TX7) (N := 2) hx hb hts hiX7 hown hK hP 0 rfl rfl 0 (by decide) v_2 (fun _ h9 => h9) rfl dX7_setBack_23 ?_
    refine lv_iload_n hx hb dX7_setBack_26 rfl (lv_at hl 2 rfl) ?_
    refine va_iald hx hb hK hP 1 0 rfl rfl (vp_in_nI (n := i_2) (by first | omega | exact ix_lt (by omega) (by omega) hn | exact ix_lt0 (by omega) hn | exact ix_ltq (by omega) hn | exact ix_lt1 (by omega) hn) (by omega)) dX7_setBack_27 ?_
    refine va_iast hx hb hK hP hD hS 1 0 rfl rfl (vp_in_nI (n := ((i * n) + i_2)) (by first | omega | exact ix_lt (by omega) (by omega) hn | exact ix_lt0 (by omega) hn | exact ix_ltq (by omega) hn | exact ix_lt1 (by omega) hn) (by omega)) dX7_setBack_28 (fun H locs hP hD hS => ?_)
    have hP : va_P (dC, dI) vwCl [(z, .inr (7, [.ref zc, .int (nI n)])), (zc, .inl (cI, N, .inl (upd f_1 ((nI ((i * n) + i_2)) : Int32).toNatClampNeg (f_1 ((nI i_2)).toNatClampNeg))))] H := hP
    have hD : va_D A [(z, .inr (7, [.ref zc, .int (nI n)])), (zc, .inl (cI, N, .inl (upd f_1 ((nI ((i * n) + i_2)) : Int32).toNatClampNeg (f_1 ((nI i_2)).toNatClampNeg))))] := hD
    refine lv_aload_n hx hb dX7_setBack_29 rfl (lv_at hl 0 rfl) ?_
    refine va_get (D := (dC, dI)) (ci := 7) (v := .ref zc) (C := RX7) (T := TX7) (N := 2) hx hb hts hiX7 hown hK hP 0 rfl rfl 0 (by decide) v_2 (fun _ h9 => h9) rfl dX7_setBack_30 ?_
    refine lv_iload_n hx hb dX7_setBack_33 rfl (lv_at hl 2 rfl) ?_
    refine lv_aload_n hx hb dX7_setBack_34 rfl (lv_at hl 0 rfl) ?_
    refine va_get (D := (dC, dI)) (ci := 7) (v := .int (nI n)) (C := RX7) (T := TX7) (N := 2) hx hb hts hiX7 hown hK hP 0 rfl rfl 1 (by decide) v_1 (fun _ h9 => h9) rfl dX7_setBack_35 ?_
    refine lv_imul hx hb dX7_setBack_38 ?_
    refine lv_topi (fun y_9 ey_9 => ?_)
    obtain rfl : y_9 = (nI (i_2 * n)) := ey_9.trans (pk_mul i_2 n)
    refine lv_iload_n hx hb dX7_setBack_39 rfl (lv_at hl 1 rfl) ?_
    refine lv_iadd hx hb dX7_setBack_40 ?_
    refine lv_topi (fun y_10 ey_10 => ?_)
    obtain rfl : y_10 = (nI ((i_2 * n) + i)) := ey_10.trans (nI_add (i_2 * n) i)
    refine lv_aload_n hx hb dX7_setBack_41 rfl (lv_at hl 0 rfl) ?_
    refine va_get (D := (dC, dI)) (ci := 7) (v := .ref zc) (C := RX7) (T := TX7) (N := 2) hx hb hts hiX7 hown hK hP 0 rfl rfl 0 (by decide) v_2 (fun _ h9 => h9) rfl dX7_setBack_42 ?_
    refine lv_iload_n hx hb dX7_setBack_45 rfl (lv_at hl 2 rfl) ?_
    refine lv_aload_n hx hb dX7_setBack_46 rfl (lv_at hl 0 rfl) ?_
    refine va_get (D := (dC, dI)) (ci := 7) (v := .int (nI n)) (C := RX7) (T := TX7) (N := 2) hx hb hts hiX7 hown hK hP 0 rfl rfl 1 (by decide) v_1 (fun _ h9 => h9) rfl dX7_setBack_47 ?_
    refine lv_imul hx hb dX7_setBack_50 ?_
    refine lv_topi (fun y_11 ey_11 => ?_)
    obtain rfl : y_11 = (nI (i_2 * n)) := ey_11.trans (pk_mul i_2 n)
    refine va_iald hx hb hK hP 1 0 rfl rfl (vp_in_nI (n := (i_2 * n)) (by first | omega | exact ix_lt (by omega) (by omega) hn | exact ix_lt0 (by omega) hn | exact ix_ltq (by omega) hn | exact ix_lt1 (by omega) hn) (by omega)) dX7_setBack_51 ?_
    refine va_iast hx hb hK hP hD hS 1 0 rfl rfl (vp_in_nI (n := ((i_2 * n) + i)) (by first | omega | exact ix_lt (by omega) (by omega) hn | exact ix_lt0 (by omega) hn | exact ix_ltq (by omega) hn | exact ix_lt1 (by omega) hn) (by omega)) dX7_setBack_52 (fun H locs hP hD hS => ?_)
    have hP : va_P (dC, dI) vwCl [(z, .inr (7, [.ref zc, .int (nI n)])), (zc, .inl (cI, N, .inl (upd (upd f_1 ((nI ((i * n) + i_2)) : Int32).toNatClampNeg (f_1 ((nI i_2)).toNatClampNeg)) ((nI ((i_2 * n) + i)) : Int32).toNatClampNeg ((upd f_1 ((nI ((i * n) + i_2)) : Int32).toNatClampNeg (f_1 ((nI i_2)).toNatClampNeg)) ((nI (i_2 * n))).toNatClampNeg))))] H := hP
    have hD : va_D A [(z, .inr (7, [.ref zc, .int (nI n)])), (zc, .inl (cI, N, .inl (upd (upd f_1 ((nI ((i * n) + i_2)) : Int32).toNatClampNeg (f_1 ((nI i_2)).toNatClampNeg)) ((nI ((i_2 * n) + i)) : Int32).toNatClampNeg ((upd f_1 ((nI ((i * n) + i_2)) : Int32).toNatClampNeg (f_1 ((nI i_2)).toNatClampNeg)) ((nI (i_2 * n))).toNatClampNeg))))] := hD
    refine lv_iinc (v := (nI (i_2 + 1))) (lv' := [(2, .int (nI (i_2 + 1))), (0, .ref z), (1, .int (nI i))]) hx hb dX7_setBack_53 hl (k := 2) rfl (nI_1 _) (by decide) rfl (fun ls hl => ?_)
    refine lv_goto (tgt := 2) hx hb dX7_setBack_56 (by decide) ?_
    exact ih_4 _ _ _ ⟨_, hP, hD, hS, lv_sub hl [1, 2, 0] rfl⟩
theorem dX7_delay_0 : decode cX7_delay 0 = .ok (.iconst 1, 1) := by decide +kernel
theorem dX7_delay_1 : decode cX7_delay 1 = .ok (.istore_n 1, 1) := by decide +kernel
theorem dX7_delay_2 : decode cX7_delay 2 = .ok (.iload_n 1, 1) := by decide +kernel
theorem dX7_delay_3 : decode cX7_delay 3 = .ok (.aload_n 0, 1) := by decide +kernel
theorem dX7_delay_4 : decode cX7_delay 4 = .ok (.getfield 18, 3) := by decide +kernel
theorem dX7_delay_7 : decode cX7_delay 7 = .ok (.if_icmp .ge 22, 3) := by decide +kernel
theorem dX7_delay_10 : decode cX7_delay 10 = .ok (.aload_n 0, 1) := by decide +kernel
theorem dX7_delay_11 : decode cX7_delay 11 = .ok (.getfield 11, 3) := by decide +kernel
theorem dX7_delay_14 : decode cX7_delay 14 = .ok (.iload_n 1, 1) := by decide +kernel
theorem dX7_delay_15 : decode cX7_delay 15 = .ok (.aload_n 0, 1) := by decide +kernel
theorem dX7_delay_16 : decode cX7_delay 16 = .ok (.getfield 18, 3) := by decide +kernel
theorem dX7_delay_19 : decode cX7_delay 19 = .ok (.imul, 1) := by decide +kernel
theorem dX7_delay_20 : decode cX7_delay 20 = .ok (.ldc 17, 2) := by decide +kernel
theorem dX7_delay_22 : decode cX7_delay 22 = .ok (.iastore, 1) := by decide +kernel
theorem dX7_delay_23 : decode cX7_delay 23 = .ok (.iinc 1 1, 3) := by decide +kernel
theorem dX7_delay_26 : decode cX7_delay 26 = .ok (.goto (-24), 3) := by decide +kernel
theorem dX7_delay_29 : decode cX7_delay 29 = .ok (.return_, 1) := by decide +kernel
def vs_X7_delay : List Cond := .code yX7_delay cX7_delay 2 none :: ([.fieldLink RX7 18 "ClockReach$Zone" "size" "I", .fieldLink RX7 11 "ClockReach$Zone" "cells" "[I", .constant RX7 17 (2147483647)] ++ wsX70)
set_option maxHeartbeats 4000000 in
set_option maxRecDepth 100000 in
theorem c_X7_delay (l : Launch) (dC : Nat → ClassId) (dI : Nat → Nat → Nat) (sz : Nat) (z zc : Nat) (cI : ClassId) (n N : Nat) (f : Nat → Int32) (hn : n * n ≤ N) (hN : N ≤ 25) : Met l yX7_delay vs_X7_delay ({ frames := 0, cells := 0, slots := 0, locals := 0 }) (va_Pc [.ref z] (pu_B (dC, dI) [(z, .inr (7, [.ref zc, .int (nI n)])), (zc, .inl (cI, N, .inl f))] [(cI, .int)] sz)) (va_Qv (fun (_ : Unit) => True) (fun _ t => ∃ (g : Nat → Int32), pu_E (dC, dI) [(z, .inr (7, [.ref zc, .int (nI n)])), (zc, .inl (cI, N, .inl g))] [(cI, .int)] (va_A ([(z, .inr (7, [.ref zc, .int (nI n)])), (zc, .inl (cI, N, .inl f))]) sz) t) (va_A ([(z, .inr (7, [.ref zc, .int (nI n)])), (zc, .inl (cI, N, .inl f))]) sz)) 0 0 (va_A ([(z, .inr (7, [.ref zc, .int (nI n)])), (zc, .inl (cI, N, .inl f))]) sz) := by
  refine Met.ofW (cc := cX7_delay) (maxL := 2) (ret := none) (by decide) rfl ?_
  intro p e s m args below meth c s₁ B hml hv
  obtain ⟨rfl, rfl, hP, hK, hD0⟩ := hv
  have hx := B.exec
  have hb := B.bytes
  have hr := B.returns
  have hts := atoms_spec (ws := vs_X7_delay) B.pre
  have v_1 := hts (.fieldLink RX7 18 "ClockReach$Zone" "size" "I") (List.mem_of_getElem? (i := 1) rfl)
  have v_2 := hts (.fieldLink RX7 11 "ClockReach$Zone" "cells" "[I") (List.mem_of_getElem? (i := 2) rfl)
  have v_3 := hts (.constant RX7 17 (2147483647)) (List.mem_of_getElem? (i := 3) rfl)
  have hown : s.vm.findClass RX7 = some m.cls := findClass_of_methodNamed B.named
  have hlocks := B.notSynchronized
  have hiX7 : ∀ w ∈ wsX70, w ∈ vs_X7_delay := fun _ h => List.mem_cons_of_mem _ (List.mem_append_right _ h)
  have hD := hD0.self (sz := s.heap.size)
  generalize hAe : va_A ([(z, .inr (7, [.ref zc, .int (nI n)])), (zc, .inl (cI, N, .inl f))]) s.heap.size = A at hD ⊢
  have hA : ∀ q : Nat, s.heap.size ≤ q → A q := fun q h => by rw [← hAe]; exact Or.inr h
  have hS : va_S A s.heap s.heap [] := va_S.rf
  have hl := lv_entry ([.ref z]) (n := 2) (Nat.le_of_ble_eq_true rfl)
  rw [lg_entry_eq]
  generalize (lg_sl ([.ref z]) ++ List.replicate (2 - (lg_sl ([.ref z])).length) Slot.unset).toArray = ls at hl ⊢
  have hl : lv_has ls 2 [(0, .ref z)] := hl
  have hn5 := zn_5 hn hN
  have hnq := zn_q hn hN
  refine lv_iconst (v := 1) hx hb dX7_delay_0 (by decide) ?_
  refine lv_istore_n (lv' := [(1, .int 1), (0, .ref z)]) hx hb dX7_delay_1 rfl hl (by decide) rfl (fun ls hl => ?_)
  refine pu_loop (n - 1) (fun ii H locs ls => ∃ f0 : Nat → Int32, va_P (dC, dI) vwCl [(z, .inr (7, [.ref zc, .int (nI n)])), (zc, .inl (cI, N, .inl f0))] H ∧ va_D A [(z, .inr (7, [.ref zc, .int (nI n)])), (zc, .inl (cI, N, .inl f0))] ∧ va_S A s.heap H locs ∧ lv_has ls 2 [(0, .ref z), (1, .int (nI (1 + ii)))]) (fun _ => 0) (fun _ => 0) 2 [] ?_ ?_ _ _ _ ⟨_, hP, hD, hS, lv_sub hl [1, 0] rfl⟩
  · rintro H locs ls ⟨f_1, hP, hD, hS, hl⟩
    refine lv_iload_n hx hb dX7_delay_2 rfl (lv_at hl 1 rfl) ?_
    refine lv_aload_n hx hb dX7_delay_3 rfl (lv_at hl 0 rfl) ?_
    refine va_get (D := (dC, dI)) (ci := 7) (v := .int (nI n)) (C := RX7) (T := TX7) (N := 2) hx hb hts hiX7 hown hK hP 0 rfl rfl 1 (by decide) v_1 (fun _ h9 => h9) rfl dX7_delay_4 ?_
    refine lv_icmp_ge (tgt := 29) hx hb dX7_delay_7 (by decide) (fun _ => ?_) (fun z => absurd (nI_le (a := n) (b := (1 + (n - 1))) (by omega) (by omega)) z)
    have hP9 := hP.sub (ws' := [(z, .inr (7, [.ref zc, .int (nI n)])), (zc, .inl (cI, N, .inl f_1))]) [0, 1] rfl
    have hD9 := hD.sub (ws' := [(z, .inr (7, [.ref zc, .int (nI n)])), (zc, .inl (cI, N, .inl f_1))]) [0, 1] (by decide) rfl
    have hK9 := hK.sub (tys' := [(cI, .int)]) [0] rfl
    exact W.vret hx hb hr (fun t ht hW => ⟨⟨(), rfl, trivial, ⟨f_1, by rw [ht]; exact hP9, va_K.moved hW.alike hK9, hD9⟩⟩, hS.F ht⟩) hS.2.2 dX7_delay_29
  · rintro i_2 h_3 ih_4 H locs ls ⟨f_1, hP, hD, hS, hl⟩
    refine lv_iload_n hx hb dX7_delay_2 rfl (lv_at hl 1 rfl) ?_
    refine lv_aload_n hx hb dX7_delay_3 rfl (lv_at hl 0 rfl) ?_
    refine va_get (D := (dC, dI)) (ci := 7) (v := .int (nI n)) (C := RX7) (T := TX7) (N := 2) hx hb hts hiX7 hown hK hP 0 rfl rfl 1 (by decide) v_1 (fun _ h9 => h9) rfl dX7_delay_4 ?_
    refine lv_icmp_ge (tgt := 29) hx hb dX7_delay_7 (by decide) (fun z => absurd z (nI_ge (a := (1 + i_2)) (b := n) (by omega) (by omega))) (fun _ => ?_)
    refine lv_aload_n hx hb dX7_delay_10 rfl (lv_at hl 0 rfl) ?_
    refine va_get (D := (dC, dI)) (ci := 7) (v := .ref zc) (C := RX7) (T := TX7) (N := 2) hx hb hts hiX7 hown hK hP 0 rfl rfl 0 (by decide) v_2 (fun _ h9 => h9) rfl dX7_delay_11 ?_
    refine lv_iload_n hx hb dX7_delay_14 rfl (lv_at hl 1 rfl) ?_
    refine lv_aload_n hx hb dX7_delay_15 rfl (lv_at hl 0 rfl) ?_
    refine va_get (D := (dC, dI)) (ci := 7) (v := .int (nI n)) (C := RX7) (T := TX7) (N := 2) hx hb hts hiX7 hown hK hP 0 rfl rfl 1 (by decide) v_1 (fun _ h9 => h9) rfl dX7_delay_16 ?_
    refine lv_imul hx hb dX7_delay_19 ?_
    refine lv_topi (fun y_5 ey_5 => ?_)
    obtain rfl : y_5 = (nI ((1 + i_2) * n)) := ey_5.trans (pk_mul (1 + i_2) n)
    refine lv_ldc hx hb hown v_3 dX7_delay_20 ?_
    refine va_iast hx hb hK hP hD hS 1 0 rfl rfl (vp_in_nI (n := ((1 + i_2) * n)) (by first | omega | exact ix_lt (by omega) (by omega) hn | exact ix_lt0 (by omega) hn | exact ix_ltq (by omega) hn | exact ix_lt1 (by omega) hn) (by omega)) dX7_delay_22 (fun H locs hP hD hS => ?_)
    have hP : va_P (dC, dI) vwCl [(z, .inr (7, [.ref zc, .int (nI n)])), (zc, .inl (cI, N, .inl (upd f_1 ((nI ((1 + i_2) * n)) : Int32).toNatClampNeg 2147483647)))] H := hP
    have hD : va_D A [(z, .inr (7, [.ref zc, .int (nI n)])), (zc, .inl (cI, N, .inl (upd f_1 ((nI ((1 + i_2) * n)) : Int32).toNatClampNeg 2147483647)))] := hD
    refine lv_iinc (v := (nI ((1 + i_2) + 1))) (lv' := [(1, .int (nI ((1 + i_2) + 1))), (0, .ref z)]) hx hb dX7_delay_23 hl (k := 1) rfl (nI_1 _) (by decide) rfl (fun ls hl => ?_)
    refine lv_goto (tgt := 2) hx hb dX7_delay_26 (by decide) ?_
    exact ih_4 _ _ _ ⟨_, hP, hD, hS, lv_sub hl [1, 0] rfl⟩
theorem dX7_setPast_0 : decode cX7_setPast 0 = .ok (.iconst 1, 1) := by decide +kernel
theorem dX7_setPast_1 : decode cX7_setPast 1 = .ok (.istore_n 1, 1) := by decide +kernel
theorem dX7_setPast_2 : decode cX7_setPast 2 = .ok (.iload_n 1, 1) := by decide +kernel
theorem dX7_setPast_3 : decode cX7_setPast 3 = .ok (.aload_n 0, 1) := by decide +kernel
theorem dX7_setPast_4 : decode cX7_setPast 4 = .ok (.getfield 18, 3) := by decide +kernel
theorem dX7_setPast_7 : decode cX7_setPast 7 = .ok (.if_icmp .ge 52, 3) := by decide +kernel
theorem dX7_setPast_10 : decode cX7_setPast 10 = .ok (.iconst 1, 1) := by decide +kernel
theorem dX7_setPast_11 : decode cX7_setPast 11 = .ok (.istore_n 2, 1) := by decide +kernel
theorem dX7_setPast_12 : decode cX7_setPast 12 = .ok (.iconst 1, 1) := by decide +kernel
theorem dX7_setPast_13 : decode cX7_setPast 13 = .ok (.istore_n 3, 1) := by decide +kernel
theorem dX7_setPast_14 : decode cX7_setPast 14 = .ok (.iload_n 3, 1) := by decide +kernel
theorem dX7_setPast_15 : decode cX7_setPast 15 = .ok (.aload_n 0, 1) := by decide +kernel
theorem dX7_setPast_16 : decode cX7_setPast 16 = .ok (.getfield 18, 3) := by decide +kernel
theorem dX7_setPast_19 : decode cX7_setPast 19 = .ok (.if_icmp .ge 27, 3) := by decide +kernel
theorem dX7_setPast_22 : decode cX7_setPast 22 = .ok (.iload_n 2, 1) := by decide +kernel
theorem dX7_setPast_23 : decode cX7_setPast 23 = .ok (.aload_n 0, 1) := by decide +kernel
theorem dX7_setPast_24 : decode cX7_setPast 24 = .ok (.getfield 11, 3) := by decide +kernel
theorem dX7_setPast_27 : decode cX7_setPast 27 = .ok (.iload_n 3, 1) := by decide +kernel
theorem dX7_setPast_28 : decode cX7_setPast 28 = .ok (.aload_n 0, 1) := by decide +kernel
theorem dX7_setPast_29 : decode cX7_setPast 29 = .ok (.getfield 18, 3) := by decide +kernel
theorem dX7_setPast_32 : decode cX7_setPast 32 = .ok (.imul, 1) := by decide +kernel
theorem dX7_setPast_33 : decode cX7_setPast 33 = .ok (.iload_n 1, 1) := by decide +kernel
theorem dX7_setPast_34 : decode cX7_setPast 34 = .ok (.iadd, 1) := by decide +kernel
theorem dX7_setPast_35 : decode cX7_setPast 35 = .ok (.iaload, 1) := by decide +kernel
theorem dX7_setPast_36 : decode cX7_setPast 36 = .ok (.invokestatic 22, 3) := by decide +kernel
theorem dX7_setPast_39 : decode cX7_setPast 39 = .ok (.istore_n 2, 1) := by decide +kernel
theorem dX7_setPast_40 : decode cX7_setPast 40 = .ok (.iinc 3 1, 3) := by decide +kernel
theorem dX7_setPast_43 : decode cX7_setPast 43 = .ok (.goto (-29), 3) := by decide +kernel
theorem dX7_setPast_46 : decode cX7_setPast 46 = .ok (.aload_n 0, 1) := by decide +kernel
theorem dX7_setPast_47 : decode cX7_setPast 47 = .ok (.getfield 11, 3) := by decide +kernel
theorem dX7_setPast_50 : decode cX7_setPast 50 = .ok (.iload_n 1, 1) := by decide +kernel
theorem dX7_setPast_51 : decode cX7_setPast 51 = .ok (.iload_n 2, 1) := by decide +kernel
theorem dX7_setPast_52 : decode cX7_setPast 52 = .ok (.iastore, 1) := by decide +kernel
theorem dX7_setPast_53 : decode cX7_setPast 53 = .ok (.iinc 1 1, 3) := by decide +kernel
theorem dX7_setPast_56 : decode cX7_setPast 56 = .ok (.goto (-54), 3) := by decide +kernel
theorem dX7_setPast_59 : decode cX7_setPast 59 = .ok (.return_, 1) := by decide +kernel
def vs_X7_setPast : List Cond := .code yX7_setPast cX7_setPast 4 none :: ([.fieldLink RX7 18 "ClockReach$Zone" "size" "I", .fieldLink RX7 11 "ClockReach$Zone" "cells" "[I", .methodLink RX7 22 Lib.Math.min.name, .static Lib.Math.min.name, .initialized "java/lang/Math", .code Lib.Math.min.name Lib.Math.min.code 2 (some .int)] ++ wsX70)
set_option maxHeartbeats 4000000 in
set_option maxRecDepth 100000 in
theorem c_X7_setPast (l : Launch) (dC : Nat → ClassId) (dI : Nat → Nat → Nat) (sz : Nat) (z zc : Nat) (cI : ClassId) (n N : Nat) (f : Nat → Int32) (hn : n * n ≤ N) (hN : N ≤ 25) : Met l yX7_setPast vs_X7_setPast ({ frames := 1, cells := 0, slots := 0, locals := 14 }) (va_Pc [.ref z] (pu_B (dC, dI) [(z, .inr (7, [.ref zc, .int (nI n)])), (zc, .inl (cI, N, .inl f))] [(cI, .int)] sz)) (va_Qv (fun (_ : Unit) => True) (fun _ t => ∃ (g : Nat → Int32), pu_E (dC, dI) [(z, .inr (7, [.ref zc, .int (nI n)])), (zc, .inl (cI, N, .inl g))] [(cI, .int)] (va_A ([(z, .inr (7, [.ref zc, .int (nI n)])), (zc, .inl (cI, N, .inl f))]) sz) t) (va_A ([(z, .inr (7, [.ref zc, .int (nI n)])), (zc, .inl (cI, N, .inl f))]) sz)) 0 0 (va_A ([(z, .inr (7, [.ref zc, .int (nI n)])), (zc, .inl (cI, N, .inl f))]) sz) := by
  refine Met.ofW (cc := cX7_setPast) (maxL := 4) (ret := none) (by decide) rfl ?_
  intro p e s m args below meth c s₁ B hml hv
  obtain ⟨rfl, rfl, hP, hK, hD0⟩ := hv
  have hx := B.exec
  have hb := B.bytes
  have hr := B.returns
  have hts := atoms_spec (ws := vs_X7_setPast) B.pre
  have v_1 := hts (.fieldLink RX7 18 "ClockReach$Zone" "size" "I") (List.mem_of_getElem? (i := 1) rfl)
  have v_2 := hts (.fieldLink RX7 11 "ClockReach$Zone" "cells" "[I") (List.mem_of_getElem? (i := 2) rfl)
  have v_3 := hts (.methodLink RX7 22 Lib.Math.min.name) (List.mem_of_getElem? (i := 3) rfl)
  have v_4 := hts (.static Lib.Math.min.name) (List.mem_of_getElem? (i := 4) rfl)
  have v_5 := hts (.initialized "java/lang/Math") (List.mem_of_getElem? (i := 5) rfl)
  have v_6 := hts (.code Lib.Math.min.name Lib.Math.min.code 2 (some .int)) (List.mem_of_getElem? (i := 6) rfl)
  have hown : s.vm.findClass RX7 = some m.cls := findClass_of_methodNamed B.named
  have hlocks := B.notSynchronized
  have hiX7 : ∀ w ∈ wsX70, w ∈ vs_X7_setPast := fun _ h => List.mem_cons_of_mem _ (List.mem_append_right _ h)
  have hD := hD0.self (sz := s.heap.size)
  generalize hAe : va_A ([(z, .inr (7, [.ref zc, .int (nI n)])), (zc, .inl (cI, N, .inl f))]) s.heap.size = A at hD ⊢
  have hA : ∀ q : Nat, s.heap.size ≤ q → A q := fun q h => by rw [← hAe]; exact Or.inr h
  have hS : va_S A s.heap s.heap [] := va_S.rf
  have hl := lv_entry ([.ref z]) (n := 4) (Nat.le_of_ble_eq_true rfl)
  rw [lg_entry_eq]
  generalize (lg_sl ([.ref z]) ++ List.replicate (4 - (lg_sl ([.ref z])).length) Slot.unset).toArray = ls at hl ⊢
  have hl : lv_has ls 4 [(0, .ref z)] := hl
  have hn5 := zn_5 hn hN
  have hnq := zn_q hn hN
  refine lv_iconst (v := 1) hx hb dX7_setPast_0 (by decide) ?_
  refine lv_istore_n (lv' := [(1, .int 1), (0, .ref z)]) hx hb dX7_setPast_1 rfl hl (by decide) rfl (fun ls hl => ?_)
  refine pu_loop (n - 1) (fun ii H locs ls => ∃ f0 : Nat → Int32, va_P (dC, dI) vwCl [(z, .inr (7, [.ref zc, .int (nI n)])), (zc, .inl (cI, N, .inl f0))] H ∧ va_D A [(z, .inr (7, [.ref zc, .int (nI n)])), (zc, .inl (cI, N, .inl f0))] ∧ va_S A s.heap H locs ∧ lv_has ls 4 [(0, .ref z), (1, .int (nI (1 + ii)))]) (fun _ => 0) (fun _ => 0) 2 [] ?_ ?_ _ _ _ ⟨_, hP, hD, hS, lv_sub hl [1, 0] rfl⟩
  · rintro H locs ls ⟨f_1, hP, hD, hS, hl⟩
    refine lv_iload_n hx hb dX7_setPast_2 rfl (lv_at hl 1 rfl) ?_
    refine lv_aload_n hx hb dX7_setPast_3 rfl (lv_at hl 0 rfl) ?_
    refine va_get (D := (dC, dI)) (ci := 7) (v := .int (nI n)) (C := RX7) (T := TX7) (N := 2) hx hb hts hiX7 hown hK hP 0 rfl rfl 1 (by decide) v_1 (fun _ h9 => h9) rfl dX7_setPast_4 ?_
    refine lv_icmp_ge (tgt := 59) hx hb dX7_setPast_7 (by decide) (fun _ => ?_) (fun z => absurd (nI_le (a := n) (b := (1 + (n - 1))) (by omega) (by omega)) z)
    have hP9 := hP.sub (ws' := [(z, .inr (7, [.ref zc, .int (nI n)])), (zc, .inl (cI, N, .inl f_1))]) [0, 1] rfl
    have hD9 := hD.sub (ws' := [(z, .inr (7, [.ref zc, .int (nI n)])), (zc, .inl (cI, N, .inl f_1))]) [0, 1] (by decide) rfl
    have hK9 := hK.sub (tys' := [(cI, .int)]) [0] rfl
    exact W.vret hx hb hr (fun t ht hW => ⟨⟨(), rfl, trivial, ⟨f_1, by rw [ht]; exact hP9, va_K.moved hW.alike hK9, hD9⟩⟩, hS.F ht⟩) hS.2.2 dX7_setPast_59
  · rintro i_2 h_3 ih_4 H locs ls ⟨f_1, hP, hD, hS, hl⟩
    refine lv_iload_n hx hb dX7_setPast_2 rfl (lv_at hl 1 rfl) ?_
    refine lv_aload_n hx hb dX7_setPast_3 rfl (lv_at hl 0 rfl) ?_
    refine va_get (D := (dC, dI)) (ci := 7) (v := .int (nI n)) (C := RX7) (T := TX7) (N := 2) hx hb hts hiX7 hown hK hP 0 rfl rfl 1 (by decide) v_1 (fun _ h9 => h9) rfl dX7_setPast_4 ?_
    refine lv_icmp_ge (tgt := 59) hx hb dX7_setPast_7 (by decide) (fun z => absurd z (nI_ge (a := (1 + i_2)) (b := n) (by omega) (by omega))) (fun _ => ?_)
    refine lv_iconst (v := 1) hx hb dX7_setPast_10 (by decide) ?_
    refine lv_istore_n (lv' := [(2, .int 1), (0, .ref z), (1, .int (nI (1 + i_2)))]) hx hb dX7_setPast_11 rfl hl (by decide) rfl (fun ls hl => ?_)
    refine lv_iconst (v := 1) hx hb dX7_setPast_12 (by decide) ?_
    refine lv_istore_n (lv' := [(3, .int 1), (2, .int 1), (0, .ref z), (1, .int (nI (1 + i_2)))]) hx hb dX7_setPast_13 rfl hl (by decide) rfl (fun ls hl => ?_)
    refine pu_loop (n - 1) (fun ii H locs ls => ∃ v0 : Int32, va_P (dC, dI) vwCl [(z, .inr (7, [.ref zc, .int (nI n)])), (zc, .inl (cI, N, .inl f_1))] H ∧ va_D A [(z, .inr (7, [.ref zc, .int (nI n)])), (zc, .inl (cI, N, .inl f_1))] ∧ va_S A s.heap H locs ∧ lv_has ls 4 [(0, .ref z), (1, .int (nI (1 + i_2))), (2, .int v0), (3, .int (nI (1 + ii)))]) (fun _ => 0) (fun _ => 0) 14 [] ?_ ?_ _ _ _ ⟨_, hP, hD, hS, lv_sub hl [2, 3, 1, 0] rfl⟩
    · rintro H locs ls ⟨vl_5, hP, hD, hS, hl⟩
      refine lv_iload_n hx hb dX7_setPast_14 rfl (lv_at hl 3 rfl) ?_
      refine lv_aload_n hx hb dX7_setPast_15 rfl (lv_at hl 0 rfl) ?_
      refine va_get (D := (dC, dI)) (ci := 7) (v := .int (nI n)) (C := RX7) (T := TX7) (N := 2) hx hb hts hiX7 hown hK hP 0 rfl rfl 1 (by decide) v_1 (fun _ h9 => h9) rfl dX7_setPast_16 ?_
      refine lv_icmp_ge (tgt := 46) hx hb dX7_setPast_19 (by decide) (fun _ => ?_) (fun z => absurd (nI_le (a := n) (b := (1 + (n - 1))) (by omega) (by omega)) z)
      refine lv_aload_n hx hb dX7_setPast_46 rfl (lv_at hl 0 rfl) ?_
      refine va_get (D := (dC, dI)) (ci := 7) (v := .ref zc) (C := RX7) (T := TX7) (N := 2) hx hb hts hiX7 hown hK hP 0 rfl rfl 0 (by decide) v_2 (fun _ h9 => h9) rfl dX7_setPast_47 ?_
      refine lv_iload_n hx hb dX7_setPast_50 rfl (lv_at hl 1 rfl) ?_
      refine lv_iload_n hx hb dX7_setPast_51 rfl (lv_at hl 2 rfl) ?_
      refine va_iast hx hb hK hP hD hS 1 0 rfl rfl (vp_in_nI (n := (1 + i_2)) (by first | omega | exact ix_lt (by omega) (by omega) hn | exact ix_lt0 (by omega) hn | exact ix_ltq (by omega) hn | exact ix_lt1 (by omega) hn) (by omega)) dX7_setPast_52 (fun H locs hP hD hS => ?_)
      have hP : va_P (dC, dI) vwCl [(z, .inr (7, [.ref zc, .int (nI n)])), (zc, .inl (cI, N, .inl (upd f_1 ((nI (1 + i_2)) : Int32).toNatClampNeg vl_5)))] H := hP
      have hD : va_D A [(z, .inr (7, [.ref zc, .int (nI n)])), (zc, .inl (cI, N, .inl (upd f_1 ((nI (1 + i_2)) : Int32).toNatClampNeg vl_5)))] := hD
      refine lv_iinc (v := (nI ((1 + i_2) + 1))) (lv' := [(1, .int (nI ((1 + i_2) + 1))), (0, .ref z), (2, .int vl_5), (3, .int (nI (1 + (n - 1))))]) hx hb dX7_setPast_53 hl (k := 1) rfl (nI_1 _) (by decide) rfl (fun ls hl => ?_)
      refine lv_goto (tgt := 2) hx hb dX7_setPast_56 (by decide) ?_
      exact ih_4 _ _ _ ⟨_, hP, hD, hS, lv_sub hl [1, 0] rfl⟩
    · rintro i_6 h_7 ih_8 H locs ls ⟨vl_5, hP, hD, hS, hl⟩
      refine lv_iload_n hx hb dX7_setPast_14 rfl (lv_at hl 3 rfl) ?_
      refine lv_aload_n hx hb dX7_setPast_15 rfl (lv_at hl 0 rfl) ?_
      refine va_get (D := (dC, dI)) (ci := 7) (v := .int (nI n)) (C := RX7) (T := TX7) (N := 2) hx hb hts hiX7 hown hK hP 0 rfl rfl 1 (by decide) v_1 (fun _ h9 => h9) rfl dX7_setPast_16 ?_
      refine lv_icmp_ge (tgt := 46) hx hb dX7_setPast_19 (by decide) (fun z => absurd z (nI_ge (a := (1 + i_6)) (b := n) (by omega) (by omega))) (fun _ => ?_)
      refine lv_iload_n hx hb dX7_setPast_22 rfl (lv_at hl 2 rfl) ?_
      refine lv_aload_n hx hb dX7_setPast_23 rfl (lv_at hl 0 rfl) ?_
      refine va_get (D := (dC, dI)) (ci := 7) (v := .ref zc) (C := RX7) (T := TX7) (N := 2) hx hb hts hiX7 hown hK hP 0 rfl rfl 0 (by decide) v_2 (fun _ h9 => h9) rfl dX7_setPast_24 ?_
      refine lv_iload_n hx hb dX7_setPast_27 rfl (lv_at hl 3 rfl) ?_
      refine lv_aload_n hx hb dX7_setPast_28 rfl (lv_at hl 0 rfl) ?_
      refine va_get (D := (dC, dI)) (ci := 7) (v := .int (nI n)) (C := RX7) (T := TX7) (N := 2) hx hb hts hiX7 hown hK hP 0 rfl rfl 1 (by decide) v_1 (fun _ h9 => h9) rfl dX7_setPast_29 ?_
      refine lv_imul hx hb dX7_setPast_32 ?_
      refine lv_topi (fun y_9 ey_9 => ?_)
      obtain rfl : y_9 = (nI ((1 + i_6) * n)) := ey_9.trans (pk_mul (1 + i_6) n)
      refine lv_iload_n hx hb dX7_setPast_33 rfl (lv_at hl 1 rfl) ?_
      refine lv_iadd hx hb dX7_setPast_34 ?_
      refine lv_topi (fun y_10 ey_10 => ?_)
      obtain rfl : y_10 = (nI (((1 + i_6) * n) + (1 + i_2))) := ey_10.trans (nI_add ((1 + i_6) * n) (1 + i_2))
      refine va_iald hx hb hK hP 1 0 rfl rfl (vp_in_nI (n := (((1 + i_6) * n) + (1 + i_2))) (by first | omega | exact ix_lt (by omega) (by omega) hn | exact ix_lt0 (by omega) hn | exact ix_ltq (by omega) hn | exact ix_lt1 (by omega) hn) (by omega)) dX7_setPast_35 ?_
      refine va_mmin hx hb (hml.trans hl.1.symm) hown v_3 v_4 v_5 v_6 (Nat.le_of_ble_eq_true rfl) (Nat.le_of_ble_eq_true rfl) (Nat.le_of_ble_eq_true rfl) (Nat.le_of_ble_eq_true rfl) dX7_setPast_36 ?_
      refine lv_topi (fun y_11 ey_11 => ?_)
      refine lv_istore_n (lv' := [(2, .int y_11), (0, .ref z), (1, .int (nI (1 + i_2))), (3, .int (nI (1 + i_6)))]) hx hb dX7_setPast_39 rfl hl (by decide) rfl (fun ls hl => ?_)
      refine lv_iinc (v := (nI ((1 + i_6) + 1))) (lv' := [(3, .int (nI ((1 + i_6) + 1))), (2, .int y_11), (0, .ref z), (1, .int (nI (1 + i_2)))]) hx hb dX7_setPast_40 hl (k := 3) rfl (nI_1 _) (by decide) rfl (fun ls hl => ?_)
      refine lv_goto (tgt := 14) hx hb dX7_setPast_43 (by decide) ?_
      exact ih_8 _ _ _ ⟨_, hP, hD, hS, lv_sub hl [2, 3, 1, 0] rfl⟩
theorem dX7_close_0 : decode cX7_close 0 = .ok (.iconst 0, 1) := by decide +kernel
theorem dX7_close_1 : decode cX7_close 1 = .ok (.istore_n 1, 1) := by decide +kernel
theorem dX7_close_2 : decode cX7_close 2 = .ok (.iload_n 1, 1) := by decide +kernel
theorem dX7_close_3 : decode cX7_close 3 = .ok (.aload_n 0, 1) := by decide +kernel
theorem dX7_close_4 : decode cX7_close 4 = .ok (.getfield 18, 3) := by decide +kernel
theorem dX7_close_7 : decode cX7_close 7 = .ok (.if_icmp .ge 140, 3) := by decide +kernel
theorem dX7_close_10 : decode cX7_close 10 = .ok (.iconst 0, 1) := by decide +kernel
theorem dX7_close_11 : decode cX7_close 11 = .ok (.istore_n 2, 1) := by decide +kernel
theorem dX7_close_12 : decode cX7_close 12 = .ok (.iload_n 2, 1) := by decide +kernel
theorem dX7_close_13 : decode cX7_close 13 = .ok (.aload_n 0, 1) := by decide +kernel
theorem dX7_close_14 : decode cX7_close 14 = .ok (.getfield 18, 3) := by decide +kernel
theorem dX7_close_17 : decode cX7_close 17 = .ok (.if_icmp .ge 124, 3) := by decide +kernel
theorem dX7_close_20 : decode cX7_close 20 = .ok (.aload_n 0, 1) := by decide +kernel
theorem dX7_close_21 : decode cX7_close 21 = .ok (.getfield 11, 3) := by decide +kernel
theorem dX7_close_24 : decode cX7_close 24 = .ok (.iload_n 2, 1) := by decide +kernel
theorem dX7_close_25 : decode cX7_close 25 = .ok (.aload_n 0, 1) := by decide +kernel
theorem dX7_close_26 : decode cX7_close 26 = .ok (.getfield 18, 3) := by decide +kernel
theorem dX7_close_29 : decode cX7_close 29 = .ok (.imul, 1) := by decide +kernel
theorem dX7_close_30 : decode cX7_close 30 = .ok (.iload_n 1, 1) := by decide +kernel
theorem dX7_close_31 : decode cX7_close 31 = .ok (.iadd, 1) := by decide +kernel
theorem dX7_close_32 : decode cX7_close 32 = .ok (.iaload, 1) := by decide +kernel
theorem dX7_close_33 : decode cX7_close 33 = .ok (.istore_n 3, 1) := by decide +kernel
theorem dX7_close_34 : decode cX7_close 34 = .ok (.iload_n 3, 1) := by decide +kernel
theorem dX7_close_35 : decode cX7_close 35 = .ok (.ldc 17, 2) := by decide +kernel
theorem dX7_close_37 : decode cX7_close 37 = .ok (.if_icmp .ne 6, 3) := by decide +kernel
theorem dX7_close_40 : decode cX7_close 40 = .ok (.goto 95, 3) := by decide +kernel
theorem dX7_close_43 : decode cX7_close 43 = .ok (.iconst 0, 1) := by decide +kernel
theorem dX7_close_44 : decode cX7_close 44 = .ok (.istore 4, 2) := by decide +kernel
theorem dX7_close_46 : decode cX7_close 46 = .ok (.iload 4, 2) := by decide +kernel
theorem dX7_close_48 : decode cX7_close 48 = .ok (.aload_n 0, 1) := by decide +kernel
theorem dX7_close_49 : decode cX7_close 49 = .ok (.getfield 18, 3) := by decide +kernel
theorem dX7_close_52 : decode cX7_close 52 = .ok (.if_icmp .ge 83, 3) := by decide +kernel
theorem dX7_close_55 : decode cX7_close 55 = .ok (.aload_n 0, 1) := by decide +kernel
theorem dX7_close_56 : decode cX7_close 56 = .ok (.getfield 11, 3) := by decide +kernel
theorem dX7_close_59 : decode cX7_close 59 = .ok (.iload_n 1, 1) := by decide +kernel
theorem dX7_close_60 : decode cX7_close 60 = .ok (.aload_n 0, 1) := by decide +kernel
theorem dX7_close_61 : decode cX7_close 61 = .ok (.getfield 18, 3) := by decide +kernel
theorem dX7_close_64 : decode cX7_close 64 = .ok (.imul, 1) := by decide +kernel
theorem dX7_close_65 : decode cX7_close 65 = .ok (.iload 4, 2) := by decide +kernel
theorem dX7_close_67 : decode cX7_close 67 = .ok (.iadd, 1) := by decide +kernel
theorem dX7_close_68 : decode cX7_close 68 = .ok (.iaload, 1) := by decide +kernel
theorem dX7_close_69 : decode cX7_close 69 = .ok (.istore 5, 2) := by decide +kernel
theorem dX7_close_71 : decode cX7_close 71 = .ok (.iload 5, 2) := by decide +kernel
theorem dX7_close_73 : decode cX7_close 73 = .ok (.ldc 17, 2) := by decide +kernel
theorem dX7_close_75 : decode cX7_close 75 = .ok (.if_icmp .ne 6, 3) := by decide +kernel
theorem dX7_close_78 : decode cX7_close 78 = .ok (.goto 51, 3) := by decide +kernel
theorem dX7_close_81 : decode cX7_close 81 = .ok (.iload_n 3, 1) := by decide +kernel
theorem dX7_close_82 : decode cX7_close 82 = .ok (.iload 5, 2) := by decide +kernel
theorem dX7_close_84 : decode cX7_close 84 = .ok (.iadd, 1) := by decide +kernel
theorem dX7_close_85 : decode cX7_close 85 = .ok (.iload_n 3, 1) := by decide +kernel
theorem dX7_close_86 : decode cX7_close 86 = .ok (.iload 5, 2) := by decide +kernel
theorem dX7_close_88 : decode cX7_close 88 = .ok (.ior, 1) := by decide +kernel
theorem dX7_close_89 : decode cX7_close 89 = .ok (.iconst 1, 1) := by decide +kernel
theorem dX7_close_90 : decode cX7_close 90 = .ok (.iand, 1) := by decide +kernel
theorem dX7_close_91 : decode cX7_close 91 = .ok (.isub, 1) := by decide +kernel
theorem dX7_close_92 : decode cX7_close 92 = .ok (.istore 6, 2) := by decide +kernel
theorem dX7_close_94 : decode cX7_close 94 = .ok (.iload 6, 2) := by decide +kernel
theorem dX7_close_96 : decode cX7_close 96 = .ok (.aload_n 0, 1) := by decide +kernel
theorem dX7_close_97 : decode cX7_close 97 = .ok (.getfield 11, 3) := by decide +kernel
theorem dX7_close_100 : decode cX7_close 100 = .ok (.iload_n 2, 1) := by decide +kernel
theorem dX7_close_101 : decode cX7_close 101 = .ok (.aload_n 0, 1) := by decide +kernel
theorem dX7_close_102 : decode cX7_close 102 = .ok (.getfield 18, 3) := by decide +kernel
theorem dX7_close_105 : decode cX7_close 105 = .ok (.imul, 1) := by decide +kernel
theorem dX7_close_106 : decode cX7_close 106 = .ok (.iload 4, 2) := by decide +kernel
theorem dX7_close_108 : decode cX7_close 108 = .ok (.iadd, 1) := by decide +kernel
theorem dX7_close_109 : decode cX7_close 109 = .ok (.iaload, 1) := by decide +kernel
theorem dX7_close_110 : decode cX7_close 110 = .ok (.if_icmp .ge 19, 3) := by decide +kernel
theorem dX7_close_113 : decode cX7_close 113 = .ok (.aload_n 0, 1) := by decide +kernel
theorem dX7_close_114 : decode cX7_close 114 = .ok (.getfield 11, 3) := by decide +kernel
theorem dX7_close_117 : decode cX7_close 117 = .ok (.iload_n 2, 1) := by decide +kernel
theorem dX7_close_118 : decode cX7_close 118 = .ok (.aload_n 0, 1) := by decide +kernel
theorem dX7_close_119 : decode cX7_close 119 = .ok (.getfield 18, 3) := by decide +kernel
theorem dX7_close_122 : decode cX7_close 122 = .ok (.imul, 1) := by decide +kernel
theorem dX7_close_123 : decode cX7_close 123 = .ok (.iload 4, 2) := by decide +kernel
theorem dX7_close_125 : decode cX7_close 125 = .ok (.iadd, 1) := by decide +kernel
theorem dX7_close_126 : decode cX7_close 126 = .ok (.iload 6, 2) := by decide +kernel
theorem dX7_close_128 : decode cX7_close 128 = .ok (.iastore, 1) := by decide +kernel
theorem dX7_close_129 : decode cX7_close 129 = .ok (.iinc 4 1, 3) := by decide +kernel
theorem dX7_close_132 : decode cX7_close 132 = .ok (.goto (-86), 3) := by decide +kernel
theorem dX7_close_135 : decode cX7_close 135 = .ok (.iinc 2 1, 3) := by decide +kernel
theorem dX7_close_138 : decode cX7_close 138 = .ok (.goto (-126), 3) := by decide +kernel
theorem dX7_close_141 : decode cX7_close 141 = .ok (.iinc 1 1, 3) := by decide +kernel
theorem dX7_close_144 : decode cX7_close 144 = .ok (.goto (-142), 3) := by decide +kernel
theorem dX7_close_147 : decode cX7_close 147 = .ok (.return_, 1) := by decide +kernel
def vs_X7_close : List Cond := .code yX7_close cX7_close 7 none :: ([.fieldLink RX7 18 "ClockReach$Zone" "size" "I", .fieldLink RX7 11 "ClockReach$Zone" "cells" "[I", .constant RX7 17 (2147483647)] ++ wsX70)
set_option maxHeartbeats 4000000 in
set_option maxRecDepth 100000 in
theorem c_X7_close (l : Launch) (dC : Nat → ClassId) (dI : Nat → Nat → Nat) (sz : Nat) (z zc : Nat) (cI : ClassId) (n N : Nat) (f : Nat → Int32) (hn : n * n ≤ N) (hN : N ≤ 25) : Met l yX7_close vs_X7_close ({ frames := 0, cells := 0, slots := 0, locals := 0 }) (va_Pc [.ref z] (pu_B (dC, dI) [(z, .inr (7, [.ref zc, .int (nI n)])), (zc, .inl (cI, N, .inl f))] [(cI, .int)] sz)) (va_Qv (fun (_ : Unit) => True) (fun _ t => ∃ (g : Nat → Int32), pu_E (dC, dI) [(z, .inr (7, [.ref zc, .int (nI n)])), (zc, .inl (cI, N, .inl g))] [(cI, .int)] (va_A ([(z, .inr (7, [.ref zc, .int (nI n)])), (zc, .inl (cI, N, .inl f))]) sz) t) (va_A ([(z, .inr (7, [.ref zc, .int (nI n)])), (zc, .inl (cI, N, .inl f))]) sz)) 0 0 (va_A ([(z, .inr (7, [.ref zc, .int (nI n)])), (zc, .inl (cI, N, .inl f))]) sz) := by
  refine Met.ofW (cc := cX7_close) (maxL := 7) (ret := none) (by decide) rfl ?_
  intro p e s m args below meth c s₁ B hml hv
  obtain ⟨rfl, rfl, hP, hK, hD0⟩ := hv
  have hx := B.exec
  have hb := B.bytes
  have hr := B.returns
  have hts := atoms_spec (ws := vs_X7_close) B.pre
  have v_1 := hts (.fieldLink RX7 18 "ClockReach$Zone" "size" "I") (List.mem_of_getElem? (i := 1) rfl)
  have v_2 := hts (.fieldLink RX7 11 "ClockReach$Zone" "cells" "[I") (List.mem_of_getElem? (i := 2) rfl)
  have v_3 := hts (.constant RX7 17 (2147483647)) (List.mem_of_getElem? (i := 3) rfl)
  have hown : s.vm.findClass RX7 = some m.cls := findClass_of_methodNamed B.named
  have hlocks := B.notSynchronized
  have hiX7 : ∀ w ∈ wsX70, w ∈ vs_X7_close := fun _ h => List.mem_cons_of_mem _ (List.mem_append_right _ h)
  have hD := hD0.self (sz := s.heap.size)
  generalize hAe : va_A ([(z, .inr (7, [.ref zc, .int (nI n)])), (zc, .inl (cI, N, .inl f))]) s.heap.size = A at hD ⊢
  have hA : ∀ q : Nat, s.heap.size ≤ q → A q := fun q h => by rw [← hAe]; exact Or.inr h
  have hS : va_S A s.heap s.heap [] := va_S.rf
  have hl := lv_entry ([.ref z]) (n := 7) (Nat.le_of_ble_eq_true rfl)
  rw [lg_entry_eq]
  generalize (lg_sl ([.ref z]) ++ List.replicate (7 - (lg_sl ([.ref z])).length) Slot.unset).toArray = ls at hl ⊢
  have hl : lv_has ls 7 [(0, .ref z)] := hl
  have hn5 := zn_5 hn hN
  have hnq := zn_q hn hN
  refine lv_iconst (v := 0) hx hb dX7_close_0 (by decide) ?_
  refine lv_istore_n (lv' := [(1, .int 0), (0, .ref z)]) hx hb dX7_close_1 rfl hl (by decide) rfl (fun ls hl => ?_)
  refine pu_loop (n) (fun ii H locs ls => ∃ f0 : Nat → Int32, va_P (dC, dI) vwCl [(z, .inr (7, [.ref zc, .int (nI n)])), (zc, .inl (cI, N, .inl f0))] H ∧ va_D A [(z, .inr (7, [.ref zc, .int (nI n)])), (zc, .inl (cI, N, .inl f0))] ∧ va_S A s.heap H locs ∧ lv_has ls 7 [(0, .ref z), (1, .int (nI ii))]) (fun _ => 0) (fun _ => 0) 2 [] ?_ ?_ _ _ _ ⟨_, hP, hD, hS, lv_sub hl [1, 0] rfl⟩
  · rintro H locs ls ⟨f_1, hP, hD, hS, hl⟩
    refine lv_iload_n hx hb dX7_close_2 rfl (lv_at hl 1 rfl) ?_
    refine lv_aload_n hx hb dX7_close_3 rfl (lv_at hl 0 rfl) ?_
    refine va_get (D := (dC, dI)) (ci := 7) (v := .int (nI n)) (C := RX7) (T := TX7) (N := 2) hx hb hts hiX7 hown hK hP 0 rfl rfl 1 (by decide) v_1 (fun _ h9 => h9) rfl dX7_close_4 ?_
    refine lv_icmp_ge (tgt := 147) hx hb dX7_close_7 (by decide) (fun _ => ?_) (fun z => absurd (nI_le (a := n) (b := n) (by omega) (by omega)) z)
    have hP9 := hP.sub (ws' := [(z, .inr (7, [.ref zc, .int (nI n)])), (zc, .inl (cI, N, .inl f_1))]) [0, 1] rfl
    have hD9 := hD.sub (ws' := [(z, .inr (7, [.ref zc, .int (nI n)])), (zc, .inl (cI, N, .inl f_1))]) [0, 1] (by decide) rfl
    have hK9 := hK.sub (tys' := [(cI, .int)]) [0] rfl
    exact W.vret hx hb hr (fun t ht hW => ⟨⟨(), rfl, trivial, ⟨f_1, by rw [ht]; exact hP9, va_K.moved hW.alike hK9, hD9⟩⟩, hS.F ht⟩) hS.2.2 dX7_close_147
  · rintro i_2 h_3 ih_4 H locs ls ⟨f_1, hP, hD, hS, hl⟩
    refine lv_iload_n hx hb dX7_close_2 rfl (lv_at hl 1 rfl) ?_
    refine lv_aload_n hx hb dX7_close_3 rfl (lv_at hl 0 rfl) ?_
    refine va_get (D := (dC, dI)) (ci := 7) (v := .int (nI n)) (C := RX7) (T := TX7) (N := 2) hx hb hts hiX7 hown hK hP 0 rfl rfl 1 (by decide) v_1 (fun _ h9 => h9) rfl dX7_close_4 ?_
    refine lv_icmp_ge (tgt := 147) hx hb dX7_close_7 (by decide) (fun z => absurd z (nI_ge (a := i_2) (b := n) (by omega) (by omega))) (fun _ => ?_)
    refine lv_iconst (v := 0) hx hb dX7_close_10 (by decide) ?_
    refine lv_istore_n (lv' := [(2, .int 0), (0, .ref z), (1, .int (nI i_2))]) hx hb dX7_close_11 rfl hl (by decide) rfl (fun ls hl => ?_)
    refine pu_loop (n) (fun ii H locs ls => ∃ f0 : Nat → Int32, va_P (dC, dI) vwCl [(z, .inr (7, [.ref zc, .int (nI n)])), (zc, .inl (cI, N, .inl f0))] H ∧ va_D A [(z, .inr (7, [.ref zc, .int (nI n)])), (zc, .inl (cI, N, .inl f0))] ∧ va_S A s.heap H locs ∧ lv_has ls 7 [(0, .ref z), (1, .int (nI i_2)), (2, .int (nI ii))]) (fun _ => 0) (fun _ => 0) 12 [] ?_ ?_ _ _ _ ⟨_, hP, hD, hS, lv_sub hl [1, 2, 0] rfl⟩
    · rintro H locs ls ⟨f_5, hP, hD, hS, hl⟩
      refine lv_iload_n hx hb dX7_close_12 rfl (lv_at hl 2 rfl) ?_
      refine lv_aload_n hx hb dX7_close_13 rfl (lv_at hl 0 rfl) ?_
      refine va_get (D := (dC, dI)) (ci := 7) (v := .int (nI n)) (C := RX7) (T := TX7) (N := 2) hx hb hts hiX7 hown hK hP 0 rfl rfl 1 (by decide) v_1 (fun _ h9 => h9) rfl dX7_close_14 ?_
      refine lv_icmp_ge (tgt := 141) hx hb dX7_close_17 (by decide) (fun _ => ?_) (fun z => absurd (nI_le (a := n) (b := n) (by omega) (by omega)) z)
      refine lv_iinc (v := (nI (i_2 + 1))) (lv' := [(1, .int (nI (i_2 + 1))), (0, .ref z), (2, .int (nI n))]) hx hb dX7_close_141 hl (k := 1) rfl (nI_1 _) (by decide) rfl (fun ls hl => ?_)
      refine lv_goto (tgt := 2) hx hb dX7_close_144 (by decide) ?_
      exact ih_4 _ _ _ ⟨_, hP, hD, hS, lv_sub hl [1, 0] rfl⟩
    · rintro i_6 h_7 ih_8 H locs ls ⟨f_5, hP, hD, hS, hl⟩
      refine lv_iload_n hx hb dX7_close_12 rfl (lv_at hl 2 rfl) ?_
      refine lv_aload_n hx hb dX7_close_13 rfl (lv_at hl 0 rfl) ?_
      refine va_get (D := (dC, dI)) (ci := 7) (v := .int (nI n)) (C := RX7) (T := TX7) (N := 2) hx hb hts hiX7 hown hK hP 0 rfl rfl 1 (by decide) v_1 (fun _ h9 => h9) rfl dX7_close_14 ?_
      refine lv_icmp_ge (tgt := 141) hx hb dX7_close_17 (by decide) (fun z => absurd z (nI_ge (a := i_6) (b := n) (by omega) (by omega))) (fun _ => ?_)
      refine lv_aload_n hx hb dX7_close_20 rfl (lv_at hl 0 rfl) ?_
      refine va_get (D := (dC, dI)) (ci := 7) (v := .ref zc) (C := RX7) (T := TX7) (N := 2) hx hb hts hiX7 hown hK hP 0 rfl rfl 0 (by decide) v_2 (fun _ h9 => h9) rfl dX7_close_21 ?_
      refine lv_iload_n hx hb dX7_close_24 rfl (lv_at hl 2 rfl) ?_
      refine lv_aload_n hx hb dX7_close_25 rfl (lv_at hl 0 rfl) ?_
      refine va_get (D := (dC, dI)) (ci := 7) (v := .int (nI n)) (C := RX7) (T := TX7) (N := 2) hx hb hts hiX7 hown hK hP 0 rfl rfl 1 (by decide) v_1 (fun _ h9 => h9) rfl dX7_close_26 ?_
      refine lv_imul hx hb dX7_close_29 ?_
      refine lv_topi (fun y_9 ey_9 => ?_)
      obtain rfl : y_9 = (nI (i_6 * n)) := ey_9.trans (pk_mul i_6 n)
      refine lv_iload_n hx hb dX7_close_30 rfl (lv_at hl 1 rfl) ?_
      refine lv_iadd hx hb dX7_close_31 ?_
      refine lv_topi (fun y_10 ey_10 => ?_)
      obtain rfl : y_10 = (nI ((i_6 * n) + i_2)) := ey_10.trans (nI_add (i_6 * n) i_2)
      refine va_iald hx hb hK hP 1 0 rfl rfl (vp_in_nI (n := ((i_6 * n) + i_2)) (by first | omega | exact ix_lt (by omega) (by omega) hn | exact ix_lt0 (by omega) hn | exact ix_ltq (by omega) hn | exact ix_lt1 (by omega) hn) (by omega)) dX7_close_32 ?_
      refine lv_istore_n (lv' := [(3, .int (f_5 ((nI ((i_6 * n) + i_2))).toNatClampNeg)), (0, .ref z), (1, .int (nI i_2)), (2, .int (nI i_6))]) hx hb dX7_close_33 rfl hl (by decide) rfl (fun ls hl => ?_)
      refine lv_iload_n hx hb dX7_close_34 rfl (lv_at hl 0 rfl) ?_
      refine lv_ldc hx hb hown v_3 dX7_close_35 ?_
      refine lv_icmp_ne (tgt := 43) hx hb dX7_close_37 (by decide) (fun c_11 => ?_) (fun c_11 => ?_)
      · refine lv_iconst (v := 0) hx hb dX7_close_43 (by decide) ?_
        refine lv_istore (lv' := [(4, .int 0), (3, .int (f_5 ((nI ((i_6 * n) + i_2))).toNatClampNeg)), (0, .ref z), (1, .int (nI i_2)), (2, .int (nI i_6))]) hx hb dX7_close_44 hl (by decide) rfl (fun ls hl => ?_)
        refine pu_loop (n) (fun ii H locs ls => ∃ f0 : Nat → Int32, va_P (dC, dI) vwCl [(z, .inr (7, [.ref zc, .int (nI n)])), (zc, .inl (cI, N, .inl f0))] H ∧ va_D A [(z, .inr (7, [.ref zc, .int (nI n)])), (zc, .inl (cI, N, .inl f0))] ∧ va_S A s.heap H locs ∧ lv_has ls 7 [(0, .ref z), (1, .int (nI i_2)), (2, .int (nI i_6)), (3, .int (f_5 ((nI ((i_6 * n) + i_2))).toNatClampNeg)), (4, .int (nI ii))]) (fun _ => 0) (fun _ => 0) 46 [] ?_ ?_ _ _ _ ⟨_, hP, hD, hS, lv_sub hl [2, 3, 4, 1, 0] rfl⟩
        · rintro H locs ls ⟨f_12, hP, hD, hS, hl⟩
          refine lv_iload hx hb dX7_close_46 (lv_at hl 4 rfl) ?_
          refine lv_aload_n hx hb dX7_close_48 rfl (lv_at hl 0 rfl) ?_
          refine va_get (D := (dC, dI)) (ci := 7) (v := .int (nI n)) (C := RX7) (T := TX7) (N := 2) hx hb hts hiX7 hown hK hP 0 rfl rfl 1 (by decide) v_1 (fun _ h9 => h9) rfl dX7_close_49 ?_
          refine lv_icmp_ge (tgt := 135) hx hb dX7_close_52 (by decide) (fun _ => ?_) (fun z => absurd (nI_le (a := n) (b := n) (by omega) (by omega)) z)
          refine lv_iinc (v := (nI (i_6 + 1))) (lv' := [(2, .int (nI (i_6 + 1))), (0, .ref z), (1, .int (nI i_2)), (3, .int (f_5 ((nI ((i_6 * n) + i_2))).toNatClampNeg)), (4, .int (nI n))]) hx hb dX7_close_135 hl (k := 2) rfl (nI_1 _) (by decide) rfl (fun ls hl => ?_)
          refine lv_goto (tgt := 12) hx hb dX7_close_138 (by decide) ?_
          exact ih_8 _ _ _ ⟨_, hP, hD, hS, lv_sub hl [1, 2, 0] rfl⟩
        · rintro i_13 h_14 ih_15 H locs ls ⟨f_12, hP, hD, hS, hl⟩
          refine lv_iload hx hb dX7_close_46 (lv_at hl 4 rfl) ?_
          refine lv_aload_n hx hb dX7_close_48 rfl (lv_at hl 0 rfl) ?_
          refine va_get (D := (dC, dI)) (ci := 7) (v := .int (nI n)) (C := RX7) (T := TX7) (N := 2) hx hb hts hiX7 hown hK hP 0 rfl rfl 1 (by decide) v_1 (fun _ h9 => h9) rfl dX7_close_49 ?_
          refine lv_icmp_ge (tgt := 135) hx hb dX7_close_52 (by decide) (fun z => absurd z (nI_ge (a := i_13) (b := n) (by omega) (by omega))) (fun _ => ?_)
          refine lv_aload_n hx hb dX7_close_55 rfl (lv_at hl 0 rfl) ?_
          refine va_get (D := (dC, dI)) (ci := 7) (v := .ref zc) (C := RX7) (T := TX7) (N := 2) hx hb hts hiX7 hown hK hP 0 rfl rfl 0 (by decide) v_2 (fun _ h9 => h9) rfl dX7_close_56 ?_
          refine lv_iload_n hx hb dX7_close_59 rfl (lv_at hl 1 rfl) ?_
          refine lv_aload_n hx hb dX7_close_60 rfl (lv_at hl 0 rfl) ?_
          refine va_get (D := (dC, dI)) (ci := 7) (v := .int (nI n)) (C := RX7) (T := TX7) (N := 2) hx hb hts hiX7 hown hK hP 0 rfl rfl 1 (by decide) v_1 (fun _ h9 => h9) rfl dX7_close_61 ?_
          refine lv_imul hx hb dX7_close_64 ?_
          refine lv_topi (fun y_16 ey_16 => ?_)
          obtain rfl : y_16 = (nI (i_2 * n)) := ey_16.trans (pk_mul i_2 n)
          refine lv_iload hx hb dX7_close_65 (lv_at hl 4 rfl) ?_
          refine lv_iadd hx hb dX7_close_67 ?_
          refine lv_topi (fun y_17 ey_17 => ?_)
          obtain rfl : y_17 = (nI ((i_2 * n) + i_13)) := ey_17.trans (nI_add (i_2 * n) i_13)
          refine va_iald hx hb hK hP 1 0 rfl rfl (vp_in_nI (n := ((i_2 * n) + i_13)) (by first | omega | exact ix_lt (by omega) (by omega) hn | exact ix_lt0 (by omega) hn | exact ix_ltq (by omega) hn | exact ix_lt1 (by omega) hn) (by omega)) dX7_close_68 ?_
          refine lv_istore (lv' := [(5, .int (f_12 ((nI ((i_2 * n) + i_13))).toNatClampNeg)), (0, .ref z), (1, .int (nI i_2)), (2, .int (nI i_6)), (3, .int (f_5 ((nI ((i_6 * n) + i_2))).toNatClampNeg)), (4, .int (nI i_13))]) hx hb dX7_close_69 hl (by decide) rfl (fun ls hl => ?_)
          refine lv_iload hx hb dX7_close_71 (lv_at hl 0 rfl) ?_
          refine lv_ldc hx hb hown v_3 dX7_close_73 ?_
          refine lv_icmp_ne (tgt := 81) hx hb dX7_close_75 (by decide) (fun c_18 => ?_) (fun c_18 => ?_)
          · refine lv_iload_n hx hb dX7_close_81 rfl (lv_at hl 4 rfl) ?_
            refine lv_iload hx hb dX7_close_82 (lv_at hl 0 rfl) ?_
            refine lv_iadd hx hb dX7_close_84 ?_
            refine lv_iload_n hx hb dX7_close_85 rfl (lv_at hl 4 rfl) ?_
            refine lv_iload hx hb dX7_close_86 (lv_at hl 0 rfl) ?_
            refine lv_ior hx hb dX7_close_88 ?_
            refine lv_iconst (v := 1) hx hb dX7_close_89 (by decide) ?_
            refine lv_iand hx hb dX7_close_90 ?_
            refine lv_isub hx hb dX7_close_91 ?_
            refine lv_istore (lv' := [(6, .int (((f_5 ((nI ((i_6 * n) + i_2))).toNatClampNeg) + (f_12 ((nI ((i_2 * n) + i_13))).toNatClampNeg)) - (((f_5 ((nI ((i_6 * n) + i_2))).toNatClampNeg) ||| (f_12 ((nI ((i_2 * n) + i_13))).toNatClampNeg)) &&& 1))), (5, .int (f_12 ((nI ((i_2 * n) + i_13))).toNatClampNeg)), (0, .ref z), (1, .int (nI i_2)), (2, .int (nI i_6)), (3, .int (f_5 ((nI ((i_6 * n) + i_2))).toNatClampNeg)), (4, .int (nI i_13))]) hx hb dX7_close_92 hl (by decide) rfl (fun ls hl => ?_)
            refine lv_iload hx hb dX7_close_94 (lv_at hl 0 rfl) ?_
            refine lv_aload_n hx hb dX7_close_96 rfl (lv_at hl 2 rfl) ?_
            refine va_get (D := (dC, dI)) (ci := 7) (v := .ref zc) (C := RX7) (T := TX7) (N := 2) hx hb hts hiX7 hown hK hP 0 rfl rfl 0 (by decide) v_2 (fun _ h9 => h9) rfl dX7_close_97 ?_
            refine lv_iload_n hx hb dX7_close_100 rfl (lv_at hl 4 rfl) ?_
            refine lv_aload_n hx hb dX7_close_101 rfl (lv_at hl 2 rfl) ?_
            refine va_get (D := (dC, dI)) (ci := 7) (v := .int (nI n)) (C := RX7) (T := TX7) (N := 2) hx hb hts hiX7 hown hK hP 0 rfl rfl 1 (by decide) v_1 (fun _ h9 => h9) rfl dX7_close_102 ?_
            refine lv_imul hx hb dX7_close_105 ?_
            refine lv_topi (fun y_19 ey_19 => ?_)
            obtain rfl : y_19 = (nI (i_6 * n)) := ey_19.trans (pk_mul i_6 n)
            refine lv_iload hx hb dX7_close_106 (lv_at hl 6 rfl) ?_
            refine lv_iadd hx hb dX7_close_108 ?_
            refine lv_topi (fun y_20 ey_20 => ?_)
            obtain rfl : y_20 = (nI ((i_6 * n) + i_13)) := ey_20.trans (nI_add (i_6 * n) i_13)
            refine va_iald hx hb hK hP 1 0 rfl rfl (vp_in_nI (n := ((i_6 * n) + i_13)) (by first | omega | exact ix_lt (by omega) (by omega) hn | exact ix_lt0 (by omega) hn | exact ix_ltq (by omega) hn | exact ix_lt1 (by omega) hn) (by omega)) dX7_close_109 ?_
            refine lv_icmp_ge (tgt := 129) hx hb dX7_close_110 (by decide) (fun c_21 => ?_) (fun c_21 => ?_)
            · refine lv_iinc (v := (nI (i_13 + 1))) (lv' := [(4, .int (nI (i_13 + 1))), (6, .int (((f_5 ((nI ((i_6 * n) + i_2))).toNatClampNeg) + (f_12 ((nI ((i_2 * n) + i_13))).toNatClampNeg)) - (((f_5 ((nI ((i_6 * n) + i_2))).toNatClampNeg) ||| (f_12 ((nI ((i_2 * n) + i_13))).toNatClampNeg)) &&& 1))), (5, .int (f_12 ((nI ((i_2 * n) + i_13))).toNatClampNeg)), (0, .ref z), (1, .int (nI i_2)), (2, .int (nI i_6)), (3, .int (f_5 ((nI ((i_6 * n) + i_2))).toNatClampNeg))]) hx hb dX7_close_129 hl (k := 6) rfl (nI_1 _) (by decide) rfl (fun ls hl => ?_)
              refine lv_goto (tgt := 46) hx hb dX7_close_132 (by decide) ?_
              exact ih_15 _ _ _ ⟨_, hP, hD, hS, lv_sub hl [3, 4, 5, 6, 0] rfl⟩
            · refine lv_aload_n hx hb dX7_close_113 rfl (lv_at hl 2 rfl) ?_
              refine va_get (D := (dC, dI)) (ci := 7) (v := .ref zc) (C := RX7) (T := TX7) (N := 2) hx hb hts hiX7 hown hK hP 0 rfl rfl 0 (by decide) v_2 (fun _ h9 => h9) rfl dX7_close_114 ?_
              refine lv_iload_n hx hb dX7_close_117 rfl (lv_at hl 4 rfl) ?_
              refine lv_aload_n hx hb dX7_close_118 rfl (lv_at hl 2 rfl) ?_
              refine va_get (D := (dC, dI)) (ci := 7) (v := .int (nI n)) (C := RX7) (T := TX7) (N := 2) hx hb hts hiX7 hown hK hP 0 rfl rfl 1 (by decide) v_1 (fun _ h9 => h9) rfl dX7_close_119 ?_
              refine lv_imul hx hb dX7_close_122 ?_
              refine lv_topi (fun y_22 ey_22 => ?_)
              obtain rfl : y_22 = (nI (i_6 * n)) := ey_22.trans (pk_mul i_6 n)
              refine lv_iload hx hb dX7_close_123 (lv_at hl 6 rfl) ?_
              refine lv_iadd hx hb dX7_close_125 ?_
              refine lv_topi (fun y_23 ey_23 => ?_)
              obtain rfl : y_23 = (nI ((i_6 * n) + i_13)) := ey_23.trans (nI_add (i_6 * n) i_13)
              refine lv_iload hx hb dX7_close_126 (lv_at hl 0 rfl) ?_
              refine va_iast hx hb hK hP hD hS 1 0 rfl rfl (vp_in_nI (n := ((i_6 * n) + i_13)) (by first | omega | exact ix_lt (by omega) (by omega) hn | exact ix_lt0 (by omega) hn | exact ix_ltq (by omega) hn | exact ix_lt1 (by omega) hn) (by omega)) dX7_close_128 (fun H locs hP hD hS => ?_)
              have hP : va_P (dC, dI) vwCl [(z, .inr (7, [.ref zc, .int (nI n)])), (zc, .inl (cI, N, .inl (upd f_12 ((nI ((i_6 * n) + i_13)) : Int32).toNatClampNeg (((f_5 ((nI ((i_6 * n) + i_2))).toNatClampNeg) + (f_12 ((nI ((i_2 * n) + i_13))).toNatClampNeg)) - (((f_5 ((nI ((i_6 * n) + i_2))).toNatClampNeg) ||| (f_12 ((nI ((i_2 * n) + i_13))).toNatClampNeg)) &&& 1)))))] H := hP
              have hD : va_D A [(z, .inr (7, [.ref zc, .int (nI n)])), (zc, .inl (cI, N, .inl (upd f_12 ((nI ((i_6 * n) + i_13)) : Int32).toNatClampNeg (((f_5 ((nI ((i_6 * n) + i_2))).toNatClampNeg) + (f_12 ((nI ((i_2 * n) + i_13))).toNatClampNeg)) - (((f_5 ((nI ((i_6 * n) + i_2))).toNatClampNeg) ||| (f_12 ((nI ((i_2 * n) + i_13))).toNatClampNeg)) &&& 1)))))] := hD
              refine lv_iinc (v := (nI (i_13 + 1))) (lv' := [(4, .int (nI (i_13 + 1))), (6, .int (((f_5 ((nI ((i_6 * n) + i_2))).toNatClampNeg) + (f_12 ((nI ((i_2 * n) + i_13))).toNatClampNeg)) - (((f_5 ((nI ((i_6 * n) + i_2))).toNatClampNeg) ||| (f_12 ((nI ((i_2 * n) + i_13))).toNatClampNeg)) &&& 1))), (5, .int (f_12 ((nI ((i_2 * n) + i_13))).toNatClampNeg)), (0, .ref z), (1, .int (nI i_2)), (2, .int (nI i_6)), (3, .int (f_5 ((nI ((i_6 * n) + i_2))).toNatClampNeg))]) hx hb dX7_close_129 hl (k := 6) rfl (nI_1 _) (by decide) rfl (fun ls hl => ?_)
              refine lv_goto (tgt := 46) hx hb dX7_close_132 (by decide) ?_
              exact ih_15 _ _ _ ⟨_, hP, hD, hS, lv_sub hl [3, 4, 5, 6, 0] rfl⟩
          · refine lv_goto (tgt := 129) hx hb dX7_close_78 (by decide) ?_
            refine lv_iinc (v := (nI (i_13 + 1))) (lv' := [(4, .int (nI (i_13 + 1))), (5, .int (f_12 ((nI ((i_2 * n) + i_13))).toNatClampNeg)), (0, .ref z), (1, .int (nI i_2)), (2, .int (nI i_6)), (3, .int (f_5 ((nI ((i_6 * n) + i_2))).toNatClampNeg))]) hx hb dX7_close_129 hl (k := 5) rfl (nI_1 _) (by decide) rfl (fun ls hl => ?_)
            refine lv_goto (tgt := 46) hx hb dX7_close_132 (by decide) ?_
            exact ih_15 _ _ _ ⟨_, hP, hD, hS, lv_sub hl [2, 3, 4, 5, 0] rfl⟩
      · refine lv_goto (tgt := 135) hx hb dX7_close_40 (by decide) ?_
        refine lv_iinc (v := (nI (i_6 + 1))) (lv' := [(2, .int (nI (i_6 + 1))), (3, .int (f_5 ((nI ((i_6 * n) + i_2))).toNatClampNeg)), (0, .ref z), (1, .int (nI i_2))]) hx hb dX7_close_135 hl (k := 3) rfl (nI_1 _) (by decide) rfl (fun ls hl => ?_)
        refine lv_goto (tgt := 12) hx hb dX7_close_138 (by decide) ?_
        exact ih_8 _ _ _ ⟨_, hP, hD, hS, lv_sub hl [2, 3, 0] rfl⟩
theorem dX7_forget_0 : decode cX7_forget 0 = .ok (.iconst 0, 1) := by decide +kernel
theorem dX7_forget_1 : decode cX7_forget 1 = .ok (.istore_n 3, 1) := by decide +kernel
theorem dX7_forget_2 : decode cX7_forget 2 = .ok (.iload_n 3, 1) := by decide +kernel
theorem dX7_forget_3 : decode cX7_forget 3 = .ok (.aload_n 0, 1) := by decide +kernel
theorem dX7_forget_4 : decode cX7_forget 4 = .ok (.getfield 18, 3) := by decide +kernel
theorem dX7_forget_7 : decode cX7_forget 7 = .ok (.if_icmp .ge 123, 3) := by decide +kernel
theorem dX7_forget_10 : decode cX7_forget 10 = .ok (.iconst 0, 1) := by decide +kernel
theorem dX7_forget_11 : decode cX7_forget 11 = .ok (.istore 4, 2) := by decide +kernel
theorem dX7_forget_13 : decode cX7_forget 13 = .ok (.iload 4, 2) := by decide +kernel
theorem dX7_forget_15 : decode cX7_forget 15 = .ok (.aload_n 0, 1) := by decide +kernel
theorem dX7_forget_16 : decode cX7_forget 16 = .ok (.getfield 18, 3) := by decide +kernel
theorem dX7_forget_19 : decode cX7_forget 19 = .ok (.if_icmp .ge 105, 3) := by decide +kernel
theorem dX7_forget_22 : decode cX7_forget 22 = .ok (.aload_n 0, 1) := by decide +kernel
theorem dX7_forget_23 : decode cX7_forget 23 = .ok (.getfield 11, 3) := by decide +kernel
theorem dX7_forget_26 : decode cX7_forget 26 = .ok (.iload_n 3, 1) := by decide +kernel
theorem dX7_forget_27 : decode cX7_forget 27 = .ok (.aload_n 0, 1) := by decide +kernel
theorem dX7_forget_28 : decode cX7_forget 28 = .ok (.getfield 18, 3) := by decide +kernel
theorem dX7_forget_31 : decode cX7_forget 31 = .ok (.imul, 1) := by decide +kernel
theorem dX7_forget_32 : decode cX7_forget 32 = .ok (.iload 4, 2) := by decide +kernel
theorem dX7_forget_34 : decode cX7_forget 34 = .ok (.iadd, 1) := by decide +kernel
theorem dX7_forget_35 : decode cX7_forget 35 = .ok (.iaload, 1) := by decide +kernel
theorem dX7_forget_36 : decode cX7_forget 36 = .ok (.istore 5, 2) := by decide +kernel
theorem dX7_forget_38 : decode cX7_forget 38 = .ok (.iload_n 3, 1) := by decide +kernel
theorem dX7_forget_39 : decode cX7_forget 39 = .ok (.iload 4, 2) := by decide +kernel
theorem dX7_forget_41 : decode cX7_forget 41 = .ok (.if_icmp .eq 77, 3) := by decide +kernel
theorem dX7_forget_44 : decode cX7_forget 44 = .ok (.iload 5, 2) := by decide +kernel
theorem dX7_forget_46 : decode cX7_forget 46 = .ok (.ldc 17, 2) := by decide +kernel
theorem dX7_forget_48 : decode cX7_forget 48 = .ok (.if_icmp .ne 6, 3) := by decide +kernel
theorem dX7_forget_51 : decode cX7_forget 51 = .ok (.goto 67, 3) := by decide +kernel
theorem dX7_forget_54 : decode cX7_forget 54 = .ok (.iload 5, 2) := by decide +kernel
theorem dX7_forget_56 : decode cX7_forget 56 = .ok (.iconst 2, 1) := by decide +kernel
theorem dX7_forget_57 : decode cX7_forget 57 = .ok (.aload_n 1, 1) := by decide +kernel
theorem dX7_forget_58 : decode cX7_forget 58 = .ok (.iload_n 3, 1) := by decide +kernel
theorem dX7_forget_59 : decode cX7_forget 59 = .ok (.iaload, 1) := by decide +kernel
theorem dX7_forget_60 : decode cX7_forget 60 = .ok (.imul, 1) := by decide +kernel
theorem dX7_forget_61 : decode cX7_forget 61 = .ok (.iconst 1, 1) := by decide +kernel
theorem dX7_forget_62 : decode cX7_forget 62 = .ok (.iadd, 1) := by decide +kernel
theorem dX7_forget_63 : decode cX7_forget 63 = .ok (.if_icmp .le 22, 3) := by decide +kernel
theorem dX7_forget_66 : decode cX7_forget 66 = .ok (.aload_n 0, 1) := by decide +kernel
theorem dX7_forget_67 : decode cX7_forget 67 = .ok (.getfield 11, 3) := by decide +kernel
theorem dX7_forget_70 : decode cX7_forget 70 = .ok (.iload_n 3, 1) := by decide +kernel
theorem dX7_forget_71 : decode cX7_forget 71 = .ok (.aload_n 0, 1) := by decide +kernel
theorem dX7_forget_72 : decode cX7_forget 72 = .ok (.getfield 18, 3) := by decide +kernel
theorem dX7_forget_75 : decode cX7_forget 75 = .ok (.imul, 1) := by decide +kernel
theorem dX7_forget_76 : decode cX7_forget 76 = .ok (.iload 4, 2) := by decide +kernel
theorem dX7_forget_78 : decode cX7_forget 78 = .ok (.iadd, 1) := by decide +kernel
theorem dX7_forget_79 : decode cX7_forget 79 = .ok (.ldc 17, 2) := by decide +kernel
theorem dX7_forget_81 : decode cX7_forget 81 = .ok (.iastore, 1) := by decide +kernel
theorem dX7_forget_82 : decode cX7_forget 82 = .ok (.goto 36, 3) := by decide +kernel
theorem dX7_forget_85 : decode cX7_forget 85 = .ok (.iload 5, 2) := by decide +kernel
theorem dX7_forget_87 : decode cX7_forget 87 = .ok (.bipush (-2), 2) := by decide +kernel
theorem dX7_forget_89 : decode cX7_forget 89 = .ok (.aload_n 2, 1) := by decide +kernel
theorem dX7_forget_90 : decode cX7_forget 90 = .ok (.iload 4, 2) := by decide +kernel
theorem dX7_forget_92 : decode cX7_forget 92 = .ok (.iaload, 1) := by decide +kernel
theorem dX7_forget_93 : decode cX7_forget 93 = .ok (.imul, 1) := by decide +kernel
theorem dX7_forget_94 : decode cX7_forget 94 = .ok (.if_icmp .ge 24, 3) := by decide +kernel
theorem dX7_forget_97 : decode cX7_forget 97 = .ok (.aload_n 0, 1) := by decide +kernel
theorem dX7_forget_98 : decode cX7_forget 98 = .ok (.getfield 11, 3) := by decide +kernel
theorem dX7_forget_101 : decode cX7_forget 101 = .ok (.iload_n 3, 1) := by decide +kernel
theorem dX7_forget_102 : decode cX7_forget 102 = .ok (.aload_n 0, 1) := by decide +kernel
theorem dX7_forget_103 : decode cX7_forget 103 = .ok (.getfield 18, 3) := by decide +kernel
theorem dX7_forget_106 : decode cX7_forget 106 = .ok (.imul, 1) := by decide +kernel
theorem dX7_forget_107 : decode cX7_forget 107 = .ok (.iload 4, 2) := by decide +kernel
theorem dX7_forget_109 : decode cX7_forget 109 = .ok (.iadd, 1) := by decide +kernel
theorem dX7_forget_110 : decode cX7_forget 110 = .ok (.bipush (-2), 2) := by decide +kernel
theorem dX7_forget_112 : decode cX7_forget 112 = .ok (.aload_n 2, 1) := by decide +kernel
theorem dX7_forget_113 : decode cX7_forget 113 = .ok (.iload 4, 2) := by decide +kernel
theorem dX7_forget_115 : decode cX7_forget 115 = .ok (.iaload, 1) := by decide +kernel
theorem dX7_forget_116 : decode cX7_forget 116 = .ok (.imul, 1) := by decide +kernel
theorem dX7_forget_117 : decode cX7_forget 117 = .ok (.iastore, 1) := by decide +kernel
theorem dX7_forget_118 : decode cX7_forget 118 = .ok (.iinc 4 1, 3) := by decide +kernel
theorem dX7_forget_121 : decode cX7_forget 121 = .ok (.goto (-108), 3) := by decide +kernel
theorem dX7_forget_124 : decode cX7_forget 124 = .ok (.iinc 3 1, 3) := by decide +kernel
theorem dX7_forget_127 : decode cX7_forget 127 = .ok (.goto (-125), 3) := by decide +kernel
theorem dX7_forget_130 : decode cX7_forget 130 = .ok (.aload_n 0, 1) := by decide +kernel
theorem dX7_forget_131 : decode cX7_forget 131 = .ok (.invokevirtual 28, 3) := by decide +kernel
theorem dX7_forget_134 : decode cX7_forget 134 = .ok (.return_, 1) := by decide +kernel
def vs_X7_forget : List Cond := .code yX7_forget cX7_forget 6 none :: ([.fieldLink RX7 18 "ClockReach$Zone" "size" "I", .methodLink RX7 28 yX7_close, .instanceMethod yX7_close, .selects RX7 yX7_close yX7_close, .initialized RX7, .code yX7_close cX7_close 7 none, .fieldLink RX7 11 "ClockReach$Zone" "cells" "[I", .constant RX7 17 (2147483647)] ++ wsX70)
theorem g_X7_forget_X7_close : GoodIn vs_X7_forget (wsV RX7 28 RX7 yX7_close vs_X7_close) := goodIn_r _ [2, 3, 4, 5, 6, 1, 7, 8, 9, 10] (by decide +kernel) (by decide +kernel)
set_option maxHeartbeats 4000000 in
set_option maxRecDepth 100000 in
theorem c_X7_forget (l : Launch) (dC : Nat → ClassId) (dI : Nat → Nat → Nat) (sz : Nat) (z zc : Nat) (cI : ClassId) (n N : Nat) (f : Nat → Int32) (hn : n * n ≤ N) (hN : N ≤ 25) (ah al : Nat) (cH cL : ClassId) (NH NL : Nat) (fh fl : Nat → Int32) (hh : n ≤ NH) (hlo : n ≤ NL) (hh2 : NH ≤ 100) (hl2 : NL ≤ 100) : Met l yX7_forget vs_X7_forget ({ frames := 1, cells := 0, slots := 0, locals := 26 }) (va_Pc [.ref z, .ref ah, .ref al] (pu_B (dC, dI) [(z, .inr (7, [.ref zc, .int (nI n)])), (zc, .inl (cI, N, .inl f)), (ah, .inl (cH, NH, .inl fh)), (al, .inl (cL, NL, .inl fl))] [(cI, .int), (cH, .int), (cL, .int)] sz)) (va_Qv (fun (_ : Unit) => True) (fun _ t => ∃ (g : Nat → Int32), pu_E (dC, dI) [(z, .inr (7, [.ref zc, .int (nI n)])), (zc, .inl (cI, N, .inl g)), (ah, .inl (cH, NH, .inl fh)), (al, .inl (cL, NL, .inl fl))] [(cI, .int), (cH, .int), (cL, .int)] (va_A ([(z, .inr (7, [.ref zc, .int (nI n)])), (zc, .inl (cI, N, .inl f)), (ah, .inl (cH, NH, .inl fh)), (al, .inl (cL, NL, .inl fl))]) sz) t) (va_A ([(z, .inr (7, [.ref zc, .int (nI n)])), (zc, .inl (cI, N, .inl f)), (ah, .inl (cH, NH, .inl fh)), (al, .inl (cL, NL, .inl fl))]) sz)) 0 0 (va_A ([(z, .inr (7, [.ref zc, .int (nI n)])), (zc, .inl (cI, N, .inl f)), (ah, .inl (cH, NH, .inl fh)), (al, .inl (cL, NL, .inl fl))]) sz) := by
  refine Met.ofW (cc := cX7_forget) (maxL := 6) (ret := none) (by decide) rfl ?_
  intro p e s m args below meth c s₁ B hml hv
  obtain ⟨rfl, rfl, hP, hK, hD0⟩ := hv
  have hx := B.exec
  have hb := B.bytes
  have hr := B.returns
  have hts := atoms_spec (ws := vs_X7_forget) B.pre
  have v_1 := hts (.fieldLink RX7 18 "ClockReach$Zone" "size" "I") (List.mem_of_getElem? (i := 1) rfl)
  have v_7 := hts (.fieldLink RX7 11 "ClockReach$Zone" "cells" "[I") (List.mem_of_getElem? (i := 7) rfl)
  have v_8 := hts (.constant RX7 17 (2147483647)) (List.mem_of_getElem? (i := 8) rfl)
  have hown : s.vm.findClass RX7 = some m.cls := findClass_of_methodNamed B.named
  have hlocks := B.notSynchronized
  have hiX7 : ∀ w ∈ wsX70, w ∈ vs_X7_forget := fun _ h => List.mem_cons_of_mem _ (List.mem_append_right _ h)
  have hD := hD0.self (sz := s.heap.size)
  generalize hAe : va_A ([(z, .inr (7, [.ref zc, .int (nI n)])), (zc, .inl (cI, N, .inl f)), (ah, .inl (cH, NH, .inl fh)), (al, .inl (cL, NL, .inl fl))]) s.heap.size = A at hD ⊢
  have hA : ∀ q : Nat, s.heap.size ≤ q → A q := fun q h => by rw [← hAe]; exact Or.inr h
  have hS : va_S A s.heap s.heap [] := va_S.rf
  have hl := lv_entry ([.ref z, .ref ah, .ref al]) (n := 6) (Nat.le_of_ble_eq_true rfl)
  rw [lg_entry_eq]
  generalize (lg_sl ([.ref z, .ref ah, .ref al]) ++ List.replicate (6 - (lg_sl ([.ref z, .ref ah, .ref al])).length) Slot.unset).toArray = ls at hl ⊢
  have hl : lv_has ls 6 [(0, .ref z), (1, .ref ah), (2, .ref al)] := hl
  have hn5 := zn_5 hn hN
  have hnq := zn_q hn hN
  refine lv_iconst (v := 0) hx hb dX7_forget_0 (by decide) ?_
  refine lv_istore_n (lv' := [(3, .int 0), (0, .ref z), (1, .ref ah), (2, .ref al)]) hx hb dX7_forget_1 rfl hl (by decide) rfl (fun ls hl => ?_)
  refine pu_loop (n) (fun ii H locs ls => ∃ f0 : Nat → Int32, va_P (dC, dI) vwCl [(z, .inr (7, [.ref zc, .int (nI n)])), (zc, .inl (cI, N, .inl f0)), (ah, .inl (cH, NH, .inl fh)), (al, .inl (cL, NL, .inl fl))] H ∧ va_D A [(z, .inr (7, [.ref zc, .int (nI n)])), (zc, .inl (cI, N, .inl f0)), (ah, .inl (cH, NH, .inl fh)), (al, .inl (cL, NL, .inl fl))] ∧ va_S A s.heap H locs ∧ lv_has ls 6 [(0, .ref z), (1, .ref ah), (2, .ref al), (3, .int (nI ii))]) (fun _ => 0) (fun _ => 0) 2 [] ?_ ?_ _ _ _ ⟨_, hP, hD, hS, lv_sub hl [1, 2, 3, 0] rfl⟩
  · rintro H locs ls ⟨f_1, hP, hD, hS, hl⟩
    refine lv_iload_n hx hb dX7_forget_2 rfl (lv_at hl 3 rfl) ?_
    refine lv_aload_n hx hb dX7_forget_3 rfl (lv_at hl 0 rfl) ?_
    refine va_get (D := (dC, dI)) (ci := 7) (v := .int (nI n)) (C := RX7) (T := TX7) (N := 2) hx hb hts hiX7 hown hK hP 0 rfl rfl 1 (by decide) v_1 (fun _ h9 => h9) rfl dX7_forget_4 ?_
    refine lv_icmp_ge (tgt := 130) hx hb dX7_forget_7 (by decide) (fun _ => ?_) (fun z => absurd (nI_le (a := n) (b := n) (by omega) (by omega)) z)
    refine lv_aload_n hx hb dX7_forget_130 rfl (lv_at hl 0 rfl) ?_
    have hFc := va_free (wc := [(z, .inr (7, [.ref zc, .int (nI n)])), (zc, .inl (cI, N, .inl f_1))]) hD hS hA [0, 1] rfl
    refine va_callv (va_runV (As := []) (rest := []) ⟨hx, hb, hml, hown, hts⟩ (c_X7_close l dC dI _ z zc cI n N f_1 hn hN) (cwV 0 hts g_X7_forget_X7_close rfl rfl rfl (by decide +kernel) ⟨Nat.le_of_ble_eq_true rfl, Nat.le_of_ble_eq_true rfl⟩) ⟨pu_bl, va_recv hK hP (ci := 7) (q0 := 0) rfl rfl, pu_in (hP.sub [0, 1] rfl) (hK.sub [0] rfl) (hD.sub [0, 1] (by decide) rfl)⟩ rfl rfl hl.1 rfl (lv_room (Nat.le_of_ble_eq_true rfl)) dX7_forget_131 ⟨Nat.le_of_ble_eq_true rfl, Nat.le_of_ble_eq_true rfl⟩) hS (fun q _ h => hFc q h) hFc (fun u t H1 locs ht hvm hw hB hz1 hk1 hS => ?_)
    obtain ⟨g_6, ⟨hP1, hK1, hD1⟩⟩ := hB
    rw [ht] at hP1
    have hK1 := va_K.moved hvm.symm hK1
    obtain ⟨hP, hD⟩ := va_join (wr := [(ah, .inl (cH, NH, .inl fh)), (al, .inl (cL, NL, .inl fl))]) (w1 := [(z, .inr (7, [.ref zc, .int (nI n)])), (zc, .inl (cI, N, .inl g_6))]) hP hD [0, 1] [2, 3] rfl rfl (by decide) (by decide) hk1 hFc hP1 hD1
    have hK := hK.app hK1
    clear hk1 hz1 ht hvm
    generalize H1 = H at hP hS ⊢
    have hP : va_P (dC, dI) vwCl [(ah, .inl (cH, NH, .inl fh)), (al, .inl (cL, NL, .inl fl)), (z, .inr (7, [.ref zc, .int (nI n)])), (zc, .inl (cI, N, .inl g_6))] H := hP
    have hD : va_D A [(ah, .inl (cH, NH, .inl fh)), (al, .inl (cL, NL, .inl fl)), (z, .inr (7, [.ref zc, .int (nI n)])), (zc, .inl (cI, N, .inl g_6))] := hD
    have hK : va_K (dC, dI) vwCl [(cI, .int), (cH, .int), (cL, .int), (cI, .int)] s := hK
    have hP9 := hP.sub (ws' := [(z, .inr (7, [.ref zc, .int (nI n)])), (zc, .inl (cI, N, .inl g_6)), (ah, .inl (cH, NH, .inl fh)), (al, .inl (cL, NL, .inl fl))]) [2, 3, 0, 1] rfl
    have hD9 := hD.sub (ws' := [(z, .inr (7, [.ref zc, .int (nI n)])), (zc, .inl (cI, N, .inl g_6)), (ah, .inl (cH, NH, .inl fh)), (al, .inl (cL, NL, .inl fl))]) [2, 3, 0, 1] (by decide) rfl
    have hK9 := hK.sub (tys' := [(cI, .int), (cH, .int), (cL, .int)]) [0, 1, 2] rfl
    exact W.vret hx hb hr (fun t ht hW => ⟨⟨(), rfl, trivial, ⟨g_6, by rw [ht]; exact hP9, va_K.moved hW.alike hK9, hD9⟩⟩, hS.F ht⟩) hS.2.2 dX7_forget_134
  · rintro i_2 h_3 ih_4 H locs ls ⟨f_1, hP, hD, hS, hl⟩
    refine lv_iload_n hx hb dX7_forget_2 rfl (lv_at hl 3 rfl) ?_
    refine lv_aload_n hx hb dX7_forget_3 rfl (lv_at hl 0 rfl) ?_
    refine va_get (D := (dC, dI)) (ci := 7) (v := .int (nI n)) (C := RX7) (T := TX7) (N := 2) hx hb hts hiX7 hown hK hP 0 rfl rfl 1 (by decide) v_1 (fun _ h9 => h9) rfl dX7_forget_4 ?_
    refine lv_icmp_ge (tgt := 130) hx hb dX7_forget_7 (by decide) (fun z => absurd z (nI_ge (a := i_2) (b := n) (by omega) (by omega))) (fun _ => ?_)
    refine lv_iconst (v := 0) hx hb dX7_forget_10 (by decide) ?_
    refine lv_istore (lv' := [(4, .int 0), (0, .ref z), (1, .ref ah), (2, .ref al), (3, .int (nI i_2))]) hx hb dX7_forget_11 hl (by decide) rfl (fun ls hl => ?_)
    refine pu_loop (n) (fun ii H locs ls => ∃ f0 : Nat → Int32, va_P (dC, dI) vwCl [(z, .inr (7, [.ref zc, .int (nI n)])), (zc, .inl (cI, N, .inl f0)), (ah, .inl (cH, NH, .inl fh)), (al, .inl (cL, NL, .inl fl))] H ∧ va_D A [(z, .inr (7, [.ref zc, .int (nI n)])), (zc, .inl (cI, N, .inl f0)), (ah, .inl (cH, NH, .inl fh)), (al, .inl (cL, NL, .inl fl))] ∧ va_S A s.heap H locs ∧ lv_has ls 6 [(0, .ref z), (1, .ref ah), (2, .ref al), (3, .int (nI i_2)), (4, .int (nI ii))]) (fun _ => 0) (fun _ => 0) 13 [] ?_ ?_ _ _ _ ⟨_, hP, hD, hS, lv_sub hl [1, 2, 3, 4, 0] rfl⟩
    · rintro H locs ls ⟨f_7, hP, hD, hS, hl⟩
      refine lv_iload hx hb dX7_forget_13 (lv_at hl 4 rfl) ?_
      refine lv_aload_n hx hb dX7_forget_15 rfl (lv_at hl 0 rfl) ?_
      refine va_get (D := (dC, dI)) (ci := 7) (v := .int (nI n)) (C := RX7) (T := TX7) (N := 2) hx hb hts hiX7 hown hK hP 0 rfl rfl 1 (by decide) v_1 (fun _ h9 => h9) rfl dX7_forget_16 ?_
      refine lv_icmp_ge (tgt := 124) hx hb dX7_forget_19 (by decide) (fun _ => ?_) (fun z => absurd (nI_le (a := n) (b := n) (by omega) (by omega)) z)
      refine lv_iinc (v := (nI (i_2 + 1))) (lv' := [(3, .int (nI (i_2 + 1))), (0, .ref z), (1, .ref ah), (2, .ref al), (4, .int (nI n))]) hx hb dX7_forget_124 hl (k := 3) rfl (nI_1 _) (by decide) rfl (fun ls hl => ?_)
      refine lv_goto (tgt := 2) hx hb dX7_forget_127 (by decide) ?_
      exact ih_4 _ _ _ ⟨_, hP, hD, hS, lv_sub hl [1, 2, 3, 0] rfl⟩
    · rintro i_8 h_9 ih_10 H locs ls ⟨f_7, hP, hD, hS, hl⟩
      refine lv_iload hx hb dX7_forget_13 (lv_at hl 4 rfl) ?_
      refine lv_aload_n hx hb dX7_forget_15 rfl (lv_at hl 0 rfl) ?_
      refine va_get (D := (dC, dI)) (ci := 7) (v := .int (nI n)) (C := RX7) (T := TX7) (N := 2) hx hb hts hiX7 hown hK hP 0 rfl rfl 1 (by decide) v_1 (fun _ h9 => h9) rfl dX7_forget_16 ?_
      refine lv_icmp_ge (tgt := 124) hx hb dX7_forget_19 (by decide) (fun z => absurd z (nI_ge (a := i_8) (b := n) (by omega) (by omega))) (fun _ => ?_)
      refine lv_aload_n hx hb dX7_forget_22 rfl (lv_at hl 0 rfl) ?_
      refine va_get (D := (dC, dI)) (ci := 7) (v := .ref zc) (C := RX7) (T := TX7) (N := 2) hx hb hts hiX7 hown hK hP 0 rfl rfl 0 (by decide) v_7 (fun _ h9 => h9) rfl dX7_forget_23 ?_
      refine lv_iload_n hx hb dX7_forget_26 rfl (lv_at hl 3 rfl) ?_
      refine lv_aload_n hx hb dX7_forget_27 rfl (lv_at hl 0 rfl) ?_
      refine va_get (D := (dC, dI)) (ci := 7) (v := .int (nI n)) (C := RX7) (T := TX7) (N := 2) hx hb hts hiX7 hown hK hP 0 rfl rfl 1 (by decide) v_1 (fun _ h9 => h9) rfl dX7_forget_28 ?_
      refine lv_imul hx hb dX7_forget_31 ?_
      refine lv_topi (fun y_11 ey_11 => ?_)
      obtain rfl : y_11 = (nI (i_2 * n)) := ey_11.trans (pk_mul i_2 n)
      refine lv_iload hx hb dX7_forget_32 (lv_at hl 4 rfl) ?_
      refine lv_iadd hx hb dX7_forget_34 ?_
      refine lv_topi (fun y_12 ey_12 => ?_)
      obtain rfl : y_12 = (nI ((i_2 * n) + i_8)) := ey_12.trans (nI_add (i_2 * n) i_8)
      refine va_iald hx hb hK hP 1 0 rfl rfl (vp_in_nI (n := ((i_2 * n) + i_8)) (by first | omega | exact ix_lt (by omega) (by omega) hn | exact ix_lt0 (by omega) hn | exact ix_ltq (by omega) hn | exact ix_lt1 (by omega) hn) (by omega)) dX7_forget_35 ?_
      refine lv_istore (lv' := [(5, .int (f_7 ((nI ((i_2 * n) + i_8))).toNatClampNeg)), (0, .ref z), (1, .ref ah), (2, .ref al), (3, .int (nI i_2)), (4, .int (nI i_8))]) hx hb dX7_forget_36 hl (by decide) rfl (fun ls hl => ?_)
      refine lv_iload_n hx hb dX7_forget_38 rfl (lv_at hl 4 rfl) ?_
      refine lv_iload hx hb dX7_forget_39 (lv_at hl 5 rfl) ?_
      refine lv_icmp_eq (tgt := 118) hx hb dX7_forget_41 (by decide) (fun c_13 => ?_) (fun c_13 => ?_)
      · have c_13 : i_2 = i_8 := (nI_eq (a := i_2) (b := i_8) (by omega) (by omega)).mp c_13
        refine lv_iinc (v := (nI (i_8 + 1))) (lv' := [(4, .int (nI (i_8 + 1))), (5, .int (f_7 ((nI ((i_2 * n) + i_8))).toNatClampNeg)), (0, .ref z), (1, .ref ah), (2, .ref al), (3, .int (nI i_2))]) hx hb dX7_forget_118 hl (k := 5) rfl (nI_1 _) (by decide) rfl (fun ls hl => ?_)
        refine lv_goto (tgt := 13) hx hb dX7_forget_121 (by decide) ?_
        exact ih_10 _ _ _ ⟨_, hP, hD, hS, lv_sub hl [2, 3, 4, 5, 0] rfl⟩
      · have c_13 : ¬ i_2 = i_8 := fun z => c_13 ((nI_eq (a := i_2) (b := i_8) (by omega) (by omega)).mpr z)
        refine lv_iload hx hb dX7_forget_44 (lv_at hl 0 rfl) ?_
        refine lv_ldc hx hb hown v_8 dX7_forget_46 ?_
        refine lv_icmp_ne (tgt := 54) hx hb dX7_forget_48 (by decide) (fun c_14 => ?_) (fun c_14 => ?_)
        · refine lv_iload hx hb dX7_forget_54 (lv_at hl 0 rfl) ?_
          refine lv_iconst (v := 2) hx hb dX7_forget_56 (by decide) ?_
          refine lv_aload_n hx hb dX7_forget_57 rfl (lv_at hl 2 rfl) ?_
          refine lv_iload_n hx hb dX7_forget_58 rfl (lv_at hl 4 rfl) ?_
          refine va_iald hx hb hK hP 2 1 rfl rfl (vp_in_nI (n := i_2) (by first | omega | exact ix_lt (by omega) (by omega) hn | exact ix_lt0 (by omega) hn | exact ix_ltq (by omega) hn | exact ix_lt1 (by omega) hn) (by omega)) dX7_forget_59 ?_
          refine lv_imul hx hb dX7_forget_60 ?_
          refine lv_iconst (v := 1) hx hb dX7_forget_61 (by decide) ?_
          refine lv_iadd hx hb dX7_forget_62 ?_
          refine lv_icmp_le (tgt := 85) hx hb dX7_forget_63 (by decide) (fun c_15 => ?_) (fun c_15 => ?_)
          · refine lv_iload hx hb dX7_forget_85 (lv_at hl 0 rfl) ?_
            refine lv_bipush (v := (-2)) hx hb dX7_forget_87 (by decide) ?_
            refine lv_aload_n hx hb dX7_forget_89 rfl (lv_at hl 3 rfl) ?_
            refine lv_iload hx hb dX7_forget_90 (lv_at hl 5 rfl) ?_
            refine va_iald hx hb hK hP 3 2 rfl rfl (vp_in_nI (n := i_8) (by first | omega | exact ix_lt (by omega) (by omega) hn | exact ix_lt0 (by omega) hn | exact ix_ltq (by omega) hn | exact ix_lt1 (by omega) hn) (by omega)) dX7_forget_92 ?_
            refine lv_imul hx hb dX7_forget_93 ?_
            refine lv_icmp_ge (tgt := 118) hx hb dX7_forget_94 (by decide) (fun c_16 => ?_) (fun c_16 => ?_)
            · refine lv_iinc (v := (nI (i_8 + 1))) (lv' := [(4, .int (nI (i_8 + 1))), (5, .int (f_7 ((nI ((i_2 * n) + i_8))).toNatClampNeg)), (0, .ref z), (1, .ref ah), (2, .ref al), (3, .int (nI i_2))]) hx hb dX7_forget_118 hl (k := 5) rfl (nI_1 _) (by decide) rfl (fun ls hl => ?_)
              refine lv_goto (tgt := 13) hx hb dX7_forget_121 (by decide) ?_
              exact ih_10 _ _ _ ⟨_, hP, hD, hS, lv_sub hl [2, 3, 4, 5, 0] rfl⟩
            · refine lv_aload_n hx hb dX7_forget_97 rfl (lv_at hl 1 rfl) ?_
              refine va_get (D := (dC, dI)) (ci := 7) (v := .ref zc) (C := RX7) (T := TX7) (N := 2) hx hb hts hiX7 hown hK hP 0 rfl rfl 0 (by decide) v_7 (fun _ h9 => h9) rfl dX7_forget_98 ?_
              refine lv_iload_n hx hb dX7_forget_101 rfl (lv_at hl 4 rfl) ?_
              refine lv_aload_n hx hb dX7_forget_102 rfl (lv_at hl 1 rfl) ?_
              refine va_get (D := (dC, dI)) (ci := 7) (v := .int (nI n)) (C := RX7) (T := TX7) (N := 2) hx hb hts hiX7 hown hK hP 0 rfl rfl 1 (by decide) v_1 (fun _ h9 => h9) rfl dX7_forget_103 ?_
              refine lv_imul hx hb dX7_forget_106 ?_
              refine lv_topi (fun y_17 ey_17 => ?_)
              obtain rfl : y_17 = (nI (i_2 * n)) := ey_17.trans (pk_mul i_2 n)
              refine lv_iload hx hb dX7_forget_107 (lv_at hl 5 rfl) ?_
              refine lv_iadd hx hb dX7_forget_109 ?_
              refine lv_topi (fun y_18 ey_18 => ?_)
              obtain rfl : y_18 = (nI ((i_2 * n) + i_8)) := ey_18.trans (nI_add (i_2 * n) i_8)
              refine lv_bipush (v := (-2)) hx hb dX7_forget_110 (by decide) ?_
              refine lv_aload_n hx hb dX7_forget_112 rfl (lv_at hl 3 rfl) ?_
              refine lv_iload hx hb dX7_forget_113 (lv_at hl 5 rfl) ?_
              refine va_iald hx hb hK hP 3 2 rfl rfl (vp_in_nI (n := i_8) (by first | omega | exact ix_lt (by omega) (by omega) hn | exact ix_lt0 (by omega) hn | exact ix_ltq (by omega) hn | exact ix_lt1 (by omega) hn) (by omega)) dX7_forget_115 ?_
              refine lv_imul hx hb dX7_forget_116 ?_
              refine va_iast hx hb hK hP hD hS 1 0 rfl rfl (vp_in_nI (n := ((i_2 * n) + i_8)) (by first | omega | exact ix_lt (by omega) (by omega) hn | exact ix_lt0 (by omega) hn | exact ix_ltq (by omega) hn | exact ix_lt1 (by omega) hn) (by omega)) dX7_forget_117 (fun H locs hP hD hS => ?_)
              have hP : va_P (dC, dI) vwCl [(z, .inr (7, [.ref zc, .int (nI n)])), (zc, .inl (cI, N, .inl (upd f_7 ((nI ((i_2 * n) + i_8)) : Int32).toNatClampNeg ((-2) * (fl ((nI i_8)).toNatClampNeg))))), (ah, .inl (cH, NH, .inl fh)), (al, .inl (cL, NL, .inl fl))] H := hP
              have hD : va_D A [(z, .inr (7, [.ref zc, .int (nI n)])), (zc, .inl (cI, N, .inl (upd f_7 ((nI ((i_2 * n) + i_8)) : Int32).toNatClampNeg ((-2) * (fl ((nI i_8)).toNatClampNeg))))), (ah, .inl (cH, NH, .inl fh)), (al, .inl (cL, NL, .inl fl))] := hD
              refine lv_iinc (v := (nI (i_8 + 1))) (lv' := [(4, .int (nI (i_8 + 1))), (5, .int (f_7 ((nI ((i_2 * n) + i_8))).toNatClampNeg)), (0, .ref z), (1, .ref ah), (2, .ref al), (3, .int (nI i_2))]) hx hb dX7_forget_118 hl (k := 5) rfl (nI_1 _) (by decide) rfl (fun ls hl => ?_)
              refine lv_goto (tgt := 13) hx hb dX7_forget_121 (by decide) ?_
              exact ih_10 _ _ _ ⟨_, hP, hD, hS, lv_sub hl [2, 3, 4, 5, 0] rfl⟩
          · refine lv_aload_n hx hb dX7_forget_66 rfl (lv_at hl 1 rfl) ?_
            refine va_get (D := (dC, dI)) (ci := 7) (v := .ref zc) (C := RX7) (T := TX7) (N := 2) hx hb hts hiX7 hown hK hP 0 rfl rfl 0 (by decide) v_7 (fun _ h9 => h9) rfl dX7_forget_67 ?_
            refine lv_iload_n hx hb dX7_forget_70 rfl (lv_at hl 4 rfl) ?_
            refine lv_aload_n hx hb dX7_forget_71 rfl (lv_at hl 1 rfl) ?_
            refine va_get (D := (dC, dI)) (ci := 7) (v := .int (nI n)) (C := RX7) (T := TX7) (N := 2) hx hb hts hiX7 hown hK hP 0 rfl rfl 1 (by decide) v_1 (fun _ h9 => h9) rfl dX7_forget_72 ?_
            refine lv_imul hx hb dX7_forget_75 ?_
            refine lv_topi (fun y_19 ey_19 => ?_)
            obtain rfl : y_19 = (nI (i_2 * n)) := ey_19.trans (pk_mul i_2 n)
            refine lv_iload hx hb dX7_forget_76 (lv_at hl 5 rfl) ?_
            refine lv_iadd hx hb dX7_forget_78 ?_
            refine lv_topi (fun y_20 ey_20 => ?_)
            obtain rfl : y_20 = (nI ((i_2 * n) + i_8)) := ey_20.trans (nI_add (i_2 * n) i_8)
            refine lv_ldc hx hb hown v_8 dX7_forget_79 ?_
            refine va_iast hx hb hK hP hD hS 1 0 rfl rfl (vp_in_nI (n := ((i_2 * n) + i_8)) (by first | omega | exact ix_lt (by omega) (by omega) hn | exact ix_lt0 (by omega) hn | exact ix_ltq (by omega) hn | exact ix_lt1 (by omega) hn) (by omega)) dX7_forget_81 (fun H locs hP hD hS => ?_)
            have hP : va_P (dC, dI) vwCl [(z, .inr (7, [.ref zc, .int (nI n)])), (zc, .inl (cI, N, .inl (upd f_7 ((nI ((i_2 * n) + i_8)) : Int32).toNatClampNeg 2147483647))), (ah, .inl (cH, NH, .inl fh)), (al, .inl (cL, NL, .inl fl))] H := hP
            have hD : va_D A [(z, .inr (7, [.ref zc, .int (nI n)])), (zc, .inl (cI, N, .inl (upd f_7 ((nI ((i_2 * n) + i_8)) : Int32).toNatClampNeg 2147483647))), (ah, .inl (cH, NH, .inl fh)), (al, .inl (cL, NL, .inl fl))] := hD
            refine lv_goto (tgt := 118) hx hb dX7_forget_82 (by decide) ?_
            refine lv_iinc (v := (nI (i_8 + 1))) (lv' := [(4, .int (nI (i_8 + 1))), (5, .int (f_7 ((nI ((i_2 * n) + i_8))).toNatClampNeg)), (0, .ref z), (1, .ref ah), (2, .ref al), (3, .int (nI i_2))]) hx hb dX7_forget_118 hl (k := 5) rfl (nI_1 _) (by decide) rfl (fun ls hl => ?_)
            refine lv_goto (tgt := 13) hx hb dX7_forget_121 (by decide) ?_
            exact ih_10 _ _ _ ⟨_, hP, hD, hS, lv_sub hl [2, 3, 4, 5, 0] rfl⟩
        · refine lv_goto (tgt := 118) hx hb dX7_forget_51 (by decide) ?_
          refine lv_iinc (v := (nI (i_8 + 1))) (lv' := [(4, .int (nI (i_8 + 1))), (5, .int (f_7 ((nI ((i_2 * n) + i_8))).toNatClampNeg)), (0, .ref z), (1, .ref ah), (2, .ref al), (3, .int (nI i_2))]) hx hb dX7_forget_118 hl (k := 5) rfl (nI_1 _) (by decide) rfl (fun ls hl => ?_)
          refine lv_goto (tgt := 13) hx hb dX7_forget_121 (by decide) ?_
          exact ih_10 _ _ _ ⟨_, hP, hD, hS, lv_sub hl [2, 3, 4, 5, 0] rfl⟩
theorem dX7_holdsAll_0 : decode cX7_holdsAll 0 = .ok (.iconst 0, 1) := by decide +kernel
theorem dX7_holdsAll_1 : decode cX7_holdsAll 1 = .ok (.istore_n 2, 1) := by decide +kernel
theorem dX7_holdsAll_2 : decode cX7_holdsAll 2 = .ok (.iload_n 2, 1) := by decide +kernel
theorem dX7_holdsAll_3 : decode cX7_holdsAll 3 = .ok (.aload_n 0, 1) := by decide +kernel
theorem dX7_holdsAll_4 : decode cX7_holdsAll 4 = .ok (.getfield 18, 3) := by decide +kernel
theorem dX7_holdsAll_7 : decode cX7_holdsAll 7 = .ok (.aload_n 0, 1) := by decide +kernel
theorem dX7_holdsAll_8 : decode cX7_holdsAll 8 = .ok (.getfield 18, 3) := by decide +kernel
theorem dX7_holdsAll_11 : decode cX7_holdsAll 11 = .ok (.imul, 1) := by decide +kernel
theorem dX7_holdsAll_12 : decode cX7_holdsAll 12 = .ok (.if_icmp .ge 26, 3) := by decide +kernel
theorem dX7_holdsAll_15 : decode cX7_holdsAll 15 = .ok (.aload_n 1, 1) := by decide +kernel
theorem dX7_holdsAll_16 : decode cX7_holdsAll 16 = .ok (.getfield 11, 3) := by decide +kernel
theorem dX7_holdsAll_19 : decode cX7_holdsAll 19 = .ok (.iload_n 2, 1) := by decide +kernel
theorem dX7_holdsAll_20 : decode cX7_holdsAll 20 = .ok (.iaload, 1) := by decide +kernel
theorem dX7_holdsAll_21 : decode cX7_holdsAll 21 = .ok (.aload_n 0, 1) := by decide +kernel
theorem dX7_holdsAll_22 : decode cX7_holdsAll 22 = .ok (.getfield 11, 3) := by decide +kernel
theorem dX7_holdsAll_25 : decode cX7_holdsAll 25 = .ok (.iload_n 2, 1) := by decide +kernel
theorem dX7_holdsAll_26 : decode cX7_holdsAll 26 = .ok (.iaload, 1) := by decide +kernel
theorem dX7_holdsAll_27 : decode cX7_holdsAll 27 = .ok (.if_icmp .le 5, 3) := by decide +kernel
theorem dX7_holdsAll_30 : decode cX7_holdsAll 30 = .ok (.iconst 0, 1) := by decide +kernel
theorem dX7_holdsAll_31 : decode cX7_holdsAll 31 = .ok (.ireturn, 1) := by decide +kernel
theorem dX7_holdsAll_32 : decode cX7_holdsAll 32 = .ok (.iinc 2 1, 3) := by decide +kernel
theorem dX7_holdsAll_35 : decode cX7_holdsAll 35 = .ok (.goto (-33), 3) := by decide +kernel
theorem dX7_holdsAll_38 : decode cX7_holdsAll 38 = .ok (.iconst 1, 1) := by decide +kernel
theorem dX7_holdsAll_39 : decode cX7_holdsAll 39 = .ok (.ireturn, 1) := by decide +kernel
def vs_X7_holdsAll : List Cond := .code yX7_holdsAll cX7_holdsAll 3 (some .boolean) :: ([.fieldLink RX7 18 "ClockReach$Zone" "size" "I", .fieldLink RX7 11 "ClockReach$Zone" "cells" "[I"] ++ wsX70)
set_option maxHeartbeats 4000000 in
set_option maxRecDepth 100000 in
theorem c_X7_holdsAll (l : Launch) (dC : Nat → ClassId) (dI : Nat → Nat → Nat) (sz : Nat) (z zc : Nat) (cI : ClassId) (n N : Nat) (f : Nat → Int32) (hn : n * n ≤ N) (hN : N ≤ 25) (zo zd : Nat) (cJ : ClassId) (M : Nat) (fu : Nat → Int32) (x0 : Int32) (hm : n * n ≤ M) (hM : M ≤ 25) : Met l yX7_holdsAll vs_X7_holdsAll ({ frames := 0, cells := 0, slots := 0, locals := 0 }) (va_Pc [.ref z, .ref zo] (pu_B (dC, dI) [(z, .inr (7, [.ref zc, .int (nI n)])), (zc, .inl (cI, N, .inl f)), (zo, .inr (7, [.ref zd, .int x0])), (zd, .inl (cJ, M, .inl fu))] [(cI, .int), (cJ, .int)] sz)) (va_Qi (fun (r : Int32) (_ : Unit) => True) (fun _ _ => True) (va_A [] sz)) 0 0 (va_A [] sz) := by
  refine Met.ofW (cc := cX7_holdsAll) (maxL := 3) (ret := (some .boolean)) (by decide) rfl ?_
  intro p e s m args below meth c s₁ B hml hv
  obtain ⟨rfl, rfl, hP, hK, hD0⟩ := hv
  have hx := B.exec
  have hb := B.bytes
  have hr := B.returns
  have hts := atoms_spec (ws := vs_X7_holdsAll) B.pre
  have v_1 := hts (.fieldLink RX7 18 "ClockReach$Zone" "size" "I") (List.mem_of_getElem? (i := 1) rfl)
  have v_2 := hts (.fieldLink RX7 11 "ClockReach$Zone" "cells" "[I") (List.mem_of_getElem? (i := 2) rfl)
  have hown : s.vm.findClass RX7 = some m.cls := findClass_of_methodNamed B.named
  have hlocks := B.notSynchronized
  have hiX7 : ∀ w ∈ wsX70, w ∈ vs_X7_holdsAll := fun _ h => List.mem_cons_of_mem _ (List.mem_append_right _ h)
  have hD := hD0
  have hA : ∀ q : Nat, s.heap.size ≤ q → va_A [] s.heap.size q := fun _ h => Or.inr h
  have hS : va_S (va_A [] s.heap.size) s.heap s.heap [] := va_S.rf
  have hl := lv_entry ([.ref z, .ref zo]) (n := 3) (Nat.le_of_ble_eq_true rfl)
  rw [lg_entry_eq]
  generalize (lg_sl ([.ref z, .ref zo]) ++ List.replicate (3 - (lg_sl ([.ref z, .ref zo])).length) Slot.unset).toArray = ls at hl ⊢
  have hl : lv_has ls 3 [(0, .ref z), (1, .ref zo)] := hl
  have hn5 := zn_5 hn hN
  have hnq := zn_q hn hN
  refine lv_iconst (v := 0) hx hb dX7_holdsAll_0 (by decide) ?_
  refine lv_istore_n (lv' := [(2, .int 0), (0, .ref z), (1, .ref zo)]) hx hb dX7_holdsAll_1 rfl hl (by decide) rfl (fun ls hl => ?_)
  refine pu_loop (n * n) (fun ii H locs ls => va_P (dC, dI) vwCl [(z, .inr (7, [.ref zc, .int (nI n)])), (zc, .inl (cI, N, .inl f)), (zo, .inr (7, [.ref zd, .int x0])), (zd, .inl (cJ, M, .inl fu))] H ∧ va_D (fun _ => True) [(z, .inr (7, [.ref zc, .int (nI n)])), (zc, .inl (cI, N, .inl f)), (zo, .inr (7, [.ref zd, .int x0])), (zd, .inl (cJ, M, .inl fu))] ∧ va_S (va_A [] s.heap.size) s.heap H locs ∧ lv_has ls 3 [(0, .ref z), (1, .ref zo), (2, .int (nI ii))]) (fun _ => 0) (fun _ => 0) 2 [] ?_ ?_ _ _ _ ⟨hP, hD, hS, lv_sub hl [1, 2, 0] rfl⟩
  · rintro H locs ls ⟨hP, hD, hS, hl⟩
    refine lv_iload_n hx hb dX7_holdsAll_2 rfl (lv_at hl 2 rfl) ?_
    refine lv_aload_n hx hb dX7_holdsAll_3 rfl (lv_at hl 0 rfl) ?_
    refine va_get (D := (dC, dI)) (ci := 7) (v := .int (nI n)) (C := RX7) (T := TX7) (N := 2) hx hb hts hiX7 hown hK hP 0 rfl rfl 1 (by decide) v_1 (fun _ h9 => h9) rfl dX7_holdsAll_4 ?_
    refine lv_aload_n hx hb dX7_holdsAll_7 rfl (lv_at hl 0 rfl) ?_
    refine va_get (D := (dC, dI)) (ci := 7) (v := .int (nI n)) (C := RX7) (T := TX7) (N := 2) hx hb hts hiX7 hown hK hP 0 rfl rfl 1 (by decide) v_1 (fun _ h9 => h9) rfl dX7_holdsAll_8 ?_
    refine lv_imul hx hb dX7_holdsAll_11 ?_
    refine lv_topi (fun y_4 ey_4 => ?_)
    obtain rfl : y_4 = (nI (n * n)) := ey_4.trans (pk_mul n n)
    refine lv_icmp_ge (tgt := 38) hx hb dX7_holdsAll_12 (by decide) (fun _ => ?_) (fun z => absurd (nI_le (a := (n * n)) (b := (n * n)) (by omega) (by omega)) z)
    refine lv_iconst (v := 1) hx hb dX7_holdsAll_38 (by decide) ?_
    exact W.zret (v := 1) (ty := .boolean) hx hb hr rfl (fun t ht hW => ⟨⟨1, (), rfl, trivial, trivial⟩, hS.F ht⟩) hS.2.2 dX7_holdsAll_39
  · rintro i_1 h_2 ih_3 H locs ls ⟨hP, hD, hS, hl⟩
    refine lv_iload_n hx hb dX7_holdsAll_2 rfl (lv_at hl 2 rfl) ?_
    refine lv_aload_n hx hb dX7_holdsAll_3 rfl (lv_at hl 0 rfl) ?_
    refine va_get (D := (dC, dI)) (ci := 7) (v := .int (nI n)) (C := RX7) (T := TX7) (N := 2) hx hb hts hiX7 hown hK hP 0 rfl rfl 1 (by decide) v_1 (fun _ h9 => h9) rfl dX7_holdsAll_4 ?_
    refine lv_aload_n hx hb dX7_holdsAll_7 rfl (lv_at hl 0 rfl) ?_
    refine va_get (D := (dC, dI)) (ci := 7) (v := .int (nI n)) (C := RX7) (T := TX7) (N := 2) hx hb hts hiX7 hown hK hP 0 rfl rfl 1 (by decide) v_1 (fun _ h9 => h9) rfl dX7_holdsAll_8 ?_
    refine lv_imul hx hb dX7_holdsAll_11 ?_
    refine lv_topi (fun y_5 ey_5 => ?_)
    obtain rfl : y_5 = (nI (n * n)) := ey_5.trans (pk_mul n n)
    refine lv_icmp_ge (tgt := 38) hx hb dX7_holdsAll_12 (by decide) (fun z => absurd z (nI_ge (a := i_1) (b := (n * n)) (by omega) (by omega))) (fun _ => ?_)
    refine lv_aload_n hx hb dX7_holdsAll_15 rfl (lv_at hl 1 rfl) ?_
    refine va_get (D := (dC, dI)) (ci := 7) (v := .ref zd) (C := RX7) (T := TX7) (N := 2) hx hb hts hiX7 hown hK hP 2 rfl rfl 0 (by decide) v_2 (fun _ h9 => h9) rfl dX7_holdsAll_16 ?_
    refine lv_iload_n hx hb dX7_holdsAll_19 rfl (lv_at hl 2 rfl) ?_
    refine va_iald hx hb hK hP 3 1 rfl rfl (vp_in_nI (n := i_1) (by first | omega | exact ix_lt (by omega) (by omega) hn | exact ix_lt0 (by omega) hn | exact ix_ltq (by omega) hn | exact ix_lt1 (by omega) hn) (by omega)) dX7_holdsAll_20 ?_
    refine lv_aload_n hx hb dX7_holdsAll_21 rfl (lv_at hl 0 rfl) ?_
    refine va_get (D := (dC, dI)) (ci := 7) (v := .ref zc) (C := RX7) (T := TX7) (N := 2) hx hb hts hiX7 hown hK hP 0 rfl rfl 0 (by decide) v_2 (fun _ h9 => h9) rfl dX7_holdsAll_22 ?_
    refine lv_iload_n hx hb dX7_holdsAll_25 rfl (lv_at hl 2 rfl) ?_
    refine va_iald hx hb hK hP 1 0 rfl rfl (vp_in_nI (n := i_1) (by first | omega | exact ix_lt (by omega) (by omega) hn | exact ix_lt0 (by omega) hn | exact ix_ltq (by omega) hn | exact ix_lt1 (by omega) hn) (by omega)) dX7_holdsAll_26 ?_
    refine lv_icmp_le (tgt := 32) hx hb dX7_holdsAll_27 (by decide) (fun c_6 => ?_) (fun c_6 => ?_)
    · refine lv_iinc (v := (nI (i_1 + 1))) (lv' := [(2, .int (nI (i_1 + 1))), (0, .ref z), (1, .ref zo)]) hx hb dX7_holdsAll_32 hl (k := 2) rfl (nI_1 _) (by decide) rfl (fun ls hl => ?_)
      refine lv_goto (tgt := 2) hx hb dX7_holdsAll_35 (by decide) ?_
      exact ih_3 _ _ _ ⟨hP, hD, hS, lv_sub hl [1, 2, 0] rfl⟩
    · refine lv_iconst (v := 0) hx hb dX7_holdsAll_30 (by decide) ?_
      exact W.zret (v := 0) (ty := .boolean) hx hb hr rfl (fun t ht hW => ⟨⟨0, (), rfl, trivial, trivial⟩, hS.F ht⟩) hS.2.2 dX7_holdsAll_31
def vs_X7_holdsAll_same : List Cond := .code yX7_holdsAll cX7_holdsAll 3 (some .boolean) :: ([.fieldLink RX7 18 "ClockReach$Zone" "size" "I", .fieldLink RX7 11 "ClockReach$Zone" "cells" "[I"] ++ wsX70)
set_option maxHeartbeats 4000000 in
set_option maxRecDepth 100000 in
theorem c_X7_holdsAll_same (l : Launch) (dC : Nat → ClassId) (dI : Nat → Nat → Nat) (sz : Nat) (z zc : Nat) (cI : ClassId) (n N : Nat) (f : Nat → Int32) (hn : n * n ≤ N) (hN : N ≤ 25) : Met l yX7_holdsAll vs_X7_holdsAll_same ({ frames := 0, cells := 0, slots := 0, locals := 0 }) (va_Pc [.ref z, .ref z] (pu_B (dC, dI) [(z, .inr (7, [.ref zc, .int (nI n)])), (zc, .inl (cI, N, .inl f))] [(cI, .int)] sz)) (va_Qi (fun (r : Int32) (_ : Unit) => True) (fun _ _ => True) (va_A [] sz)) 0 0 (va_A [] sz) := by
  refine Met.ofW (cc := cX7_holdsAll) (maxL := 3) (ret := (some .boolean)) (by decide) rfl ?_
  intro p e s m args below meth c s₁ B hml hv
  obtain ⟨rfl, rfl, hP, hK, hD0⟩ := hv
  have hx := B.exec
  have hb := B.bytes
  have hr := B.returns
  have hts := atoms_spec (ws := vs_X7_holdsAll_same) B.pre
  have v_1 := hts (.fieldLink RX7 18 "ClockReach$Zone" "size" "I") (List.mem_of_getElem? (i := 1) rfl)
  have v_2 := hts (.fieldLink RX7 11 "ClockReach$Zone" "cells" "[I") (List.mem_of_getElem? (i := 2) rfl)
  have hown : s.vm.findClass RX7 = some m.cls := findClass_of_methodNamed B.named
  have hlocks := B.notSynchronized
  have hiX7 : ∀ w ∈ wsX70, w ∈ vs_X7_holdsAll_same := fun _ h => List.mem_cons_of_mem _ (List.mem_append_right _ h)
  have hD := hD0
  have hA : ∀ q : Nat, s.heap.size ≤ q → va_A [] s.heap.size q := fun _ h => Or.inr h
  have hS : va_S (va_A [] s.heap.size) s.heap s.heap [] := va_S.rf
  have hl := lv_entry ([.ref z, .ref z]) (n := 3) (Nat.le_of_ble_eq_true rfl)
  rw [lg_entry_eq]
  generalize (lg_sl ([.ref z, .ref z]) ++ List.replicate (3 - (lg_sl ([.ref z, .ref z])).length) Slot.unset).toArray = ls at hl ⊢
  have hl : lv_has ls 3 [(0, .ref z), (1, .ref z)] := hl
  have hn5 := zn_5 hn hN
  have hnq := zn_q hn hN
  refine lv_iconst (v := 0) hx hb dX7_holdsAll_0 (by decide) ?_
  refine lv_istore_n (lv' := [(2, .int 0), (0, .ref z), (1, .ref z)]) hx hb dX7_holdsAll_1 rfl hl (by decide) rfl (fun ls hl => ?_)
  refine pu_loop (n * n) (fun ii H locs ls => va_P (dC, dI) vwCl [(z, .inr (7, [.ref zc, .int (nI n)])), (zc, .inl (cI, N, .inl f))] H ∧ va_D (fun _ => True) [(z, .inr (7, [.ref zc, .int (nI n)])), (zc, .inl (cI, N, .inl f))] ∧ va_S (va_A [] s.heap.size) s.heap H locs ∧ lv_has ls 3 [(0, .ref z), (1, .ref z), (2, .int (nI ii))]) (fun _ => 0) (fun _ => 0) 2 [] ?_ ?_ _ _ _ ⟨hP, hD, hS, lv_sub hl [1, 2, 0] rfl⟩
  · rintro H locs ls ⟨hP, hD, hS, hl⟩
    refine lv_iload_n hx hb dX7_holdsAll_2 rfl (lv_at hl 2 rfl) ?_
    refine lv_aload_n hx hb dX7_holdsAll_3 rfl (lv_at hl 0 rfl) ?_
    refine va_get (D := (dC, dI)) (ci := 7) (v := .int (nI n)) (C := RX7) (T := TX7) (N := 2) hx hb hts hiX7 hown hK hP 0 rfl rfl 1 (by decide) v_1 (fun _ h9 => h9) rfl dX7_holdsAll_4 ?_
    refine lv_aload_n hx hb dX7_holdsAll_7 rfl (lv_at hl 0 rfl) ?_
    refine va_get (D := (dC, dI)) (ci := 7) (v := .int (nI n)) (C := RX7) (T := TX7) (N := 2) hx hb hts hiX7 hown hK hP 0 rfl rfl 1 (by decide) v_1 (fun _ h9 => h9) rfl dX7_holdsAll_8 ?_
    refine lv_imul hx hb dX7_holdsAll_11 ?_
    refine lv_topi (fun y_4 ey_4 => ?_)
    obtain rfl : y_4 = (nI (n * n)) := ey_4.trans (pk_mul n n)
    refine lv_icmp_ge (tgt := 38) hx hb dX7_holdsAll_12 (by decide) (fun _ => ?_) (fun z => absurd (nI_le (a := (n * n)) (b := (n * n)) (by omega) (by omega)) z)
    refine lv_iconst (v := 1) hx hb dX7_holdsAll_38 (by decide) ?_
    exact W.zret (v := 1) (ty := .boolean) hx hb hr rfl (fun t ht hW => ⟨⟨1, (), rfl, trivial, trivial⟩, hS.F ht⟩) hS.2.2 dX7_holdsAll_39
  · rintro i_1 h_2 ih_3 H locs ls ⟨hP, hD, hS, hl⟩
    refine lv_iload_n hx hb dX7_holdsAll_2 rfl (lv_at hl 2 rfl) ?_
    refine lv_aload_n hx hb dX7_holdsAll_3 rfl (lv_at hl 0 rfl) ?_
    refine va_get (D := (dC, dI)) (ci := 7) (v := .int (nI n)) (C := RX7) (T := TX7) (N := 2) hx hb hts hiX7 hown hK hP 0 rfl rfl 1 (by decide) v_1 (fun _ h9 => h9) rfl dX7_holdsAll_4 ?_
    refine lv_aload_n hx hb dX7_holdsAll_7 rfl (lv_at hl 0 rfl) ?_
    refine va_get (D := (dC, dI)) (ci := 7) (v := .int (nI n)) (C := RX7) (T := TX7) (N := 2) hx hb hts hiX7 hown hK hP 0 rfl rfl 1 (by decide) v_1 (fun _ h9 => h9) rfl dX7_holdsAll_8 ?_
    refine lv_imul hx hb dX7_holdsAll_11 ?_
    refine lv_topi (fun y_5 ey_5 => ?_)
    obtain rfl : y_5 = (nI (n * n)) := ey_5.trans (pk_mul n n)
    refine lv_icmp_ge (tgt := 38) hx hb dX7_holdsAll_12 (by decide) (fun z => absurd z (nI_ge (a := i_1) (b := (n * n)) (by omega) (by omega))) (fun _ => ?_)
    refine lv_aload_n hx hb dX7_holdsAll_15 rfl (lv_at hl 1 rfl) ?_
    refine va_get (D := (dC, dI)) (ci := 7) (v := .ref zc) (C := RX7) (T := TX7) (N := 2) hx hb hts hiX7 hown hK hP 0 rfl rfl 0 (by decide) v_2 (fun _ h9 => h9) rfl dX7_holdsAll_16 ?_
    refine lv_iload_n hx hb dX7_holdsAll_19 rfl (lv_at hl 2 rfl) ?_
    refine va_iald hx hb hK hP 1 0 rfl rfl (vp_in_nI (n := i_1) (by first | omega | exact ix_lt (by omega) (by omega) hn | exact ix_lt0 (by omega) hn | exact ix_ltq (by omega) hn | exact ix_lt1 (by omega) hn) (by omega)) dX7_holdsAll_20 ?_
    refine lv_aload_n hx hb dX7_holdsAll_21 rfl (lv_at hl 0 rfl) ?_
    refine va_get (D := (dC, dI)) (ci := 7) (v := .ref zc) (C := RX7) (T := TX7) (N := 2) hx hb hts hiX7 hown hK hP 0 rfl rfl 0 (by decide) v_2 (fun _ h9 => h9) rfl dX7_holdsAll_22 ?_
    refine lv_iload_n hx hb dX7_holdsAll_25 rfl (lv_at hl 2 rfl) ?_
    refine va_iald hx hb hK hP 1 0 rfl rfl (vp_in_nI (n := i_1) (by first | omega | exact ix_lt (by omega) (by omega) hn | exact ix_lt0 (by omega) hn | exact ix_ltq (by omega) hn | exact ix_lt1 (by omega) hn) (by omega)) dX7_holdsAll_26 ?_
    refine lv_icmp_le (tgt := 32) hx hb dX7_holdsAll_27 (by decide) (fun c_6 => ?_) (fun c_6 => ?_)
    · refine lv_iinc (v := (nI (i_1 + 1))) (lv' := [(2, .int (nI (i_1 + 1))), (0, .ref z), (1, .ref z)]) hx hb dX7_holdsAll_32 hl (k := 2) rfl (nI_1 _) (by decide) rfl (fun ls hl => ?_)
      refine lv_goto (tgt := 2) hx hb dX7_holdsAll_35 (by decide) ?_
      exact ih_3 _ _ _ ⟨hP, hD, hS, lv_sub hl [1, 2, 0] rfl⟩
    · refine lv_iconst (v := 0) hx hb dX7_holdsAll_30 (by decide) ?_
      exact W.zret (v := 0) (ty := .boolean) hx hb hr rfl (fun t ht hW => ⟨⟨0, (), rfl, trivial, trivial⟩, hS.F ht⟩) hS.2.2 dX7_holdsAll_31
theorem dX7_equalTo_0 : decode cX7_equalTo 0 = .ok (.iconst 0, 1) := by decide +kernel
theorem dX7_equalTo_1 : decode cX7_equalTo 1 = .ok (.istore_n 2, 1) := by decide +kernel
theorem dX7_equalTo_2 : decode cX7_equalTo 2 = .ok (.iload_n 2, 1) := by decide +kernel
theorem dX7_equalTo_3 : decode cX7_equalTo 3 = .ok (.aload_n 0, 1) := by decide +kernel
theorem dX7_equalTo_4 : decode cX7_equalTo 4 = .ok (.getfield 18, 3) := by decide +kernel
theorem dX7_equalTo_7 : decode cX7_equalTo 7 = .ok (.aload_n 0, 1) := by decide +kernel
theorem dX7_equalTo_8 : decode cX7_equalTo 8 = .ok (.getfield 18, 3) := by decide +kernel
theorem dX7_equalTo_11 : decode cX7_equalTo 11 = .ok (.imul, 1) := by decide +kernel
theorem dX7_equalTo_12 : decode cX7_equalTo 12 = .ok (.if_icmp .ge 26, 3) := by decide +kernel
theorem dX7_equalTo_15 : decode cX7_equalTo 15 = .ok (.aload_n 1, 1) := by decide +kernel
theorem dX7_equalTo_16 : decode cX7_equalTo 16 = .ok (.getfield 11, 3) := by decide +kernel
theorem dX7_equalTo_19 : decode cX7_equalTo 19 = .ok (.iload_n 2, 1) := by decide +kernel
theorem dX7_equalTo_20 : decode cX7_equalTo 20 = .ok (.iaload, 1) := by decide +kernel
theorem dX7_equalTo_21 : decode cX7_equalTo 21 = .ok (.aload_n 0, 1) := by decide +kernel
theorem dX7_equalTo_22 : decode cX7_equalTo 22 = .ok (.getfield 11, 3) := by decide +kernel
theorem dX7_equalTo_25 : decode cX7_equalTo 25 = .ok (.iload_n 2, 1) := by decide +kernel
theorem dX7_equalTo_26 : decode cX7_equalTo 26 = .ok (.iaload, 1) := by decide +kernel
theorem dX7_equalTo_27 : decode cX7_equalTo 27 = .ok (.if_icmp .eq 5, 3) := by decide +kernel
theorem dX7_equalTo_30 : decode cX7_equalTo 30 = .ok (.iconst 0, 1) := by decide +kernel
theorem dX7_equalTo_31 : decode cX7_equalTo 31 = .ok (.ireturn, 1) := by decide +kernel
theorem dX7_equalTo_32 : decode cX7_equalTo 32 = .ok (.iinc 2 1, 3) := by decide +kernel
theorem dX7_equalTo_35 : decode cX7_equalTo 35 = .ok (.goto (-33), 3) := by decide +kernel
theorem dX7_equalTo_38 : decode cX7_equalTo 38 = .ok (.iconst 1, 1) := by decide +kernel
theorem dX7_equalTo_39 : decode cX7_equalTo 39 = .ok (.ireturn, 1) := by decide +kernel
def vs_X7_equalTo : List Cond := .code yX7_equalTo cX7_equalTo 3 (some .boolean) :: ([.fieldLink RX7 18 "ClockReach$Zone" "size" "I", .fieldLink RX7 11 "ClockReach$Zone" "cells" "[I"] ++ wsX70)
set_option maxHeartbeats 4000000 in
set_option maxRecDepth 100000 in
theorem c_X7_equalTo (l : Launch) (dC : Nat → ClassId) (dI : Nat → Nat → Nat) (sz : Nat) (z zc : Nat) (cI : ClassId) (n N : Nat) (f : Nat → Int32) (hn : n * n ≤ N) (hN : N ≤ 25) (zo zd : Nat) (cJ : ClassId) (M : Nat) (fu : Nat → Int32) (x0 : Int32) (hm : n * n ≤ M) (hM : M ≤ 25) : Met l yX7_equalTo vs_X7_equalTo ({ frames := 0, cells := 0, slots := 0, locals := 0 }) (va_Pc [.ref z, .ref zo] (pu_B (dC, dI) [(z, .inr (7, [.ref zc, .int (nI n)])), (zc, .inl (cI, N, .inl f)), (zo, .inr (7, [.ref zd, .int x0])), (zd, .inl (cJ, M, .inl fu))] [(cI, .int), (cJ, .int)] sz)) (va_Qi (fun (r : Int32) (_ : Unit) => True) (fun _ _ => True) (va_A [] sz)) 0 0 (va_A [] sz) := by
  refine Met.ofW (cc := cX7_equalTo) (maxL := 3) (ret := (some .boolean)) (by decide) rfl ?_
  intro p e s m args below meth c s₁ B hml hv
  obtain ⟨rfl, rfl, hP, hK, hD0⟩ := hv
  have hx := B.exec
  have hb := B.bytes
  have hr := B.returns
  have hts := atoms_spec (ws := vs_X7_equalTo) B.pre
  have v_1 := hts (.fieldLink RX7 18 "ClockReach$Zone" "size" "I") (List.mem_of_getElem? (i := 1) rfl)
  have v_2 := hts (.fieldLink RX7 11 "ClockReach$Zone" "cells" "[I") (List.mem_of_getElem? (i := 2) rfl)
  have hown : s.vm.findClass RX7 = some m.cls := findClass_of_methodNamed B.named
  have hlocks := B.notSynchronized
  have hiX7 : ∀ w ∈ wsX70, w ∈ vs_X7_equalTo := fun _ h => List.mem_cons_of_mem _ (List.mem_append_right _ h)
  have hD := hD0
  have hA : ∀ q : Nat, s.heap.size ≤ q → va_A [] s.heap.size q := fun _ h => Or.inr h
  have hS : va_S (va_A [] s.heap.size) s.heap s.heap [] := va_S.rf
  have hl := lv_entry ([.ref z, .ref zo]) (n := 3) (Nat.le_of_ble_eq_true rfl)
  rw [lg_entry_eq]
  generalize (lg_sl ([.ref z, .ref zo]) ++ List.replicate (3 - (lg_sl ([.ref z, .ref zo])).length) Slot.unset).toArray = ls at hl ⊢
  have hl : lv_has ls 3 [(0, .ref z), (1, .ref zo)] := hl
  have hn5 := zn_5 hn hN
  have hnq := zn_q hn hN
  refine lv_iconst (v := 0) hx hb dX7_equalTo_0 (by decide) ?_
  refine lv_istore_n (lv' := [(2, .int 0), (0, .ref z), (1, .ref zo)]) hx hb dX7_equalTo_1 rfl hl (by decide) rfl (fun ls hl => ?_)
  refine pu_loop (n * n) (fun ii H locs ls => va_P (dC, dI) vwCl [(z, .inr (7, [.ref zc, .int (nI n)])), (zc, .inl (cI, N, .inl f)), (zo, .inr (7, [.ref zd, .int x0])), (zd, .inl (cJ, M, .inl fu))] H ∧ va_D (fun _ => True) [(z, .inr (7, [.ref zc, .int (nI n)])), (zc, .inl (cI, N, .inl f)), (zo, .inr (7, [.ref zd, .int x0])), (zd, .inl (cJ, M, .inl fu))] ∧ va_S (va_A [] s.heap.size) s.heap H locs ∧ lv_has ls 3 [(0, .ref z), (1, .ref zo), (2, .int (nI ii))]) (fun _ => 0) (fun _ => 0) 2 [] ?_ ?_ _ _ _ ⟨hP, hD, hS, lv_sub hl [1, 2, 0] rfl⟩
  · rintro H locs ls ⟨hP, hD, hS, hl⟩
    refine lv_iload_n hx hb dX7_equalTo_2 rfl (lv_at hl 2 rfl) ?_
    refine lv_aload_n hx hb dX7_equalTo_3 rfl (lv_at hl 0 rfl) ?_
    refine va_get (D := (dC, dI)) (ci := 7) (v := .int (nI n)) (C := RX7) (T := TX7) (N := 2) hx hb hts hiX7 hown hK hP 0 rfl rfl 1 (by decide) v_1 (fun _ h9 => h9) rfl dX7_equalTo_4 ?_
    refine lv_aload_n hx hb dX7_equalTo_7 rfl (lv_at hl 0 rfl) ?_
    refine va_get (D := (dC, dI)) (ci := 7) (v := .int (nI n)) (C := RX7) (T := TX7) (N := 2) hx hb hts hiX7 hown hK hP 0 rfl rfl 1 (by decide) v_1 (fun _ h9 => h9) rfl dX7_equalTo_8 ?_
    refine lv_imul hx hb dX7_equalTo_11 ?_
    refine lv_topi (fun y_4 ey_4 => ?_)
    obtain rfl : y_4 = (nI (n * n)) := ey_4.trans (pk_mul n n)
    refine lv_icmp_ge (tgt := 38) hx hb dX7_equalTo_12 (by decide) (fun _ => ?_) (fun z => absurd (nI_le (a := (n * n)) (b := (n * n)) (by omega) (by omega)) z)
    refine lv_iconst (v := 1) hx hb dX7_equalTo_38 (by decide) ?_
    exact W.zret (v := 1) (ty := .boolean) hx hb hr rfl (fun t ht hW => ⟨⟨1, (), rfl, trivial, trivial⟩, hS.F ht⟩) hS.2.2 dX7_equalTo_39
  · rintro i_1 h_2 ih_3 H locs ls ⟨hP, hD, hS, hl⟩
    refine lv_iload_n hx hb dX7_equalTo_2 rfl (lv_at hl 2 rfl) ?_
    refine lv_aload_n hx hb dX7_equalTo_3 rfl (lv_at hl 0 rfl) ?_
    refine va_get (D := (dC, dI)) (ci := 7) (v := .int (nI n)) (C := RX7) (T := TX7) (N := 2) hx hb hts hiX7 hown hK hP 0 rfl rfl 1 (by decide) v_1 (fun _ h9 => h9) rfl dX7_equalTo_4 ?_
    refine lv_aload_n hx hb dX7_equalTo_7 rfl (lv_at hl 0 rfl) ?_
    refine va_get (D := (dC, dI)) (ci := 7) (v := .int (nI n)) (C := RX7) (T := TX7) (N := 2) hx hb hts hiX7 hown hK hP 0 rfl rfl 1 (by decide) v_1 (fun _ h9 => h9) rfl dX7_equalTo_8 ?_
    refine lv_imul hx hb dX7_equalTo_11 ?_
    refine lv_topi (fun y_5 ey_5 => ?_)
    obtain rfl : y_5 = (nI (n * n)) := ey_5.trans (pk_mul n n)
    refine lv_icmp_ge (tgt := 38) hx hb dX7_equalTo_12 (by decide) (fun z => absurd z (nI_ge (a := i_1) (b := (n * n)) (by omega) (by omega))) (fun _ => ?_)
    refine lv_aload_n hx hb dX7_equalTo_15 rfl (lv_at hl 1 rfl) ?_
    refine va_get (D := (dC, dI)) (ci := 7) (v := .ref zd) (C := RX7) (T := TX7) (N := 2) hx hb hts hiX7 hown hK hP 2 rfl rfl 0 (by decide) v_2 (fun _ h9 => h9) rfl dX7_equalTo_16 ?_
    refine lv_iload_n hx hb dX7_equalTo_19 rfl (lv_at hl 2 rfl) ?_
    refine va_iald hx hb hK hP 3 1 rfl rfl (vp_in_nI (n := i_1) (by first | omega | exact ix_lt (by omega) (by omega) hn | exact ix_lt0 (by omega) hn | exact ix_ltq (by omega) hn | exact ix_lt1 (by omega) hn) (by omega)) dX7_equalTo_20 ?_
    refine lv_aload_n hx hb dX7_equalTo_21 rfl (lv_at hl 0 rfl) ?_
    refine va_get (D := (dC, dI)) (ci := 7) (v := .ref zc) (C := RX7) (T := TX7) (N := 2) hx hb hts hiX7 hown hK hP 0 rfl rfl 0 (by decide) v_2 (fun _ h9 => h9) rfl dX7_equalTo_22 ?_
    refine lv_iload_n hx hb dX7_equalTo_25 rfl (lv_at hl 2 rfl) ?_
    refine va_iald hx hb hK hP 1 0 rfl rfl (vp_in_nI (n := i_1) (by first | omega | exact ix_lt (by omega) (by omega) hn | exact ix_lt0 (by omega) hn | exact ix_ltq (by omega) hn | exact ix_lt1 (by omega) hn) (by omega)) dX7_equalTo_26 ?_
    refine lv_icmp_eq (tgt := 32) hx hb dX7_equalTo_27 (by decide) (fun c_6 => ?_) (fun c_6 => ?_)
    · refine lv_iinc (v := (nI (i_1 + 1))) (lv' := [(2, .int (nI (i_1 + 1))), (0, .ref z), (1, .ref zo)]) hx hb dX7_equalTo_32 hl (k := 2) rfl (nI_1 _) (by decide) rfl (fun ls hl => ?_)
      refine lv_goto (tgt := 2) hx hb dX7_equalTo_35 (by decide) ?_
      exact ih_3 _ _ _ ⟨hP, hD, hS, lv_sub hl [1, 2, 0] rfl⟩
    · refine lv_iconst (v := 0) hx hb dX7_equalTo_30 (by decide) ?_
      exact W.zret (v := 0) (ty := .boolean) hx hb hr rfl (fun t ht hW => ⟨⟨0, (), rfl, trivial, trivial⟩, hS.F ht⟩) hS.2.2 dX7_equalTo_31
def vs_X7_equalTo_same : List Cond := .code yX7_equalTo cX7_equalTo 3 (some .boolean) :: ([.fieldLink RX7 18 "ClockReach$Zone" "size" "I", .fieldLink RX7 11 "ClockReach$Zone" "cells" "[I"] ++ wsX70)
set_option maxHeartbeats 4000000 in
set_option maxRecDepth 100000 in
theorem c_X7_equalTo_same (l : Launch) (dC : Nat → ClassId) (dI : Nat → Nat → Nat) (sz : Nat) (z zc : Nat) (cI : ClassId) (n N : Nat) (f : Nat → Int32) (hn : n * n ≤ N) (hN : N ≤ 25) : Met l yX7_equalTo vs_X7_equalTo_same ({ frames := 0, cells := 0, slots := 0, locals := 0 }) (va_Pc [.ref z, .ref z] (pu_B (dC, dI) [(z, .inr (7, [.ref zc, .int (nI n)])), (zc, .inl (cI, N, .inl f))] [(cI, .int)] sz)) (va_Qi (fun (r : Int32) (_ : Unit) => True) (fun _ _ => True) (va_A [] sz)) 0 0 (va_A [] sz) := by
  refine Met.ofW (cc := cX7_equalTo) (maxL := 3) (ret := (some .boolean)) (by decide) rfl ?_
  intro p e s m args below meth c s₁ B hml hv
  obtain ⟨rfl, rfl, hP, hK, hD0⟩ := hv
  have hx := B.exec
  have hb := B.bytes
  have hr := B.returns
  have hts := atoms_spec (ws := vs_X7_equalTo_same) B.pre
  have v_1 := hts (.fieldLink RX7 18 "ClockReach$Zone" "size" "I") (List.mem_of_getElem? (i := 1) rfl)
  have v_2 := hts (.fieldLink RX7 11 "ClockReach$Zone" "cells" "[I") (List.mem_of_getElem? (i := 2) rfl)
  have hown : s.vm.findClass RX7 = some m.cls := findClass_of_methodNamed B.named
  have hlocks := B.notSynchronized
  have hiX7 : ∀ w ∈ wsX70, w ∈ vs_X7_equalTo_same := fun _ h => List.mem_cons_of_mem _ (List.mem_append_right _ h)
  have hD := hD0
  have hA : ∀ q : Nat, s.heap.size ≤ q → va_A [] s.heap.size q := fun _ h => Or.inr h
  have hS : va_S (va_A [] s.heap.size) s.heap s.heap [] := va_S.rf
  have hl := lv_entry ([.ref z, .ref z]) (n := 3) (Nat.le_of_ble_eq_true rfl)
  rw [lg_entry_eq]
  generalize (lg_sl ([.ref z, .ref z]) ++ List.replicate (3 - (lg_sl ([.ref z, .ref z])).length) Slot.unset).toArray = ls at hl ⊢
  have hl : lv_has ls 3 [(0, .ref z), (1, .ref z)] := hl
  have hn5 := zn_5 hn hN
  have hnq := zn_q hn hN
  refine lv_iconst (v := 0) hx hb dX7_equalTo_0 (by decide) ?_
  refine lv_istore_n (lv' := [(2, .int 0), (0, .ref z), (1, .ref z)]) hx hb dX7_equalTo_1 rfl hl (by decide) rfl (fun ls hl => ?_)
  refine pu_loop (n * n) (fun ii H locs ls => va_P (dC, dI) vwCl [(z, .inr (7, [.ref zc, .int (nI n)])), (zc, .inl (cI, N, .inl f))] H ∧ va_D (fun _ => True) [(z, .inr (7, [.ref zc, .int (nI n)])), (zc, .inl (cI, N, .inl f))] ∧ va_S (va_A [] s.heap.size) s.heap H locs ∧ lv_has ls 3 [(0, .ref z), (1, .ref z), (2, .int (nI ii))]) (fun _ => 0) (fun _ => 0) 2 [] ?_ ?_ _ _ _ ⟨hP, hD, hS, lv_sub hl [1, 2, 0] rfl⟩
  · rintro H locs ls ⟨hP, hD, hS, hl⟩
    refine lv_iload_n hx hb dX7_equalTo_2 rfl (lv_at hl 2 rfl) ?_
    refine lv_aload_n hx hb dX7_equalTo_3 rfl (lv_at hl 0 rfl) ?_
    refine va_get (D := (dC, dI)) (ci := 7) (v := .int (nI n)) (C := RX7) (T := TX7) (N := 2) hx hb hts hiX7 hown hK hP 0 rfl rfl 1 (by decide) v_1 (fun _ h9 => h9) rfl dX7_equalTo_4 ?_
    refine lv_aload_n hx hb dX7_equalTo_7 rfl (lv_at hl 0 rfl) ?_
    refine va_get (D := (dC, dI)) (ci := 7) (v := .int (nI n)) (C := RX7) (T := TX7) (N := 2) hx hb hts hiX7 hown hK hP 0 rfl rfl 1 (by decide) v_1 (fun _ h9 => h9) rfl dX7_equalTo_8 ?_
    refine lv_imul hx hb dX7_equalTo_11 ?_
    refine lv_topi (fun y_4 ey_4 => ?_)
    obtain rfl : y_4 = (nI (n * n)) := ey_4.trans (pk_mul n n)
    refine lv_icmp_ge (tgt := 38) hx hb dX7_equalTo_12 (by decide) (fun _ => ?_) (fun z => absurd (nI_le (a := (n * n)) (b := (n * n)) (by omega) (by omega)) z)
    refine lv_iconst (v := 1) hx hb dX7_equalTo_38 (by decide) ?_
    exact W.zret (v := 1) (ty := .boolean) hx hb hr rfl (fun t ht hW => ⟨⟨1, (), rfl, trivial, trivial⟩, hS.F ht⟩) hS.2.2 dX7_equalTo_39
  · rintro i_1 h_2 ih_3 H locs ls ⟨hP, hD, hS, hl⟩
    refine lv_iload_n hx hb dX7_equalTo_2 rfl (lv_at hl 2 rfl) ?_
    refine lv_aload_n hx hb dX7_equalTo_3 rfl (lv_at hl 0 rfl) ?_
    refine va_get (D := (dC, dI)) (ci := 7) (v := .int (nI n)) (C := RX7) (T := TX7) (N := 2) hx hb hts hiX7 hown hK hP 0 rfl rfl 1 (by decide) v_1 (fun _ h9 => h9) rfl dX7_equalTo_4 ?_
    refine lv_aload_n hx hb dX7_equalTo_7 rfl (lv_at hl 0 rfl) ?_
    refine va_get (D := (dC, dI)) (ci := 7) (v := .int (nI n)) (C := RX7) (T := TX7) (N := 2) hx hb hts hiX7 hown hK hP 0 rfl rfl 1 (by decide) v_1 (fun _ h9 => h9) rfl dX7_equalTo_8 ?_
    refine lv_imul hx hb dX7_equalTo_11 ?_
    refine lv_topi (fun y_5 ey_5 => ?_)
    obtain rfl : y_5 = (nI (n * n)) := ey_5.trans (pk_mul n n)
    refine lv_icmp_ge (tgt := 38) hx hb dX7_equalTo_12 (by decide) (fun z => absurd z (nI_ge (a := i_1) (b := (n * n)) (by omega) (by omega))) (fun _ => ?_)
    refine lv_aload_n hx hb dX7_equalTo_15 rfl (lv_at hl 1 rfl) ?_
    refine va_get (D := (dC, dI)) (ci := 7) (v := .ref zc) (C := RX7) (T := TX7) (N := 2) hx hb hts hiX7 hown hK hP 0 rfl rfl 0 (by decide) v_2 (fun _ h9 => h9) rfl dX7_equalTo_16 ?_
    refine lv_iload_n hx hb dX7_equalTo_19 rfl (lv_at hl 2 rfl) ?_
    refine va_iald hx hb hK hP 1 0 rfl rfl (vp_in_nI (n := i_1) (by first | omega | exact ix_lt (by omega) (by omega) hn | exact ix_lt0 (by omega) hn | exact ix_ltq (by omega) hn | exact ix_lt1 (by omega) hn) (by omega)) dX7_equalTo_20 ?_
    refine lv_aload_n hx hb dX7_equalTo_21 rfl (lv_at hl 0 rfl) ?_
    refine va_get (D := (dC, dI)) (ci := 7) (v := .ref zc) (C := RX7) (T := TX7) (N := 2) hx hb hts hiX7 hown hK hP 0 rfl rfl 0 (by decide) v_2 (fun _ h9 => h9) rfl dX7_equalTo_22 ?_
    refine lv_iload_n hx hb dX7_equalTo_25 rfl (lv_at hl 2 rfl) ?_
    refine va_iald hx hb hK hP 1 0 rfl rfl (vp_in_nI (n := i_1) (by first | omega | exact ix_lt (by omega) (by omega) hn | exact ix_lt0 (by omega) hn | exact ix_ltq (by omega) hn | exact ix_lt1 (by omega) hn) (by omega)) dX7_equalTo_26 ?_
    refine lv_icmp_eq (tgt := 32) hx hb dX7_equalTo_27 (by decide) (fun _ => ?_) (fun z => absurd rfl z)
    refine lv_iinc (v := (nI (i_1 + 1))) (lv' := [(2, .int (nI (i_1 + 1))), (0, .ref z), (1, .ref z)]) hx hb dX7_equalTo_32 hl (k := 2) rfl (nI_1 _) (by decide) rfl (fun ls hl => ?_)
    refine lv_goto (tgt := 2) hx hb dX7_equalTo_35 (by decide) ?_
    exact ih_3 _ _ _ ⟨hP, hD, hS, lv_sub hl [1, 2, 0] rfl⟩
theorem dX7_holdsTimes_0 : decode cX7_holdsTimes 0 = .ok (.iconst 0, 1) := by decide +kernel
theorem dX7_holdsTimes_1 : decode cX7_holdsTimes 1 = .ok (.istore_n 2, 1) := by decide +kernel
theorem dX7_holdsTimes_2 : decode cX7_holdsTimes 2 = .ok (.iload_n 2, 1) := by decide +kernel
theorem dX7_holdsTimes_3 : decode cX7_holdsTimes 3 = .ok (.aload_n 0, 1) := by decide +kernel
theorem dX7_holdsTimes_4 : decode cX7_holdsTimes 4 = .ok (.getfield 18, 3) := by decide +kernel
theorem dX7_holdsTimes_7 : decode cX7_holdsTimes 7 = .ok (.if_icmp .ge 68, 3) := by decide +kernel
theorem dX7_holdsTimes_10 : decode cX7_holdsTimes 10 = .ok (.iconst 0, 1) := by decide +kernel
theorem dX7_holdsTimes_11 : decode cX7_holdsTimes 11 = .ok (.istore_n 3, 1) := by decide +kernel
theorem dX7_holdsTimes_12 : decode cX7_holdsTimes 12 = .ok (.iload_n 3, 1) := by decide +kernel
theorem dX7_holdsTimes_13 : decode cX7_holdsTimes 13 = .ok (.aload_n 0, 1) := by decide +kernel
theorem dX7_holdsTimes_14 : decode cX7_holdsTimes 14 = .ok (.getfield 18, 3) := by decide +kernel
theorem dX7_holdsTimes_17 : decode cX7_holdsTimes 17 = .ok (.if_icmp .ge 52, 3) := by decide +kernel
theorem dX7_holdsTimes_20 : decode cX7_holdsTimes 20 = .ok (.aload_n 0, 1) := by decide +kernel
theorem dX7_holdsTimes_21 : decode cX7_holdsTimes 21 = .ok (.getfield 11, 3) := by decide +kernel
theorem dX7_holdsTimes_24 : decode cX7_holdsTimes 24 = .ok (.iload_n 2, 1) := by decide +kernel
theorem dX7_holdsTimes_25 : decode cX7_holdsTimes 25 = .ok (.aload_n 0, 1) := by decide +kernel
theorem dX7_holdsTimes_26 : decode cX7_holdsTimes 26 = .ok (.getfield 18, 3) := by decide +kernel
theorem dX7_holdsTimes_29 : decode cX7_holdsTimes 29 = .ok (.imul, 1) := by decide +kernel
theorem dX7_holdsTimes_30 : decode cX7_holdsTimes 30 = .ok (.iload_n 3, 1) := by decide +kernel
theorem dX7_holdsTimes_31 : decode cX7_holdsTimes 31 = .ok (.iadd, 1) := by decide +kernel
theorem dX7_holdsTimes_32 : decode cX7_holdsTimes 32 = .ok (.iaload, 1) := by decide +kernel
theorem dX7_holdsTimes_33 : decode cX7_holdsTimes 33 = .ok (.istore 4, 2) := by decide +kernel
theorem dX7_holdsTimes_35 : decode cX7_holdsTimes 35 = .ok (.iload 4, 2) := by decide +kernel
theorem dX7_holdsTimes_37 : decode cX7_holdsTimes 37 = .ok (.ldc 17, 2) := by decide +kernel
theorem dX7_holdsTimes_39 : decode cX7_holdsTimes 39 = .ok (.if_icmp .eq 24, 3) := by decide +kernel
theorem dX7_holdsTimes_42 : decode cX7_holdsTimes 42 = .ok (.aload_n 1, 1) := by decide +kernel
theorem dX7_holdsTimes_43 : decode cX7_holdsTimes 43 = .ok (.iload_n 2, 1) := by decide +kernel
theorem dX7_holdsTimes_44 : decode cX7_holdsTimes 44 = .ok (.iaload, 1) := by decide +kernel
theorem dX7_holdsTimes_45 : decode cX7_holdsTimes 45 = .ok (.i2l, 1) := by decide +kernel
theorem dX7_holdsTimes_46 : decode cX7_holdsTimes 46 = .ok (.aload_n 1, 1) := by decide +kernel
theorem dX7_holdsTimes_47 : decode cX7_holdsTimes 47 = .ok (.iload_n 3, 1) := by decide +kernel
theorem dX7_holdsTimes_48 : decode cX7_holdsTimes 48 = .ok (.iaload, 1) := by decide +kernel
theorem dX7_holdsTimes_49 : decode cX7_holdsTimes 49 = .ok (.i2l, 1) := by decide +kernel
theorem dX7_holdsTimes_50 : decode cX7_holdsTimes 50 = .ok (.lsub, 1) := by decide +kernel
theorem dX7_holdsTimes_51 : decode cX7_holdsTimes 51 = .ok (.iload 4, 2) := by decide +kernel
theorem dX7_holdsTimes_53 : decode cX7_holdsTimes 53 = .ok (.invokestatic 31, 3) := by decide +kernel
theorem dX7_holdsTimes_56 : decode cX7_holdsTimes 56 = .ok (.i2l, 1) := by decide +kernel
theorem dX7_holdsTimes_57 : decode cX7_holdsTimes 57 = .ok (.lcmp, 1) := by decide +kernel
theorem dX7_holdsTimes_58 : decode cX7_holdsTimes 58 = .ok (.ifCond .le 5, 3) := by decide +kernel
theorem dX7_holdsTimes_61 : decode cX7_holdsTimes 61 = .ok (.iconst 0, 1) := by decide +kernel
theorem dX7_holdsTimes_62 : decode cX7_holdsTimes 62 = .ok (.ireturn, 1) := by decide +kernel
theorem dX7_holdsTimes_63 : decode cX7_holdsTimes 63 = .ok (.iinc 3 1, 3) := by decide +kernel
theorem dX7_holdsTimes_66 : decode cX7_holdsTimes 66 = .ok (.goto (-54), 3) := by decide +kernel
theorem dX7_holdsTimes_69 : decode cX7_holdsTimes 69 = .ok (.iinc 2 1, 3) := by decide +kernel
theorem dX7_holdsTimes_72 : decode cX7_holdsTimes 72 = .ok (.goto (-70), 3) := by decide +kernel
theorem dX7_holdsTimes_75 : decode cX7_holdsTimes 75 = .ok (.iconst 1, 1) := by decide +kernel
theorem dX7_holdsTimes_76 : decode cX7_holdsTimes 76 = .ok (.ireturn, 1) := by decide +kernel
def vs_X7_holdsTimes : List Cond := .code yX7_holdsTimes cX7_holdsTimes 5 (some .boolean) :: ([.fieldLink RX7 18 "ClockReach$Zone" "size" "I", .fieldLink RX7 11 "ClockReach$Zone" "cells" "[I", .constant RX7 17 (2147483647), .methodLink RX7 31 yX7_ticks, .static yX7_ticks, .initialized RX7, .code yX7_ticks cX7_ticks 1 (some .int)] ++ wsX70)
theorem g_X7_holdsTimes_X7_ticks : GoodIn vs_X7_holdsTimes (va_wsS RX7 31 yX7_ticks vs_X7_ticks) := goodIn_r _ [4, 5, 6, 7, 3] (by decide +kernel) (by decide +kernel)
set_option maxHeartbeats 4000000 in
set_option maxRecDepth 100000 in
theorem c_X7_holdsTimes (l : Launch) (dC : Nat → ClassId) (dI : Nat → Nat → Nat) (sz : Nat) (z zc : Nat) (cI : ClassId) (n N : Nat) (f : Nat → Int32) (hn : n * n ≤ N) (hN : N ≤ 25) (vz : Nat) (cV : ClassId) (M : Nat) (fu : Nat → Int32) (hM : n ≤ M) (hM2 : M ≤ 100) : Met l yX7_holdsTimes vs_X7_holdsTimes ({ frames := 1, cells := 0, slots := 0, locals := 20 }) (va_Pc [.ref z, .ref vz] (pu_B (dC, dI) [(z, .inr (7, [.ref zc, .int (nI n)])), (zc, .inl (cI, N, .inl f)), (vz, .inl (cV, M, .inl fu))] [(cI, .int), (cV, .int)] sz)) (va_Qi (fun (r : Int32) (_ : Unit) => True) (fun _ _ => True) (va_A [] sz)) 0 0 (va_A [] sz) := by
  refine Met.ofW (cc := cX7_holdsTimes) (maxL := 5) (ret := (some .boolean)) (by decide) rfl ?_
  intro p e s m args below meth c s₁ B hml hv
  obtain ⟨rfl, rfl, hP, hK, hD0⟩ := hv
  have hx := B.exec
  have hb := B.bytes
  have hr := B.returns
  have hts := atoms_spec (ws := vs_X7_holdsTimes) B.pre
  have v_1 := hts (.fieldLink RX7 18 "ClockReach$Zone" "size" "I") (List.mem_of_getElem? (i := 1) rfl)
  have v_2 := hts (.fieldLink RX7 11 "ClockReach$Zone" "cells" "[I") (List.mem_of_getElem? (i := 2) rfl)
  have v_3 := hts (.constant RX7 17 (2147483647)) (List.mem_of_getElem? (i := 3) rfl)
  have hown : s.vm.findClass RX7 = some m.cls := findClass_of_methodNamed B.named
  have hlocks := B.notSynchronized
  have hiX7 : ∀ w ∈ wsX70, w ∈ vs_X7_holdsTimes := fun _ h => List.mem_cons_of_mem _ (List.mem_append_right _ h)
  have hD := hD0
  have hA : ∀ q : Nat, s.heap.size ≤ q → va_A [] s.heap.size q := fun _ h => Or.inr h
  have hS : va_S (va_A [] s.heap.size) s.heap s.heap [] := va_S.rf
  have hl := lv_entry ([.ref z, .ref vz]) (n := 5) (Nat.le_of_ble_eq_true rfl)
  rw [lg_entry_eq]
  generalize (lg_sl ([.ref z, .ref vz]) ++ List.replicate (5 - (lg_sl ([.ref z, .ref vz])).length) Slot.unset).toArray = ls at hl ⊢
  have hl : lv_has ls 5 [(0, .ref z), (1, .ref vz)] := hl
  have hn5 := zn_5 hn hN
  have hnq := zn_q hn hN
  refine lv_iconst (v := 0) hx hb dX7_holdsTimes_0 (by decide) ?_
  refine lv_istore_n (lv' := [(2, .int 0), (0, .ref z), (1, .ref vz)]) hx hb dX7_holdsTimes_1 rfl hl (by decide) rfl (fun ls hl => ?_)
  refine pu_loop (n) (fun ii H locs ls => va_P (dC, dI) vwCl [(z, .inr (7, [.ref zc, .int (nI n)])), (zc, .inl (cI, N, .inl f)), (vz, .inl (cV, M, .inl fu))] H ∧ va_D (fun _ => True) [(z, .inr (7, [.ref zc, .int (nI n)])), (zc, .inl (cI, N, .inl f)), (vz, .inl (cV, M, .inl fu))] ∧ va_S (va_A [] s.heap.size) s.heap H locs ∧ lv_has ls 5 [(0, .ref z), (1, .ref vz), (2, .int (nI ii))]) (fun _ => 0) (fun _ => 0) 2 [] ?_ ?_ _ _ _ ⟨hP, hD, hS, lv_sub hl [1, 2, 0] rfl⟩
  · rintro H locs ls ⟨hP, hD, hS, hl⟩
    refine lv_iload_n hx hb dX7_holdsTimes_2 rfl (lv_at hl 2 rfl) ?_
    refine lv_aload_n hx hb dX7_holdsTimes_3 rfl (lv_at hl 0 rfl) ?_
    refine va_get (D := (dC, dI)) (ci := 7) (v := .int (nI n)) (C := RX7) (T := TX7) (N := 2) hx hb hts hiX7 hown hK hP 0 rfl rfl 1 (by decide) v_1 (fun _ h9 => h9) rfl dX7_holdsTimes_4 ?_
    refine lv_icmp_ge (tgt := 75) hx hb dX7_holdsTimes_7 (by decide) (fun _ => ?_) (fun z => absurd (nI_le (a := n) (b := n) (by omega) (by omega)) z)
    refine lv_iconst (v := 1) hx hb dX7_holdsTimes_75 (by decide) ?_
    exact W.zret (v := 1) (ty := .boolean) hx hb hr rfl (fun t ht hW => ⟨⟨1, (), rfl, trivial, trivial⟩, hS.F ht⟩) hS.2.2 dX7_holdsTimes_76
  · rintro i_1 h_2 ih_3 H locs ls ⟨hP, hD, hS, hl⟩
    refine lv_iload_n hx hb dX7_holdsTimes_2 rfl (lv_at hl 2 rfl) ?_
    refine lv_aload_n hx hb dX7_holdsTimes_3 rfl (lv_at hl 0 rfl) ?_
    refine va_get (D := (dC, dI)) (ci := 7) (v := .int (nI n)) (C := RX7) (T := TX7) (N := 2) hx hb hts hiX7 hown hK hP 0 rfl rfl 1 (by decide) v_1 (fun _ h9 => h9) rfl dX7_holdsTimes_4 ?_
    refine lv_icmp_ge (tgt := 75) hx hb dX7_holdsTimes_7 (by decide) (fun z => absurd z (nI_ge (a := i_1) (b := n) (by omega) (by omega))) (fun _ => ?_)
    refine lv_iconst (v := 0) hx hb dX7_holdsTimes_10 (by decide) ?_
    refine lv_istore_n (lv' := [(3, .int 0), (0, .ref z), (1, .ref vz), (2, .int (nI i_1))]) hx hb dX7_holdsTimes_11 rfl hl (by decide) rfl (fun ls hl => ?_)
    refine pu_loop (n) (fun ii H locs ls => va_P (dC, dI) vwCl [(z, .inr (7, [.ref zc, .int (nI n)])), (zc, .inl (cI, N, .inl f)), (vz, .inl (cV, M, .inl fu))] H ∧ va_D (fun _ => True) [(z, .inr (7, [.ref zc, .int (nI n)])), (zc, .inl (cI, N, .inl f)), (vz, .inl (cV, M, .inl fu))] ∧ va_S (va_A [] s.heap.size) s.heap H locs ∧ lv_has ls 5 [(0, .ref z), (1, .ref vz), (2, .int (nI i_1)), (3, .int (nI ii))]) (fun _ => 0) (fun _ => 0) 12 [] ?_ ?_ _ _ _ ⟨hP, hD, hS, lv_sub hl [1, 2, 3, 0] rfl⟩
    · rintro H locs ls ⟨hP, hD, hS, hl⟩
      refine lv_iload_n hx hb dX7_holdsTimes_12 rfl (lv_at hl 3 rfl) ?_
      refine lv_aload_n hx hb dX7_holdsTimes_13 rfl (lv_at hl 0 rfl) ?_
      refine va_get (D := (dC, dI)) (ci := 7) (v := .int (nI n)) (C := RX7) (T := TX7) (N := 2) hx hb hts hiX7 hown hK hP 0 rfl rfl 1 (by decide) v_1 (fun _ h9 => h9) rfl dX7_holdsTimes_14 ?_
      refine lv_icmp_ge (tgt := 69) hx hb dX7_holdsTimes_17 (by decide) (fun _ => ?_) (fun z => absurd (nI_le (a := n) (b := n) (by omega) (by omega)) z)
      refine lv_iinc (v := (nI (i_1 + 1))) (lv' := [(2, .int (nI (i_1 + 1))), (0, .ref z), (1, .ref vz), (3, .int (nI n))]) hx hb dX7_holdsTimes_69 hl (k := 2) rfl (nI_1 _) (by decide) rfl (fun ls hl => ?_)
      refine lv_goto (tgt := 2) hx hb dX7_holdsTimes_72 (by decide) ?_
      exact ih_3 _ _ _ ⟨hP, hD, hS, lv_sub hl [1, 2, 0] rfl⟩
    · rintro i_4 h_5 ih_6 H locs ls ⟨hP, hD, hS, hl⟩
      refine lv_iload_n hx hb dX7_holdsTimes_12 rfl (lv_at hl 3 rfl) ?_
      refine lv_aload_n hx hb dX7_holdsTimes_13 rfl (lv_at hl 0 rfl) ?_
      refine va_get (D := (dC, dI)) (ci := 7) (v := .int (nI n)) (C := RX7) (T := TX7) (N := 2) hx hb hts hiX7 hown hK hP 0 rfl rfl 1 (by decide) v_1 (fun _ h9 => h9) rfl dX7_holdsTimes_14 ?_
      refine lv_icmp_ge (tgt := 69) hx hb dX7_holdsTimes_17 (by decide) (fun z => absurd z (nI_ge (a := i_4) (b := n) (by omega) (by omega))) (fun _ => ?_)
      refine lv_aload_n hx hb dX7_holdsTimes_20 rfl (lv_at hl 0 rfl) ?_
      refine va_get (D := (dC, dI)) (ci := 7) (v := .ref zc) (C := RX7) (T := TX7) (N := 2) hx hb hts hiX7 hown hK hP 0 rfl rfl 0 (by decide) v_2 (fun _ h9 => h9) rfl dX7_holdsTimes_21 ?_
      refine lv_iload_n hx hb dX7_holdsTimes_24 rfl (lv_at hl 2 rfl) ?_
      refine lv_aload_n hx hb dX7_holdsTimes_25 rfl (lv_at hl 0 rfl) ?_
      refine va_get (D := (dC, dI)) (ci := 7) (v := .int (nI n)) (C := RX7) (T := TX7) (N := 2) hx hb hts hiX7 hown hK hP 0 rfl rfl 1 (by decide) v_1 (fun _ h9 => h9) rfl dX7_holdsTimes_26 ?_
      refine lv_imul hx hb dX7_holdsTimes_29 ?_
      refine lv_topi (fun y_7 ey_7 => ?_)
      obtain rfl : y_7 = (nI (i_1 * n)) := ey_7.trans (pk_mul i_1 n)
      refine lv_iload_n hx hb dX7_holdsTimes_30 rfl (lv_at hl 3 rfl) ?_
      refine lv_iadd hx hb dX7_holdsTimes_31 ?_
      refine lv_topi (fun y_8 ey_8 => ?_)
      obtain rfl : y_8 = (nI ((i_1 * n) + i_4)) := ey_8.trans (nI_add (i_1 * n) i_4)
      refine va_iald hx hb hK hP 1 0 rfl rfl (vp_in_nI (n := ((i_1 * n) + i_4)) (by first | omega | exact ix_lt (by omega) (by omega) hn | exact ix_lt0 (by omega) hn | exact ix_ltq (by omega) hn | exact ix_lt1 (by omega) hn) (by omega)) dX7_holdsTimes_32 ?_
      refine lv_istore (lv' := [(4, .int (f ((nI ((i_1 * n) + i_4))).toNatClampNeg)), (0, .ref z), (1, .ref vz), (2, .int (nI i_1)), (3, .int (nI i_4))]) hx hb dX7_holdsTimes_33 hl (by decide) rfl (fun ls hl => ?_)
      refine lv_iload hx hb dX7_holdsTimes_35 (lv_at hl 0 rfl) ?_
      refine lv_ldc hx hb hown v_3 dX7_holdsTimes_37 ?_
      refine lv_icmp_eq (tgt := 63) hx hb dX7_holdsTimes_39 (by decide) (fun c_9 => ?_) (fun c_9 => ?_)
      · refine lv_iinc (v := (nI (i_4 + 1))) (lv' := [(3, .int (nI (i_4 + 1))), (4, .int (f ((nI ((i_1 * n) + i_4))).toNatClampNeg)), (0, .ref z), (1, .ref vz), (2, .int (nI i_1))]) hx hb dX7_holdsTimes_63 hl (k := 4) rfl (nI_1 _) (by decide) rfl (fun ls hl => ?_)
        refine lv_goto (tgt := 12) hx hb dX7_holdsTimes_66 (by decide) ?_
        exact ih_6 _ _ _ ⟨hP, hD, hS, lv_sub hl [2, 3, 4, 0] rfl⟩
      · refine lv_aload_n hx hb dX7_holdsTimes_42 rfl (lv_at hl 2 rfl) ?_
        refine lv_iload_n hx hb dX7_holdsTimes_43 rfl (lv_at hl 3 rfl) ?_
        refine va_iald hx hb hK hP 2 1 rfl rfl (vp_in_nI (n := i_1) (by first | omega | exact ix_lt (by omega) (by omega) hn | exact ix_lt0 (by omega) hn | exact ix_ltq (by omega) hn | exact ix_lt1 (by omega) hn) (by omega)) dX7_holdsTimes_44 ?_
        refine lv_i2l (v := (((fu ((nI i_1)).toNatClampNeg)).toInt64)) hx hb dX7_holdsTimes_45 rfl ?_
        refine lv_aload_n hx hb dX7_holdsTimes_46 rfl (lv_at hl 2 rfl) ?_
        refine lv_iload_n hx hb dX7_holdsTimes_47 rfl (lv_at hl 4 rfl) ?_
        refine va_iald hx hb hK hP 2 1 rfl rfl (vp_in_nI (n := i_4) (by first | omega | exact ix_lt (by omega) (by omega) hn | exact ix_lt0 (by omega) hn | exact ix_ltq (by omega) hn | exact ix_lt1 (by omega) hn) (by omega)) dX7_holdsTimes_48 ?_
        refine lv_i2l (v := (((fu ((nI i_4)).toNatClampNeg)).toInt64)) hx hb dX7_holdsTimes_49 rfl ?_
        refine lv_lsub hx hb dX7_holdsTimes_50 ?_
        refine lv_iload hx hb dX7_holdsTimes_51 (lv_at hl 0 rfl) ?_
        refine va_calli (va_runS (As := [.int (f ((nI ((i_1 * n) + i_4))).toNatClampNeg)]) (rest := [.long ((((fu ((nI i_1)).toNatClampNeg)).toInt64) - (((fu ((nI i_4)).toNatClampNeg)).toInt64))]) ⟨hx, hb, hml, hown, hts⟩ (c_X7_ticks l dC dI _ (f ((nI ((i_1 * n) + i_4))).toNatClampNeg)) (va_cwS 1 hts g_X7_holdsTimes_X7_ticks rfl rfl rfl (by decide +kernel) ⟨Nat.le_of_ble_eq_true rfl, Nat.le_of_ble_eq_true rfl⟩) ⟨pu_bl, pu_in (hP.sub [] rfl) (hK.sub [] rfl) (hD.sub [] (by decide) rfl)⟩ rfl rfl hl.1 rfl (lv_room (Nat.le_of_ble_eq_true rfl)) dX7_holdsTimes_53 ⟨Nat.le_of_ble_eq_true rfl, Nat.le_of_ble_eq_true rfl⟩) hS (fun q _ h => pu_fr hS hA q h) (pu_fr hS hA) (fun r_10 u t H1 locs ht hvm hw hB hz1 hk1 hS => ?_)
        have hP := pu_keep hP hk1
        clear hk1 hz1 ht hvm
        generalize H1 = H at hP hS ⊢
        refine lv_i2l (v := ((r_10).toInt64)) hx hb dX7_holdsTimes_56 rfl ?_
        refine W.lcmp hx hb dX7_holdsTimes_57 ?_
        refine lv_topi (fun y_11 ey_11 => ?_)
        refine lv_if_le (tgt := 63) hx hb dX7_holdsTimes_58 (by decide) (fun c_12 => ?_) (fun c_12 => ?_)
        · refine lv_iinc (v := (nI (i_4 + 1))) (lv' := [(3, .int (nI (i_4 + 1))), (4, .int (f ((nI ((i_1 * n) + i_4))).toNatClampNeg)), (0, .ref z), (1, .ref vz), (2, .int (nI i_1))]) hx hb dX7_holdsTimes_63 hl (k := 4) rfl (nI_1 _) (by decide) rfl (fun ls hl => ?_)
          refine lv_goto (tgt := 12) hx hb dX7_holdsTimes_66 (by decide) ?_
          exact ih_6 _ _ _ ⟨hP, hD, hS, lv_sub hl [2, 3, 4, 0] rfl⟩
        · refine lv_iconst (v := 0) hx hb dX7_holdsTimes_61 (by decide) ?_
          exact W.zret (v := 0) (ty := .boolean) hx hb hr rfl (fun t ht hW => ⟨⟨0, (), rfl, trivial, trivial⟩, hS.F ht⟩) hS.2.2 dX7_holdsTimes_62
