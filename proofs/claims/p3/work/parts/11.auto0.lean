theorem dX0_slot_0 : decode cX0_slot 0 = .ok (.iload_n 0, 1) := by decide +kernel
theorem dX0_slot_1 : decode cX0_slot 1 = .ok (.iconst 4, 1) := by decide +kernel
theorem dX0_slot_2 : decode cX0_slot 2 = .ok (.imul, 1) := by decide +kernel
theorem dX0_slot_3 : decode cX0_slot 3 = .ok (.iload_n 1, 1) := by decide +kernel
theorem dX0_slot_4 : decode cX0_slot 4 = .ok (.iadd, 1) := by decide +kernel
theorem dX0_slot_5 : decode cX0_slot 5 = .ok (.ireturn, 1) := by decide +kernel
def vs_X0_slot : List Cond := .code yX0_slot cX0_slot 2 (some .int) :: ([])
set_option maxHeartbeats 4000000 in
set_option maxRecDepth 100000 in
theorem c_X0_slot (l : Launch) (dC : Nat → ClassId) (dI : Nat → Nat → Nat) (sz : Nat) (h k : Nat) : Met l yX0_slot vs_X0_slot ({ frames := 0, cells := 0, slots := 0, locals := 0 }) (va_Pc [.int (nI h), .int (nI k)] (pu_B (dC, dI) [] [] sz)) (va_Qi (fun (r : Int32) (_ : Unit) => r = nI (h * 4 + k)) (fun _ _ => True) (va_A [] sz)) 0 0 (va_A [] sz) := by
  refine Met.ofW (cc := cX0_slot) (maxL := 2) (ret := (some .int)) (by decide) rfl ?_
  intro p e s m args below meth c s₁ B hml hv
  obtain ⟨rfl, rfl, hP, hK, hD0⟩ := hv
  have hx := B.exec
  have hb := B.bytes
  have hr := B.returns
  have hts := atoms_spec (ws := vs_X0_slot) B.pre
  have hown : s.vm.findClass RX0 = some m.cls := findClass_of_methodNamed B.named
  have hlocks := B.notSynchronized
  have hD := hD0
  have hA : ∀ q : Nat, s.heap.size ≤ q → va_A [] s.heap.size q := fun _ h => Or.inr h
  have hS : va_S (va_A [] s.heap.size) s.heap s.heap [] := va_S.rf
  have hl := lv_entry ([.int (nI h), .int (nI k)]) (n := 2) (Nat.le_of_ble_eq_true rfl)
  rw [lg_entry_eq]
  generalize (lg_sl ([.int (nI h), .int (nI k)]) ++ List.replicate (2 - (lg_sl ([.int (nI h), .int (nI k)])).length) Slot.unset).toArray = ls at hl ⊢
  have hl : lv_has ls 2 [(0, .int (nI h)), (1, .int (nI k))] := hl
  refine lv_iload_n hx hb dX0_slot_0 rfl (lv_at hl 0 rfl) ?_
  refine lv_iconst (v := 4) hx hb dX0_slot_1 (by decide) ?_
  refine lv_imul hx hb dX0_slot_2 ?_
  refine lv_topi (fun y_1 ey_1 => ?_)
  obtain rfl : y_1 = (nI (h * 4)) := ey_1.trans (pk_mul h 4)
  refine lv_iload_n hx hb dX0_slot_3 rfl (lv_at hl 1 rfl) ?_
  refine lv_iadd hx hb dX0_slot_4 ?_
  refine lv_topi (fun y_2 ey_2 => ?_)
  obtain rfl : y_2 = (nI ((h * 4) + k)) := ey_2.trans (nI_add (h * 4) k)
  exact W.iret (v := (nI ((h * 4) + k))) hx hb hr (fun t ht hW => ⟨⟨(nI ((h * 4) + k)), (), rfl, by first | rfl | decide | simp_all, trivial⟩, hS.F ht⟩) hS.2.2 dX0_slot_5
theorem dX0_hostOfPlace_0 : decode cX0_hostOfPlace 0 = .ok (.bipush 14, 2) := by decide +kernel
theorem dX0_hostOfPlace_2 : decode cX0_hostOfPlace 2 = .ok (.iload_n 0, 1) := by decide +kernel
theorem dX0_hostOfPlace_3 : decode cX0_hostOfPlace 3 = .ok (.iadd, 1) := by decide +kernel
theorem dX0_hostOfPlace_4 : decode cX0_hostOfPlace 4 = .ok (.ireturn, 1) := by decide +kernel
def vs_X0_hostOfPlace : List Cond := .code yX0_hostOfPlace cX0_hostOfPlace 1 (some .int) :: ([])
set_option maxHeartbeats 4000000 in
set_option maxRecDepth 100000 in
theorem c_X0_hostOfPlace (l : Launch) (dC : Nat → ClassId) (dI : Nat → Nat → Nat) (sz : Nat) (h : Nat) : Met l yX0_hostOfPlace vs_X0_hostOfPlace ({ frames := 0, cells := 0, slots := 0, locals := 0 }) (va_Pc [.int (nI h)] (pu_B (dC, dI) [] [] sz)) (va_Qi (fun (r : Int32) (_ : Unit) => r = nI (14 + h)) (fun _ _ => True) (va_A [] sz)) 0 0 (va_A [] sz) := by
  refine Met.ofW (cc := cX0_hostOfPlace) (maxL := 1) (ret := (some .int)) (by decide) rfl ?_
  intro p e s m args below meth c s₁ B hml hv
  obtain ⟨rfl, rfl, hP, hK, hD0⟩ := hv
  have hx := B.exec
  have hb := B.bytes
  have hr := B.returns
  have hts := atoms_spec (ws := vs_X0_hostOfPlace) B.pre
  have hown : s.vm.findClass RX0 = some m.cls := findClass_of_methodNamed B.named
  have hlocks := B.notSynchronized
  have hD := hD0
  have hA : ∀ q : Nat, s.heap.size ≤ q → va_A [] s.heap.size q := fun _ h => Or.inr h
  have hS : va_S (va_A [] s.heap.size) s.heap s.heap [] := va_S.rf
  have hl := lv_entry ([.int (nI h)]) (n := 1) (Nat.le_of_ble_eq_true rfl)
  rw [lg_entry_eq]
  generalize (lg_sl ([.int (nI h)]) ++ List.replicate (1 - (lg_sl ([.int (nI h)])).length) Slot.unset).toArray = ls at hl ⊢
  have hl : lv_has ls 1 [(0, .int (nI h))] := hl
  refine lv_bipush (v := 14) hx hb dX0_hostOfPlace_0 (by decide) ?_
  refine lv_iload_n hx hb dX0_hostOfPlace_2 rfl (lv_at hl 0 rfl) ?_
  refine lv_iadd hx hb dX0_hostOfPlace_3 ?_
  refine lv_topi (fun y_1 ey_1 => ?_)
  obtain rfl : y_1 = (nI (14 + h)) := ey_1.trans (nI_add 14 h)
  exact W.iret (v := (nI (14 + h))) hx hb hr (fun t ht hW => ⟨⟨(nI (14 + h)), (), rfl, by first | rfl | decide | simp_all, trivial⟩, hS.F ht⟩) hS.2.2 dX0_hostOfPlace_4
