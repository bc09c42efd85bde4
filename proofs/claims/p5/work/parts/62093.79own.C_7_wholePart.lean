theorem eX7_wholePart_0 : decode cX7_wholePart 0 = .ok (.iload_n 0, 1) := by decide +kernel
theorem eX7_wholePart_1 : decode cX7_wholePart 1 = .ok (.iconst 1, 1) := by decide +kernel
theorem eX7_wholePart_2 : decode cX7_wholePart 2 = .ok (.isub, 1) := by decide +kernel
theorem eX7_wholePart_3 : decode cX7_wholePart 3 = .ok (.iconst 1, 1) := by decide +kernel
theorem eX7_wholePart_4 : decode cX7_wholePart 4 = .ok (.ishr, 1) := by decide +kernel
theorem eX7_wholePart_5 : decode cX7_wholePart 5 = .ok (.ireturn, 1) := by decide +kernel
abbrev vs_C_7_wholePart : List Cond := .code yX7_wholePart cX7_wholePart 1 (some .int) :: CM
set_option maxHeartbeats 4000000 in
set_option maxRecDepth 100000 in
theorem c_C_7_wholePart (l : Launch) (dC : Nat → ClassId) (dI : Nat → Nat → Nat) (sz : Nat) (p0 : Int32)  : Met l yX7_wholePart vs_C_7_wholePart ({ frames := 0, cells := 0, slots := 0, locals := 0 }) (va_Pc [.int p0] (pu_B (dC, dI) [] [] sz)) (va_Qi (fun (r : Int32) (_ : Unit) => True) (fun _ _ => True) (va_A [] sz)) 0 0 (va_A [] sz) := by
  refine Met.ofW (cc := cX7_wholePart) (maxL := 1) (ret := (some .int)) (by decide) rfl ?_
  intro p e s m args below meth c s₁ B hml hv
  obtain ⟨rfl, rfl, hP, hK, hD0⟩ := hv
  have hx := B.exec
  have hb := B.bytes
  have hr := B.returns
  have hts := atoms_spec (ws := vs_C_7_wholePart) B.pre
  have hown : s.vm.findClass RX7 = some m.cls := findClass_of_methodNamed B.named
  have hlocks := B.notSynchronized
  have hD := hD0
  have hA : ∀ q : Nat, s.heap.size ≤ q → va_A [] s.heap.size q := fun _ h => Or.inr h
  have hS : va_S (va_A [] s.heap.size) s.heap s.heap [] := va_S.rf
  have hl := lv_entry ([.int p0]) (n := 1) (Nat.le_of_ble_eq_true rfl)
  rw [lg_entry_eq]
  generalize (lg_sl ([.int p0]) ++ List.replicate (1 - (lg_sl ([.int p0])).length) Slot.unset).toArray = ls at hl ⊢
  have hl : lv_has ls 1 [(0, .int p0)] := hl
  refine lv_iload_n hx hb eX7_wholePart_0 rfl (lv_at hl 0 rfl) ?_
  refine lv_iconst (v := 1) hx hb eX7_wholePart_1 (by decide) ?_
  refine lv_isub hx hb eX7_wholePart_2 ?_
  refine lv_topi (fun y_1 ey_1 => ?_)
  refine lv_iconst (v := 1) hx hb eX7_wholePart_3 (by decide) ?_
  refine lv_ishr hx hb eX7_wholePart_4 ?_
  refine lv_topi (fun y_2 ey_2 => ?_)
  exact W.iret (v := y_2) hx hb hr (fun t ht hW => ⟨⟨y_2, (), rfl, trivial, trivial⟩, hS.F ht⟩) hS.2.2 eX7_wholePart_5
