theorem dX9_isOf_0 : decode cX9_isOf 0 = .ok (.iload_n 0, 1) := by decide +kernel
theorem dX9_isOf_1 : decode cX9_isOf 1 = .ok (.iload_n 1, 1) := by decide +kernel
theorem dX9_isOf_2 : decode cX9_isOf 2 = .ok (.ishr, 1) := by decide +kernel
theorem dX9_isOf_3 : decode cX9_isOf 3 = .ok (.iconst 1, 1) := by decide +kernel
theorem dX9_isOf_4 : decode cX9_isOf 4 = .ok (.iand, 1) := by decide +kernel
theorem dX9_isOf_5 : decode cX9_isOf 5 = .ok (.iconst 1, 1) := by decide +kernel
theorem dX9_isOf_6 : decode cX9_isOf 6 = .ok (.if_icmp .ne 7, 3) := by decide +kernel
theorem dX9_isOf_9 : decode cX9_isOf 9 = .ok (.iconst 1, 1) := by decide +kernel
theorem dX9_isOf_10 : decode cX9_isOf 10 = .ok (.goto 4, 3) := by decide +kernel
theorem dX9_isOf_13 : decode cX9_isOf 13 = .ok (.iconst 0, 1) := by decide +kernel
theorem dX9_isOf_14 : decode cX9_isOf 14 = .ok (.ireturn, 1) := by decide +kernel
def vs_X9_isOf : List Cond := .code yX9_isOf cX9_isOf 2 (some .boolean) :: ([])
set_option maxHeartbeats 4000000 in
set_option maxRecDepth 100000 in
theorem c_X9_isOf (l : Launch) (dC : Nat → ClassId) (dI : Nat → Nat → Nat) (sz : Nat) (p0 : Int32) (p1 : Int32) : Met l yX9_isOf vs_X9_isOf ({ frames := 0, cells := 0, slots := 0, locals := 0 }) (va_Pc [.int p0, .int p1] (pu_B (dC, dI) [] [] sz)) (va_Qi (fun (r : Int32) (_ : Unit) => r = 0 ∨ r = 1) (fun _ _ => True) (va_A [] sz)) 0 0 (va_A [] sz) := by
  refine Met.ofW (cc := cX9_isOf) (maxL := 2) (ret := (some .boolean)) (by decide) rfl ?_
  intro p e s m args below meth c s₁ B hml hv
  obtain ⟨rfl, rfl, hP, hK, hD0⟩ := hv
  have hx := B.exec
  have hb := B.bytes
  have hr := B.returns
  have hts := atoms_spec (ws := vs_X9_isOf) B.pre
  have hown : s.vm.findClass RX9 = some m.cls := findClass_of_methodNamed B.named
  have hlocks := B.notSynchronized
  have hD := hD0
  have hA : ∀ q : Nat, s.heap.size ≤ q → va_A [] s.heap.size q := fun _ h => Or.inr h
  have hS : va_S (va_A [] s.heap.size) s.heap s.heap [] := va_S.rf
  have hl := lv_entry ([.int p0, .int p1]) (n := 2) (Nat.le_of_ble_eq_true rfl)
  rw [lg_entry_eq]
  generalize (lg_sl ([.int p0, .int p1]) ++ List.replicate (2 - (lg_sl ([.int p0, .int p1])).length) Slot.unset).toArray = ls at hl ⊢
  have hl : lv_has ls 2 [(0, .int p0), (1, .int p1)] := hl
  refine lv_iload_n hx hb dX9_isOf_0 rfl (lv_at hl 0 rfl) ?_
  refine lv_iload_n hx hb dX9_isOf_1 rfl (lv_at hl 1 rfl) ?_
  refine lv_ishr hx hb dX9_isOf_2 ?_
  refine lv_iconst (v := 1) hx hb dX9_isOf_3 (by decide) ?_
  refine lv_iand hx hb dX9_isOf_4 ?_
  refine lv_iconst (v := 1) hx hb dX9_isOf_5 (by decide) ?_
  refine lv_icmp_ne (tgt := 13) hx hb dX9_isOf_6 (by decide) (fun c_1 => ?_) (fun c_1 => ?_)
  · refine lv_iconst (v := 0) hx hb dX9_isOf_13 (by decide) ?_
    exact W.zret (v := 0) (ty := .boolean) hx hb hr rfl (fun t ht hW => ⟨⟨0, (), rfl, by first | rfl | decide | simp_all, trivial⟩, hS.F ht⟩) hS.2.2 dX9_isOf_14
  · refine lv_iconst (v := 1) hx hb dX9_isOf_9 (by decide) ?_
    refine lv_goto (tgt := 14) hx hb dX9_isOf_10 (by decide) ?_
    exact W.zret (v := 1) (ty := .boolean) hx hb hr rfl (fun t ht hW => ⟨⟨1, (), rfl, by first | rfl | decide | simp_all, trivial⟩, hS.F ht⟩) hS.2.2 dX9_isOf_14
theorem dX9_isSmall_0 : decode cX9_isSmall 0 = .ok (.iload_n 0, 1) := by decide +kernel
theorem dX9_isSmall_1 : decode cX9_isSmall 1 = .ok (.bipush 97, 2) := by decide +kernel
theorem dX9_isSmall_3 : decode cX9_isSmall 3 = .ok (.if_icmp .lt 13, 3) := by decide +kernel
theorem dX9_isSmall_6 : decode cX9_isSmall 6 = .ok (.iload_n 0, 1) := by decide +kernel
theorem dX9_isSmall_7 : decode cX9_isSmall 7 = .ok (.bipush 122, 2) := by decide +kernel
theorem dX9_isSmall_9 : decode cX9_isSmall 9 = .ok (.if_icmp .gt 7, 3) := by decide +kernel
theorem dX9_isSmall_12 : decode cX9_isSmall 12 = .ok (.iconst 1, 1) := by decide +kernel
theorem dX9_isSmall_13 : decode cX9_isSmall 13 = .ok (.goto 4, 3) := by decide +kernel
theorem dX9_isSmall_16 : decode cX9_isSmall 16 = .ok (.iconst 0, 1) := by decide +kernel
theorem dX9_isSmall_17 : decode cX9_isSmall 17 = .ok (.ireturn, 1) := by decide +kernel
def vs_X9_isSmall : List Cond := .code yX9_isSmall cX9_isSmall 1 (some .boolean) :: ([])
set_option maxHeartbeats 4000000 in
set_option maxRecDepth 100000 in
theorem c_X9_isSmall (l : Launch) (dC : Nat → ClassId) (dI : Nat → Nat → Nat) (sz : Nat) (p0 : Int32) : Met l yX9_isSmall vs_X9_isSmall ({ frames := 0, cells := 0, slots := 0, locals := 0 }) (va_Pc [.int p0] (pu_B (dC, dI) [] [] sz)) (va_Qi (fun (r : Int32) (_ : Unit) => r = 0 ∨ r = 1) (fun _ _ => True) (va_A [] sz)) 0 0 (va_A [] sz) := by
  refine Met.ofW (cc := cX9_isSmall) (maxL := 1) (ret := (some .boolean)) (by decide) rfl ?_
  intro p e s m args below meth c s₁ B hml hv
  obtain ⟨rfl, rfl, hP, hK, hD0⟩ := hv
  have hx := B.exec
  have hb := B.bytes
  have hr := B.returns
  have hts := atoms_spec (ws := vs_X9_isSmall) B.pre
  have hown : s.vm.findClass RX9 = some m.cls := findClass_of_methodNamed B.named
  have hlocks := B.notSynchronized
  have hD := hD0
  have hA : ∀ q : Nat, s.heap.size ≤ q → va_A [] s.heap.size q := fun _ h => Or.inr h
  have hS : va_S (va_A [] s.heap.size) s.heap s.heap [] := va_S.rf
  have hl := lv_entry ([.int p0]) (n := 1) (Nat.le_of_ble_eq_true rfl)
  rw [lg_entry_eq]
  generalize (lg_sl ([.int p0]) ++ List.replicate (1 - (lg_sl ([.int p0])).length) Slot.unset).toArray = ls at hl ⊢
  have hl : lv_has ls 1 [(0, .int p0)] := hl
  refine lv_iload_n hx hb dX9_isSmall_0 rfl (lv_at hl 0 rfl) ?_
  refine lv_bipush (v := 97) hx hb dX9_isSmall_1 (by decide) ?_
  refine lv_icmp_lt (tgt := 16) hx hb dX9_isSmall_3 (by decide) (fun c_1 => ?_) (fun c_1 => ?_)
  · refine lv_iconst (v := 0) hx hb dX9_isSmall_16 (by decide) ?_
    exact W.zret (v := 0) (ty := .boolean) hx hb hr rfl (fun t ht hW => ⟨⟨0, (), rfl, by first | rfl | decide | simp_all, trivial⟩, hS.F ht⟩) hS.2.2 dX9_isSmall_17
  · refine lv_iload_n hx hb dX9_isSmall_6 rfl (lv_at hl 0 rfl) ?_
    refine lv_bipush (v := 122) hx hb dX9_isSmall_7 (by decide) ?_
    refine lv_icmp_gt (tgt := 16) hx hb dX9_isSmall_9 (by decide) (fun c_2 => ?_) (fun c_2 => ?_)
    · refine lv_iconst (v := 0) hx hb dX9_isSmall_16 (by decide) ?_
      exact W.zret (v := 0) (ty := .boolean) hx hb hr rfl (fun t ht hW => ⟨⟨0, (), rfl, by first | rfl | decide | simp_all, trivial⟩, hS.F ht⟩) hS.2.2 dX9_isSmall_17
    · refine lv_iconst (v := 1) hx hb dX9_isSmall_12 (by decide) ?_
      refine lv_goto (tgt := 17) hx hb dX9_isSmall_13 (by decide) ?_
      exact W.zret (v := 1) (ty := .boolean) hx hb hr rfl (fun t ht hW => ⟨⟨1, (), rfl, by first | rfl | decide | simp_all, trivial⟩, hS.F ht⟩) hS.2.2 dX9_isSmall_17
theorem dX9_isDigit_0 : decode cX9_isDigit 0 = .ok (.iload_n 0, 1) := by decide +kernel
theorem dX9_isDigit_1 : decode cX9_isDigit 1 = .ok (.bipush 48, 2) := by decide +kernel
theorem dX9_isDigit_3 : decode cX9_isDigit 3 = .ok (.if_icmp .lt 13, 3) := by decide +kernel
theorem dX9_isDigit_6 : decode cX9_isDigit 6 = .ok (.iload_n 0, 1) := by decide +kernel
theorem dX9_isDigit_7 : decode cX9_isDigit 7 = .ok (.bipush 57, 2) := by decide +kernel
theorem dX9_isDigit_9 : decode cX9_isDigit 9 = .ok (.if_icmp .gt 7, 3) := by decide +kernel
theorem dX9_isDigit_12 : decode cX9_isDigit 12 = .ok (.iconst 1, 1) := by decide +kernel
theorem dX9_isDigit_13 : decode cX9_isDigit 13 = .ok (.goto 4, 3) := by decide +kernel
theorem dX9_isDigit_16 : decode cX9_isDigit 16 = .ok (.iconst 0, 1) := by decide +kernel
theorem dX9_isDigit_17 : decode cX9_isDigit 17 = .ok (.ireturn, 1) := by decide +kernel
def vs_X9_isDigit : List Cond := .code yX9_isDigit cX9_isDigit 1 (some .boolean) :: ([])
set_option maxHeartbeats 4000000 in
set_option maxRecDepth 100000 in
theorem c_X9_isDigit (l : Launch) (dC : Nat → ClassId) (dI : Nat → Nat → Nat) (sz : Nat) (p0 : Int32) : Met l yX9_isDigit vs_X9_isDigit ({ frames := 0, cells := 0, slots := 0, locals := 0 }) (va_Pc [.int p0] (pu_B (dC, dI) [] [] sz)) (va_Qi (fun (r : Int32) (_ : Unit) => r = 0 ∨ r = 1) (fun _ _ => True) (va_A [] sz)) 0 0 (va_A [] sz) := by
  refine Met.ofW (cc := cX9_isDigit) (maxL := 1) (ret := (some .boolean)) (by decide) rfl ?_
  intro p e s m args below meth c s₁ B hml hv
  obtain ⟨rfl, rfl, hP, hK, hD0⟩ := hv
  have hx := B.exec
  have hb := B.bytes
  have hr := B.returns
  have hts := atoms_spec (ws := vs_X9_isDigit) B.pre
  have hown : s.vm.findClass RX9 = some m.cls := findClass_of_methodNamed B.named
  have hlocks := B.notSynchronized
  have hD := hD0
  have hA : ∀ q : Nat, s.heap.size ≤ q → va_A [] s.heap.size q := fun _ h => Or.inr h
  have hS : va_S (va_A [] s.heap.size) s.heap s.heap [] := va_S.rf
  have hl := lv_entry ([.int p0]) (n := 1) (Nat.le_of_ble_eq_true rfl)
  rw [lg_entry_eq]
  generalize (lg_sl ([.int p0]) ++ List.replicate (1 - (lg_sl ([.int p0])).length) Slot.unset).toArray = ls at hl ⊢
  have hl : lv_has ls 1 [(0, .int p0)] := hl
  refine lv_iload_n hx hb dX9_isDigit_0 rfl (lv_at hl 0 rfl) ?_
  refine lv_bipush (v := 48) hx hb dX9_isDigit_1 (by decide) ?_
  refine lv_icmp_lt (tgt := 16) hx hb dX9_isDigit_3 (by decide) (fun c_1 => ?_) (fun c_1 => ?_)
  · refine lv_iconst (v := 0) hx hb dX9_isDigit_16 (by decide) ?_
    exact W.zret (v := 0) (ty := .boolean) hx hb hr rfl (fun t ht hW => ⟨⟨0, (), rfl, by first | rfl | decide | simp_all, trivial⟩, hS.F ht⟩) hS.2.2 dX9_isDigit_17
  · refine lv_iload_n hx hb dX9_isDigit_6 rfl (lv_at hl 0 rfl) ?_
    refine lv_bipush (v := 57) hx hb dX9_isDigit_7 (by decide) ?_
    refine lv_icmp_gt (tgt := 16) hx hb dX9_isDigit_9 (by decide) (fun c_2 => ?_) (fun c_2 => ?_)
    · refine lv_iconst (v := 0) hx hb dX9_isDigit_16 (by decide) ?_
      exact W.zret (v := 0) (ty := .boolean) hx hb hr rfl (fun t ht hW => ⟨⟨0, (), rfl, by first | rfl | decide | simp_all, trivial⟩, hS.F ht⟩) hS.2.2 dX9_isDigit_17
    · refine lv_iconst (v := 1) hx hb dX9_isDigit_12 (by decide) ?_
      refine lv_goto (tgt := 17) hx hb dX9_isDigit_13 (by decide) ?_
      exact W.zret (v := 1) (ty := .boolean) hx hb hr rfl (fun t ht hW => ⟨⟨1, (), rfl, by first | rfl | decide | simp_all, trivial⟩, hS.F ht⟩) hS.2.2 dX9_isDigit_17
theorem dX9_lesser_0 : decode cX9_lesser 0 = .ok (.iload_n 0, 1) := by decide +kernel
theorem dX9_lesser_1 : decode cX9_lesser 1 = .ok (.iload_n 1, 1) := by decide +kernel
theorem dX9_lesser_2 : decode cX9_lesser 2 = .ok (.if_icmp .ge 7, 3) := by decide +kernel
theorem dX9_lesser_5 : decode cX9_lesser 5 = .ok (.iload_n 0, 1) := by decide +kernel
theorem dX9_lesser_6 : decode cX9_lesser 6 = .ok (.goto 4, 3) := by decide +kernel
theorem dX9_lesser_9 : decode cX9_lesser 9 = .ok (.iload_n 1, 1) := by decide +kernel
theorem dX9_lesser_10 : decode cX9_lesser 10 = .ok (.ireturn, 1) := by decide +kernel
def vs_X9_lesser : List Cond := .code yX9_lesser cX9_lesser 2 (some .int) :: ([])
set_option maxHeartbeats 4000000 in
set_option maxRecDepth 100000 in
theorem c_X9_lesser (l : Launch) (dC : Nat → ClassId) (dI : Nat → Nat → Nat) (sz : Nat) (p0 : Int32) (p1 : Int32) : Met l yX9_lesser vs_X9_lesser ({ frames := 0, cells := 0, slots := 0, locals := 0 }) (va_Pc [.int p0, .int p1] (pu_B (dC, dI) [] [] sz)) (va_Qi (fun (r : Int32) (_ : Unit) => True) (fun _ _ => True) (va_A [] sz)) 0 0 (va_A [] sz) := by
  refine Met.ofW (cc := cX9_lesser) (maxL := 2) (ret := (some .int)) (by decide) rfl ?_
  intro p e s m args below meth c s₁ B hml hv
  obtain ⟨rfl, rfl, hP, hK, hD0⟩ := hv
  have hx := B.exec
  have hb := B.bytes
  have hr := B.returns
  have hts := atoms_spec (ws := vs_X9_lesser) B.pre
  have hown : s.vm.findClass RX9 = some m.cls := findClass_of_methodNamed B.named
  have hlocks := B.notSynchronized
  have hD := hD0
  have hA : ∀ q : Nat, s.heap.size ≤ q → va_A [] s.heap.size q := fun _ h => Or.inr h
  have hS : va_S (va_A [] s.heap.size) s.heap s.heap [] := va_S.rf
  have hl := lv_entry ([.int p0, .int p1]) (n := 2) (Nat.le_of_ble_eq_true rfl)
  rw [lg_entry_eq]
  generalize (lg_sl ([.int p0, .int p1]) ++ List.replicate (2 - (lg_sl ([.int p0, .int p1])).length) Slot.unset).toArray = ls at hl ⊢
  have hl : lv_has ls 2 [(0, .int p0), (1, .int p1)] := hl
  refine lv_iload_n hx hb dX9_lesser_0 rfl (lv_at hl 0 rfl) ?_
  refine lv_iload_n hx hb dX9_lesser_1 rfl (lv_at hl 1 rfl) ?_
  refine lv_icmp_ge (tgt := 9) hx hb dX9_lesser_2 (by decide) (fun c_1 => ?_) (fun c_1 => ?_)
  · refine lv_iload_n hx hb dX9_lesser_9 rfl (lv_at hl 1 rfl) ?_
    exact W.iret (v := p1) hx hb hr (fun t ht hW => ⟨⟨p1, (), rfl, trivial, trivial⟩, hS.F ht⟩) hS.2.2 dX9_lesser_10
  · refine lv_iload_n hx hb dX9_lesser_5 rfl (lv_at hl 0 rfl) ?_
    refine lv_goto (tgt := 10) hx hb dX9_lesser_6 (by decide) ?_
    exact W.iret (v := p0) hx hb hr (fun t ht hW => ⟨⟨p0, (), rfl, trivial, trivial⟩, hS.F ht⟩) hS.2.2 dX9_lesser_10
theorem dX9_greater_0 : decode cX9_greater 0 = .ok (.iload_n 0, 1) := by decide +kernel
theorem dX9_greater_1 : decode cX9_greater 1 = .ok (.iload_n 1, 1) := by decide +kernel
theorem dX9_greater_2 : decode cX9_greater 2 = .ok (.if_icmp .le 7, 3) := by decide +kernel
theorem dX9_greater_5 : decode cX9_greater 5 = .ok (.iload_n 0, 1) := by decide +kernel
theorem dX9_greater_6 : decode cX9_greater 6 = .ok (.goto 4, 3) := by decide +kernel
theorem dX9_greater_9 : decode cX9_greater 9 = .ok (.iload_n 1, 1) := by decide +kernel
theorem dX9_greater_10 : decode cX9_greater 10 = .ok (.ireturn, 1) := by decide +kernel
def vs_X9_greater : List Cond := .code yX9_greater cX9_greater 2 (some .int) :: ([])
set_option maxHeartbeats 4000000 in
set_option maxRecDepth 100000 in
theorem c_X9_greater (l : Launch) (dC : Nat → ClassId) (dI : Nat → Nat → Nat) (sz : Nat) (p0 : Int32) (p1 : Int32) : Met l yX9_greater vs_X9_greater ({ frames := 0, cells := 0, slots := 0, locals := 0 }) (va_Pc [.int p0, .int p1] (pu_B (dC, dI) [] [] sz)) (va_Qi (fun (r : Int32) (_ : Unit) => True) (fun _ _ => True) (va_A [] sz)) 0 0 (va_A [] sz) := by
  refine Met.ofW (cc := cX9_greater) (maxL := 2) (ret := (some .int)) (by decide) rfl ?_
  intro p e s m args below meth c s₁ B hml hv
  obtain ⟨rfl, rfl, hP, hK, hD0⟩ := hv
  have hx := B.exec
  have hb := B.bytes
  have hr := B.returns
  have hts := atoms_spec (ws := vs_X9_greater) B.pre
  have hown : s.vm.findClass RX9 = some m.cls := findClass_of_methodNamed B.named
  have hlocks := B.notSynchronized
  have hD := hD0
  have hA : ∀ q : Nat, s.heap.size ≤ q → va_A [] s.heap.size q := fun _ h => Or.inr h
  have hS : va_S (va_A [] s.heap.size) s.heap s.heap [] := va_S.rf
  have hl := lv_entry ([.int p0, .int p1]) (n := 2) (Nat.le_of_ble_eq_true rfl)
  rw [lg_entry_eq]
  generalize (lg_sl ([.int p0, .int p1]) ++ List.replicate (2 - (lg_sl ([.int p0, .int p1])).length) Slot.unset).toArray = ls at hl ⊢
  have hl : lv_has ls 2 [(0, .int p0), (1, .int p1)] := hl
  refine lv_iload_n hx hb dX9_greater_0 rfl (lv_at hl 0 rfl) ?_
  refine lv_iload_n hx hb dX9_greater_1 rfl (lv_at hl 1 rfl) ?_
  refine lv_icmp_le (tgt := 9) hx hb dX9_greater_2 (by decide) (fun c_1 => ?_) (fun c_1 => ?_)
  · refine lv_iload_n hx hb dX9_greater_9 rfl (lv_at hl 1 rfl) ?_
    exact W.iret (v := p1) hx hb hr (fun t ht hW => ⟨⟨p1, (), rfl, trivial, trivial⟩, hS.F ht⟩) hS.2.2 dX9_greater_10
  · refine lv_iload_n hx hb dX9_greater_5 rfl (lv_at hl 0 rfl) ?_
    refine lv_goto (tgt := 10) hx hb dX9_greater_6 (by decide) ?_
    exact W.iret (v := p0) hx hb hr (fun t ht hW => ⟨⟨p0, (), rfl, trivial, trivial⟩, hS.F ht⟩) hS.2.2 dX9_greater_10
theorem dX9_together_0 : decode cX9_together 0 = .ok (.iload_n 0, 1) := by decide +kernel
theorem dX9_together_1 : decode cX9_together 1 = .ok (.ldc_w 327, 3) := by decide +kernel
theorem dX9_together_4 : decode cX9_together 4 = .ok (.if_icmp .ge 10, 3) := by decide +kernel
theorem dX9_together_7 : decode cX9_together 7 = .ok (.iload_n 1, 1) := by decide +kernel
theorem dX9_together_8 : decode cX9_together 8 = .ok (.ldc_w 327, 3) := by decide +kernel
theorem dX9_together_11 : decode cX9_together 11 = .ok (.if_icmp .lt 9, 3) := by decide +kernel
theorem dX9_together_14 : decode cX9_together 14 = .ok (.ldc_w 327, 3) := by decide +kernel
theorem dX9_together_17 : decode cX9_together 17 = .ok (.goto 12, 3) := by decide +kernel
theorem dX9_together_20 : decode cX9_together 20 = .ok (.iload_n 0, 1) := by decide +kernel
theorem dX9_together_21 : decode cX9_together 21 = .ok (.iload_n 1, 1) := by decide +kernel
theorem dX9_together_22 : decode cX9_together 22 = .ok (.iadd, 1) := by decide +kernel
theorem dX9_together_23 : decode cX9_together 23 = .ok (.iload_n 0, 1) := by decide +kernel
theorem dX9_together_24 : decode cX9_together 24 = .ok (.iload_n 1, 1) := by decide +kernel
theorem dX9_together_25 : decode cX9_together 25 = .ok (.ior, 1) := by decide +kernel
theorem dX9_together_26 : decode cX9_together 26 = .ok (.iconst 1, 1) := by decide +kernel
theorem dX9_together_27 : decode cX9_together 27 = .ok (.iand, 1) := by decide +kernel
theorem dX9_together_28 : decode cX9_together 28 = .ok (.isub, 1) := by decide +kernel
theorem dX9_together_29 : decode cX9_together 29 = .ok (.ireturn, 1) := by decide +kernel
def vs_X9_together : List Cond := .code yX9_together cX9_together 2 (some .int) :: ([.constant RX9 327 (1048576)])
set_option maxHeartbeats 4000000 in
set_option maxRecDepth 100000 in
theorem c_X9_together (l : Launch) (dC : Nat → ClassId) (dI : Nat → Nat → Nat) (sz : Nat) (p0 : Int32) (p1 : Int32) : Met l yX9_together vs_X9_together ({ frames := 0, cells := 0, slots := 0, locals := 0 }) (va_Pc [.int p0, .int p1] (pu_B (dC, dI) [] [] sz)) (va_Qi (fun (r : Int32) (_ : Unit) => True) (fun _ _ => True) (va_A [] sz)) 0 0 (va_A [] sz) := by
  refine Met.ofW (cc := cX9_together) (maxL := 2) (ret := (some .int)) (by decide) rfl ?_
  intro p e s m args below meth c s₁ B hml hv
  obtain ⟨rfl, rfl, hP, hK, hD0⟩ := hv
  have hx := B.exec
  have hb := B.bytes
  have hr := B.returns
  have hts := atoms_spec (ws := vs_X9_together) B.pre
  have v_1 := hts (.constant RX9 327 (1048576)) (List.mem_of_getElem? (i := 1) rfl)
  have hown : s.vm.findClass RX9 = some m.cls := findClass_of_methodNamed B.named
  have hlocks := B.notSynchronized
  have hD := hD0
  have hA : ∀ q : Nat, s.heap.size ≤ q → va_A [] s.heap.size q := fun _ h => Or.inr h
  have hS : va_S (va_A [] s.heap.size) s.heap s.heap [] := va_S.rf
  have hl := lv_entry ([.int p0, .int p1]) (n := 2) (Nat.le_of_ble_eq_true rfl)
  rw [lg_entry_eq]
  generalize (lg_sl ([.int p0, .int p1]) ++ List.replicate (2 - (lg_sl ([.int p0, .int p1])).length) Slot.unset).toArray = ls at hl ⊢
  have hl : lv_has ls 2 [(0, .int p0), (1, .int p1)] := hl
  refine lv_iload_n hx hb dX9_together_0 rfl (lv_at hl 0 rfl) ?_
  refine lv_ldcw hx hb hown v_1 dX9_together_1 ?_
  refine lv_icmp_ge (tgt := 14) hx hb dX9_together_4 (by decide) (fun c_1 => ?_) (fun c_1 => ?_)
  · refine lv_ldcw hx hb hown v_1 dX9_together_14 ?_
    refine lv_goto (tgt := 29) hx hb dX9_together_17 (by decide) ?_
    exact W.iret (v := 1048576) hx hb hr (fun t ht hW => ⟨⟨1048576, (), rfl, trivial, trivial⟩, hS.F ht⟩) hS.2.2 dX9_together_29
  · refine lv_iload_n hx hb dX9_together_7 rfl (lv_at hl 1 rfl) ?_
    refine lv_ldcw hx hb hown v_1 dX9_together_8 ?_
    refine lv_icmp_lt (tgt := 20) hx hb dX9_together_11 (by decide) (fun c_2 => ?_) (fun c_2 => ?_)
    · refine lv_iload_n hx hb dX9_together_20 rfl (lv_at hl 0 rfl) ?_
      refine lv_iload_n hx hb dX9_together_21 rfl (lv_at hl 1 rfl) ?_
      refine lv_iadd hx hb dX9_together_22 ?_
      refine lv_iload_n hx hb dX9_together_23 rfl (lv_at hl 0 rfl) ?_
      refine lv_iload_n hx hb dX9_together_24 rfl (lv_at hl 1 rfl) ?_
      refine lv_ior hx hb dX9_together_25 ?_
      refine lv_iconst (v := 1) hx hb dX9_together_26 (by decide) ?_
      refine lv_iand hx hb dX9_together_27 ?_
      refine lv_isub hx hb dX9_together_28 ?_
      exact W.iret (v := ((p0 + p1) - ((p0 ||| p1) &&& 1))) hx hb hr (fun t ht hW => ⟨⟨((p0 + p1) - ((p0 ||| p1) &&& 1)), (), rfl, trivial, trivial⟩, hS.F ht⟩) hS.2.2 dX9_together_29
    · refine lv_ldcw hx hb hown v_1 dX9_together_14 ?_
      refine lv_goto (tgt := 29) hx hb dX9_together_17 (by decide) ?_
      exact W.iret (v := 1048576) hx hb hr (fun t ht hW => ⟨⟨1048576, (), rfl, trivial, trivial⟩, hS.F ht⟩) hS.2.2 dX9_together_29
theorem dX9_timesOf_0 : decode cX9_timesOf 0 = .ok (.sipush 256, 3) := by decide +kernel
theorem dX9_timesOf_3 : decode cX9_timesOf 3 = .ok (.iload_n 0, 1) := by decide +kernel
theorem dX9_timesOf_4 : decode cX9_timesOf 4 = .ok (.iconst 1, 1) := by decide +kernel
theorem dX9_timesOf_5 : decode cX9_timesOf 5 = .ok (.ishr, 1) := by decide +kernel
theorem dX9_timesOf_6 : decode cX9_timesOf 6 = .ok (.imul, 1) := by decide +kernel
theorem dX9_timesOf_7 : decode cX9_timesOf 7 = .ok (.iconst 1, 1) := by decide +kernel
theorem dX9_timesOf_8 : decode cX9_timesOf 8 = .ok (.isub, 1) := by decide +kernel
theorem dX9_timesOf_9 : decode cX9_timesOf 9 = .ok (.iload_n 0, 1) := by decide +kernel
theorem dX9_timesOf_10 : decode cX9_timesOf 10 = .ok (.iconst 1, 1) := by decide +kernel
theorem dX9_timesOf_11 : decode cX9_timesOf 11 = .ok (.iand, 1) := by decide +kernel
theorem dX9_timesOf_12 : decode cX9_timesOf 12 = .ok (.iadd, 1) := by decide +kernel
theorem dX9_timesOf_13 : decode cX9_timesOf 13 = .ok (.ireturn, 1) := by decide +kernel
def vs_X9_timesOf : List Cond := .code yX9_timesOf cX9_timesOf 1 (some .int) :: ([])
set_option maxHeartbeats 4000000 in
set_option maxRecDepth 100000 in
theorem c_X9_timesOf (l : Launch) (dC : Nat → ClassId) (dI : Nat → Nat → Nat) (sz : Nat) (p0 : Int32) : Met l yX9_timesOf vs_X9_timesOf ({ frames := 0, cells := 0, slots := 0, locals := 0 }) (va_Pc [.int p0] (pu_B (dC, dI) [] [] sz)) (va_Qi (fun (r : Int32) (_ : Unit) => True) (fun _ _ => True) (va_A [] sz)) 0 0 (va_A [] sz) := by
  refine Met.ofW (cc := cX9_timesOf) (maxL := 1) (ret := (some .int)) (by decide) rfl ?_
  intro p e s m args below meth c s₁ B hml hv
  obtain ⟨rfl, rfl, hP, hK, hD0⟩ := hv
  have hx := B.exec
  have hb := B.bytes
  have hr := B.returns
  have hts := atoms_spec (ws := vs_X9_timesOf) B.pre
  have hown : s.vm.findClass RX9 = some m.cls := findClass_of_methodNamed B.named
  have hlocks := B.notSynchronized
  have hD := hD0
  have hA : ∀ q : Nat, s.heap.size ≤ q → va_A [] s.heap.size q := fun _ h => Or.inr h
  have hS : va_S (va_A [] s.heap.size) s.heap s.heap [] := va_S.rf
  have hl := lv_entry ([.int p0]) (n := 1) (Nat.le_of_ble_eq_true rfl)
  rw [lg_entry_eq]
  generalize (lg_sl ([.int p0]) ++ List.replicate (1 - (lg_sl ([.int p0])).length) Slot.unset).toArray = ls at hl ⊢
  have hl : lv_has ls 1 [(0, .int p0)] := hl
  refine lv_sipush (v := 256) hx hb dX9_timesOf_0 (by decide) ?_
  refine lv_iload_n hx hb dX9_timesOf_3 rfl (lv_at hl 0 rfl) ?_
  refine lv_iconst (v := 1) hx hb dX9_timesOf_4 (by decide) ?_
  refine lv_ishr hx hb dX9_timesOf_5 ?_
  refine lv_imul hx hb dX9_timesOf_6 ?_
  refine lv_iconst (v := 1) hx hb dX9_timesOf_7 (by decide) ?_
  refine lv_isub hx hb dX9_timesOf_8 ?_
  refine lv_iload_n hx hb dX9_timesOf_9 rfl (lv_at hl 0 rfl) ?_
  refine lv_iconst (v := 1) hx hb dX9_timesOf_10 (by decide) ?_
  refine lv_iand hx hb dX9_timesOf_11 ?_
  refine lv_iadd hx hb dX9_timesOf_12 ?_
  exact W.iret (v := (((256 * ((p0 : Int32) >>> ((1 : Int32) &&& 31))) - 1) + (p0 &&& 1))) hx hb hr (fun t ht hW => ⟨⟨(((256 * ((p0 : Int32) >>> ((1 : Int32) &&& 31))) - 1) + (p0 &&& 1)), (), rfl, trivial, trivial⟩, hS.F ht⟩) hS.2.2 dX9_timesOf_13
theorem dX9_copies_0 : decode cX9_copies 0 = .ok (.iconst 0, 1) := by decide +kernel
theorem dX9_copies_1 : decode cX9_copies 1 = .ok (.istore 4, 2) := by decide +kernel
theorem dX9_copies_3 : decode cX9_copies 3 = .ok (.iload 4, 2) := by decide +kernel
theorem dX9_copies_5 : decode cX9_copies 5 = .ok (.bipush 25, 2) := by decide +kernel
theorem dX9_copies_7 : decode cX9_copies 7 = .ok (.if_icmp .ge 21, 3) := by decide +kernel
theorem dX9_copies_10 : decode cX9_copies 10 = .ok (.aload_n 2, 1) := by decide +kernel
theorem dX9_copies_11 : decode cX9_copies 11 = .ok (.iload_n 3, 1) := by decide +kernel
theorem dX9_copies_12 : decode cX9_copies 12 = .ok (.iload 4, 2) := by decide +kernel
theorem dX9_copies_14 : decode cX9_copies 14 = .ok (.iadd, 1) := by decide +kernel
theorem dX9_copies_15 : decode cX9_copies 15 = .ok (.aload_n 0, 1) := by decide +kernel
theorem dX9_copies_16 : decode cX9_copies 16 = .ok (.iload_n 1, 1) := by decide +kernel
theorem dX9_copies_17 : decode cX9_copies 17 = .ok (.iload 4, 2) := by decide +kernel
theorem dX9_copies_19 : decode cX9_copies 19 = .ok (.iadd, 1) := by decide +kernel
theorem dX9_copies_20 : decode cX9_copies 20 = .ok (.iaload, 1) := by decide +kernel
theorem dX9_copies_21 : decode cX9_copies 21 = .ok (.iastore, 1) := by decide +kernel
theorem dX9_copies_22 : decode cX9_copies 22 = .ok (.iinc 4 1, 3) := by decide +kernel
theorem dX9_copies_25 : decode cX9_copies 25 = .ok (.goto (-22), 3) := by decide +kernel
theorem dX9_copies_28 : decode cX9_copies 28 = .ok (.return_, 1) := by decide +kernel
def vs_X9_copies : List Cond := .code yX9_copies cX9_copies 5 none :: ([])
set_option maxHeartbeats 4000000 in
set_option maxRecDepth 100000 in
theorem c_X9_copies (l : Launch) (dC : Nat → ClassId) (dI : Nat → Nat → Nat) (sz : Nat) (a1 b1 : Nat) (ka kb : ClassId) (Na Nb : Nat) (fa fb : Nat → Int32) (i j : Nat) (hi : i + 25 ≤ Na) (hj : j + 25 ≤ Nb) (ha : Na ≤ 60000) (hb9 : Nb ≤ 60000) : Met l yX9_copies vs_X9_copies ({ frames := 0, cells := 0, slots := 0, locals := 0 }) (va_Pc [.ref a1, .int (nI i), .ref b1, .int (nI j)] (pu_B (dC, dI) [(a1, .inl (ka, Na, .inl fa)), (b1, .inl (kb, Nb, .inl fb))] [(ka, .int), (kb, .int)] sz)) (va_Qv (fun (_ : Unit) => True) (fun _ t => ∃ (g : Nat → Int32), pu_E (dC, dI) [(a1, .inl (ka, Na, .inl fa)), (b1, .inl (kb, Nb, .inl g))] [(ka, .int), (kb, .int)] (va_A ([(a1, .inl (ka, Na, .inl fa)), (b1, .inl (kb, Nb, .inl fb))]) sz) t) (va_A ([(a1, .inl (ka, Na, .inl fa)), (b1, .inl (kb, Nb, .inl fb))]) sz)) 0 0 (va_A ([(a1, .inl (ka, Na, .inl fa)), (b1, .inl (kb, Nb, .inl fb))]) sz) := by
  refine Met.ofW (cc := cX9_copies) (maxL := 5) (ret := none) (by decide) rfl ?_
  intro p e s m args below meth c s₁ B hml hv
  obtain ⟨rfl, rfl, hP, hK, hD0⟩ := hv
  have hx := B.exec
  have hb := B.bytes
  have hr := B.returns
  have hts := atoms_spec (ws := vs_X9_copies) B.pre
  have hown : s.vm.findClass RX9 = some m.cls := findClass_of_methodNamed B.named
  have hlocks := B.notSynchronized
  have hD := hD0.self (sz := s.heap.size)
  generalize hAe : va_A ([(a1, .inl (ka, Na, .inl fa)), (b1, .inl (kb, Nb, .inl fb))]) s.heap.size = A at hD ⊢
  have hA : ∀ q : Nat, s.heap.size ≤ q → A q := fun q h => by rw [← hAe]; exact Or.inr h
  have hS : va_S A s.heap s.heap [] := va_S.rf
  have hl := lv_entry ([.ref a1, .int (nI i), .ref b1, .int (nI j)]) (n := 5) (Nat.le_of_ble_eq_true rfl)
  rw [lg_entry_eq]
  generalize (lg_sl ([.ref a1, .int (nI i), .ref b1, .int (nI j)]) ++ List.replicate (5 - (lg_sl ([.ref a1, .int (nI i), .ref b1, .int (nI j)])).length) Slot.unset).toArray = ls at hl ⊢
  have hl : lv_has ls 5 [(0, .ref a1), (1, .int (nI i)), (2, .ref b1), (3, .int (nI j))] := hl
  refine lv_iconst (v := 0) hx hb dX9_copies_0 (by decide) ?_
  refine lv_istore (lv' := [(4, .int 0), (0, .ref a1), (1, .int (nI i)), (2, .ref b1), (3, .int (nI j))]) hx hb dX9_copies_1 hl (by decide) rfl (fun ls hl => ?_)
  refine pu_loop (25) (fun ii H locs ls => ∃ f0 : Nat → Int32, va_P (dC, dI) vwCl [(a1, .inl (ka, Na, .inl fa)), (b1, .inl (kb, Nb, .inl f0))] H ∧ va_D A [(a1, .inl (ka, Na, .inl fa)), (b1, .inl (kb, Nb, .inl f0))] ∧ va_S A s.heap H locs ∧ lv_has ls 5 [(0, .ref a1), (1, .int (nI i)), (2, .ref b1), (3, .int (nI j)), (4, .int (nI ii))]) (fun _ => 0) (fun _ => 0) 3 [] ?_ ?_ _ _ _ ⟨_, hP, hD, hS, lv_sub hl [1, 2, 3, 4, 0] rfl⟩
  · rintro H locs ls ⟨f_1, hP, hD, hS, hl⟩
    refine lv_iload hx hb dX9_copies_3 (lv_at hl 4 rfl) ?_
    refine lv_bipush (v := 25) hx hb dX9_copies_5 (by decide) ?_
    refine lv_icmp_ge (tgt := 28) hx hb dX9_copies_7 (by decide) (fun _ => ?_) (fun z => absurd (nI_le (a := 25) (b := 25) (by omega) (by omega)) z)
    have hP9 := hP.sub (ws' := [(a1, .inl (ka, Na, .inl fa)), (b1, .inl (kb, Nb, .inl f_1))]) [0, 1] rfl
    have hD9 := hD.sub (ws' := [(a1, .inl (ka, Na, .inl fa)), (b1, .inl (kb, Nb, .inl f_1))]) [0, 1] (by decide) rfl
    have hK9 := hK.sub (tys' := [(ka, .int), (kb, .int)]) [0, 1] rfl
    exact W.vret hx hb hr (fun t ht hW => ⟨⟨(), rfl, trivial, ⟨f_1, by rw [ht]; exact hP9, va_K.moved hW.alike hK9, hD9⟩⟩, hS.F ht⟩) hS.2.2 dX9_copies_28
  · rintro i_2 h_3 ih_4 H locs ls ⟨f_1, hP, hD, hS, hl⟩
    refine lv_iload hx hb dX9_copies_3 (lv_at hl 4 rfl) ?_
    refine lv_bipush (v := 25) hx hb dX9_copies_5 (by decide) ?_
    refine lv_icmp_ge (tgt := 28) hx hb dX9_copies_7 (by decide) (fun z => absurd z (nI_ge (a := i_2) (b := 25) (by omega) (by omega))) (fun _ => ?_)
    refine lv_aload_n hx hb dX9_copies_10 rfl (lv_at hl 2 rfl) ?_
    refine lv_iload_n hx hb dX9_copies_11 rfl (lv_at hl 3 rfl) ?_
    refine lv_iload hx hb dX9_copies_12 (lv_at hl 4 rfl) ?_
    refine lv_iadd hx hb dX9_copies_14 ?_
    refine lv_topi (fun y_5 ey_5 => ?_)
    obtain rfl : y_5 = (nI (j + i_2)) := ey_5.trans (nI_add j i_2)
    refine lv_aload_n hx hb dX9_copies_15 rfl (lv_at hl 0 rfl) ?_
    refine lv_iload_n hx hb dX9_copies_16 rfl (lv_at hl 1 rfl) ?_
    refine lv_iload hx hb dX9_copies_17 (lv_at hl 4 rfl) ?_
    refine lv_iadd hx hb dX9_copies_19 ?_
    refine lv_topi (fun y_6 ey_6 => ?_)
    obtain rfl : y_6 = (nI (i + i_2)) := ey_6.trans (nI_add i i_2)
    refine va_iald hx hb hK hP 0 0 rfl rfl (vp_in_nI (n := (i + i_2)) (by first | omega | exact ix_lt (by omega) (by omega) hn | exact ix_lt0 (by omega) hn | exact ix_ltq (by omega) hn | exact ix_lt1 (by omega) hn) (by omega)) dX9_copies_20 ?_
    refine va_iast hx hb hK hP hD hS 1 1 rfl rfl (vp_in_nI (n := (j + i_2)) (by first | omega | exact ix_lt (by omega) (by omega) hn | exact ix_lt0 (by omega) hn | exact ix_ltq (by omega) hn | exact ix_lt1 (by omega) hn) (by omega)) dX9_copies_21 (fun H locs hP hD hS => ?_)
    have hP : va_P (dC, dI) vwCl [(a1, .inl (ka, Na, .inl fa)), (b1, .inl (kb, Nb, .inl (upd f_1 ((nI (j + i_2)) : Int32).toNatClampNeg (fa ((nI (i + i_2))).toNatClampNeg))))] H := hP
    have hD : va_D A [(a1, .inl (ka, Na, .inl fa)), (b1, .inl (kb, Nb, .inl (upd f_1 ((nI (j + i_2)) : Int32).toNatClampNeg (fa ((nI (i + i_2))).toNatClampNeg))))] := hD
    refine lv_iinc (v := (nI (i_2 + 1))) (lv' := [(4, .int (nI (i_2 + 1))), (0, .ref a1), (1, .int (nI i)), (2, .ref b1), (3, .int (nI j))]) hx hb dX9_copies_22 hl (k := 4) rfl (nI_1 _) (by decide) rfl (fun ls hl => ?_)
    refine lv_goto (tgt := 3) hx hb dX9_copies_25 (by decide) ?_
    exact ih_4 _ _ _ ⟨_, hP, hD, hS, lv_sub hl [1, 2, 3, 4, 0] rfl⟩
theorem dX9_tightens_0 : decode cX9_tightens 0 = .ok (.aload_n 0, 1) := by decide +kernel
theorem dX9_tightens_1 : decode cX9_tightens 1 = .ok (.iconst 5, 1) := by decide +kernel
theorem dX9_tightens_2 : decode cX9_tightens 2 = .ok (.iload_n 1, 1) := by decide +kernel
theorem dX9_tightens_3 : decode cX9_tightens 3 = .ok (.imul, 1) := by decide +kernel
theorem dX9_tightens_4 : decode cX9_tightens 4 = .ok (.iload_n 2, 1) := by decide +kernel
theorem dX9_tightens_5 : decode cX9_tightens 5 = .ok (.iadd, 1) := by decide +kernel
theorem dX9_tightens_6 : decode cX9_tightens 6 = .ok (.aload_n 0, 1) := by decide +kernel
theorem dX9_tightens_7 : decode cX9_tightens 7 = .ok (.iconst 5, 1) := by decide +kernel
theorem dX9_tightens_8 : decode cX9_tightens 8 = .ok (.iload_n 1, 1) := by decide +kernel
theorem dX9_tightens_9 : decode cX9_tightens 9 = .ok (.imul, 1) := by decide +kernel
theorem dX9_tightens_10 : decode cX9_tightens 10 = .ok (.iload_n 2, 1) := by decide +kernel
theorem dX9_tightens_11 : decode cX9_tightens 11 = .ok (.iadd, 1) := by decide +kernel
theorem dX9_tightens_12 : decode cX9_tightens 12 = .ok (.iaload, 1) := by decide +kernel
theorem dX9_tightens_13 : decode cX9_tightens 13 = .ok (.iload_n 3, 1) := by decide +kernel
theorem dX9_tightens_14 : decode cX9_tightens 14 = .ok (.invokestatic 182, 3) := by decide +kernel
theorem dX9_tightens_17 : decode cX9_tightens 17 = .ok (.iastore, 1) := by decide +kernel
theorem dX9_tightens_18 : decode cX9_tightens 18 = .ok (.return_, 1) := by decide +kernel
def vs_X9_tightens : List Cond := .code yX9_tightens cX9_tightens 4 none :: ([.methodLink RX9 182 yX9_lesser, .static yX9_lesser, .initialized RX9, .code yX9_lesser cX9_lesser 2 (some .int)])
theorem g_X9_tightens_X9_lesser : GoodIn vs_X9_tightens (va_wsS RX9 182 yX9_lesser vs_X9_lesser) := goodIn_r _ [1, 2, 3, 4] (by decide +kernel) (by decide +kernel)
set_option maxHeartbeats 4000000 in
set_option maxRecDepth 100000 in
theorem c_X9_tightens (l : Launch) (dC : Nat → ClassId) (dI : Nat → Nat → Nat) (sz : Nat) (d1 : Nat) (kd : ClassId) (fd : Nat → Int32) (i j : Nat) (hi : i < 5) (hj : j < 5) (p0 : Int32) : Met l yX9_tightens vs_X9_tightens ({ frames := 1, cells := 0, slots := 0, locals := 21 }) (va_Pc [.ref d1, .int (nI i), .int (nI j), .int p0] (pu_B (dC, dI) [(d1, .inl (kd, 25, .inl fd))] [(kd, .int)] sz)) (va_Qv (fun (_ : Unit) => True) (fun _ t => ∃ (g : Nat → Int32), pu_E (dC, dI) [(d1, .inl (kd, 25, .inl g))] [(kd, .int)] (va_A ([(d1, .inl (kd, 25, .inl fd))]) sz) t) (va_A ([(d1, .inl (kd, 25, .inl fd))]) sz)) 0 0 (va_A ([(d1, .inl (kd, 25, .inl fd))]) sz) := by
  refine Met.ofW (cc := cX9_tightens) (maxL := 4) (ret := none) (by decide) rfl ?_
  intro p e s m args below meth c s₁ B hml hv
  obtain ⟨rfl, rfl, hP, hK, hD0⟩ := hv
  have hx := B.exec
  have hb := B.bytes
  have hr := B.returns
  have hts := atoms_spec (ws := vs_X9_tightens) B.pre
  have hown : s.vm.findClass RX9 = some m.cls := findClass_of_methodNamed B.named
  have hlocks := B.notSynchronized
  have hD := hD0.self (sz := s.heap.size)
  generalize hAe : va_A ([(d1, .inl (kd, 25, .inl fd))]) s.heap.size = A at hD ⊢
  have hA : ∀ q : Nat, s.heap.size ≤ q → A q := fun q h => by rw [← hAe]; exact Or.inr h
  have hS : va_S A s.heap s.heap [] := va_S.rf
  have hl := lv_entry ([.ref d1, .int (nI i), .int (nI j), .int p0]) (n := 4) (Nat.le_of_ble_eq_true rfl)
  rw [lg_entry_eq]
  generalize (lg_sl ([.ref d1, .int (nI i), .int (nI j), .int p0]) ++ List.replicate (4 - (lg_sl ([.ref d1, .int (nI i), .int (nI j), .int p0])).length) Slot.unset).toArray = ls at hl ⊢
  have hl : lv_has ls 4 [(0, .ref d1), (1, .int (nI i)), (2, .int (nI j)), (3, .int p0)] := hl
  refine lv_aload_n hx hb dX9_tightens_0 rfl (lv_at hl 0 rfl) ?_
  refine lv_iconst (v := 5) hx hb dX9_tightens_1 (by decide) ?_
  refine lv_iload_n hx hb dX9_tightens_2 rfl (lv_at hl 1 rfl) ?_
  refine lv_imul hx hb dX9_tightens_3 ?_
  refine lv_topi (fun y_1 ey_1 => ?_)
  obtain rfl : y_1 = (nI (5 * i)) := ey_1.trans (pk_mul 5 i)
  refine lv_iload_n hx hb dX9_tightens_4 rfl (lv_at hl 2 rfl) ?_
  refine lv_iadd hx hb dX9_tightens_5 ?_
  refine lv_topi (fun y_2 ey_2 => ?_)
  obtain rfl : y_2 = (nI ((5 * i) + j)) := ey_2.trans (nI_add (5 * i) j)
  refine lv_aload_n hx hb dX9_tightens_6 rfl (lv_at hl 0 rfl) ?_
  refine lv_iconst (v := 5) hx hb dX9_tightens_7 (by decide) ?_
  refine lv_iload_n hx hb dX9_tightens_8 rfl (lv_at hl 1 rfl) ?_
  refine lv_imul hx hb dX9_tightens_9 ?_
  refine lv_topi (fun y_3 ey_3 => ?_)
  obtain rfl : y_3 = (nI (5 * i)) := ey_3.trans (pk_mul 5 i)
  refine lv_iload_n hx hb dX9_tightens_10 rfl (lv_at hl 2 rfl) ?_
  refine lv_iadd hx hb dX9_tightens_11 ?_
  refine lv_topi (fun y_4 ey_4 => ?_)
  obtain rfl : y_4 = (nI ((5 * i) + j)) := ey_4.trans (nI_add (5 * i) j)
  refine va_iald hx hb hK hP 0 0 rfl rfl (vp_in_nI (n := ((5 * i) + j)) (by first | omega | exact ix_lt (by omega) (by omega) hn | exact ix_lt0 (by omega) hn | exact ix_ltq (by omega) hn | exact ix_lt1 (by omega) hn) (by omega)) dX9_tightens_12 ?_
  refine lv_iload_n hx hb dX9_tightens_13 rfl (lv_at hl 3 rfl) ?_
  refine va_calli (va_runS (As := [.int (fd ((nI ((5 * i) + j))).toNatClampNeg), .int p0]) (rest := [.int (nI ((5 * i) + j)), .ref d1]) ⟨hx, hb, hml, hown, hts⟩ (c_X9_lesser l dC dI _ (fd ((nI ((5 * i) + j))).toNatClampNeg) p0) (va_cwS 2 hts g_X9_tightens_X9_lesser rfl rfl rfl (by decide +kernel) ⟨Nat.le_of_ble_eq_true rfl, Nat.le_of_ble_eq_true rfl⟩) ⟨pu_bl, pu_in (hP.sub [] rfl) (hK.sub [] rfl) (hD.sub [] (by decide) rfl)⟩ rfl rfl hl.1 rfl (lv_room (Nat.le_of_ble_eq_true rfl)) dX9_tightens_14 ⟨Nat.le_of_ble_eq_true rfl, Nat.le_of_ble_eq_true rfl⟩) hS (fun q _ h => pu_fr hS hA q h) (pu_fr hS hA) (fun r_5 u t H1 locs ht hvm hw hB hz1 hk1 hS => ?_)
  have hP := pu_keep hP hk1
  clear hk1 hz1 ht hvm
  generalize H1 = H at hP hS ⊢
  refine va_iast hx hb hK hP hD hS 0 0 rfl rfl (vp_in_nI (n := ((5 * i) + j)) (by first | omega | exact ix_lt (by omega) (by omega) hn | exact ix_lt0 (by omega) hn | exact ix_ltq (by omega) hn | exact ix_lt1 (by omega) hn) (by omega)) dX9_tightens_17 (fun H locs hP hD hS => ?_)
  have hP : va_P (dC, dI) vwCl [(d1, .inl (kd, 25, .inl (upd fd ((nI ((5 * i) + j)) : Int32).toNatClampNeg r_5)))] H := hP
  have hD : va_D A [(d1, .inl (kd, 25, .inl (upd fd ((nI ((5 * i) + j)) : Int32).toNatClampNeg r_5)))] := hD
  have hP9 := hP.sub (ws' := [(d1, .inl (kd, 25, .inl (upd fd ((nI ((5 * i) + j)) : Int32).toNatClampNeg r_5)))]) [0] rfl
  have hD9 := hD.sub (ws' := [(d1, .inl (kd, 25, .inl (upd fd ((nI ((5 * i) + j)) : Int32).toNatClampNeg r_5)))]) [0] (by decide) rfl
  have hK9 := hK.sub (tys' := [(kd, .int)]) [0] rfl
  exact W.vret hx hb hr (fun t ht hW => ⟨⟨(), rfl, trivial, ⟨upd fd ((nI ((5 * i) + j)) : Int32).toNatClampNeg r_5, by rw [ht]; exact hP9, va_K.moved hW.alike hK9, hD9⟩⟩, hS.F ht⟩) hS.2.2 dX9_tightens_18
theorem dX9_spotOf_0 : decode cX9_spotOf 0 = .ok (.iload_n 0, 1) := by decide +kernel
theorem dX9_spotOf_1 : decode cX9_spotOf 1 = .ok (.ifCond .ne 7, 3) := by decide +kernel
theorem dX9_spotOf_4 : decode cX9_spotOf 4 = .ok (.iconst 0, 1) := by decide +kernel
theorem dX9_spotOf_5 : decode cX9_spotOf 5 = .ok (.goto 5, 3) := by decide +kernel
theorem dX9_spotOf_10 : decode cX9_spotOf 10 = .ok (.iload_n 1, 1) := by decide +kernel
theorem dX9_spotOf_11 : decode cX9_spotOf 11 = .ok (.iadd, 1) := by decide +kernel
theorem dX9_spotOf_12 : decode cX9_spotOf 12 = .ok (.ireturn, 1) := by decide +kernel
def vs_X9_spotOf_0 : List Cond := .code yX9_spotOf cX9_spotOf 2 (some .int) :: ([])
set_option maxHeartbeats 4000000 in
set_option maxRecDepth 100000 in
theorem c_X9_spotOf_0 (l : Launch) (dC : Nat → ClassId) (dI : Nat → Nat → Nat) (sz : Nat) (i : Nat) : Met l yX9_spotOf vs_X9_spotOf_0 ({ frames := 0, cells := 0, slots := 0, locals := 0 }) (va_Pc [.int 0, .int (nI i)] (pu_B (dC, dI) [] [] sz)) (va_Qi (fun (r : Int32) (_ : Unit) => r = nI (0 + i)) (fun _ _ => True) (va_A [] sz)) 0 0 (va_A [] sz) := by
  refine Met.ofW (cc := cX9_spotOf) (maxL := 2) (ret := (some .int)) (by decide) rfl ?_
  intro p e s m args below meth c s₁ B hml hv
  obtain ⟨rfl, rfl, hP, hK, hD0⟩ := hv
  have hx := B.exec
  have hb := B.bytes
  have hr := B.returns
  have hts := atoms_spec (ws := vs_X9_spotOf_0) B.pre
  have hown : s.vm.findClass RX9 = some m.cls := findClass_of_methodNamed B.named
  have hlocks := B.notSynchronized
  have hD := hD0
  have hA : ∀ q : Nat, s.heap.size ≤ q → va_A [] s.heap.size q := fun _ h => Or.inr h
  have hS : va_S (va_A [] s.heap.size) s.heap s.heap [] := va_S.rf
  have hl := lv_entry ([.int 0, .int (nI i)]) (n := 2) (Nat.le_of_ble_eq_true rfl)
  rw [lg_entry_eq]
  generalize (lg_sl ([.int 0, .int (nI i)]) ++ List.replicate (2 - (lg_sl ([.int 0, .int (nI i)])).length) Slot.unset).toArray = ls at hl ⊢
  have hl : lv_has ls 2 [(0, .int 0), (1, .int (nI i))] := hl
  refine lv_iload_n hx hb dX9_spotOf_0 rfl (lv_at hl 0 rfl) ?_
  refine lv_if_ne (tgt := 8) hx hb dX9_spotOf_1 (by decide) (fun z => absurd z (by decide)) (fun _ => ?_)
  refine lv_iconst (v := 0) hx hb dX9_spotOf_4 (by decide) ?_
  refine lv_goto (tgt := 10) hx hb dX9_spotOf_5 (by decide) ?_
  refine lv_iload_n hx hb dX9_spotOf_10 rfl (lv_at hl 1 rfl) ?_
  refine lv_iadd hx hb dX9_spotOf_11 ?_
  refine lv_topi (fun y_1 ey_1 => ?_)
  obtain rfl : y_1 = (nI (0 + i)) := ey_1.trans (nI_add 0 i)
  exact W.iret (v := (nI (0 + i))) hx hb hr (fun t ht hW => ⟨⟨(nI (0 + i)), (), rfl, by first | rfl | decide | simp_all, trivial⟩, hS.F ht⟩) hS.2.2 dX9_spotOf_12
theorem dX9_spotOf_8 : decode cX9_spotOf 8 = .ok (.bipush 120, 2) := by decide +kernel
def vs_X9_spotOf_1 : List Cond := .code yX9_spotOf cX9_spotOf 2 (some .int) :: ([])
set_option maxHeartbeats 4000000 in
set_option maxRecDepth 100000 in
theorem c_X9_spotOf_1 (l : Launch) (dC : Nat → ClassId) (dI : Nat → Nat → Nat) (sz : Nat) (i : Nat) : Met l yX9_spotOf vs_X9_spotOf_1 ({ frames := 0, cells := 0, slots := 0, locals := 0 }) (va_Pc [.int 1, .int (nI i)] (pu_B (dC, dI) [] [] sz)) (va_Qi (fun (r : Int32) (_ : Unit) => r = nI (120 + i)) (fun _ _ => True) (va_A [] sz)) 0 0 (va_A [] sz) := by
  refine Met.ofW (cc := cX9_spotOf) (maxL := 2) (ret := (some .int)) (by decide) rfl ?_
  intro p e s m args below meth c s₁ B hml hv
  obtain ⟨rfl, rfl, hP, hK, hD0⟩ := hv
  have hx := B.exec
  have hb := B.bytes
  have hr := B.returns
  have hts := atoms_spec (ws := vs_X9_spotOf_1) B.pre
  have hown : s.vm.findClass RX9 = some m.cls := findClass_of_methodNamed B.named
  have hlocks := B.notSynchronized
  have hD := hD0
  have hA : ∀ q : Nat, s.heap.size ≤ q → va_A [] s.heap.size q := fun _ h => Or.inr h
  have hS : va_S (va_A [] s.heap.size) s.heap s.heap [] := va_S.rf
  have hl := lv_entry ([.int 1, .int (nI i)]) (n := 2) (Nat.le_of_ble_eq_true rfl)
  rw [lg_entry_eq]
  generalize (lg_sl ([.int 1, .int (nI i)]) ++ List.replicate (2 - (lg_sl ([.int 1, .int (nI i)])).length) Slot.unset).toArray = ls at hl ⊢
  have hl : lv_has ls 2 [(0, .int 1), (1, .int (nI i))] := hl
  refine lv_iload_n hx hb dX9_spotOf_0 rfl (lv_at hl 0 rfl) ?_
  refine lv_if_ne (tgt := 8) hx hb dX9_spotOf_1 (by decide) (fun _ => ?_) (fun z => absurd z (by decide))
  refine lv_bipush (v := 120) hx hb dX9_spotOf_8 (by decide) ?_
  refine lv_iload_n hx hb dX9_spotOf_10 rfl (lv_at hl 1 rfl) ?_
  refine lv_iadd hx hb dX9_spotOf_11 ?_
  refine lv_topi (fun y_1 ey_1 => ?_)
  obtain rfl : y_1 = (nI (120 + i)) := ey_1.trans (nI_add 120 i)
  exact W.iret (v := (nI (120 + i))) hx hb hr (fun t ht hW => ⟨⟨(nI (120 + i)), (), rfl, by first | rfl | decide | simp_all, trivial⟩, hS.F ht⟩) hS.2.2 dX9_spotOf_12
theorem dX9_in_0 : decode cX9_in 0 = .ok (.iload_n 0, 1) := by decide +kernel
theorem dX9_in_1 : decode cX9_in 1 = .ok (.iload_n 1, 1) := by decide +kernel
theorem dX9_in_2 : decode cX9_in 2 = .ok (.if_icmp .lt 12, 3) := by decide +kernel
theorem dX9_in_5 : decode cX9_in 5 = .ok (.iload_n 0, 1) := by decide +kernel
theorem dX9_in_6 : decode cX9_in 6 = .ok (.iload_n 2, 1) := by decide +kernel
theorem dX9_in_7 : decode cX9_in 7 = .ok (.if_icmp .gt 7, 3) := by decide +kernel
theorem dX9_in_10 : decode cX9_in 10 = .ok (.iconst 1, 1) := by decide +kernel
theorem dX9_in_11 : decode cX9_in 11 = .ok (.goto 4, 3) := by decide +kernel
theorem dX9_in_14 : decode cX9_in 14 = .ok (.iconst 0, 1) := by decide +kernel
theorem dX9_in_15 : decode cX9_in 15 = .ok (.ireturn, 1) := by decide +kernel
def vs_X9_in : List Cond := .code yX9_in cX9_in 3 (some .boolean) :: ([])
set_option maxHeartbeats 4000000 in
set_option maxRecDepth 100000 in
theorem c_X9_in (l : Launch) (dC : Nat → ClassId) (dI : Nat → Nat → Nat) (sz : Nat) (p0 : Int32) (p1 : Int32) (p2 : Int32) : Met l yX9_in vs_X9_in ({ frames := 0, cells := 0, slots := 0, locals := 0 }) (va_Pc [.int p0, .int p1, .int p2] (pu_B (dC, dI) [] [] sz)) (va_Qi (fun (r : Int32) (_ : Unit) => (r = 1 ∧ p1 ≤ p0 ∧ p0 ≤ p2) ∨ (r = 0 ∧ ¬ (p1 ≤ p0 ∧ p0 ≤ p2))) (fun _ _ => True) (va_A [] sz)) 0 0 (va_A [] sz) := by
  refine Met.ofW (cc := cX9_in) (maxL := 3) (ret := (some .boolean)) (by decide) rfl ?_
  intro p e s m args below meth c s₁ B hml hv
  obtain ⟨rfl, rfl, hP, hK, hD0⟩ := hv
  have hx := B.exec
  have hb := B.bytes
  have hr := B.returns
  have hts := atoms_spec (ws := vs_X9_in) B.pre
  have hown : s.vm.findClass RX9 = some m.cls := findClass_of_methodNamed B.named
  have hlocks := B.notSynchronized
  have hD := hD0
  have hA : ∀ q : Nat, s.heap.size ≤ q → va_A [] s.heap.size q := fun _ h => Or.inr h
  have hS : va_S (va_A [] s.heap.size) s.heap s.heap [] := va_S.rf
  have hl := lv_entry ([.int p0, .int p1, .int p2]) (n := 3) (Nat.le_of_ble_eq_true rfl)
  rw [lg_entry_eq]
  generalize (lg_sl ([.int p0, .int p1, .int p2]) ++ List.replicate (3 - (lg_sl ([.int p0, .int p1, .int p2])).length) Slot.unset).toArray = ls at hl ⊢
  have hl : lv_has ls 3 [(0, .int p0), (1, .int p1), (2, .int p2)] := hl
  refine lv_iload_n hx hb dX9_in_0 rfl (lv_at hl 0 rfl) ?_
  refine lv_iload_n hx hb dX9_in_1 rfl (lv_at hl 1 rfl) ?_
  refine lv_icmp_lt (tgt := 14) hx hb dX9_in_2 (by decide) (fun c_1 => ?_) (fun c_1 => ?_)
  · refine lv_iconst (v := 0) hx hb dX9_in_14 (by decide) ?_
    exact W.zret (v := 0) (ty := .boolean) hx hb hr rfl (fun t ht hW => ⟨⟨0, (), rfl, Or.inr ⟨rfl, by first | exact fun h => absurd h.1 (Int32.not_le.mpr c_1) | exact fun h => absurd h.2 (Int32.not_le.mpr c_2)⟩, trivial⟩, hS.F ht⟩) hS.2.2 dX9_in_15
  · refine lv_iload_n hx hb dX9_in_5 rfl (lv_at hl 0 rfl) ?_
    refine lv_iload_n hx hb dX9_in_6 rfl (lv_at hl 2 rfl) ?_
    refine lv_icmp_gt (tgt := 14) hx hb dX9_in_7 (by decide) (fun c_2 => ?_) (fun c_2 => ?_)
    · refine lv_iconst (v := 0) hx hb dX9_in_14 (by decide) ?_
      exact W.zret (v := 0) (ty := .boolean) hx hb hr rfl (fun t ht hW => ⟨⟨0, (), rfl, Or.inr ⟨rfl, by first | exact fun h => absurd h.1 (Int32.not_le.mpr c_1) | exact fun h => absurd h.2 (Int32.not_le.mpr c_2)⟩, trivial⟩, hS.F ht⟩) hS.2.2 dX9_in_15
    · refine lv_iconst (v := 1) hx hb dX9_in_10 (by decide) ?_
      refine lv_goto (tgt := 15) hx hb dX9_in_11 (by decide) ?_
      exact W.zret (v := 1) (ty := .boolean) hx hb hr rfl (fun t ht hW => ⟨⟨1, (), rfl, Or.inl ⟨rfl, Int32.not_lt.mp c_1, Int32.not_lt.mp c_2⟩, trivial⟩, hS.F ht⟩) hS.2.2 dX9_in_15
