theorem dX8_isPlace_0 : decode cX8_isPlace 0 = .ok (.iload_n 1, 1) := by decide +kernel
theorem dX8_isPlace_1 : decode cX8_isPlace 1 = .ok (.ifCond .lt 18, 3) := by decide +kernel
theorem dX8_isPlace_4 : decode cX8_isPlace 4 = .ok (.iload_n 1, 1) := by decide +kernel
theorem dX8_isPlace_5 : decode cX8_isPlace 5 = .ok (.aload_n 0, 1) := by decide +kernel
theorem dX8_isPlace_6 : decode cX8_isPlace 6 = .ok (.getfield 23, 3) := by decide +kernel
theorem dX8_isPlace_9 : decode cX8_isPlace 9 = .ok (.getfield 97, 3) := by decide +kernel
theorem dX8_isPlace_12 : decode cX8_isPlace 12 = .ok (.if_icmp .ge 7, 3) := by decide +kernel
theorem dX8_isPlace_19 : decode cX8_isPlace 19 = .ok (.iconst 0, 1) := by decide +kernel
theorem dX8_isPlace_20 : decode cX8_isPlace 20 = .ok (.ireturn, 1) := by decide +kernel
def vs_X8_isPlace : List Cond := .code yX8_isPlace cX8_isPlace 2 (some .boolean) :: ([.fieldLink RX8 23 "ClockReach" "model" "LClockReach$Automaton;", .fieldLink RX8 97 "ClockReach$Automaton" "places" "I"] ++ wsX80 ++ wsX00)
set_option maxHeartbeats 4000000 in
set_option maxRecDepth 100000 in
theorem c_X8_isPlace (l : Launch) (dC : Nat → ClassId) (dI : Nat → Nat → Nat) (sz : Nat) (a : Nat → Nat) (k : Nat → ClassId) (p0 : Int32) : Met l yX8_isPlace vs_X8_isPlace ({ frames := 0, cells := 0, slots := 0, locals := 0 }) (va_Pc [.ref (a 0), .int p0] (pu_B (dC, dI) (wX a k) (tX k) sz)) (va_Qi (fun (r : Int32) (_ : Unit) => r = 0) (fun _ _ => True) (va_A [] sz)) 0 0 (va_A [] sz) := by
  refine Met.ofW (cc := cX8_isPlace) (maxL := 2) (ret := (some .boolean)) (by decide) rfl ?_
  intro p e s m args below meth c s₁ B hml hv
  obtain ⟨rfl, rfl, hP, hK, hD0⟩ := hv
  have hx := B.exec
  have hb := B.bytes
  have hr := B.returns
  have hts := atoms_spec (ws := vs_X8_isPlace) B.pre
  have v_1 := hts (.fieldLink RX8 23 "ClockReach" "model" "LClockReach$Automaton;") (List.mem_of_getElem? (i := 1) rfl)
  have v_2 := hts (.fieldLink RX8 97 "ClockReach$Automaton" "places" "I") (List.mem_of_getElem? (i := 2) rfl)
  have hown : s.vm.findClass RX8 = some m.cls := findClass_of_methodNamed B.named
  have hlocks := B.notSynchronized
  have hiX0 : ∀ w ∈ wsX00, w ∈ vs_X8_isPlace := fun _ h => List.mem_cons_of_mem _ (List.mem_append_right _ h)
  have hiX8 : ∀ w ∈ wsX80, w ∈ vs_X8_isPlace := fun _ h => List.mem_cons_of_mem _ (List.mem_append_left _ (List.mem_append_right _ h))
  have hD := hD0
  have hA : ∀ q : Nat, s.heap.size ≤ q → va_A [] s.heap.size q := fun _ h => Or.inr h
  have hS : va_S (va_A [] s.heap.size) s.heap s.heap [] := va_S.rf
  have hl := lv_entry ([.ref (a 0), .int p0]) (n := 2) (Nat.le_of_ble_eq_true rfl)
  rw [lg_entry_eq]
  generalize (lg_sl ([.ref (a 0), .int p0]) ++ List.replicate (2 - (lg_sl ([.ref (a 0), .int p0])).length) Slot.unset).toArray = ls at hl ⊢
  have hl : lv_has ls 2 [(0, .ref (a 0)), (1, .int p0)] := hl
  refine lv_iload_n hx hb dX8_isPlace_0 rfl (lv_at hl 1 rfl) ?_
  refine lv_if_lt (tgt := 19) hx hb dX8_isPlace_1 (by decide) (fun c_1 => ?_) (fun c_1 => ?_)
  · refine lv_iconst (v := 0) hx hb dX8_isPlace_19 (by decide) ?_
    exact W.zret (v := 0) (ty := .boolean) hx hb hr rfl (fun t ht hW => ⟨⟨0, (), rfl, by first | rfl | decide | simp_all, trivial⟩, hS.F ht⟩) hS.2.2 dX8_isPlace_20
  · refine lv_iload_n hx hb dX8_isPlace_4 rfl (lv_at hl 1 rfl) ?_
    refine lv_aload_n hx hb dX8_isPlace_5 rfl (lv_at hl 0 rfl) ?_
    refine va_get (D := (dC, dI)) (ci := 8) (v := .ref (a 1)) (C := RX8) (T := TX8) (N := 16) hx hb hts hiX8 hown hK hP 0 rfl rfl 3 (by decide) v_1 (fun _ h9 => h9) rfl dX8_isPlace_6 ?_
    refine va_get (D := (dC, dI)) (ci := 0) (v := .int 0) (C := RX0) (T := TX0) (N := 17) hx hb hts hiX0 hown hK hP 1 rfl rfl 1 (by decide) v_2 (fun _ h9 => h9) rfl dX8_isPlace_9 ?_
    refine lv_icmp_ge (tgt := 19) hx hb dX8_isPlace_12 (by decide) (fun c_2 => ?_) (fun c_2 => ?_)
    · refine lv_iconst (v := 0) hx hb dX8_isPlace_19 (by decide) ?_
      exact W.zret (v := 0) (ty := .boolean) hx hb hr rfl (fun t ht hW => ⟨⟨0, (), rfl, by first | rfl | decide | simp_all, trivial⟩, hS.F ht⟩) hS.2.2 dX8_isPlace_20
    · have z_0 := c_1
      have z_1 := c_2
      exfalso
      simp only [fa_lt, fa_le, fa_eq] at z_0 z_1
      have y_0 : (0 : Int32).toInt = 0 := by decide
      omega
theorem dX8_isEdge_0 : decode cX8_isEdge 0 = .ok (.iload_n 1, 1) := by decide +kernel
theorem dX8_isEdge_1 : decode cX8_isEdge 1 = .ok (.ifCond .lt 18, 3) := by decide +kernel
theorem dX8_isEdge_4 : decode cX8_isEdge 4 = .ok (.iload_n 1, 1) := by decide +kernel
theorem dX8_isEdge_5 : decode cX8_isEdge 5 = .ok (.aload_n 0, 1) := by decide +kernel
theorem dX8_isEdge_6 : decode cX8_isEdge 6 = .ok (.getfield 23, 3) := by decide +kernel
theorem dX8_isEdge_9 : decode cX8_isEdge 9 = .ok (.getfield 119, 3) := by decide +kernel
theorem dX8_isEdge_12 : decode cX8_isEdge 12 = .ok (.if_icmp .ge 7, 3) := by decide +kernel
theorem dX8_isEdge_19 : decode cX8_isEdge 19 = .ok (.iconst 0, 1) := by decide +kernel
theorem dX8_isEdge_20 : decode cX8_isEdge 20 = .ok (.ireturn, 1) := by decide +kernel
def vs_X8_isEdge : List Cond := .code yX8_isEdge cX8_isEdge 2 (some .boolean) :: ([.fieldLink RX8 23 "ClockReach" "model" "LClockReach$Automaton;", .fieldLink RX8 119 "ClockReach$Automaton" "edges" "I"] ++ wsX80 ++ wsX00)
set_option maxHeartbeats 4000000 in
set_option maxRecDepth 100000 in
theorem c_X8_isEdge (l : Launch) (dC : Nat → ClassId) (dI : Nat → Nat → Nat) (sz : Nat) (a : Nat → Nat) (k : Nat → ClassId) (p0 : Int32) : Met l yX8_isEdge vs_X8_isEdge ({ frames := 0, cells := 0, slots := 0, locals := 0 }) (va_Pc [.ref (a 0), .int p0] (pu_B (dC, dI) (wX a k) (tX k) sz)) (va_Qi (fun (r : Int32) (_ : Unit) => r = 0) (fun _ _ => True) (va_A [] sz)) 0 0 (va_A [] sz) := by
  refine Met.ofW (cc := cX8_isEdge) (maxL := 2) (ret := (some .boolean)) (by decide) rfl ?_
  intro p e s m args below meth c s₁ B hml hv
  obtain ⟨rfl, rfl, hP, hK, hD0⟩ := hv
  have hx := B.exec
  have hb := B.bytes
  have hr := B.returns
  have hts := atoms_spec (ws := vs_X8_isEdge) B.pre
  have v_1 := hts (.fieldLink RX8 23 "ClockReach" "model" "LClockReach$Automaton;") (List.mem_of_getElem? (i := 1) rfl)
  have v_2 := hts (.fieldLink RX8 119 "ClockReach$Automaton" "edges" "I") (List.mem_of_getElem? (i := 2) rfl)
  have hown : s.vm.findClass RX8 = some m.cls := findClass_of_methodNamed B.named
  have hlocks := B.notSynchronized
  have hiX0 : ∀ w ∈ wsX00, w ∈ vs_X8_isEdge := fun _ h => List.mem_cons_of_mem _ (List.mem_append_right _ h)
  have hiX8 : ∀ w ∈ wsX80, w ∈ vs_X8_isEdge := fun _ h => List.mem_cons_of_mem _ (List.mem_append_left _ (List.mem_append_right _ h))
  have hD := hD0
  have hA : ∀ q : Nat, s.heap.size ≤ q → va_A [] s.heap.size q := fun _ h => Or.inr h
  have hS : va_S (va_A [] s.heap.size) s.heap s.heap [] := va_S.rf
  have hl := lv_entry ([.ref (a 0), .int p0]) (n := 2) (Nat.le_of_ble_eq_true rfl)
  rw [lg_entry_eq]
  generalize (lg_sl ([.ref (a 0), .int p0]) ++ List.replicate (2 - (lg_sl ([.ref (a 0), .int p0])).length) Slot.unset).toArray = ls at hl ⊢
  have hl : lv_has ls 2 [(0, .ref (a 0)), (1, .int p0)] := hl
  refine lv_iload_n hx hb dX8_isEdge_0 rfl (lv_at hl 1 rfl) ?_
  refine lv_if_lt (tgt := 19) hx hb dX8_isEdge_1 (by decide) (fun c_1 => ?_) (fun c_1 => ?_)
  · refine lv_iconst (v := 0) hx hb dX8_isEdge_19 (by decide) ?_
    exact W.zret (v := 0) (ty := .boolean) hx hb hr rfl (fun t ht hW => ⟨⟨0, (), rfl, by first | rfl | decide | simp_all, trivial⟩, hS.F ht⟩) hS.2.2 dX8_isEdge_20
  · refine lv_iload_n hx hb dX8_isEdge_4 rfl (lv_at hl 1 rfl) ?_
    refine lv_aload_n hx hb dX8_isEdge_5 rfl (lv_at hl 0 rfl) ?_
    refine va_get (D := (dC, dI)) (ci := 8) (v := .ref (a 1)) (C := RX8) (T := TX8) (N := 16) hx hb hts hiX8 hown hK hP 0 rfl rfl 3 (by decide) v_1 (fun _ h9 => h9) rfl dX8_isEdge_6 ?_
    refine va_get (D := (dC, dI)) (ci := 0) (v := .int 0) (C := RX0) (T := TX0) (N := 17) hx hb hts hiX0 hown hK hP 1 rfl rfl 2 (by decide) v_2 (fun _ h9 => h9) rfl dX8_isEdge_9 ?_
    refine lv_icmp_ge (tgt := 19) hx hb dX8_isEdge_12 (by decide) (fun c_2 => ?_) (fun c_2 => ?_)
    · refine lv_iconst (v := 0) hx hb dX8_isEdge_19 (by decide) ?_
      exact W.zret (v := 0) (ty := .boolean) hx hb hr rfl (fun t ht hW => ⟨⟨0, (), rfl, by first | rfl | decide | simp_all, trivial⟩, hS.F ht⟩) hS.2.2 dX8_isEdge_20
    · have z_0 := c_1
      have z_1 := c_2
      exfalso
      simp only [fa_lt, fa_le, fa_eq] at z_0 z_1
      have y_0 : (0 : Int32).toInt = 0 := by decide
      omega
theorem dX8_isClock_0 : decode cX8_isClock 0 = .ok (.iload_n 1, 1) := by decide +kernel
theorem dX8_isClock_1 : decode cX8_isClock 1 = .ok (.ifCond .lt 18, 3) := by decide +kernel
theorem dX8_isClock_4 : decode cX8_isClock 4 = .ok (.iload_n 1, 1) := by decide +kernel
theorem dX8_isClock_5 : decode cX8_isClock 5 = .ok (.aload_n 0, 1) := by decide +kernel
theorem dX8_isClock_6 : decode cX8_isClock 6 = .ok (.getfield 23, 3) := by decide +kernel
theorem dX8_isClock_9 : decode cX8_isClock 9 = .ok (.getfield 116, 3) := by decide +kernel
theorem dX8_isClock_12 : decode cX8_isClock 12 = .ok (.if_icmp .ge 7, 3) := by decide +kernel
theorem dX8_isClock_19 : decode cX8_isClock 19 = .ok (.iconst 0, 1) := by decide +kernel
theorem dX8_isClock_20 : decode cX8_isClock 20 = .ok (.ireturn, 1) := by decide +kernel
def vs_X8_isClock : List Cond := .code yX8_isClock cX8_isClock 2 (some .boolean) :: ([.fieldLink RX8 23 "ClockReach" "model" "LClockReach$Automaton;", .fieldLink RX8 116 "ClockReach$Automaton" "clocks" "I"] ++ wsX80 ++ wsX00)
set_option maxHeartbeats 4000000 in
set_option maxRecDepth 100000 in
theorem c_X8_isClock (l : Launch) (dC : Nat → ClassId) (dI : Nat → Nat → Nat) (sz : Nat) (a : Nat → Nat) (k : Nat → ClassId) (p0 : Int32) : Met l yX8_isClock vs_X8_isClock ({ frames := 0, cells := 0, slots := 0, locals := 0 }) (va_Pc [.ref (a 0), .int p0] (pu_B (dC, dI) (wX a k) (tX k) sz)) (va_Qi (fun (r : Int32) (_ : Unit) => r = 0) (fun _ _ => True) (va_A [] sz)) 0 0 (va_A [] sz) := by
  refine Met.ofW (cc := cX8_isClock) (maxL := 2) (ret := (some .boolean)) (by decide) rfl ?_
  intro p e s m args below meth c s₁ B hml hv
  obtain ⟨rfl, rfl, hP, hK, hD0⟩ := hv
  have hx := B.exec
  have hb := B.bytes
  have hr := B.returns
  have hts := atoms_spec (ws := vs_X8_isClock) B.pre
  have v_1 := hts (.fieldLink RX8 23 "ClockReach" "model" "LClockReach$Automaton;") (List.mem_of_getElem? (i := 1) rfl)
  have v_2 := hts (.fieldLink RX8 116 "ClockReach$Automaton" "clocks" "I") (List.mem_of_getElem? (i := 2) rfl)
  have hown : s.vm.findClass RX8 = some m.cls := findClass_of_methodNamed B.named
  have hlocks := B.notSynchronized
  have hiX0 : ∀ w ∈ wsX00, w ∈ vs_X8_isClock := fun _ h => List.mem_cons_of_mem _ (List.mem_append_right _ h)
  have hiX8 : ∀ w ∈ wsX80, w ∈ vs_X8_isClock := fun _ h => List.mem_cons_of_mem _ (List.mem_append_left _ (List.mem_append_right _ h))
  have hD := hD0
  have hA : ∀ q : Nat, s.heap.size ≤ q → va_A [] s.heap.size q := fun _ h => Or.inr h
  have hS : va_S (va_A [] s.heap.size) s.heap s.heap [] := va_S.rf
  have hl := lv_entry ([.ref (a 0), .int p0]) (n := 2) (Nat.le_of_ble_eq_true rfl)
  rw [lg_entry_eq]
  generalize (lg_sl ([.ref (a 0), .int p0]) ++ List.replicate (2 - (lg_sl ([.ref (a 0), .int p0])).length) Slot.unset).toArray = ls at hl ⊢
  have hl : lv_has ls 2 [(0, .ref (a 0)), (1, .int p0)] := hl
  refine lv_iload_n hx hb dX8_isClock_0 rfl (lv_at hl 1 rfl) ?_
  refine lv_if_lt (tgt := 19) hx hb dX8_isClock_1 (by decide) (fun c_1 => ?_) (fun c_1 => ?_)
  · refine lv_iconst (v := 0) hx hb dX8_isClock_19 (by decide) ?_
    exact W.zret (v := 0) (ty := .boolean) hx hb hr rfl (fun t ht hW => ⟨⟨0, (), rfl, by first | rfl | decide | simp_all, trivial⟩, hS.F ht⟩) hS.2.2 dX8_isClock_20
  · refine lv_iload_n hx hb dX8_isClock_4 rfl (lv_at hl 1 rfl) ?_
    refine lv_aload_n hx hb dX8_isClock_5 rfl (lv_at hl 0 rfl) ?_
    refine va_get (D := (dC, dI)) (ci := 8) (v := .ref (a 1)) (C := RX8) (T := TX8) (N := 16) hx hb hts hiX8 hown hK hP 0 rfl rfl 3 (by decide) v_1 (fun _ h9 => h9) rfl dX8_isClock_6 ?_
    refine va_get (D := (dC, dI)) (ci := 0) (v := .int 0) (C := RX0) (T := TX0) (N := 17) hx hb hts hiX0 hown hK hP 1 rfl rfl 0 (by decide) v_2 (fun _ h9 => h9) rfl dX8_isClock_9 ?_
    refine lv_icmp_ge (tgt := 19) hx hb dX8_isClock_12 (by decide) (fun c_2 => ?_) (fun c_2 => ?_)
    · refine lv_iconst (v := 0) hx hb dX8_isClock_19 (by decide) ?_
      exact W.zret (v := 0) (ty := .boolean) hx hb hr rfl (fun t ht hW => ⟨⟨0, (), rfl, by first | rfl | decide | simp_all, trivial⟩, hS.F ht⟩) hS.2.2 dX8_isClock_20
    · have z_0 := c_1
      have z_1 := c_2
      exfalso
      simp only [fa_lt, fa_le, fa_eq] at z_0 z_1
      have y_0 : (0 : Int32).toInt = 0 := by decide
      omega
theorem dX8_isState_0 : decode cX8_isState 0 = .ok (.aload_n 0, 1) := by decide +kernel
theorem dX8_isState_1 : decode cX8_isState 1 = .ok (.getfield 100, 3) := by decide +kernel
theorem dX8_isState_4 : decode cX8_isState 4 = .ok (.ifCond .eq 22, 3) := by decide +kernel
theorem dX8_isState_26 : decode cX8_isState 26 = .ok (.iconst 0, 1) := by decide +kernel
theorem dX8_isState_27 : decode cX8_isState 27 = .ok (.ireturn, 1) := by decide +kernel
def vs_X8_isState : List Cond := .code yX8_isState cX8_isState 2 (some .boolean) :: ([.fieldLink RX8 100 "ClockReach" "hasShown" "Z"] ++ wsX80)
set_option maxHeartbeats 4000000 in
set_option maxRecDepth 100000 in
theorem c_X8_isState (l : Launch) (dC : Nat → ClassId) (dI : Nat → Nat → Nat) (sz : Nat) (a : Nat → Nat) (k : Nat → ClassId) (p0 : Int32) : Met l yX8_isState vs_X8_isState ({ frames := 0, cells := 0, slots := 0, locals := 0 }) (va_Pc [.ref (a 0), .int p0] (pu_B (dC, dI) (wX a k) (tX k) sz)) (va_Qi (fun (r : Int32) (_ : Unit) => r = 0) (fun _ _ => True) (va_A [] sz)) 0 0 (va_A [] sz) := by
  refine Met.ofW (cc := cX8_isState) (maxL := 2) (ret := (some .boolean)) (by decide) rfl ?_
  intro p e s m args below meth c s₁ B hml hv
  obtain ⟨rfl, rfl, hP, hK, hD0⟩ := hv
  have hx := B.exec
  have hb := B.bytes
  have hr := B.returns
  have hts := atoms_spec (ws := vs_X8_isState) B.pre
  have v_1 := hts (.fieldLink RX8 100 "ClockReach" "hasShown" "Z") (List.mem_of_getElem? (i := 1) rfl)
  have hown : s.vm.findClass RX8 = some m.cls := findClass_of_methodNamed B.named
  have hlocks := B.notSynchronized
  have hiX8 : ∀ w ∈ wsX80, w ∈ vs_X8_isState := fun _ h => List.mem_cons_of_mem _ (List.mem_append_right _ h)
  have hD := hD0
  have hA : ∀ q : Nat, s.heap.size ≤ q → va_A [] s.heap.size q := fun _ h => Or.inr h
  have hS : va_S (va_A [] s.heap.size) s.heap s.heap [] := va_S.rf
  have hl := lv_entry ([.ref (a 0), .int p0]) (n := 2) (Nat.le_of_ble_eq_true rfl)
  rw [lg_entry_eq]
  generalize (lg_sl ([.ref (a 0), .int p0]) ++ List.replicate (2 - (lg_sl ([.ref (a 0), .int p0])).length) Slot.unset).toArray = ls at hl ⊢
  have hl : lv_has ls 2 [(0, .ref (a 0)), (1, .int p0)] := hl
  refine lv_aload_n hx hb dX8_isState_0 rfl (lv_at hl 0 rfl) ?_
  refine va_get (D := (dC, dI)) (ci := 8) (v := .int 0) (C := RX8) (T := TX8) (N := 16) hx hb hts hiX8 hown hK hP 0 rfl rfl 7 (by decide) v_1 (fun _ h9 => h9) rfl dX8_isState_1 ?_
  refine lv_if_eq (tgt := 26) hx hb dX8_isState_4 (by decide) (fun _ => ?_) (fun z => absurd z (by decide))
  refine lv_iconst (v := 0) hx hb dX8_isState_26 (by decide) ?_
  exact W.zret (v := 0) (ty := .boolean) hx hb hr rfl (fun t ht hW => ⟨⟨0, (), rfl, by first | rfl | decide | simp_all, trivial⟩, hS.F ht⟩) hS.2.2 dX8_isState_27
theorem dX8_slotOf_0 : decode cX8_slotOf 0 = .ok (.iconst (-1), 1) := by decide +kernel
theorem dX8_slotOf_1 : decode cX8_slotOf 1 = .ok (.istore_n 3, 1) := by decide +kernel
theorem dX8_slotOf_2 : decode cX8_slotOf 2 = .ok (.aload_n 0, 1) := by decide +kernel
theorem dX8_slotOf_3 : decode cX8_slotOf 3 = .ok (.iload_n 1, 1) := by decide +kernel
theorem dX8_slotOf_4 : decode cX8_slotOf 4 = .ok (.invokevirtual 165, 3) := by decide +kernel
theorem dX8_slotOf_7 : decode cX8_slotOf 7 = .ok (.ifCond .eq 8, 3) := by decide +kernel
theorem dX8_slotOf_15 : decode cX8_slotOf 15 = .ok (.iload_n 1, 1) := by decide +kernel
theorem dX8_slotOf_16 : decode cX8_slotOf 16 = .ok (.bipush 100, 2) := by decide +kernel
theorem dX8_slotOf_18 : decode cX8_slotOf 18 = .ok (.if_icmp .lt 22, 3) := by decide +kernel
theorem dX8_slotOf_21 : decode cX8_slotOf 21 = .ok (.aload_n 0, 1) := by decide +kernel
theorem dX8_slotOf_22 : decode cX8_slotOf 22 = .ok (.iload_n 1, 1) := by decide +kernel
theorem dX8_slotOf_23 : decode cX8_slotOf 23 = .ok (.bipush 100, 2) := by decide +kernel
theorem dX8_slotOf_25 : decode cX8_slotOf 25 = .ok (.isub, 1) := by decide +kernel
theorem dX8_slotOf_26 : decode cX8_slotOf 26 = .ok (.invokevirtual 140, 3) := by decide +kernel
theorem dX8_slotOf_29 : decode cX8_slotOf 29 = .ok (.ifCond .eq 11, 3) := by decide +kernel
theorem dX8_slotOf_40 : decode cX8_slotOf 40 = .ok (.iload_n 3, 1) := by decide +kernel
theorem dX8_slotOf_41 : decode cX8_slotOf 41 = .ok (.iconst (-1), 1) := by decide +kernel
theorem dX8_slotOf_42 : decode cX8_slotOf 42 = .ok (.if_icmp .eq 20, 3) := by decide +kernel
theorem dX8_slotOf_62 : decode cX8_slotOf 62 = .ok (.iconst (-1), 1) := by decide +kernel
theorem dX8_slotOf_63 : decode cX8_slotOf 63 = .ok (.ireturn, 1) := by decide +kernel
def vs_X8_slotOf : List Cond := .code yX8_slotOf cX8_slotOf 4 (some .int) :: ([.methodLink RX8 165 yX8_isEdge, .instanceMethod yX8_isEdge, .selects RX8 yX8_isEdge yX8_isEdge, .initialized RX8, .code yX8_isEdge cX8_isEdge 2 (some .boolean), .fieldLink RX8 23 "ClockReach" "model" "LClockReach$Automaton;", .fieldLink RX8 119 "ClockReach$Automaton" "edges" "I", .methodLink RX8 140 yX8_isPlace, .instanceMethod yX8_isPlace, .selects RX8 yX8_isPlace yX8_isPlace, .code yX8_isPlace cX8_isPlace 2 (some .boolean), .fieldLink RX8 97 "ClockReach$Automaton" "places" "I"] ++ wsX80 ++ wsX00)
theorem g_X8_slotOf_X8_isEdge : GoodIn vs_X8_slotOf (wsV RX8 165 RX8 yX8_isEdge vs_X8_isEdge) := goodIn_r _ [1, 2, 3, 4, 5, 6, 7, 13, 14, 15, 16, 17, 18, 19, 20, 21, 22, 23, 24, 25, 26, 27, 28, 29, 30, 31, 32, 33, 34, 35, 36, 37, 38, 39, 40, 41, 42, 43, 44, 45] (by decide +kernel) (by decide +kernel)
theorem g_X8_slotOf_X8_isPlace : GoodIn vs_X8_slotOf (wsV RX8 140 RX8 yX8_isPlace vs_X8_isPlace) := goodIn_r _ [8, 9, 10, 4, 11, 6, 12, 13, 14, 15, 16, 17, 18, 19, 20, 21, 22, 23, 24, 25, 26, 27, 28, 29, 30, 31, 32, 33, 34, 35, 36, 37, 38, 39, 40, 41, 42, 43, 44, 45] (by decide +kernel) (by decide +kernel)
set_option maxHeartbeats 4000000 in
set_option maxRecDepth 100000 in
theorem c_X8_slotOf (l : Launch) (dC : Nat → ClassId) (dI : Nat → Nat → Nat) (sz : Nat) (a : Nat → Nat) (k : Nat → ClassId) (p0 : Int32) (p1 : Int32) : Met l yX8_slotOf vs_X8_slotOf ({ frames := 1, cells := 0, slots := 0, locals := 21 }) (va_Pc [.ref (a 0), .int p0, .int p1] (pu_B (dC, dI) (wX a k) (tX k) sz)) (va_Qi (fun (r : Int32) (_ : Unit) => r = -1) (fun _ _ => True) (va_A [] sz)) 0 0 (va_A [] sz) := by
  refine Met.ofW (cc := cX8_slotOf) (maxL := 4) (ret := (some .int)) (by decide) rfl ?_
  intro p e s m args below meth c s₁ B hml hv
  obtain ⟨rfl, rfl, hP, hK, hD0⟩ := hv
  have hx := B.exec
  have hb := B.bytes
  have hr := B.returns
  have hts := atoms_spec (ws := vs_X8_slotOf) B.pre
  have hown : s.vm.findClass RX8 = some m.cls := findClass_of_methodNamed B.named
  have hlocks := B.notSynchronized
  have hD := hD0
  have hA : ∀ q : Nat, s.heap.size ≤ q → va_A [] s.heap.size q := fun _ h => Or.inr h
  have hS : va_S (va_A [] s.heap.size) s.heap s.heap [] := va_S.rf
  have hl := lv_entry ([.ref (a 0), .int p0, .int p1]) (n := 4) (Nat.le_of_ble_eq_true rfl)
  rw [lg_entry_eq]
  generalize (lg_sl ([.ref (a 0), .int p0, .int p1]) ++ List.replicate (4 - (lg_sl ([.ref (a 0), .int p0, .int p1])).length) Slot.unset).toArray = ls at hl ⊢
  have hl : lv_has ls 4 [(0, .ref (a 0)), (1, .int p0), (2, .int p1)] := hl
  refine lv_iconst (v := (-1)) hx hb dX8_slotOf_0 (by decide) ?_
  refine lv_istore_n (lv' := [(3, .int (-1)), (0, .ref (a 0)), (1, .int p0), (2, .int p1)]) hx hb dX8_slotOf_1 rfl hl (by decide) rfl (fun ls hl => ?_)
  refine lv_aload_n hx hb dX8_slotOf_2 rfl (lv_at hl 1 rfl) ?_
  refine lv_iload_n hx hb dX8_slotOf_3 rfl (lv_at hl 2 rfl) ?_
  refine va_calli (va_runV (As := [.int p0]) (rest := []) ⟨hx, hb, hml, hown, hts⟩ (c_X8_isEdge l dC dI _ a k p0) (cwV 1 hts g_X8_slotOf_X8_isEdge rfl rfl rfl (by decide +kernel) ⟨Nat.le_of_ble_eq_true rfl, Nat.le_of_ble_eq_true rfl⟩) ⟨pu_bl, va_recv hK hP (ci := 8) (q0 := 0) rfl rfl, pu_in hP hK hD⟩ rfl rfl hl.1 rfl (lv_room (Nat.le_of_ble_eq_true rfl)) dX8_slotOf_4 ⟨Nat.le_of_ble_eq_true rfl, Nat.le_of_ble_eq_true rfl⟩) hS (fun q _ h => pu_fr hS hA q h) (pu_fr hS hA) (fun r_1 u t H1 locs ht hvm hw hB hz1 hk1 hS => ?_)
  have hP := pu_keep hP hk1
  clear hk1 hz1 ht hvm
  generalize H1 = H at hP hS ⊢
  obtain rfl : r_1 = 0 := hw
  refine lv_if_eq (tgt := 15) hx hb dX8_slotOf_7 (by decide) (fun _ => ?_) (fun z => absurd z (by decide))
  refine lv_iload_n hx hb dX8_slotOf_15 rfl (lv_at hl 2 rfl) ?_
  refine lv_bipush (v := 100) hx hb dX8_slotOf_16 (by decide) ?_
  refine lv_icmp_lt (tgt := 40) hx hb dX8_slotOf_18 (by decide) (fun c_2 => ?_) (fun c_2 => ?_)
  · refine lv_iload_n hx hb dX8_slotOf_40 rfl (lv_at hl 0 rfl) ?_
    refine lv_iconst (v := (-1)) hx hb dX8_slotOf_41 (by decide) ?_
    refine lv_icmp_eq (tgt := 62) hx hb dX8_slotOf_42 (by decide) (fun _ => ?_) (fun z => absurd z (by decide))
    refine lv_iconst (v := (-1)) hx hb dX8_slotOf_62 (by decide) ?_
    exact W.iret (v := (-1)) hx hb hr (fun t ht hW => ⟨⟨(-1), (), rfl, by first | rfl | decide | simp_all, trivial⟩, hS.F ht⟩) hS.2.2 dX8_slotOf_63
  · refine lv_aload_n hx hb dX8_slotOf_21 rfl (lv_at hl 1 rfl) ?_
    refine lv_iload_n hx hb dX8_slotOf_22 rfl (lv_at hl 2 rfl) ?_
    refine lv_bipush (v := 100) hx hb dX8_slotOf_23 (by decide) ?_
    refine lv_isub hx hb dX8_slotOf_25 ?_
    refine va_calli (va_runV (As := [.int (p0 - 100)]) (rest := []) ⟨hx, hb, hml, hown, hts⟩ (c_X8_isPlace l dC dI _ a k (p0 - 100)) (cwV 1 hts g_X8_slotOf_X8_isPlace rfl rfl rfl (by decide +kernel) ⟨Nat.le_of_ble_eq_true rfl, Nat.le_of_ble_eq_true rfl⟩) ⟨pu_bl, va_recv hK hP (ci := 8) (q0 := 0) rfl rfl, pu_in hP hK hD⟩ rfl rfl hl.1 rfl (lv_room (Nat.le_of_ble_eq_true rfl)) dX8_slotOf_26 ⟨Nat.le_of_ble_eq_true rfl, Nat.le_of_ble_eq_true rfl⟩) hS (fun q _ h => pu_fr hS hA q h) (pu_fr hS hA) (fun r_3 u t H1 locs ht hvm hw hB hz1 hk1 hS => ?_)
    have hP := pu_keep hP hk1
    clear hk1 hz1 ht hvm
    generalize H1 = H at hP hS ⊢
    obtain rfl : r_3 = 0 := hw
    refine lv_if_eq (tgt := 40) hx hb dX8_slotOf_29 (by decide) (fun _ => ?_) (fun z => absurd z (by decide))
    refine lv_iload_n hx hb dX8_slotOf_40 rfl (lv_at hl 0 rfl) ?_
    refine lv_iconst (v := (-1)) hx hb dX8_slotOf_41 (by decide) ?_
    refine lv_icmp_eq (tgt := 62) hx hb dX8_slotOf_42 (by decide) (fun _ => ?_) (fun z => absurd z (by decide))
    refine lv_iconst (v := (-1)) hx hb dX8_slotOf_62 (by decide) ?_
    exact W.iret (v := (-1)) hx hb hr (fun t ht hW => ⟨⟨(-1), (), rfl, by first | rfl | decide | simp_all, trivial⟩, hS.F ht⟩) hS.2.2 dX8_slotOf_63
theorem dX8_isStep_0 : decode cX8_isStep 0 = .ok (.aload_n 0, 1) := by decide +kernel
theorem dX8_isStep_1 : decode cX8_isStep 1 = .ok (.iload_n 1, 1) := by decide +kernel
theorem dX8_isStep_2 : decode cX8_isStep 2 = .ok (.invokevirtual 228, 3) := by decide +kernel
theorem dX8_isStep_5 : decode cX8_isStep 5 = .ok (.ifCond .eq 24, 3) := by decide +kernel
theorem dX8_isStep_29 : decode cX8_isStep 29 = .ok (.iconst 0, 1) := by decide +kernel
theorem dX8_isStep_30 : decode cX8_isStep 30 = .ok (.ireturn, 1) := by decide +kernel
def vs_X8_isStep : List Cond := .code yX8_isStep cX8_isStep 3 (some .boolean) :: ([.methodLink RX8 228 yX8_isState, .instanceMethod yX8_isState, .selects RX8 yX8_isState yX8_isState, .initialized RX8, .code yX8_isState cX8_isState 2 (some .boolean), .fieldLink RX8 100 "ClockReach" "hasShown" "Z"] ++ wsX80)
theorem g_X8_isStep_X8_isState : GoodIn vs_X8_isStep (wsV RX8 228 RX8 yX8_isState vs_X8_isState) := goodIn_r _ [1, 2, 3, 4, 5, 6, 7, 8, 9, 10, 11, 12, 13, 14, 15, 16, 17, 18, 19, 20, 21, 22] (by decide +kernel) (by decide +kernel)
set_option maxHeartbeats 4000000 in
set_option maxRecDepth 100000 in
theorem c_X8_isStep (l : Launch) (dC : Nat → ClassId) (dI : Nat → Nat → Nat) (sz : Nat) (a : Nat → Nat) (k : Nat → ClassId) (p0 : Int32) (p1 : Int32) : Met l yX8_isStep vs_X8_isStep ({ frames := 1, cells := 0, slots := 0, locals := 21 }) (va_Pc [.ref (a 0), .int p0, .int p1] (pu_B (dC, dI) (wX a k) (tX k) sz)) (va_Qi (fun (r : Int32) (_ : Unit) => r = 0) (fun _ _ => True) (va_A [] sz)) 0 0 (va_A [] sz) := by
  refine Met.ofW (cc := cX8_isStep) (maxL := 3) (ret := (some .boolean)) (by decide) rfl ?_
  intro p e s m args below meth c s₁ B hml hv
  obtain ⟨rfl, rfl, hP, hK, hD0⟩ := hv
  have hx := B.exec
  have hb := B.bytes
  have hr := B.returns
  have hts := atoms_spec (ws := vs_X8_isStep) B.pre
  have hown : s.vm.findClass RX8 = some m.cls := findClass_of_methodNamed B.named
  have hlocks := B.notSynchronized
  have hD := hD0
  have hA : ∀ q : Nat, s.heap.size ≤ q → va_A [] s.heap.size q := fun _ h => Or.inr h
  have hS : va_S (va_A [] s.heap.size) s.heap s.heap [] := va_S.rf
  have hl := lv_entry ([.ref (a 0), .int p0, .int p1]) (n := 3) (Nat.le_of_ble_eq_true rfl)
  rw [lg_entry_eq]
  generalize (lg_sl ([.ref (a 0), .int p0, .int p1]) ++ List.replicate (3 - (lg_sl ([.ref (a 0), .int p0, .int p1])).length) Slot.unset).toArray = ls at hl ⊢
  have hl : lv_has ls 3 [(0, .ref (a 0)), (1, .int p0), (2, .int p1)] := hl
  refine lv_aload_n hx hb dX8_isStep_0 rfl (lv_at hl 0 rfl) ?_
  refine lv_iload_n hx hb dX8_isStep_1 rfl (lv_at hl 1 rfl) ?_
  refine va_calli (va_runV (As := [.int p0]) (rest := []) ⟨hx, hb, hml, hown, hts⟩ (c_X8_isState l dC dI _ a k p0) (cwV 1 hts g_X8_isStep_X8_isState rfl rfl rfl (by decide +kernel) ⟨Nat.le_of_ble_eq_true rfl, Nat.le_of_ble_eq_true rfl⟩) ⟨pu_bl, va_recv hK hP (ci := 8) (q0 := 0) rfl rfl, pu_in hP hK hD⟩ rfl rfl hl.1 rfl (lv_room (Nat.le_of_ble_eq_true rfl)) dX8_isStep_2 ⟨Nat.le_of_ble_eq_true rfl, Nat.le_of_ble_eq_true rfl⟩) hS (fun q _ h => pu_fr hS hA q h) (pu_fr hS hA) (fun r_1 u t H1 locs ht hvm hw hB hz1 hk1 hS => ?_)
  have hP := pu_keep hP hk1
  clear hk1 hz1 ht hvm
  generalize H1 = H at hP hS ⊢
  obtain rfl : r_1 = 0 := hw
  refine lv_if_eq (tgt := 29) hx hb dX8_isStep_5 (by decide) (fun _ => ?_) (fun z => absurd z (by decide))
  refine lv_iconst (v := 0) hx hb dX8_isStep_29 (by decide) ?_
  exact W.zret (v := 0) (ty := .boolean) hx hb hr rfl (fun t ht hW => ⟨⟨0, (), rfl, by first | rfl | decide | simp_all, trivial⟩, hS.F ht⟩) hS.2.2 dX8_isStep_30
theorem dX0_allConditions_0 : decode cX0_allConditions 0 = .ok (.iconst 0, 1) := by decide +kernel
theorem dX0_allConditions_1 : decode cX0_allConditions 1 = .ok (.istore_n 1, 1) := by decide +kernel
theorem dX0_allConditions_2 : decode cX0_allConditions 2 = .ok (.iconst 0, 1) := by decide +kernel
theorem dX0_allConditions_3 : decode cX0_allConditions 3 = .ok (.istore_n 2, 1) := by decide +kernel
theorem dX0_allConditions_4 : decode cX0_allConditions 4 = .ok (.iload_n 2, 1) := by decide +kernel
theorem dX0_allConditions_5 : decode cX0_allConditions 5 = .ok (.bipush 22, 2) := by decide +kernel
theorem dX0_allConditions_7 : decode cX0_allConditions 7 = .ok (.if_icmp .ge 18, 3) := by decide +kernel
theorem dX0_allConditions_10 : decode cX0_allConditions 10 = .ok (.iload_n 1, 1) := by decide +kernel
theorem dX0_allConditions_11 : decode cX0_allConditions 11 = .ok (.aload_n 0, 1) := by decide +kernel
theorem dX0_allConditions_12 : decode cX0_allConditions 12 = .ok (.getfield 29, 3) := by decide +kernel
theorem dX0_allConditions_15 : decode cX0_allConditions 15 = .ok (.iload_n 2, 1) := by decide +kernel
theorem dX0_allConditions_16 : decode cX0_allConditions 16 = .ok (.iaload, 1) := by decide +kernel
theorem dX0_allConditions_17 : decode cX0_allConditions 17 = .ok (.iadd, 1) := by decide +kernel
theorem dX0_allConditions_18 : decode cX0_allConditions 18 = .ok (.istore_n 1, 1) := by decide +kernel
theorem dX0_allConditions_19 : decode cX0_allConditions 19 = .ok (.iinc 2 1, 3) := by decide +kernel
theorem dX0_allConditions_22 : decode cX0_allConditions 22 = .ok (.goto (-18), 3) := by decide +kernel
theorem dX0_allConditions_25 : decode cX0_allConditions 25 = .ok (.iload_n 1, 1) := by decide +kernel
theorem dX0_allConditions_26 : decode cX0_allConditions 26 = .ok (.ireturn, 1) := by decide +kernel
def vs_X0_allConditions : List Cond := .code yX0_allConditions cX0_allConditions 3 (some .int) :: ([.fieldLink RX0 29 "ClockReach$Automaton" "counts" "[I"] ++ wsX00)
set_option maxHeartbeats 4000000 in
set_option maxRecDepth 100000 in
theorem c_X0_allConditions (l : Launch) (dC : Nat → ClassId) (dI : Nat → Nat → Nat) (sz : Nat) (a : Nat → Nat) (k : Nat → ClassId) : Met l yX0_allConditions vs_X0_allConditions ({ frames := 0, cells := 0, slots := 0, locals := 0 }) (va_Pc [.ref (a 1)] (pu_B (dC, dI) (wX a k) (tX k) sz)) (va_Qi (fun (r : Int32) (_ : Unit) => r = 0) (fun _ _ => True) (va_A [] sz)) 0 0 (va_A [] sz) := by
  refine Met.ofW (cc := cX0_allConditions) (maxL := 3) (ret := (some .int)) (by decide) rfl ?_
  intro p e s m args below meth c s₁ B hml hv
  obtain ⟨rfl, rfl, hP, hK, hD0⟩ := hv
  have hx := B.exec
  have hb := B.bytes
  have hr := B.returns
  have hts := atoms_spec (ws := vs_X0_allConditions) B.pre
  have v_1 := hts (.fieldLink RX0 29 "ClockReach$Automaton" "counts" "[I") (List.mem_of_getElem? (i := 1) rfl)
  have hown : s.vm.findClass RX0 = some m.cls := findClass_of_methodNamed B.named
  have hlocks := B.notSynchronized
  have hiX0 : ∀ w ∈ wsX00, w ∈ vs_X0_allConditions := fun _ h => List.mem_cons_of_mem _ (List.mem_append_right _ h)
  have hD := hD0
  have hA : ∀ q : Nat, s.heap.size ≤ q → va_A [] s.heap.size q := fun _ h => Or.inr h
  have hS : va_S (va_A [] s.heap.size) s.heap s.heap [] := va_S.rf
  have hl := lv_entry ([.ref (a 1)]) (n := 3) (Nat.le_of_ble_eq_true rfl)
  rw [lg_entry_eq]
  generalize (lg_sl ([.ref (a 1)]) ++ List.replicate (3 - (lg_sl ([.ref (a 1)])).length) Slot.unset).toArray = ls at hl ⊢
  have hl : lv_has ls 3 [(0, .ref (a 1))] := hl
  refine lv_iconst (v := 0) hx hb dX0_allConditions_0 (by decide) ?_
  refine lv_istore_n (lv' := [(1, .int 0), (0, .ref (a 1))]) hx hb dX0_allConditions_1 rfl hl (by decide) rfl (fun ls hl => ?_)
  refine lv_iconst (v := 0) hx hb dX0_allConditions_2 (by decide) ?_
  refine lv_istore_n (lv' := [(2, .int 0), (1, .int 0), (0, .ref (a 1))]) hx hb dX0_allConditions_3 rfl hl (by decide) rfl (fun ls hl => ?_)
  refine lv_iload_n hx hb dX0_allConditions_4 rfl (lv_at hl 0 rfl) ?_
  refine lv_bipush (v := 22) hx hb dX0_allConditions_5 (by decide) ?_
  refine lv_icmp_ge (tgt := 25) hx hb dX0_allConditions_7 (by decide) (fun z => absurd z (by decide)) (fun _ => ?_)
  refine lv_iload_n hx hb dX0_allConditions_10 rfl (lv_at hl 1 rfl) ?_
  refine lv_aload_n hx hb dX0_allConditions_11 rfl (lv_at hl 2 rfl) ?_
  refine va_get (D := (dC, dI)) (ci := 0) (v := .ref (a 7)) (C := RX0) (T := TX0) (N := 17) hx hb hts hiX0 hown hK hP 1 rfl rfl 8 (by decide) v_1 (fun _ h9 => h9) rfl dX0_allConditions_12 ?_
  refine lv_iload_n hx hb dX0_allConditions_15 rfl (lv_at hl 0 rfl) ?_
  refine va_iald hx hb hK hP 7 1 rfl rfl (show ¬ (_ ∨ _) by decide) dX0_allConditions_16 ?_
  refine lv_topi (fun y_1 ey_1 => ?_)
  obtain rfl : y_1 = 0 := ey_1.trans (by first | rfl | decide)
  refine lv_iadd hx hb dX0_allConditions_17 ?_
  refine lv_topi (fun y_2 ey_2 => ?_)
  obtain rfl : y_2 = 0 := ey_2.trans (by decide)
  refine lv_istore_n (lv' := [(1, .int 0), (2, .int 0), (0, .ref (a 1))]) hx hb dX0_allConditions_18 rfl hl (by decide) rfl (fun ls hl => ?_)
  refine lv_iinc (v := 1) (lv' := [(2, .int 1), (1, .int 0), (0, .ref (a 1))]) hx hb dX0_allConditions_19 hl (k := 1) rfl (by decide) (by decide) rfl (fun ls hl => ?_)
  refine lv_goto (tgt := 4) hx hb dX0_allConditions_22 (by decide) ?_
  refine lv_iload_n hx hb dX0_allConditions_4 rfl (lv_at hl 0 rfl) ?_
  refine lv_bipush (v := 22) hx hb dX0_allConditions_5 (by decide) ?_
  refine lv_icmp_ge (tgt := 25) hx hb dX0_allConditions_7 (by decide) (fun z => absurd z (by decide)) (fun _ => ?_)
  refine lv_iload_n hx hb dX0_allConditions_10 rfl (lv_at hl 1 rfl) ?_
  refine lv_aload_n hx hb dX0_allConditions_11 rfl (lv_at hl 2 rfl) ?_
  refine va_get (D := (dC, dI)) (ci := 0) (v := .ref (a 7)) (C := RX0) (T := TX0) (N := 17) hx hb hts hiX0 hown hK hP 1 rfl rfl 8 (by decide) v_1 (fun _ h9 => h9) rfl dX0_allConditions_12 ?_
  refine lv_iload_n hx hb dX0_allConditions_15 rfl (lv_at hl 0 rfl) ?_
  refine va_iald hx hb hK hP 7 1 rfl rfl (show ¬ (_ ∨ _) by decide) dX0_allConditions_16 ?_
  refine lv_topi (fun y_3 ey_3 => ?_)
  obtain rfl : y_3 = 0 := ey_3.trans (by first | rfl | decide)
  refine lv_iadd hx hb dX0_allConditions_17 ?_
  refine lv_topi (fun y_4 ey_4 => ?_)
  obtain rfl : y_4 = 0 := ey_4.trans (by decide)
  refine lv_istore_n (lv' := [(1, .int 0), (2, .int 1), (0, .ref (a 1))]) hx hb dX0_allConditions_18 rfl hl (by decide) rfl (fun ls hl => ?_)
  refine lv_iinc (v := 2) (lv' := [(2, .int 2), (1, .int 0), (0, .ref (a 1))]) hx hb dX0_allConditions_19 hl (k := 1) rfl (by decide) (by decide) rfl (fun ls hl => ?_)
  refine lv_goto (tgt := 4) hx hb dX0_allConditions_22 (by decide) ?_
  refine lv_iload_n hx hb dX0_allConditions_4 rfl (lv_at hl 0 rfl) ?_
  refine lv_bipush (v := 22) hx hb dX0_allConditions_5 (by decide) ?_
  refine lv_icmp_ge (tgt := 25) hx hb dX0_allConditions_7 (by decide) (fun z => absurd z (by decide)) (fun _ => ?_)
  refine lv_iload_n hx hb dX0_allConditions_10 rfl (lv_at hl 1 rfl) ?_
  refine lv_aload_n hx hb dX0_allConditions_11 rfl (lv_at hl 2 rfl) ?_
  refine va_get (D := (dC, dI)) (ci := 0) (v := .ref (a 7)) (C := RX0) (T := TX0) (N := 17) hx hb hts hiX0 hown hK hP 1 rfl rfl 8 (by decide) v_1 (fun _ h9 => h9) rfl dX0_allConditions_12 ?_
  refine lv_iload_n hx hb dX0_allConditions_15 rfl (lv_at hl 0 rfl) ?_
  refine va_iald hx hb hK hP 7 1 rfl rfl (show ¬ (_ ∨ _) by decide) dX0_allConditions_16 ?_
  refine lv_topi (fun y_5 ey_5 => ?_)
  obtain rfl : y_5 = 0 := ey_5.trans (by first | rfl | decide)
  refine lv_iadd hx hb dX0_allConditions_17 ?_
  refine lv_topi (fun y_6 ey_6 => ?_)
  obtain rfl : y_6 = 0 := ey_6.trans (by decide)
  refine lv_istore_n (lv' := [(1, .int 0), (2, .int 2), (0, .ref (a 1))]) hx hb dX0_allConditions_18 rfl hl (by decide) rfl (fun ls hl => ?_)
  refine lv_iinc (v := 3) (lv' := [(2, .int 3), (1, .int 0), (0, .ref (a 1))]) hx hb dX0_allConditions_19 hl (k := 1) rfl (by decide) (by decide) rfl (fun ls hl => ?_)
  refine lv_goto (tgt := 4) hx hb dX0_allConditions_22 (by decide) ?_
  refine lv_iload_n hx hb dX0_allConditions_4 rfl (lv_at hl 0 rfl) ?_
  refine lv_bipush (v := 22) hx hb dX0_allConditions_5 (by decide) ?_
  refine lv_icmp_ge (tgt := 25) hx hb dX0_allConditions_7 (by decide) (fun z => absurd z (by decide)) (fun _ => ?_)
  refine lv_iload_n hx hb dX0_allConditions_10 rfl (lv_at hl 1 rfl) ?_
  refine lv_aload_n hx hb dX0_allConditions_11 rfl (lv_at hl 2 rfl) ?_
  refine va_get (D := (dC, dI)) (ci := 0) (v := .ref (a 7)) (C := RX0) (T := TX0) (N := 17) hx hb hts hiX0 hown hK hP 1 rfl rfl 8 (by decide) v_1 (fun _ h9 => h9) rfl dX0_allConditions_12 ?_
  refine lv_iload_n hx hb dX0_allConditions_15 rfl (lv_at hl 0 rfl) ?_
  refine va_iald hx hb hK hP 7 1 rfl rfl (show ¬ (_ ∨ _) by decide) dX0_allConditions_16 ?_
  refine lv_topi (fun y_7 ey_7 => ?_)
  obtain rfl : y_7 = 0 := ey_7.trans (by first | rfl | decide)
  refine lv_iadd hx hb dX0_allConditions_17 ?_
  refine lv_topi (fun y_8 ey_8 => ?_)
  obtain rfl : y_8 = 0 := ey_8.trans (by decide)
  refine lv_istore_n (lv' := [(1, .int 0), (2, .int 3), (0, .ref (a 1))]) hx hb dX0_allConditions_18 rfl hl (by decide) rfl (fun ls hl => ?_)
  refine lv_iinc (v := 4) (lv' := [(2, .int 4), (1, .int 0), (0, .ref (a 1))]) hx hb dX0_allConditions_19 hl (k := 1) rfl (by decide) (by decide) rfl (fun ls hl => ?_)
  refine lv_goto (tgt := 4) hx hb dX0_allConditions_22 (by decide) ?_
  refine lv_iload_n hx hb dX0_allConditions_4 rfl (lv_at hl 0 rfl) ?_
  refine lv_bipush (v := 22) hx hb dX0_allConditions_5 (by decide) ?_
  refine lv_icmp_ge (tgt := 25) hx hb dX0_allConditions_7 (by decide) (fun z => absurd z (by decide)) (fun _ => ?_)
  refine lv_iload_n hx hb dX0_allConditions_10 rfl (lv_at hl 1 rfl) ?_
  refine lv_aload_n hx hb dX0_allConditions_11 rfl (lv_at hl 2 rfl) ?_
  refine va_get (D := (dC, dI)) (ci := 0) (v := .ref (a 7)) (C := RX0) (T := TX0) (N := 17) hx hb hts hiX0 hown hK hP 1 rfl rfl 8 (by decide) v_1 (fun _ h9 => h9) rfl dX0_allConditions_12 ?_
  refine lv_iload_n hx hb dX0_allConditions_15 rfl (lv_at hl 0 rfl) ?_
  refine va_iald hx hb hK hP 7 1 rfl rfl (show ¬ (_ ∨ _) by decide) dX0_allConditions_16 ?_
  refine lv_topi (fun y_9 ey_9 => ?_)
  obtain rfl : y_9 = 0 := ey_9.trans (by first | rfl | decide)
  refine lv_iadd hx hb dX0_allConditions_17 ?_
  refine lv_topi (fun y_10 ey_10 => ?_)
  obtain rfl : y_10 = 0 := ey_10.trans (by decide)
  refine lv_istore_n (lv' := [(1, .int 0), (2, .int 4), (0, .ref (a 1))]) hx hb dX0_allConditions_18 rfl hl (by decide) rfl (fun ls hl => ?_)
  refine lv_iinc (v := 5) (lv' := [(2, .int 5), (1, .int 0), (0, .ref (a 1))]) hx hb dX0_allConditions_19 hl (k := 1) rfl (by decide) (by decide) rfl (fun ls hl => ?_)
  refine lv_goto (tgt := 4) hx hb dX0_allConditions_22 (by decide) ?_
  refine lv_iload_n hx hb dX0_allConditions_4 rfl (lv_at hl 0 rfl) ?_
  refine lv_bipush (v := 22) hx hb dX0_allConditions_5 (by decide) ?_
  refine lv_icmp_ge (tgt := 25) hx hb dX0_allConditions_7 (by decide) (fun z => absurd z (by decide)) (fun _ => ?_)
  refine lv_iload_n hx hb dX0_allConditions_10 rfl (lv_at hl 1 rfl) ?_
  refine lv_aload_n hx hb dX0_allConditions_11 rfl (lv_at hl 2 rfl) ?_
  refine va_get (D := (dC, dI)) (ci := 0) (v := .ref (a 7)) (C := RX0) (T := TX0) (N := 17) hx hb hts hiX0 hown hK hP 1 rfl rfl 8 (by decide) v_1 (fun _ h9 => h9) rfl dX0_allConditions_12 ?_
  refine lv_iload_n hx hb dX0_allConditions_15 rfl (lv_at hl 0 rfl) ?_
  refine va_iald hx hb hK hP 7 1 rfl rfl (show ¬ (_ ∨ _) by decide) dX0_allConditions_16 ?_
  refine lv_topi (fun y_11 ey_11 => ?_)
  obtain rfl : y_11 = 0 := ey_11.trans (by first | rfl | decide)
  refine lv_iadd hx hb dX0_allConditions_17 ?_
  refine lv_topi (fun y_12 ey_12 => ?_)
  obtain rfl : y_12 = 0 := ey_12.trans (by decide)
  refine lv_istore_n (lv' := [(1, .int 0), (2, .int 5), (0, .ref (a 1))]) hx hb dX0_allConditions_18 rfl hl (by decide) rfl (fun ls hl => ?_)
  refine lv_iinc (v := 6) (lv' := [(2, .int 6), (1, .int 0), (0, .ref (a 1))]) hx hb dX0_allConditions_19 hl (k := 1) rfl (by decide) (by decide) rfl (fun ls hl => ?_)
  refine lv_goto (tgt := 4) hx hb dX0_allConditions_22 (by decide) ?_
  refine lv_iload_n hx hb dX0_allConditions_4 rfl (lv_at hl 0 rfl) ?_
  refine lv_bipush (v := 22) hx hb dX0_allConditions_5 (by decide) ?_
  refine lv_icmp_ge (tgt := 25) hx hb dX0_allConditions_7 (by decide) (fun z => absurd z (by decide)) (fun _ => ?_)
  refine lv_iload_n hx hb dX0_allConditions_10 rfl (lv_at hl 1 rfl) ?_
  refine lv_aload_n hx hb dX0_allConditions_11 rfl (lv_at hl 2 rfl) ?_
  refine va_get (D := (dC, dI)) (ci := 0) (v := .ref (a 7)) (C := RX0) (T := TX0) (N := 17) hx hb hts hiX0 hown hK hP 1 rfl rfl 8 (by decide) v_1 (fun _ h9 => h9) rfl dX0_allConditions_12 ?_
  refine lv_iload_n hx hb dX0_allConditions_15 rfl (lv_at hl 0 rfl) ?_
  refine va_iald hx hb hK hP 7 1 rfl rfl (show ¬ (_ ∨ _) by decide) dX0_allConditions_16 ?_
  refine lv_topi (fun y_13 ey_13 => ?_)
  obtain rfl : y_13 = 0 := ey_13.trans (by first | rfl | decide)
  refine lv_iadd hx hb dX0_allConditions_17 ?_
  refine lv_topi (fun y_14 ey_14 => ?_)
  obtain rfl : y_14 = 0 := ey_14.trans (by decide)
  refine lv_istore_n (lv' := [(1, .int 0), (2, .int 6), (0, .ref (a 1))]) hx hb dX0_allConditions_18 rfl hl (by decide) rfl (fun ls hl => ?_)
  refine lv_iinc (v := 7) (lv' := [(2, .int 7), (1, .int 0), (0, .ref (a 1))]) hx hb dX0_allConditions_19 hl (k := 1) rfl (by decide) (by decide) rfl (fun ls hl => ?_)
  refine lv_goto (tgt := 4) hx hb dX0_allConditions_22 (by decide) ?_
  refine lv_iload_n hx hb dX0_allConditions_4 rfl (lv_at hl 0 rfl) ?_
  refine lv_bipush (v := 22) hx hb dX0_allConditions_5 (by decide) ?_
  refine lv_icmp_ge (tgt := 25) hx hb dX0_allConditions_7 (by decide) (fun z => absurd z (by decide)) (fun _ => ?_)
  refine lv_iload_n hx hb dX0_allConditions_10 rfl (lv_at hl 1 rfl) ?_
  refine lv_aload_n hx hb dX0_allConditions_11 rfl (lv_at hl 2 rfl) ?_
  refine va_get (D := (dC, dI)) (ci := 0) (v := .ref (a 7)) (C := RX0) (T := TX0) (N := 17) hx hb hts hiX0 hown hK hP 1 rfl rfl 8 (by decide) v_1 (fun _ h9 => h9) rfl dX0_allConditions_12 ?_
  refine lv_iload_n hx hb dX0_allConditions_15 rfl (lv_at hl 0 rfl) ?_
  refine va_iald hx hb hK hP 7 1 rfl rfl (show ¬ (_ ∨ _) by decide) dX0_allConditions_16 ?_
  refine lv_topi (fun y_15 ey_15 => ?_)
  obtain rfl : y_15 = 0 := ey_15.trans (by first | rfl | decide)
  refine lv_iadd hx hb dX0_allConditions_17 ?_
  refine lv_topi (fun y_16 ey_16 => ?_)
  obtain rfl : y_16 = 0 := ey_16.trans (by decide)
  refine lv_istore_n (lv' := [(1, .int 0), (2, .int 7), (0, .ref (a 1))]) hx hb dX0_allConditions_18 rfl hl (by decide) rfl (fun ls hl => ?_)
  refine lv_iinc (v := 8) (lv' := [(2, .int 8), (1, .int 0), (0, .ref (a 1))]) hx hb dX0_allConditions_19 hl (k := 1) rfl (by decide) (by decide) rfl (fun ls hl => ?_)
  refine lv_goto (tgt := 4) hx hb dX0_allConditions_22 (by decide) ?_
  refine lv_iload_n hx hb dX0_allConditions_4 rfl (lv_at hl 0 rfl) ?_
  refine lv_bipush (v := 22) hx hb dX0_allConditions_5 (by decide) ?_
  refine lv_icmp_ge (tgt := 25) hx hb dX0_allConditions_7 (by decide) (fun z => absurd z (by decide)) (fun _ => ?_)
  refine lv_iload_n hx hb dX0_allConditions_10 rfl (lv_at hl 1 rfl) ?_
  refine lv_aload_n hx hb dX0_allConditions_11 rfl (lv_at hl 2 rfl) ?_
  refine va_get (D := (dC, dI)) (ci := 0) (v := .ref (a 7)) (C := RX0) (T := TX0) (N := 17) hx hb hts hiX0 hown hK hP 1 rfl rfl 8 (by decide) v_1 (fun _ h9 => h9) rfl dX0_allConditions_12 ?_
  refine lv_iload_n hx hb dX0_allConditions_15 rfl (lv_at hl 0 rfl) ?_
  refine va_iald hx hb hK hP 7 1 rfl rfl (show ¬ (_ ∨ _) by decide) dX0_allConditions_16 ?_
  refine lv_topi (fun y_17 ey_17 => ?_)
  obtain rfl : y_17 = 0 := ey_17.trans (by first | rfl | decide)
  refine lv_iadd hx hb dX0_allConditions_17 ?_
  refine lv_topi (fun y_18 ey_18 => ?_)
  obtain rfl : y_18 = 0 := ey_18.trans (by decide)
  refine lv_istore_n (lv' := [(1, .int 0), (2, .int 8), (0, .ref (a 1))]) hx hb dX0_allConditions_18 rfl hl (by decide) rfl (fun ls hl => ?_)
  refine lv_iinc (v := 9) (lv' := [(2, .int 9), (1, .int 0), (0, .ref (a 1))]) hx hb dX0_allConditions_19 hl (k := 1) rfl (by decide) (by decide) rfl (fun ls hl => ?_)
  refine lv_goto (tgt := 4) hx hb dX0_allConditions_22 (by decide) ?_
  refine lv_iload_n hx hb dX0_allConditions_4 rfl (lv_at hl 0 rfl) ?_
  refine lv_bipush (v := 22) hx hb dX0_allConditions_5 (by decide) ?_
  refine lv_icmp_ge (tgt := 25) hx hb dX0_allConditions_7 (by decide) (fun z => absurd z (by decide)) (fun _ => ?_)
  refine lv_iload_n hx hb dX0_allConditions_10 rfl (lv_at hl 1 rfl) ?_
  refine lv_aload_n hx hb dX0_allConditions_11 rfl (lv_at hl 2 rfl) ?_
  refine va_get (D := (dC, dI)) (ci := 0) (v := .ref (a 7)) (C := RX0) (T := TX0) (N := 17) hx hb hts hiX0 hown hK hP 1 rfl rfl 8 (by decide) v_1 (fun _ h9 => h9) rfl dX0_allConditions_12 ?_
  refine lv_iload_n hx hb dX0_allConditions_15 rfl (lv_at hl 0 rfl) ?_
  refine va_iald hx hb hK hP 7 1 rfl rfl (show ¬ (_ ∨ _) by decide) dX0_allConditions_16 ?_
  refine lv_topi (fun y_19 ey_19 => ?_)
  obtain rfl : y_19 = 0 := ey_19.trans (by first | rfl | decide)
  refine lv_iadd hx hb dX0_allConditions_17 ?_
  refine lv_topi (fun y_20 ey_20 => ?_)
  obtain rfl : y_20 = 0 := ey_20.trans (by decide)
  refine lv_istore_n (lv' := [(1, .int 0), (2, .int 9), (0, .ref (a 1))]) hx hb dX0_allConditions_18 rfl hl (by decide) rfl (fun ls hl => ?_)
  refine lv_iinc (v := 10) (lv' := [(2, .int 10), (1, .int 0), (0, .ref (a 1))]) hx hb dX0_allConditions_19 hl (k := 1) rfl (by decide) (by decide) rfl (fun ls hl => ?_)
  refine lv_goto (tgt := 4) hx hb dX0_allConditions_22 (by decide) ?_
  refine lv_iload_n hx hb dX0_allConditions_4 rfl (lv_at hl 0 rfl) ?_
  refine lv_bipush (v := 22) hx hb dX0_allConditions_5 (by decide) ?_
  refine lv_icmp_ge (tgt := 25) hx hb dX0_allConditions_7 (by decide) (fun z => absurd z (by decide)) (fun _ => ?_)
  refine lv_iload_n hx hb dX0_allConditions_10 rfl (lv_at hl 1 rfl) ?_
  refine lv_aload_n hx hb dX0_allConditions_11 rfl (lv_at hl 2 rfl) ?_
  refine va_get (D := (dC, dI)) (ci := 0) (v := .ref (a 7)) (C := RX0) (T := TX0) (N := 17) hx hb hts hiX0 hown hK hP 1 rfl rfl 8 (by decide) v_1 (fun _ h9 => h9) rfl dX0_allConditions_12 ?_
  refine lv_iload_n hx hb dX0_allConditions_15 rfl (lv_at hl 0 rfl) ?_
  refine va_iald hx hb hK hP 7 1 rfl rfl (show ¬ (_ ∨ _) by decide) dX0_allConditions_16 ?_
  refine lv_topi (fun y_21 ey_21 => ?_)
  obtain rfl : y_21 = 0 := ey_21.trans (by first | rfl | decide)
  refine lv_iadd hx hb dX0_allConditions_17 ?_
  refine lv_topi (fun y_22 ey_22 => ?_)
  obtain rfl : y_22 = 0 := ey_22.trans (by decide)
  refine lv_istore_n (lv' := [(1, .int 0), (2, .int 10), (0, .ref (a 1))]) hx hb dX0_allConditions_18 rfl hl (by decide) rfl (fun ls hl => ?_)
  refine lv_iinc (v := 11) (lv' := [(2, .int 11), (1, .int 0), (0, .ref (a 1))]) hx hb dX0_allConditions_19 hl (k := 1) rfl (by decide) (by decide) rfl (fun ls hl => ?_)
  refine lv_goto (tgt := 4) hx hb dX0_allConditions_22 (by decide) ?_
  refine lv_iload_n hx hb dX0_allConditions_4 rfl (lv_at hl 0 rfl) ?_
  refine lv_bipush (v := 22) hx hb dX0_allConditions_5 (by decide) ?_
  refine lv_icmp_ge (tgt := 25) hx hb dX0_allConditions_7 (by decide) (fun z => absurd z (by decide)) (fun _ => ?_)
  refine lv_iload_n hx hb dX0_allConditions_10 rfl (lv_at hl 1 rfl) ?_
  refine lv_aload_n hx hb dX0_allConditions_11 rfl (lv_at hl 2 rfl) ?_
  refine va_get (D := (dC, dI)) (ci := 0) (v := .ref (a 7)) (C := RX0) (T := TX0) (N := 17) hx hb hts hiX0 hown hK hP 1 rfl rfl 8 (by decide) v_1 (fun _ h9 => h9) rfl dX0_allConditions_12 ?_
  refine lv_iload_n hx hb dX0_allConditions_15 rfl (lv_at hl 0 rfl) ?_
  refine va_iald hx hb hK hP 7 1 rfl rfl (show ¬ (_ ∨ _) by decide) dX0_allConditions_16 ?_
  refine lv_topi (fun y_23 ey_23 => ?_)
  obtain rfl : y_23 = 0 := ey_23.trans (by first | rfl | decide)
  refine lv_iadd hx hb dX0_allConditions_17 ?_
  refine lv_topi (fun y_24 ey_24 => ?_)
  obtain rfl : y_24 = 0 := ey_24.trans (by decide)
  refine lv_istore_n (lv' := [(1, .int 0), (2, .int 11), (0, .ref (a 1))]) hx hb dX0_allConditions_18 rfl hl (by decide) rfl (fun ls hl => ?_)
  refine lv_iinc (v := 12) (lv' := [(2, .int 12), (1, .int 0), (0, .ref (a 1))]) hx hb dX0_allConditions_19 hl (k := 1) rfl (by decide) (by decide) rfl (fun ls hl => ?_)
  refine lv_goto (tgt := 4) hx hb dX0_allConditions_22 (by decide) ?_
  refine lv_iload_n hx hb dX0_allConditions_4 rfl (lv_at hl 0 rfl) ?_
  refine lv_bipush (v := 22) hx hb dX0_allConditions_5 (by decide) ?_
  refine lv_icmp_ge (tgt := 25) hx hb dX0_allConditions_7 (by decide) (fun z => absurd z (by decide)) (fun _ => ?_)
  refine lv_iload_n hx hb dX0_allConditions_10 rfl (lv_at hl 1 rfl) ?_
  refine lv_aload_n hx hb dX0_allConditions_11 rfl (lv_at hl 2 rfl) ?_
  refine va_get (D := (dC, dI)) (ci := 0) (v := .ref (a 7)) (C := RX0) (T := TX0) (N := 17) hx hb hts hiX0 hown hK hP 1 rfl rfl 8 (by decide) v_1 (fun _ h9 => h9) rfl dX0_allConditions_12 ?_
  refine lv_iload_n hx hb dX0_allConditions_15 rfl (lv_at hl 0 rfl) ?_
  refine va_iald hx hb hK hP 7 1 rfl rfl (show ¬ (_ ∨ _) by decide) dX0_allConditions_16 ?_
  refine lv_topi (fun y_25 ey_25 => ?_)
  obtain rfl : y_25 = 0 := ey_25.trans (by first | rfl | decide)
  refine lv_iadd hx hb dX0_allConditions_17 ?_
  refine lv_topi (fun y_26 ey_26 => ?_)
  obtain rfl : y_26 = 0 := ey_26.trans (by decide)
  refine lv_istore_n (lv' := [(1, .int 0), (2, .int 12), (0, .ref (a 1))]) hx hb dX0_allConditions_18 rfl hl (by decide) rfl (fun ls hl => ?_)
  refine lv_iinc (v := 13) (lv' := [(2, .int 13), (1, .int 0), (0, .ref (a 1))]) hx hb dX0_allConditions_19 hl (k := 1) rfl (by decide) (by decide) rfl (fun ls hl => ?_)
  refine lv_goto (tgt := 4) hx hb dX0_allConditions_22 (by decide) ?_
  refine lv_iload_n hx hb dX0_allConditions_4 rfl (lv_at hl 0 rfl) ?_
  refine lv_bipush (v := 22) hx hb dX0_allConditions_5 (by decide) ?_
  refine lv_icmp_ge (tgt := 25) hx hb dX0_allConditions_7 (by decide) (fun z => absurd z (by decide)) (fun _ => ?_)
  refine lv_iload_n hx hb dX0_allConditions_10 rfl (lv_at hl 1 rfl) ?_
  refine lv_aload_n hx hb dX0_allConditions_11 rfl (lv_at hl 2 rfl) ?_
  refine va_get (D := (dC, dI)) (ci := 0) (v := .ref (a 7)) (C := RX0) (T := TX0) (N := 17) hx hb hts hiX0 hown hK hP 1 rfl rfl 8 (by decide) v_1 (fun _ h9 => h9) rfl dX0_allConditions_12 ?_
  refine lv_iload_n hx hb dX0_allConditions_15 rfl (lv_at hl 0 rfl) ?_
  refine va_iald hx hb hK hP 7 1 rfl rfl (show ¬ (_ ∨ _) by decide) dX0_allConditions_16 ?_
  refine lv_topi (fun y_27 ey_27 => ?_)
  obtain rfl : y_27 = 0 := ey_27.trans (by first | rfl | decide)
  refine lv_iadd hx hb dX0_allConditions_17 ?_
  refine lv_topi (fun y_28 ey_28 => ?_)
  obtain rfl : y_28 = 0 := ey_28.trans (by decide)
  refine lv_istore_n (lv' := [(1, .int 0), (2, .int 13), (0, .ref (a 1))]) hx hb dX0_allConditions_18 rfl hl (by decide) rfl (fun ls hl => ?_)
  refine lv_iinc (v := 14) (lv' := [(2, .int 14), (1, .int 0), (0, .ref (a 1))]) hx hb dX0_allConditions_19 hl (k := 1) rfl (by decide) (by decide) rfl (fun ls hl => ?_)
  refine lv_goto (tgt := 4) hx hb dX0_allConditions_22 (by decide) ?_
  refine lv_iload_n hx hb dX0_allConditions_4 rfl (lv_at hl 0 rfl) ?_
  refine lv_bipush (v := 22) hx hb dX0_allConditions_5 (by decide) ?_
  refine lv_icmp_ge (tgt := 25) hx hb dX0_allConditions_7 (by decide) (fun z => absurd z (by decide)) (fun _ => ?_)
  refine lv_iload_n hx hb dX0_allConditions_10 rfl (lv_at hl 1 rfl) ?_
  refine lv_aload_n hx hb dX0_allConditions_11 rfl (lv_at hl 2 rfl) ?_
  refine va_get (D := (dC, dI)) (ci := 0) (v := .ref (a 7)) (C := RX0) (T := TX0) (N := 17) hx hb hts hiX0 hown hK hP 1 rfl rfl 8 (by decide) v_1 (fun _ h9 => h9) rfl dX0_allConditions_12 ?_
  refine lv_iload_n hx hb dX0_allConditions_15 rfl (lv_at hl 0 rfl) ?_
  refine va_iald hx hb hK hP 7 1 rfl rfl (show ¬ (_ ∨ _) by decide) dX0_allConditions_16 ?_
  refine lv_topi (fun y_29 ey_29 => ?_)
  obtain rfl : y_29 = 0 := ey_29.trans (by first | rfl | decide)
  refine lv_iadd hx hb dX0_allConditions_17 ?_
  refine lv_topi (fun y_30 ey_30 => ?_)
  obtain rfl : y_30 = 0 := ey_30.trans (by decide)
  refine lv_istore_n (lv' := [(1, .int 0), (2, .int 14), (0, .ref (a 1))]) hx hb dX0_allConditions_18 rfl hl (by decide) rfl (fun ls hl => ?_)
  refine lv_iinc (v := 15) (lv' := [(2, .int 15), (1, .int 0), (0, .ref (a 1))]) hx hb dX0_allConditions_19 hl (k := 1) rfl (by decide) (by decide) rfl (fun ls hl => ?_)
  refine lv_goto (tgt := 4) hx hb dX0_allConditions_22 (by decide) ?_
  refine lv_iload_n hx hb dX0_allConditions_4 rfl (lv_at hl 0 rfl) ?_
  refine lv_bipush (v := 22) hx hb dX0_allConditions_5 (by decide) ?_
  refine lv_icmp_ge (tgt := 25) hx hb dX0_allConditions_7 (by decide) (fun z => absurd z (by decide)) (fun _ => ?_)
  refine lv_iload_n hx hb dX0_allConditions_10 rfl (lv_at hl 1 rfl) ?_
  refine lv_aload_n hx hb dX0_allConditions_11 rfl (lv_at hl 2 rfl) ?_
  refine va_get (D := (dC, dI)) (ci := 0) (v := .ref (a 7)) (C := RX0) (T := TX0) (N := 17) hx hb hts hiX0 hown hK hP 1 rfl rfl 8 (by decide) v_1 (fun _ h9 => h9) rfl dX0_allConditions_12 ?_
  refine lv_iload_n hx hb dX0_allConditions_15 rfl (lv_at hl 0 rfl) ?_
  refine va_iald hx hb hK hP 7 1 rfl rfl (show ¬ (_ ∨ _) by decide) dX0_allConditions_16 ?_
  refine lv_topi (fun y_31 ey_31 => ?_)
  obtain rfl : y_31 = 0 := ey_31.trans (by first | rfl | decide)
  refine lv_iadd hx hb dX0_allConditions_17 ?_
  refine lv_topi (fun y_32 ey_32 => ?_)
  obtain rfl : y_32 = 0 := ey_32.trans (by decide)
  refine lv_istore_n (lv' := [(1, .int 0), (2, .int 15), (0, .ref (a 1))]) hx hb dX0_allConditions_18 rfl hl (by decide) rfl (fun ls hl => ?_)
  refine lv_iinc (v := 16) (lv' := [(2, .int 16), (1, .int 0), (0, .ref (a 1))]) hx hb dX0_allConditions_19 hl (k := 1) rfl (by decide) (by decide) rfl (fun ls hl => ?_)
  refine lv_goto (tgt := 4) hx hb dX0_allConditions_22 (by decide) ?_
  refine lv_iload_n hx hb dX0_allConditions_4 rfl (lv_at hl 0 rfl) ?_
  refine lv_bipush (v := 22) hx hb dX0_allConditions_5 (by decide) ?_
  refine lv_icmp_ge (tgt := 25) hx hb dX0_allConditions_7 (by decide) (fun z => absurd z (by decide)) (fun _ => ?_)
  refine lv_iload_n hx hb dX0_allConditions_10 rfl (lv_at hl 1 rfl) ?_
  refine lv_aload_n hx hb dX0_allConditions_11 rfl (lv_at hl 2 rfl) ?_
  refine va_get (D := (dC, dI)) (ci := 0) (v := .ref (a 7)) (C := RX0) (T := TX0) (N := 17) hx hb hts hiX0 hown hK hP 1 rfl rfl 8 (by decide) v_1 (fun _ h9 => h9) rfl dX0_allConditions_12 ?_
  refine lv_iload_n hx hb dX0_allConditions_15 rfl (lv_at hl 0 rfl) ?_
  refine va_iald hx hb hK hP 7 1 rfl rfl (show ¬ (_ ∨ _) by decide) dX0_allConditions_16 ?_
  refine lv_topi (fun y_33 ey_33 => ?_)
  obtain rfl : y_33 = 0 := ey_33.trans (by first | rfl | decide)
  refine lv_iadd hx hb dX0_allConditions_17 ?_
  refine lv_topi (fun y_34 ey_34 => ?_)
  obtain rfl : y_34 = 0 := ey_34.trans (by decide)
  refine lv_istore_n (lv' := [(1, .int 0), (2, .int 16), (0, .ref (a 1))]) hx hb dX0_allConditions_18 rfl hl (by decide) rfl (fun ls hl => ?_)
  refine lv_iinc (v := 17) (lv' := [(2, .int 17), (1, .int 0), (0, .ref (a 1))]) hx hb dX0_allConditions_19 hl (k := 1) rfl (by decide) (by decide) rfl (fun ls hl => ?_)
  refine lv_goto (tgt := 4) hx hb dX0_allConditions_22 (by decide) ?_
  refine lv_iload_n hx hb dX0_allConditions_4 rfl (lv_at hl 0 rfl) ?_
  refine lv_bipush (v := 22) hx hb dX0_allConditions_5 (by decide) ?_
  refine lv_icmp_ge (tgt := 25) hx hb dX0_allConditions_7 (by decide) (fun z => absurd z (by decide)) (fun _ => ?_)
  refine lv_iload_n hx hb dX0_allConditions_10 rfl (lv_at hl 1 rfl) ?_
  refine lv_aload_n hx hb dX0_allConditions_11 rfl (lv_at hl 2 rfl) ?_
  refine va_get (D := (dC, dI)) (ci := 0) (v := .ref (a 7)) (C := RX0) (T := TX0) (N := 17) hx hb hts hiX0 hown hK hP 1 rfl rfl 8 (by decide) v_1 (fun _ h9 => h9) rfl dX0_allConditions_12 ?_
  refine lv_iload_n hx hb dX0_allConditions_15 rfl (lv_at hl 0 rfl) ?_
  refine va_iald hx hb hK hP 7 1 rfl rfl (show ¬ (_ ∨ _) by decide) dX0_allConditions_16 ?_
  refine lv_topi (fun y_35 ey_35 => ?_)
  obtain rfl : y_35 = 0 := ey_35.trans (by first | rfl | decide)
  refine lv_iadd hx hb dX0_allConditions_17 ?_
  refine lv_topi (fun y_36 ey_36 => ?_)
  obtain rfl : y_36 = 0 := ey_36.trans (by decide)
  refine lv_istore_n (lv' := [(1, .int 0), (2, .int 17), (0, .ref (a 1))]) hx hb dX0_allConditions_18 rfl hl (by decide) rfl (fun ls hl => ?_)
  refine lv_iinc (v := 18) (lv' := [(2, .int 18), (1, .int 0), (0, .ref (a 1))]) hx hb dX0_allConditions_19 hl (k := 1) rfl (by decide) (by decide) rfl (fun ls hl => ?_)
  refine lv_goto (tgt := 4) hx hb dX0_allConditions_22 (by decide) ?_
  refine lv_iload_n hx hb dX0_allConditions_4 rfl (lv_at hl 0 rfl) ?_
  refine lv_bipush (v := 22) hx hb dX0_allConditions_5 (by decide) ?_
  refine lv_icmp_ge (tgt := 25) hx hb dX0_allConditions_7 (by decide) (fun z => absurd z (by decide)) (fun _ => ?_)
  refine lv_iload_n hx hb dX0_allConditions_10 rfl (lv_at hl 1 rfl) ?_
  refine lv_aload_n hx hb dX0_allConditions_11 rfl (lv_at hl 2 rfl) ?_
  refine va_get (D := (dC, dI)) (ci := 0) (v := .ref (a 7)) (C := RX0) (T := TX0) (N := 17) hx hb hts hiX0 hown hK hP 1 rfl rfl 8 (by decide) v_1 (fun _ h9 => h9) rfl dX0_allConditions_12 ?_
  refine lv_iload_n hx hb dX0_allConditions_15 rfl (lv_at hl 0 rfl) ?_
  refine va_iald hx hb hK hP 7 1 rfl rfl (show ¬ (_ ∨ _) by decide) dX0_allConditions_16 ?_
  refine lv_topi (fun y_37 ey_37 => ?_)
  obtain rfl : y_37 = 0 := ey_37.trans (by first | rfl | decide)
  refine lv_iadd hx hb dX0_allConditions_17 ?_
  refine lv_topi (fun y_38 ey_38 => ?_)
  obtain rfl : y_38 = 0 := ey_38.trans (by decide)
  refine lv_istore_n (lv' := [(1, .int 0), (2, .int 18), (0, .ref (a 1))]) hx hb dX0_allConditions_18 rfl hl (by decide) rfl (fun ls hl => ?_)
  refine lv_iinc (v := 19) (lv' := [(2, .int 19), (1, .int 0), (0, .ref (a 1))]) hx hb dX0_allConditions_19 hl (k := 1) rfl (by decide) (by decide) rfl (fun ls hl => ?_)
  refine lv_goto (tgt := 4) hx hb dX0_allConditions_22 (by decide) ?_
  refine lv_iload_n hx hb dX0_allConditions_4 rfl (lv_at hl 0 rfl) ?_
  refine lv_bipush (v := 22) hx hb dX0_allConditions_5 (by decide) ?_
  refine lv_icmp_ge (tgt := 25) hx hb dX0_allConditions_7 (by decide) (fun z => absurd z (by decide)) (fun _ => ?_)
  refine lv_iload_n hx hb dX0_allConditions_10 rfl (lv_at hl 1 rfl) ?_
  refine lv_aload_n hx hb dX0_allConditions_11 rfl (lv_at hl 2 rfl) ?_
  refine va_get (D := (dC, dI)) (ci := 0) (v := .ref (a 7)) (C := RX0) (T := TX0) (N := 17) hx hb hts hiX0 hown hK hP 1 rfl rfl 8 (by decide) v_1 (fun _ h9 => h9) rfl dX0_allConditions_12 ?_
  refine lv_iload_n hx hb dX0_allConditions_15 rfl (lv_at hl 0 rfl) ?_
  refine va_iald hx hb hK hP 7 1 rfl rfl (show ¬ (_ ∨ _) by decide) dX0_allConditions_16 ?_
  refine lv_topi (fun y_39 ey_39 => ?_)
  obtain rfl : y_39 = 0 := ey_39.trans (by first | rfl | decide)
  refine lv_iadd hx hb dX0_allConditions_17 ?_
  refine lv_topi (fun y_40 ey_40 => ?_)
  obtain rfl : y_40 = 0 := ey_40.trans (by decide)
  refine lv_istore_n (lv' := [(1, .int 0), (2, .int 19), (0, .ref (a 1))]) hx hb dX0_allConditions_18 rfl hl (by decide) rfl (fun ls hl => ?_)
  refine lv_iinc (v := 20) (lv' := [(2, .int 20), (1, .int 0), (0, .ref (a 1))]) hx hb dX0_allConditions_19 hl (k := 1) rfl (by decide) (by decide) rfl (fun ls hl => ?_)
  refine lv_goto (tgt := 4) hx hb dX0_allConditions_22 (by decide) ?_
  refine lv_iload_n hx hb dX0_allConditions_4 rfl (lv_at hl 0 rfl) ?_
  refine lv_bipush (v := 22) hx hb dX0_allConditions_5 (by decide) ?_
  refine lv_icmp_ge (tgt := 25) hx hb dX0_allConditions_7 (by decide) (fun z => absurd z (by decide)) (fun _ => ?_)
  refine lv_iload_n hx hb dX0_allConditions_10 rfl (lv_at hl 1 rfl) ?_
  refine lv_aload_n hx hb dX0_allConditions_11 rfl (lv_at hl 2 rfl) ?_
  refine va_get (D := (dC, dI)) (ci := 0) (v := .ref (a 7)) (C := RX0) (T := TX0) (N := 17) hx hb hts hiX0 hown hK hP 1 rfl rfl 8 (by decide) v_1 (fun _ h9 => h9) rfl dX0_allConditions_12 ?_
  refine lv_iload_n hx hb dX0_allConditions_15 rfl (lv_at hl 0 rfl) ?_
  refine va_iald hx hb hK hP 7 1 rfl rfl (show ¬ (_ ∨ _) by decide) dX0_allConditions_16 ?_
  refine lv_topi (fun y_41 ey_41 => ?_)
  obtain rfl : y_41 = 0 := ey_41.trans (by first | rfl | decide)
  refine lv_iadd hx hb dX0_allConditions_17 ?_
  refine lv_topi (fun y_42 ey_42 => ?_)
  obtain rfl : y_42 = 0 := ey_42.trans (by decide)
  refine lv_istore_n (lv' := [(1, .int 0), (2, .int 20), (0, .ref (a 1))]) hx hb dX0_allConditions_18 rfl hl (by decide) rfl (fun ls hl => ?_)
  refine lv_iinc (v := 21) (lv' := [(2, .int 21), (1, .int 0), (0, .ref (a 1))]) hx hb dX0_allConditions_19 hl (k := 1) rfl (by decide) (by decide) rfl (fun ls hl => ?_)
  refine lv_goto (tgt := 4) hx hb dX0_allConditions_22 (by decide) ?_
  refine lv_iload_n hx hb dX0_allConditions_4 rfl (lv_at hl 0 rfl) ?_
  refine lv_bipush (v := 22) hx hb dX0_allConditions_5 (by decide) ?_
  refine lv_icmp_ge (tgt := 25) hx hb dX0_allConditions_7 (by decide) (fun z => absurd z (by decide)) (fun _ => ?_)
  refine lv_iload_n hx hb dX0_allConditions_10 rfl (lv_at hl 1 rfl) ?_
  refine lv_aload_n hx hb dX0_allConditions_11 rfl (lv_at hl 2 rfl) ?_
  refine va_get (D := (dC, dI)) (ci := 0) (v := .ref (a 7)) (C := RX0) (T := TX0) (N := 17) hx hb hts hiX0 hown hK hP 1 rfl rfl 8 (by decide) v_1 (fun _ h9 => h9) rfl dX0_allConditions_12 ?_
  refine lv_iload_n hx hb dX0_allConditions_15 rfl (lv_at hl 0 rfl) ?_
  refine va_iald hx hb hK hP 7 1 rfl rfl (show ¬ (_ ∨ _) by decide) dX0_allConditions_16 ?_
  refine lv_topi (fun y_43 ey_43 => ?_)
  obtain rfl : y_43 = 0 := ey_43.trans (by first | rfl | decide)
  refine lv_iadd hx hb dX0_allConditions_17 ?_
  refine lv_topi (fun y_44 ey_44 => ?_)
  obtain rfl : y_44 = 0 := ey_44.trans (by decide)
  refine lv_istore_n (lv' := [(1, .int 0), (2, .int 21), (0, .ref (a 1))]) hx hb dX0_allConditions_18 rfl hl (by decide) rfl (fun ls hl => ?_)
  refine lv_iinc (v := 22) (lv' := [(2, .int 22), (1, .int 0), (0, .ref (a 1))]) hx hb dX0_allConditions_19 hl (k := 1) rfl (by decide) (by decide) rfl (fun ls hl => ?_)
  refine lv_goto (tgt := 4) hx hb dX0_allConditions_22 (by decide) ?_
  refine lv_iload_n hx hb dX0_allConditions_4 rfl (lv_at hl 0 rfl) ?_
  refine lv_bipush (v := 22) hx hb dX0_allConditions_5 (by decide) ?_
  refine lv_icmp_ge (tgt := 25) hx hb dX0_allConditions_7 (by decide) (fun _ => ?_) (fun z => absurd z (by decide))
  refine lv_iload_n hx hb dX0_allConditions_25 rfl (lv_at hl 1 rfl) ?_
  exact W.iret (v := 0) hx hb hr (fun t ht hW => ⟨⟨0, (), rfl, by first | rfl | decide | simp_all, trivial⟩, hS.F ht⟩) hS.2.2 dX0_allConditions_26
theorem dX0_hurriedRings_0 : decode cX0_hurriedRings 0 = .ok (.iconst 0, 1) := by decide +kernel
theorem dX0_hurriedRings_1 : decode cX0_hurriedRings 1 = .ok (.istore_n 1, 1) := by decide +kernel
theorem dX0_hurriedRings_2 : decode cX0_hurriedRings 2 = .ok (.iconst 0, 1) := by decide +kernel
theorem dX0_hurriedRings_3 : decode cX0_hurriedRings 3 = .ok (.istore_n 2, 1) := by decide +kernel
theorem dX0_hurriedRings_4 : decode cX0_hurriedRings 4 = .ok (.iload_n 2, 1) := by decide +kernel
theorem dX0_hurriedRings_5 : decode cX0_hurriedRings 5 = .ok (.aload_n 0, 1) := by decide +kernel
theorem dX0_hurriedRings_6 : decode cX0_hurriedRings 6 = .ok (.getfield 59, 3) := by decide +kernel
theorem dX0_hurriedRings_9 : decode cX0_hurriedRings 9 = .ok (.if_icmp .ge 37, 3) := by decide +kernel
theorem dX0_hurriedRings_46 : decode cX0_hurriedRings 46 = .ok (.iload_n 1, 1) := by decide +kernel
theorem dX0_hurriedRings_47 : decode cX0_hurriedRings 47 = .ok (.ireturn, 1) := by decide +kernel
def vs_X0_hurriedRings : List Cond := .code yX0_hurriedRings cX0_hurriedRings 3 (some .int) :: ([.fieldLink RX0 59 "ClockReach$Automaton" "places" "I"] ++ wsX00)
set_option maxHeartbeats 4000000 in
set_option maxRecDepth 100000 in
theorem c_X0_hurriedRings (l : Launch) (dC : Nat → ClassId) (dI : Nat → Nat → Nat) (sz : Nat) (a : Nat → Nat) (k : Nat → ClassId) : Met l yX0_hurriedRings vs_X0_hurriedRings ({ frames := 0, cells := 0, slots := 0, locals := 0 }) (va_Pc [.ref (a 1)] (pu_B (dC, dI) (wX a k) (tX k) sz)) (va_Qi (fun (r : Int32) (_ : Unit) => r = 0) (fun _ _ => True) (va_A [] sz)) 0 0 (va_A [] sz) := by
  refine Met.ofW (cc := cX0_hurriedRings) (maxL := 3) (ret := (some .int)) (by decide) rfl ?_
  intro p e s m args below meth c s₁ B hml hv
  obtain ⟨rfl, rfl, hP, hK, hD0⟩ := hv
  have hx := B.exec
  have hb := B.bytes
  have hr := B.returns
  have hts := atoms_spec (ws := vs_X0_hurriedRings) B.pre
  have v_1 := hts (.fieldLink RX0 59 "ClockReach$Automaton" "places" "I") (List.mem_of_getElem? (i := 1) rfl)
  have hown : s.vm.findClass RX0 = some m.cls := findClass_of_methodNamed B.named
  have hlocks := B.notSynchronized
  have hiX0 : ∀ w ∈ wsX00, w ∈ vs_X0_hurriedRings := fun _ h => List.mem_cons_of_mem _ (List.mem_append_right _ h)
  have hD := hD0
  have hA : ∀ q : Nat, s.heap.size ≤ q → va_A [] s.heap.size q := fun _ h => Or.inr h
  have hS : va_S (va_A [] s.heap.size) s.heap s.heap [] := va_S.rf
  have hl := lv_entry ([.ref (a 1)]) (n := 3) (Nat.le_of_ble_eq_true rfl)
  rw [lg_entry_eq]
  generalize (lg_sl ([.ref (a 1)]) ++ List.replicate (3 - (lg_sl ([.ref (a 1)])).length) Slot.unset).toArray = ls at hl ⊢
  have hl : lv_has ls 3 [(0, .ref (a 1))] := hl
  refine lv_iconst (v := 0) hx hb dX0_hurriedRings_0 (by decide) ?_
  refine lv_istore_n (lv' := [(1, .int 0), (0, .ref (a 1))]) hx hb dX0_hurriedRings_1 rfl hl (by decide) rfl (fun ls hl => ?_)
  refine lv_iconst (v := 0) hx hb dX0_hurriedRings_2 (by decide) ?_
  refine lv_istore_n (lv' := [(2, .int 0), (1, .int 0), (0, .ref (a 1))]) hx hb dX0_hurriedRings_3 rfl hl (by decide) rfl (fun ls hl => ?_)
  refine lv_iload_n hx hb dX0_hurriedRings_4 rfl (lv_at hl 0 rfl) ?_
  refine lv_aload_n hx hb dX0_hurriedRings_5 rfl (lv_at hl 2 rfl) ?_
  refine va_get (D := (dC, dI)) (ci := 0) (v := .int 0) (C := RX0) (T := TX0) (N := 17) hx hb hts hiX0 hown hK hP 1 rfl rfl 1 (by decide) v_1 (fun _ h9 => h9) rfl dX0_hurriedRings_6 ?_
  refine lv_icmp_ge (tgt := 46) hx hb dX0_hurriedRings_9 (by decide) (fun _ => ?_) (fun z => absurd z (by decide))
  refine lv_iload_n hx hb dX0_hurriedRings_46 rfl (lv_at hl 1 rfl) ?_
  exact W.iret (v := 0) hx hb hr (fun t ht hW => ⟨⟨0, (), rfl, by first | rfl | decide | simp_all, trivial⟩, hS.F ht⟩) hS.2.2 dX0_hurriedRings_47
theorem dX2_takesBack_0 : decode cX2_takesBack 0 = .ok (.aload_n 0, 1) := by decide +kernel
theorem dX2_takesBack_1 : decode cX2_takesBack 1 = .ok (.getfield 18, 3) := by decide +kernel
theorem dX2_takesBack_4 : decode cX2_takesBack 4 = .ok (.ifCond .ne 5, 3) := by decide +kernel
theorem dX2_takesBack_7 : decode cX2_takesBack 7 = .ok (.iconst 0, 1) := by decide +kernel
theorem dX2_takesBack_8 : decode cX2_takesBack 8 = .ok (.ireturn, 1) := by decide +kernel
def vs_X2_takesBack : List Cond := .code yX2_takesBack cX2_takesBack 3 (some .boolean) :: ([.fieldLink RX2 18 "ClockReach$History" "count" "I"] ++ wsX20)
set_option maxHeartbeats 4000000 in
set_option maxRecDepth 100000 in
theorem c_X2_takesBack (l : Launch) (dC : Nat → ClassId) (dI : Nat → Nat → Nat) (sz : Nat) (a : Nat → Nat) (k : Nat → ClassId) : Met l yX2_takesBack vs_X2_takesBack ({ frames := 0, cells := 0, slots := 0, locals := 0 }) (va_Pc [.ref (a 2), .ref (a 1)] (pu_B (dC, dI) (wX a k) (tX k) sz)) (va_Qi (fun (r : Int32) (_ : Unit) => r = 0) (fun _ _ => True) (va_A [] sz)) 0 0 (va_A [] sz) := by
  refine Met.ofW (cc := cX2_takesBack) (maxL := 3) (ret := (some .boolean)) (by decide) rfl ?_
  intro p e s m args below meth c s₁ B hml hv
  obtain ⟨rfl, rfl, hP, hK, hD0⟩ := hv
  have hx := B.exec
  have hb := B.bytes
  have hr := B.returns
  have hts := atoms_spec (ws := vs_X2_takesBack) B.pre
  have v_1 := hts (.fieldLink RX2 18 "ClockReach$History" "count" "I") (List.mem_of_getElem? (i := 1) rfl)
  have hown : s.vm.findClass RX2 = some m.cls := findClass_of_methodNamed B.named
  have hlocks := B.notSynchronized
  have hiX2 : ∀ w ∈ wsX20, w ∈ vs_X2_takesBack := fun _ h => List.mem_cons_of_mem _ (List.mem_append_right _ h)
  have hD := hD0
  have hA : ∀ q : Nat, s.heap.size ≤ q → va_A [] s.heap.size q := fun _ h => Or.inr h
  have hS : va_S (va_A [] s.heap.size) s.heap s.heap [] := va_S.rf
  have hl := lv_entry ([.ref (a 2), .ref (a 1)]) (n := 3) (Nat.le_of_ble_eq_true rfl)
  rw [lg_entry_eq]
  generalize (lg_sl ([.ref (a 2), .ref (a 1)]) ++ List.replicate (3 - (lg_sl ([.ref (a 2), .ref (a 1)])).length) Slot.unset).toArray = ls at hl ⊢
  have hl : lv_has ls 3 [(0, .ref (a 2)), (1, .ref (a 1))] := hl
  refine lv_aload_n hx hb dX2_takesBack_0 rfl (lv_at hl 0 rfl) ?_
  refine va_get (D := (dC, dI)) (ci := 2) (v := .int 0) (C := RX2) (T := TX2) (N := 3) hx hb hts hiX2 hown hK hP 2 rfl rfl 0 (by decide) v_1 (fun _ h9 => h9) rfl dX2_takesBack_1 ?_
  refine lv_if_ne (tgt := 9) hx hb dX2_takesBack_4 (by decide) (fun z => absurd z (by decide)) (fun _ => ?_)
  refine lv_iconst (v := 0) hx hb dX2_takesBack_7 (by decide) ?_
  exact W.zret (v := 0) (ty := .boolean) hx hb hr rfl (fun t ht hW => ⟨⟨0, (), rfl, by first | rfl | decide | simp_all, trivial⟩, hS.F ht⟩) hS.2.2 dX2_takesBack_8
theorem dX3_startsIn_0 : decode cX3_startsIn 0 = .ok (.aload_n 0, 1) := by decide +kernel
theorem dX3_startsIn_1 : decode cX3_startsIn 1 = .ok (.iconst 0, 1) := by decide +kernel
theorem dX3_startsIn_2 : decode cX3_startsIn 2 = .ok (.putfield 18, 3) := by decide +kernel
theorem dX3_startsIn_5 : decode cX3_startsIn 5 = .ok (.aload_n 1, 1) := by decide +kernel
theorem dX3_startsIn_6 : decode cX3_startsIn 6 = .ok (.getfield 22, 3) := by decide +kernel
theorem dX3_startsIn_9 : decode cX3_startsIn 9 = .ok (.ifCond .ne 5, 3) := by decide +kernel
theorem dX3_startsIn_12 : decode cX3_startsIn 12 = .ok (.iconst 0, 1) := by decide +kernel
theorem dX3_startsIn_13 : decode cX3_startsIn 13 = .ok (.ireturn, 1) := by decide +kernel
def vs_X3_startsIn : List Cond := .code yX3_startsIn cX3_startsIn 3 (some .boolean) :: ([.fieldLink RX3 18 "ClockReach$Play" "on" "Z", .fieldLink RX3 22 "ClockReach$Automaton" "places" "I"] ++ wsX30 ++ wsX00)
set_option maxHeartbeats 4000000 in
set_option maxRecDepth 100000 in
theorem c_X3_startsIn (l : Launch) (dC : Nat → ClassId) (dI : Nat → Nat → Nat) (sz : Nat) (a : Nat → Nat) (k : Nat → ClassId) : Met l yX3_startsIn vs_X3_startsIn ({ frames := 0, cells := 0, slots := 0, locals := 0 }) (va_Pc [.ref (a 3), .ref (a 1)] (pu_B (dC, dI) (wX a k) (tX k) sz)) (va_Qi (fun (r : Int32) (_ : Unit) => r = 0) (fun _ _ => True) (va_A (wX a k) sz)) 0 0 (va_A (wX a k) sz) := by
  refine Met.ofW (cc := cX3_startsIn) (maxL := 3) (ret := (some .boolean)) (by decide) rfl ?_
  intro p e s m args below meth c s₁ B hml hv
  obtain ⟨rfl, rfl, hP, hK, hD0⟩ := hv
  have hx := B.exec
  have hb := B.bytes
  have hr := B.returns
  have hts := atoms_spec (ws := vs_X3_startsIn) B.pre
  have v_1 := hts (.fieldLink RX3 18 "ClockReach$Play" "on" "Z") (List.mem_of_getElem? (i := 1) rfl)
  have v_2 := hts (.fieldLink RX3 22 "ClockReach$Automaton" "places" "I") (List.mem_of_getElem? (i := 2) rfl)
  have hown : s.vm.findClass RX3 = some m.cls := findClass_of_methodNamed B.named
  have hlocks := B.notSynchronized
  have hiX0 : ∀ w ∈ wsX00, w ∈ vs_X3_startsIn := fun _ h => List.mem_cons_of_mem _ (List.mem_append_right _ h)
  have hiX3 : ∀ w ∈ wsX30, w ∈ vs_X3_startsIn := fun _ h => List.mem_cons_of_mem _ (List.mem_append_left _ (List.mem_append_right _ h))
  have hD := hD0.self (sz := s.heap.size)
  generalize hAe : va_A (wX a k) s.heap.size = A at hD ⊢
  have hA : ∀ q : Nat, s.heap.size ≤ q → A q := fun q h => by rw [← hAe]; exact Or.inr h
  have hS : va_S A s.heap s.heap [] := va_S.rf
  have hl := lv_entry ([.ref (a 3), .ref (a 1)]) (n := 3) (Nat.le_of_ble_eq_true rfl)
  rw [lg_entry_eq]
  generalize (lg_sl ([.ref (a 3), .ref (a 1)]) ++ List.replicate (3 - (lg_sl ([.ref (a 3), .ref (a 1)])).length) Slot.unset).toArray = ls at hl ⊢
  have hl : lv_has ls 3 [(0, .ref (a 3)), (1, .ref (a 1))] := hl
  refine lv_aload_n hx hb dX3_startsIn_0 rfl (lv_at hl 0 rfl) ?_
  refine lv_iconst (v := 0) hx hb dX3_startsIn_1 (by decide) ?_
  refine va_put (D := (dC, dI)) (ci := 3) (v := .int 0) (ty := .boolean) (C := RX3) (T := TX3) (N := 5) hx hb hts hiX3 tyX3 tyX3_ok nmX3 hown hK hP hD hS 3 rfl rfl 0 (by decide) v_1 (fun _ h9 => h9) rfl (by decide +kernel) rfl rfl (Nat.le_of_ble_eq_true rfl) dX3_startsIn_2 (fun H locs hP hD hS => ?_)
  have hP : va_P (dC, dI) vwCl (wX a k) H := hP
  have hD : va_D A (wX a k) := hD
  refine lv_aload_n hx hb dX3_startsIn_5 rfl (lv_at hl 1 rfl) ?_
  refine va_get (D := (dC, dI)) (ci := 0) (v := .int 0) (C := RX0) (T := TX0) (N := 17) hx hb hts hiX0 hown hK hP 1 rfl rfl 1 (by decide) v_2 (fun _ h9 => h9) rfl dX3_startsIn_6 ?_
  refine lv_if_ne (tgt := 14) hx hb dX3_startsIn_9 (by decide) (fun z => absurd z (by decide)) (fun _ => ?_)
  refine lv_iconst (v := 0) hx hb dX3_startsIn_12 (by decide) ?_
  exact W.zret (v := 0) (ty := .boolean) hx hb hr rfl (fun t ht hW => ⟨⟨0, (), rfl, by first | rfl | decide | simp_all, trivial⟩, hS.F ht⟩) hS.2.2 dX3_startsIn_13
