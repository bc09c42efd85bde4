theorem dX0_clear_0 : decode cX0_clear 0 = .ok (.aload_n 0, 1) := by decide +kernel
theorem dX0_clear_1 : decode cX0_clear 1 = .ok (.iconst 0, 1) := by decide +kernel
theorem dX0_clear_2 : decode cX0_clear 2 = .ok (.putfield 56, 3) := by decide +kernel
theorem dX0_clear_5 : decode cX0_clear 5 = .ok (.aload_n 0, 1) := by decide +kernel
theorem dX0_clear_6 : decode cX0_clear 6 = .ok (.iconst 0, 1) := by decide +kernel
theorem dX0_clear_7 : decode cX0_clear 7 = .ok (.putfield 59, 3) := by decide +kernel
theorem dX0_clear_10 : decode cX0_clear 10 = .ok (.aload_n 0, 1) := by decide +kernel
theorem dX0_clear_11 : decode cX0_clear 11 = .ok (.iconst 0, 1) := by decide +kernel
theorem dX0_clear_12 : decode cX0_clear 12 = .ok (.putfield 62, 3) := by decide +kernel
theorem dX0_clear_15 : decode cX0_clear 15 = .ok (.aload_n 0, 1) := by decide +kernel
theorem dX0_clear_16 : decode cX0_clear 16 = .ok (.iconst (-1), 1) := by decide +kernel
theorem dX0_clear_17 : decode cX0_clear 17 = .ok (.putfield 9, 3) := by decide +kernel
theorem dX0_clear_20 : decode cX0_clear 20 = .ok (.iconst 0, 1) := by decide +kernel
theorem dX0_clear_21 : decode cX0_clear 21 = .ok (.istore_n 1, 1) := by decide +kernel
theorem dX0_clear_22 : decode cX0_clear 22 = .ok (.iload_n 1, 1) := by decide +kernel
theorem dX0_clear_23 : decode cX0_clear 23 = .ok (.bipush 8, 2) := by decide +kernel
theorem dX0_clear_25 : decode cX0_clear 25 = .ok (.if_icmp .ge 16, 3) := by decide +kernel
theorem dX0_clear_28 : decode cX0_clear 28 = .ok (.aload_n 0, 1) := by decide +kernel
theorem dX0_clear_29 : decode cX0_clear 29 = .ok (.getfield 15, 3) := by decide +kernel
theorem dX0_clear_32 : decode cX0_clear 32 = .ok (.iload_n 1, 1) := by decide +kernel
theorem dX0_clear_33 : decode cX0_clear 33 = .ok (.iconst 0, 1) := by decide +kernel
theorem dX0_clear_34 : decode cX0_clear 34 = .ok (.bastore, 1) := by decide +kernel
theorem dX0_clear_35 : decode cX0_clear 35 = .ok (.iinc 1 1, 3) := by decide +kernel
theorem dX0_clear_38 : decode cX0_clear 38 = .ok (.goto (-16), 3) := by decide +kernel
theorem dX0_clear_41 : decode cX0_clear 41 = .ok (.iconst 0, 1) := by decide +kernel
theorem dX0_clear_42 : decode cX0_clear 42 = .ok (.istore_n 1, 1) := by decide +kernel
theorem dX0_clear_43 : decode cX0_clear 43 = .ok (.iload_n 1, 1) := by decide +kernel
theorem dX0_clear_44 : decode cX0_clear 44 = .ok (.bipush 22, 2) := by decide +kernel
theorem dX0_clear_46 : decode cX0_clear 46 = .ok (.if_icmp .ge 16, 3) := by decide +kernel
theorem dX0_clear_49 : decode cX0_clear 49 = .ok (.aload_n 0, 1) := by decide +kernel
theorem dX0_clear_50 : decode cX0_clear 50 = .ok (.getfield 29, 3) := by decide +kernel
theorem dX0_clear_53 : decode cX0_clear 53 = .ok (.iload_n 1, 1) := by decide +kernel
theorem dX0_clear_54 : decode cX0_clear 54 = .ok (.iconst 0, 1) := by decide +kernel
theorem dX0_clear_55 : decode cX0_clear 55 = .ok (.iastore, 1) := by decide +kernel
theorem dX0_clear_56 : decode cX0_clear 56 = .ok (.iinc 1 1, 3) := by decide +kernel
theorem dX0_clear_59 : decode cX0_clear 59 = .ok (.goto (-16), 3) := by decide +kernel
theorem dX0_clear_62 : decode cX0_clear 62 = .ok (.return_, 1) := by decide +kernel
def vs_X0_clear : List Cond := .code yX0_clear cX0_clear 2 none :: ([.fieldLink RX0 56 "ClockReach$Automaton" "clocks" "I", .fieldLink RX0 59 "ClockReach$Automaton" "places" "I", .fieldLink RX0 62 "ClockReach$Automaton" "edges" "I", .fieldLink RX0 9 "ClockReach$Automaton" "start" "I", .fieldLink RX0 15 "ClockReach$Automaton" "hurried" "[Z", .fieldLink RX0 29 "ClockReach$Automaton" "counts" "[I"] ++ wsX00)
set_option maxHeartbeats 4000000 in
set_option maxRecDepth 100000 in
theorem c_X0_clear (l : Launch) (dC : Nat → ClassId) (dI : Nat → Nat → Nat) (sz : Nat) (a : Nat → Nat) (k : Nat → ClassId) : Met l yX0_clear vs_X0_clear ({ frames := 0, cells := 0, slots := 0, locals := 0 }) (va_Pc [.ref (a 5)] (pu_B (dC, dI) [((a 5), .inr (0, [.int 0, .int 0, .int 0, .int (-1), .ref (a 8), .ref (a 41), .ref (a 42), .ref (a 43), .ref (a 9), .ref (a 44), .ref (a 45), .ref (a 46), .ref (a 47), .ref (a 48), .ref (a 49), .ref (a 50), .ref (a 51)])), ((a 8), .inl ((k 2), 8, .inl (fun _ => 0))), ((a 9), .inl ((k 3), 22, .inl (fun _ => 0)))] [(k 2, .boolean), (k 3, .int)] sz)) (va_Qv (fun (_ : Unit) => True) (fun _ t => pu_E (dC, dI) [((a 5), .inr (0, [.int 0, .int 0, .int 0, .int (-1), .ref (a 8), .ref (a 41), .ref (a 42), .ref (a 43), .ref (a 9), .ref (a 44), .ref (a 45), .ref (a 46), .ref (a 47), .ref (a 48), .ref (a 49), .ref (a 50), .ref (a 51)]))] [] (va_A ([((a 5), .inr (0, [.int 0, .int 0, .int 0, .int (-1), .ref (a 8), .ref (a 41), .ref (a 42), .ref (a 43), .ref (a 9), .ref (a 44), .ref (a 45), .ref (a 46), .ref (a 47), .ref (a 48), .ref (a 49), .ref (a 50), .ref (a 51)])), ((a 8), .inl ((k 2), 8, .inl (fun _ => 0))), ((a 9), .inl ((k 3), 22, .inl (fun _ => 0)))]) sz) t) (va_A ([((a 5), .inr (0, [.int 0, .int 0, .int 0, .int (-1), .ref (a 8), .ref (a 41), .ref (a 42), .ref (a 43), .ref (a 9), .ref (a 44), .ref (a 45), .ref (a 46), .ref (a 47), .ref (a 48), .ref (a 49), .ref (a 50), .ref (a 51)])), ((a 8), .inl ((k 2), 8, .inl (fun _ => 0))), ((a 9), .inl ((k 3), 22, .inl (fun _ => 0)))]) sz)) 0 0 (va_A ([((a 5), .inr (0, [.int 0, .int 0, .int 0, .int (-1), .ref (a 8), .ref (a 41), .ref (a 42), .ref (a 43), .ref (a 9), .ref (a 44), .ref (a 45), .ref (a 46), .ref (a 47), .ref (a 48), .ref (a 49), .ref (a 50), .ref (a 51)])), ((a 8), .inl ((k 2), 8, .inl (fun _ => 0))), ((a 9), .inl ((k 3), 22, .inl (fun _ => 0)))]) sz) := by
  refine Met.ofW (cc := cX0_clear) (maxL := 2) (ret := none) (by decide) rfl ?_
  intro p e s m args below meth c s₁ B hml hv
  obtain ⟨rfl, rfl, hP, hK, hD0⟩ := hv
  have hx := B.exec
  have hb := B.bytes
  have hr := B.returns
  have hts := atoms_spec (ws := vs_X0_clear) B.pre
  have v_1 := hts (.fieldLink RX0 56 "ClockReach$Automaton" "clocks" "I") (List.mem_of_getElem? (i := 1) rfl)
  have v_2 := hts (.fieldLink RX0 59 "ClockReach$Automaton" "places" "I") (List.mem_of_getElem? (i := 2) rfl)
  have v_3 := hts (.fieldLink RX0 62 "ClockReach$Automaton" "edges" "I") (List.mem_of_getElem? (i := 3) rfl)
  have v_4 := hts (.fieldLink RX0 9 "ClockReach$Automaton" "start" "I") (List.mem_of_getElem? (i := 4) rfl)
  have v_5 := hts (.fieldLink RX0 15 "ClockReach$Automaton" "hurried" "[Z") (List.mem_of_getElem? (i := 5) rfl)
  have v_6 := hts (.fieldLink RX0 29 "ClockReach$Automaton" "counts" "[I") (List.mem_of_getElem? (i := 6) rfl)
  have hown : s.vm.findClass RX0 = some m.cls := findClass_of_methodNamed B.named
  have hlocks := B.notSynchronized
  have hiX0 : ∀ w ∈ wsX00, w ∈ vs_X0_clear := fun _ h => List.mem_cons_of_mem _ (List.mem_append_right _ h)
  have hD := hD0.self (sz := s.heap.size)
  generalize hAe : va_A ([((a 5), .inr (0, [.int 0, .int 0, .int 0, .int (-1), .ref (a 8), .ref (a 41), .ref (a 42), .ref (a 43), .ref (a 9), .ref (a 44), .ref (a 45), .ref (a 46), .ref (a 47), .ref (a 48), .ref (a 49), .ref (a 50), .ref (a 51)])), ((a 8), .inl ((k 2), 8, .inl (fun _ => 0))), ((a 9), .inl ((k 3), 22, .inl (fun _ => 0)))]) s.heap.size = A at hD ⊢
  have hA : ∀ q : Nat, s.heap.size ≤ q → A q := fun q h => by rw [← hAe]; exact Or.inr h
  have hS : va_S A s.heap s.heap [] := va_S.rf
  have hl := lv_entry ([.ref (a 5)]) (n := 2) (Nat.le_of_ble_eq_true rfl)
  rw [lg_entry_eq]
  generalize (lg_sl ([.ref (a 5)]) ++ List.replicate (2 - (lg_sl ([.ref (a 5)])).length) Slot.unset).toArray = ls at hl ⊢
  have hl : lv_has ls 2 [(0, .ref (a 5))] := hl
  refine lv_aload_n hx hb dX0_clear_0 rfl (lv_at hl 0 rfl) ?_
  refine lv_iconst (v := 0) hx hb dX0_clear_1 (by decide) ?_
  refine va_put (D := (dC, dI)) (ci := 0) (v := .int 0) (ty := .int) (C := RX0) (T := TX0) (N := 17) hx hb hts hiX0 tyX0 tyX0_ok nmX0 hown hK hP hD hS 0 rfl rfl 0 (by decide) v_1 (fun _ h9 => h9) rfl (by decide +kernel) rfl rfl (Nat.le_of_ble_eq_true rfl) dX0_clear_2 (fun H locs hP hD hS => ?_)
  have hP : va_P (dC, dI) vwCl [((a 5), .inr (0, [.int 0, .int 0, .int 0, .int (-1), .ref (a 8), .ref (a 41), .ref (a 42), .ref (a 43), .ref (a 9), .ref (a 44), .ref (a 45), .ref (a 46), .ref (a 47), .ref (a 48), .ref (a 49), .ref (a 50), .ref (a 51)])), ((a 8), .inl ((k 2), 8, .inl (fun _ => 0))), ((a 9), .inl ((k 3), 22, .inl (fun _ => 0)))] H := hP
  have hD : va_D A [((a 5), .inr (0, [.int 0, .int 0, .int 0, .int (-1), .ref (a 8), .ref (a 41), .ref (a 42), .ref (a 43), .ref (a 9), .ref (a 44), .ref (a 45), .ref (a 46), .ref (a 47), .ref (a 48), .ref (a 49), .ref (a 50), .ref (a 51)])), ((a 8), .inl ((k 2), 8, .inl (fun _ => 0))), ((a 9), .inl ((k 3), 22, .inl (fun _ => 0)))] := hD
  refine lv_aload_n hx hb dX0_clear_5 rfl (lv_at hl 0 rfl) ?_
  refine lv_iconst (v := 0) hx hb dX0_clear_6 (by decide) ?_
  refine va_put (D := (dC, dI)) (ci := 0) (v := .int 0) (ty := .int) (C := RX0) (T := TX0) (N := 17) hx hb hts hiX0 tyX0 tyX0_ok nmX0 hown hK hP hD hS 0 rfl rfl 1 (by decide) v_2 (fun _ h9 => h9) rfl (by decide +kernel) rfl rfl (Nat.le_of_ble_eq_true rfl) dX0_clear_7 (fun H locs hP hD hS => ?_)
  have hP : va_P (dC, dI) vwCl [((a 5), .inr (0, [.int 0, .int 0, .int 0, .int (-1), .ref (a 8), .ref (a 41), .ref (a 42), .ref (a 43), .ref (a 9), .ref (a 44), .ref (a 45), .ref (a 46), .ref (a 47), .ref (a 48), .ref (a 49), .ref (a 50), .ref (a 51)])), ((a 8), .inl ((k 2), 8, .inl (fun _ => 0))), ((a 9), .inl ((k 3), 22, .inl (fun _ => 0)))] H := hP
  have hD : va_D A [((a 5), .inr (0, [.int 0, .int 0, .int 0, .int (-1), .ref (a 8), .ref (a 41), .ref (a 42), .ref (a 43), .ref (a 9), .ref (a 44), .ref (a 45), .ref (a 46), .ref (a 47), .ref (a 48), .ref (a 49), .ref (a 50), .ref (a 51)])), ((a 8), .inl ((k 2), 8, .inl (fun _ => 0))), ((a 9), .inl ((k 3), 22, .inl (fun _ => 0)))] := hD
  refine lv_aload_n hx hb dX0_clear_10 rfl (lv_at hl 0 rfl) ?_
  refine lv_iconst (v := 0) hx hb dX0_clear_11 (by decide) ?_
  refine va_put (D := (dC, dI)) (ci := 0) (v := .int 0) (ty := .int) (C := RX0) (T := TX0) (N := 17) hx hb hts hiX0 tyX0 tyX0_ok nmX0 hown hK hP hD hS 0 rfl rfl 2 (by decide) v_3 (fun _ h9 => h9) rfl (by decide +kernel) rfl rfl (Nat.le_of_ble_eq_true rfl) dX0_clear_12 (fun H locs hP hD hS => ?_)
  have hP : va_P (dC, dI) vwCl [((a 5), .inr (0, [.int 0, .int 0, .int 0, .int (-1), .ref (a 8), .ref (a 41), .ref (a 42), .ref (a 43), .ref (a 9), .ref (a 44), .ref (a 45), .ref (a 46), .ref (a 47), .ref (a 48), .ref (a 49), .ref (a 50), .ref (a 51)])), ((a 8), .inl ((k 2), 8, .inl (fun _ => 0))), ((a 9), .inl ((k 3), 22, .inl (fun _ => 0)))] H := hP
  have hD : va_D A [((a 5), .inr (0, [.int 0, .int 0, .int 0, .int (-1), .ref (a 8), .ref (a 41), .ref (a 42), .ref (a 43), .ref (a 9), .ref (a 44), .ref (a 45), .ref (a 46), .ref (a 47), .ref (a 48), .ref (a 49), .ref (a 50), .ref (a 51)])), ((a 8), .inl ((k 2), 8, .inl (fun _ => 0))), ((a 9), .inl ((k 3), 22, .inl (fun _ => 0)))] := hD
  refine lv_aload_n hx hb dX0_clear_15 rfl (lv_at hl 0 rfl) ?_
  refine lv_iconst (v := (-1)) hx hb dX0_clear_16 (by decide) ?_
  refine va_put (D := (dC, dI)) (ci := 0) (v := .int (-1)) (ty := .int) (C := RX0) (T := TX0) (N := 17) hx hb hts hiX0 tyX0 tyX0_ok nmX0 hown hK hP hD hS 0 rfl rfl 3 (by decide) v_4 (fun _ h9 => h9) rfl (by decide +kernel) rfl rfl (Nat.le_of_ble_eq_true rfl) dX0_clear_17 (fun H locs hP hD hS => ?_)
  have hP : va_P (dC, dI) vwCl [((a 5), .inr (0, [.int 0, .int 0, .int 0, .int (-1), .ref (a 8), .ref (a 41), .ref (a 42), .ref (a 43), .ref (a 9), .ref (a 44), .ref (a 45), .ref (a 46), .ref (a 47), .ref (a 48), .ref (a 49), .ref (a 50), .ref (a 51)])), ((a 8), .inl ((k 2), 8, .inl (fun _ => 0))), ((a 9), .inl ((k 3), 22, .inl (fun _ => 0)))] H := hP
  have hD : va_D A [((a 5), .inr (0, [.int 0, .int 0, .int 0, .int (-1), .ref (a 8), .ref (a 41), .ref (a 42), .ref (a 43), .ref (a 9), .ref (a 44), .ref (a 45), .ref (a 46), .ref (a 47), .ref (a 48), .ref (a 49), .ref (a 50), .ref (a 51)])), ((a 8), .inl ((k 2), 8, .inl (fun _ => 0))), ((a 9), .inl ((k 3), 22, .inl (fun _ => 0)))] := hD
  refine lv_iconst (v := 0) hx hb dX0_clear_20 (by decide) ?_
  refine lv_istore_n (lv' := [(1, .int 0), (0, .ref (a 5))]) hx hb dX0_clear_21 rfl hl (by decide) rfl (fun ls hl => ?_)
  refine lv_iload_n hx hb dX0_clear_22 rfl (lv_at hl 0 rfl) ?_
  refine lv_bipush (v := 8) hx hb dX0_clear_23 (by decide) ?_
  refine lv_icmp_ge (tgt := 41) hx hb dX0_clear_25 (by decide) (fun z => absurd z (by decide)) (fun _ => ?_)
  refine lv_aload_n hx hb dX0_clear_28 rfl (lv_at hl 1 rfl) ?_
  refine va_get (D := (dC, dI)) (ci := 0) (v := .ref (a 8)) (C := RX0) (T := TX0) (N := 17) hx hb hts hiX0 hown hK hP 0 rfl rfl 4 (by decide) v_5 (fun _ h9 => h9) rfl dX0_clear_29 ?_
  refine lv_iload_n hx hb dX0_clear_32 rfl (lv_at hl 0 rfl) ?_
  refine lv_iconst (v := 0) hx hb dX0_clear_33 (by decide) ?_
  refine va_zast hx hb hK hP hD hS 1 0 rfl rfl (show ¬ (_ ∨ _) by decide) dX0_clear_34 (fun H locs hP hD hS => ?_)
  have hP : va_P (dC, dI) vwCl [((a 5), .inr (0, [.int 0, .int 0, .int 0, .int (-1), .ref (a 8), .ref (a 41), .ref (a 42), .ref (a 43), .ref (a 9), .ref (a 44), .ref (a 45), .ref (a 46), .ref (a 47), .ref (a 48), .ref (a 49), .ref (a 50), .ref (a 51)])), ((a 8), .inl ((k 2), 8, .inl (upd (fun _ => 0) (0 : Int32).toNatClampNeg (vp_nar .boolean 0)))), ((a 9), .inl ((k 3), 22, .inl (fun _ => 0)))] H := hP
  have hD : va_D A [((a 5), .inr (0, [.int 0, .int 0, .int 0, .int (-1), .ref (a 8), .ref (a 41), .ref (a 42), .ref (a 43), .ref (a 9), .ref (a 44), .ref (a 45), .ref (a 46), .ref (a 47), .ref (a 48), .ref (a 49), .ref (a 50), .ref (a 51)])), ((a 8), .inl ((k 2), 8, .inl (upd (fun _ => 0) (0 : Int32).toNatClampNeg (vp_nar .boolean 0)))), ((a 9), .inl ((k 3), 22, .inl (fun _ => 0)))] := hD
  refine lv_iinc (v := 1) (lv' := [(1, .int 1), (0, .ref (a 5))]) hx hb dX0_clear_35 hl (k := 0) rfl (by decide) (by decide) rfl (fun ls hl => ?_)
  refine lv_goto (tgt := 22) hx hb dX0_clear_38 (by decide) ?_
  refine lv_iload_n hx hb dX0_clear_22 rfl (lv_at hl 0 rfl) ?_
  refine lv_bipush (v := 8) hx hb dX0_clear_23 (by decide) ?_
  refine lv_icmp_ge (tgt := 41) hx hb dX0_clear_25 (by decide) (fun z => absurd z (by decide)) (fun _ => ?_)
  refine lv_aload_n hx hb dX0_clear_28 rfl (lv_at hl 1 rfl) ?_
  refine va_get (D := (dC, dI)) (ci := 0) (v := .ref (a 8)) (C := RX0) (T := TX0) (N := 17) hx hb hts hiX0 hown hK hP 0 rfl rfl 4 (by decide) v_5 (fun _ h9 => h9) rfl dX0_clear_29 ?_
  refine lv_iload_n hx hb dX0_clear_32 rfl (lv_at hl 0 rfl) ?_
  refine lv_iconst (v := 0) hx hb dX0_clear_33 (by decide) ?_
  refine va_zast hx hb hK hP hD hS 1 0 rfl rfl (show ¬ (_ ∨ _) by decide) dX0_clear_34 (fun H locs hP hD hS => ?_)
  have hP : va_P (dC, dI) vwCl [((a 5), .inr (0, [.int 0, .int 0, .int 0, .int (-1), .ref (a 8), .ref (a 41), .ref (a 42), .ref (a 43), .ref (a 9), .ref (a 44), .ref (a 45), .ref (a 46), .ref (a 47), .ref (a 48), .ref (a 49), .ref (a 50), .ref (a 51)])), ((a 8), .inl ((k 2), 8, .inl (upd (upd (fun _ => 0) (0 : Int32).toNatClampNeg (vp_nar .boolean 0)) (1 : Int32).toNatClampNeg (vp_nar .boolean 0)))), ((a 9), .inl ((k 3), 22, .inl (fun _ => 0)))] H := hP
  have hD : va_D A [((a 5), .inr (0, [.int 0, .int 0, .int 0, .int (-1), .ref (a 8), .ref (a 41), .ref (a 42), .ref (a 43), .ref (a 9), .ref (a 44), .ref (a 45), .ref (a 46), .ref (a 47), .ref (a 48), .ref (a 49), .ref (a 50), .ref (a 51)])), ((a 8), .inl ((k 2), 8, .inl (upd (upd (fun _ => 0) (0 : Int32).toNatClampNeg (vp_nar .boolean 0)) (1 : Int32).toNatClampNeg (vp_nar .boolean 0)))), ((a 9), .inl ((k 3), 22, .inl (fun _ => 0)))] := hD
  refine lv_iinc (v := 2) (lv' := [(1, .int 2), (0, .ref (a 5))]) hx hb dX0_clear_35 hl (k := 0) rfl (by decide) (by decide) rfl (fun ls hl => ?_)
  refine lv_goto (tgt := 22) hx hb dX0_clear_38 (by decide) ?_
  refine lv_iload_n hx hb dX0_clear_22 rfl (lv_at hl 0 rfl) ?_
  refine lv_bipush (v := 8) hx hb dX0_clear_23 (by decide) ?_
  refine lv_icmp_ge (tgt := 41) hx hb dX0_clear_25 (by decide) (fun z => absurd z (by decide)) (fun _ => ?_)
  refine lv_aload_n hx hb dX0_clear_28 rfl (lv_at hl 1 rfl) ?_
  refine va_get (D := (dC, dI)) (ci := 0) (v := .ref (a 8)) (C := RX0) (T := TX0) (N := 17) hx hb hts hiX0 hown hK hP 0 rfl rfl 4 (by decide) v_5 (fun _ h9 => h9) rfl dX0_clear_29 ?_
  refine lv_iload_n hx hb dX0_clear_32 rfl (lv_at hl 0 rfl) ?_
  refine lv_iconst (v := 0) hx hb dX0_clear_33 (by decide) ?_
  refine va_zast hx hb hK hP hD hS 1 0 rfl rfl (show ¬ (_ ∨ _) by decide) dX0_clear_34 (fun H locs hP hD hS => ?_)
  have hP : va_P (dC, dI) vwCl [((a 5), .inr (0, [.int 0, .int 0, .int 0, .int (-1), .ref (a 8), .ref (a 41), .ref (a 42), .ref (a 43), .ref (a 9), .ref (a 44), .ref (a 45), .ref (a 46), .ref (a 47), .ref (a 48), .ref (a 49), .ref (a 50), .ref (a 51)])), ((a 8), .inl ((k 2), 8, .inl (upd (upd (upd (fun _ => 0) (0 : Int32).toNatClampNeg (vp_nar .boolean 0)) (1 : Int32).toNatClampNeg (vp_nar .boolean 0)) (2 : Int32).toNatClampNeg (vp_nar .boolean 0)))), ((a 9), .inl ((k 3), 22, .inl (fun _ => 0)))] H := hP
  have hD : va_D A [((a 5), .inr (0, [.int 0, .int 0, .int 0, .int (-1), .ref (a 8), .ref (a 41), .ref (a 42), .ref (a 43), .ref (a 9), .ref (a 44), .ref (a 45), .ref (a 46), .ref (a 47), .ref (a 48), .ref (a 49), .ref (a 50), .ref (a 51)])), ((a 8), .inl ((k 2), 8, .inl (upd (upd (upd (fun _ => 0) (0 : Int32).toNatClampNeg (vp_nar .boolean 0)) (1 : Int32).toNatClampNeg (vp_nar .boolean 0)) (2 : Int32).toNatClampNeg (vp_nar .boolean 0)))), ((a 9), .inl ((k 3), 22, .inl (fun _ => 0)))] := hD
  refine lv_iinc (v := 3) (lv' := [(1, .int 3), (0, .ref (a 5))]) hx hb dX0_clear_35 hl (k := 0) rfl (by decide) (by decide) rfl (fun ls hl => ?_)
  refine lv_goto (tgt := 22) hx hb dX0_clear_38 (by decide) ?_
  refine lv_iload_n hx hb dX0_clear_22 rfl (lv_at hl 0 rfl) ?_
  refine lv_bipush (v := 8) hx hb dX0_clear_23 (by decide) ?_
  refine lv_icmp_ge (tgt := 41) hx hb dX0_clear_25 (by decide) (fun z => absurd z (by decide)) (fun _ => ?_)
  refine lv_aload_n hx hb dX0_clear_28 rfl (lv_at hl 1 rfl) ?_
  refine va_get (D := (dC, dI)) (ci := 0) (v := .ref (a 8)) (C := RX0) (T := TX0) (N := 17) hx hb hts hiX0 hown hK hP 0 rfl rfl 4 (by decide) v_5 (fun _ h9 => h9) rfl dX0_clear_29 ?_
  refine lv_iload_n hx hb dX0_clear_32 rfl (lv_at hl 0 rfl) ?_
  refine lv_iconst (v := 0) hx hb dX0_clear_33 (by decide) ?_
  refine va_zast hx hb hK hP hD hS 1 0 rfl rfl (show ¬ (_ ∨ _) by decide) dX0_clear_34 (fun H locs hP hD hS => ?_)
  have hP : va_P (dC, dI) vwCl [((a 5), .inr (0, [.int 0, .int 0, .int 0, .int (-1), .ref (a 8), .ref (a 41), .ref (a 42), .ref (a 43), .ref (a 9), .ref (a 44), .ref (a 45), .ref (a 46), .ref (a 47), .ref (a 48), .ref (a 49), .ref (a 50), .ref (a 51)])), ((a 8), .inl ((k 2), 8, .inl (upd (upd (upd (upd (fun _ => 0) (0 : Int32).toNatClampNeg (vp_nar .boolean 0)) (1 : Int32).toNatClampNeg (vp_nar .boolean 0)) (2 : Int32).toNatClampNeg (vp_nar .boolean 0)) (3 : Int32).toNatClampNeg (vp_nar .boolean 0)))), ((a 9), .inl ((k 3), 22, .inl (fun _ => 0)))] H := hP
  have hD : va_D A [((a 5), .inr (0, [.int 0, .int 0, .int 0, .int (-1), .ref (a 8), .ref (a 41), .ref (a 42), .ref (a 43), .ref (a 9), .ref (a 44), .ref (a 45), .ref (a 46), .ref (a 47), .ref (a 48), .ref (a 49), .ref (a 50), .ref (a 51)])), ((a 8), .inl ((k 2), 8, .inl (upd (upd (upd (upd (fun _ => 0) (0 : Int32).toNatClampNeg (vp_nar .boolean 0)) (1 : Int32).toNatClampNeg (vp_nar .boolean 0)) (2 : Int32).toNatClampNeg (vp_nar .boolean 0)) (3 : Int32).toNatClampNeg (vp_nar .boolean 0)))), ((a 9), .inl ((k 3), 22, .inl (fun _ => 0)))] := hD
  refine lv_iinc (v := 4) (lv' := [(1, .int 4), (0, .ref (a 5))]) hx hb dX0_clear_35 hl (k := 0) rfl (by decide) (by decide) rfl (fun ls hl => ?_)
  refine lv_goto (tgt := 22) hx hb dX0_clear_38 (by decide) ?_
  refine lv_iload_n hx hb dX0_clear_22 rfl (lv_at hl 0 rfl) ?_
  refine lv_bipush (v := 8) hx hb dX0_clear_23 (by decide) ?_
  refine lv_icmp_ge (tgt := 41) hx hb dX0_clear_25 (by decide) (fun z => absurd z (by decide)) (fun _ => ?_)
  refine lv_aload_n hx hb dX0_clear_28 rfl (lv_at hl 1 rfl) ?_
  refine va_get (D := (dC, dI)) (ci := 0) (v := .ref (a 8)) (C := RX0) (T := TX0) (N := 17) hx hb hts hiX0 hown hK hP 0 rfl rfl 4 (by decide) v_5 (fun _ h9 => h9) rfl dX0_clear_29 ?_
  refine lv_iload_n hx hb dX0_clear_32 rfl (lv_at hl 0 rfl) ?_
  refine lv_iconst (v := 0) hx hb dX0_clear_33 (by decide) ?_
  refine va_zast hx hb hK hP hD hS 1 0 rfl rfl (show ¬ (_ ∨ _) by decide) dX0_clear_34 (fun H locs hP hD hS => ?_)
  have hP : va_P (dC, dI) vwCl [((a 5), .inr (0, [.int 0, .int 0, .int 0, .int (-1), .ref (a 8), .ref (a 41), .ref (a 42), .ref (a 43), .ref (a 9), .ref (a 44), .ref (a 45), .ref (a 46), .ref (a 47), .ref (a 48), .ref (a 49), .ref (a 50), .ref (a 51)])), ((a 8), .inl ((k 2), 8, .inl (upd (upd (upd (upd (upd (fun _ => 0) (0 : Int32).toNatClampNeg (vp_nar .boolean 0)) (1 : Int32).toNatClampNeg (vp_nar .boolean 0)) (2 : Int32).toNatClampNeg (vp_nar .boolean 0)) (3 : Int32).toNatClampNeg (vp_nar .boolean 0)) (4 : Int32).toNatClampNeg (vp_nar .boolean 0)))), ((a 9), .inl ((k 3), 22, .inl (fun _ => 0)))] H := hP
  have hD : va_D A [((a 5), .inr (0, [.int 0, .int 0, .int 0, .int (-1), .ref (a 8), .ref (a 41), .ref (a 42), .ref (a 43), .ref (a 9), .ref (a 44), .ref (a 45), .ref (a 46), .ref (a 47), .ref (a 48), .ref (a 49), .ref (a 50), .ref (a 51)])), ((a 8), .inl ((k 2), 8, .inl (upd (upd (upd (upd (upd (fun _ => 0) (0 : Int32).toNatClampNeg (vp_nar .boolean 0)) (1 : Int32).toNatClampNeg (vp_nar .boolean 0)) (2 : Int32).toNatClampNeg (vp_nar .boolean 0)) (3 : Int32).toNatClampNeg (vp_nar .boolean 0)) (4 : Int32).toNatClampNeg (vp_nar .boolean 0)))), ((a 9), .inl ((k 3), 22, .inl (fun _ => 0)))] := hD
  refine lv_iinc (v := 5) (lv' := [(1, .int 5), (0, .ref (a 5))]) hx hb dX0_clear_35 hl (k := 0) rfl (by decide) (by decide) rfl (fun ls hl => ?_)
  refine lv_goto (tgt := 22) hx hb dX0_clear_38 (by decide) ?_
  refine lv_iload_n hx hb dX0_clear_22 rfl (lv_at hl 0 rfl) ?_
  refine lv_bipush (v := 8) hx hb dX0_clear_23 (by decide) ?_
  refine lv_icmp_ge (tgt := 41) hx hb dX0_clear_25 (by decide) (fun z => absurd z (by decide)) (fun _ => ?_)
  refine lv_aload_n hx hb dX0_clear_28 rfl (lv_at hl 1 rfl) ?_
  refine va_get (D := (dC, dI)) (ci := 0) (v := .ref (a 8)) (C := RX0) (T := TX0) (N := 17) hx hb hts hiX0 hown hK hP 0 rfl rfl 4 (by decide) v_5 (fun _ h9 => h9) rfl dX0_clear_29 ?_
  refine lv_iload_n hx hb dX0_clear_32 rfl (lv_at hl 0 rfl) ?_
  refine lv_iconst (v := 0) hx hb dX0_clear_33 (by decide) ?_
  refine va_zast hx hb hK hP hD hS 1 0 rfl rfl (show ¬ (_ ∨ _) by decide) dX0_clear_34 (fun H locs hP hD hS => ?_)
  have hP : va_P (dC, dI) vwCl [((a 5), .inr (0, [.int 0, .int 0, .int 0, .int (-1), .ref (a 8), .ref (a 41), .ref (a 42), .ref (a 43), .ref (a 9), .ref (a 44), .ref (a 45), .ref (a 46), .ref (a 47), .ref (a 48), .ref (a 49), .ref (a 50), .ref (a 51)])), ((a 8), .inl ((k 2), 8, .inl (upd (upd (upd (upd (upd (upd (fun _ => 0) (0 : Int32).toNatClampNeg (vp_nar .boolean 0)) (1 : Int32).toNatClampNeg (vp_nar .boolean 0)) (2 : Int32).toNatClampNeg (vp_nar .boolean 0)) (3 : Int32).toNatClampNeg (vp_nar .boolean 0)) (4 : Int32).toNatClampNeg (vp_nar .boolean 0)) (5 : Int32).toNatClampNeg (vp_nar .boolean 0)))), ((a 9), .inl ((k 3), 22, .inl (fun _ => 0)))] H := hP
  have hD : va_D A [((a 5), .inr (0, [.int 0, .int 0, .int 0, .int (-1), .ref (a 8), .ref (a 41), .ref (a 42), .ref (a 43), .ref (a 9), .ref (a 44), .ref (a 45), .ref (a 46), .ref (a 47), .ref (a 48), .ref (a 49), .ref (a 50), .ref (a 51)])), ((a 8), .inl ((k 2), 8, .inl (upd (upd (upd (upd (upd (upd (fun _ => 0) (0 : Int32).toNatClampNeg (vp_nar .boolean 0)) (1 : Int32).toNatClampNeg (vp_nar .boolean 0)) (2 : Int32).toNatClampNeg (vp_nar .boolean 0)) (3 : Int32).toNatClampNeg (vp_nar .boolean 0)) (4 : Int32).toNatClampNeg (vp_nar .boolean 0)) (5 : Int32).toNatClampNeg (vp_nar .boolean 0)))), ((a 9), .inl ((k 3), 22, .inl (fun _ => 0)))] := hD
  refine lv_iinc (v := 6) (lv' := [(1, .int 6), (0, .ref (a 5))]) hx hb dX0_clear_35 hl (k := 0) rfl (by decide) (by decide) rfl (fun ls hl => ?_)
  refine lv_goto (tgt := 22) hx hb dX0_clear_38 (by decide) ?_
  refine lv_iload_n hx hb dX0_clear_22 rfl (lv_at hl 0 rfl) ?_
  refine lv_bipush (v := 8) hx hb dX0_clear_23 (by decide) ?_
  refine lv_icmp_ge (tgt := 41) hx hb dX0_clear_25 (by decide) (fun z => absurd z (by decide)) (fun _ => ?_)
  refine lv_aload_n hx hb dX0_clear_28 rfl (lv_at hl 1 rfl) ?_
  refine va_get (D := (dC, dI)) (ci := 0) (v := .ref (a 8)) (C := RX0) (T := TX0) (N := 17) hx hb hts hiX0 hown hK hP 0 rfl rfl 4 (by decide) v_5 (fun _ h9 => h9) rfl dX0_clear_29 ?_
  refine lv_iload_n hx hb dX0_clear_32 rfl (lv_at hl 0 rfl) ?_
  refine lv_iconst (v := 0) hx hb dX0_clear_33 (by decide) ?_
  refine va_zast hx hb hK hP hD hS 1 0 rfl rfl (show ¬ (_ ∨ _) by decide) dX0_clear_34 (fun H locs hP hD hS => ?_)
  have hP : va_P (dC, dI) vwCl [((a 5), .inr (0, [.int 0, .int 0, .int 0, .int (-1), .ref (a 8), .ref (a 41), .ref (a 42), .ref (a 43), .ref (a 9), .ref (a 44), .ref (a 45), .ref (a 46), .ref (a 47), .ref (a 48), .ref (a 49), .ref (a 50), .ref (a 51)])), ((a 8), .inl ((k 2), 8, .inl (upd (upd (upd (upd (upd (upd (upd (fun _ => 0) (0 : Int32).toNatClampNeg (vp_nar .boolean 0)) (1 : Int32).toNatClampNeg (vp_nar .boolean 0)) (2 : Int32).toNatClampNeg (vp_nar .boolean 0)) (3 : Int32).toNatClampNeg (vp_nar .boolean 0)) (4 : Int32).toNatClampNeg (vp_nar .boolean 0)) (5 : Int32).toNatClampNeg (vp_nar .boolean 0)) (6 : Int32).toNatClampNeg (vp_nar .boolean 0)))), ((a 9), .inl ((k 3), 22, .inl (fun _ => 0)))] H := hP
  have hD : va_D A [((a 5), .inr (0, [.int 0, .int 0, .int 0, .int (-1), .ref (a 8), .ref (a 41), .ref (a 42), .ref (a 43), .ref (a 9), .ref (a 44), .ref (a 45), .ref (a 46), .ref (a 47), .ref (a 48), .ref (a 49), .ref (a 50), .ref (a 51)])), ((a 8), .inl ((k 2), 8, .inl (upd (upd (upd (upd (upd (upd (upd (fun _ => 0) (0 : Int32).toNatClampNeg (vp_nar .boolean 0)) (1 : Int32).toNatClampNeg (vp_nar .boolean 0)) (2 : Int32).toNatClampNeg (vp_nar .boolean 0)) (3 : Int32).toNatClampNeg (vp_nar .boolean 0)) (4 : Int32).toNatClampNeg (vp_nar .boolean 0)) (5 : Int32).toNatClampNeg (vp_nar .boolean 0)) (6 : Int32).toNatClampNeg (vp_nar .boolean 0)))), ((a 9), .inl ((k 3), 22, .inl (fun _ => 0)))] := hD
  refine lv_iinc (v := 7) (lv' := [(1, .int 7), (0, .ref (a 5))]) hx hb dX0_clear_35 hl (k := 0) rfl (by decide) (by decide) rfl (fun ls hl => ?_)
  refine lv_goto (tgt := 22) hx hb dX0_clear_38 (by decide) ?_
  refine lv_iload_n hx hb dX0_clear_22 rfl (lv_at hl 0 rfl) ?_
  refine lv_bipush (v := 8) hx hb dX0_clear_23 (by decide) ?_
  refine lv_icmp_ge (tgt := 41) hx hb dX0_clear_25 (by decide) (fun z => absurd z (by decide)) (fun _ => ?_)
  refine lv_aload_n hx hb dX0_clear_28 rfl (lv_at hl 1 rfl) ?_
  refine va_get (D := (dC, dI)) (ci := 0) (v := .ref (a 8)) (C := RX0) (T := TX0) (N := 17) hx hb hts hiX0 hown hK hP 0 rfl rfl 4 (by decide) v_5 (fun _ h9 => h9) rfl dX0_clear_29 ?_
  refine lv_iload_n hx hb dX0_clear_32 rfl (lv_at hl 0 rfl) ?_
  refine lv_iconst (v := 0) hx hb dX0_clear_33 (by decide) ?_
  refine va_zast hx hb hK hP hD hS 1 0 rfl rfl (show ¬ (_ ∨ _) by decide) dX0_clear_34 (fun H locs hP hD hS => ?_)
  have hP : va_P (dC, dI) vwCl [((a 5), .inr (0, [.int 0, .int 0, .int 0, .int (-1), .ref (a 8), .ref (a 41), .ref (a 42), .ref (a 43), .ref (a 9), .ref (a 44), .ref (a 45), .ref (a 46), .ref (a 47), .ref (a 48), .ref (a 49), .ref (a 50), .ref (a 51)])), ((a 8), .inl ((k 2), 8, .inl (upd (upd (upd (upd (upd (upd (upd (upd (fun _ => 0) (0 : Int32).toNatClampNeg (vp_nar .boolean 0)) (1 : Int32).toNatClampNeg (vp_nar .boolean 0)) (2 : Int32).toNatClampNeg (vp_nar .boolean 0)) (3 : Int32).toNatClampNeg (vp_nar .boolean 0)) (4 : Int32).toNatClampNeg (vp_nar .boolean 0)) (5 : Int32).toNatClampNeg (vp_nar .boolean 0)) (6 : Int32).toNatClampNeg (vp_nar .boolean 0)) (7 : Int32).toNatClampNeg (vp_nar .boolean 0)))), ((a 9), .inl ((k 3), 22, .inl (fun _ => 0)))] H := hP
  have hD : va_D A [((a 5), .inr (0, [.int 0, .int 0, .int 0, .int (-1), .ref (a 8), .ref (a 41), .ref (a 42), .ref (a 43), .ref (a 9), .ref (a 44), .ref (a 45), .ref (a 46), .ref (a 47), .ref (a 48), .ref (a 49), .ref (a 50), .ref (a 51)])), ((a 8), .inl ((k 2), 8, .inl (upd (upd (upd (upd (upd (upd (upd (upd (fun _ => 0) (0 : Int32).toNatClampNeg (vp_nar .boolean 0)) (1 : Int32).toNatClampNeg (vp_nar .boolean 0)) (2 : Int32).toNatClampNeg (vp_nar .boolean 0)) (3 : Int32).toNatClampNeg (vp_nar .boolean 0)) (4 : Int32).toNatClampNeg (vp_nar .boolean 0)) (5 : Int32).toNatClampNeg (vp_nar .boolean 0)) (6 : Int32).toNatClampNeg (vp_nar .boolean 0)) (7 : Int32).toNatClampNeg (vp_nar .boolean 0)))), ((a 9), .inl ((k 3), 22, .inl (fun _ => 0)))] := hD
  refine lv_iinc (v := 8) (lv' := [(1, .int 8), (0, .ref (a 5))]) hx hb dX0_clear_35 hl (k := 0) rfl (by decide) (by decide) rfl (fun ls hl => ?_)
  refine lv_goto (tgt := 22) hx hb dX0_clear_38 (by decide) ?_
  refine lv_iload_n hx hb dX0_clear_22 rfl (lv_at hl 0 rfl) ?_
  refine lv_bipush (v := 8) hx hb dX0_clear_23 (by decide) ?_
  refine lv_icmp_ge (tgt := 41) hx hb dX0_clear_25 (by decide) (fun _ => ?_) (fun z => absurd z (by decide))
  refine lv_iconst (v := 0) hx hb dX0_clear_41 (by decide) ?_
  refine lv_istore_n (lv' := [(1, .int 0), (0, .ref (a 5))]) hx hb dX0_clear_42 rfl hl (by decide) rfl (fun ls hl => ?_)
  refine lv_iload_n hx hb dX0_clear_43 rfl (lv_at hl 0 rfl) ?_
  refine lv_bipush (v := 22) hx hb dX0_clear_44 (by decide) ?_
  refine lv_icmp_ge (tgt := 62) hx hb dX0_clear_46 (by decide) (fun z => absurd z (by decide)) (fun _ => ?_)
  refine lv_aload_n hx hb dX0_clear_49 rfl (lv_at hl 1 rfl) ?_
  refine va_get (D := (dC, dI)) (ci := 0) (v := .ref (a 9)) (C := RX0) (T := TX0) (N := 17) hx hb hts hiX0 hown hK hP 0 rfl rfl 8 (by decide) v_6 (fun _ h9 => h9) rfl dX0_clear_50 ?_
  refine lv_iload_n hx hb dX0_clear_53 rfl (lv_at hl 0 rfl) ?_
  refine lv_iconst (v := 0) hx hb dX0_clear_54 (by decide) ?_
  refine va_iast hx hb hK hP hD hS 2 1 rfl rfl (show ¬ (_ ∨ _) by decide) dX0_clear_55 (fun H locs hP hD hS => ?_)
  have hP : va_P (dC, dI) vwCl [((a 5), .inr (0, [.int 0, .int 0, .int 0, .int (-1), .ref (a 8), .ref (a 41), .ref (a 42), .ref (a 43), .ref (a 9), .ref (a 44), .ref (a 45), .ref (a 46), .ref (a 47), .ref (a 48), .ref (a 49), .ref (a 50), .ref (a 51)])), ((a 8), .inl ((k 2), 8, .inl (upd (upd (upd (upd (upd (upd (upd (upd (fun _ => 0) (0 : Int32).toNatClampNeg (vp_nar .boolean 0)) (1 : Int32).toNatClampNeg (vp_nar .boolean 0)) (2 : Int32).toNatClampNeg (vp_nar .boolean 0)) (3 : Int32).toNatClampNeg (vp_nar .boolean 0)) (4 : Int32).toNatClampNeg (vp_nar .boolean 0)) (5 : Int32).toNatClampNeg (vp_nar .boolean 0)) (6 : Int32).toNatClampNeg (vp_nar .boolean 0)) (7 : Int32).toNatClampNeg (vp_nar .boolean 0)))), ((a 9), .inl ((k 3), 22, .inl (upd (fun _ => 0) (0 : Int32).toNatClampNeg 0)))] H := hP
  have hD : va_D A [((a 5), .inr (0, [.int 0, .int 0, .int 0, .int (-1), .ref (a 8), .ref (a 41), .ref (a 42), .ref (a 43), .ref (a 9), .ref (a 44), .ref (a 45), .ref (a 46), .ref (a 47), .ref (a 48), .ref (a 49), .ref (a 50), .ref (a 51)])), ((a 8), .inl ((k 2), 8, .inl (upd (upd (upd (upd (upd (upd (upd (upd (fun _ => 0) (0 : Int32).toNatClampNeg (vp_nar .boolean 0)) (1 : Int32).toNatClampNeg (vp_nar .boolean 0)) (2 : Int32).toNatClampNeg (vp_nar .boolean 0)) (3 : Int32).toNatClampNeg (vp_nar .boolean 0)) (4 : Int32).toNatClampNeg (vp_nar .boolean 0)) (5 : Int32).toNatClampNeg (vp_nar .boolean 0)) (6 : Int32).toNatClampNeg (vp_nar .boolean 0)) (7 : Int32).toNatClampNeg (vp_nar .boolean 0)))), ((a 9), .inl ((k 3), 22, .inl (upd (fun _ => 0) (0 : Int32).toNatClampNeg 0)))] := hD
  refine lv_iinc (v := 1) (lv' := [(1, .int 1), (0, .ref (a 5))]) hx hb dX0_clear_56 hl (k := 0) rfl (by decide) (by decide) rfl (fun ls hl => ?_)
  refine lv_goto (tgt := 43) hx hb dX0_clear_59 (by decide) ?_
  refine lv_iload_n hx hb dX0_clear_43 rfl (lv_at hl 0 rfl) ?_
  refine lv_bipush (v := 22) hx hb dX0_clear_44 (by decide) ?_
  refine lv_icmp_ge (tgt := 62) hx hb dX0_clear_46 (by decide) (fun z => absurd z (by decide)) (fun _ => ?_)
  refine lv_aload_n hx hb dX0_clear_49 rfl (lv_at hl 1 rfl) ?_
  refine va_get (D := (dC, dI)) (ci := 0) (v := .ref (a 9)) (C := RX0) (T := TX0) (N := 17) hx hb hts hiX0 hown hK hP 0 rfl rfl 8 (by decide) v_6 (fun _ h9 => h9) rfl dX0_clear_50 ?_
  refine lv_iload_n hx hb dX0_clear_53 rfl (lv_at hl 0 rfl) ?_
  refine lv_iconst (v := 0) hx hb dX0_clear_54 (by decide) ?_
  refine va_iast hx hb hK hP hD hS 2 1 rfl rfl (show ¬ (_ ∨ _) by decide) dX0_clear_55 (fun H locs hP hD hS => ?_)
  have hP : va_P (dC, dI) vwCl [((a 5), .inr (0, [.int 0, .int 0, .int 0, .int (-1), .ref (a 8), .ref (a 41), .ref (a 42), .ref (a 43), .ref (a 9), .ref (a 44), .ref (a 45), .ref (a 46), .ref (a 47), .ref (a 48), .ref (a 49), .ref (a 50), .ref (a 51)])), ((a 8), .inl ((k 2), 8, .inl (upd (upd (upd (upd (upd (upd (upd (upd (fun _ => 0) (0 : Int32).toNatClampNeg (vp_nar .boolean 0)) (1 : Int32).toNatClampNeg (vp_nar .boolean 0)) (2 : Int32).toNatClampNeg (vp_nar .boolean 0)) (3 : Int32).toNatClampNeg (vp_nar .boolean 0)) (4 : Int32).toNatClampNeg (vp_nar .boolean 0)) (5 : Int32).toNatClampNeg (vp_nar .boolean 0)) (6 : Int32).toNatClampNeg (vp_nar .boolean 0)) (7 : Int32).toNatClampNeg (vp_nar .boolean 0)))), ((a 9), .inl ((k 3), 22, .inl (upd (upd (fun _ => 0) (0 : Int32).toNatClampNeg 0) (1 : Int32).toNatClampNeg 0)))] H := hP
  have hD : va_D A [((a 5), .inr (0, [.int 0, .int 0, .int 0, .int (-1), .ref (a 8), .ref (a 41), .ref (a 42), .ref (a 43), .ref (a 9), .ref (a 44), .ref (a 45), .ref (a 46), .ref (a 47), .ref (a 48), .ref (a 49), .ref (a 50), .ref (a 51)])), ((a 8), .inl ((k 2), 8, .inl (upd (upd (upd (upd (upd (upd (upd (upd (fun _ => 0) (0 : Int32).toNatClampNeg (vp_nar .boolean 0)) (1 : Int32).toNatClampNeg (vp_nar .boolean 0)) (2 : Int32).toNatClampNeg (vp_nar .boolean 0)) (3 : Int32).toNatClampNeg (vp_nar .boolean 0)) (4 : Int32).toNatClampNeg (vp_nar .boolean 0)) (5 : Int32).toNatClampNeg (vp_nar .boolean 0)) (6 : Int32).toNatClampNeg (vp_nar .boolean 0)) (7 : Int32).toNatClampNeg (vp_nar .boolean 0)))), ((a 9), .inl ((k 3), 22, .inl (upd (upd (fun _ => 0) (0 : Int32).toNatClampNeg 0) (1 : Int32).toNatClampNeg 0)))] := hD
  refine lv_iinc (v := 2) (lv' := [(1, .int 2), (0, .ref (a 5))]) hx hb dX0_clear_56 hl (k := 0) rfl (by decide) (by decide) rfl (fun ls hl => ?_)
  refine lv_goto (tgt := 43) hx hb dX0_clear_59 (by decide) ?_
  refine lv_iload_n hx hb dX0_clear_43 rfl (lv_at hl 0 rfl) ?_
  refine lv_bipush (v := 22) hx hb dX0_clear_44 (by decide) ?_
  refine lv_icmp_ge (tgt := 62) hx hb dX0_clear_46 (by decide) (fun z => absurd z (by decide)) (fun _ => ?_)
  refine lv_aload_n hx hb dX0_clear_49 rfl (lv_at hl 1 rfl) ?_
  refine va_get (D := (dC, dI)) (ci := 0) (v := .ref (a 9)) (C := RX0) (T := TX0) (N := 17) hx hb hts hiX0 hown hK hP 0 rfl rfl 8 (by decide) v_6 (fun _ h9 => h9) rfl dX0_clear_50 ?_
  refine lv_iload_n hx hb dX0_clear_53 rfl (lv_at hl 0 rfl) ?_
  refine lv_iconst (v := 0) hx hb dX0_clear_54 (by decide) ?_
  refine va_iast hx hb hK hP hD hS 2 1 rfl rfl (show ¬ (_ ∨ _) by decide) dX0_clear_55 (fun H locs hP hD hS => ?_)
  have hP : va_P (dC, dI) vwCl [((a 5), .inr (0, [.int 0, .int 0, .int 0, .int (-1), .ref (a 8), .ref (a 41), .ref (a 42), .ref (a 43), .ref (a 9), .ref (a 44), .ref (a 45), .ref (a 46), .ref (a 47), .ref (a 48), .ref (a 49), .ref (a 50), .ref (a 51)])), ((a 8), .inl ((k 2), 8, .inl (upd (upd (upd (upd (upd (upd (upd (upd (fun _ => 0) (0 : Int32).toNatClampNeg (vp_nar .boolean 0)) (1 : Int32).toNatClampNeg (vp_nar .boolean 0)) (2 : Int32).toNatClampNeg (vp_nar .boolean 0)) (3 : Int32).toNatClampNeg (vp_nar .boolean 0)) (4 : Int32).toNatClampNeg (vp_nar .boolean 0)) (5 : Int32).toNatClampNeg (vp_nar .boolean 0)) (6 : Int32).toNatClampNeg (vp_nar .boolean 0)) (7 : Int32).toNatClampNeg (vp_nar .boolean 0)))), ((a 9), .inl ((k 3), 22, .inl (upd (upd (upd (fun _ => 0) (0 : Int32).toNatClampNeg 0) (1 : Int32).toNatClampNeg 0) (2 : Int32).toNatClampNeg 0)))] H := hP
  have hD : va_D A [((a 5), .inr (0, [.int 0, .int 0, .int 0, .int (-1), .ref (a 8), .ref (a 41), .ref (a 42), .ref (a 43), .ref (a 9), .ref (a 44), .ref (a 45), .ref (a 46), .ref (a 47), .ref (a 48), .ref (a 49), .ref (a 50), .ref (a 51)])), ((a 8), .inl ((k 2), 8, .inl (upd (upd (upd (upd (upd (upd (upd (upd (fun _ => 0) (0 : Int32).toNatClampNeg (vp_nar .boolean 0)) (1 : Int32).toNatClampNeg (vp_nar .boolean 0)) (2 : Int32).toNatClampNeg (vp_nar .boolean 0)) (3 : Int32).toNatClampNeg (vp_nar .boolean 0)) (4 : Int32).toNatClampNeg (vp_nar .boolean 0)) (5 : Int32).toNatClampNeg (vp_nar .boolean 0)) (6 : Int32).toNatClampNeg (vp_nar .boolean 0)) (7 : Int32).toNatClampNeg (vp_nar .boolean 0)))), ((a 9), .inl ((k 3), 22, .inl (upd (upd (upd (fun _ => 0) (0 : Int32).toNatClampNeg 0) (1 : Int32).toNatClampNeg 0) (2 : Int32).toNatClampNeg 0)))] := hD
  refine lv_iinc (v := 3) (lv' := [(1, .int 3), (0, .ref (a 5))]) hx hb dX0_clear_56 hl (k := 0) rfl (by decide) (by decide) rfl (fun ls hl => ?_)
  refine lv_goto (tgt := 43) hx hb dX0_clear_59 (by decide) ?_
  refine lv_iload_n hx hb dX0_clear_43 rfl (lv_at hl 0 rfl) ?_
  refine lv_bipush (v := 22) hx hb dX0_clear_44 (by decide) ?_
  refine lv_icmp_ge (tgt := 62) hx hb dX0_clear_46 (by decide) (fun z => absurd z (by decide)) (fun _ => ?_)
  refine lv_aload_n hx hb dX0_clear_49 rfl (lv_at hl 1 rfl) ?_
  refine va_get (D := (dC, dI)) (ci := 0) (v := .ref (a 9)) (C := RX0) (T := TX0) (N := 17) hx hb hts hiX0 hown hK hP 0 rfl rfl 8 (by decide) v_6 (fun _ h9 => h9) rfl dX0_clear_50 ?_
  refine lv_iload_n hx hb dX0_clear_53 rfl (lv_at hl 0 rfl) ?_
  refine lv_iconst (v := 0) hx hb dX0_clear_54 (by decide) ?_
  refine va_iast hx hb hK hP hD hS 2 1 rfl rfl (show ¬ (_ ∨ _) by decide) dX0_clear_55 (fun H locs hP hD hS => ?_)
  have hP : va_P (dC, dI) vwCl [((a 5), .inr (0, [.int 0, .int 0, .int 0, .int (-1), .ref (a 8), .ref (a 41), .ref (a 42), .ref (a 43), .ref (a 9), .ref (a 44), .ref (a 45), .ref (a 46), .ref (a 47), .ref (a 48), .ref (a 49), .ref (a 50), .ref (a 51)])), ((a 8), .inl ((k 2), 8, .inl (upd (upd (upd (upd (upd (upd (upd (upd (fun _ => 0) (0 : Int32).toNatClampNeg (vp_nar .boolean 0)) (1 : Int32).toNatClampNeg (vp_nar .boolean 0)) (2 : Int32).toNatClampNeg (vp_nar .boolean 0)) (3 : Int32).toNatClampNeg (vp_nar .boolean 0)) (4 : Int32).toNatClampNeg (vp_nar .boolean 0)) (5 : Int32).toNatClampNeg (vp_nar .boolean 0)) (6 : Int32).toNatClampNeg (vp_nar .boolean 0)) (7 : Int32).toNatClampNeg (vp_nar .boolean 0)))), ((a 9), .inl ((k 3), 22, .inl (upd (upd (upd (upd (fun _ => 0) (0 : Int32).toNatClampNeg 0) (1 : Int32).toNatClampNeg 0) (2 : Int32).toNatClampNeg 0) (3 : Int32).toNatClampNeg 0)))] H := hP
  have hD : va_D A [((a 5), .inr (0, [.int 0, .int 0, .int 0, .int (-1), .ref (a 8), .ref (a 41), .ref (a 42), .ref (a 43), .ref (a 9), .ref (a 44), .ref (a 45), .ref (a 46), .ref (a 47), .ref (a 48), .ref (a 49), .ref (a 50), .ref (a 51)])), ((a 8), .inl ((k 2), 8, .inl (upd (upd (upd (upd (upd (upd (upd (upd (fun _ => 0) (0 : Int32).toNatClampNeg (vp_nar .boolean 0)) (1 : Int32).toNatClampNeg (vp_nar .boolean 0)) (2 : Int32).toNatClampNeg (vp_nar .boolean 0)) (3 : Int32).toNatClampNeg (vp_nar .boolean 0)) (4 : Int32).toNatClampNeg (vp_nar .boolean 0)) (5 : Int32).toNatClampNeg (vp_nar .boolean 0)) (6 : Int32).toNatClampNeg (vp_nar .boolean 0)) (7 : Int32).toNatClampNeg (vp_nar .boolean 0)))), ((a 9), .inl ((k 3), 22, .inl (upd (upd (upd (upd (fun _ => 0) (0 : Int32).toNatClampNeg 0) (1 : Int32).toNatClampNeg 0) (2 : Int32).toNatClampNeg 0) (3 : Int32).toNatClampNeg 0)))] := hD
  refine lv_iinc (v := 4) (lv' := [(1, .int 4), (0, .ref (a 5))]) hx hb dX0_clear_56 hl (k := 0) rfl (by decide) (by decide) rfl (fun ls hl => ?_)
  refine lv_goto (tgt := 43) hx hb dX0_clear_59 (by decide) ?_
  refine lv_iload_n hx hb dX0_clear_43 rfl (lv_at hl 0 rfl) ?_
  refine lv_bipush (v := 22) hx hb dX0_clear_44 (by decide) ?_
  refine lv_icmp_ge (tgt := 62) hx hb dX0_clear_46 (by decide) (fun z => absurd z (by decide)) (fun _ => ?_)
  refine lv_aload_n hx hb dX0_clear_49 rfl (lv_at hl 1 rfl) ?_
  refine va_get (D := (dC, dI)) (ci := 0) (v := .ref (a 9)) (C := RX0) (T := TX0) (N := 17) hx hb hts hiX0 hown hK hP 0 rfl rfl 8 (by decide) v_6 (fun _ h9 => h9) rfl dX0_clear_50 ?_
  refine lv_iload_n hx hb dX0_clear_53 rfl (lv_at hl 0 rfl) ?_
  refine lv_iconst (v := 0) hx hb dX0_clear_54 (by decide) ?_
  refine va_iast hx hb hK hP hD hS 2 1 rfl rfl (show ¬ (_ ∨ _) by decide) dX0_clear_55 (fun H locs hP hD hS => ?_)
  have hP : va_P (dC, dI) vwCl [((a 5), .inr (0, [.int 0, .int 0, .int 0, .int (-1), .ref (a 8), .ref (a 41), .ref (a 42), .ref (a 43), .ref (a 9), .ref (a 44), .ref (a 45), .ref (a 46), .ref (a 47), .ref (a 48), .ref (a 49), .ref (a 50), .ref (a 51)])), ((a 8), .inl ((k 2), 8, .inl (upd (upd (upd (upd (upd (upd (upd (upd (fun _ => 0) (0 : Int32).toNatClampNeg (vp_nar .boolean 0)) (1 : Int32).toNatClampNeg (vp_nar .boolean 0)) (2 : Int32).toNatClampNeg (vp_nar .boolean 0)) (3 : Int32).toNatClampNeg (vp_nar .boolean 0)) (4 : Int32).toNatClampNeg (vp_nar .boolean 0)) (5 : Int32).toNatClampNeg (vp_nar .boolean 0)) (6 : Int32).toNatClampNeg (vp_nar .boolean 0)) (7 : Int32).toNatClampNeg (vp_nar .boolean 0)))), ((a 9), .inl ((k 3), 22, .inl (upd (upd (upd (upd (upd (fun _ => 0) (0 : Int32).toNatClampNeg 0) (1 : Int32).toNatClampNeg 0) (2 : Int32).toNatClampNeg 0) (3 : Int32).toNatClampNeg 0) (4 : Int32).toNatClampNeg 0)))] H := hP
  have hD : va_D A [((a 5), .inr (0, [.int 0, .int 0, .int 0, .int (-1), .ref (a 8), .ref (a 41), .ref (a 42), .ref (a 43), .ref (a 9), .ref (a 44), .ref (a 45), .ref (a 46), .ref (a 47), .ref (a 48), .ref (a 49), .ref (a 50), .ref (a 51)])), ((a 8), .inl ((k 2), 8, .inl (upd (upd (upd (upd (upd (upd (upd (upd (fun _ => 0) (0 : Int32).toNatClampNeg (vp_nar .boolean 0)) (1 : Int32).toNatClampNeg (vp_nar .boolean 0)) (2 : Int32).toNatClampNeg (vp_nar .boolean 0)) (3 : Int32).toNatClampNeg (vp_nar .boolean 0)) (4 : Int32).toNatClampNeg (vp_nar .boolean 0)) (5 : Int32).toNatClampNeg (vp_nar .boolean 0)) (6 : Int32).toNatClampNeg (vp_nar .boolean 0)) (7 : Int32).toNatClampNeg (vp_nar .boolean 0)))), ((a 9), .inl ((k 3), 22, .inl (upd (upd (upd (upd (upd (fun _ => 0) (0 : Int32).toNatClampNeg 0) (1 : Int32).toNatClampNeg 0) (2 : Int32).toNatClampNeg 0) (3 : Int32).toNatClampNeg 0) (4 : Int32).toNatClampNeg 0)))] := hD
  refine lv_iinc (v := 5) (lv' := [(1, .int 5), (0, .ref (a 5))]) hx hb dX0_clear_56 hl (k := 0) rfl (by decide) (by decide) rfl (fun ls hl => ?_)
  refine lv_goto (tgt := 43) hx hb dX0_clear_59 (by decide) ?_
  refine lv_iload_n hx hb dX0_clear_43 rfl (lv_at hl 0 rfl) ?_
  refine lv_bipush (v := 22) hx hb dX0_clear_44 (by decide) ?_
  refine lv_icmp_ge (tgt := 62) hx hb dX0_clear_46 (by decide) (fun z => absurd z (by decide)) (fun _ => ?_)
  refine lv_aload_n hx hb dX0_clear_49 rfl (lv_at hl 1 rfl) ?_
  refine va_get (D := (dC, dI)) (ci := 0) (v := .ref (a 9)) (C := RX0) (T := TX0) (N := 17) hx hb hts hiX0 hown hK hP 0 rfl rfl 8 (by decide) v_6 (fun _ h9 => h9) rfl dX0_clear_50 ?_
  refine lv_iload_n hx hb dX0_clear_53 rfl (lv_at hl 0 rfl) ?_
  refine lv_iconst (v := 0) hx hb dX0_clear_54 (by decide) ?_
  refine va_iast hx hb hK hP hD hS 2 1 rfl rfl (show ¬ (_ ∨ _) by decide) dX0_clear_55 (fun H locs hP hD hS => ?_)
  have hP : va_P (dC, dI) vwCl [((a 5), .inr (0, [.int 0, .int 0, .int 0, .int (-1), .ref (a 8), .ref (a 41), .ref (a 42), .ref (a 43), .ref (a 9), .ref (a 44), .ref (a 45), .ref (a 46), .ref (a 47), .ref (a 48), .ref (a 49), .ref (a 50), .ref (a 51)])), ((a 8), .inl ((k 2), 8, .inl (upd (upd (upd (upd (upd (upd (upd (upd (fun _ => 0) (0 : Int32).toNatClampNeg (vp_nar .boolean 0)) (1 : Int32).toNatClampNeg (vp_nar .boolean 0)) (2 : Int32).toNatClampNeg (vp_nar .boolean 0)) (3 : Int32).toNatClampNeg (vp_nar .boolean 0)) (4 : Int32).toNatClampNeg (vp_nar .boolean 0)) (5 : Int32).toNatClampNeg (vp_nar .boolean 0)) (6 : Int32).toNatClampNeg (vp_nar .boolean 0)) (7 : Int32).toNatClampNeg (vp_nar .boolean 0)))), ((a 9), .inl ((k 3), 22, .inl (upd (upd (upd (upd (upd (upd (fun _ => 0) (0 : Int32).toNatClampNeg 0) (1 : Int32).toNatClampNeg 0) (2 : Int32).toNatClampNeg 0) (3 : Int32).toNatClampNeg 0) (4 : Int32).toNatClampNeg 0) (5 : Int32).toNatClampNeg 0)))] H := hP
  have hD : va_D A [((a 5), .inr (0, [.int 0, .int 0, .int 0, .int (-1), .ref (a 8), .ref (a 41), .ref (a 42), .ref (a 43), .ref (a 9), .ref (a 44), .ref (a 45), .ref (a 46), .ref (a 47), .ref (a 48), .ref (a 49), .ref (a 50), .ref (a 51)])), ((a 8), .inl ((k 2), 8, .inl (upd (upd (upd (upd (upd (upd (upd (upd (fun _ => 0) (0 : Int32).toNatClampNeg (vp_nar .boolean 0)) (1 : Int32).toNatClampNeg (vp_nar .boolean 0)) (2 : Int32).toNatClampNeg (vp_nar .boolean 0)) (3 : Int32).toNatClampNeg (vp_nar .boolean 0)) (4 : Int32).toNatClampNeg (vp_nar .boolean 0)) (5 : Int32).toNatClampNeg (vp_nar .boolean 0)) (6 : Int32).toNatClampNeg (vp_nar .boolean 0)) (7 : Int32).toNatClampNeg (vp_nar .boolean 0)))), ((a 9), .inl ((k 3), 22, .inl (upd (upd (upd (upd (upd (upd (fun _ => 0) (0 : Int32).toNatClampNeg 0) (1 : Int32).toNatClampNeg 0) (2 : Int32).toNatClampNeg 0) (3 : Int32).toNatClampNeg 0) (4 : Int32).toNatClampNeg 0) (5 : Int32).toNatClampNeg 0)))] := hD
  refine lv_iinc (v := 6) (lv' := [(1, .int 6), (0, .ref (a 5))]) hx hb dX0_clear_56 hl (k := 0) rfl (by decide) (by decide) rfl (fun ls hl => ?_)
  refine lv_goto (tgt := 43) hx hb dX0_clear_59 (by decide) ?_
  refine lv_iload_n hx hb dX0_clear_43 rfl (lv_at hl 0 rfl) ?_
  refine lv_bipush (v := 22) hx hb dX0_clear_44 (by decide) ?_
  refine lv_icmp_ge (tgt := 62) hx hb dX0_clear_46 (by decide) (fun z => absurd z (by decide)) (fun _ => ?_)
  refine lv_aload_n hx hb dX0_clear_49 rfl (lv_at hl 1 rfl) ?_
  refine va_get (D := (dC, dI)) (ci := 0) (v := .ref (a 9)) (C := RX0) (T := TX0) (N := 17) hx hb hts hiX0 hown hK hP 0 rfl rfl 8 (by decide) v_6 (fun _ h9 => h9) rfl dX0_clear_50 ?_
  refine lv_iload_n hx hb dX0_clear_53 rfl (lv_at hl 0 rfl) ?_
  refine lv_iconst (v := 0) hx hb dX0_clear_54 (by decide) ?_
  refine va_iast hx hb hK hP hD hS 2 1 rfl rfl (show ¬ (_ ∨ _) by decide) dX0_clear_55 (fun H locs hP hD hS => ?_)
  have hP : va_P (dC, dI) vwCl [((a 5), .inr (0, [.int 0, .int 0, .int 0, .int (-1), .ref (a 8), .ref (a 41), .ref (a 42), .ref (a 43), .ref (a 9), .ref (a 44), .ref (a 45), .ref (a 46), .ref (a 47), .ref (a 48), .ref (a 49), .ref (a 50), .ref (a 51)])), ((a 8), .inl ((k 2), 8, .inl (upd (upd (upd (upd (upd (upd (upd (upd (fun _ => 0) (0 : Int32).toNatClampNeg (vp_nar .boolean 0)) (1 : Int32).toNatClampNeg (vp_nar .boolean 0)) (2 : Int32).toNatClampNeg (vp_nar .boolean 0)) (3 : Int32).toNatClampNeg (vp_nar .boolean 0)) (4 : Int32).toNatClampNeg (vp_nar .boolean 0)) (5 : Int32).toNatClampNeg (vp_nar .boolean 0)) (6 : Int32).toNatClampNeg (vp_nar .boolean 0)) (7 : Int32).toNatClampNeg (vp_nar .boolean 0)))), ((a 9), .inl ((k 3), 22, .inl (upd (upd (upd (upd (upd (upd (upd (fun _ => 0) (0 : Int32).toNatClampNeg 0) (1 : Int32).toNatClampNeg 0) (2 : Int32).toNatClampNeg 0) (3 : Int32).toNatClampNeg 0) (4 : Int32).toNatClampNeg 0) (5 : Int32).toNatClampNeg 0) (6 : Int32).toNatClampNeg 0)))] H := hP
  have hD : va_D A [((a 5), .inr (0, [.int 0, .int 0, .int 0, .int (-1), .ref (a 8), .ref (a 41), .ref (a 42), .ref (a 43), .ref (a 9), .ref (a 44), .ref (a 45), .ref (a 46), .ref (a 47), .ref (a 48), .ref (a 49), .ref (a 50), .ref (a 51)])), ((a 8), .inl ((k 2), 8, .inl (upd (upd (upd (upd (upd (upd (upd (upd (fun _ => 0) (0 : Int32).toNatClampNeg (vp_nar .boolean 0)) (1 : Int32).toNatClampNeg (vp_nar .boolean 0)) (2 : Int32).toNatClampNeg (vp_nar .boolean 0)) (3 : Int32).toNatClampNeg (vp_nar .boolean 0)) (4 : Int32).toNatClampNeg (vp_nar .boolean 0)) (5 : Int32).toNatClampNeg (vp_nar .boolean 0)) (6 : Int32).toNatClampNeg (vp_nar .boolean 0)) (7 : Int32).toNatClampNeg (vp_nar .boolean 0)))), ((a 9), .inl ((k 3), 22, .inl (upd (upd (upd (upd (upd (upd (upd (fun _ => 0) (0 : Int32).toNatClampNeg 0) (1 : Int32).toNatClampNeg 0) (2 : Int32).toNatClampNeg 0) (3 : Int32).toNatClampNeg 0) (4 : Int32).toNatClampNeg 0) (5 : Int32).toNatClampNeg 0) (6 : Int32).toNatClampNeg 0)))] := hD
  refine lv_iinc (v := 7) (lv' := [(1, .int 7), (0, .ref (a 5))]) hx hb dX0_clear_56 hl (k := 0) rfl (by decide) (by decide) rfl (fun ls hl => ?_)
  refine lv_goto (tgt := 43) hx hb dX0_clear_59 (by decide) ?_
  refine lv_iload_n hx hb dX0_clear_43 rfl (lv_at hl 0 rfl) ?_
  refine lv_bipush (v := 22) hx hb dX0_clear_44 (by decide) ?_
  refine lv_icmp_ge (tgt := 62) hx hb dX0_clear_46 (by decide) (fun z => absurd z (by decide)) (fun _ => ?_)
  refine lv_aload_n hx hb dX0_clear_49 rfl (lv_at hl 1 rfl) ?_
  refine va_get (D := (dC, dI)) (ci := 0) (v := .ref (a 9)) (C := RX0) (T := TX0) (N := 17) hx hb hts hiX0 hown hK hP 0 rfl rfl 8 (by decide) v_6 (fun _ h9 => h9) rfl dX0_clear_50 ?_
  refine lv_iload_n hx hb dX0_clear_53 rfl (lv_at hl 0 rfl) ?_
  refine lv_iconst (v := 0) hx hb dX0_clear_54 (by decide) ?_
  refine va_iast hx hb hK hP hD hS 2 1 rfl rfl (show ¬ (_ ∨ _) by decide) dX0_clear_55 (fun H locs hP hD hS => ?_)
  have hP : va_P (dC, dI) vwCl [((a 5), .inr (0, [.int 0, .int 0, .int 0, .int (-1), .ref (a 8), .ref (a 41), .ref (a 42), .ref (a 43), .ref (a 9), .ref (a 44), .ref (a 45), .ref (a 46), .ref (a 47), .ref (a 48), .ref (a 49), .ref (a 50), .ref (a 51)])), ((a 8), .inl ((k 2), 8, .inl (upd (upd (upd (upd (upd (upd (upd (upd (fun _ => 0) (0 : Int32).toNatClampNeg (vp_nar .boolean 0)) (1 : Int32).toNatClampNeg (vp_nar .boolean 0)) (2 : Int32).toNatClampNeg (vp_nar .boolean 0)) (3 : Int32).toNatClampNeg (vp_nar .boolean 0)) (4 : Int32).toNatClampNeg (vp_nar .boolean 0)) (5 : Int32).toNatClampNeg (vp_nar .boolean 0)) (6 : Int32).toNatClampNeg (vp_nar .boolean 0)) (7 : Int32).toNatClampNeg (vp_nar .boolean 0)))), ((a 9), .inl ((k 3), 22, .inl (upd (upd (upd (upd (upd (upd (upd (upd (fun _ => 0) (0 : Int32).toNatClampNeg 0) (1 : Int32).toNatClampNeg 0) (2 : Int32).toNatClampNeg 0) (3 : Int32).toNatClampNeg 0) (4 : Int32).toNatClampNeg 0) (5 : Int32).toNatClampNeg 0) (6 : Int32).toNatClampNeg 0) (7 : Int32).toNatClampNeg 0)))] H := hP
  have hD : va_D A [((a 5), .inr (0, [.int 0, .int 0, .int 0, .int (-1), .ref (a 8), .ref (a 41), .ref (a 42), .ref (a 43), .ref (a 9), .ref (a 44), .ref (a 45), .ref (a 46), .ref (a 47), .ref (a 48), .ref (a 49), .ref (a 50), .ref (a 51)])), ((a 8), .inl ((k 2), 8, .inl (upd (upd (upd (upd (upd (upd (upd (upd (fun _ => 0) (0 : Int32).toNatClampNeg (vp_nar .boolean 0)) (1 : Int32).toNatClampNeg (vp_nar .boolean 0)) (2 : Int32).toNatClampNeg (vp_nar .boolean 0)) (3 : Int32).toNatClampNeg (vp_nar .boolean 0)) (4 : Int32).toNatClampNeg (vp_nar .boolean 0)) (5 : Int32).toNatClampNeg (vp_nar .boolean 0)) (6 : Int32).toNatClampNeg (vp_nar .boolean 0)) (7 : Int32).toNatClampNeg (vp_nar .boolean 0)))), ((a 9), .inl ((k 3), 22, .inl (upd (upd (upd (upd (upd (upd (upd (upd (fun _ => 0) (0 : Int32).toNatClampNeg 0) (1 : Int32).toNatClampNeg 0) (2 : Int32).toNatClampNeg 0) (3 : Int32).toNatClampNeg 0) (4 : Int32).toNatClampNeg 0) (5 : Int32).toNatClampNeg 0) (6 : Int32).toNatClampNeg 0) (7 : Int32).toNatClampNeg 0)))] := hD
  refine lv_iinc (v := 8) (lv' := [(1, .int 8), (0, .ref (a 5))]) hx hb dX0_clear_56 hl (k := 0) rfl (by decide) (by decide) rfl (fun ls hl => ?_)
  refine lv_goto (tgt := 43) hx hb dX0_clear_59 (by decide) ?_
  refine lv_iload_n hx hb dX0_clear_43 rfl (lv_at hl 0 rfl) ?_
  refine lv_bipush (v := 22) hx hb dX0_clear_44 (by decide) ?_
  refine lv_icmp_ge (tgt := 62) hx hb dX0_clear_46 (by decide) (fun z => absurd z (by decide)) (fun _ => ?_)
  refine lv_aload_n hx hb dX0_clear_49 rfl (lv_at hl 1 rfl) ?_
  refine va_get (D := (dC, dI)) (ci := 0) (v := .ref (a 9)) (C := RX0) (T := TX0) (N := 17) hx hb hts hiX0 hown hK hP 0 rfl rfl 8 (by decide) v_6 (fun _ h9 => h9) rfl dX0_clear_50 ?_
  refine lv_iload_n hx hb dX0_clear_53 rfl (lv_at hl 0 rfl) ?_
  refine lv_iconst (v := 0) hx hb dX0_clear_54 (by decide) ?_
  refine va_iast hx hb hK hP hD hS 2 1 rfl rfl (show ¬ (_ ∨ _) by decide) dX0_clear_55 (fun H locs hP hD hS => ?_)
  have hP : va_P (dC, dI) vwCl [((a 5), .inr (0, [.int 0, .int 0, .int 0, .int (-1), .ref (a 8), .ref (a 41), .ref (a 42), .ref (a 43), .ref (a 9), .ref (a 44), .ref (a 45), .ref (a 46), .ref (a 47), .ref (a 48), .ref (a 49), .ref (a 50), .ref (a 51)])), ((a 8), .inl ((k 2), 8, .inl (upd (upd (upd (upd (upd (upd (upd (upd (fun _ => 0) (0 : Int32).toNatClampNeg (vp_nar .boolean 0)) (1 : Int32).toNatClampNeg (vp_nar .boolean 0)) (2 : Int32).toNatClampNeg (vp_nar .boolean 0)) (3 : Int32).toNatClampNeg (vp_nar .boolean 0)) (4 : Int32).toNatClampNeg (vp_nar .boolean 0)) (5 : Int32).toNatClampNeg (vp_nar .boolean 0)) (6 : Int32).toNatClampNeg (vp_nar .boolean 0)) (7 : Int32).toNatClampNeg (vp_nar .boolean 0)))), ((a 9), .inl ((k 3), 22, .inl (upd (upd (upd (upd (upd (upd (upd (upd (upd (fun _ => 0) (0 : Int32).toNatClampNeg 0) (1 : Int32).toNatClampNeg 0) (2 : Int32).toNatClampNeg 0) (3 : Int32).toNatClampNeg 0) (4 : Int32).toNatClampNeg 0) (5 : Int32).toNatClampNeg 0) (6 : Int32).toNatClampNeg 0) (7 : Int32).toNatClampNeg 0) (8 : Int32).toNatClampNeg 0)))] H := hP
  have hD : va_D A [((a 5), .inr (0, [.int 0, .int 0, .int 0, .int (-1), .ref (a 8), .ref (a 41), .ref (a 42), .ref (a 43), .ref (a 9), .ref (a 44), .ref (a 45), .ref (a 46), .ref (a 47), .ref (a 48), .ref (a 49), .ref (a 50), .ref (a 51)])), ((a 8), .inl ((k 2), 8, .inl (upd (upd (upd (upd (upd (upd (upd (upd (fun _ => 0) (0 : Int32).toNatClampNeg (vp_nar .boolean 0)) (1 : Int32).toNatClampNeg (vp_nar .boolean 0)) (2 : Int32).toNatClampNeg (vp_nar .boolean 0)) (3 : Int32).toNatClampNeg (vp_nar .boolean 0)) (4 : Int32).toNatClampNeg (vp_nar .boolean 0)) (5 : Int32).toNatClampNeg (vp_nar .boolean 0)) (6 : Int32).toNatClampNeg (vp_nar .boolean 0)) (7 : Int32).toNatClampNeg (vp_nar .boolean 0)))), ((a 9), .inl ((k 3), 22, .inl (upd (upd (upd (upd (upd (upd (upd (upd (upd (fun _ => 0) (0 : Int32).toNatClampNeg 0) (1 : Int32).toNatClampNeg 0) (2 : Int32).toNatClampNeg 0) (3 : Int32).toNatClampNeg 0) (4 : Int32).toNatClampNeg 0) (5 : Int32).toNatClampNeg 0) (6 : Int32).toNatClampNeg 0) (7 : Int32).toNatClampNeg 0) (8 : Int32).toNatClampNeg 0)))] := hD
  refine lv_iinc (v := 9) (lv' := [(1, .int 9), (0, .ref (a 5))]) hx hb dX0_clear_56 hl (k := 0) rfl (by decide) (by decide) rfl (fun ls hl => ?_)
  refine lv_goto (tgt := 43) hx hb dX0_clear_59 (by decide) ?_
  refine lv_iload_n hx hb dX0_clear_43 rfl (lv_at hl 0 rfl) ?_
  refine lv_bipush (v := 22) hx hb dX0_clear_44 (by decide) ?_
  refine lv_icmp_ge (tgt := 62) hx hb dX0_clear_46 (by decide) (fun z => absurd z (by decide)) (fun _ => ?_)
  refine lv_aload_n hx hb dX0_clear_49 rfl (lv_at hl 1 rfl) ?_
  refine va_get (D := (dC, dI)) (ci := 0) (v := .ref (a 9)) (C := RX0) (T := TX0) (N := 17) hx hb hts hiX0 hown hK hP 0 rfl rfl 8 (by decide) v_6 (fun _ h9 => h9) rfl dX0_clear_50 ?_
  refine lv_iload_n hx hb dX0_clear_53 rfl (lv_at hl 0 rfl) ?_
  refine lv_iconst (v := 0) hx hb dX0_clear_54 (by decide) ?_
  refine va_iast hx hb hK hP hD hS 2 1 rfl rfl (show ¬ (_ ∨ _) by decide) dX0_clear_55 (fun H locs hP hD hS => ?_)
  have hP : va_P (dC, dI) vwCl [((a 5), .inr (0, [.int 0, .int 0, .int 0, .int (-1), .ref (a 8), .ref (a 41), .ref (a 42), .ref (a 43), .ref (a 9), .ref (a 44), .ref (a 45), .ref (a 46), .ref (a 47), .ref (a 48), .ref (a 49), .ref (a 50), .ref (a 51)])), ((a 8), .inl ((k 2), 8, .inl (upd (upd (upd (upd (upd (upd (upd (upd (fun _ => 0) (0 : Int32).toNatClampNeg (vp_nar .boolean 0)) (1 : Int32).toNatClampNeg (vp_nar .boolean 0)) (2 : Int32).toNatClampNeg (vp_nar .boolean 0)) (3 : Int32).toNatClampNeg (vp_nar .boolean 0)) (4 : Int32).toNatClampNeg (vp_nar .boolean 0)) (5 : Int32).toNatClampNeg (vp_nar .boolean 0)) (6 : Int32).toNatClampNeg (vp_nar .boolean 0)) (7 : Int32).toNatClampNeg (vp_nar .boolean 0)))), ((a 9), .inl ((k 3), 22, .inl (upd (upd (upd (upd (upd (upd (upd (upd (upd (upd (fun _ => 0) (0 : Int32).toNatClampNeg 0) (1 : Int32).toNatClampNeg 0) (2 : Int32).toNatClampNeg 0) (3 : Int32).toNatClampNeg 0) (4 : Int32).toNatClampNeg 0) (5 : Int32).toNatClampNeg 0) (6 : Int32).toNatClampNeg 0) (7 : Int32).toNatClampNeg 0) (8 : Int32).toNatClampNeg 0) (9 : Int32).toNatClampNeg 0)))] H := hP
  have hD : va_D A [((a 5), .inr (0, [.int 0, .int 0, .int 0, .int (-1), .ref (a 8), .ref (a 41), .ref (a 42), .ref (a 43), .ref (a 9), .ref (a 44), .ref (a 45), .ref (a 46), .ref (a 47), .ref (a 48), .ref (a 49), .ref (a 50), .ref (a 51)])), ((a 8), .inl ((k 2), 8, .inl (upd (upd (upd (upd (upd (upd (upd (upd (fun _ => 0) (0 : Int32).toNatClampNeg (vp_nar .boolean 0)) (1 : Int32).toNatClampNeg (vp_nar .boolean 0)) (2 : Int32).toNatClampNeg (vp_nar .boolean 0)) (3 : Int32).toNatClampNeg (vp_nar .boolean 0)) (4 : Int32).toNatClampNeg (vp_nar .boolean 0)) (5 : Int32).toNatClampNeg (vp_nar .boolean 0)) (6 : Int32).toNatClampNeg (vp_nar .boolean 0)) (7 : Int32).toNatClampNeg (vp_nar .boolean 0)))), ((a 9), .inl ((k 3), 22, .inl (upd (upd (upd (upd (upd (upd (upd (upd (upd (upd (fun _ => 0) (0 : Int32).toNatClampNeg 0) (1 : Int32).toNatClampNeg 0) (2 : Int32).toNatClampNeg 0) (3 : Int32).toNatClampNeg 0) (4 : Int32).toNatClampNeg 0) (5 : Int32).toNatClampNeg 0) (6 : Int32).toNatClampNeg 0) (7 : Int32).toNatClampNeg 0) (8 : Int32).toNatClampNeg 0) (9 : Int32).toNatClampNeg 0)))] := hD
  refine lv_iinc (v := 10) (lv' := [(1, .int 10), (0, .ref (a 5))]) hx hb dX0_clear_56 hl (k := 0) rfl (by decide) (by decide) rfl (fun ls hl => ?_)
  refine lv_goto (tgt := 43) hx hb dX0_clear_59 (by decide) ?_
  refine lv_iload_n hx hb dX0_clear_43 rfl (lv_at hl 0 rfl) ?_
  refine lv_bipush (v := 22) hx hb dX0_clear_44 (by decide) ?_
  refine lv_icmp_ge (tgt := 62) hx hb dX0_clear_46 (by decide) (fun z => absurd z (by decide)) (fun _ => ?_)
  refine lv_aload_n hx hb dX0_clear_49 rfl (lv_at hl 1 rfl) ?_
  refine va_get (D := (dC, dI)) (ci := 0) (v := .ref (a 9)) (C := RX0) (T := TX0) (N := 17) hx hb hts hiX0 hown hK hP 0 rfl rfl 8 (by decide) v_6 (fun _ h9 => h9) rfl dX0_clear_50 ?_
  refine lv_iload_n hx hb dX0_clear_53 rfl (lv_at hl 0 rfl) ?_
  refine lv_iconst (v := 0) hx hb dX0_clear_54 (by decide) ?_
  refine va_iast hx hb hK hP hD hS 2 1 rfl rfl (show ¬ (_ ∨ _) by decide) dX0_clear_55 (fun H locs hP hD hS => ?_)
  have hP : va_P (dC, dI) vwCl [((a 5), .inr (0, [.int 0, .int 0, .int 0, .int (-1), .ref (a 8), .ref (a 41), .ref (a 42), .ref (a 43), .ref (a 9), .ref (a 44), .ref (a 45), .ref (a 46), .ref (a 47), .ref (a 48), .ref (a 49), .ref (a 50), .ref (a 51)])), ((a 8), .inl ((k 2), 8, .inl (upd (upd (upd (upd (upd (upd (upd (upd (fun _ => 0) (0 : Int32).toNatClampNeg (vp_nar .boolean 0)) (1 : Int32).toNatClampNeg (vp_nar .boolean 0)) (2 : Int32).toNatClampNeg (vp_nar .boolean 0)) (3 : Int32).toNatClampNeg (vp_nar .boolean 0)) (4 : Int32).toNatClampNeg (vp_nar .boolean 0)) (5 : Int32).toNatClampNeg (vp_nar .boolean 0)) (6 : Int32).toNatClampNeg (vp_nar .boolean 0)) (7 : Int32).toNatClampNeg (vp_nar .boolean 0)))), ((a 9), .inl ((k 3), 22, .inl (upd (upd (upd (upd (upd (upd (upd (upd (upd (upd (upd (fun _ => 0) (0 : Int32).toNatClampNeg 0) (1 : Int32).toNatClampNeg 0) (2 : Int32).toNatClampNeg 0) (3 : Int32).toNatClampNeg 0) (4 : Int32).toNatClampNeg 0) (5 : Int32).toNatClampNeg 0) (6 : Int32).toNatClampNeg 0) (7 : Int32).toNatClampNeg 0) (8 : Int32).toNatClampNeg 0) (9 : Int32).toNatClampNeg 0) (10 : Int32).toNatClampNeg 0)))] H := hP
  have hD : va_D A [((a 5), .inr (0, [.int 0, .int 0, .int 0, .int (-1), .ref (a 8), .ref (a 41), .ref (a 42), .ref (a 43), .ref (a 9), .ref (a 44), .ref (a 45), .ref (a 46), .ref (a 47), .ref (a 48), .ref (a 49), .ref (a 50), .ref (a 51)])), ((a 8), .inl ((k 2), 8, .inl (upd (upd (upd (upd (upd (upd (upd (upd (fun _ => 0) (0 : Int32).toNatClampNeg (vp_nar .boolean 0)) (1 : Int32).toNatClampNeg (vp_nar .boolean 0)) (2 : Int32).toNatClampNeg (vp_nar .boolean 0)) (3 : Int32).toNatClampNeg (vp_nar .boolean 0)) (4 : Int32).toNatClampNeg (vp_nar .boolean 0)) (5 : Int32).toNatClampNeg (vp_nar .boolean 0)) (6 : Int32).toNatClampNeg (vp_nar .boolean 0)) (7 : Int32).toNatClampNeg (vp_nar .boolean 0)))), ((a 9), .inl ((k 3), 22, .inl (upd (upd (upd (upd (upd (upd (upd (upd (upd (upd (upd (fun _ => 0) (0 : Int32).toNatClampNeg 0) (1 : Int32).toNatClampNeg 0) (2 : Int32).toNatClampNeg 0) (3 : Int32).toNatClampNeg 0) (4 : Int32).toNatClampNeg 0) (5 : Int32).toNatClampNeg 0) (6 : Int32).toNatClampNeg 0) (7 : Int32).toNatClampNeg 0) (8 : Int32).toNatClampNeg 0) (9 : Int32).toNatClampNeg 0) (10 : Int32).toNatClampNeg 0)))] := hD
  refine lv_iinc (v := 11) (lv' := [(1, .int 11), (0, .ref (a 5))]) hx hb dX0_clear_56 hl (k := 0) rfl (by decide) (by decide) rfl (fun ls hl => ?_)
  refine lv_goto (tgt := 43) hx hb dX0_clear_59 (by decide) ?_
  refine lv_iload_n hx hb dX0_clear_43 rfl (lv_at hl 0 rfl) ?_
  refine lv_bipush (v := 22) hx hb dX0_clear_44 (by decide) ?_
  refine lv_icmp_ge (tgt := 62) hx hb dX0_clear_46 (by decide) (fun z => absurd z (by decide)) (fun _ => ?_)
  refine lv_aload_n hx hb dX0_clear_49 rfl (lv_at hl 1 rfl) ?_
  refine va_get (D := (dC, dI)) (ci := 0) (v := .ref (a 9)) (C := RX0) (T := TX0) (N := 17) hx hb hts hiX0 hown hK hP 0 rfl rfl 8 (by decide) v_6 (fun _ h9 => h9) rfl dX0_clear_50 ?_
  refine lv_iload_n hx hb dX0_clear_53 rfl (lv_at hl 0 rfl) ?_
  refine lv_iconst (v := 0) hx hb dX0_clear_54 (by decide) ?_
  refine va_iast hx hb hK hP hD hS 2 1 rfl rfl (show ¬ (_ ∨ _) by decide) dX0_clear_55 (fun H locs hP hD hS => ?_)
  have hP : va_P (dC, dI) vwCl [((a 5), .inr (0, [.int 0, .int 0, .int 0, .int (-1), .ref (a 8), .ref (a 41), .ref (a 42), .ref (a 43), .ref (a 9), .ref (a 44), .ref (a 45), .ref (a 46), .ref (a 47), .ref (a 48), .ref (a 49), .ref (a 50), .ref (a 51)])), ((a 8), .inl ((k 2), 8, .inl (upd (upd (upd (upd (upd (upd (upd (upd (fun _ => 0) (0 : Int32).toNatClampNeg (vp_nar .boolean 0)) (1 : Int32).toNatClampNeg (vp_nar .boolean 0)) (2 : Int32).toNatClampNeg (vp_nar .boolean 0)) (3 : Int32).toNatClampNeg (vp_nar .boolean 0)) (4 : Int32).toNatClampNeg (vp_nar .boolean 0)) (5 : Int32).toNatClampNeg (vp_nar .boolean 0)) (6 : Int32).toNatClampNeg (vp_nar .boolean 0)) (7 : Int32).toNatClampNeg (vp_nar .boolean 0)))), ((a 9), .inl ((k 3), 22, .inl (upd (upd (upd (upd (upd (upd (upd (upd (upd (upd (upd (upd (fun _ => 0) (0 : Int32).toNatClampNeg 0) (1 : Int32).toNatClampNeg 0) (2 : Int32).toNatClampNeg 0) (3 : Int32).toNatClampNeg 0) (4 : Int32).toNatClampNeg 0) (5 : Int32).toNatClampNeg 0) (6 : Int32).toNatClampNeg 0) (7 : Int32).toNatClampNeg 0) (8 : Int32).toNatClampNeg 0) (9 : Int32).toNatClampNeg 0) (10 : Int32).toNatClampNeg 0) (11 : Int32).toNatClampNeg 0)))] H := hP
  have hD : va_D A [((a 5), .inr (0, [.int 0, .int 0, .int 0, .int (-1), .ref (a 8), .ref (a 41), .ref (a 42), .ref (a 43), .ref (a 9), .ref (a 44), .ref (a 45), .ref (a 46), .ref (a 47), .ref (a 48), .ref (a 49), .ref (a 50), .ref (a 51)])), ((a 8), .inl ((k 2), 8, .inl (upd (upd (upd (upd (upd (upd (upd (upd (fun _ => 0) (0 : Int32).toNatClampNeg (vp_nar .boolean 0)) (1 : Int32).toNatClampNeg (vp_nar .boolean 0)) (2 : Int32).toNatClampNeg (vp_nar .boolean 0)) (3 : Int32).toNatClampNeg (vp_nar .boolean 0)) (4 : Int32).toNatClampNeg (vp_nar .boolean 0)) (5 : Int32).toNatClampNeg (vp_nar .boolean 0)) (6 : Int32).toNatClampNeg (vp_nar .boolean 0)) (7 : Int32).toNatClampNeg (vp_nar .boolean 0)))), ((a 9), .inl ((k 3), 22, .inl (upd (upd (upd (upd (upd (upd (upd (upd (upd (upd (upd (upd (fun _ => 0) (0 : Int32).toNatClampNeg 0) (1 : Int32).toNatClampNeg 0) (2 : Int32).toNatClampNeg 0) (3 : Int32).toNatClampNeg 0) (4 : Int32).toNatClampNeg 0) (5 : Int32).toNatClampNeg 0) (6 : Int32).toNatClampNeg 0) (7 : Int32).toNatClampNeg 0) (8 : Int32).toNatClampNeg 0) (9 : Int32).toNatClampNeg 0) (10 : Int32).toNatClampNeg 0) (11 : Int32).toNatClampNeg 0)))] := hD
  refine lv_iinc (v := 12) (lv' := [(1, .int 12), (0, .ref (a 5))]) hx hb dX0_clear_56 hl (k := 0) rfl (by decide) (by decide) rfl (fun ls hl => ?_)
  refine lv_goto (tgt := 43) hx hb dX0_clear_59 (by decide) ?_
  refine lv_iload_n hx hb dX0_clear_43 rfl (lv_at hl 0 rfl) ?_
  refine lv_bipush (v := 22) hx hb dX0_clear_44 (by decide) ?_
  refine lv_icmp_ge (tgt := 62) hx hb dX0_clear_46 (by decide) (fun z => absurd z (by decide)) (fun _ => ?_)
  refine lv_aload_n hx hb dX0_clear_49 rfl (lv_at hl 1 rfl) ?_
  refine va_get (D := (dC, dI)) (ci := 0) (v := .ref (a 9)) (C := RX0) (T := TX0) (N := 17) hx hb hts hiX0 hown hK hP 0 rfl rfl 8 (by decide) v_6 (fun _ h9 => h9) rfl dX0_clear_50 ?_
  refine lv_iload_n hx hb dX0_clear_53 rfl (lv_at hl 0 rfl) ?_
  refine lv_iconst (v := 0) hx hb dX0_clear_54 (by decide) ?_
  refine va_iast hx hb hK hP hD hS 2 1 rfl rfl (show ¬ (_ ∨ _) by decide) dX0_clear_55 (fun H locs hP hD hS => ?_)
  have hP : va_P (dC, dI) vwCl [((a 5), .inr (0, [.int 0, .int 0, .int 0, .int (-1), .ref (a 8), .ref (a 41), .ref (a 42), .ref (a 43), .ref (a 9), .ref (a 44), .ref (a 45), .ref (a 46), .ref (a 47), .ref (a 48), .ref (a 49), .ref (a 50), .ref (a 51)])), ((a 8), .inl ((k 2), 8, .inl (upd (upd (upd (upd (upd (upd (upd (upd (fun _ => 0) (0 : Int32).toNatClampNeg (vp_nar .boolean 0)) (1 : Int32).toNatClampNeg (vp_nar .boolean 0)) (2 : Int32).toNatClampNeg (vp_nar .boolean 0)) (3 : Int32).toNatClampNeg (vp_nar .boolean 0)) (4 : Int32).toNatClampNeg (vp_nar .boolean 0)) (5 : Int32).toNatClampNeg (vp_nar .boolean 0)) (6 : Int32).toNatClampNeg (vp_nar .boolean 0)) (7 : Int32).toNatClampNeg (vp_nar .boolean 0)))), ((a 9), .inl ((k 3), 22, .inl (upd (upd (upd (upd (upd (upd (upd (upd (upd (upd (upd (upd (upd (fun _ => 0) (0 : Int32).toNatClampNeg 0) (1 : Int32).toNatClampNeg 0) (2 : Int32).toNatClampNeg 0) (3 : Int32).toNatClampNeg 0) (4 : Int32).toNatClampNeg 0) (5 : Int32).toNatClampNeg 0) (6 : Int32).toNatClampNeg 0) (7 : Int32).toNatClampNeg 0) (8 : Int32).toNatClampNeg 0) (9 : Int32).toNatClampNeg 0) (10 : Int32).toNatClampNeg 0) (11 : Int32).toNatClampNeg 0) (12 : Int32).toNatClampNeg 0)))] H := hP
  have hD : va_D A [((a 5), .inr (0, [.int 0, .int 0, .int 0, .int (-1), .ref (a 8), .ref (a 41), .ref (a 42), .ref (a 43), .ref (a 9), .ref (a 44), .ref (a 45), .ref (a 46), .ref (a 47), .ref (a 48), .ref (a 49), .ref (a 50), .ref (a 51)])), ((a 8), .inl ((k 2), 8, .inl (upd (upd (upd (upd (upd (upd (upd (upd (fun _ => 0) (0 : Int32).toNatClampNeg (vp_nar .boolean 0)) (1 : Int32).toNatClampNeg (vp_nar .boolean 0)) (2 : Int32).toNatClampNeg (vp_nar .boolean 0)) (3 : Int32).toNatClampNeg (vp_nar .boolean 0)) (4 : Int32).toNatClampNeg (vp_nar .boolean 0)) (5 : Int32).toNatClampNeg (vp_nar .boolean 0)) (6 : Int32).toNatClampNeg (vp_nar .boolean 0)) (7 : Int32).toNatClampNeg (vp_nar .boolean 0)))), ((a 9), .inl ((k 3), 22, .inl (upd (upd (upd (upd (upd (upd (upd (upd (upd (upd (upd (upd (upd (fun _ => 0) (0 : Int32).toNatClampNeg 0) (1 : Int32).toNatClampNeg 0) (2 : Int32).toNatClampNeg 0) (3 : Int32).toNatClampNeg 0) (4 : Int32).toNatClampNeg 0) (5 : Int32).toNatClampNeg 0) (6 : Int32).toNatClampNeg 0) (7 : Int32).toNatClampNeg 0) (8 : Int32).toNatClampNeg 0) (9 : Int32).toNatClampNeg 0) (10 : Int32).toNatClampNeg 0) (11 : Int32).toNatClampNeg 0) (12 : Int32).toNatClampNeg 0)))] := hD
  refine lv_iinc (v := 13) (lv' := [(1, .int 13), (0, .ref (a 5))]) hx hb dX0_clear_56 hl (k := 0) rfl (by decide) (by decide) rfl (fun ls hl => ?_)
  refine lv_goto (tgt := 43) hx hb dX0_clear_59 (by decide) ?_
  refine lv_iload_n hx hb dX0_clear_43 rfl (lv_at hl 0 rfl) ?_
  refine lv_bipush (v := 22) hx hb dX0_clear_44 (by decide) ?_
  refine lv_icmp_ge (tgt := 62) hx hb dX0_clear_46 (by decide) (fun z => absurd z (by decide)) (fun _ => ?_)
  refine lv_aload_n hx hb dX0_clear_49 rfl (lv_at hl 1 rfl) ?_
  refine va_get (D := (dC, dI)) (ci := 0) (v := .ref (a 9)) (C := RX0) (T := TX0) (N := 17) hx hb hts hiX0 hown hK hP 0 rfl rfl 8 (by decide) v_6 (fun _ h9 => h9) rfl dX0_clear_50 ?_
  refine lv_iload_n hx hb dX0_clear_53 rfl (lv_at hl 0 rfl) ?_
  refine lv_iconst (v := 0) hx hb dX0_clear_54 (by decide) ?_
  refine va_iast hx hb hK hP hD hS 2 1 rfl rfl (show ¬ (_ ∨ _) by decide) dX0_clear_55 (fun H locs hP hD hS => ?_)
  have hP : va_P (dC, dI) vwCl [((a 5), .inr (0, [.int 0, .int 0, .int 0, .int (-1), .ref (a 8), .ref (a 41), .ref (a 42), .ref (a 43), .ref (a 9), .ref (a 44), .ref (a 45), .ref (a 46), .ref (a 47), .ref (a 48), .ref (a 49), .ref (a 50), .ref (a 51)])), ((a 8), .inl ((k 2), 8, .inl (upd (upd (upd (upd (upd (upd (upd (upd (fun _ => 0) (0 : Int32).toNatClampNeg (vp_nar .boolean 0)) (1 : Int32).toNatClampNeg (vp_nar .boolean 0)) (2 : Int32).toNatClampNeg (vp_nar .boolean 0)) (3 : Int32).toNatClampNeg (vp_nar .boolean 0)) (4 : Int32).toNatClampNeg (vp_nar .boolean 0)) (5 : Int32).toNatClampNeg (vp_nar .boolean 0)) (6 : Int32).toNatClampNeg (vp_nar .boolean 0)) (7 : Int32).toNatClampNeg (vp_nar .boolean 0)))), ((a 9), .inl ((k 3), 22, .inl (upd (upd (upd (upd (upd (upd (upd (upd (upd (upd (upd (upd (upd (upd (fun _ => 0) (0 : Int32).toNatClampNeg 0) (1 : Int32).toNatClampNeg 0) (2 : Int32).toNatClampNeg 0) (3 : Int32).toNatClampNeg 0) (4 : Int32).toNatClampNeg 0) (5 : Int32).toNatClampNeg 0) (6 : Int32).toNatClampNeg 0) (7 : Int32).toNatClampNeg 0) (8 : Int32).toNatClampNeg 0) (9 : Int32).toNatClampNeg 0) (10 : Int32).toNatClampNeg 0) (11 : Int32).toNatClampNeg 0) (12 : Int32).toNatClampNeg 0) (13 : Int32).toNatClampNeg 0)))] H := hP
  have hD : va_D A [((a 5), .inr (0, [.int 0, .int 0, .int 0, .int (-1), .ref (a 8), .ref (a 41), .ref (a 42), .ref (a 43), .ref (a 9), .ref (a 44), .ref (a 45), .ref (a 46), .ref (a 47), .ref (a 48), .ref (a 49), .ref (a 50), .ref (a 51)])), ((a 8), .inl ((k 2), 8, .inl (upd (upd (upd (upd (upd (upd (upd (upd (fun _ => 0) (0 : Int32).toNatClampNeg (vp_nar .boolean 0)) (1 : Int32).toNatClampNeg (vp_nar .boolean 0)) (2 : Int32).toNatClampNeg (vp_nar .boolean 0)) (3 : Int32).toNatClampNeg (vp_nar .boolean 0)) (4 : Int32).toNatClampNeg (vp_nar .boolean 0)) (5 : Int32).toNatClampNeg (vp_nar .boolean 0)) (6 : Int32).toNatClampNeg (vp_nar .boolean 0)) (7 : Int32).toNatClampNeg (vp_nar .boolean 0)))), ((a 9), .inl ((k 3), 22, .inl (upd (upd (upd (upd (upd (upd (upd (upd (upd (upd (upd (upd (upd (upd (fun _ => 0) (0 : Int32).toNatClampNeg 0) (1 : Int32).toNatClampNeg 0) (2 : Int32).toNatClampNeg 0) (3 : Int32).toNatClampNeg 0) (4 : Int32).toNatClampNeg 0) (5 : Int32).toNatClampNeg 0) (6 : Int32).toNatClampNeg 0) (7 : Int32).toNatClampNeg 0) (8 : Int32).toNatClampNeg 0) (9 : Int32).toNatClampNeg 0) (10 : Int32).toNatClampNeg 0) (11 : Int32).toNatClampNeg 0) (12 : Int32).toNatClampNeg 0) (13 : Int32).toNatClampNeg 0)))] := hD
  refine lv_iinc (v := 14) (lv' := [(1, .int 14), (0, .ref (a 5))]) hx hb dX0_clear_56 hl (k := 0) rfl (by decide) (by decide) rfl (fun ls hl => ?_)
  refine lv_goto (tgt := 43) hx hb dX0_clear_59 (by decide) ?_
  refine lv_iload_n hx hb dX0_clear_43 rfl (lv_at hl 0 rfl) ?_
  refine lv_bipush (v := 22) hx hb dX0_clear_44 (by decide) ?_
  refine lv_icmp_ge (tgt := 62) hx hb dX0_clear_46 (by decide) (fun z => absurd z (by decide)) (fun _ => ?_)
  refine lv_aload_n hx hb dX0_clear_49 rfl (lv_at hl 1 rfl) ?_
  refine va_get (D := (dC, dI)) (ci := 0) (v := .ref (a 9)) (C := RX0) (T := TX0) (N := 17) hx hb hts hiX0 hown hK hP 0 rfl rfl 8 (by decide) v_6 (fun _ h9 => h9) rfl dX0_clear_50 ?_
  refine lv_iload_n hx hb dX0_clear_53 rfl (lv_at hl 0 rfl) ?_
  refine lv_iconst (v := 0) hx hb dX0_clear_54 (by decide) ?_
  refine va_iast hx hb hK hP hD hS 2 1 rfl rfl (show ¬ (_ ∨ _) by decide) dX0_clear_55 (fun H locs hP hD hS => ?_)
  have hP : va_P (dC, dI) vwCl [((a 5), .inr (0, [.int 0, .int 0, .int 0, .int (-1), .ref (a 8), .ref (a 41), .ref (a 42), .ref (a 43), .ref (a 9), .ref (a 44), .ref (a 45), .ref (a 46), .ref (a 47), .ref (a 48), .ref (a 49), .ref (a 50), .ref (a 51)])), ((a 8), .inl ((k 2), 8, .inl (upd (upd (upd (upd (upd (upd (upd (upd (fun _ => 0) (0 : Int32).toNatClampNeg (vp_nar .boolean 0)) (1 : Int32).toNatClampNeg (vp_nar .boolean 0)) (2 : Int32).toNatClampNeg (vp_nar .boolean 0)) (3 : Int32).toNatClampNeg (vp_nar .boolean 0)) (4 : Int32).toNatClampNeg (vp_nar .boolean 0)) (5 : Int32).toNatClampNeg (vp_nar .boolean 0)) (6 : Int32).toNatClampNeg (vp_nar .boolean 0)) (7 : Int32).toNatClampNeg (vp_nar .boolean 0)))), ((a 9), .inl ((k 3), 22, .inl (upd (upd (upd (upd (upd (upd (upd (upd (upd (upd (upd (upd (upd (upd (upd (fun _ => 0) (0 : Int32).toNatClampNeg 0) (1 : Int32).toNatClampNeg 0) (2 : Int32).toNatClampNeg 0) (3 : Int32).toNatClampNeg 0) (4 : Int32).toNatClampNeg 0) (5 : Int32).toNatClampNeg 0) (6 : Int32).toNatClampNeg 0) (7 : Int32).toNatClampNeg 0) (8 : Int32).toNatClampNeg 0) (9 : Int32).toNatClampNeg 0) (10 : Int32).toNatClampNeg 0) (11 : Int32).toNatClampNeg 0) (12 : Int32).toNatClampNeg 0) (13 : Int32).toNatClampNeg 0) (14 : Int32).toNatClampNeg 0)))] H := hP
  have hD : va_D A [((a 5), .inr (0, [.int 0, .int 0, .int 0, .int (-1), .ref (a 8), .ref (a 41), .ref (a 42), .ref (a 43), .ref (a 9), .ref (a 44), .ref (a 45), .ref (a 46), .ref (a 47), .ref (a 48), .ref (a 49), .ref (a 50), .ref (a 51)])), ((a 8), .inl ((k 2), 8, .inl (upd (upd (upd (upd (upd (upd (upd (upd (fun _ => 0) (0 : Int32).toNatClampNeg (vp_nar .boolean 0)) (1 : Int32).toNatClampNeg (vp_nar .boolean 0)) (2 : Int32).toNatClampNeg (vp_nar .boolean 0)) (3 : Int32).toNatClampNeg (vp_nar .boolean 0)) (4 : Int32).toNatClampNeg (vp_nar .boolean 0)) (5 : Int32).toNatClampNeg (vp_nar .boolean 0)) (6 : Int32).toNatClampNeg (vp_nar .boolean 0)) (7 : Int32).toNatClampNeg (vp_nar .boolean 0)))), ((a 9), .inl ((k 3), 22, .inl (upd (upd (upd (upd (upd (upd (upd (upd (upd (upd (upd (upd (upd (upd (upd (fun _ => 0) (0 : Int32).toNatClampNeg 0) (1 : Int32).toNatClampNeg 0) (2 : Int32).toNatClampNeg 0) (3 : Int32).toNatClampNeg 0) (4 : Int32).toNatClampNeg 0) (5 : Int32).toNatClampNeg 0) (6 : Int32).toNatClampNeg 0) (7 : Int32).toNatClampNeg 0) (8 : Int32).toNatClampNeg 0) (9 : Int32).toNatClampNeg 0) (10 : Int32).toNatClampNeg 0) (11 : Int32).toNatClampNeg 0) (12 : Int32).toNatClampNeg 0) (13 : Int32).toNatClampNeg 0) (14 : Int32).toNatClampNeg 0)))] := hD
  refine lv_iinc (v := 15) (lv' := [(1, .int 15), (0, .ref (a 5))]) hx hb dX0_clear_56 hl (k := 0) rfl (by decide) (by decide) rfl (fun ls hl => ?_)
  refine lv_goto (tgt := 43) hx hb dX0_clear_59 (by decide) ?_
  refine lv_iload_n hx hb dX0_clear_43 rfl (lv_at hl 0 rfl) ?_
  refine lv_bipush (v := 22) hx hb dX0_clear_44 (by decide) ?_
  refine lv_icmp_ge (tgt := 62) hx hb dX0_clear_46 (by decide) (fun z => absurd z (by decide)) (fun _ => ?_)
  refine lv_aload_n hx hb dX0_clear_49 rfl (lv_at hl 1 rfl) ?_
  refine va_get (D := (dC, dI)) (ci := 0) (v := .ref (a 9)) (C := RX0) (T := TX0) (N := 17) hx hb hts hiX0 hown hK hP 0 rfl rfl 8 (by decide) v_6 (fun _ h9 => h9) rfl dX0_clear_50 ?_
  refine lv_iload_n hx hb dX0_clear_53 rfl (lv_at hl 0 rfl) ?_
  refine lv_iconst (v := 0) hx hb dX0_clear_54 (by decide) ?_
  refine va_iast hx hb hK hP hD hS 2 1 rfl rfl (show ¬ (_ ∨ _) by decide) dX0_clear_55 (fun H locs hP hD hS => ?_)
  have hP : va_P (dC, dI) vwCl [((a 5), .inr (0, [.int 0, .int 0, .int 0, .int (-1), .ref (a 8), .ref (a 41), .ref (a 42), .ref (a 43), .ref (a 9), .ref (a 44), .ref (a 45), .ref (a 46), .ref (a 47), .ref (a 48), .ref (a 49), .ref (a 50), .ref (a 51)])), ((a 8), .inl ((k 2), 8, .inl (upd (upd (upd (upd (upd (upd (upd (upd (fun _ => 0) (0 : Int32).toNatClampNeg (vp_nar .boolean 0)) (1 : Int32).toNatClampNeg (vp_nar .boolean 0)) (2 : Int32).toNatClampNeg (vp_nar .boolean 0)) (3 : Int32).toNatClampNeg (vp_nar .boolean 0)) (4 : Int32).toNatClampNeg (vp_nar .boolean 0)) (5 : Int32).toNatClampNeg (vp_nar .boolean 0)) (6 : Int32).toNatClampNeg (vp_nar .boolean 0)) (7 : Int32).toNatClampNeg (vp_nar .boolean 0)))), ((a 9), .inl ((k 3), 22, .inl (upd (upd (upd (upd (upd (upd (upd (upd (upd (upd (upd (upd (upd (upd (upd (upd (fun _ => 0) (0 : Int32).toNatClampNeg 0) (1 : Int32).toNatClampNeg 0) (2 : Int32).toNatClampNeg 0) (3 : Int32).toNatClampNeg 0) (4 : Int32).toNatClampNeg 0) (5 : Int32).toNatClampNeg 0) (6 : Int32).toNatClampNeg 0) (7 : Int32).toNatClampNeg 0) (8 : Int32).toNatClampNeg 0) (9 : Int32).toNatClampNeg 0) (10 : Int32).toNatClampNeg 0) (11 : Int32).toNatClampNeg 0) (12 : Int32).toNatClampNeg 0) (13 : Int32).toNatClampNeg 0) (14 : Int32).toNatClampNeg 0) (15 : Int32).toNatClampNeg 0)))] H := hP
  have hD : va_D A [((a 5), .inr (0, [.int 0, .int 0, .int 0, .int (-1), .ref (a 8), .ref (a 41), .ref (a 42), .ref (a 43), .ref (a 9), .ref (a 44), .ref (a 45), .ref (a 46), .ref (a 47), .ref (a 48), .ref (a 49), .ref (a 50), .ref (a 51)])), ((a 8), .inl ((k 2), 8, .inl (upd (upd (upd (upd (upd (upd (upd (upd (fun _ => 0) (0 : Int32).toNatClampNeg (vp_nar .boolean 0)) (1 : Int32).toNatClampNeg (vp_nar .boolean 0)) (2 : Int32).toNatClampNeg (vp_nar .boolean 0)) (3 : Int32).toNatClampNeg (vp_nar .boolean 0)) (4 : Int32).toNatClampNeg (vp_nar .boolean 0)) (5 : Int32).toNatClampNeg (vp_nar .boolean 0)) (6 : Int32).toNatClampNeg (vp_nar .boolean 0)) (7 : Int32).toNatClampNeg (vp_nar .boolean 0)))), ((a 9), .inl ((k 3), 22, .inl (upd (upd (upd (upd (upd (upd (upd (upd (upd (upd (upd (upd (upd (upd (upd (upd (fun _ => 0) (0 : Int32).toNatClampNeg 0) (1 : Int32).toNatClampNeg 0) (2 : Int32).toNatClampNeg 0) (3 : Int32).toNatClampNeg 0) (4 : Int32).toNatClampNeg 0) (5 : Int32).toNatClampNeg 0) (6 : Int32).toNatClampNeg 0) (7 : Int32).toNatClampNeg 0) (8 : Int32).toNatClampNeg 0) (9 : Int32).toNatClampNeg 0) (10 : Int32).toNatClampNeg 0) (11 : Int32).toNatClampNeg 0) (12 : Int32).toNatClampNeg 0) (13 : Int32).toNatClampNeg 0) (14 : Int32).toNatClampNeg 0) (15 : Int32).toNatClampNeg 0)))] := hD
  refine lv_iinc (v := 16) (lv' := [(1, .int 16), (0, .ref (a 5))]) hx hb dX0_clear_56 hl (k := 0) rfl (by decide) (by decide) rfl (fun ls hl => ?_)
  refine lv_goto (tgt := 43) hx hb dX0_clear_59 (by decide) ?_
  refine lv_iload_n hx hb dX0_clear_43 rfl (lv_at hl 0 rfl) ?_
  refine lv_bipush (v := 22) hx hb dX0_clear_44 (by decide) ?_
  refine lv_icmp_ge (tgt := 62) hx hb dX0_clear_46 (by decide) (fun z => absurd z (by decide)) (fun _ => ?_)
  refine lv_aload_n hx hb dX0_clear_49 rfl (lv_at hl 1 rfl) ?_
  refine va_get (D := (dC, dI)) (ci := 0) (v := .ref (a 9)) (C := RX0) (T := TX0) (N := 17) hx hb hts hiX0 hown hK hP 0 rfl rfl 8 (by decide) v_6 (fun _ h9 => h9) rfl dX0_clear_50 ?_
  refine lv_iload_n hx hb dX0_clear_53 rfl (lv_at hl 0 rfl) ?_
  refine lv_iconst (v := 0) hx hb dX0_clear_54 (by decide) ?_
  refine va_iast hx hb hK hP hD hS 2 1 rfl rfl (show ¬ (_ ∨ _) by decide) dX0_clear_55 (fun H locs hP hD hS => ?_)
  have hP : va_P (dC, dI) vwCl [((a 5), .inr (0, [.int 0, .int 0, .int 0, .int (-1), .ref (a 8), .ref (a 41), .ref (a 42), .ref (a 43), .ref (a 9), .ref (a 44), .ref (a 45), .ref (a 46), .ref (a 47), .ref (a 48), .ref (a 49), .ref (a 50), .ref (a 51)])), ((a 8), .inl ((k 2), 8, .inl (upd (upd (upd (upd (upd (upd (upd (upd (fun _ => 0) (0 : Int32).toNatClampNeg (vp_nar .boolean 0)) (1 : Int32).toNatClampNeg (vp_nar .boolean 0)) (2 : Int32).toNatClampNeg (vp_nar .boolean 0)) (3 : Int32).toNatClampNeg (vp_nar .boolean 0)) (4 : Int32).toNatClampNeg (vp_nar .boolean 0)) (5 : Int32).toNatClampNeg (vp_nar .boolean 0)) (6 : Int32).toNatClampNeg (vp_nar .boolean 0)) (7 : Int32).toNatClampNeg (vp_nar .boolean 0)))), ((a 9), .inl ((k 3), 22, .inl (upd (upd (upd (upd (upd (upd (upd (upd (upd (upd (upd (upd (upd (upd (upd (upd (upd (fun _ => 0) (0 : Int32).toNatClampNeg 0) (1 : Int32).toNatClampNeg 0) (2 : Int32).toNatClampNeg 0) (3 : Int32).toNatClampNeg 0) (4 : Int32).toNatClampNeg 0) (5 : Int32).toNatClampNeg 0) (6 : Int32).toNatClampNeg 0) (7 : Int32).toNatClampNeg 0) (8 : Int32).toNatClampNeg 0) (9 : Int32).toNatClampNeg 0) (10 : Int32).toNatClampNeg 0) (11 : Int32).toNatClampNeg 0) (12 : Int32).toNatClampNeg 0) (13 : Int32).toNatClampNeg 0) (14 : Int32).toNatClampNeg 0) (15 : Int32).toNatClampNeg 0) (16 : Int32).toNatClampNeg 0)))] H := hP
  have hD : va_D A [((a 5), .inr (0, [.int 0, .int 0, .int 0, .int (-1), .ref (a 8), .ref (a 41), .ref (a 42), .ref (a 43), .ref (a 9), .ref (a 44), .ref (a 45), .ref (a 46), .ref (a 47), .ref (a 48), .ref (a 49), .ref (a 50), .ref (a 51)])), ((a 8), .inl ((k 2), 8, .inl (upd (upd (upd (upd (upd (upd (upd (upd (fun _ => 0) (0 : Int32).toNatClampNeg (vp_nar .boolean 0)) (1 : Int32).toNatClampNeg (vp_nar .boolean 0)) (2 : Int32).toNatClampNeg (vp_nar .boolean 0)) (3 : Int32).toNatClampNeg (vp_nar .boolean 0)) (4 : Int32).toNatClampNeg (vp_nar .boolean 0)) (5 : Int32).toNatClampNeg (vp_nar .boolean 0)) (6 : Int32).toNatClampNeg (vp_nar .boolean 0)) (7 : Int32).toNatClampNeg (vp_nar .boolean 0)))), ((a 9), .inl ((k 3), 22, .inl (upd (upd (upd (upd (upd (upd (upd (upd (upd (upd (upd (upd (upd (upd (upd (upd (upd (fun _ => 0) (0 : Int32).toNatClampNeg 0) (1 : Int32).toNatClampNeg 0) (2 : Int32).toNatClampNeg 0) (3 : Int32).toNatClampNeg 0) (4 : Int32).toNatClampNeg 0) (5 : Int32).toNatClampNeg 0) (6 : Int32).toNatClampNeg 0) (7 : Int32).toNatClampNeg 0) (8 : Int32).toNatClampNeg 0) (9 : Int32).toNatClampNeg 0) (10 : Int32).toNatClampNeg 0) (11 : Int32).toNatClampNeg 0) (12 : Int32).toNatClampNeg 0) (13 : Int32).toNatClampNeg 0) (14 : Int32).toNatClampNeg 0) (15 : Int32).toNatClampNeg 0) (16 : Int32).toNatClampNeg 0)))] := hD
  refine lv_iinc (v := 17) (lv' := [(1, .int 17), (0, .ref (a 5))]) hx hb dX0_clear_56 hl (k := 0) rfl (by decide) (by decide) rfl (fun ls hl => ?_)
  refine lv_goto (tgt := 43) hx hb dX0_clear_59 (by decide) ?_
  refine lv_iload_n hx hb dX0_clear_43 rfl (lv_at hl 0 rfl) ?_
  refine lv_bipush (v := 22) hx hb dX0_clear_44 (by decide) ?_
  refine lv_icmp_ge (tgt := 62) hx hb dX0_clear_46 (by decide) (fun z => absurd z (by decide)) (fun _ => ?_)
  refine lv_aload_n hx hb dX0_clear_49 rfl (lv_at hl 1 rfl) ?_
  refine va_get (D := (dC, dI)) (ci := 0) (v := .ref (a 9)) (C := RX0) (T := TX0) (N := 17) hx hb hts hiX0 hown hK hP 0 rfl rfl 8 (by decide) v_6 (fun _ h9 => h9) rfl dX0_clear_50 ?_
  refine lv_iload_n hx hb dX0_clear_53 rfl (lv_at hl 0 rfl) ?_
  refine lv_iconst (v := 0) hx hb dX0_clear_54 (by decide) ?_
  refine va_iast hx hb hK hP hD hS 2 1 rfl rfl (show ¬ (_ ∨ _) by decide) dX0_clear_55 (fun H locs hP hD hS => ?_)
  have hP : va_P (dC, dI) vwCl [((a 5), .inr (0, [.int 0, .int 0, .int 0, .int (-1), .ref (a 8), .ref (a 41), .ref (a 42), .ref (a 43), .ref (a 9), .ref (a 44), .ref (a 45), .ref (a 46), .ref (a 47), .ref (a 48), .ref (a 49), .ref (a 50), .ref (a 51)])), ((a 8), .inl ((k 2), 8, .inl (upd (upd (upd (upd (upd (upd (upd (upd (fun _ => 0) (0 : Int32).toNatClampNeg (vp_nar .boolean 0)) (1 : Int32).toNatClampNeg (vp_nar .boolean 0)) (2 : Int32).toNatClampNeg (vp_nar .boolean 0)) (3 : Int32).toNatClampNeg (vp_nar .boolean 0)) (4 : Int32).toNatClampNeg (vp_nar .boolean 0)) (5 : Int32).toNatClampNeg (vp_nar .boolean 0)) (6 : Int32).toNatClampNeg (vp_nar .boolean 0)) (7 : Int32).toNatClampNeg (vp_nar .boolean 0)))), ((a 9), .inl ((k 3), 22, .inl (upd (upd (upd (upd (upd (upd (upd (upd (upd (upd (upd (upd (upd (upd (upd (upd (upd (upd (fun _ => 0) (0 : Int32).toNatClampNeg 0) (1 : Int32).toNatClampNeg 0) (2 : Int32).toNatClampNeg 0) (3 : Int32).toNatClampNeg 0) (4 : Int32).toNatClampNeg 0) (5 : Int32).toNatClampNeg 0) (6 : Int32).toNatClampNeg 0) (7 : Int32).toNatClampNeg 0) (8 : Int32).toNatClampNeg 0) (9 : Int32).toNatClampNeg 0) (10 : Int32).toNatClampNeg 0) (11 : Int32).toNatClampNeg 0) (12 : Int32).toNatClampNeg 0) (13 : Int32).toNatClampNeg 0) (14 : Int32).toNatClampNeg 0) (15 : Int32).toNatClampNeg 0) (16 : Int32).toNatClampNeg 0) (17 : Int32).toNatClampNeg 0)))] H := hP
  have hD : va_D A [((a 5), .inr (0, [.int 0, .int 0, .int 0, .int (-1), .ref (a 8), .ref (a 41), .ref (a 42), .ref (a 43), .ref (a 9), .ref (a 44), .ref (a 45), .ref (a 46), .ref (a 47), .ref (a 48), .ref (a 49), .ref (a 50), .ref (a 51)])), ((a 8), .inl ((k 2), 8, .inl (upd (upd (upd (upd (upd (upd (upd (upd (fun _ => 0) (0 : Int32).toNatClampNeg (vp_nar .boolean 0)) (1 : Int32).toNatClampNeg (vp_nar .boolean 0)) (2 : Int32).toNatClampNeg (vp_nar .boolean 0)) (3 : Int32).toNatClampNeg (vp_nar .boolean 0)) (4 : Int32).toNatClampNeg (vp_nar .boolean 0)) (5 : Int32).toNatClampNeg (vp_nar .boolean 0)) (6 : Int32).toNatClampNeg (vp_nar .boolean 0)) (7 : Int32).toNatClampNeg (vp_nar .boolean 0)))), ((a 9), .inl ((k 3), 22, .inl (upd (upd (upd (upd (upd (upd (upd (upd (upd (upd (upd (upd (upd (upd (upd (upd (upd (upd (fun _ => 0) (0 : Int32).toNatClampNeg 0) (1 : Int32).toNatClampNeg 0) (2 : Int32).toNatClampNeg 0) (3 : Int32).toNatClampNeg 0) (4 : Int32).toNatClampNeg 0) (5 : Int32).toNatClampNeg 0) (6 : Int32).toNatClampNeg 0) (7 : Int32).toNatClampNeg 0) (8 : Int32).toNatClampNeg 0) (9 : Int32).toNatClampNeg 0) (10 : Int32).toNatClampNeg 0) (11 : Int32).toNatClampNeg 0) (12 : Int32).toNatClampNeg 0) (13 : Int32).toNatClampNeg 0) (14 : Int32).toNatClampNeg 0) (15 : Int32).toNatClampNeg 0) (16 : Int32).toNatClampNeg 0) (17 : Int32).toNatClampNeg 0)))] := hD
  refine lv_iinc (v := 18) (lv' := [(1, .int 18), (0, .ref (a 5))]) hx hb dX0_clear_56 hl (k := 0) rfl (by decide) (by decide) rfl (fun ls hl => ?_)
  refine lv_goto (tgt := 43) hx hb dX0_clear_59 (by decide) ?_
  refine lv_iload_n hx hb dX0_clear_43 rfl (lv_at hl 0 rfl) ?_
  refine lv_bipush (v := 22) hx hb dX0_clear_44 (by decide) ?_
  refine lv_icmp_ge (tgt := 62) hx hb dX0_clear_46 (by decide) (fun z => absurd z (by decide)) (fun _ => ?_)
  refine lv_aload_n hx hb dX0_clear_49 rfl (lv_at hl 1 rfl) ?_
  refine va_get (D := (dC, dI)) (ci := 0) (v := .ref (a 9)) (C := RX0) (T := TX0) (N := 17) hx hb hts hiX0 hown hK hP 0 rfl rfl 8 (by decide) v_6 (fun _ h9 => h9) rfl dX0_clear_50 ?_
  refine lv_iload_n hx hb dX0_clear_53 rfl (lv_at hl 0 rfl) ?_
  refine lv_iconst (v := 0) hx hb dX0_clear_54 (by decide) ?_
  refine va_iast hx hb hK hP hD hS 2 1 rfl rfl (show ¬ (_ ∨ _) by decide) dX0_clear_55 (fun H locs hP hD hS => ?_)
  have hP : va_P (dC, dI) vwCl [((a 5), .inr (0, [.int 0, .int 0, .int 0, .int (-1), .ref (a 8), .ref (a 41), .ref (a 42), .ref (a 43), .ref (a 9), .ref (a 44), .ref (a 45), .ref (a 46), .ref (a 47), .ref (a 48), .ref (a 49), .ref (a 50), .ref (a 51)])), ((a 8), .inl ((k 2), 8, .inl (upd (upd (upd (upd (upd (upd (upd (upd (fun _ => 0) (0 : Int32).toNatClampNeg (vp_nar .boolean 0)) (1 : Int32).toNatClampNeg (vp_nar .boolean 0)) (2 : Int32).toNatClampNeg (vp_nar .boolean 0)) (3 : Int32).toNatClampNeg (vp_nar .boolean 0)) (4 : Int32).toNatClampNeg (vp_nar .boolean 0)) (5 : Int32).toNatClampNeg (vp_nar .boolean 0)) (6 : Int32).toNatClampNeg (vp_nar .boolean 0)) (7 : Int32).toNatClampNeg (vp_nar .boolean 0)))), ((a 9), .inl ((k 3), 22, .inl (upd (upd (upd (upd (upd (upd (upd (upd (upd (upd (upd (upd (upd (upd (upd (upd (upd (upd (upd (fun _ => 0) (0 : Int32).toNatClampNeg 0) (1 : Int32).toNatClampNeg 0) (2 : Int32).toNatClampNeg 0) (3 : Int32).toNatClampNeg 0) (4 : Int32).toNatClampNeg 0) (5 : Int32).toNatClampNeg 0) (6 : Int32).toNatClampNeg 0) (7 : Int32).toNatClampNeg 0) (8 : Int32).toNatClampNeg 0) (9 : Int32).toNatClampNeg 0) (10 : Int32).toNatClampNeg 0) (11 : Int32).toNatClampNeg 0) (12 : Int32).toNatClampNeg 0) (13 : Int32).toNatClampNeg 0) (14 : Int32).toNatClampNeg 0) (15 : Int32).toNatClampNeg 0) (16 : Int32).toNatClampNeg 0) (17 : Int32).toNatClampNeg 0) (18 : Int32).toNatClampNeg 0)))] H := hP
  have hD : va_D A [((a 5), .inr (0, [.int 0, .int 0, .int 0, .int (-1), .ref (a 8), .ref (a 41), .ref (a 42), .ref (a 43), .ref (a 9), .ref (a 44), .ref (a 45), .ref (a 46), .ref (a 47), .ref (a 48), .ref (a 49), .ref (a 50), .ref (a 51)])), ((a 8), .inl ((k 2), 8, .inl (upd (upd (upd (upd (upd (upd (upd (upd (fun _ => 0) (0 : Int32).toNatClampNeg (vp_nar .boolean 0)) (1 : Int32).toNatClampNeg (vp_nar .boolean 0)) (2 : Int32).toNatClampNeg (vp_nar .boolean 0)) (3 : Int32).toNatClampNeg (vp_nar .boolean 0)) (4 : Int32).toNatClampNeg (vp_nar .boolean 0)) (5 : Int32).toNatClampNeg (vp_nar .boolean 0)) (6 : Int32).toNatClampNeg (vp_nar .boolean 0)) (7 : Int32).toNatClampNeg (vp_nar .boolean 0)))), ((a 9), .inl ((k 3), 22, .inl (upd (upd (upd (upd (upd (upd (upd (upd (upd (upd (upd (upd (upd (upd (upd (upd (upd (upd (upd (fun _ => 0) (0 : Int32).toNatClampNeg 0) (1 : Int32).toNatClampNeg 0) (2 : Int32).toNatClampNeg 0) (3 : Int32).toNatClampNeg 0) (4 : Int32).toNatClampNeg 0) (5 : Int32).toNatClampNeg 0) (6 : Int32).toNatClampNeg 0) (7 : Int32).toNatClampNeg 0) (8 : Int32).toNatClampNeg 0) (9 : Int32).toNatClampNeg 0) (10 : Int32).toNatClampNeg 0) (11 : Int32).toNatClampNeg 0) (12 : Int32).toNatClampNeg 0) (13 : Int32).toNatClampNeg 0) (14 : Int32).toNatClampNeg 0) (15 : Int32).toNatClampNeg 0) (16 : Int32).toNatClampNeg 0) (17 : Int32).toNatClampNeg 0) (18 : Int32).toNatClampNeg 0)))] := hD
  refine lv_iinc (v := 19) (lv' := [(1, .int 19), (0, .ref (a 5))]) hx hb dX0_clear_56 hl (k := 0) rfl (by decide) (by decide) rfl (fun ls hl => ?_)
  refine lv_goto (tgt := 43) hx hb dX0_clear_59 (by decide) ?_
  refine lv_iload_n hx hb dX0_clear_43 rfl (lv_at hl 0 rfl) ?_
  refine lv_bipush (v := 22) hx hb dX0_clear_44 (by decide) ?_
  refine lv_icmp_ge (tgt := 62) hx hb dX0_clear_46 (by decide) (fun z => absurd z (by decide)) (fun _ => ?_)
  refine lv_aload_n hx hb dX0_clear_49 rfl (lv_at hl 1 rfl) ?_
  refine va_get (D := (dC, dI)) (ci := 0) (v := .ref (a 9)) (C := RX0) (T := TX0) (N := 17) hx hb hts hiX0 hown hK hP 0 rfl rfl 8 (by decide) v_6 (fun _ h9 => h9) rfl dX0_clear_50 ?_
  refine lv_iload_n hx hb dX0_clear_53 rfl (lv_at hl 0 rfl) ?_
  refine lv_iconst (v := 0) hx hb dX0_clear_54 (by decide) ?_
  refine va_iast hx hb hK hP hD hS 2 1 rfl rfl (show ¬ (_ ∨ _) by decide) dX0_clear_55 (fun H locs hP hD hS => ?_)
  have hP : va_P (dC, dI) vwCl [((a 5), .inr (0, [.int 0, .int 0, .int 0, .int (-1), .ref (a 8), .ref (a 41), .ref (a 42), .ref (a 43), .ref (a 9), .ref (a 44), .ref (a 45), .ref (a 46), .ref (a 47), .ref (a 48), .ref (a 49), .ref (a 50), .ref (a 51)])), ((a 8), .inl ((k 2), 8, .inl (upd (upd (upd (upd (upd (upd (upd (upd (fun _ => 0) (0 : Int32).toNatClampNeg (vp_nar .boolean 0)) (1 : Int32).toNatClampNeg (vp_nar .boolean 0)) (2 : Int32).toNatClampNeg (vp_nar .boolean 0)) (3 : Int32).toNatClampNeg (vp_nar .boolean 0)) (4 : Int32).toNatClampNeg (vp_nar .boolean 0)) (5 : Int32).toNatClampNeg (vp_nar .boolean 0)) (6 : Int32).toNatClampNeg (vp_nar .boolean 0)) (7 : Int32).toNatClampNeg (vp_nar .boolean 0)))), ((a 9), .inl ((k 3), 22, .inl (upd (upd (upd (upd (upd (upd (upd (upd (upd (upd (upd (upd (upd (upd (upd (upd (upd (upd (upd (upd (fun _ => 0) (0 : Int32).toNatClampNeg 0) (1 : Int32).toNatClampNeg 0) (2 : Int32).toNatClampNeg 0) (3 : Int32).toNatClampNeg 0) (4 : Int32).toNatClampNeg 0) (5 : Int32).toNatClampNeg 0) (6 : Int32).toNatClampNeg 0) (7 : Int32).toNatClampNeg 0) (8 : Int32).toNatClampNeg 0) (9 : Int32).toNatClampNeg 0) (10 : Int32).toNatClampNeg 0) (11 : Int32).toNatClampNeg 0) (12 : Int32).toNatClampNeg 0) (13 : Int32).toNatClampNeg 0) (14 : Int32).toNatClampNeg 0) (15 : Int32).toNatClampNeg 0) (16 : Int32).toNatClampNeg 0) (17 : Int32).toNatClampNeg 0) (18 : Int32).toNatClampNeg 0) (19 : Int32).toNatClampNeg 0)))] H := hP
  have hD : va_D A [((a 5), .inr (0, [.int 0, .int 0, .int 0, .int (-1), .ref (a 8), .ref (a 41), .ref (a 42), .ref (a 43), .ref (a 9), .ref (a 44), .ref (a 45), .ref (a 46), .ref (a 47), .ref (a 48), .ref (a 49), .ref (a 50), .ref (a 51)])), ((a 8), .inl ((k 2), 8, .inl (upd (upd (upd (upd (upd (upd (upd (upd (fun _ => 0) (0 : Int32).toNatClampNeg (vp_nar .boolean 0)) (1 : Int32).toNatClampNeg (vp_nar .boolean 0)) (2 : Int32).toNatClampNeg (vp_nar .boolean 0)) (3 : Int32).toNatClampNeg (vp_nar .boolean 0)) (4 : Int32).toNatClampNeg (vp_nar .boolean 0)) (5 : Int32).toNatClampNeg (vp_nar .boolean 0)) (6 : Int32).toNatClampNeg (vp_nar .boolean 0)) (7 : Int32).toNatClampNeg (vp_nar .boolean 0)))), ((a 9), .inl ((k 3), 22, .inl (upd (upd (upd (upd (upd (upd (upd (upd (upd (upd (upd (upd (upd (upd (upd (upd (upd (upd (upd (upd (fun _ => 0) (0 : Int32).toNatClampNeg 0) (1 : Int32).toNatClampNeg 0) (2 : Int32).toNatClampNeg 0) (3 : Int32).toNatClampNeg 0) (4 : Int32).toNatClampNeg 0) (5 : Int32).toNatClampNeg 0) (6 : Int32).toNatClampNeg 0) (7 : Int32).toNatClampNeg 0) (8 : Int32).toNatClampNeg 0) (9 : Int32).toNatClampNeg 0) (10 : Int32).toNatClampNeg 0) (11 : Int32).toNatClampNeg 0) (12 : Int32).toNatClampNeg 0) (13 : Int32).toNatClampNeg 0) (14 : Int32).toNatClampNeg 0) (15 : Int32).toNatClampNeg 0) (16 : Int32).toNatClampNeg 0) (17 : Int32).toNatClampNeg 0) (18 : Int32).toNatClampNeg 0) (19 : Int32).toNatClampNeg 0)))] := hD
  refine lv_iinc (v := 20) (lv' := [(1, .int 20), (0, .ref (a 5))]) hx hb dX0_clear_56 hl (k := 0) rfl (by decide) (by decide) rfl (fun ls hl => ?_)
  refine lv_goto (tgt := 43) hx hb dX0_clear_59 (by decide) ?_
  refine lv_iload_n hx hb dX0_clear_43 rfl (lv_at hl 0 rfl) ?_
  refine lv_bipush (v := 22) hx hb dX0_clear_44 (by decide) ?_
  refine lv_icmp_ge (tgt := 62) hx hb dX0_clear_46 (by decide) (fun z => absurd z (by decide)) (fun _ => ?_)
  refine lv_aload_n hx hb dX0_clear_49 rfl (lv_at hl 1 rfl) ?_
  refine va_get (D := (dC, dI)) (ci := 0) (v := .ref (a 9)) (C := RX0) (T := TX0) (N := 17) hx hb hts hiX0 hown hK hP 0 rfl rfl 8 (by decide) v_6 (fun _ h9 => h9) rfl dX0_clear_50 ?_
  refine lv_iload_n hx hb dX0_clear_53 rfl (lv_at hl 0 rfl) ?_
  refine lv_iconst (v := 0) hx hb dX0_clear_54 (by decide) ?_
  refine va_iast hx hb hK hP hD hS 2 1 rfl rfl (show ¬ (_ ∨ _) by decide) dX0_clear_55 (fun H locs hP hD hS => ?_)
  have hP : va_P (dC, dI) vwCl [((a 5), .inr (0, [.int 0, .int 0, .int 0, .int (-1), .ref (a 8), .ref (a 41), .ref (a 42), .ref (a 43), .ref (a 9), .ref (a 44), .ref (a 45), .ref (a 46), .ref (a 47), .ref (a 48), .ref (a 49), .ref (a 50), .ref (a 51)])), ((a 8), .inl ((k 2), 8, .inl (upd (upd (upd (upd (upd (upd (upd (upd (fun _ => 0) (0 : Int32).toNatClampNeg (vp_nar .boolean 0)) (1 : Int32).toNatClampNeg (vp_nar .boolean 0)) (2 : Int32).toNatClampNeg (vp_nar .boolean 0)) (3 : Int32).toNatClampNeg (vp_nar .boolean 0)) (4 : Int32).toNatClampNeg (vp_nar .boolean 0)) (5 : Int32).toNatClampNeg (vp_nar .boolean 0)) (6 : Int32).toNatClampNeg (vp_nar .boolean 0)) (7 : Int32).toNatClampNeg (vp_nar .boolean 0)))), ((a 9), .inl ((k 3), 22, .inl (upd (upd (upd (upd (upd (upd (upd (upd (upd (upd (upd (upd (upd (upd (upd (upd (upd (upd (upd (upd (upd (fun _ => 0) (0 : Int32).toNatClampNeg 0) (1 : Int32).toNatClampNeg 0) (2 : Int32).toNatClampNeg 0) (3 : Int32).toNatClampNeg 0) (4 : Int32).toNatClampNeg 0) (5 : Int32).toNatClampNeg 0) (6 : Int32).toNatClampNeg 0) (7 : Int32).toNatClampNeg 0) (8 : Int32).toNatClampNeg 0) (9 : Int32).toNatClampNeg 0) (10 : Int32).toNatClampNeg 0) (11 : Int32).toNatClampNeg 0) (12 : Int32).toNatClampNeg 0) (13 : Int32).toNatClampNeg 0) (14 : Int32).toNatClampNeg 0) (15 : Int32).toNatClampNeg 0) (16 : Int32).toNatClampNeg 0) (17 : Int32).toNatClampNeg 0) (18 : Int32).toNatClampNeg 0) (19 : Int32).toNatClampNeg 0) (20 : Int32).toNatClampNeg 0)))] H := hP
  have hD : va_D A [((a 5), .inr (0, [.int 0, .int 0, .int 0, .int (-1), .ref (a 8), .ref (a 41), .ref (a 42), .ref (a 43), .ref (a 9), .ref (a 44), .ref (a 45), .ref (a 46), .ref (a 47), .ref (a 48), .ref (a 49), .ref (a 50), .ref (a 51)])), ((a 8), .inl ((k 2), 8, .inl (upd (upd (upd (upd (upd (upd (upd (upd (fun _ => 0) (0 : Int32).toNatClampNeg (vp_nar .boolean 0)) (1 : Int32).toNatClampNeg (vp_nar .boolean 0)) (2 : Int32).toNatClampNeg (vp_nar .boolean 0)) (3 : Int32).toNatClampNeg (vp_nar .boolean 0)) (4 : Int32).toNatClampNeg (vp_nar .boolean 0)) (5 : Int32).toNatClampNeg (vp_nar .boolean 0)) (6 : Int32).toNatClampNeg (vp_nar .boolean 0)) (7 : Int32).toNatClampNeg (vp_nar .boolean 0)))), ((a 9), .inl ((k 3), 22, .inl (upd (upd (upd (upd (upd (upd (upd (upd (upd (upd (upd (upd (upd (upd (upd (upd (upd (upd (upd (upd (upd (fun _ => 0) (0 : Int32).toNatClampNeg 0) (1 : Int32).toNatClampNeg 0) (2 : Int32).toNatClampNeg 0) (3 : Int32).toNatClampNeg 0) (4 : Int32).toNatClampNeg 0) (5 : Int32).toNatClampNeg 0) (6 : Int32).toNatClampNeg 0) (7 : Int32).toNatClampNeg 0) (8 : Int32).toNatClampNeg 0) (9 : Int32).toNatClampNeg 0) (10 : Int32).toNatClampNeg 0) (11 : Int32).toNatClampNeg 0) (12 : Int32).toNatClampNeg 0) (13 : Int32).toNatClampNeg 0) (14 : Int32).toNatClampNeg 0) (15 : Int32).toNatClampNeg 0) (16 : Int32).toNatClampNeg 0) (17 : Int32).toNatClampNeg 0) (18 : Int32).toNatClampNeg 0) (19 : Int32).toNatClampNeg 0) (20 : Int32).toNatClampNeg 0)))] := hD
  refine lv_iinc (v := 21) (lv' := [(1, .int 21), (0, .ref (a 5))]) hx hb dX0_clear_56 hl (k := 0) rfl (by decide) (by decide) rfl (fun ls hl => ?_)
  refine lv_goto (tgt := 43) hx hb dX0_clear_59 (by decide) ?_
  refine lv_iload_n hx hb dX0_clear_43 rfl (lv_at hl 0 rfl) ?_
  refine lv_bipush (v := 22) hx hb dX0_clear_44 (by decide) ?_
  refine lv_icmp_ge (tgt := 62) hx hb dX0_clear_46 (by decide) (fun z => absurd z (by decide)) (fun _ => ?_)
  refine lv_aload_n hx hb dX0_clear_49 rfl (lv_at hl 1 rfl) ?_
  refine va_get (D := (dC, dI)) (ci := 0) (v := .ref (a 9)) (C := RX0) (T := TX0) (N := 17) hx hb hts hiX0 hown hK hP 0 rfl rfl 8 (by decide) v_6 (fun _ h9 => h9) rfl dX0_clear_50 ?_
  refine lv_iload_n hx hb dX0_clear_53 rfl (lv_at hl 0 rfl) ?_
  refine lv_iconst (v := 0) hx hb dX0_clear_54 (by decide) ?_
  refine va_iast hx hb hK hP hD hS 2 1 rfl rfl (show ¬ (_ ∨ _) by decide) dX0_clear_55 (fun H locs hP hD hS => ?_)
  have hP : va_P (dC, dI) vwCl [((a 5), .inr (0, [.int 0, .int 0, .int 0, .int (-1), .ref (a 8), .ref (a 41), .ref (a 42), .ref (a 43), .ref (a 9), .ref (a 44), .ref (a 45), .ref (a 46), .ref (a 47), .ref (a 48), .ref (a 49), .ref (a 50), .ref (a 51)])), ((a 8), .inl ((k 2), 8, .inl (upd (upd (upd (upd (upd (upd (upd (upd (fun _ => 0) (0 : Int32).toNatClampNeg (vp_nar .boolean 0)) (1 : Int32).toNatClampNeg (vp_nar .boolean 0)) (2 : Int32).toNatClampNeg (vp_nar .boolean 0)) (3 : Int32).toNatClampNeg (vp_nar .boolean 0)) (4 : Int32).toNatClampNeg (vp_nar .boolean 0)) (5 : Int32).toNatClampNeg (vp_nar .boolean 0)) (6 : Int32).toNatClampNeg (vp_nar .boolean 0)) (7 : Int32).toNatClampNeg (vp_nar .boolean 0)))), ((a 9), .inl ((k 3), 22, .inl (upd (upd (upd (upd (upd (upd (upd (upd (upd (upd (upd (upd (upd (upd (upd (upd (upd (upd (upd (upd (upd (upd (fun _ => 0) (0 : Int32).toNatClampNeg 0) (1 : Int32).toNatClampNeg 0) (2 : Int32).toNatClampNeg 0) (3 : Int32).toNatClampNeg 0) (4 : Int32).toNatClampNeg 0) (5 : Int32).toNatClampNeg 0) (6 : Int32).toNatClampNeg 0) (7 : Int32).toNatClampNeg 0) (8 : Int32).toNatClampNeg 0) (9 : Int32).toNatClampNeg 0) (10 : Int32).toNatClampNeg 0) (11 : Int32).toNatClampNeg 0) (12 : Int32).toNatClampNeg 0) (13 : Int32).toNatClampNeg 0) (14 : Int32).toNatClampNeg 0) (15 : Int32).toNatClampNeg 0) (16 : Int32).toNatClampNeg 0) (17 : Int32).toNatClampNeg 0) (18 : Int32).toNatClampNeg 0) (19 : Int32).toNatClampNeg 0) (20 : Int32).toNatClampNeg 0) (21 : Int32).toNatClampNeg 0)))] H := hP
  have hD : va_D A [((a 5), .inr (0, [.int 0, .int 0, .int 0, .int (-1), .ref (a 8), .ref (a 41), .ref (a 42), .ref (a 43), .ref (a 9), .ref (a 44), .ref (a 45), .ref (a 46), .ref (a 47), .ref (a 48), .ref (a 49), .ref (a 50), .ref (a 51)])), ((a 8), .inl ((k 2), 8, .inl (upd (upd (upd (upd (upd (upd (upd (upd (fun _ => 0) (0 : Int32).toNatClampNeg (vp_nar .boolean 0)) (1 : Int32).toNatClampNeg (vp_nar .boolean 0)) (2 : Int32).toNatClampNeg (vp_nar .boolean 0)) (3 : Int32).toNatClampNeg (vp_nar .boolean 0)) (4 : Int32).toNatClampNeg (vp_nar .boolean 0)) (5 : Int32).toNatClampNeg (vp_nar .boolean 0)) (6 : Int32).toNatClampNeg (vp_nar .boolean 0)) (7 : Int32).toNatClampNeg (vp_nar .boolean 0)))), ((a 9), .inl ((k 3), 22, .inl (upd (upd (upd (upd (upd (upd (upd (upd (upd (upd (upd (upd (upd (upd (upd (upd (upd (upd (upd (upd (upd (upd (fun _ => 0) (0 : Int32).toNatClampNeg 0) (1 : Int32).toNatClampNeg 0) (2 : Int32).toNatClampNeg 0) (3 : Int32).toNatClampNeg 0) (4 : Int32).toNatClampNeg 0) (5 : Int32).toNatClampNeg 0) (6 : Int32).toNatClampNeg 0) (7 : Int32).toNatClampNeg 0) (8 : Int32).toNatClampNeg 0) (9 : Int32).toNatClampNeg 0) (10 : Int32).toNatClampNeg 0) (11 : Int32).toNatClampNeg 0) (12 : Int32).toNatClampNeg 0) (13 : Int32).toNatClampNeg 0) (14 : Int32).toNatClampNeg 0) (15 : Int32).toNatClampNeg 0) (16 : Int32).toNatClampNeg 0) (17 : Int32).toNatClampNeg 0) (18 : Int32).toNatClampNeg 0) (19 : Int32).toNatClampNeg 0) (20 : Int32).toNatClampNeg 0) (21 : Int32).toNatClampNeg 0)))] := hD
  refine lv_iinc (v := 22) (lv' := [(1, .int 22), (0, .ref (a 5))]) hx hb dX0_clear_56 hl (k := 0) rfl (by decide) (by decide) rfl (fun ls hl => ?_)
  refine lv_goto (tgt := 43) hx hb dX0_clear_59 (by decide) ?_
  refine lv_iload_n hx hb dX0_clear_43 rfl (lv_at hl 0 rfl) ?_
  refine lv_bipush (v := 22) hx hb dX0_clear_44 (by decide) ?_
  refine lv_icmp_ge (tgt := 62) hx hb dX0_clear_46 (by decide) (fun _ => ?_) (fun z => absurd z (by decide))
  have hP9 := hP.sub (ws' := [((a 5), .inr (0, [.int 0, .int 0, .int 0, .int (-1), .ref (a 8), .ref (a 41), .ref (a 42), .ref (a 43), .ref (a 9), .ref (a 44), .ref (a 45), .ref (a 46), .ref (a 47), .ref (a 48), .ref (a 49), .ref (a 50), .ref (a 51)]))]) [0] rfl
  have hD9 := hD.sub (ws' := [((a 5), .inr (0, [.int 0, .int 0, .int 0, .int (-1), .ref (a 8), .ref (a 41), .ref (a 42), .ref (a 43), .ref (a 9), .ref (a 44), .ref (a 45), .ref (a 46), .ref (a 47), .ref (a 48), .ref (a 49), .ref (a 50), .ref (a 51)]))]) [0] (by decide) rfl
  have hK9 := hK.sub (tys' := []) [] rfl
  exact W.vret hx hb hr (fun t ht hW => ⟨⟨(), rfl, trivial, ⟨by rw [ht]; exact hP9, va_K.moved hW.alike hK9, hD9⟩⟩, hS.F ht⟩) hS.2.2 dX0_clear_62
theorem dX4_advance_0 : decode cX4_advance 0 = .ok (.aload_n 0, 1) := by decide +kernel
theorem dX4_advance_1 : decode cX4_advance 1 = .ok (.getfield 60, 3) := by decide +kernel
theorem dX4_advance_4 : decode cX4_advance 4 = .ok (.aload_n 0, 1) := by decide +kernel
theorem dX4_advance_5 : decode cX4_advance 5 = .ok (.getfield 58, 3) := by decide +kernel
theorem dX4_advance_8 : decode cX4_advance 8 = .ok (.if_icmp .ge 44, 3) := by decide +kernel
theorem dX4_advance_52 : decode cX4_advance 52 = .ok (.aload_n 0, 1) := by decide +kernel
theorem dX4_advance_53 : decode cX4_advance 53 = .ok (.aload_n 0, 1) := by decide +kernel
theorem dX4_advance_54 : decode cX4_advance 54 = .ok (.getfield 60, 3) := by decide +kernel
theorem dX4_advance_57 : decode cX4_advance 57 = .ok (.putfield 118, 3) := by decide +kernel
theorem dX4_advance_60 : decode cX4_advance 60 = .ok (.aload_n 0, 1) := by decide +kernel
theorem dX4_advance_61 : decode cX4_advance 61 = .ok (.getfield 60, 3) := by decide +kernel
theorem dX4_advance_64 : decode cX4_advance 64 = .ok (.aload_n 0, 1) := by decide +kernel
theorem dX4_advance_65 : decode cX4_advance 65 = .ok (.getfield 58, 3) := by decide +kernel
theorem dX4_advance_68 : decode cX4_advance 68 = .ok (.if_icmp .lt 11, 3) := by decide +kernel
theorem dX4_advance_71 : decode cX4_advance 71 = .ok (.aload_n 0, 1) := by decide +kernel
theorem dX4_advance_72 : decode cX4_advance 72 = .ok (.iconst 1, 1) := by decide +kernel
theorem dX4_advance_73 : decode cX4_advance 73 = .ok (.putfield 78, 3) := by decide +kernel
theorem dX4_advance_76 : decode cX4_advance 76 = .ok (.goto 77, 3) := by decide +kernel
theorem dX4_advance_153 : decode cX4_advance 153 = .ok (.return_, 1) := by decide +kernel
def vs_X4_advance : List Cond := .code yX4_advance cX4_advance 1 none :: ([.fieldLink RX4 60 "ClockReach$Reader" "position" "I", .fieldLink RX4 58 "ClockReach$Reader" "length" "I", .fieldLink RX4 118 "ClockReach$Reader" "tokenAt" "I", .fieldLink RX4 78 "ClockReach$Reader" "kind" "I"] ++ wsX40)
set_option maxHeartbeats 4000000 in
set_option maxRecDepth 100000 in
theorem c_X4_advance (l : Launch) (dC : Nat → ClassId) (dI : Nat → Nat → Nat) (sz : Nat) (a : Nat → Nat) (k : Nat → ClassId) : Met l yX4_advance vs_X4_advance ({ frames := 0, cells := 0, slots := 0, locals := 0 }) (va_Pc [.ref (a 4)] (pu_B (dC, dI) [((a 4), .inr (4, [.int 0, .int (-1), .ref (a 6), .int 0, .int 0, .int 0, .int 0, .int 0, .ref (a 5), .ref (a 64), .ref (a 65), .ref (a 66)]))] [] sz)) (va_Qv (fun (_ : Unit) => True) (fun _ t => pu_E (dC, dI) [((a 4), .inr (4, [.int 0, .int (-1), .ref (a 6), .int 0, .int 0, .int 1, .int 0, .int 0, .ref (a 5), .ref (a 64), .ref (a 65), .ref (a 66)]))] [] (va_A ([((a 4), .inr (4, [.int 0, .int (-1), .ref (a 6), .int 0, .int 0, .int 0, .int 0, .int 0, .ref (a 5), .ref (a 64), .ref (a 65), .ref (a 66)]))]) sz) t) (va_A ([((a 4), .inr (4, [.int 0, .int (-1), .ref (a 6), .int 0, .int 0, .int 0, .int 0, .int 0, .ref (a 5), .ref (a 64), .ref (a 65), .ref (a 66)]))]) sz)) 0 0 (va_A ([((a 4), .inr (4, [.int 0, .int (-1), .ref (a 6), .int 0, .int 0, .int 0, .int 0, .int 0, .ref (a 5), .ref (a 64), .ref (a 65), .ref (a 66)]))]) sz) := by
  refine Met.ofW (cc := cX4_advance) (maxL := 1) (ret := none) (by decide) rfl ?_
  intro p e s m args below meth c s₁ B hml hv
  obtain ⟨rfl, rfl, hP, hK, hD0⟩ := hv
  have hx := B.exec
  have hb := B.bytes
  have hr := B.returns
  have hts := atoms_spec (ws := vs_X4_advance) B.pre
  have v_1 := hts (.fieldLink RX4 60 "ClockReach$Reader" "position" "I") (List.mem_of_getElem? (i := 1) rfl)
  have v_2 := hts (.fieldLink RX4 58 "ClockReach$Reader" "length" "I") (List.mem_of_getElem? (i := 2) rfl)
  have v_3 := hts (.fieldLink RX4 118 "ClockReach$Reader" "tokenAt" "I") (List.mem_of_getElem? (i := 3) rfl)
  have v_4 := hts (.fieldLink RX4 78 "ClockReach$Reader" "kind" "I") (List.mem_of_getElem? (i := 4) rfl)
  have hown : s.vm.findClass RX4 = some m.cls := findClass_of_methodNamed B.named
  have hlocks := B.notSynchronized
  have hiX4 : ∀ w ∈ wsX40, w ∈ vs_X4_advance := fun _ h => List.mem_cons_of_mem _ (List.mem_append_right _ h)
  have hD := hD0.self (sz := s.heap.size)
  generalize hAe : va_A ([((a 4), .inr (4, [.int 0, .int (-1), .ref (a 6), .int 0, .int 0, .int 0, .int 0, .int 0, .ref (a 5), .ref (a 64), .ref (a 65), .ref (a 66)]))]) s.heap.size = A at hD ⊢
  have hA : ∀ q : Nat, s.heap.size ≤ q → A q := fun q h => by rw [← hAe]; exact Or.inr h
  have hS : va_S A s.heap s.heap [] := va_S.rf
  have hl := lv_entry ([.ref (a 4)]) (n := 1) (Nat.le_of_ble_eq_true rfl)
  rw [lg_entry_eq]
  generalize (lg_sl ([.ref (a 4)]) ++ List.replicate (1 - (lg_sl ([.ref (a 4)])).length) Slot.unset).toArray = ls at hl ⊢
  have hl : lv_has ls 1 [(0, .ref (a 4))] := hl
  refine lv_aload_n hx hb dX4_advance_0 rfl (lv_at hl 0 rfl) ?_
  refine va_get (D := (dC, dI)) (ci := 4) (v := .int 0) (C := RX4) (T := TX4) (N := 12) hx hb hts hiX4 hown hK hP 0 rfl rfl 4 (by decide) v_1 (fun _ h9 => h9) rfl dX4_advance_1 ?_
  refine lv_aload_n hx hb dX4_advance_4 rfl (lv_at hl 0 rfl) ?_
  refine va_get (D := (dC, dI)) (ci := 4) (v := .int 0) (C := RX4) (T := TX4) (N := 12) hx hb hts hiX4 hown hK hP 0 rfl rfl 3 (by decide) v_2 (fun _ h9 => h9) rfl dX4_advance_5 ?_
  refine lv_icmp_ge (tgt := 52) hx hb dX4_advance_8 (by decide) (fun _ => ?_) (fun z => absurd z (by decide))
  refine lv_aload_n hx hb dX4_advance_52 rfl (lv_at hl 0 rfl) ?_
  refine lv_aload_n hx hb dX4_advance_53 rfl (lv_at hl 0 rfl) ?_
  refine va_get (D := (dC, dI)) (ci := 4) (v := .int 0) (C := RX4) (T := TX4) (N := 12) hx hb hts hiX4 hown hK hP 0 rfl rfl 4 (by decide) v_1 (fun _ h9 => h9) rfl dX4_advance_54 ?_
  refine va_put (D := (dC, dI)) (ci := 4) (v := .int 0) (ty := .int) (C := RX4) (T := TX4) (N := 12) hx hb hts hiX4 tyX4 tyX4_ok nmX4 hown hK hP hD hS 0 rfl rfl 7 (by decide) v_3 (fun _ h9 => h9) rfl (by decide +kernel) rfl rfl (Nat.le_of_ble_eq_true rfl) dX4_advance_57 (fun H locs hP hD hS => ?_)
  have hP : va_P (dC, dI) vwCl [((a 4), .inr (4, [.int 0, .int (-1), .ref (a 6), .int 0, .int 0, .int 0, .int 0, .int 0, .ref (a 5), .ref (a 64), .ref (a 65), .ref (a 66)]))] H := hP
  have hD : va_D A [((a 4), .inr (4, [.int 0, .int (-1), .ref (a 6), .int 0, .int 0, .int 0, .int 0, .int 0, .ref (a 5), .ref (a 64), .ref (a 65), .ref (a 66)]))] := hD
  refine lv_aload_n hx hb dX4_advance_60 rfl (lv_at hl 0 rfl) ?_
  refine va_get (D := (dC, dI)) (ci := 4) (v := .int 0) (C := RX4) (T := TX4) (N := 12) hx hb hts hiX4 hown hK hP 0 rfl rfl 4 (by decide) v_1 (fun _ h9 => h9) rfl dX4_advance_61 ?_
  refine lv_aload_n hx hb dX4_advance_64 rfl (lv_at hl 0 rfl) ?_
  refine va_get (D := (dC, dI)) (ci := 4) (v := .int 0) (C := RX4) (T := TX4) (N := 12) hx hb hts hiX4 hown hK hP 0 rfl rfl 3 (by decide) v_2 (fun _ h9 => h9) rfl dX4_advance_65 ?_
  refine lv_icmp_lt (tgt := 79) hx hb dX4_advance_68 (by decide) (fun z => absurd z (by decide)) (fun _ => ?_)
  refine lv_aload_n hx hb dX4_advance_71 rfl (lv_at hl 0 rfl) ?_
  refine lv_iconst (v := 1) hx hb dX4_advance_72 (by decide) ?_
  refine va_put (D := (dC, dI)) (ci := 4) (v := .int 1) (ty := .int) (C := RX4) (T := TX4) (N := 12) hx hb hts hiX4 tyX4 tyX4_ok nmX4 hown hK hP hD hS 0 rfl rfl 5 (by decide) v_4 (fun _ h9 => h9) rfl (by decide +kernel) rfl rfl (Nat.le_of_ble_eq_true rfl) dX4_advance_73 (fun H locs hP hD hS => ?_)
  have hP : va_P (dC, dI) vwCl [((a 4), .inr (4, [.int 0, .int (-1), .ref (a 6), .int 0, .int 0, .int 1, .int 0, .int 0, .ref (a 5), .ref (a 64), .ref (a 65), .ref (a 66)]))] H := hP
  have hD : va_D A [((a 4), .inr (4, [.int 0, .int (-1), .ref (a 6), .int 0, .int 0, .int 1, .int 0, .int 0, .ref (a 5), .ref (a 64), .ref (a 65), .ref (a 66)]))] := hD
  refine lv_goto (tgt := 153) hx hb dX4_advance_76 (by decide) ?_
  have hP9 := hP.sub (ws' := [((a 4), .inr (4, [.int 0, .int (-1), .ref (a 6), .int 0, .int 0, .int 1, .int 0, .int 0, .ref (a 5), .ref (a 64), .ref (a 65), .ref (a 66)]))]) [0] rfl
  have hD9 := hD.sub (ws' := [((a 4), .inr (4, [.int 0, .int (-1), .ref (a 6), .int 0, .int 0, .int 1, .int 0, .int 0, .ref (a 5), .ref (a 64), .ref (a 65), .ref (a 66)]))]) [0] (by decide) rfl
  have hK9 := hK.sub (tys' := []) [] rfl
  exact W.vret hx hb hr (fun t ht hW => ⟨⟨(), rfl, trivial, ⟨by rw [ht]; exact hP9, va_K.moved hW.alike hK9, hD9⟩⟩, hS.F ht⟩) hS.2.2 dX4_advance_153
theorem dX4_refuse_0 : decode cX4_refuse 0 = .ok (.aload_n 0, 1) := by decide +kernel
theorem dX4_refuse_1 : decode cX4_refuse 1 = .ok (.iload_n 1, 1) := by decide +kernel
theorem dX4_refuse_2 : decode cX4_refuse 2 = .ok (.putfield 63, 3) := by decide +kernel
theorem dX4_refuse_5 : decode cX4_refuse 5 = .ok (.aload_n 0, 1) := by decide +kernel
theorem dX4_refuse_6 : decode cX4_refuse 6 = .ok (.aload_n 0, 1) := by decide +kernel
theorem dX4_refuse_7 : decode cX4_refuse 7 = .ok (.getfield 118, 3) := by decide +kernel
theorem dX4_refuse_10 : decode cX4_refuse 10 = .ok (.putfield 9, 3) := by decide +kernel
theorem dX4_refuse_13 : decode cX4_refuse 13 = .ok (.iconst 0, 1) := by decide +kernel
theorem dX4_refuse_14 : decode cX4_refuse 14 = .ok (.ireturn, 1) := by decide +kernel
def vs_X4_refuse : List Cond := .code yX4_refuse cX4_refuse 2 (some .boolean) :: ([.fieldLink RX4 63 "ClockReach$Reader" "fault" "I", .fieldLink RX4 118 "ClockReach$Reader" "tokenAt" "I", .fieldLink RX4 9 "ClockReach$Reader" "faultAt" "I"] ++ wsX40)
set_option maxHeartbeats 4000000 in
set_option maxRecDepth 100000 in
theorem c_X4_refuse (l : Launch) (dC : Nat → ClassId) (dI : Nat → Nat → Nat) (sz : Nat) (a : Nat → Nat) (k : Nat → ClassId) : Met l yX4_refuse vs_X4_refuse ({ frames := 0, cells := 0, slots := 0, locals := 0 }) (va_Pc [.ref (a 4), .int 6] (pu_B (dC, dI) [((a 4), .inr (4, [.int 0, .int (-1), .ref (a 6), .int 0, .int 0, .int 1, .int 0, .int 0, .ref (a 5), .ref (a 64), .ref (a 65), .ref (a 66)]))] [] sz)) (va_Qi (fun (r : Int32) (_ : Unit) => r = 0) (fun _ _ => True) (va_A ([((a 4), .inr (4, [.int 0, .int (-1), .ref (a 6), .int 0, .int 0, .int 1, .int 0, .int 0, .ref (a 5), .ref (a 64), .ref (a 65), .ref (a 66)]))]) sz)) 0 0 (va_A ([((a 4), .inr (4, [.int 0, .int (-1), .ref (a 6), .int 0, .int 0, .int 1, .int 0, .int 0, .ref (a 5), .ref (a 64), .ref (a 65), .ref (a 66)]))]) sz) := by
  refine Met.ofW (cc := cX4_refuse) (maxL := 2) (ret := (some .boolean)) (by decide) rfl ?_
  intro p e s m args below meth c s₁ B hml hv
  obtain ⟨rfl, rfl, hP, hK, hD0⟩ := hv
  have hx := B.exec
  have hb := B.bytes
  have hr := B.returns
  have hts := atoms_spec (ws := vs_X4_refuse) B.pre
  have v_1 := hts (.fieldLink RX4 63 "ClockReach$Reader" "fault" "I") (List.mem_of_getElem? (i := 1) rfl)
  have v_2 := hts (.fieldLink RX4 118 "ClockReach$Reader" "tokenAt" "I") (List.mem_of_getElem? (i := 2) rfl)
  have v_3 := hts (.fieldLink RX4 9 "ClockReach$Reader" "faultAt" "I") (List.mem_of_getElem? (i := 3) rfl)
  have hown : s.vm.findClass RX4 = some m.cls := findClass_of_methodNamed B.named
  have hlocks := B.notSynchronized
  have hiX4 : ∀ w ∈ wsX40, w ∈ vs_X4_refuse := fun _ h => List.mem_cons_of_mem _ (List.mem_append_right _ h)
  have hD := hD0.self (sz := s.heap.size)
  generalize hAe : va_A ([((a 4), .inr (4, [.int 0, .int (-1), .ref (a 6), .int 0, .int 0, .int 1, .int 0, .int 0, .ref (a 5), .ref (a 64), .ref (a 65), .ref (a 66)]))]) s.heap.size = A at hD ⊢
  have hA : ∀ q : Nat, s.heap.size ≤ q → A q := fun q h => by rw [← hAe]; exact Or.inr h
  have hS : va_S A s.heap s.heap [] := va_S.rf
  have hl := lv_entry ([.ref (a 4), .int 6]) (n := 2) (Nat.le_of_ble_eq_true rfl)
  rw [lg_entry_eq]
  generalize (lg_sl ([.ref (a 4), .int 6]) ++ List.replicate (2 - (lg_sl ([.ref (a 4), .int 6])).length) Slot.unset).toArray = ls at hl ⊢
  have hl : lv_has ls 2 [(0, .ref (a 4)), (1, .int 6)] := hl
  refine lv_aload_n hx hb dX4_refuse_0 rfl (lv_at hl 0 rfl) ?_
  refine lv_iload_n hx hb dX4_refuse_1 rfl (lv_at hl 1 rfl) ?_
  refine va_put (D := (dC, dI)) (ci := 4) (v := .int 6) (ty := .int) (C := RX4) (T := TX4) (N := 12) hx hb hts hiX4 tyX4 tyX4_ok nmX4 hown hK hP hD hS 0 rfl rfl 0 (by decide) v_1 (fun _ h9 => h9) rfl (by decide +kernel) rfl rfl (Nat.le_of_ble_eq_true rfl) dX4_refuse_2 (fun H locs hP hD hS => ?_)
  have hP : va_P (dC, dI) vwCl [((a 4), .inr (4, [.int 6, .int (-1), .ref (a 6), .int 0, .int 0, .int 1, .int 0, .int 0, .ref (a 5), .ref (a 64), .ref (a 65), .ref (a 66)]))] H := hP
  have hD : va_D A [((a 4), .inr (4, [.int 6, .int (-1), .ref (a 6), .int 0, .int 0, .int 1, .int 0, .int 0, .ref (a 5), .ref (a 64), .ref (a 65), .ref (a 66)]))] := hD
  refine lv_aload_n hx hb dX4_refuse_5 rfl (lv_at hl 0 rfl) ?_
  refine lv_aload_n hx hb dX4_refuse_6 rfl (lv_at hl 0 rfl) ?_
  refine va_get (D := (dC, dI)) (ci := 4) (v := .int 0) (C := RX4) (T := TX4) (N := 12) hx hb hts hiX4 hown hK hP 0 rfl rfl 7 (by decide) v_2 (fun _ h9 => h9) rfl dX4_refuse_7 ?_
  refine va_put (D := (dC, dI)) (ci := 4) (v := .int 0) (ty := .int) (C := RX4) (T := TX4) (N := 12) hx hb hts hiX4 tyX4 tyX4_ok nmX4 hown hK hP hD hS 0 rfl rfl 1 (by decide) v_3 (fun _ h9 => h9) rfl (by decide +kernel) rfl rfl (Nat.le_of_ble_eq_true rfl) dX4_refuse_10 (fun H locs hP hD hS => ?_)
  have hP : va_P (dC, dI) vwCl [((a 4), .inr (4, [.int 6, .int 0, .ref (a 6), .int 0, .int 0, .int 1, .int 0, .int 0, .ref (a 5), .ref (a 64), .ref (a 65), .ref (a 66)]))] H := hP
  have hD : va_D A [((a 4), .inr (4, [.int 6, .int 0, .ref (a 6), .int 0, .int 0, .int 1, .int 0, .int 0, .ref (a 5), .ref (a 64), .ref (a 65), .ref (a 66)]))] := hD
  refine lv_iconst (v := 0) hx hb dX4_refuse_13 (by decide) ?_
  exact W.zret (v := 0) (ty := .boolean) hx hb hr rfl (fun t ht hW => ⟨⟨0, (), rfl, by first | rfl | decide | simp_all, trivial⟩, hS.F ht⟩) hS.2.2 dX4_refuse_14
theorem dX4_reads_0 : decode cX4_reads 0 = .ok (.aload_n 0, 1) := by decide +kernel
theorem dX4_reads_1 : decode cX4_reads 1 = .ok (.aload_n 1, 1) := by decide +kernel
theorem dX4_reads_2 : decode cX4_reads 2 = .ok (.putfield 55, 3) := by decide +kernel
theorem dX4_reads_5 : decode cX4_reads 5 = .ok (.aload_n 0, 1) := by decide +kernel
theorem dX4_reads_6 : decode cX4_reads 6 = .ok (.iload_n 2, 1) := by decide +kernel
theorem dX4_reads_7 : decode cX4_reads 7 = .ok (.putfield 58, 3) := by decide +kernel
theorem dX4_reads_10 : decode cX4_reads 10 = .ok (.aload_n 0, 1) := by decide +kernel
theorem dX4_reads_11 : decode cX4_reads 11 = .ok (.iconst 0, 1) := by decide +kernel
theorem dX4_reads_12 : decode cX4_reads 12 = .ok (.putfield 60, 3) := by decide +kernel
theorem dX4_reads_15 : decode cX4_reads 15 = .ok (.aload_n 0, 1) := by decide +kernel
theorem dX4_reads_16 : decode cX4_reads 16 = .ok (.iconst 0, 1) := by decide +kernel
theorem dX4_reads_17 : decode cX4_reads 17 = .ok (.putfield 63, 3) := by decide +kernel
theorem dX4_reads_20 : decode cX4_reads 20 = .ok (.aload_n 0, 1) := by decide +kernel
theorem dX4_reads_21 : decode cX4_reads 21 = .ok (.iconst (-1), 1) := by decide +kernel
theorem dX4_reads_22 : decode cX4_reads 22 = .ok (.putfield 9, 3) := by decide +kernel
theorem dX4_reads_25 : decode cX4_reads 25 = .ok (.aload_n 0, 1) := by decide +kernel
theorem dX4_reads_26 : decode cX4_reads 26 = .ok (.aload_n 3, 1) := by decide +kernel
theorem dX4_reads_27 : decode cX4_reads 27 = .ok (.putfield 66, 3) := by decide +kernel
theorem dX4_reads_30 : decode cX4_reads 30 = .ok (.aload_n 0, 1) := by decide +kernel
theorem dX4_reads_31 : decode cX4_reads 31 = .ok (.getfield 66, 3) := by decide +kernel
theorem dX4_reads_34 : decode cX4_reads 34 = .ok (.invokevirtual 70, 3) := by decide +kernel
theorem dX4_reads_37 : decode cX4_reads 37 = .ok (.aload_n 0, 1) := by decide +kernel
theorem dX4_reads_38 : decode cX4_reads 38 = .ok (.invokevirtual 75, 3) := by decide +kernel
theorem dX4_reads_41 : decode cX4_reads 41 = .ok (.iconst 0, 1) := by decide +kernel
theorem dX4_reads_42 : decode cX4_reads 42 = .ok (.istore 4, 2) := by decide +kernel
theorem dX4_reads_44 : decode cX4_reads 44 = .ok (.iload 4, 2) := by decide +kernel
theorem dX4_reads_46 : decode cX4_reads 46 = .ok (.aload_n 0, 1) := by decide +kernel
theorem dX4_reads_47 : decode cX4_reads 47 = .ok (.getfield 58, 3) := by decide +kernel
theorem dX4_reads_50 : decode cX4_reads 50 = .ok (.if_icmp .gt 101, 3) := by decide +kernel
theorem dX4_reads_53 : decode cX4_reads 53 = .ok (.aload_n 0, 1) := by decide +kernel
theorem dX4_reads_54 : decode cX4_reads 54 = .ok (.getfield 78, 3) := by decide +kernel
theorem dX4_reads_57 : decode cX4_reads 57 = .ok (.iconst 1, 1) := by decide +kernel
theorem dX4_reads_58 : decode cX4_reads 58 = .ok (.if_icmp .eq 93, 3) := by decide +kernel
theorem dX4_reads_151 : decode cX4_reads 151 = .ok (.aload_n 0, 1) := by decide +kernel
theorem dX4_reads_152 : decode cX4_reads 152 = .ok (.getfield 66, 3) := by decide +kernel
theorem dX4_reads_155 : decode cX4_reads 155 = .ok (.getfield 100, 3) := by decide +kernel
theorem dX4_reads_158 : decode cX4_reads 158 = .ok (.ifCond .ne 10, 3) := by decide +kernel
theorem dX4_reads_161 : decode cX4_reads 161 = .ok (.aload_n 0, 1) := by decide +kernel
theorem dX4_reads_162 : decode cX4_reads 162 = .ok (.bipush 6, 2) := by decide +kernel
theorem dX4_reads_164 : decode cX4_reads 164 = .ok (.invokevirtual 103, 3) := by decide +kernel
theorem dX4_reads_167 : decode cX4_reads 167 = .ok (.ireturn, 1) := by decide +kernel
def vs_X4_reads : List Cond := .code yX4_reads cX4_reads 6 (some .boolean) :: ([.fieldLink RX4 55 "ClockReach$Reader" "text" "[I", .fieldLink RX4 58 "ClockReach$Reader" "length" "I", .fieldLink RX4 60 "ClockReach$Reader" "position" "I", .fieldLink RX4 63 "ClockReach$Reader" "fault" "I", .fieldLink RX4 9 "ClockReach$Reader" "faultAt" "I", .fieldLink RX4 66 "ClockReach$Reader" "into" "LClockReach$Automaton;", .methodLink RX4 70 yX0_clear, .instanceMethod yX0_clear, .selects RX0 yX0_clear yX0_clear, .initialized RX0, .code yX0_clear cX0_clear 2 none, .fieldLink RX0 56 "ClockReach$Automaton" "clocks" "I", .fieldLink RX0 59 "ClockReach$Automaton" "places" "I", .fieldLink RX0 62 "ClockReach$Automaton" "edges" "I", .fieldLink RX0 9 "ClockReach$Automaton" "start" "I", .fieldLink RX0 15 "ClockReach$Automaton" "hurried" "[Z", .fieldLink RX0 29 "ClockReach$Automaton" "counts" "[I", .methodLink RX4 75 yX4_advance, .instanceMethod yX4_advance, .selects RX4 yX4_advance yX4_advance, .initialized RX4, .code yX4_advance cX4_advance 1 none, .fieldLink RX4 118 "ClockReach$Reader" "tokenAt" "I", .fieldLink RX4 78 "ClockReach$Reader" "kind" "I", .fieldLink RX4 100 "ClockReach$Automaton" "places" "I", .methodLink RX4 103 yX4_refuse, .instanceMethod yX4_refuse, .selects RX4 yX4_refuse yX4_refuse, .code yX4_refuse cX4_refuse 2 (some .boolean)] ++ wsX40 ++ wsX00)
theorem g_X4_reads_X0_clear : GoodIn vs_X4_reads (wsV RX4 70 RX0 yX0_clear vs_X0_clear) := goodIn_r _ [7, 8, 9, 10, 11, 12, 13, 14, 15, 16, 17, 42, 43, 44, 45, 46, 47, 48, 49, 50, 51, 52, 53, 54, 55, 56, 57, 58] (by decide +kernel) (by decide +kernel)
theorem g_X4_reads_X4_advance : GoodIn vs_X4_reads (wsV RX4 75 RX4 yX4_advance vs_X4_advance) := goodIn_r _ [18, 19, 20, 21, 22, 3, 2, 23, 24, 30, 31, 32, 33, 34, 35, 36, 37, 38, 39, 40, 41] (by decide +kernel) (by decide +kernel)
theorem g_X4_reads_X4_refuse : GoodIn vs_X4_reads (wsV RX4 103 RX4 yX4_refuse vs_X4_refuse) := goodIn_r _ [26, 27, 28, 21, 29, 4, 23, 5, 30, 31, 32, 33, 34, 35, 36, 37, 38, 39, 40, 41] (by decide +kernel) (by decide +kernel)
set_option maxHeartbeats 4000000 in
set_option maxRecDepth 100000 in
theorem c_X4_reads (l : Launch) (dC : Nat → ClassId) (dI : Nat → Nat → Nat) (sz : Nat) (a : Nat → Nat) (k : Nat → ClassId) : Met l yX4_reads vs_X4_reads ({ frames := 1, cells := 0, slots := 0, locals := 21 }) (va_Pc [.ref (a 4), .ref (a 6), .int 0, .ref (a 5)] (pu_B (dC, dI) [((a 4), .inr (4, [.int 0, .int (-1), .null, .int 0, .int 0, .int 0, .int 0, .int 0, .null, .ref (a 64), .ref (a 65), .ref (a 66)])), ((a 5), .inr (0, [.int 0, .int 0, .int 0, .int (-1), .ref (a 8), .ref (a 41), .ref (a 42), .ref (a 43), .ref (a 9), .ref (a 44), .ref (a 45), .ref (a 46), .ref (a 47), .ref (a 48), .ref (a 49), .ref (a 50), .ref (a 51)])), ((a 8), .inl ((k 2), 8, .inl (fun _ => 0))), ((a 9), .inl ((k 3), 22, .inl (fun _ => 0)))] [(k 2, .boolean), (k 3, .int)] sz)) (va_Qi (fun (r : Int32) (_ : Unit) => r = 0) (fun _ _ => True) (va_A ([((a 4), .inr (4, [.int 0, .int (-1), .null, .int 0, .int 0, .int 0, .int 0, .int 0, .null, .ref (a 64), .ref (a 65), .ref (a 66)])), ((a 5), .inr (0, [.int 0, .int 0, .int 0, .int (-1), .ref (a 8), .ref (a 41), .ref (a 42), .ref (a 43), .ref (a 9), .ref (a 44), .ref (a 45), .ref (a 46), .ref (a 47), .ref (a 48), .ref (a 49), .ref (a 50), .ref (a 51)])), ((a 8), .inl ((k 2), 8, .inl (fun _ => 0))), ((a 9), .inl ((k 3), 22, .inl (fun _ => 0)))]) sz)) 0 0 (va_A ([((a 4), .inr (4, [.int 0, .int (-1), .null, .int 0, .int 0, .int 0, .int 0, .int 0, .null, .ref (a 64), .ref (a 65), .ref (a 66)])), ((a 5), .inr (0, [.int 0, .int 0, .int 0, .int (-1), .ref (a 8), .ref (a 41), .ref (a 42), .ref (a 43), .ref (a 9), .ref (a 44), .ref (a 45), .ref (a 46), .ref (a 47), .ref (a 48), .ref (a 49), .ref (a 50), .ref (a 51)])), ((a 8), .inl ((k 2), 8, .inl (fun _ => 0))), ((a 9), .inl ((k 3), 22, .inl (fun _ => 0)))]) sz) := by
  refine Met.ofW (cc := cX4_reads) (maxL := 6) (ret := (some .boolean)) (by decide) rfl ?_
  intro p e s m args below meth c s₁ B hml hv
  obtain ⟨rfl, rfl, hP, hK, hD0⟩ := hv
  have hx := B.exec
  have hb := B.bytes
  have hr := B.returns
  have hts := atoms_spec (ws := vs_X4_reads) B.pre
  have v_1 := hts (.fieldLink RX4 55 "ClockReach$Reader" "text" "[I") (List.mem_of_getElem? (i := 1) rfl)
  have v_2 := hts (.fieldLink RX4 58 "ClockReach$Reader" "length" "I") (List.mem_of_getElem? (i := 2) rfl)
  have v_3 := hts (.fieldLink RX4 60 "ClockReach$Reader" "position" "I") (List.mem_of_getElem? (i := 3) rfl)
  have v_4 := hts (.fieldLink RX4 63 "ClockReach$Reader" "fault" "I") (List.mem_of_getElem? (i := 4) rfl)
  have v_5 := hts (.fieldLink RX4 9 "ClockReach$Reader" "faultAt" "I") (List.mem_of_getElem? (i := 5) rfl)
  have v_6 := hts (.fieldLink RX4 66 "ClockReach$Reader" "into" "LClockReach$Automaton;") (List.mem_of_getElem? (i := 6) rfl)
  have v_24 := hts (.fieldLink RX4 78 "ClockReach$Reader" "kind" "I") (List.mem_of_getElem? (i := 24) rfl)
  have v_25 := hts (.fieldLink RX4 100 "ClockReach$Automaton" "places" "I") (List.mem_of_getElem? (i := 25) rfl)
  have hown : s.vm.findClass RX4 = some m.cls := findClass_of_methodNamed B.named
  have hlocks := B.notSynchronized
  have hiX0 : ∀ w ∈ wsX00, w ∈ vs_X4_reads := fun _ h => List.mem_cons_of_mem _ (List.mem_append_right _ h)
  have hiX4 : ∀ w ∈ wsX40, w ∈ vs_X4_reads := fun _ h => List.mem_cons_of_mem _ (List.mem_append_left _ (List.mem_append_right _ h))
  have hD := hD0.self (sz := s.heap.size)
  generalize hAe : va_A ([((a 4), .inr (4, [.int 0, .int (-1), .null, .int 0, .int 0, .int 0, .int 0, .int 0, .null, .ref (a 64), .ref (a 65), .ref (a 66)])), ((a 5), .inr (0, [.int 0, .int 0, .int 0, .int (-1), .ref (a 8), .ref (a 41), .ref (a 42), .ref (a 43), .ref (a 9), .ref (a 44), .ref (a 45), .ref (a 46), .ref (a 47), .ref (a 48), .ref (a 49), .ref (a 50), .ref (a 51)])), ((a 8), .inl ((k 2), 8, .inl (fun _ => 0))), ((a 9), .inl ((k 3), 22, .inl (fun _ => 0)))]) s.heap.size = A at hD ⊢
  have hA : ∀ q : Nat, s.heap.size ≤ q → A q := fun q h => by rw [← hAe]; exact Or.inr h
  have hS : va_S A s.heap s.heap [] := va_S.rf
  have hl := lv_entry ([.ref (a 4), .ref (a 6), .int 0, .ref (a 5)]) (n := 6) (Nat.le_of_ble_eq_true rfl)
  rw [lg_entry_eq]
  generalize (lg_sl ([.ref (a 4), .ref (a 6), .int 0, .ref (a 5)]) ++ List.replicate (6 - (lg_sl ([.ref (a 4), .ref (a 6), .int 0, .ref (a 5)])).length) Slot.unset).toArray = ls at hl ⊢
  have hl : lv_has ls 6 [(0, .ref (a 4)), (1, .ref (a 6)), (2, .int 0), (3, .ref (a 5))] := hl
  refine lv_aload_n hx hb dX4_reads_0 rfl (lv_at hl 0 rfl) ?_
  refine lv_aload_n hx hb dX4_reads_1 rfl (lv_at hl 1 rfl) ?_
  refine va_put (D := (dC, dI)) (ci := 4) (v := .ref (a 6)) (ty := .array .int) (C := RX4) (T := TX4) (N := 12) hx hb hts hiX4 tyX4 tyX4_ok nmX4 hown hK hP hD hS 0 rfl rfl 2 (by decide) v_1 (fun _ h9 => h9) rfl (by decide +kernel) rfl rfl (Nat.le_of_ble_eq_true rfl) dX4_reads_2 (fun H locs hP hD hS => ?_)
  have hP : va_P (dC, dI) vwCl [((a 4), .inr (4, [.int 0, .int (-1), .ref (a 6), .int 0, .int 0, .int 0, .int 0, .int 0, .null, .ref (a 64), .ref (a 65), .ref (a 66)])), ((a 5), .inr (0, [.int 0, .int 0, .int 0, .int (-1), .ref (a 8), .ref (a 41), .ref (a 42), .ref (a 43), .ref (a 9), .ref (a 44), .ref (a 45), .ref (a 46), .ref (a 47), .ref (a 48), .ref (a 49), .ref (a 50), .ref (a 51)])), ((a 8), .inl ((k 2), 8, .inl (fun _ => 0))), ((a 9), .inl ((k 3), 22, .inl (fun _ => 0)))] H := hP
  have hD : va_D A [((a 4), .inr (4, [.int 0, .int (-1), .ref (a 6), .int 0, .int 0, .int 0, .int 0, .int 0, .null, .ref (a 64), .ref (a 65), .ref (a 66)])), ((a 5), .inr (0, [.int 0, .int 0, .int 0, .int (-1), .ref (a 8), .ref (a 41), .ref (a 42), .ref (a 43), .ref (a 9), .ref (a 44), .ref (a 45), .ref (a 46), .ref (a 47), .ref (a 48), .ref (a 49), .ref (a 50), .ref (a 51)])), ((a 8), .inl ((k 2), 8, .inl (fun _ => 0))), ((a 9), .inl ((k 3), 22, .inl (fun _ => 0)))] := hD
  refine lv_aload_n hx hb dX4_reads_5 rfl (lv_at hl 0 rfl) ?_
  refine lv_iload_n hx hb dX4_reads_6 rfl (lv_at hl 2 rfl) ?_
  refine va_put (D := (dC, dI)) (ci := 4) (v := .int 0) (ty := .int) (C := RX4) (T := TX4) (N := 12) hx hb hts hiX4 tyX4 tyX4_ok nmX4 hown hK hP hD hS 0 rfl rfl 3 (by decide) v_2 (fun _ h9 => h9) rfl (by decide +kernel) rfl rfl (Nat.le_of_ble_eq_true rfl) dX4_reads_7 (fun H locs hP hD hS => ?_)
  have hP : va_P (dC, dI) vwCl [((a 4), .inr (4, [.int 0, .int (-1), .ref (a 6), .int 0, .int 0, .int 0, .int 0, .int 0, .null, .ref (a 64), .ref (a 65), .ref (a 66)])), ((a 5), .inr (0, [.int 0, .int 0, .int 0, .int (-1), .ref (a 8), .ref (a 41), .ref (a 42), .ref (a 43), .ref (a 9), .ref (a 44), .ref (a 45), .ref (a 46), .ref (a 47), .ref (a 48), .ref (a 49), .ref (a 50), .ref (a 51)])), ((a 8), .inl ((k 2), 8, .inl (fun _ => 0))), ((a 9), .inl ((k 3), 22, .inl (fun _ => 0)))] H := hP
  have hD : va_D A [((a 4), .inr (4, [.int 0, .int (-1), .ref (a 6), .int 0, .int 0, .int 0, .int 0, .int 0, .null, .ref (a 64), .ref (a 65), .ref (a 66)])), ((a 5), .inr (0, [.int 0, .int 0, .int 0, .int (-1), .ref (a 8), .ref (a 41), .ref (a 42), .ref (a 43), .ref (a 9), .ref (a 44), .ref (a 45), .ref (a 46), .ref (a 47), .ref (a 48), .ref (a 49), .ref (a 50), .ref (a 51)])), ((a 8), .inl ((k 2), 8, .inl (fun _ => 0))), ((a 9), .inl ((k 3), 22, .inl (fun _ => 0)))] := hD
  refine lv_aload_n hx hb dX4_reads_10 rfl (lv_at hl 0 rfl) ?_
  refine lv_iconst (v := 0) hx hb dX4_reads_11 (by decide) ?_
  refine va_put (D := (dC, dI)) (ci := 4) (v := .int 0) (ty := .int) (C := RX4) (T := TX4) (N := 12) hx hb hts hiX4 tyX4 tyX4_ok nmX4 hown hK hP hD hS 0 rfl rfl 4 (by decide) v_3 (fun _ h9 => h9) rfl (by decide +kernel) rfl rfl (Nat.le_of_ble_eq_true rfl) dX4_reads_12 (fun H locs hP hD hS => ?_)
  have hP : va_P (dC, dI) vwCl [((a 4), .inr (4, [.int 0, .int (-1), .ref (a 6), .int 0, .int 0, .int 0, .int 0, .int 0, .null, .ref (a 64), .ref (a 65), .ref (a 66)])), ((a 5), .inr (0, [.int 0, .int 0, .int 0, .int (-1), .ref (a 8), .ref (a 41), .ref (a 42), .ref (a 43), .ref (a 9), .ref (a 44), .ref (a 45), .ref (a 46), .ref (a 47), .ref (a 48), .ref (a 49), .ref (a 50), .ref (a 51)])), ((a 8), .inl ((k 2), 8, .inl (fun _ => 0))), ((a 9), .inl ((k 3), 22, .inl (fun _ => 0)))] H := hP
  have hD : va_D A [((a 4), .inr (4, [.int 0, .int (-1), .ref (a 6), .int 0, .int 0, .int 0, .int 0, .int 0, .null, .ref (a 64), .ref (a 65), .ref (a 66)])), ((a 5), .inr (0, [.int 0, .int 0, .int 0, .int (-1), .ref (a 8), .ref (a 41), .ref (a 42), .ref (a 43), .ref (a 9), .ref (a 44), .ref (a 45), .ref (a 46), .ref (a 47), .ref (a 48), .ref (a 49), .ref (a 50), .ref (a 51)])), ((a 8), .inl ((k 2), 8, .inl (fun _ => 0))), ((a 9), .inl ((k 3), 22, .inl (fun _ => 0)))] := hD
  refine lv_aload_n hx hb dX4_reads_15 rfl (lv_at hl 0 rfl) ?_
  refine lv_iconst (v := 0) hx hb dX4_reads_16 (by decide) ?_
  refine va_put (D := (dC, dI)) (ci := 4) (v := .int 0) (ty := .int) (C := RX4) (T := TX4) (N := 12) hx hb hts hiX4 tyX4 tyX4_ok nmX4 hown hK hP hD hS 0 rfl rfl 0 (by decide) v_4 (fun _ h9 => h9) rfl (by decide +kernel) rfl rfl (Nat.le_of_ble_eq_true rfl) dX4_reads_17 (fun H locs hP hD hS => ?_)
  have hP : va_P (dC, dI) vwCl [((a 4), .inr (4, [.int 0, .int (-1), .ref (a 6), .int 0, .int 0, .int 0, .int 0, .int 0, .null, .ref (a 64), .ref (a 65), .ref (a 66)])), ((a 5), .inr (0, [.int 0, .int 0, .int 0, .int (-1), .ref (a 8), .ref (a 41), .ref (a 42), .ref (a 43), .ref (a 9), .ref (a 44), .ref (a 45), .ref (a 46), .ref (a 47), .ref (a 48), .ref (a 49), .ref (a 50), .ref (a 51)])), ((a 8), .inl ((k 2), 8, .inl (fun _ => 0))), ((a 9), .inl ((k 3), 22, .inl (fun _ => 0)))] H := hP
  have hD : va_D A [((a 4), .inr (4, [.int 0, .int (-1), .ref (a 6), .int 0, .int 0, .int 0, .int 0, .int 0, .null, .ref (a 64), .ref (a 65), .ref (a 66)])), ((a 5), .inr (0, [.int 0, .int 0, .int 0, .int (-1), .ref (a 8), .ref (a 41), .ref (a 42), .ref (a 43), .ref (a 9), .ref (a 44), .ref (a 45), .ref (a 46), .ref (a 47), .ref (a 48), .ref (a 49), .ref (a 50), .ref (a 51)])), ((a 8), .inl ((k 2), 8, .inl (fun _ => 0))), ((a 9), .inl ((k 3), 22, .inl (fun _ => 0)))] := hD
  refine lv_aload_n hx hb dX4_reads_20 rfl (lv_at hl 0 rfl) ?_
  refine lv_iconst (v := (-1)) hx hb dX4_reads_21 (by decide) ?_
  refine va_put (D := (dC, dI)) (ci := 4) (v := .int (-1)) (ty := .int) (C := RX4) (T := TX4) (N := 12) hx hb hts hiX4 tyX4 tyX4_ok nmX4 hown hK hP hD hS 0 rfl rfl 1 (by decide) v_5 (fun _ h9 => h9) rfl (by decide +kernel) rfl rfl (Nat.le_of_ble_eq_true rfl) dX4_reads_22 (fun H locs hP hD hS => ?_)
  have hP : va_P (dC, dI) vwCl [((a 4), .inr (4, [.int 0, .int (-1), .ref (a 6), .int 0, .int 0, .int 0, .int 0, .int 0, .null, .ref (a 64), .ref (a 65), .ref (a 66)])), ((a 5), .inr (0, [.int 0, .int 0, .int 0, .int (-1), .ref (a 8), .ref (a 41), .ref (a 42), .ref (a 43), .ref (a 9), .ref (a 44), .ref (a 45), .ref (a 46), .ref (a 47), .ref (a 48), .ref (a 49), .ref (a 50), .ref (a 51)])), ((a 8), .inl ((k 2), 8, .inl (fun _ => 0))), ((a 9), .inl ((k 3), 22, .inl (fun _ => 0)))] H := hP
  have hD : va_D A [((a 4), .inr (4, [.int 0, .int (-1), .ref (a 6), .int 0, .int 0, .int 0, .int 0, .int 0, .null, .ref (a 64), .ref (a 65), .ref (a 66)])), ((a 5), .inr (0, [.int 0, .int 0, .int 0, .int (-1), .ref (a 8), .ref (a 41), .ref (a 42), .ref (a 43), .ref (a 9), .ref (a 44), .ref (a 45), .ref (a 46), .ref (a 47), .ref (a 48), .ref (a 49), .ref (a 50), .ref (a 51)])), ((a 8), .inl ((k 2), 8, .inl (fun _ => 0))), ((a 9), .inl ((k 3), 22, .inl (fun _ => 0)))] := hD
  refine lv_aload_n hx hb dX4_reads_25 rfl (lv_at hl 0 rfl) ?_
  refine lv_aload_n hx hb dX4_reads_26 rfl (lv_at hl 3 rfl) ?_
  refine va_put (D := (dC, dI)) (ci := 4) (v := .ref (a 5)) (ty := .object "ClockReach$Automaton") (C := RX4) (T := TX4) (N := 12) hx hb hts hiX4 tyX4 tyX4_ok nmX4 hown hK hP hD hS 0 rfl rfl 8 (by decide) v_6 (fun _ h9 => h9) rfl (by decide +kernel) rfl rfl (Nat.le_of_ble_eq_true rfl) dX4_reads_27 (fun H locs hP hD hS => ?_)
  have hP : va_P (dC, dI) vwCl [((a 4), .inr (4, [.int 0, .int (-1), .ref (a 6), .int 0, .int 0, .int 0, .int 0, .int 0, .ref (a 5), .ref (a 64), .ref (a 65), .ref (a 66)])), ((a 5), .inr (0, [.int 0, .int 0, .int 0, .int (-1), .ref (a 8), .ref (a 41), .ref (a 42), .ref (a 43), .ref (a 9), .ref (a 44), .ref (a 45), .ref (a 46), .ref (a 47), .ref (a 48), .ref (a 49), .ref (a 50), .ref (a 51)])), ((a 8), .inl ((k 2), 8, .inl (fun _ => 0))), ((a 9), .inl ((k 3), 22, .inl (fun _ => 0)))] H := hP
  have hD : va_D A [((a 4), .inr (4, [.int 0, .int (-1), .ref (a 6), .int 0, .int 0, .int 0, .int 0, .int 0, .ref (a 5), .ref (a 64), .ref (a 65), .ref (a 66)])), ((a 5), .inr (0, [.int 0, .int 0, .int 0, .int (-1), .ref (a 8), .ref (a 41), .ref (a 42), .ref (a 43), .ref (a 9), .ref (a 44), .ref (a 45), .ref (a 46), .ref (a 47), .ref (a 48), .ref (a 49), .ref (a 50), .ref (a 51)])), ((a 8), .inl ((k 2), 8, .inl (fun _ => 0))), ((a 9), .inl ((k 3), 22, .inl (fun _ => 0)))] := hD
  refine lv_aload_n hx hb dX4_reads_30 rfl (lv_at hl 0 rfl) ?_
  refine va_get (D := (dC, dI)) (ci := 4) (v := .ref (a 5)) (C := RX4) (T := TX4) (N := 12) hx hb hts hiX4 hown hK hP 0 rfl rfl 8 (by decide) v_6 (fun _ h9 => h9) rfl dX4_reads_31 ?_
  have hFc := va_free (wc := [((a 5), .inr (0, [.int 0, .int 0, .int 0, .int (-1), .ref (a 8), .ref (a 41), .ref (a 42), .ref (a 43), .ref (a 9), .ref (a 44), .ref (a 45), .ref (a 46), .ref (a 47), .ref (a 48), .ref (a 49), .ref (a 50), .ref (a 51)])), ((a 8), .inl ((k 2), 8, .inl (fun _ => 0))), ((a 9), .inl ((k 3), 22, .inl (fun _ => 0)))]) hD hS hA [1, 2, 3] rfl
  refine va_callv (va_runV (As := []) (rest := []) ⟨hx, hb, hml, hown, hts⟩ (c_X0_clear l dC dI _ a k) (cwV 0 hts g_X4_reads_X0_clear rfl rfl rfl (by decide +kernel) ⟨Nat.le_of_ble_eq_true rfl, Nat.le_of_ble_eq_true rfl⟩) ⟨pu_bl, va_recv hK hP (ci := 0) (q0 := 1) rfl rfl, pu_in (hP.sub [1, 2, 3] rfl) hK (hD.sub [1, 2, 3] (by decide) rfl)⟩ rfl rfl hl.1 rfl (lv_room (Nat.le_of_ble_eq_true rfl)) dX4_reads_34 ⟨Nat.le_of_ble_eq_true rfl, Nat.le_of_ble_eq_true rfl⟩) hS (fun q _ h => hFc q h) hFc (fun u t H1 locs ht hvm hw hB hz1 hk1 hS => ?_)
  obtain ⟨hP1, hK1, hD1⟩ := hB
  rw [ht] at hP1
  have hK1 := va_K.moved hvm.symm hK1
  obtain ⟨hP, hD⟩ := va_join (wr := [((a 4), .inr (4, [.int 0, .int (-1), .ref (a 6), .int 0, .int 0, .int 0, .int 0, .int 0, .ref (a 5), .ref (a 64), .ref (a 65), .ref (a 66)]))]) (w1 := [((a 5), .inr (0, [.int 0, .int 0, .int 0, .int (-1), .ref (a 8), .ref (a 41), .ref (a 42), .ref (a 43), .ref (a 9), .ref (a 44), .ref (a 45), .ref (a 46), .ref (a 47), .ref (a 48), .ref (a 49), .ref (a 50), .ref (a 51)]))]) hP hD [1, 2, 3] [0] rfl rfl (by decide) (by decide) hk1 hFc hP1 hD1
  clear hk1 hz1 ht hvm
  generalize H1 = H at hP hS ⊢
  have hP : va_P (dC, dI) vwCl [((a 4), .inr (4, [.int 0, .int (-1), .ref (a 6), .int 0, .int 0, .int 0, .int 0, .int 0, .ref (a 5), .ref (a 64), .ref (a 65), .ref (a 66)])), ((a 5), .inr (0, [.int 0, .int 0, .int 0, .int (-1), .ref (a 8), .ref (a 41), .ref (a 42), .ref (a 43), .ref (a 9), .ref (a 44), .ref (a 45), .ref (a 46), .ref (a 47), .ref (a 48), .ref (a 49), .ref (a 50), .ref (a 51)]))] H := hP
  have hD : va_D A [((a 4), .inr (4, [.int 0, .int (-1), .ref (a 6), .int 0, .int 0, .int 0, .int 0, .int 0, .ref (a 5), .ref (a 64), .ref (a 65), .ref (a 66)])), ((a 5), .inr (0, [.int 0, .int 0, .int 0, .int (-1), .ref (a 8), .ref (a 41), .ref (a 42), .ref (a 43), .ref (a 9), .ref (a 44), .ref (a 45), .ref (a 46), .ref (a 47), .ref (a 48), .ref (a 49), .ref (a 50), .ref (a 51)]))] := hD
  have hK : va_K (dC, dI) vwCl [(k 2, .boolean), (k 3, .int)] s := hK
  refine lv_aload_n hx hb dX4_reads_37 rfl (lv_at hl 0 rfl) ?_
  have hFc := va_free (wc := [((a 4), .inr (4, [.int 0, .int (-1), .ref (a 6), .int 0, .int 0, .int 0, .int 0, .int 0, .ref (a 5), .ref (a 64), .ref (a 65), .ref (a 66)]))]) hD hS hA [0] rfl
  refine va_callv (va_runV (As := []) (rest := []) ⟨hx, hb, hml, hown, hts⟩ (c_X4_advance l dC dI _ a k) (cwV 0 hts g_X4_reads_X4_advance rfl rfl rfl (by decide +kernel) ⟨Nat.le_of_ble_eq_true rfl, Nat.le_of_ble_eq_true rfl⟩) ⟨pu_bl, va_recv hK hP (ci := 4) (q0 := 0) rfl rfl, pu_in (hP.sub [0] rfl) (hK.sub [] rfl) (hD.sub [0] (by decide) rfl)⟩ rfl rfl hl.1 rfl (lv_room (Nat.le_of_ble_eq_true rfl)) dX4_reads_38 ⟨Nat.le_of_ble_eq_true rfl, Nat.le_of_ble_eq_true rfl⟩) hS (fun q _ h => hFc q h) hFc (fun u t H1 locs ht hvm hw hB hz1 hk1 hS => ?_)
  obtain ⟨hP1, hK1, hD1⟩ := hB
  rw [ht] at hP1
  have hK1 := va_K.moved hvm.symm hK1
  obtain ⟨hP, hD⟩ := va_join (wr := [((a 5), .inr (0, [.int 0, .int 0, .int 0, .int (-1), .ref (a 8), .ref (a 41), .ref (a 42), .ref (a 43), .ref (a 9), .ref (a 44), .ref (a 45), .ref (a 46), .ref (a 47), .ref (a 48), .ref (a 49), .ref (a 50), .ref (a 51)]))]) (w1 := [((a 4), .inr (4, [.int 0, .int (-1), .ref (a 6), .int 0, .int 0, .int 1, .int 0, .int 0, .ref (a 5), .ref (a 64), .ref (a 65), .ref (a 66)]))]) hP hD [0] [1] rfl rfl (by decide) (by decide) hk1 hFc hP1 hD1
  clear hk1 hz1 ht hvm
  generalize H1 = H at hP hS ⊢
  have hP : va_P (dC, dI) vwCl [((a 5), .inr (0, [.int 0, .int 0, .int 0, .int (-1), .ref (a 8), .ref (a 41), .ref (a 42), .ref (a 43), .ref (a 9), .ref (a 44), .ref (a 45), .ref (a 46), .ref (a 47), .ref (a 48), .ref (a 49), .ref (a 50), .ref (a 51)])), ((a 4), .inr (4, [.int 0, .int (-1), .ref (a 6), .int 0, .int 0, .int 1, .int 0, .int 0, .ref (a 5), .ref (a 64), .ref (a 65), .ref (a 66)]))] H := hP
  have hD : va_D A [((a 5), .inr (0, [.int 0, .int 0, .int 0, .int (-1), .ref (a 8), .ref (a 41), .ref (a 42), .ref (a 43), .ref (a 9), .ref (a 44), .ref (a 45), .ref (a 46), .ref (a 47), .ref (a 48), .ref (a 49), .ref (a 50), .ref (a 51)])), ((a 4), .inr (4, [.int 0, .int (-1), .ref (a 6), .int 0, .int 0, .int 1, .int 0, .int 0, .ref (a 5), .ref (a 64), .ref (a 65), .ref (a 66)]))] := hD
  have hK : va_K (dC, dI) vwCl [(k 2, .boolean), (k 3, .int)] s := hK
  refine lv_iconst (v := 0) hx hb dX4_reads_41 (by decide) ?_
  refine lv_istore (lv' := [(4, .int 0), (0, .ref (a 4)), (1, .ref (a 6)), (2, .int 0), (3, .ref (a 5))]) hx hb dX4_reads_42 hl (by decide) rfl (fun ls hl => ?_)
  refine lv_iload hx hb dX4_reads_44 (lv_at hl 0 rfl) ?_
  refine lv_aload_n hx hb dX4_reads_46 rfl (lv_at hl 1 rfl) ?_
  refine va_get (D := (dC, dI)) (ci := 4) (v := .int 0) (C := RX4) (T := TX4) (N := 12) hx hb hts hiX4 hown hK hP 1 rfl rfl 3 (by decide) v_2 (fun _ h9 => h9) rfl dX4_reads_47 ?_
  refine lv_icmp_gt (tgt := 151) hx hb dX4_reads_50 (by decide) (fun z => absurd z (by decide)) (fun _ => ?_)
  refine lv_aload_n hx hb dX4_reads_53 rfl (lv_at hl 1 rfl) ?_
  refine va_get (D := (dC, dI)) (ci := 4) (v := .int 1) (C := RX4) (T := TX4) (N := 12) hx hb hts hiX4 hown hK hP 1 rfl rfl 5 (by decide) v_24 (fun _ h9 => h9) rfl dX4_reads_54 ?_
  refine lv_iconst (v := 1) hx hb dX4_reads_57 (by decide) ?_
  refine lv_icmp_eq (tgt := 151) hx hb dX4_reads_58 (by decide) (fun _ => ?_) (fun z => absurd z (by decide))
  refine lv_aload_n hx hb dX4_reads_151 rfl (lv_at hl 1 rfl) ?_
  refine va_get (D := (dC, dI)) (ci := 4) (v := .ref (a 5)) (C := RX4) (T := TX4) (N := 12) hx hb hts hiX4 hown hK hP 1 rfl rfl 8 (by decide) v_6 (fun _ h9 => h9) rfl dX4_reads_152 ?_
  refine va_get (D := (dC, dI)) (ci := 0) (v := .int 0) (C := RX0) (T := TX0) (N := 17) hx hb hts hiX0 hown hK hP 0 rfl rfl 1 (by decide) v_25 (fun _ h9 => h9) rfl dX4_reads_155 ?_
  refine lv_if_ne (tgt := 168) hx hb dX4_reads_158 (by decide) (fun z => absurd z (by decide)) (fun _ => ?_)
  refine lv_aload_n hx hb dX4_reads_161 rfl (lv_at hl 1 rfl) ?_
  refine lv_bipush (v := 6) hx hb dX4_reads_162 (by decide) ?_
  have hFc := va_free (wc := [((a 4), .inr (4, [.int 0, .int (-1), .ref (a 6), .int 0, .int 0, .int 1, .int 0, .int 0, .ref (a 5), .ref (a 64), .ref (a 65), .ref (a 66)]))]) hD hS hA [1] rfl
  refine va_calli (va_runV (As := [.int 6]) (rest := []) ⟨hx, hb, hml, hown, hts⟩ (c_X4_refuse l dC dI _ a k) (cwV 1 hts g_X4_reads_X4_refuse rfl rfl rfl (by decide +kernel) ⟨Nat.le_of_ble_eq_true rfl, Nat.le_of_ble_eq_true rfl⟩) ⟨pu_bl, va_recv hK hP (ci := 4) (q0 := 1) rfl rfl, pu_in (hP.sub [1] rfl) (hK.sub [] rfl) (hD.sub [1] (by decide) rfl)⟩ rfl rfl hl.1 rfl (lv_room (Nat.le_of_ble_eq_true rfl)) dX4_reads_164 ⟨Nat.le_of_ble_eq_true rfl, Nat.le_of_ble_eq_true rfl⟩) hS (fun q _ h => hFc q h) hFc (fun r_3 u t H1 locs ht hvm hw hB hz1 hk1 hS => ?_)
  obtain ⟨hP, hD⟩ := va_join (wr := [((a 5), .inr (0, [.int 0, .int 0, .int 0, .int (-1), .ref (a 8), .ref (a 41), .ref (a 42), .ref (a 43), .ref (a 9), .ref (a 44), .ref (a 45), .ref (a 46), .ref (a 47), .ref (a 48), .ref (a 49), .ref (a 50), .ref (a 51)]))]) (w1 := []) hP hD [1] [0] rfl rfl (by decide) (by decide) hk1 hFc pu_P0 pu_D0
  clear hk1 hz1 ht hvm
  generalize H1 = H at hP hS ⊢
  have hP : va_P (dC, dI) vwCl [((a 5), .inr (0, [.int 0, .int 0, .int 0, .int (-1), .ref (a 8), .ref (a 41), .ref (a 42), .ref (a 43), .ref (a 9), .ref (a 44), .ref (a 45), .ref (a 46), .ref (a 47), .ref (a 48), .ref (a 49), .ref (a 50), .ref (a 51)]))] H := hP
  have hD : va_D A [((a 5), .inr (0, [.int 0, .int 0, .int 0, .int (-1), .ref (a 8), .ref (a 41), .ref (a 42), .ref (a 43), .ref (a 9), .ref (a 44), .ref (a 45), .ref (a 46), .ref (a 47), .ref (a 48), .ref (a 49), .ref (a 50), .ref (a 51)]))] := hD
  obtain rfl : r_3 = 0 := hw
  exact W.zret (v := 0) (ty := .boolean) hx hb hr rfl (fun t ht hW => ⟨⟨0, (), rfl, by first | rfl | decide | simp_all, trivial⟩, hS.F ht⟩) hS.2.2 dX4_reads_167
theorem dX8_automaton_0 : decode cX8_automaton 0 = .ok (.aload_n 0, 1) := by decide +kernel
theorem dX8_automaton_1 : decode cX8_automaton 1 = .ok (.getfield 16, 3) := by decide +kernel
theorem dX8_automaton_4 : decode cX8_automaton 4 = .ok (.aload_n 0, 1) := by decide +kernel
theorem dX8_automaton_5 : decode cX8_automaton 5 = .ok (.getfield 9, 3) := by decide +kernel
theorem dX8_automaton_8 : decode cX8_automaton 8 = .ok (.aload_n 0, 1) := by decide +kernel
theorem dX8_automaton_9 : decode cX8_automaton 9 = .ok (.getfield 79, 3) := by decide +kernel
theorem dX8_automaton_12 : decode cX8_automaton 12 = .ok (.aload_n 0, 1) := by decide +kernel
theorem dX8_automaton_13 : decode cX8_automaton 13 = .ok (.getfield 27, 3) := by decide +kernel
theorem dX8_automaton_16 : decode cX8_automaton 16 = .ok (.invokevirtual 87, 3) := by decide +kernel
theorem dX8_automaton_19 : decode cX8_automaton 19 = .ok (.istore_n 1, 1) := by decide +kernel
theorem dX8_automaton_20 : decode cX8_automaton 20 = .ok (.aload_n 0, 1) := by decide +kernel
theorem dX8_automaton_21 : decode cX8_automaton 21 = .ok (.iconst 0, 1) := by decide +kernel
theorem dX8_automaton_22 : decode cX8_automaton 22 = .ok (.putfield 79, 3) := by decide +kernel
theorem dX8_automaton_25 : decode cX8_automaton 25 = .ok (.iload_n 1, 1) := by decide +kernel
theorem dX8_automaton_26 : decode cX8_automaton 26 = .ok (.ifCond .ne 5, 3) := by decide +kernel
theorem dX8_automaton_29 : decode cX8_automaton 29 = .ok (.iconst (-1), 1) := by decide +kernel
theorem dX8_automaton_30 : decode cX8_automaton 30 = .ok (.ireturn, 1) := by decide +kernel
def vs_X8_automaton : List Cond := .code yX8_automaton cX8_automaton 3 (some .int) :: ([.fieldLink RX8 16 "ClockReach" "reader" "LClockReach$Reader;", .fieldLink RX8 9 "ClockReach" "tape" "[I", .fieldLink RX8 79 "ClockReach" "taped" "I", .fieldLink RX8 27 "ClockReach" "draft" "LClockReach$Automaton;", .methodLink RX8 87 yX4_reads, .instanceMethod yX4_reads, .selects RX4 yX4_reads yX4_reads, .initialized RX4, .code yX4_reads cX4_reads 6 (some .boolean), .fieldLink RX4 55 "ClockReach$Reader" "text" "[I", .fieldLink RX4 58 "ClockReach$Reader" "length" "I", .fieldLink RX4 60 "ClockReach$Reader" "position" "I", .fieldLink RX4 63 "ClockReach$Reader" "fault" "I", .fieldLink RX4 9 "ClockReach$Reader" "faultAt" "I", .fieldLink RX4 66 "ClockReach$Reader" "into" "LClockReach$Automaton;", .methodLink RX4 70 yX0_clear, .instanceMethod yX0_clear, .selects RX0 yX0_clear yX0_clear, .initialized RX0, .code yX0_clear cX0_clear 2 none, .fieldLink RX0 56 "ClockReach$Automaton" "clocks" "I", .fieldLink RX0 59 "ClockReach$Automaton" "places" "I", .fieldLink RX0 62 "ClockReach$Automaton" "edges" "I", .fieldLink RX0 9 "ClockReach$Automaton" "start" "I", .fieldLink RX0 15 "ClockReach$Automaton" "hurried" "[Z", .fieldLink RX0 29 "ClockReach$Automaton" "counts" "[I", .methodLink RX4 75 yX4_advance, .instanceMethod yX4_advance, .selects RX4 yX4_advance yX4_advance, .code yX4_advance cX4_advance 1 none, .fieldLink RX4 118 "ClockReach$Reader" "tokenAt" "I", .fieldLink RX4 78 "ClockReach$Reader" "kind" "I", .fieldLink RX4 100 "ClockReach$Automaton" "places" "I", .methodLink RX4 103 yX4_refuse, .instanceMethod yX4_refuse, .selects RX4 yX4_refuse yX4_refuse, .code yX4_refuse cX4_refuse 2 (some .boolean)] ++ wsX80 ++ wsX40 ++ wsX00)
theorem g_X8_automaton_X4_reads : GoodIn vs_X8_automaton (wsV RX8 87 RX4 yX4_reads vs_X4_reads) := goodIn_r _ [5, 6, 7, 8, 9, 10, 11, 12, 13, 14, 15, 16, 17, 18, 19, 20, 21, 22, 23, 24, 25, 26, 27, 28, 29, 8, 30, 31, 32, 33, 34, 35, 36, 37, 54, 55, 56, 57, 58, 59, 60, 61, 62, 63, 64, 65, 66, 67, 68, 69, 70, 71, 72, 73, 74, 75, 76, 77, 78, 79, 80, 81, 82] (by decide +kernel) (by decide +kernel)
set_option maxHeartbeats 4000000 in
set_option maxRecDepth 100000 in
theorem c_X8_automaton (l : Launch) (dC : Nat → ClassId) (dI : Nat → Nat → Nat) (sz : Nat) (a : Nat → Nat) (k : Nat → ClassId) : Met l yX8_automaton vs_X8_automaton ({ frames := 2, cells := 0, slots := 0, locals := 46 }) (va_Pc [.ref (a 0)] (pu_B (dC, dI) (wX a k) (tX k) sz)) (va_Qi (fun (r : Int32) (_ : Unit) => r = -1) (fun _ _ => True) (va_A (wX a k) sz)) 0 0 (va_A (wX a k) sz) := by
  refine Met.ofW (cc := cX8_automaton) (maxL := 3) (ret := (some .int)) (by decide) rfl ?_
  intro p e s m args below meth c s₁ B hml hv
  obtain ⟨rfl, rfl, hP, hK, hD0⟩ := hv
  have hx := B.exec
  have hb := B.bytes
  have hr := B.returns
  have hts := atoms_spec (ws := vs_X8_automaton) B.pre
  have v_1 := hts (.fieldLink RX8 16 "ClockReach" "reader" "LClockReach$Reader;") (List.mem_of_getElem? (i := 1) rfl)
  have v_2 := hts (.fieldLink RX8 9 "ClockReach" "tape" "[I") (List.mem_of_getElem? (i := 2) rfl)
  have v_3 := hts (.fieldLink RX8 79 "ClockReach" "taped" "I") (List.mem_of_getElem? (i := 3) rfl)
  have v_4 := hts (.fieldLink RX8 27 "ClockReach" "draft" "LClockReach$Automaton;") (List.mem_of_getElem? (i := 4) rfl)
  have hown : s.vm.findClass RX8 = some m.cls := findClass_of_methodNamed B.named
  have hlocks := B.notSynchronized
  have hiX8 : ∀ w ∈ wsX80, w ∈ vs_X8_automaton := fun _ h => List.mem_cons_of_mem _ (List.mem_append_left _ (List.mem_append_left _ (List.mem_append_right _ h)))
  have hD := hD0.self (sz := s.heap.size)
  generalize hAe : va_A (wX a k) s.heap.size = A at hD ⊢
  have hA : ∀ q : Nat, s.heap.size ≤ q → A q := fun q h => by rw [← hAe]; exact Or.inr h
  have hS : va_S A s.heap s.heap [] := va_S.rf
  have hl := lv_entry ([.ref (a 0)]) (n := 3) (Nat.le_of_ble_eq_true rfl)
  rw [lg_entry_eq]
  generalize (lg_sl ([.ref (a 0)]) ++ List.replicate (3 - (lg_sl ([.ref (a 0)])).length) Slot.unset).toArray = ls at hl ⊢
  have hl : lv_has ls 3 [(0, .ref (a 0))] := hl
  refine lv_aload_n hx hb dX8_automaton_0 rfl (lv_at hl 0 rfl) ?_
  refine va_get (D := (dC, dI)) (ci := 8) (v := .ref (a 4)) (C := RX8) (T := TX8) (N := 16) hx hb hts hiX8 hown hK hP 0 rfl rfl 2 (by decide) v_1 (fun _ h9 => h9) rfl dX8_automaton_1 ?_
  refine lv_aload_n hx hb dX8_automaton_4 rfl (lv_at hl 0 rfl) ?_
  refine va_get (D := (dC, dI)) (ci := 8) (v := .ref (a 6)) (C := RX8) (T := TX8) (N := 16) hx hb hts hiX8 hown hK hP 0 rfl rfl 0 (by decide) v_2 (fun _ h9 => h9) rfl dX8_automaton_5 ?_
  refine lv_aload_n hx hb dX8_automaton_8 rfl (lv_at hl 0 rfl) ?_
  refine va_get (D := (dC, dI)) (ci := 8) (v := .int 0) (C := RX8) (T := TX8) (N := 16) hx hb hts hiX8 hown hK hP 0 rfl rfl 1 (by decide) v_3 (fun _ h9 => h9) rfl dX8_automaton_9 ?_
  refine lv_aload_n hx hb dX8_automaton_12 rfl (lv_at hl 0 rfl) ?_
  refine va_get (D := (dC, dI)) (ci := 8) (v := .ref (a 5)) (C := RX8) (T := TX8) (N := 16) hx hb hts hiX8 hown hK hP 0 rfl rfl 4 (by decide) v_4 (fun _ h9 => h9) rfl dX8_automaton_13 ?_
  have hFc := va_free (wc := [((a 4), .inr (4, [.int 0, .int (-1), .null, .int 0, .int 0, .int 0, .int 0, .int 0, .null, .ref (a 64), .ref (a 65), .ref (a 66)])), ((a 5), .inr (0, [.int 0, .int 0, .int 0, .int (-1), .ref (a 8), .ref (a 41), .ref (a 42), .ref (a 43), .ref (a 9), .ref (a 44), .ref (a 45), .ref (a 46), .ref (a 47), .ref (a 48), .ref (a 49), .ref (a 50), .ref (a 51)])), ((a 8), .inl ((k 2), 8, .inl (fun _ => 0))), ((a 9), .inl ((k 3), 22, .inl (fun _ => 0)))]) hD hS hA [4, 5, 8, 9] rfl
  refine va_calli (va_runV (As := [.ref (a 6), .int 0, .ref (a 5)]) (rest := []) ⟨hx, hb, hml, hown, hts⟩ (c_X4_reads l dC dI _ a k) (cwV 3 hts g_X8_automaton_X4_reads rfl rfl rfl (by decide +kernel) ⟨Nat.le_of_ble_eq_true rfl, Nat.le_of_ble_eq_true rfl⟩) ⟨pu_bl, va_recv hK hP (ci := 4) (q0 := 4) rfl rfl, pu_in (hP.sub [4, 5, 8, 9] rfl) (hK.sub [2, 3] rfl) (hD.sub [4, 5, 8, 9] (by decide) rfl)⟩ rfl rfl hl.1 rfl (lv_room (Nat.le_of_ble_eq_true rfl)) dX8_automaton_16 ⟨Nat.le_of_ble_eq_true rfl, Nat.le_of_ble_eq_true rfl⟩) hS (fun q _ h => hFc q h) hFc (fun r_1 u t H1 locs ht hvm hw hB hz1 hk1 hS => ?_)
  obtain ⟨hP, hD⟩ := va_join (wr := [((a 0), .inr (8, [.ref (a 6), .int 0, .ref (a 4), .ref (a 1), .ref (a 5), .ref (a 2), .ref (a 10), .int 0, .ref (a 11), .ref (a 12), .int 0, .ref (a 13), .ref (a 14), .ref (a 3), .ref (a 15), .ref (a 16)])), ((a 1), .inr (0, [.int 0, .int 0, .int 0, .int (-1), .ref (a 20), .ref (a 21), .ref (a 22), .ref (a 23), .ref (a 7), .ref (a 24), .ref (a 25), .ref (a 26), .ref (a 27), .ref (a 28), .ref (a 29), .ref (a 30), .ref (a 31)])), ((a 2), .inr (2, [.int 0, .ref (a 60), .ref (a 61)])), ((a 3), .inr (3, [.int 0, .int 0, .int 0, .ref (a 62), .ref (a 63)])), ((a 6), .inl ((k 0), 900, .inl (fun _ => 0))), ((a 7), .inl ((k 1), 22, .inl (fun _ => 0)))]) (w1 := []) hP hD [4, 5, 8, 9] [0, 1, 2, 3, 6, 7] rfl rfl (by decide) (by decide) hk1 hFc pu_P0 pu_D0
  clear hk1 hz1 ht hvm
  generalize H1 = H at hP hS ⊢
  have hP : va_P (dC, dI) vwCl [((a 0), .inr (8, [.ref (a 6), .int 0, .ref (a 4), .ref (a 1), .ref (a 5), .ref (a 2), .ref (a 10), .int 0, .ref (a 11), .ref (a 12), .int 0, .ref (a 13), .ref (a 14), .ref (a 3), .ref (a 15), .ref (a 16)])), ((a 1), .inr (0, [.int 0, .int 0, .int 0, .int (-1), .ref (a 20), .ref (a 21), .ref (a 22), .ref (a 23), .ref (a 7), .ref (a 24), .ref (a 25), .ref (a 26), .ref (a 27), .ref (a 28), .ref (a 29), .ref (a 30), .ref (a 31)])), ((a 2), .inr (2, [.int 0, .ref (a 60), .ref (a 61)])), ((a 3), .inr (3, [.int 0, .int 0, .int 0, .ref (a 62), .ref (a 63)])), ((a 6), .inl ((k 0), 900, .inl (fun _ => 0))), ((a 7), .inl ((k 1), 22, .inl (fun _ => 0)))] H := hP
  have hD : va_D A [((a 0), .inr (8, [.ref (a 6), .int 0, .ref (a 4), .ref (a 1), .ref (a 5), .ref (a 2), .ref (a 10), .int 0, .ref (a 11), .ref (a 12), .int 0, .ref (a 13), .ref (a 14), .ref (a 3), .ref (a 15), .ref (a 16)])), ((a 1), .inr (0, [.int 0, .int 0, .int 0, .int (-1), .ref (a 20), .ref (a 21), .ref (a 22), .ref (a 23), .ref (a 7), .ref (a 24), .ref (a 25), .ref (a 26), .ref (a 27), .ref (a 28), .ref (a 29), .ref (a 30), .ref (a 31)])), ((a 2), .inr (2, [.int 0, .ref (a 60), .ref (a 61)])), ((a 3), .inr (3, [.int 0, .int 0, .int 0, .ref (a 62), .ref (a 63)])), ((a 6), .inl ((k 0), 900, .inl (fun _ => 0))), ((a 7), .inl ((k 1), 22, .inl (fun _ => 0)))] := hD
  obtain rfl : r_1 = 0 := hw
  refine lv_istore_n (lv' := [(1, .int 0), (0, .ref (a 0))]) hx hb dX8_automaton_19 rfl hl (by decide) rfl (fun ls hl => ?_)
  refine lv_aload_n hx hb dX8_automaton_20 rfl (lv_at hl 1 rfl) ?_
  refine lv_iconst (v := 0) hx hb dX8_automaton_21 (by decide) ?_
  refine va_put (D := (dC, dI)) (ci := 8) (v := .int 0) (ty := .int) (C := RX8) (T := TX8) (N := 16) hx hb hts hiX8 tyX8 tyX8_ok nmX8 hown hK hP hD hS 0 rfl rfl 1 (by decide) v_3 (fun _ h9 => h9) rfl (by decide +kernel) rfl rfl (Nat.le_of_ble_eq_true rfl) dX8_automaton_22 (fun H locs hP hD hS => ?_)
  have hP : va_P (dC, dI) vwCl [((a 0), .inr (8, [.ref (a 6), .int 0, .ref (a 4), .ref (a 1), .ref (a 5), .ref (a 2), .ref (a 10), .int 0, .ref (a 11), .ref (a 12), .int 0, .ref (a 13), .ref (a 14), .ref (a 3), .ref (a 15), .ref (a 16)])), ((a 1), .inr (0, [.int 0, .int 0, .int 0, .int (-1), .ref (a 20), .ref (a 21), .ref (a 22), .ref (a 23), .ref (a 7), .ref (a 24), .ref (a 25), .ref (a 26), .ref (a 27), .ref (a 28), .ref (a 29), .ref (a 30), .ref (a 31)])), ((a 2), .inr (2, [.int 0, .ref (a 60), .ref (a 61)])), ((a 3), .inr (3, [.int 0, .int 0, .int 0, .ref (a 62), .ref (a 63)])), ((a 6), .inl ((k 0), 900, .inl (fun _ => 0))), ((a 7), .inl ((k 1), 22, .inl (fun _ => 0)))] H := hP
  have hD : va_D A [((a 0), .inr (8, [.ref (a 6), .int 0, .ref (a 4), .ref (a 1), .ref (a 5), .ref (a 2), .ref (a 10), .int 0, .ref (a 11), .ref (a 12), .int 0, .ref (a 13), .ref (a 14), .ref (a 3), .ref (a 15), .ref (a 16)])), ((a 1), .inr (0, [.int 0, .int 0, .int 0, .int (-1), .ref (a 20), .ref (a 21), .ref (a 22), .ref (a 23), .ref (a 7), .ref (a 24), .ref (a 25), .ref (a 26), .ref (a 27), .ref (a 28), .ref (a 29), .ref (a 30), .ref (a 31)])), ((a 2), .inr (2, [.int 0, .ref (a 60), .ref (a 61)])), ((a 3), .inr (3, [.int 0, .int 0, .int 0, .ref (a 62), .ref (a 63)])), ((a 6), .inl ((k 0), 900, .inl (fun _ => 0))), ((a 7), .inl ((k 1), 22, .inl (fun _ => 0)))] := hD
  refine lv_iload_n hx hb dX8_automaton_25 rfl (lv_at hl 0 rfl) ?_
  refine lv_if_ne (tgt := 31) hx hb dX8_automaton_26 (by decide) (fun z => absurd z (by decide)) (fun _ => ?_)
  refine lv_iconst (v := (-1)) hx hb dX8_automaton_29 (by decide) ?_
  exact W.iret (v := (-1)) hx hb hr (fun t ht hW => ⟨⟨(-1), (), rfl, by first | rfl | decide | simp_all, trivial⟩, hS.F ht⟩) hS.2.2 dX8_automaton_30
theorem dX9_byteAt_0 : decode cX9_byteAt 0 = .ok (.iload_n 1, 1) := by decide +kernel
theorem dX9_byteAt_1 : decode cX9_byteAt 1 = .ok (.aload_n 0, 1) := by decide +kernel
theorem dX9_byteAt_2 : decode cX9_byteAt 2 = .ok (.getfield 156, 3) := by decide +kernel
theorem dX9_byteAt_5 : decode cX9_byteAt 5 = .ok (.if_icmp .ge 12, 3) := by decide +kernel
theorem dX9_byteAt_17 : decode cX9_byteAt 17 = .ok (.iconst (-1), 1) := by decide +kernel
theorem dX9_byteAt_18 : decode cX9_byteAt 18 = .ok (.ireturn, 1) := by decide +kernel
def vs_X9_byteAt : List Cond := .code yX9_byteAt cX9_byteAt 2 (some .int) :: ([.fieldLink RX9 156 "ClockReachModel" "size" "I"] ++ wsX90)
set_option maxHeartbeats 4000000 in
set_option maxRecDepth 100000 in
theorem c_X9_byteAt (l : Launch) (dC : Nat → ClassId) (dI : Nat → Nat → Nat) (sz : Nat) (b : Nat → Nat) (j : Nat → ClassId) : Met l yX9_byteAt vs_X9_byteAt ({ frames := 0, cells := 0, slots := 0, locals := 0 }) (va_Pc [.ref (b 0), .int 0] (pu_B (dC, dI) [((b 0), .inr (9, [.int 0, .ref (b 10), .ref (b 11), .ref (b 12), .ref (b 13), .ref (b 14), .ref (b 15), .ref (b 16), .ref (b 17), .ref (b 18), .ref (b 19), .ref (b 20), .ref (b 1), .ref (b 2), .ref (b 3), .ref (b 4), .int 0, .ref (b 5), .int 0, .int 0, .int 0, .int 0, .int 0, .int 0, .int 0, .int (-1), .int 0, .int 0, .int 1, .int 0, .int 0, .ref (b 21), .ref (b 22), .int 0, .ref (b 23), .ref (b 24), .ref (b 25), .ref (b 26), .ref (b 27), .ref (b 28), .ref (b 29), .ref (b 30), .ref (b 31), .ref (b 32), .ref (b 33), .int 0, .int 0, .ref (b 34), .ref (b 35), .ref (b 36), .ref (b 37), .ref (b 38), .int 0, .int 0, .ref (b 39), .ref (b 40), .ref (b 41), .ref (b 42), .ref (b 43), .ref (b 44), .ref (b 45), .int 0, .int 0, .int 0, .ref (b 46), .int 0, .int 0]))] [] sz)) (va_Qi (fun (r : Int32) (_ : Unit) => r = -1) (fun _ _ => True) (va_A [] sz)) 0 0 (va_A [] sz) := by
  refine Met.ofW (cc := cX9_byteAt) (maxL := 2) (ret := (some .int)) (by decide) rfl ?_
  intro p e s m args below meth c s₁ B hml hv
  obtain ⟨rfl, rfl, hP, hK, hD0⟩ := hv
  have hx := B.exec
  have hb := B.bytes
  have hr := B.returns
  have hts := atoms_spec (ws := vs_X9_byteAt) B.pre
  have v_1 := hts (.fieldLink RX9 156 "ClockReachModel" "size" "I") (List.mem_of_getElem? (i := 1) rfl)
  have hown : s.vm.findClass RX9 = some m.cls := findClass_of_methodNamed B.named
  have hlocks := B.notSynchronized
  have hiX9 : ∀ w ∈ wsX90, w ∈ vs_X9_byteAt := fun _ h => List.mem_cons_of_mem _ (List.mem_append_right _ h)
  have hD := hD0
  have hA : ∀ q : Nat, s.heap.size ≤ q → va_A [] s.heap.size q := fun _ h => Or.inr h
  have hS : va_S (va_A [] s.heap.size) s.heap s.heap [] := va_S.rf
  have hl := lv_entry ([.ref (b 0), .int 0]) (n := 2) (Nat.le_of_ble_eq_true rfl)
  rw [lg_entry_eq]
  generalize (lg_sl ([.ref (b 0), .int 0]) ++ List.replicate (2 - (lg_sl ([.ref (b 0), .int 0])).length) Slot.unset).toArray = ls at hl ⊢
  have hl : lv_has ls 2 [(0, .ref (b 0)), (1, .int 0)] := hl
  refine lv_iload_n hx hb dX9_byteAt_0 rfl (lv_at hl 1 rfl) ?_
  refine lv_aload_n hx hb dX9_byteAt_1 rfl (lv_at hl 0 rfl) ?_
  refine va_get (D := (dC, dI)) (ci := 9) (v := .int 0) (C := RX9) (T := TX9) (N := 67) hx hb hts hiX9 hown hK hP 0 rfl rfl 19 (by decide) v_1 (fun _ h9 => h9) rfl dX9_byteAt_2 ?_
  refine lv_icmp_ge (tgt := 17) hx hb dX9_byteAt_5 (by decide) (fun _ => ?_) (fun z => absurd z (by decide))
  refine lv_iconst (v := (-1)) hx hb dX9_byteAt_17 (by decide) ?_
  exact W.iret (v := (-1)) hx hb hr (fun t ht hW => ⟨⟨(-1), (), rfl, by first | rfl | decide | simp_all, trivial⟩, hS.F ht⟩) hS.2.2 dX9_byteAt_18
theorem dX9_next_0 : decode cX9_next 0 = .ok (.aload_n 0, 1) := by decide +kernel
theorem dX9_next_1 : decode cX9_next 1 = .ok (.aload_n 0, 1) := by decide +kernel
theorem dX9_next_2 : decode cX9_next 2 = .ok (.getfield 159, 3) := by decide +kernel
theorem dX9_next_5 : decode cX9_next 5 = .ok (.invokevirtual 162, 3) := by decide +kernel
theorem dX9_next_8 : decode cX9_next 8 = .ok (.bipush 32, 2) := by decide +kernel
theorem dX9_next_10 : decode cX9_next 10 = .ok (.if_icmp .eq 16, 3) := by decide +kernel
theorem dX9_next_13 : decode cX9_next 13 = .ok (.aload_n 0, 1) := by decide +kernel
theorem dX9_next_14 : decode cX9_next 14 = .ok (.aload_n 0, 1) := by decide +kernel
theorem dX9_next_15 : decode cX9_next 15 = .ok (.getfield 159, 3) := by decide +kernel
theorem dX9_next_18 : decode cX9_next 18 = .ok (.invokevirtual 162, 3) := by decide +kernel
theorem dX9_next_21 : decode cX9_next 21 = .ok (.bipush 10, 2) := by decide +kernel
theorem dX9_next_23 : decode cX9_next 23 = .ok (.if_icmp .ne 16, 3) := by decide +kernel
theorem dX9_next_39 : decode cX9_next 39 = .ok (.aload_n 0, 1) := by decide +kernel
theorem dX9_next_40 : decode cX9_next 40 = .ok (.aload_n 0, 1) := by decide +kernel
theorem dX9_next_41 : decode cX9_next 41 = .ok (.getfield 159, 3) := by decide +kernel
theorem dX9_next_44 : decode cX9_next 44 = .ok (.putfield 166, 3) := by decide +kernel
theorem dX9_next_47 : decode cX9_next 47 = .ok (.aload_n 0, 1) := by decide +kernel
theorem dX9_next_48 : decode cX9_next 48 = .ok (.aload_n 0, 1) := by decide +kernel
theorem dX9_next_49 : decode cX9_next 49 = .ok (.getfield 166, 3) := by decide +kernel
theorem dX9_next_52 : decode cX9_next 52 = .ok (.invokevirtual 162, 3) := by decide +kernel
theorem dX9_next_55 : decode cX9_next 55 = .ok (.istore_n 1, 1) := by decide +kernel
theorem dX9_next_56 : decode cX9_next 56 = .ok (.aload_n 0, 1) := by decide +kernel
theorem dX9_next_57 : decode cX9_next 57 = .ok (.iconst 0, 1) := by decide +kernel
theorem dX9_next_58 : decode cX9_next 58 = .ok (.putfield 169, 3) := by decide +kernel
theorem dX9_next_61 : decode cX9_next 61 = .ok (.iload_n 1, 1) := by decide +kernel
theorem dX9_next_62 : decode cX9_next 62 = .ok (.iconst (-1), 1) := by decide +kernel
theorem dX9_next_63 : decode cX9_next 63 = .ok (.if_icmp .ne 11, 3) := by decide +kernel
theorem dX9_next_66 : decode cX9_next 66 = .ok (.aload_n 0, 1) := by decide +kernel
theorem dX9_next_67 : decode cX9_next 67 = .ok (.iconst 0, 1) := by decide +kernel
theorem dX9_next_68 : decode cX9_next 68 = .ok (.putfield 172, 3) := by decide +kernel
theorem dX9_next_71 : decode cX9_next 71 = .ok (.goto 254, 3) := by decide +kernel
theorem dX9_next_325 : decode cX9_next 325 = .ok (.return_, 1) := by decide +kernel
def vs_X9_next : List Cond := .code yX9_next cX9_next 2 none :: ([.fieldLink RX9 159 "ClockReachModel" "behind" "I", .methodLink RX9 162 yX9_byteAt, .instanceMethod yX9_byteAt, .selects RX9 yX9_byteAt yX9_byteAt, .initialized RX9, .code yX9_byteAt cX9_byteAt 2 (some .int), .fieldLink RX9 156 "ClockReachModel" "size" "I", .fieldLink RX9 166 "ClockReachModel" "at" "I", .fieldLink RX9 169 "ClockReachModel" "value" "I", .fieldLink RX9 172 "ClockReachModel" "token" "I"] ++ wsX90)
theorem g_X9_next_X9_byteAt : GoodIn vs_X9_next (wsV RX9 162 RX9 yX9_byteAt vs_X9_byteAt) := goodIn_r _ [2, 3, 4, 5, 6, 7, 11, 12, 13, 14, 15, 16, 17, 18, 19, 20, 21, 22, 23, 24, 25, 26, 27, 28, 29, 30, 31, 32, 33, 34, 35, 36, 37, 38, 39, 40, 41, 42, 43, 44, 45, 46, 47, 48, 49, 50, 51, 52, 53, 54, 55, 56, 57, 58, 59, 60, 61, 62, 63, 64, 65, 66, 67, 68, 69, 70, 71, 72, 73, 74, 75, 76, 77] (by decide +kernel) (by decide +kernel)
set_option maxHeartbeats 4000000 in
set_option maxRecDepth 100000 in
theorem c_X9_next (l : Launch) (dC : Nat → ClassId) (dI : Nat → Nat → Nat) (sz : Nat) (b : Nat → Nat) (j : Nat → ClassId) : Met l yX9_next vs_X9_next ({ frames := 1, cells := 0, slots := 0, locals := 21 }) (va_Pc [.ref (b 0)] (pu_B (dC, dI) [((b 0), .inr (9, [.int 0, .ref (b 10), .ref (b 11), .ref (b 12), .ref (b 13), .ref (b 14), .ref (b 15), .ref (b 16), .ref (b 17), .ref (b 18), .ref (b 19), .ref (b 20), .ref (b 1), .ref (b 2), .ref (b 3), .ref (b 4), .int 0, .ref (b 5), .int 0, .int 0, .int 0, .int 0, .int 0, .int 0, .int 0, .int (-1), .int 0, .int 0, .int 1, .int 0, .int 0, .ref (b 21), .ref (b 22), .int 0, .ref (b 23), .ref (b 24), .ref (b 25), .ref (b 26), .ref (b 27), .ref (b 28), .ref (b 29), .ref (b 30), .ref (b 31), .ref (b 32), .ref (b 33), .int 0, .int 0, .ref (b 34), .ref (b 35), .ref (b 36), .ref (b 37), .ref (b 38), .int 0, .int 0, .ref (b 39), .ref (b 40), .ref (b 41), .ref (b 42), .ref (b 43), .ref (b 44), .ref (b 45), .int 0, .int 0, .int 0, .ref (b 46), .int 0, .int 0]))] [] sz)) (va_Qv (fun (_ : Unit) => True) (fun _ t => pu_E (dC, dI) [((b 0), .inr (9, [.int 0, .ref (b 10), .ref (b 11), .ref (b 12), .ref (b 13), .ref (b 14), .ref (b 15), .ref (b 16), .ref (b 17), .ref (b 18), .ref (b 19), .ref (b 20), .ref (b 1), .ref (b 2), .ref (b 3), .ref (b 4), .int 0, .ref (b 5), .int 0, .int 0, .int 0, .int 0, .int 0, .int 0, .int 0, .int (-1), .int 0, .int 0, .int 1, .int 0, .int 0, .ref (b 21), .ref (b 22), .int 0, .ref (b 23), .ref (b 24), .ref (b 25), .ref (b 26), .ref (b 27), .ref (b 28), .ref (b 29), .ref (b 30), .ref (b 31), .ref (b 32), .ref (b 33), .int 0, .int 0, .ref (b 34), .ref (b 35), .ref (b 36), .ref (b 37), .ref (b 38), .int 0, .int 0, .ref (b 39), .ref (b 40), .ref (b 41), .ref (b 42), .ref (b 43), .ref (b 44), .ref (b 45), .int 0, .int 0, .int 0, .ref (b 46), .int 0, .int 0]))] [] (va_A ([((b 0), .inr (9, [.int 0, .ref (b 10), .ref (b 11), .ref (b 12), .ref (b 13), .ref (b 14), .ref (b 15), .ref (b 16), .ref (b 17), .ref (b 18), .ref (b 19), .ref (b 20), .ref (b 1), .ref (b 2), .ref (b 3), .ref (b 4), .int 0, .ref (b 5), .int 0, .int 0, .int 0, .int 0, .int 0, .int 0, .int 0, .int (-1), .int 0, .int 0, .int 1, .int 0, .int 0, .ref (b 21), .ref (b 22), .int 0, .ref (b 23), .ref (b 24), .ref (b 25), .ref (b 26), .ref (b 27), .ref (b 28), .ref (b 29), .ref (b 30), .ref (b 31), .ref (b 32), .ref (b 33), .int 0, .int 0, .ref (b 34), .ref (b 35), .ref (b 36), .ref (b 37), .ref (b 38), .int 0, .int 0, .ref (b 39), .ref (b 40), .ref (b 41), .ref (b 42), .ref (b 43), .ref (b 44), .ref (b 45), .int 0, .int 0, .int 0, .ref (b 46), .int 0, .int 0]))]) sz) t) (va_A ([((b 0), .inr (9, [.int 0, .ref (b 10), .ref (b 11), .ref (b 12), .ref (b 13), .ref (b 14), .ref (b 15), .ref (b 16), .ref (b 17), .ref (b 18), .ref (b 19), .ref (b 20), .ref (b 1), .ref (b 2), .ref (b 3), .ref (b 4), .int 0, .ref (b 5), .int 0, .int 0, .int 0, .int 0, .int 0, .int 0, .int 0, .int (-1), .int 0, .int 0, .int 1, .int 0, .int 0, .ref (b 21), .ref (b 22), .int 0, .ref (b 23), .ref (b 24), .ref (b 25), .ref (b 26), .ref (b 27), .ref (b 28), .ref (b 29), .ref (b 30), .ref (b 31), .ref (b 32), .ref (b 33), .int 0, .int 0, .ref (b 34), .ref (b 35), .ref (b 36), .ref (b 37), .ref (b 38), .int 0, .int 0, .ref (b 39), .ref (b 40), .ref (b 41), .ref (b 42), .ref (b 43), .ref (b 44), .ref (b 45), .int 0, .int 0, .int 0, .ref (b 46), .int 0, .int 0]))]) sz)) 0 0 (va_A ([((b 0), .inr (9, [.int 0, .ref (b 10), .ref (b 11), .ref (b 12), .ref (b 13), .ref (b 14), .ref (b 15), .ref (b 16), .ref (b 17), .ref (b 18), .ref (b 19), .ref (b 20), .ref (b 1), .ref (b 2), .ref (b 3), .ref (b 4), .int 0, .ref (b 5), .int 0, .int 0, .int 0, .int 0, .int 0, .int 0, .int 0, .int (-1), .int 0, .int 0, .int 1, .int 0, .int 0, .ref (b 21), .ref (b 22), .int 0, .ref (b 23), .ref (b 24), .ref (b 25), .ref (b 26), .ref (b 27), .ref (b 28), .ref (b 29), .ref (b 30), .ref (b 31), .ref (b 32), .ref (b 33), .int 0, .int 0, .ref (b 34), .ref (b 35), .ref (b 36), .ref (b 37), .ref (b 38), .int 0, .int 0, .ref (b 39), .ref (b 40), .ref (b 41), .ref (b 42), .ref (b 43), .ref (b 44), .ref (b 45), .int 0, .int 0, .int 0, .ref (b 46), .int 0, .int 0]))]) sz) := by
  refine Met.ofW (cc := cX9_next) (maxL := 2) (ret := none) (by decide) rfl ?_
  intro p e s m args below meth c s₁ B hml hv
  obtain ⟨rfl, rfl, hP, hK, hD0⟩ := hv
  have hx := B.exec
  have hb := B.bytes
  have hr := B.returns
  have hts := atoms_spec (ws := vs_X9_next) B.pre
  have v_1 := hts (.fieldLink RX9 159 "ClockReachModel" "behind" "I") (List.mem_of_getElem? (i := 1) rfl)
  have v_8 := hts (.fieldLink RX9 166 "ClockReachModel" "at" "I") (List.mem_of_getElem? (i := 8) rfl)
  have v_9 := hts (.fieldLink RX9 169 "ClockReachModel" "value" "I") (List.mem_of_getElem? (i := 9) rfl)
  have v_10 := hts (.fieldLink RX9 172 "ClockReachModel" "token" "I") (List.mem_of_getElem? (i := 10) rfl)
  have hown : s.vm.findClass RX9 = some m.cls := findClass_of_methodNamed B.named
  have hlocks := B.notSynchronized
  have hiX9 : ∀ w ∈ wsX90, w ∈ vs_X9_next := fun _ h => List.mem_cons_of_mem _ (List.mem_append_right _ h)
  have hD := hD0.self (sz := s.heap.size)
  generalize hAe : va_A ([((b 0), .inr (9, [.int 0, .ref (b 10), .ref (b 11), .ref (b 12), .ref (b 13), .ref (b 14), .ref (b 15), .ref (b 16), .ref (b 17), .ref (b 18), .ref (b 19), .ref (b 20), .ref (b 1), .ref (b 2), .ref (b 3), .ref (b 4), .int 0, .ref (b 5), .int 0, .int 0, .int 0, .int 0, .int 0, .int 0, .int 0, .int (-1), .int 0, .int 0, .int 1, .int 0, .int 0, .ref (b 21), .ref (b 22), .int 0, .ref (b 23), .ref (b 24), .ref (b 25), .ref (b 26), .ref (b 27), .ref (b 28), .ref (b 29), .ref (b 30), .ref (b 31), .ref (b 32), .ref (b 33), .int 0, .int 0, .ref (b 34), .ref (b 35), .ref (b 36), .ref (b 37), .ref (b 38), .int 0, .int 0, .ref (b 39), .ref (b 40), .ref (b 41), .ref (b 42), .ref (b 43), .ref (b 44), .ref (b 45), .int 0, .int 0, .int 0, .ref (b 46), .int 0, .int 0]))]) s.heap.size = A at hD ⊢
  have hA : ∀ q : Nat, s.heap.size ≤ q → A q := fun q h => by rw [← hAe]; exact Or.inr h
  have hS : va_S A s.heap s.heap [] := va_S.rf
  have hl := lv_entry ([.ref (b 0)]) (n := 2) (Nat.le_of_ble_eq_true rfl)
  rw [lg_entry_eq]
  generalize (lg_sl ([.ref (b 0)]) ++ List.replicate (2 - (lg_sl ([.ref (b 0)])).length) Slot.unset).toArray = ls at hl ⊢
  have hl : lv_has ls 2 [(0, .ref (b 0))] := hl
  refine lv_aload_n hx hb dX9_next_0 rfl (lv_at hl 0 rfl) ?_
  refine lv_aload_n hx hb dX9_next_1 rfl (lv_at hl 0 rfl) ?_
  refine va_get (D := (dC, dI)) (ci := 9) (v := .int 0) (C := RX9) (T := TX9) (N := 67) hx hb hts hiX9 hown hK hP 0 rfl rfl 21 (by decide) v_1 (fun _ h9 => h9) rfl dX9_next_2 ?_
  refine va_calli (va_runV (As := [.int 0]) (rest := []) ⟨hx, hb, hml, hown, hts⟩ (c_X9_byteAt l dC dI _ b j) (cwV 1 hts g_X9_next_X9_byteAt rfl rfl rfl (by decide +kernel) ⟨Nat.le_of_ble_eq_true rfl, Nat.le_of_ble_eq_true rfl⟩) ⟨pu_bl, va_recv hK hP (ci := 9) (q0 := 0) rfl rfl, pu_in hP hK hD⟩ rfl rfl hl.1 rfl (lv_room (Nat.le_of_ble_eq_true rfl)) dX9_next_5 ⟨Nat.le_of_ble_eq_true rfl, Nat.le_of_ble_eq_true rfl⟩) hS (fun q _ h => pu_fr hS hA q h) (pu_fr hS hA) (fun r_1 u t H1 locs ht hvm hw hB hz1 hk1 hS => ?_)
  have hP := pu_keep hP hk1
  clear hk1 hz1 ht hvm
  generalize H1 = H at hP hS ⊢
  obtain rfl : r_1 = (-1) := hw
  refine lv_bipush (v := 32) hx hb dX9_next_8 (by decide) ?_
  refine lv_icmp_eq (tgt := 26) hx hb dX9_next_10 (by decide) (fun z => absurd z (by decide)) (fun _ => ?_)
  refine lv_aload_n hx hb dX9_next_13 rfl (lv_at hl 0 rfl) ?_
  refine lv_aload_n hx hb dX9_next_14 rfl (lv_at hl 0 rfl) ?_
  refine va_get (D := (dC, dI)) (ci := 9) (v := .int 0) (C := RX9) (T := TX9) (N := 67) hx hb hts hiX9 hown hK hP 0 rfl rfl 21 (by decide) v_1 (fun _ h9 => h9) rfl dX9_next_15 ?_
  refine va_calli (va_runV (As := [.int 0]) (rest := []) ⟨hx, hb, hml, hown, hts⟩ (c_X9_byteAt l dC dI _ b j) (cwV 1 hts g_X9_next_X9_byteAt rfl rfl rfl (by decide +kernel) ⟨Nat.le_of_ble_eq_true rfl, Nat.le_of_ble_eq_true rfl⟩) ⟨pu_bl, va_recv hK hP (ci := 9) (q0 := 0) rfl rfl, pu_in hP hK hD⟩ rfl rfl hl.1 rfl (lv_room (Nat.le_of_ble_eq_true rfl)) dX9_next_18 ⟨Nat.le_of_ble_eq_true rfl, Nat.le_of_ble_eq_true rfl⟩) hS (fun q _ h => pu_fr hS hA q h) (pu_fr hS hA) (fun r_2 u t H1 locs ht hvm hw hB hz1 hk1 hS => ?_)
  have hP := pu_keep hP hk1
  clear hk1 hz1 ht hvm
  generalize H1 = H at hP hS ⊢
  obtain rfl : r_2 = (-1) := hw
  refine lv_bipush (v := 10) hx hb dX9_next_21 (by decide) ?_
  refine lv_icmp_ne (tgt := 39) hx hb dX9_next_23 (by decide) (fun _ => ?_) (fun z => absurd z (by decide))
  refine lv_aload_n hx hb dX9_next_39 rfl (lv_at hl 0 rfl) ?_
  refine lv_aload_n hx hb dX9_next_40 rfl (lv_at hl 0 rfl) ?_
  refine va_get (D := (dC, dI)) (ci := 9) (v := .int 0) (C := RX9) (T := TX9) (N := 67) hx hb hts hiX9 hown hK hP 0 rfl rfl 21 (by decide) v_1 (fun _ h9 => h9) rfl dX9_next_41 ?_
  refine va_put (D := (dC, dI)) (ci := 9) (v := .int 0) (ty := .int) (C := RX9) (T := TX9) (N := 67) hx hb hts hiX9 tyX9 tyX9_ok nmX9 hown hK hP hD hS 0 rfl rfl 20 (by decide) v_8 (fun _ h9 => h9) rfl (by decide +kernel) rfl rfl (Nat.le_of_ble_eq_true rfl) dX9_next_44 (fun H locs hP hD hS => ?_)
  have hP : va_P (dC, dI) vwCl [((b 0), .inr (9, [.int 0, .ref (b 10), .ref (b 11), .ref (b 12), .ref (b 13), .ref (b 14), .ref (b 15), .ref (b 16), .ref (b 17), .ref (b 18), .ref (b 19), .ref (b 20), .ref (b 1), .ref (b 2), .ref (b 3), .ref (b 4), .int 0, .ref (b 5), .int 0, .int 0, .int 0, .int 0, .int 0, .int 0, .int 0, .int (-1), .int 0, .int 0, .int 1, .int 0, .int 0, .ref (b 21), .ref (b 22), .int 0, .ref (b 23), .ref (b 24), .ref (b 25), .ref (b 26), .ref (b 27), .ref (b 28), .ref (b 29), .ref (b 30), .ref (b 31), .ref (b 32), .ref (b 33), .int 0, .int 0, .ref (b 34), .ref (b 35), .ref (b 36), .ref (b 37), .ref (b 38), .int 0, .int 0, .ref (b 39), .ref (b 40), .ref (b 41), .ref (b 42), .ref (b 43), .ref (b 44), .ref (b 45), .int 0, .int 0, .int 0, .ref (b 46), .int 0, .int 0]))] H := hP
  have hD : va_D A [((b 0), .inr (9, [.int 0, .ref (b 10), .ref (b 11), .ref (b 12), .ref (b 13), .ref (b 14), .ref (b 15), .ref (b 16), .ref (b 17), .ref (b 18), .ref (b 19), .ref (b 20), .ref (b 1), .ref (b 2), .ref (b 3), .ref (b 4), .int 0, .ref (b 5), .int 0, .int 0, .int 0, .int 0, .int 0, .int 0, .int 0, .int (-1), .int 0, .int 0, .int 1, .int 0, .int 0, .ref (b 21), .ref (b 22), .int 0, .ref (b 23), .ref (b 24), .ref (b 25), .ref (b 26), .ref (b 27), .ref (b 28), .ref (b 29), .ref (b 30), .ref (b 31), .ref (b 32), .ref (b 33), .int 0, .int 0, .ref (b 34), .ref (b 35), .ref (b 36), .ref (b 37), .ref (b 38), .int 0, .int 0, .ref (b 39), .ref (b 40), .ref (b 41), .ref (b 42), .ref (b 43), .ref (b 44), .ref (b 45), .int 0, .int 0, .int 0, .ref (b 46), .int 0, .int 0]))] := hD
  refine lv_aload_n hx hb dX9_next_47 rfl (lv_at hl 0 rfl) ?_
  refine lv_aload_n hx hb dX9_next_48 rfl (lv_at hl 0 rfl) ?_
  refine va_get (D := (dC, dI)) (ci := 9) (v := .int 0) (C := RX9) (T := TX9) (N := 67) hx hb hts hiX9 hown hK hP 0 rfl rfl 20 (by decide) v_8 (fun _ h9 => h9) rfl dX9_next_49 ?_
  refine va_calli (va_runV (As := [.int 0]) (rest := []) ⟨hx, hb, hml, hown, hts⟩ (c_X9_byteAt l dC dI _ b j) (cwV 1 hts g_X9_next_X9_byteAt rfl rfl rfl (by decide +kernel) ⟨Nat.le_of_ble_eq_true rfl, Nat.le_of_ble_eq_true rfl⟩) ⟨pu_bl, va_recv hK hP (ci := 9) (q0 := 0) rfl rfl, pu_in hP hK hD⟩ rfl rfl hl.1 rfl (lv_room (Nat.le_of_ble_eq_true rfl)) dX9_next_52 ⟨Nat.le_of_ble_eq_true rfl, Nat.le_of_ble_eq_true rfl⟩) hS (fun q _ h => pu_fr hS hA q h) (pu_fr hS hA) (fun r_3 u t H1 locs ht hvm hw hB hz1 hk1 hS => ?_)
  have hP := pu_keep hP hk1
  clear hk1 hz1 ht hvm
  generalize H1 = H at hP hS ⊢
  obtain rfl : r_3 = (-1) := hw
  refine lv_istore_n (lv' := [(1, .int (-1)), (0, .ref (b 0))]) hx hb dX9_next_55 rfl hl (by decide) rfl (fun ls hl => ?_)
  refine lv_aload_n hx hb dX9_next_56 rfl (lv_at hl 1 rfl) ?_
  refine lv_iconst (v := 0) hx hb dX9_next_57 (by decide) ?_
  refine va_put (D := (dC, dI)) (ci := 9) (v := .int 0) (ty := .int) (C := RX9) (T := TX9) (N := 67) hx hb hts hiX9 tyX9 tyX9_ok nmX9 hown hK hP hD hS 0 rfl rfl 23 (by decide) v_9 (fun _ h9 => h9) rfl (by decide +kernel) rfl rfl (Nat.le_of_ble_eq_true rfl) dX9_next_58 (fun H locs hP hD hS => ?_)
  have hP : va_P (dC, dI) vwCl [((b 0), .inr (9, [.int 0, .ref (b 10), .ref (b 11), .ref (b 12), .ref (b 13), .ref (b 14), .ref (b 15), .ref (b 16), .ref (b 17), .ref (b 18), .ref (b 19), .ref (b 20), .ref (b 1), .ref (b 2), .ref (b 3), .ref (b 4), .int 0, .ref (b 5), .int 0, .int 0, .int 0, .int 0, .int 0, .int 0, .int 0, .int (-1), .int 0, .int 0, .int 1, .int 0, .int 0, .ref (b 21), .ref (b 22), .int 0, .ref (b 23), .ref (b 24), .ref (b 25), .ref (b 26), .ref (b 27), .ref (b 28), .ref (b 29), .ref (b 30), .ref (b 31), .ref (b 32), .ref (b 33), .int 0, .int 0, .ref (b 34), .ref (b 35), .ref (b 36), .ref (b 37), .ref (b 38), .int 0, .int 0, .ref (b 39), .ref (b 40), .ref (b 41), .ref (b 42), .ref (b 43), .ref (b 44), .ref (b 45), .int 0, .int 0, .int 0, .ref (b 46), .int 0, .int 0]))] H := hP
  have hD : va_D A [((b 0), .inr (9, [.int 0, .ref (b 10), .ref (b 11), .ref (b 12), .ref (b 13), .ref (b 14), .ref (b 15), .ref (b 16), .ref (b 17), .ref (b 18), .ref (b 19), .ref (b 20), .ref (b 1), .ref (b 2), .ref (b 3), .ref (b 4), .int 0, .ref (b 5), .int 0, .int 0, .int 0, .int 0, .int 0, .int 0, .int 0, .int (-1), .int 0, .int 0, .int 1, .int 0, .int 0, .ref (b 21), .ref (b 22), .int 0, .ref (b 23), .ref (b 24), .ref (b 25), .ref (b 26), .ref (b 27), .ref (b 28), .ref (b 29), .ref (b 30), .ref (b 31), .ref (b 32), .ref (b 33), .int 0, .int 0, .ref (b 34), .ref (b 35), .ref (b 36), .ref (b 37), .ref (b 38), .int 0, .int 0, .ref (b 39), .ref (b 40), .ref (b 41), .ref (b 42), .ref (b 43), .ref (b 44), .ref (b 45), .int 0, .int 0, .int 0, .ref (b 46), .int 0, .int 0]))] := hD
  refine lv_iload_n hx hb dX9_next_61 rfl (lv_at hl 0 rfl) ?_
  refine lv_iconst (v := (-1)) hx hb dX9_next_62 (by decide) ?_
  refine lv_icmp_ne (tgt := 74) hx hb dX9_next_63 (by decide) (fun z => absurd z (by decide)) (fun _ => ?_)
  refine lv_aload_n hx hb dX9_next_66 rfl (lv_at hl 1 rfl) ?_
  refine lv_iconst (v := 0) hx hb dX9_next_67 (by decide) ?_
  refine va_put (D := (dC, dI)) (ci := 9) (v := .int 0) (ty := .int) (C := RX9) (T := TX9) (N := 67) hx hb hts hiX9 tyX9 tyX9_ok nmX9 hown hK hP hD hS 0 rfl rfl 22 (by decide) v_10 (fun _ h9 => h9) rfl (by decide +kernel) rfl rfl (Nat.le_of_ble_eq_true rfl) dX9_next_68 (fun H locs hP hD hS => ?_)
  have hP : va_P (dC, dI) vwCl [((b 0), .inr (9, [.int 0, .ref (b 10), .ref (b 11), .ref (b 12), .ref (b 13), .ref (b 14), .ref (b 15), .ref (b 16), .ref (b 17), .ref (b 18), .ref (b 19), .ref (b 20), .ref (b 1), .ref (b 2), .ref (b 3), .ref (b 4), .int 0, .ref (b 5), .int 0, .int 0, .int 0, .int 0, .int 0, .int 0, .int 0, .int (-1), .int 0, .int 0, .int 1, .int 0, .int 0, .ref (b 21), .ref (b 22), .int 0, .ref (b 23), .ref (b 24), .ref (b 25), .ref (b 26), .ref (b 27), .ref (b 28), .ref (b 29), .ref (b 30), .ref (b 31), .ref (b 32), .ref (b 33), .int 0, .int 0, .ref (b 34), .ref (b 35), .ref (b 36), .ref (b 37), .ref (b 38), .int 0, .int 0, .ref (b 39), .ref (b 40), .ref (b 41), .ref (b 42), .ref (b 43), .ref (b 44), .ref (b 45), .int 0, .int 0, .int 0, .ref (b 46), .int 0, .int 0]))] H := hP
  have hD : va_D A [((b 0), .inr (9, [.int 0, .ref (b 10), .ref (b 11), .ref (b 12), .ref (b 13), .ref (b 14), .ref (b 15), .ref (b 16), .ref (b 17), .ref (b 18), .ref (b 19), .ref (b 20), .ref (b 1), .ref (b 2), .ref (b 3), .ref (b 4), .int 0, .ref (b 5), .int 0, .int 0, .int 0, .int 0, .int 0, .int 0, .int 0, .int (-1), .int 0, .int 0, .int 1, .int 0, .int 0, .ref (b 21), .ref (b 22), .int 0, .ref (b 23), .ref (b 24), .ref (b 25), .ref (b 26), .ref (b 27), .ref (b 28), .ref (b 29), .ref (b 30), .ref (b 31), .ref (b 32), .ref (b 33), .int 0, .int 0, .ref (b 34), .ref (b 35), .ref (b 36), .ref (b 37), .ref (b 38), .int 0, .int 0, .ref (b 39), .ref (b 40), .ref (b 41), .ref (b 42), .ref (b 43), .ref (b 44), .ref (b 45), .int 0, .int 0, .int 0, .ref (b 46), .int 0, .int 0]))] := hD
  refine lv_goto (tgt := 325) hx hb dX9_next_71 (by decide) ?_
  have hP9 := hP.sub (ws' := [((b 0), .inr (9, [.int 0, .ref (b 10), .ref (b 11), .ref (b 12), .ref (b 13), .ref (b 14), .ref (b 15), .ref (b 16), .ref (b 17), .ref (b 18), .ref (b 19), .ref (b 20), .ref (b 1), .ref (b 2), .ref (b 3), .ref (b 4), .int 0, .ref (b 5), .int 0, .int 0, .int 0, .int 0, .int 0, .int 0, .int 0, .int (-1), .int 0, .int 0, .int 1, .int 0, .int 0, .ref (b 21), .ref (b 22), .int 0, .ref (b 23), .ref (b 24), .ref (b 25), .ref (b 26), .ref (b 27), .ref (b 28), .ref (b 29), .ref (b 30), .ref (b 31), .ref (b 32), .ref (b 33), .int 0, .int 0, .ref (b 34), .ref (b 35), .ref (b 36), .ref (b 37), .ref (b 38), .int 0, .int 0, .ref (b 39), .ref (b 40), .ref (b 41), .ref (b 42), .ref (b 43), .ref (b 44), .ref (b 45), .int 0, .int 0, .int 0, .ref (b 46), .int 0, .int 0]))]) [0] rfl
  have hD9 := hD.sub (ws' := [((b 0), .inr (9, [.int 0, .ref (b 10), .ref (b 11), .ref (b 12), .ref (b 13), .ref (b 14), .ref (b 15), .ref (b 16), .ref (b 17), .ref (b 18), .ref (b 19), .ref (b 20), .ref (b 1), .ref (b 2), .ref (b 3), .ref (b 4), .int 0, .ref (b 5), .int 0, .int 0, .int 0, .int 0, .int 0, .int 0, .int 0, .int (-1), .int 0, .int 0, .int 1, .int 0, .int 0, .ref (b 21), .ref (b 22), .int 0, .ref (b 23), .ref (b 24), .ref (b 25), .ref (b 26), .ref (b 27), .ref (b 28), .ref (b 29), .ref (b 30), .ref (b 31), .ref (b 32), .ref (b 33), .int 0, .int 0, .ref (b 34), .ref (b 35), .ref (b 36), .ref (b 37), .ref (b 38), .int 0, .int 0, .ref (b 39), .ref (b 40), .ref (b 41), .ref (b 42), .ref (b 43), .ref (b 44), .ref (b 45), .int 0, .int 0, .int 0, .ref (b 46), .int 0, .int 0]))]) [0] (by decide) rfl
  have hK9 := hK.sub (tys' := []) [] rfl
  exact W.vret hx hb hr (fun t ht hW => ⟨⟨(), rfl, trivial, ⟨by rw [ht]; exact hP9, va_K.moved hW.alike hK9, hD9⟩⟩, hS.F ht⟩) hS.2.2 dX9_next_325
theorem dX9_isGood_0 : decode cX9_isGood 0 = .ok (.aload_n 0, 1) := by decide +kernel
theorem dX9_isGood_1 : decode cX9_isGood 1 = .ok (.getfield 186, 3) := by decide +kernel
theorem dX9_isGood_4 : decode cX9_isGood 4 = .ok (.ifCond .ne 7, 3) := by decide +kernel
theorem dX9_isGood_7 : decode cX9_isGood 7 = .ok (.iconst 1, 1) := by decide +kernel
theorem dX9_isGood_8 : decode cX9_isGood 8 = .ok (.goto 4, 3) := by decide +kernel
theorem dX9_isGood_12 : decode cX9_isGood 12 = .ok (.ireturn, 1) := by decide +kernel
def vs_X9_isGood_1 : List Cond := .code yX9_isGood cX9_isGood 1 (some .boolean) :: ([.fieldLink RX9 186 "ClockReachModel" "wrong" "I"] ++ wsX90)
set_option maxHeartbeats 4000000 in
set_option maxRecDepth 100000 in
theorem c_X9_isGood_1 (l : Launch) (dC : Nat → ClassId) (dI : Nat → Nat → Nat) (sz : Nat) (b : Nat → Nat) (j : Nat → ClassId) : Met l yX9_isGood vs_X9_isGood_1 ({ frames := 0, cells := 0, slots := 0, locals := 0 }) (va_Pc [.ref (b 0)] (pu_B (dC, dI) [((b 0), .inr (9, [.int 0, .ref (b 10), .ref (b 11), .ref (b 12), .ref (b 13), .ref (b 14), .ref (b 15), .ref (b 16), .ref (b 17), .ref (b 18), .ref (b 19), .ref (b 20), .ref (b 1), .ref (b 2), .ref (b 3), .ref (b 4), .int 0, .ref (b 5), .int 0, .int 0, .int 0, .int 0, .int 0, .int 0, .int 0, .int (-1), .int 0, .int 0, .int 1, .int 0, .int 0, .ref (b 21), .ref (b 22), .int 0, .ref (b 23), .ref (b 24), .ref (b 25), .ref (b 26), .ref (b 27), .ref (b 28), .ref (b 29), .ref (b 30), .ref (b 31), .ref (b 32), .ref (b 33), .int 0, .int 0, .ref (b 34), .ref (b 35), .ref (b 36), .ref (b 37), .ref (b 38), .int 0, .int 0, .ref (b 39), .ref (b 40), .ref (b 41), .ref (b 42), .ref (b 43), .ref (b 44), .ref (b 45), .int 0, .int 0, .int 0, .ref (b 46), .int 0, .int 0]))] [] sz)) (va_Qi (fun (r : Int32) (_ : Unit) => r = 1) (fun _ _ => True) (va_A [] sz)) 0 0 (va_A [] sz) := by
  refine Met.ofW (cc := cX9_isGood) (maxL := 1) (ret := (some .boolean)) (by decide) rfl ?_
  intro p e s m args below meth c s₁ B hml hv
  obtain ⟨rfl, rfl, hP, hK, hD0⟩ := hv
  have hx := B.exec
  have hb := B.bytes
  have hr := B.returns
  have hts := atoms_spec (ws := vs_X9_isGood_1) B.pre
  have v_1 := hts (.fieldLink RX9 186 "ClockReachModel" "wrong" "I") (List.mem_of_getElem? (i := 1) rfl)
  have hown : s.vm.findClass RX9 = some m.cls := findClass_of_methodNamed B.named
  have hlocks := B.notSynchronized
  have hiX9 : ∀ w ∈ wsX90, w ∈ vs_X9_isGood_1 := fun _ h => List.mem_cons_of_mem _ (List.mem_append_right _ h)
  have hD := hD0
  have hA : ∀ q : Nat, s.heap.size ≤ q → va_A [] s.heap.size q := fun _ h => Or.inr h
  have hS : va_S (va_A [] s.heap.size) s.heap s.heap [] := va_S.rf
  have hl := lv_entry ([.ref (b 0)]) (n := 1) (Nat.le_of_ble_eq_true rfl)
  rw [lg_entry_eq]
  generalize (lg_sl ([.ref (b 0)]) ++ List.replicate (1 - (lg_sl ([.ref (b 0)])).length) Slot.unset).toArray = ls at hl ⊢
  have hl : lv_has ls 1 [(0, .ref (b 0))] := hl
  refine lv_aload_n hx hb dX9_isGood_0 rfl (lv_at hl 0 rfl) ?_
  refine va_get (D := (dC, dI)) (ci := 9) (v := .int 0) (C := RX9) (T := TX9) (N := 67) hx hb hts hiX9 hown hK hP 0 rfl rfl 26 (by decide) v_1 (fun _ h9 => h9) rfl dX9_isGood_1 ?_
  refine lv_if_ne (tgt := 11) hx hb dX9_isGood_4 (by decide) (fun z => absurd z (by decide)) (fun _ => ?_)
  refine lv_iconst (v := 1) hx hb dX9_isGood_7 (by decide) ?_
  refine lv_goto (tgt := 12) hx hb dX9_isGood_8 (by decide) ?_
  exact W.zret (v := 1) (ty := .boolean) hx hb hr rfl (fun t ht hW => ⟨⟨1, (), rfl, by first | rfl | decide | simp_all, trivial⟩, hS.F ht⟩) hS.2.2 dX9_isGood_12
theorem dX9_fails_0 : decode cX9_fails 0 = .ok (.aload_n 0, 1) := by decide +kernel
theorem dX9_fails_1 : decode cX9_fails 1 = .ok (.getfield 186, 3) := by decide +kernel
theorem dX9_fails_4 : decode cX9_fails 4 = .ok (.ifCond .ne 28, 3) := by decide +kernel
theorem dX9_fails_7 : decode cX9_fails 7 = .ok (.aload_n 0, 1) := by decide +kernel
theorem dX9_fails_8 : decode cX9_fails 8 = .ok (.aload_n 0, 1) := by decide +kernel
theorem dX9_fails_9 : decode cX9_fails 9 = .ok (.getfield 172, 3) := by decide +kernel
theorem dX9_fails_12 : decode cX9_fails 12 = .ok (.iconst 4, 1) := by decide +kernel
theorem dX9_fails_13 : decode cX9_fails 13 = .ok (.if_icmp .ne 7, 3) := by decide +kernel
theorem dX9_fails_20 : decode cX9_fails 20 = .ok (.iload_n 1, 1) := by decide +kernel
theorem dX9_fails_21 : decode cX9_fails 21 = .ok (.putfield 186, 3) := by decide +kernel
theorem dX9_fails_24 : decode cX9_fails 24 = .ok (.aload_n 0, 1) := by decide +kernel
theorem dX9_fails_25 : decode cX9_fails 25 = .ok (.aload_n 0, 1) := by decide +kernel
theorem dX9_fails_26 : decode cX9_fails 26 = .ok (.getfield 166, 3) := by decide +kernel
theorem dX9_fails_29 : decode cX9_fails 29 = .ok (.putfield 189, 3) := by decide +kernel
theorem dX9_fails_32 : decode cX9_fails 32 = .ok (.return_, 1) := by decide +kernel
def vs_X9_fails : List Cond := .code yX9_fails cX9_fails 2 none :: ([.fieldLink RX9 186 "ClockReachModel" "wrong" "I", .fieldLink RX9 172 "ClockReachModel" "token" "I", .fieldLink RX9 166 "ClockReachModel" "at" "I", .fieldLink RX9 189 "ClockReachModel" "wrongAt" "I"] ++ wsX90)
set_option maxHeartbeats 4000000 in
set_option maxRecDepth 100000 in
theorem c_X9_fails (l : Launch) (dC : Nat → ClassId) (dI : Nat → Nat → Nat) (sz : Nat) (b : Nat → Nat) (j : Nat → ClassId) : Met l yX9_fails vs_X9_fails ({ frames := 0, cells := 0, slots := 0, locals := 0 }) (va_Pc [.ref (b 0), .int 6] (pu_B (dC, dI) [((b 0), .inr (9, [.int 0, .ref (b 10), .ref (b 11), .ref (b 12), .ref (b 13), .ref (b 14), .ref (b 15), .ref (b 16), .ref (b 17), .ref (b 18), .ref (b 19), .ref (b 20), .ref (b 1), .ref (b 2), .ref (b 3), .ref (b 4), .int 0, .ref (b 5), .int 0, .int 0, .int 0, .int 0, .int 0, .int 0, .int 0, .int (-1), .int 0, .int 0, .int 1, .int 0, .int 0, .ref (b 21), .ref (b 22), .int 0, .ref (b 23), .ref (b 24), .ref (b 25), .ref (b 26), .ref (b 27), .ref (b 28), .ref (b 29), .ref (b 30), .ref (b 31), .ref (b 32), .ref (b 33), .int 0, .int 0, .ref (b 34), .ref (b 35), .ref (b 36), .ref (b 37), .ref (b 38), .int 0, .int 0, .ref (b 39), .ref (b 40), .ref (b 41), .ref (b 42), .ref (b 43), .ref (b 44), .ref (b 45), .int 0, .int 0, .int 0, .ref (b 46), .int 0, .int 0]))] [] sz)) (va_Qv (fun (_ : Unit) => True) (fun _ t => pu_E (dC, dI) [((b 0), .inr (9, [.int 0, .ref (b 10), .ref (b 11), .ref (b 12), .ref (b 13), .ref (b 14), .ref (b 15), .ref (b 16), .ref (b 17), .ref (b 18), .ref (b 19), .ref (b 20), .ref (b 1), .ref (b 2), .ref (b 3), .ref (b 4), .int 0, .ref (b 5), .int 0, .int 0, .int 0, .int 0, .int 0, .int 0, .int 0, .int (-1), .int 6, .int 0, .int 1, .int 0, .int 0, .ref (b 21), .ref (b 22), .int 0, .ref (b 23), .ref (b 24), .ref (b 25), .ref (b 26), .ref (b 27), .ref (b 28), .ref (b 29), .ref (b 30), .ref (b 31), .ref (b 32), .ref (b 33), .int 0, .int 0, .ref (b 34), .ref (b 35), .ref (b 36), .ref (b 37), .ref (b 38), .int 0, .int 0, .ref (b 39), .ref (b 40), .ref (b 41), .ref (b 42), .ref (b 43), .ref (b 44), .ref (b 45), .int 0, .int 0, .int 0, .ref (b 46), .int 0, .int 0]))] [] (va_A ([((b 0), .inr (9, [.int 0, .ref (b 10), .ref (b 11), .ref (b 12), .ref (b 13), .ref (b 14), .ref (b 15), .ref (b 16), .ref (b 17), .ref (b 18), .ref (b 19), .ref (b 20), .ref (b 1), .ref (b 2), .ref (b 3), .ref (b 4), .int 0, .ref (b 5), .int 0, .int 0, .int 0, .int 0, .int 0, .int 0, .int 0, .int (-1), .int 0, .int 0, .int 1, .int 0, .int 0, .ref (b 21), .ref (b 22), .int 0, .ref (b 23), .ref (b 24), .ref (b 25), .ref (b 26), .ref (b 27), .ref (b 28), .ref (b 29), .ref (b 30), .ref (b 31), .ref (b 32), .ref (b 33), .int 0, .int 0, .ref (b 34), .ref (b 35), .ref (b 36), .ref (b 37), .ref (b 38), .int 0, .int 0, .ref (b 39), .ref (b 40), .ref (b 41), .ref (b 42), .ref (b 43), .ref (b 44), .ref (b 45), .int 0, .int 0, .int 0, .ref (b 46), .int 0, .int 0]))]) sz) t) (va_A ([((b 0), .inr (9, [.int 0, .ref (b 10), .ref (b 11), .ref (b 12), .ref (b 13), .ref (b 14), .ref (b 15), .ref (b 16), .ref (b 17), .ref (b 18), .ref (b 19), .ref (b 20), .ref (b 1), .ref (b 2), .ref (b 3), .ref (b 4), .int 0, .ref (b 5), .int 0, .int 0, .int 0, .int 0, .int 0, .int 0, .int 0, .int (-1), .int 0, .int 0, .int 1, .int 0, .int 0, .ref (b 21), .ref (b 22), .int 0, .ref (b 23), .ref (b 24), .ref (b 25), .ref (b 26), .ref (b 27), .ref (b 28), .ref (b 29), .ref (b 30), .ref (b 31), .ref (b 32), .ref (b 33), .int 0, .int 0, .ref (b 34), .ref (b 35), .ref (b 36), .ref (b 37), .ref (b 38), .int 0, .int 0, .ref (b 39), .ref (b 40), .ref (b 41), .ref (b 42), .ref (b 43), .ref (b 44), .ref (b 45), .int 0, .int 0, .int 0, .ref (b 46), .int 0, .int 0]))]) sz)) 0 0 (va_A ([((b 0), .inr (9, [.int 0, .ref (b 10), .ref (b 11), .ref (b 12), .ref (b 13), .ref (b 14), .ref (b 15), .ref (b 16), .ref (b 17), .ref (b 18), .ref (b 19), .ref (b 20), .ref (b 1), .ref (b 2), .ref (b 3), .ref (b 4), .int 0, .ref (b 5), .int 0, .int 0, .int 0, .int 0, .int 0, .int 0, .int 0, .int (-1), .int 0, .int 0, .int 1, .int 0, .int 0, .ref (b 21), .ref (b 22), .int 0, .ref (b 23), .ref (b 24), .ref (b 25), .ref (b 26), .ref (b 27), .ref (b 28), .ref (b 29), .ref (b 30), .ref (b 31), .ref (b 32), .ref (b 33), .int 0, .int 0, .ref (b 34), .ref (b 35), .ref (b 36), .ref (b 37), .ref (b 38), .int 0, .int 0, .ref (b 39), .ref (b 40), .ref (b 41), .ref (b 42), .ref (b 43), .ref (b 44), .ref (b 45), .int 0, .int 0, .int 0, .ref (b 46), .int 0, .int 0]))]) sz) := by
  refine Met.ofW (cc := cX9_fails) (maxL := 2) (ret := none) (by decide) rfl ?_
  intro p e s m args below meth c s₁ B hml hv
  obtain ⟨rfl, rfl, hP, hK, hD0⟩ := hv
  have hx := B.exec
  have hb := B.bytes
  have hr := B.returns
  have hts := atoms_spec (ws := vs_X9_fails) B.pre
  have v_1 := hts (.fieldLink RX9 186 "ClockReachModel" "wrong" "I") (List.mem_of_getElem? (i := 1) rfl)
  have v_2 := hts (.fieldLink RX9 172 "ClockReachModel" "token" "I") (List.mem_of_getElem? (i := 2) rfl)
  have v_3 := hts (.fieldLink RX9 166 "ClockReachModel" "at" "I") (List.mem_of_getElem? (i := 3) rfl)
  have v_4 := hts (.fieldLink RX9 189 "ClockReachModel" "wrongAt" "I") (List.mem_of_getElem? (i := 4) rfl)
  have hown : s.vm.findClass RX9 = some m.cls := findClass_of_methodNamed B.named
  have hlocks := B.notSynchronized
  have hiX9 : ∀ w ∈ wsX90, w ∈ vs_X9_fails := fun _ h => List.mem_cons_of_mem _ (List.mem_append_right _ h)
  have hD := hD0.self (sz := s.heap.size)
  generalize hAe : va_A ([((b 0), .inr (9, [.int 0, .ref (b 10), .ref (b 11), .ref (b 12), .ref (b 13), .ref (b 14), .ref (b 15), .ref (b 16), .ref (b 17), .ref (b 18), .ref (b 19), .ref (b 20), .ref (b 1), .ref (b 2), .ref (b 3), .ref (b 4), .int 0, .ref (b 5), .int 0, .int 0, .int 0, .int 0, .int 0, .int 0, .int 0, .int (-1), .int 0, .int 0, .int 1, .int 0, .int 0, .ref (b 21), .ref (b 22), .int 0, .ref (b 23), .ref (b 24), .ref (b 25), .ref (b 26), .ref (b 27), .ref (b 28), .ref (b 29), .ref (b 30), .ref (b 31), .ref (b 32), .ref (b 33), .int 0, .int 0, .ref (b 34), .ref (b 35), .ref (b 36), .ref (b 37), .ref (b 38), .int 0, .int 0, .ref (b 39), .ref (b 40), .ref (b 41), .ref (b 42), .ref (b 43), .ref (b 44), .ref (b 45), .int 0, .int 0, .int 0, .ref (b 46), .int 0, .int 0]))]) s.heap.size = A at hD ⊢
  have hA : ∀ q : Nat, s.heap.size ≤ q → A q := fun q h => by rw [← hAe]; exact Or.inr h
  have hS : va_S A s.heap s.heap [] := va_S.rf
  have hl := lv_entry ([.ref (b 0), .int 6]) (n := 2) (Nat.le_of_ble_eq_true rfl)
  rw [lg_entry_eq]
  generalize (lg_sl ([.ref (b 0), .int 6]) ++ List.replicate (2 - (lg_sl ([.ref (b 0), .int 6])).length) Slot.unset).toArray = ls at hl ⊢
  have hl : lv_has ls 2 [(0, .ref (b 0)), (1, .int 6)] := hl
  refine lv_aload_n hx hb dX9_fails_0 rfl (lv_at hl 0 rfl) ?_
  refine va_get (D := (dC, dI)) (ci := 9) (v := .int 0) (C := RX9) (T := TX9) (N := 67) hx hb hts hiX9 hown hK hP 0 rfl rfl 26 (by decide) v_1 (fun _ h9 => h9) rfl dX9_fails_1 ?_
  refine lv_if_ne (tgt := 32) hx hb dX9_fails_4 (by decide) (fun z => absurd z (by decide)) (fun _ => ?_)
  refine lv_aload_n hx hb dX9_fails_7 rfl (lv_at hl 0 rfl) ?_
  refine lv_aload_n hx hb dX9_fails_8 rfl (lv_at hl 0 rfl) ?_
  refine va_get (D := (dC, dI)) (ci := 9) (v := .int 0) (C := RX9) (T := TX9) (N := 67) hx hb hts hiX9 hown hK hP 0 rfl rfl 22 (by decide) v_2 (fun _ h9 => h9) rfl dX9_fails_9 ?_
  refine lv_iconst (v := 4) hx hb dX9_fails_12 (by decide) ?_
  refine lv_icmp_ne (tgt := 20) hx hb dX9_fails_13 (by decide) (fun _ => ?_) (fun z => absurd z (by decide))
  refine lv_iload_n hx hb dX9_fails_20 rfl (lv_at hl 1 rfl) ?_
  refine va_put (D := (dC, dI)) (ci := 9) (v := .int 6) (ty := .int) (C := RX9) (T := TX9) (N := 67) hx hb hts hiX9 tyX9 tyX9_ok nmX9 hown hK hP hD hS 0 rfl rfl 26 (by decide) v_1 (fun _ h9 => h9) rfl (by decide +kernel) rfl rfl (Nat.le_of_ble_eq_true rfl) dX9_fails_21 (fun H locs hP hD hS => ?_)
  have hP : va_P (dC, dI) vwCl [((b 0), .inr (9, [.int 0, .ref (b 10), .ref (b 11), .ref (b 12), .ref (b 13), .ref (b 14), .ref (b 15), .ref (b 16), .ref (b 17), .ref (b 18), .ref (b 19), .ref (b 20), .ref (b 1), .ref (b 2), .ref (b 3), .ref (b 4), .int 0, .ref (b 5), .int 0, .int 0, .int 0, .int 0, .int 0, .int 0, .int 0, .int (-1), .int 6, .int 0, .int 1, .int 0, .int 0, .ref (b 21), .ref (b 22), .int 0, .ref (b 23), .ref (b 24), .ref (b 25), .ref (b 26), .ref (b 27), .ref (b 28), .ref (b 29), .ref (b 30), .ref (b 31), .ref (b 32), .ref (b 33), .int 0, .int 0, .ref (b 34), .ref (b 35), .ref (b 36), .ref (b 37), .ref (b 38), .int 0, .int 0, .ref (b 39), .ref (b 40), .ref (b 41), .ref (b 42), .ref (b 43), .ref (b 44), .ref (b 45), .int 0, .int 0, .int 0, .ref (b 46), .int 0, .int 0]))] H := hP
  have hD : va_D A [((b 0), .inr (9, [.int 0, .ref (b 10), .ref (b 11), .ref (b 12), .ref (b 13), .ref (b 14), .ref (b 15), .ref (b 16), .ref (b 17), .ref (b 18), .ref (b 19), .ref (b 20), .ref (b 1), .ref (b 2), .ref (b 3), .ref (b 4), .int 0, .ref (b 5), .int 0, .int 0, .int 0, .int 0, .int 0, .int 0, .int 0, .int (-1), .int 6, .int 0, .int 1, .int 0, .int 0, .ref (b 21), .ref (b 22), .int 0, .ref (b 23), .ref (b 24), .ref (b 25), .ref (b 26), .ref (b 27), .ref (b 28), .ref (b 29), .ref (b 30), .ref (b 31), .ref (b 32), .ref (b 33), .int 0, .int 0, .ref (b 34), .ref (b 35), .ref (b 36), .ref (b 37), .ref (b 38), .int 0, .int 0, .ref (b 39), .ref (b 40), .ref (b 41), .ref (b 42), .ref (b 43), .ref (b 44), .ref (b 45), .int 0, .int 0, .int 0, .ref (b 46), .int 0, .int 0]))] := hD
  refine lv_aload_n hx hb dX9_fails_24 rfl (lv_at hl 0 rfl) ?_
  refine lv_aload_n hx hb dX9_fails_25 rfl (lv_at hl 0 rfl) ?_
  refine va_get (D := (dC, dI)) (ci := 9) (v := .int 0) (C := RX9) (T := TX9) (N := 67) hx hb hts hiX9 hown hK hP 0 rfl rfl 20 (by decide) v_3 (fun _ h9 => h9) rfl dX9_fails_26 ?_
  refine va_put (D := (dC, dI)) (ci := 9) (v := .int 0) (ty := .int) (C := RX9) (T := TX9) (N := 67) hx hb hts hiX9 tyX9 tyX9_ok nmX9 hown hK hP hD hS 0 rfl rfl 27 (by decide) v_4 (fun _ h9 => h9) rfl (by decide +kernel) rfl rfl (Nat.le_of_ble_eq_true rfl) dX9_fails_29 (fun H locs hP hD hS => ?_)
  have hP : va_P (dC, dI) vwCl [((b 0), .inr (9, [.int 0, .ref (b 10), .ref (b 11), .ref (b 12), .ref (b 13), .ref (b 14), .ref (b 15), .ref (b 16), .ref (b 17), .ref (b 18), .ref (b 19), .ref (b 20), .ref (b 1), .ref (b 2), .ref (b 3), .ref (b 4), .int 0, .ref (b 5), .int 0, .int 0, .int 0, .int 0, .int 0, .int 0, .int 0, .int (-1), .int 6, .int 0, .int 1, .int 0, .int 0, .ref (b 21), .ref (b 22), .int 0, .ref (b 23), .ref (b 24), .ref (b 25), .ref (b 26), .ref (b 27), .ref (b 28), .ref (b 29), .ref (b 30), .ref (b 31), .ref (b 32), .ref (b 33), .int 0, .int 0, .ref (b 34), .ref (b 35), .ref (b 36), .ref (b 37), .ref (b 38), .int 0, .int 0, .ref (b 39), .ref (b 40), .ref (b 41), .ref (b 42), .ref (b 43), .ref (b 44), .ref (b 45), .int 0, .int 0, .int 0, .ref (b 46), .int 0, .int 0]))] H := hP
  have hD : va_D A [((b 0), .inr (9, [.int 0, .ref (b 10), .ref (b 11), .ref (b 12), .ref (b 13), .ref (b 14), .ref (b 15), .ref (b 16), .ref (b 17), .ref (b 18), .ref (b 19), .ref (b 20), .ref (b 1), .ref (b 2), .ref (b 3), .ref (b 4), .int 0, .ref (b 5), .int 0, .int 0, .int 0, .int 0, .int 0, .int 0, .int 0, .int (-1), .int 6, .int 0, .int 1, .int 0, .int 0, .ref (b 21), .ref (b 22), .int 0, .ref (b 23), .ref (b 24), .ref (b 25), .ref (b 26), .ref (b 27), .ref (b 28), .ref (b 29), .ref (b 30), .ref (b 31), .ref (b 32), .ref (b 33), .int 0, .int 0, .ref (b 34), .ref (b 35), .ref (b 36), .ref (b 37), .ref (b 38), .int 0, .int 0, .ref (b 39), .ref (b 40), .ref (b 41), .ref (b 42), .ref (b 43), .ref (b 44), .ref (b 45), .int 0, .int 0, .int 0, .ref (b 46), .int 0, .int 0]))] := hD
  have hP9 := hP.sub (ws' := [((b 0), .inr (9, [.int 0, .ref (b 10), .ref (b 11), .ref (b 12), .ref (b 13), .ref (b 14), .ref (b 15), .ref (b 16), .ref (b 17), .ref (b 18), .ref (b 19), .ref (b 20), .ref (b 1), .ref (b 2), .ref (b 3), .ref (b 4), .int 0, .ref (b 5), .int 0, .int 0, .int 0, .int 0, .int 0, .int 0, .int 0, .int (-1), .int 6, .int 0, .int 1, .int 0, .int 0, .ref (b 21), .ref (b 22), .int 0, .ref (b 23), .ref (b 24), .ref (b 25), .ref (b 26), .ref (b 27), .ref (b 28), .ref (b 29), .ref (b 30), .ref (b 31), .ref (b 32), .ref (b 33), .int 0, .int 0, .ref (b 34), .ref (b 35), .ref (b 36), .ref (b 37), .ref (b 38), .int 0, .int 0, .ref (b 39), .ref (b 40), .ref (b 41), .ref (b 42), .ref (b 43), .ref (b 44), .ref (b 45), .int 0, .int 0, .int 0, .ref (b 46), .int 0, .int 0]))]) [0] rfl
  have hD9 := hD.sub (ws' := [((b 0), .inr (9, [.int 0, .ref (b 10), .ref (b 11), .ref (b 12), .ref (b 13), .ref (b 14), .ref (b 15), .ref (b 16), .ref (b 17), .ref (b 18), .ref (b 19), .ref (b 20), .ref (b 1), .ref (b 2), .ref (b 3), .ref (b 4), .int 0, .ref (b 5), .int 0, .int 0, .int 0, .int 0, .int 0, .int 0, .int 0, .int (-1), .int 6, .int 0, .int 1, .int 0, .int 0, .ref (b 21), .ref (b 22), .int 0, .ref (b 23), .ref (b 24), .ref (b 25), .ref (b 26), .ref (b 27), .ref (b 28), .ref (b 29), .ref (b 30), .ref (b 31), .ref (b 32), .ref (b 33), .int 0, .int 0, .ref (b 34), .ref (b 35), .ref (b 36), .ref (b 37), .ref (b 38), .int 0, .int 0, .ref (b 39), .ref (b 40), .ref (b 41), .ref (b 42), .ref (b 43), .ref (b 44), .ref (b 45), .int 0, .int 0, .int 0, .ref (b 46), .int 0, .int 0]))]) [0] (by decide) rfl
  have hK9 := hK.sub (tys' := []) [] rfl
  exact W.vret hx hb hr (fun t ht hW => ⟨⟨(), rfl, trivial, ⟨by rw [ht]; exact hP9, va_K.moved hW.alike hK9, hD9⟩⟩, hS.F ht⟩) hS.2.2 dX9_fails_32
theorem dX9_isGood_11 : decode cX9_isGood 11 = .ok (.iconst 0, 1) := by decide +kernel
def vs_X9_isGood_0 : List Cond := .code yX9_isGood cX9_isGood 1 (some .boolean) :: ([.fieldLink RX9 186 "ClockReachModel" "wrong" "I"] ++ wsX90)
set_option maxHeartbeats 4000000 in
set_option maxRecDepth 100000 in
theorem c_X9_isGood_0 (l : Launch) (dC : Nat → ClassId) (dI : Nat → Nat → Nat) (sz : Nat) (b : Nat → Nat) (j : Nat → ClassId) : Met l yX9_isGood vs_X9_isGood_0 ({ frames := 0, cells := 0, slots := 0, locals := 0 }) (va_Pc [.ref (b 0)] (pu_B (dC, dI) [((b 0), .inr (9, [.int 0, .ref (b 10), .ref (b 11), .ref (b 12), .ref (b 13), .ref (b 14), .ref (b 15), .ref (b 16), .ref (b 17), .ref (b 18), .ref (b 19), .ref (b 20), .ref (b 1), .ref (b 2), .ref (b 3), .ref (b 4), .int 0, .ref (b 5), .int 0, .int 0, .int 0, .int 0, .int 0, .int 0, .int 6, .int 0, .int 6, .int 0, .int 1, .int 0, .int 0, .ref (b 21), .ref (b 22), .int 0, .ref (b 23), .ref (b 24), .ref (b 25), .ref (b 26), .ref (b 27), .ref (b 28), .ref (b 29), .ref (b 30), .ref (b 31), .ref (b 32), .ref (b 33), .int 0, .int 0, .ref (b 34), .ref (b 35), .ref (b 36), .ref (b 37), .ref (b 38), .int 0, .int 0, .ref (b 39), .ref (b 40), .ref (b 41), .ref (b 42), .ref (b 43), .ref (b 44), .ref (b 45), .int 0, .int 0, .int 0, .ref (b 46), .int 0, .int 0]))] [] sz)) (va_Qi (fun (r : Int32) (_ : Unit) => r = 0) (fun _ _ => True) (va_A [] sz)) 0 0 (va_A [] sz) := by
  refine Met.ofW (cc := cX9_isGood) (maxL := 1) (ret := (some .boolean)) (by decide) rfl ?_
  intro p e s m args below meth c s₁ B hml hv
  obtain ⟨rfl, rfl, hP, hK, hD0⟩ := hv
  have hx := B.exec
  have hb := B.bytes
  have hr := B.returns
  have hts := atoms_spec (ws := vs_X9_isGood_0) B.pre
  have v_1 := hts (.fieldLink RX9 186 "ClockReachModel" "wrong" "I") (List.mem_of_getElem? (i := 1) rfl)
  have hown : s.vm.findClass RX9 = some m.cls := findClass_of_methodNamed B.named
  have hlocks := B.notSynchronized
  have hiX9 : ∀ w ∈ wsX90, w ∈ vs_X9_isGood_0 := fun _ h => List.mem_cons_of_mem _ (List.mem_append_right _ h)
  have hD := hD0
  have hA : ∀ q : Nat, s.heap.size ≤ q → va_A [] s.heap.size q := fun _ h => Or.inr h
  have hS : va_S (va_A [] s.heap.size) s.heap s.heap [] := va_S.rf
  have hl := lv_entry ([.ref (b 0)]) (n := 1) (Nat.le_of_ble_eq_true rfl)
  rw [lg_entry_eq]
  generalize (lg_sl ([.ref (b 0)]) ++ List.replicate (1 - (lg_sl ([.ref (b 0)])).length) Slot.unset).toArray = ls at hl ⊢
  have hl : lv_has ls 1 [(0, .ref (b 0))] := hl
  refine lv_aload_n hx hb dX9_isGood_0 rfl (lv_at hl 0 rfl) ?_
  refine va_get (D := (dC, dI)) (ci := 9) (v := .int 6) (C := RX9) (T := TX9) (N := 67) hx hb hts hiX9 hown hK hP 0 rfl rfl 26 (by decide) v_1 (fun _ h9 => h9) rfl dX9_isGood_1 ?_
  refine lv_if_ne (tgt := 11) hx hb dX9_isGood_4 (by decide) (fun _ => ?_) (fun z => absurd z (by decide))
  refine lv_iconst (v := 0) hx hb dX9_isGood_11 (by decide) ?_
  exact W.zret (v := 0) (ty := .boolean) hx hb hr rfl (fun t ht hW => ⟨⟨0, (), rfl, by first | rfl | decide | simp_all, trivial⟩, hS.F ht⟩) hS.2.2 dX9_isGood_12
theorem dX9_automaton_0 : decode cX9_automaton 0 = .ok (.aload_n 0, 1) := by decide +kernel
theorem dX9_automaton_1 : decode cX9_automaton 1 = .ok (.iconst 0, 1) := by decide +kernel
theorem dX9_automaton_2 : decode cX9_automaton 2 = .ok (.putfield 142, 3) := by decide +kernel
theorem dX9_automaton_5 : decode cX9_automaton 5 = .ok (.aload_n 0, 1) := by decide +kernel
theorem dX9_automaton_6 : decode cX9_automaton 6 = .ok (.aload_n 0, 1) := by decide +kernel
theorem dX9_automaton_7 : decode cX9_automaton 7 = .ok (.getfield 145, 3) := by decide +kernel
theorem dX9_automaton_10 : decode cX9_automaton 10 = .ok (.putfield 156, 3) := by decide +kernel
theorem dX9_automaton_13 : decode cX9_automaton 13 = .ok (.aload_n 0, 1) := by decide +kernel
theorem dX9_automaton_14 : decode cX9_automaton 14 = .ok (.iconst 0, 1) := by decide +kernel
theorem dX9_automaton_15 : decode cX9_automaton 15 = .ok (.putfield 145, 3) := by decide +kernel
theorem dX9_automaton_18 : decode cX9_automaton 18 = .ok (.aload_n 0, 1) := by decide +kernel
theorem dX9_automaton_19 : decode cX9_automaton 19 = .ok (.iconst 0, 1) := by decide +kernel
theorem dX9_automaton_20 : decode cX9_automaton 20 = .ok (.putfield 159, 3) := by decide +kernel
theorem dX9_automaton_23 : decode cX9_automaton 23 = .ok (.aload_n 0, 1) := by decide +kernel
theorem dX9_automaton_24 : decode cX9_automaton 24 = .ok (.iconst 0, 1) := by decide +kernel
theorem dX9_automaton_25 : decode cX9_automaton 25 = .ok (.putfield 186, 3) := by decide +kernel
theorem dX9_automaton_28 : decode cX9_automaton 28 = .ok (.aload_n 0, 1) := by decide +kernel
theorem dX9_automaton_29 : decode cX9_automaton 29 = .ok (.iconst 1, 1) := by decide +kernel
theorem dX9_automaton_30 : decode cX9_automaton 30 = .ok (.aload_n 0, 1) := by decide +kernel
theorem dX9_automaton_31 : decode cX9_automaton 31 = .ok (.getfield 258, 3) := by decide +kernel
theorem dX9_automaton_34 : decode cX9_automaton 34 = .ok (.isub, 1) := by decide +kernel
theorem dX9_automaton_35 : decode cX9_automaton 35 = .ok (.putfield 203, 3) := by decide +kernel
theorem dX9_automaton_38 : decode cX9_automaton 38 = .ok (.aload_n 0, 1) := by decide +kernel
theorem dX9_automaton_39 : decode cX9_automaton 39 = .ok (.getfield 43, 3) := by decide +kernel
theorem dX9_automaton_42 : decode cX9_automaton 42 = .ok (.aload_n 0, 1) := by decide +kernel
theorem dX9_automaton_43 : decode cX9_automaton 43 = .ok (.getfield 203, 3) := by decide +kernel
theorem dX9_automaton_46 : decode cX9_automaton 46 = .ok (.iconst 0, 1) := by decide +kernel
theorem dX9_automaton_47 : decode cX9_automaton 47 = .ok (.iastore, 1) := by decide +kernel
theorem dX9_automaton_48 : decode cX9_automaton 48 = .ok (.aload_n 0, 1) := by decide +kernel
theorem dX9_automaton_49 : decode cX9_automaton 49 = .ok (.getfield 46, 3) := by decide +kernel
theorem dX9_automaton_52 : decode cX9_automaton 52 = .ok (.aload_n 0, 1) := by decide +kernel
theorem dX9_automaton_53 : decode cX9_automaton 53 = .ok (.getfield 203, 3) := by decide +kernel
theorem dX9_automaton_56 : decode cX9_automaton 56 = .ok (.iconst 0, 1) := by decide +kernel
theorem dX9_automaton_57 : decode cX9_automaton 57 = .ok (.iastore, 1) := by decide +kernel
theorem dX9_automaton_58 : decode cX9_automaton 58 = .ok (.aload_n 0, 1) := by decide +kernel
theorem dX9_automaton_59 : decode cX9_automaton 59 = .ok (.getfield 49, 3) := by decide +kernel
theorem dX9_automaton_62 : decode cX9_automaton 62 = .ok (.aload_n 0, 1) := by decide +kernel
theorem dX9_automaton_63 : decode cX9_automaton 63 = .ok (.getfield 203, 3) := by decide +kernel
theorem dX9_automaton_66 : decode cX9_automaton 66 = .ok (.iconst 0, 1) := by decide +kernel
theorem dX9_automaton_67 : decode cX9_automaton 67 = .ok (.iastore, 1) := by decide +kernel
theorem dX9_automaton_68 : decode cX9_automaton 68 = .ok (.aload_n 0, 1) := by decide +kernel
theorem dX9_automaton_69 : decode cX9_automaton 69 = .ok (.getfield 52, 3) := by decide +kernel
theorem dX9_automaton_72 : decode cX9_automaton 72 = .ok (.aload_n 0, 1) := by decide +kernel
theorem dX9_automaton_73 : decode cX9_automaton 73 = .ok (.getfield 203, 3) := by decide +kernel
theorem dX9_automaton_76 : decode cX9_automaton 76 = .ok (.iconst (-1), 1) := by decide +kernel
theorem dX9_automaton_77 : decode cX9_automaton 77 = .ok (.iastore, 1) := by decide +kernel
theorem dX9_automaton_78 : decode cX9_automaton 78 = .ok (.aload_n 0, 1) := by decide +kernel
theorem dX9_automaton_79 : decode cX9_automaton 79 = .ok (.invokevirtual 226, 3) := by decide +kernel
theorem dX9_automaton_82 : decode cX9_automaton 82 = .ok (.aload_n 0, 1) := by decide +kernel
theorem dX9_automaton_83 : decode cX9_automaton 83 = .ok (.invokevirtual 216, 3) := by decide +kernel
theorem dX9_automaton_86 : decode cX9_automaton 86 = .ok (.ifCond .eq 49, 3) := by decide +kernel
theorem dX9_automaton_89 : decode cX9_automaton 89 = .ok (.aload_n 0, 1) := by decide +kernel
theorem dX9_automaton_90 : decode cX9_automaton 90 = .ok (.getfield 172, 3) := by decide +kernel
theorem dX9_automaton_93 : decode cX9_automaton 93 = .ok (.ifCond .eq 42, 3) := by decide +kernel
theorem dX9_automaton_135 : decode cX9_automaton 135 = .ok (.aload_n 0, 1) := by decide +kernel
theorem dX9_automaton_136 : decode cX9_automaton 136 = .ok (.invokevirtual 216, 3) := by decide +kernel
theorem dX9_automaton_139 : decode cX9_automaton 139 = .ok (.ifCond .eq 21, 3) := by decide +kernel
theorem dX9_automaton_142 : decode cX9_automaton 142 = .ok (.aload_n 0, 1) := by decide +kernel
theorem dX9_automaton_143 : decode cX9_automaton 143 = .ok (.getfield 46, 3) := by decide +kernel
theorem dX9_automaton_146 : decode cX9_automaton 146 = .ok (.aload_n 0, 1) := by decide +kernel
theorem dX9_automaton_147 : decode cX9_automaton 147 = .ok (.getfield 203, 3) := by decide +kernel
theorem dX9_automaton_150 : decode cX9_automaton 150 = .ok (.iaload, 1) := by decide +kernel
theorem dX9_automaton_151 : decode cX9_automaton 151 = .ok (.ifCond .ne 9, 3) := by decide +kernel
theorem dX9_automaton_154 : decode cX9_automaton 154 = .ok (.aload_n 0, 1) := by decide +kernel
theorem dX9_automaton_155 : decode cX9_automaton 155 = .ok (.bipush 6, 2) := by decide +kernel
theorem dX9_automaton_157 : decode cX9_automaton 157 = .ok (.invokevirtual 210, 3) := by decide +kernel
theorem dX9_automaton_160 : decode cX9_automaton 160 = .ok (.aload_n 0, 1) := by decide +kernel
theorem dX9_automaton_161 : decode cX9_automaton 161 = .ok (.aload_n 0, 1) := by decide +kernel
theorem dX9_automaton_162 : decode cX9_automaton 162 = .ok (.getfield 186, 3) := by decide +kernel
theorem dX9_automaton_165 : decode cX9_automaton 165 = .ok (.putfield 264, 3) := by decide +kernel
theorem dX9_automaton_168 : decode cX9_automaton 168 = .ok (.aload_n 0, 1) := by decide +kernel
theorem dX9_automaton_169 : decode cX9_automaton 169 = .ok (.aload_n 0, 1) := by decide +kernel
theorem dX9_automaton_170 : decode cX9_automaton 170 = .ok (.getfield 186, 3) := by decide +kernel
theorem dX9_automaton_173 : decode cX9_automaton 173 = .ok (.ifCond .ne 7, 3) := by decide +kernel
theorem dX9_automaton_180 : decode cX9_automaton 180 = .ok (.aload_n 0, 1) := by decide +kernel
theorem dX9_automaton_181 : decode cX9_automaton 181 = .ok (.getfield 189, 3) := by decide +kernel
theorem dX9_automaton_184 : decode cX9_automaton 184 = .ok (.putfield 58, 3) := by decide +kernel
theorem dX9_automaton_187 : decode cX9_automaton 187 = .ok (.aload_n 0, 1) := by decide +kernel
theorem dX9_automaton_188 : decode cX9_automaton 188 = .ok (.invokevirtual 216, 3) := by decide +kernel
theorem dX9_automaton_191 : decode cX9_automaton 191 = .ok (.ifCond .ne 5, 3) := by decide +kernel
theorem dX9_automaton_194 : decode cX9_automaton 194 = .ok (.iconst (-1), 1) := by decide +kernel
theorem dX9_automaton_195 : decode cX9_automaton 195 = .ok (.ireturn, 1) := by decide +kernel
def vs_X9_automaton : List Cond := .code yX9_automaton cX9_automaton 1 (some .int) :: ([.fieldLink RX9 142 "ClockReachModel" "thrown" "I", .fieldLink RX9 145 "ClockReachModel" "taped" "I", .fieldLink RX9 156 "ClockReachModel" "size" "I", .fieldLink RX9 159 "ClockReachModel" "behind" "I", .fieldLink RX9 186 "ClockReachModel" "wrong" "I", .fieldLink RX9 258 "ClockReachModel" "bank" "I", .fieldLink RX9 203 "ClockReachModel" "rb" "I", .fieldLink RX9 43 "ClockReachModel" "clockMany" "[I", .fieldLink RX9 46 "ClockReachModel" "placeMany" "[I", .fieldLink RX9 49 "ClockReachModel" "edgeMany" "[I", .fieldLink RX9 52 "ClockReachModel" "begins" "[I", .methodLink RX9 226 yX9_next, .instanceMethod yX9_next, .selects RX9 yX9_next yX9_next, .initialized RX9, .code yX9_next cX9_next 2 none, .methodLink RX9 162 yX9_byteAt, .instanceMethod yX9_byteAt, .selects RX9 yX9_byteAt yX9_byteAt, .code yX9_byteAt cX9_byteAt 2 (some .int), .fieldLink RX9 166 "ClockReachModel" "at" "I", .fieldLink RX9 169 "ClockReachModel" "value" "I", .fieldLink RX9 172 "ClockReachModel" "token" "I", .methodLink RX9 216 yX9_isGood, .instanceMethod yX9_isGood, .selects RX9 yX9_isGood yX9_isGood, .code yX9_isGood cX9_isGood 1 (some .boolean), .methodLink RX9 210 yX9_fails, .instanceMethod yX9_fails, .selects RX9 yX9_fails yX9_fails, .code yX9_fails cX9_fails 2 none, .fieldLink RX9 189 "ClockReachModel" "wrongAt" "I", .fieldLink RX9 264 "ClockReachModel" "faultKind" "I", .fieldLink RX9 58 "ClockReachModel" "faultPlace" "I"] ++ wsX90)
theorem g_X9_automaton_X9_next : GoodIn vs_X9_automaton (wsV RX9 226 RX9 yX9_next vs_X9_next) := goodIn_r _ [12, 13, 14, 15, 16, 4, 17, 18, 19, 15, 20, 3, 21, 22, 23, 35, 36, 37, 38, 39, 40, 41, 42, 43, 44, 45, 46, 47, 48, 49, 50, 51, 52, 53, 54, 55, 56, 57, 58, 59, 60, 61, 62, 63, 64, 65, 66, 67, 68, 69, 70, 71, 72, 73, 74, 75, 76, 77, 78, 79, 80, 81, 82, 83, 84, 85, 86, 87, 88, 89, 90, 91, 92, 93, 94, 95, 96, 97, 98, 99, 100, 101] (by decide +kernel) (by decide +kernel)
theorem g_X9_automaton_X9_isGood_1 : GoodIn vs_X9_automaton (wsV RX9 216 RX9 yX9_isGood vs_X9_isGood_1) := goodIn_r _ [24, 25, 26, 15, 27, 5, 35, 36, 37, 38, 39, 40, 41, 42, 43, 44, 45, 46, 47, 48, 49, 50, 51, 52, 53, 54, 55, 56, 57, 58, 59, 60, 61, 62, 63, 64, 65, 66, 67, 68, 69, 70, 71, 72, 73, 74, 75, 76, 77, 78, 79, 80, 81, 82, 83, 84, 85, 86, 87, 88, 89, 90, 91, 92, 93, 94, 95, 96, 97, 98, 99, 100, 101] (by decide +kernel) (by decide +kernel)
theorem g_X9_automaton_X9_fails : GoodIn vs_X9_automaton (wsV RX9 210 RX9 yX9_fails vs_X9_fails) := goodIn_r _ [28, 29, 30, 15, 31, 5, 23, 21, 32, 35, 36, 37, 38, 39, 40, 41, 42, 43, 44, 45, 46, 47, 48, 49, 50, 51, 52, 53, 54, 55, 56, 57, 58, 59, 60, 61, 62, 63, 64, 65, 66, 67, 68, 69, 70, 71, 72, 73, 74, 75, 76, 77, 78, 79, 80, 81, 82, 83, 84, 85, 86, 87, 88, 89, 90, 91, 92, 93, 94, 95, 96, 97, 98, 99, 100, 101] (by decide +kernel) (by decide +kernel)
theorem g_X9_automaton_X9_isGood_0 : GoodIn vs_X9_automaton (wsV RX9 216 RX9 yX9_isGood vs_X9_isGood_0) := goodIn_r _ [24, 25, 26, 15, 27, 5, 35, 36, 37, 38, 39, 40, 41, 42, 43, 44, 45, 46, 47, 48, 49, 50, 51, 52, 53, 54, 55, 56, 57, 58, 59, 60, 61, 62, 63, 64, 65, 66, 67, 68, 69, 70, 71, 72, 73, 74, 75, 76, 77, 78, 79, 80, 81, 82, 83, 84, 85, 86, 87, 88, 89, 90, 91, 92, 93, 94, 95, 96, 97, 98, 99, 100, 101] (by decide +kernel) (by decide +kernel)
set_option maxHeartbeats 4000000 in
set_option maxRecDepth 100000 in
theorem c_X9_automaton (l : Launch) (dC : Nat → ClassId) (dI : Nat → Nat → Nat) (sz : Nat) (b : Nat → Nat) (j : Nat → ClassId) : Met l yX9_automaton vs_X9_automaton ({ frames := 2, cells := 0, slots := 0, locals := 42 }) (va_Pc [.ref (b 0)] (pu_B (dC, dI) (wM b j) (tM j) sz)) (va_Qi (fun (r : Int32) (_ : Unit) => r = -1) (fun _ _ => True) (va_A (wM b j) sz)) 0 0 (va_A (wM b j) sz) := by
  refine Met.ofW (cc := cX9_automaton) (maxL := 1) (ret := (some .int)) (by decide) rfl ?_
  intro p e s m args below meth c s₁ B hml hv
  obtain ⟨rfl, rfl, hP, hK, hD0⟩ := hv
  have hx := B.exec
  have hb := B.bytes
  have hr := B.returns
  have hts := atoms_spec (ws := vs_X9_automaton) B.pre
  have v_1 := hts (.fieldLink RX9 142 "ClockReachModel" "thrown" "I") (List.mem_of_getElem? (i := 1) rfl)
  have v_2 := hts (.fieldLink RX9 145 "ClockReachModel" "taped" "I") (List.mem_of_getElem? (i := 2) rfl)
  have v_3 := hts (.fieldLink RX9 156 "ClockReachModel" "size" "I") (List.mem_of_getElem? (i := 3) rfl)
  have v_4 := hts (.fieldLink RX9 159 "ClockReachModel" "behind" "I") (List.mem_of_getElem? (i := 4) rfl)
  have v_5 := hts (.fieldLink RX9 186 "ClockReachModel" "wrong" "I") (List.mem_of_getElem? (i := 5) rfl)
  have v_6 := hts (.fieldLink RX9 258 "ClockReachModel" "bank" "I") (List.mem_of_getElem? (i := 6) rfl)
  have v_7 := hts (.fieldLink RX9 203 "ClockReachModel" "rb" "I") (List.mem_of_getElem? (i := 7) rfl)
  have v_8 := hts (.fieldLink RX9 43 "ClockReachModel" "clockMany" "[I") (List.mem_of_getElem? (i := 8) rfl)
  have v_9 := hts (.fieldLink RX9 46 "ClockReachModel" "placeMany" "[I") (List.mem_of_getElem? (i := 9) rfl)
  have v_10 := hts (.fieldLink RX9 49 "ClockReachModel" "edgeMany" "[I") (List.mem_of_getElem? (i := 10) rfl)
  have v_11 := hts (.fieldLink RX9 52 "ClockReachModel" "begins" "[I") (List.mem_of_getElem? (i := 11) rfl)
  have v_23 := hts (.fieldLink RX9 172 "ClockReachModel" "token" "I") (List.mem_of_getElem? (i := 23) rfl)
  have v_32 := hts (.fieldLink RX9 189 "ClockReachModel" "wrongAt" "I") (List.mem_of_getElem? (i := 32) rfl)
  have v_33 := hts (.fieldLink RX9 264 "ClockReachModel" "faultKind" "I") (List.mem_of_getElem? (i := 33) rfl)
  have v_34 := hts (.fieldLink RX9 58 "ClockReachModel" "faultPlace" "I") (List.mem_of_getElem? (i := 34) rfl)
  have hown : s.vm.findClass RX9 = some m.cls := findClass_of_methodNamed B.named
  have hlocks := B.notSynchronized
  have hiX9 : ∀ w ∈ wsX90, w ∈ vs_X9_automaton := fun _ h => List.mem_cons_of_mem _ (List.mem_append_right _ h)
  have hD := hD0.self (sz := s.heap.size)
  generalize hAe : va_A (wM b j) s.heap.size = A at hD ⊢
  have hA : ∀ q : Nat, s.heap.size ≤ q → A q := fun q h => by rw [← hAe]; exact Or.inr h
  have hS : va_S A s.heap s.heap [] := va_S.rf
  have hl := lv_entry ([.ref (b 0)]) (n := 1) (Nat.le_of_ble_eq_true rfl)
  rw [lg_entry_eq]
  generalize (lg_sl ([.ref (b 0)]) ++ List.replicate (1 - (lg_sl ([.ref (b 0)])).length) Slot.unset).toArray = ls at hl ⊢
  have hl : lv_has ls 1 [(0, .ref (b 0))] := hl
  refine lv_aload_n hx hb dX9_automaton_0 rfl (lv_at hl 0 rfl) ?_
  refine lv_iconst (v := 0) hx hb dX9_automaton_1 (by decide) ?_
  refine va_put (D := (dC, dI)) (ci := 9) (v := .int 0) (ty := .int) (C := RX9) (T := TX9) (N := 67) hx hb hts hiX9 tyX9 tyX9_ok nmX9 hown hK hP hD hS 0 rfl rfl 0 (by decide) v_1 (fun _ h9 => h9) rfl (by decide +kernel) rfl rfl (Nat.le_of_ble_eq_true rfl) dX9_automaton_2 (fun H locs hP hD hS => ?_)
  have hP : va_P (dC, dI) vwCl (wM b j) H := hP
  have hD : va_D A (wM b j) := hD
  refine lv_aload_n hx hb dX9_automaton_5 rfl (lv_at hl 0 rfl) ?_
  refine lv_aload_n hx hb dX9_automaton_6 rfl (lv_at hl 0 rfl) ?_
  refine va_get (D := (dC, dI)) (ci := 9) (v := .int 0) (C := RX9) (T := TX9) (N := 67) hx hb hts hiX9 hown hK hP 0 rfl rfl 18 (by decide) v_2 (fun _ h9 => h9) rfl dX9_automaton_7 ?_
  refine va_put (D := (dC, dI)) (ci := 9) (v := .int 0) (ty := .int) (C := RX9) (T := TX9) (N := 67) hx hb hts hiX9 tyX9 tyX9_ok nmX9 hown hK hP hD hS 0 rfl rfl 19 (by decide) v_3 (fun _ h9 => h9) rfl (by decide +kernel) rfl rfl (Nat.le_of_ble_eq_true rfl) dX9_automaton_10 (fun H locs hP hD hS => ?_)
  have hP : va_P (dC, dI) vwCl (wM b j) H := hP
  have hD : va_D A (wM b j) := hD
  refine lv_aload_n hx hb dX9_automaton_13 rfl (lv_at hl 0 rfl) ?_
  refine lv_iconst (v := 0) hx hb dX9_automaton_14 (by decide) ?_
  refine va_put (D := (dC, dI)) (ci := 9) (v := .int 0) (ty := .int) (C := RX9) (T := TX9) (N := 67) hx hb hts hiX9 tyX9 tyX9_ok nmX9 hown hK hP hD hS 0 rfl rfl 18 (by decide) v_2 (fun _ h9 => h9) rfl (by decide +kernel) rfl rfl (Nat.le_of_ble_eq_true rfl) dX9_automaton_15 (fun H locs hP hD hS => ?_)
  have hP : va_P (dC, dI) vwCl (wM b j) H := hP
  have hD : va_D A (wM b j) := hD
  refine lv_aload_n hx hb dX9_automaton_18 rfl (lv_at hl 0 rfl) ?_
  refine lv_iconst (v := 0) hx hb dX9_automaton_19 (by decide) ?_
  refine va_put (D := (dC, dI)) (ci := 9) (v := .int 0) (ty := .int) (C := RX9) (T := TX9) (N := 67) hx hb hts hiX9 tyX9 tyX9_ok nmX9 hown hK hP hD hS 0 rfl rfl 21 (by decide) v_4 (fun _ h9 => h9) rfl (by decide +kernel) rfl rfl (Nat.le_of_ble_eq_true rfl) dX9_automaton_20 (fun H locs hP hD hS => ?_)
  have hP : va_P (dC, dI) vwCl (wM b j) H := hP
  have hD : va_D A (wM b j) := hD
  refine lv_aload_n hx hb dX9_automaton_23 rfl (lv_at hl 0 rfl) ?_
  refine lv_iconst (v := 0) hx hb dX9_automaton_24 (by decide) ?_
  refine va_put (D := (dC, dI)) (ci := 9) (v := .int 0) (ty := .int) (C := RX9) (T := TX9) (N := 67) hx hb hts hiX9 tyX9 tyX9_ok nmX9 hown hK hP hD hS 0 rfl rfl 26 (by decide) v_5 (fun _ h9 => h9) rfl (by decide +kernel) rfl rfl (Nat.le_of_ble_eq_true rfl) dX9_automaton_25 (fun H locs hP hD hS => ?_)
  have hP : va_P (dC, dI) vwCl (wM b j) H := hP
  have hD : va_D A (wM b j) := hD
  refine lv_aload_n hx hb dX9_automaton_28 rfl (lv_at hl 0 rfl) ?_
  refine lv_iconst (v := 1) hx hb dX9_automaton_29 (by decide) ?_
  refine lv_aload_n hx hb dX9_automaton_30 rfl (lv_at hl 0 rfl) ?_
  refine va_get (D := (dC, dI)) (ci := 9) (v := .int 0) (C := RX9) (T := TX9) (N := 67) hx hb hts hiX9 hown hK hP 0 rfl rfl 16 (by decide) v_6 (fun _ h9 => h9) rfl dX9_automaton_31 ?_
  refine lv_isub hx hb dX9_automaton_34 ?_
  refine lv_topi (fun y_1 ey_1 => ?_)
  obtain rfl : y_1 = 1 := ey_1.trans (by decide)
  refine va_put (D := (dC, dI)) (ci := 9) (v := .int 1) (ty := .int) (C := RX9) (T := TX9) (N := 67) hx hb hts hiX9 tyX9 tyX9_ok nmX9 hown hK hP hD hS 0 rfl rfl 28 (by decide) v_7 (fun _ h9 => h9) rfl (by decide +kernel) rfl rfl (Nat.le_of_ble_eq_true rfl) dX9_automaton_35 (fun H locs hP hD hS => ?_)
  have hP : va_P (dC, dI) vwCl [((b 0), .inr (9, [.int 0, .ref (b 10), .ref (b 11), .ref (b 12), .ref (b 13), .ref (b 14), .ref (b 15), .ref (b 16), .ref (b 17), .ref (b 18), .ref (b 19), .ref (b 20), .ref (b 1), .ref (b 2), .ref (b 3), .ref (b 4), .int 0, .ref (b 5), .int 0, .int 0, .int 0, .int 0, .int 0, .int 0, .int 0, .int (-1), .int 0, .int 0, .int 1, .int 0, .int 0, .ref (b 21), .ref (b 22), .int 0, .ref (b 23), .ref (b 24), .ref (b 25), .ref (b 26), .ref (b 27), .ref (b 28), .ref (b 29), .ref (b 30), .ref (b 31), .ref (b 32), .ref (b 33), .int 0, .int 0, .ref (b 34), .ref (b 35), .ref (b 36), .ref (b 37), .ref (b 38), .int 0, .int 0, .ref (b 39), .ref (b 40), .ref (b 41), .ref (b 42), .ref (b 43), .ref (b 44), .ref (b 45), .int 0, .int 0, .int 0, .ref (b 46), .int 0, .int 0])), ((b 1), .inl ((j 1), 2, .inl (fun _ => 0))), ((b 2), .inl ((j 2), 2, .inl (fun _ => 0))), ((b 3), .inl ((j 3), 2, .inl (fun _ => 0))), ((b 4), .inl ((j 4), 2, .inl begF)), ((b 5), .inl ((j 5), 900, .inl (fun _ => 0)))] H := hP
  have hD : va_D A [((b 0), .inr (9, [.int 0, .ref (b 10), .ref (b 11), .ref (b 12), .ref (b 13), .ref (b 14), .ref (b 15), .ref (b 16), .ref (b 17), .ref (b 18), .ref (b 19), .ref (b 20), .ref (b 1), .ref (b 2), .ref (b 3), .ref (b 4), .int 0, .ref (b 5), .int 0, .int 0, .int 0, .int 0, .int 0, .int 0, .int 0, .int (-1), .int 0, .int 0, .int 1, .int 0, .int 0, .ref (b 21), .ref (b 22), .int 0, .ref (b 23), .ref (b 24), .ref (b 25), .ref (b 26), .ref (b 27), .ref (b 28), .ref (b 29), .ref (b 30), .ref (b 31), .ref (b 32), .ref (b 33), .int 0, .int 0, .ref (b 34), .ref (b 35), .ref (b 36), .ref (b 37), .ref (b 38), .int 0, .int 0, .ref (b 39), .ref (b 40), .ref (b 41), .ref (b 42), .ref (b 43), .ref (b 44), .ref (b 45), .int 0, .int 0, .int 0, .ref (b 46), .int 0, .int 0])), ((b 1), .inl ((j 1), 2, .inl (fun _ => 0))), ((b 2), .inl ((j 2), 2, .inl (fun _ => 0))), ((b 3), .inl ((j 3), 2, .inl (fun _ => 0))), ((b 4), .inl ((j 4), 2, .inl begF)), ((b 5), .inl ((j 5), 900, .inl (fun _ => 0)))] := hD
  refine lv_aload_n hx hb dX9_automaton_38 rfl (lv_at hl 0 rfl) ?_
  refine va_get (D := (dC, dI)) (ci := 9) (v := .ref (b 1)) (C := RX9) (T := TX9) (N := 67) hx hb hts hiX9 hown hK hP 0 rfl rfl 12 (by decide) v_8 (fun _ h9 => h9) rfl dX9_automaton_39 ?_
  refine lv_aload_n hx hb dX9_automaton_42 rfl (lv_at hl 0 rfl) ?_
  refine va_get (D := (dC, dI)) (ci := 9) (v := .int 1) (C := RX9) (T := TX9) (N := 67) hx hb hts hiX9 hown hK hP 0 rfl rfl 28 (by decide) v_7 (fun _ h9 => h9) rfl dX9_automaton_43 ?_
  refine lv_iconst (v := 0) hx hb dX9_automaton_46 (by decide) ?_
  refine va_iast hx hb hK hP hD hS 1 0 rfl rfl (show ¬ (_ ∨ _) by decide) dX9_automaton_47 (fun H locs hP hD hS => ?_)
  have hP : va_P (dC, dI) vwCl [((b 0), .inr (9, [.int 0, .ref (b 10), .ref (b 11), .ref (b 12), .ref (b 13), .ref (b 14), .ref (b 15), .ref (b 16), .ref (b 17), .ref (b 18), .ref (b 19), .ref (b 20), .ref (b 1), .ref (b 2), .ref (b 3), .ref (b 4), .int 0, .ref (b 5), .int 0, .int 0, .int 0, .int 0, .int 0, .int 0, .int 0, .int (-1), .int 0, .int 0, .int 1, .int 0, .int 0, .ref (b 21), .ref (b 22), .int 0, .ref (b 23), .ref (b 24), .ref (b 25), .ref (b 26), .ref (b 27), .ref (b 28), .ref (b 29), .ref (b 30), .ref (b 31), .ref (b 32), .ref (b 33), .int 0, .int 0, .ref (b 34), .ref (b 35), .ref (b 36), .ref (b 37), .ref (b 38), .int 0, .int 0, .ref (b 39), .ref (b 40), .ref (b 41), .ref (b 42), .ref (b 43), .ref (b 44), .ref (b 45), .int 0, .int 0, .int 0, .ref (b 46), .int 0, .int 0])), ((b 1), .inl ((j 1), 2, .inl (upd (fun _ => 0) (1 : Int32).toNatClampNeg 0))), ((b 2), .inl ((j 2), 2, .inl (fun _ => 0))), ((b 3), .inl ((j 3), 2, .inl (fun _ => 0))), ((b 4), .inl ((j 4), 2, .inl begF)), ((b 5), .inl ((j 5), 900, .inl (fun _ => 0)))] H := hP
  have hD : va_D A [((b 0), .inr (9, [.int 0, .ref (b 10), .ref (b 11), .ref (b 12), .ref (b 13), .ref (b 14), .ref (b 15), .ref (b 16), .ref (b 17), .ref (b 18), .ref (b 19), .ref (b 20), .ref (b 1), .ref (b 2), .ref (b 3), .ref (b 4), .int 0, .ref (b 5), .int 0, .int 0, .int 0, .int 0, .int 0, .int 0, .int 0, .int (-1), .int 0, .int 0, .int 1, .int 0, .int 0, .ref (b 21), .ref (b 22), .int 0, .ref (b 23), .ref (b 24), .ref (b 25), .ref (b 26), .ref (b 27), .ref (b 28), .ref (b 29), .ref (b 30), .ref (b 31), .ref (b 32), .ref (b 33), .int 0, .int 0, .ref (b 34), .ref (b 35), .ref (b 36), .ref (b 37), .ref (b 38), .int 0, .int 0, .ref (b 39), .ref (b 40), .ref (b 41), .ref (b 42), .ref (b 43), .ref (b 44), .ref (b 45), .int 0, .int 0, .int 0, .ref (b 46), .int 0, .int 0])), ((b 1), .inl ((j 1), 2, .inl (upd (fun _ => 0) (1 : Int32).toNatClampNeg 0))), ((b 2), .inl ((j 2), 2, .inl (fun _ => 0))), ((b 3), .inl ((j 3), 2, .inl (fun _ => 0))), ((b 4), .inl ((j 4), 2, .inl begF)), ((b 5), .inl ((j 5), 900, .inl (fun _ => 0)))] := hD
  refine lv_aload_n hx hb dX9_automaton_48 rfl (lv_at hl 0 rfl) ?_
  refine va_get (D := (dC, dI)) (ci := 9) (v := .ref (b 2)) (C := RX9) (T := TX9) (N := 67) hx hb hts hiX9 hown hK hP 0 rfl rfl 13 (by decide) v_9 (fun _ h9 => h9) rfl dX9_automaton_49 ?_
  refine lv_aload_n hx hb dX9_automaton_52 rfl (lv_at hl 0 rfl) ?_
  refine va_get (D := (dC, dI)) (ci := 9) (v := .int 1) (C := RX9) (T := TX9) (N := 67) hx hb hts hiX9 hown hK hP 0 rfl rfl 28 (by decide) v_7 (fun _ h9 => h9) rfl dX9_automaton_53 ?_
  refine lv_iconst (v := 0) hx hb dX9_automaton_56 (by decide) ?_
  refine va_iast hx hb hK hP hD hS 2 1 rfl rfl (show ¬ (_ ∨ _) by decide) dX9_automaton_57 (fun H locs hP hD hS => ?_)
  have hP : va_P (dC, dI) vwCl [((b 0), .inr (9, [.int 0, .ref (b 10), .ref (b 11), .ref (b 12), .ref (b 13), .ref (b 14), .ref (b 15), .ref (b 16), .ref (b 17), .ref (b 18), .ref (b 19), .ref (b 20), .ref (b 1), .ref (b 2), .ref (b 3), .ref (b 4), .int 0, .ref (b 5), .int 0, .int 0, .int 0, .int 0, .int 0, .int 0, .int 0, .int (-1), .int 0, .int 0, .int 1, .int 0, .int 0, .ref (b 21), .ref (b 22), .int 0, .ref (b 23), .ref (b 24), .ref (b 25), .ref (b 26), .ref (b 27), .ref (b 28), .ref (b 29), .ref (b 30), .ref (b 31), .ref (b 32), .ref (b 33), .int 0, .int 0, .ref (b 34), .ref (b 35), .ref (b 36), .ref (b 37), .ref (b 38), .int 0, .int 0, .ref (b 39), .ref (b 40), .ref (b 41), .ref (b 42), .ref (b 43), .ref (b 44), .ref (b 45), .int 0, .int 0, .int 0, .ref (b 46), .int 0, .int 0])), ((b 1), .inl ((j 1), 2, .inl (upd (fun _ => 0) (1 : Int32).toNatClampNeg 0))), ((b 2), .inl ((j 2), 2, .inl (upd (fun _ => 0) (1 : Int32).toNatClampNeg 0))), ((b 3), .inl ((j 3), 2, .inl (fun _ => 0))), ((b 4), .inl ((j 4), 2, .inl begF)), ((b 5), .inl ((j 5), 900, .inl (fun _ => 0)))] H := hP
  have hD : va_D A [((b 0), .inr (9, [.int 0, .ref (b 10), .ref (b 11), .ref (b 12), .ref (b 13), .ref (b 14), .ref (b 15), .ref (b 16), .ref (b 17), .ref (b 18), .ref (b 19), .ref (b 20), .ref (b 1), .ref (b 2), .ref (b 3), .ref (b 4), .int 0, .ref (b 5), .int 0, .int 0, .int 0, .int 0, .int 0, .int 0, .int 0, .int (-1), .int 0, .int 0, .int 1, .int 0, .int 0, .ref (b 21), .ref (b 22), .int 0, .ref (b 23), .ref (b 24), .ref (b 25), .ref (b 26), .ref (b 27), .ref (b 28), .ref (b 29), .ref (b 30), .ref (b 31), .ref (b 32), .ref (b 33), .int 0, .int 0, .ref (b 34), .ref (b 35), .ref (b 36), .ref (b 37), .ref (b 38), .int 0, .int 0, .ref (b 39), .ref (b 40), .ref (b 41), .ref (b 42), .ref (b 43), .ref (b 44), .ref (b 45), .int 0, .int 0, .int 0, .ref (b 46), .int 0, .int 0])), ((b 1), .inl ((j 1), 2, .inl (upd (fun _ => 0) (1 : Int32).toNatClampNeg 0))), ((b 2), .inl ((j 2), 2, .inl (upd (fun _ => 0) (1 : Int32).toNatClampNeg 0))), ((b 3), .inl ((j 3), 2, .inl (fun _ => 0))), ((b 4), .inl ((j 4), 2, .inl begF)), ((b 5), .inl ((j 5), 900, .inl (fun _ => 0)))] := hD
  refine lv_aload_n hx hb dX9_automaton_58 rfl (lv_at hl 0 rfl) ?_
  refine va_get (D := (dC, dI)) (ci := 9) (v := .ref (b 3)) (C := RX9) (T := TX9) (N := 67) hx hb hts hiX9 hown hK hP 0 rfl rfl 14 (by decide) v_10 (fun _ h9 => h9) rfl dX9_automaton_59 ?_
  refine lv_aload_n hx hb dX9_automaton_62 rfl (lv_at hl 0 rfl) ?_
  refine va_get (D := (dC, dI)) (ci := 9) (v := .int 1) (C := RX9) (T := TX9) (N := 67) hx hb hts hiX9 hown hK hP 0 rfl rfl 28 (by decide) v_7 (fun _ h9 => h9) rfl dX9_automaton_63 ?_
  refine lv_iconst (v := 0) hx hb dX9_automaton_66 (by decide) ?_
  refine va_iast hx hb hK hP hD hS 3 2 rfl rfl (show ¬ (_ ∨ _) by decide) dX9_automaton_67 (fun H locs hP hD hS => ?_)
  have hP : va_P (dC, dI) vwCl [((b 0), .inr (9, [.int 0, .ref (b 10), .ref (b 11), .ref (b 12), .ref (b 13), .ref (b 14), .ref (b 15), .ref (b 16), .ref (b 17), .ref (b 18), .ref (b 19), .ref (b 20), .ref (b 1), .ref (b 2), .ref (b 3), .ref (b 4), .int 0, .ref (b 5), .int 0, .int 0, .int 0, .int 0, .int 0, .int 0, .int 0, .int (-1), .int 0, .int 0, .int 1, .int 0, .int 0, .ref (b 21), .ref (b 22), .int 0, .ref (b 23), .ref (b 24), .ref (b 25), .ref (b 26), .ref (b 27), .ref (b 28), .ref (b 29), .ref (b 30), .ref (b 31), .ref (b 32), .ref (b 33), .int 0, .int 0, .ref (b 34), .ref (b 35), .ref (b 36), .ref (b 37), .ref (b 38), .int 0, .int 0, .ref (b 39), .ref (b 40), .ref (b 41), .ref (b 42), .ref (b 43), .ref (b 44), .ref (b 45), .int 0, .int 0, .int 0, .ref (b 46), .int 0, .int 0])), ((b 1), .inl ((j 1), 2, .inl (upd (fun _ => 0) (1 : Int32).toNatClampNeg 0))), ((b 2), .inl ((j 2), 2, .inl (upd (fun _ => 0) (1 : Int32).toNatClampNeg 0))), ((b 3), .inl ((j 3), 2, .inl (upd (fun _ => 0) (1 : Int32).toNatClampNeg 0))), ((b 4), .inl ((j 4), 2, .inl begF)), ((b 5), .inl ((j 5), 900, .inl (fun _ => 0)))] H := hP
  have hD : va_D A [((b 0), .inr (9, [.int 0, .ref (b 10), .ref (b 11), .ref (b 12), .ref (b 13), .ref (b 14), .ref (b 15), .ref (b 16), .ref (b 17), .ref (b 18), .ref (b 19), .ref (b 20), .ref (b 1), .ref (b 2), .ref (b 3), .ref (b 4), .int 0, .ref (b 5), .int 0, .int 0, .int 0, .int 0, .int 0, .int 0, .int 0, .int (-1), .int 0, .int 0, .int 1, .int 0, .int 0, .ref (b 21), .ref (b 22), .int 0, .ref (b 23), .ref (b 24), .ref (b 25), .ref (b 26), .ref (b 27), .ref (b 28), .ref (b 29), .ref (b 30), .ref (b 31), .ref (b 32), .ref (b 33), .int 0, .int 0, .ref (b 34), .ref (b 35), .ref (b 36), .ref (b 37), .ref (b 38), .int 0, .int 0, .ref (b 39), .ref (b 40), .ref (b 41), .ref (b 42), .ref (b 43), .ref (b 44), .ref (b 45), .int 0, .int 0, .int 0, .ref (b 46), .int 0, .int 0])), ((b 1), .inl ((j 1), 2, .inl (upd (fun _ => 0) (1 : Int32).toNatClampNeg 0))), ((b 2), .inl ((j 2), 2, .inl (upd (fun _ => 0) (1 : Int32).toNatClampNeg 0))), ((b 3), .inl ((j 3), 2, .inl (upd (fun _ => 0) (1 : Int32).toNatClampNeg 0))), ((b 4), .inl ((j 4), 2, .inl begF)), ((b 5), .inl ((j 5), 900, .inl (fun _ => 0)))] := hD
  refine lv_aload_n hx hb dX9_automaton_68 rfl (lv_at hl 0 rfl) ?_
  refine va_get (D := (dC, dI)) (ci := 9) (v := .ref (b 4)) (C := RX9) (T := TX9) (N := 67) hx hb hts hiX9 hown hK hP 0 rfl rfl 15 (by decide) v_11 (fun _ h9 => h9) rfl dX9_automaton_69 ?_
  refine lv_aload_n hx hb dX9_automaton_72 rfl (lv_at hl 0 rfl) ?_
  refine va_get (D := (dC, dI)) (ci := 9) (v := .int 1) (C := RX9) (T := TX9) (N := 67) hx hb hts hiX9 hown hK hP 0 rfl rfl 28 (by decide) v_7 (fun _ h9 => h9) rfl dX9_automaton_73 ?_
  refine lv_iconst (v := (-1)) hx hb dX9_automaton_76 (by decide) ?_
  refine va_iast hx hb hK hP hD hS 4 3 rfl rfl (show ¬ (_ ∨ _) by decide) dX9_automaton_77 (fun H locs hP hD hS => ?_)
  have hP : va_P (dC, dI) vwCl [((b 0), .inr (9, [.int 0, .ref (b 10), .ref (b 11), .ref (b 12), .ref (b 13), .ref (b 14), .ref (b 15), .ref (b 16), .ref (b 17), .ref (b 18), .ref (b 19), .ref (b 20), .ref (b 1), .ref (b 2), .ref (b 3), .ref (b 4), .int 0, .ref (b 5), .int 0, .int 0, .int 0, .int 0, .int 0, .int 0, .int 0, .int (-1), .int 0, .int 0, .int 1, .int 0, .int 0, .ref (b 21), .ref (b 22), .int 0, .ref (b 23), .ref (b 24), .ref (b 25), .ref (b 26), .ref (b 27), .ref (b 28), .ref (b 29), .ref (b 30), .ref (b 31), .ref (b 32), .ref (b 33), .int 0, .int 0, .ref (b 34), .ref (b 35), .ref (b 36), .ref (b 37), .ref (b 38), .int 0, .int 0, .ref (b 39), .ref (b 40), .ref (b 41), .ref (b 42), .ref (b 43), .ref (b 44), .ref (b 45), .int 0, .int 0, .int 0, .ref (b 46), .int 0, .int 0])), ((b 1), .inl ((j 1), 2, .inl (upd (fun _ => 0) (1 : Int32).toNatClampNeg 0))), ((b 2), .inl ((j 2), 2, .inl (upd (fun _ => 0) (1 : Int32).toNatClampNeg 0))), ((b 3), .inl ((j 3), 2, .inl (upd (fun _ => 0) (1 : Int32).toNatClampNeg 0))), ((b 4), .inl ((j 4), 2, .inl (upd begF (1 : Int32).toNatClampNeg (-1)))), ((b 5), .inl ((j 5), 900, .inl (fun _ => 0)))] H := hP
  have hD : va_D A [((b 0), .inr (9, [.int 0, .ref (b 10), .ref (b 11), .ref (b 12), .ref (b 13), .ref (b 14), .ref (b 15), .ref (b 16), .ref (b 17), .ref (b 18), .ref (b 19), .ref (b 20), .ref (b 1), .ref (b 2), .ref (b 3), .ref (b 4), .int 0, .ref (b 5), .int 0, .int 0, .int 0, .int 0, .int 0, .int 0, .int 0, .int (-1), .int 0, .int 0, .int 1, .int 0, .int 0, .ref (b 21), .ref (b 22), .int 0, .ref (b 23), .ref (b 24), .ref (b 25), .ref (b 26), .ref (b 27), .ref (b 28), .ref (b 29), .ref (b 30), .ref (b 31), .ref (b 32), .ref (b 33), .int 0, .int 0, .ref (b 34), .ref (b 35), .ref (b 36), .ref (b 37), .ref (b 38), .int 0, .int 0, .ref (b 39), .ref (b 40), .ref (b 41), .ref (b 42), .ref (b 43), .ref (b 44), .ref (b 45), .int 0, .int 0, .int 0, .ref (b 46), .int 0, .int 0])), ((b 1), .inl ((j 1), 2, .inl (upd (fun _ => 0) (1 : Int32).toNatClampNeg 0))), ((b 2), .inl ((j 2), 2, .inl (upd (fun _ => 0) (1 : Int32).toNatClampNeg 0))), ((b 3), .inl ((j 3), 2, .inl (upd (fun _ => 0) (1 : Int32).toNatClampNeg 0))), ((b 4), .inl ((j 4), 2, .inl (upd begF (1 : Int32).toNatClampNeg (-1)))), ((b 5), .inl ((j 5), 900, .inl (fun _ => 0)))] := hD
  refine lv_aload_n hx hb dX9_automaton_78 rfl (lv_at hl 0 rfl) ?_
  have hFc := va_free (wc := [((b 0), .inr (9, [.int 0, .ref (b 10), .ref (b 11), .ref (b 12), .ref (b 13), .ref (b 14), .ref (b 15), .ref (b 16), .ref (b 17), .ref (b 18), .ref (b 19), .ref (b 20), .ref (b 1), .ref (b 2), .ref (b 3), .ref (b 4), .int 0, .ref (b 5), .int 0, .int 0, .int 0, .int 0, .int 0, .int 0, .int 0, .int (-1), .int 0, .int 0, .int 1, .int 0, .int 0, .ref (b 21), .ref (b 22), .int 0, .ref (b 23), .ref (b 24), .ref (b 25), .ref (b 26), .ref (b 27), .ref (b 28), .ref (b 29), .ref (b 30), .ref (b 31), .ref (b 32), .ref (b 33), .int 0, .int 0, .ref (b 34), .ref (b 35), .ref (b 36), .ref (b 37), .ref (b 38), .int 0, .int 0, .ref (b 39), .ref (b 40), .ref (b 41), .ref (b 42), .ref (b 43), .ref (b 44), .ref (b 45), .int 0, .int 0, .int 0, .ref (b 46), .int 0, .int 0]))]) hD hS hA [0] rfl
  refine va_callv (va_runV (As := []) (rest := []) ⟨hx, hb, hml, hown, hts⟩ (c_X9_next l dC dI _ b j) (cwV 0 hts g_X9_automaton_X9_next rfl rfl rfl (by decide +kernel) ⟨Nat.le_of_ble_eq_true rfl, Nat.le_of_ble_eq_true rfl⟩) ⟨pu_bl, va_recv hK hP (ci := 9) (q0 := 0) rfl rfl, pu_in (hP.sub [0] rfl) (hK.sub [] rfl) (hD.sub [0] (by decide) rfl)⟩ rfl rfl hl.1 rfl (lv_room (Nat.le_of_ble_eq_true rfl)) dX9_automaton_79 ⟨Nat.le_of_ble_eq_true rfl, Nat.le_of_ble_eq_true rfl⟩) hS (fun q _ h => hFc q h) hFc (fun u t H1 locs ht hvm hw hB hz1 hk1 hS => ?_)
  obtain ⟨hP1, hK1, hD1⟩ := hB
  rw [ht] at hP1
  have hK1 := va_K.moved hvm.symm hK1
  obtain ⟨hP, hD⟩ := va_join (wr := [((b 1), .inl ((j 1), 2, .inl (upd (fun _ => 0) (1 : Int32).toNatClampNeg 0))), ((b 2), .inl ((j 2), 2, .inl (upd (fun _ => 0) (1 : Int32).toNatClampNeg 0))), ((b 3), .inl ((j 3), 2, .inl (upd (fun _ => 0) (1 : Int32).toNatClampNeg 0))), ((b 4), .inl ((j 4), 2, .inl (upd begF (1 : Int32).toNatClampNeg (-1)))), ((b 5), .inl ((j 5), 900, .inl (fun _ => 0)))]) (w1 := [((b 0), .inr (9, [.int 0, .ref (b 10), .ref (b 11), .ref (b 12), .ref (b 13), .ref (b 14), .ref (b 15), .ref (b 16), .ref (b 17), .ref (b 18), .ref (b 19), .ref (b 20), .ref (b 1), .ref (b 2), .ref (b 3), .ref (b 4), .int 0, .ref (b 5), .int 0, .int 0, .int 0, .int 0, .int 0, .int 0, .int 0, .int (-1), .int 0, .int 0, .int 1, .int 0, .int 0, .ref (b 21), .ref (b 22), .int 0, .ref (b 23), .ref (b 24), .ref (b 25), .ref (b 26), .ref (b 27), .ref (b 28), .ref (b 29), .ref (b 30), .ref (b 31), .ref (b 32), .ref (b 33), .int 0, .int 0, .ref (b 34), .ref (b 35), .ref (b 36), .ref (b 37), .ref (b 38), .int 0, .int 0, .ref (b 39), .ref (b 40), .ref (b 41), .ref (b 42), .ref (b 43), .ref (b 44), .ref (b 45), .int 0, .int 0, .int 0, .ref (b 46), .int 0, .int 0]))]) hP hD [0] [1, 2, 3, 4, 5] rfl rfl (by decide) (by decide) hk1 hFc hP1 hD1
  clear hk1 hz1 ht hvm
  generalize H1 = H at hP hS ⊢
  have hP : va_P (dC, dI) vwCl [((b 1), .inl ((j 1), 2, .inl (upd (fun _ => 0) (1 : Int32).toNatClampNeg 0))), ((b 2), .inl ((j 2), 2, .inl (upd (fun _ => 0) (1 : Int32).toNatClampNeg 0))), ((b 3), .inl ((j 3), 2, .inl (upd (fun _ => 0) (1 : Int32).toNatClampNeg 0))), ((b 4), .inl ((j 4), 2, .inl (upd begF (1 : Int32).toNatClampNeg (-1)))), ((b 5), .inl ((j 5), 900, .inl (fun _ => 0))), ((b 0), .inr (9, [.int 0, .ref (b 10), .ref (b 11), .ref (b 12), .ref (b 13), .ref (b 14), .ref (b 15), .ref (b 16), .ref (b 17), .ref (b 18), .ref (b 19), .ref (b 20), .ref (b 1), .ref (b 2), .ref (b 3), .ref (b 4), .int 0, .ref (b 5), .int 0, .int 0, .int 0, .int 0, .int 0, .int 0, .int 0, .int (-1), .int 0, .int 0, .int 1, .int 0, .int 0, .ref (b 21), .ref (b 22), .int 0, .ref (b 23), .ref (b 24), .ref (b 25), .ref (b 26), .ref (b 27), .ref (b 28), .ref (b 29), .ref (b 30), .ref (b 31), .ref (b 32), .ref (b 33), .int 0, .int 0, .ref (b 34), .ref (b 35), .ref (b 36), .ref (b 37), .ref (b 38), .int 0, .int 0, .ref (b 39), .ref (b 40), .ref (b 41), .ref (b 42), .ref (b 43), .ref (b 44), .ref (b 45), .int 0, .int 0, .int 0, .ref (b 46), .int 0, .int 0]))] H := hP
  have hD : va_D A [((b 1), .inl ((j 1), 2, .inl (upd (fun _ => 0) (1 : Int32).toNatClampNeg 0))), ((b 2), .inl ((j 2), 2, .inl (upd (fun _ => 0) (1 : Int32).toNatClampNeg 0))), ((b 3), .inl ((j 3), 2, .inl (upd (fun _ => 0) (1 : Int32).toNatClampNeg 0))), ((b 4), .inl ((j 4), 2, .inl (upd begF (1 : Int32).toNatClampNeg (-1)))), ((b 5), .inl ((j 5), 900, .inl (fun _ => 0))), ((b 0), .inr (9, [.int 0, .ref (b 10), .ref (b 11), .ref (b 12), .ref (b 13), .ref (b 14), .ref (b 15), .ref (b 16), .ref (b 17), .ref (b 18), .ref (b 19), .ref (b 20), .ref (b 1), .ref (b 2), .ref (b 3), .ref (b 4), .int 0, .ref (b 5), .int 0, .int 0, .int 0, .int 0, .int 0, .int 0, .int 0, .int (-1), .int 0, .int 0, .int 1, .int 0, .int 0, .ref (b 21), .ref (b 22), .int 0, .ref (b 23), .ref (b 24), .ref (b 25), .ref (b 26), .ref (b 27), .ref (b 28), .ref (b 29), .ref (b 30), .ref (b 31), .ref (b 32), .ref (b 33), .int 0, .int 0, .ref (b 34), .ref (b 35), .ref (b 36), .ref (b 37), .ref (b 38), .int 0, .int 0, .ref (b 39), .ref (b 40), .ref (b 41), .ref (b 42), .ref (b 43), .ref (b 44), .ref (b 45), .int 0, .int 0, .int 0, .ref (b 46), .int 0, .int 0]))] := hD
  have hK : va_K (dC, dI) vwCl [(j 1, .int), (j 2, .int), (j 3, .int), (j 4, .int), (j 5, .int)] s := hK
  refine lv_aload_n hx hb dX9_automaton_82 rfl (lv_at hl 0 rfl) ?_
  refine va_calli (va_runV (As := []) (rest := []) ⟨hx, hb, hml, hown, hts⟩ (c_X9_isGood_1 l dC dI _ b j) (cwV 0 hts g_X9_automaton_X9_isGood_1 rfl rfl rfl (by decide +kernel) ⟨Nat.le_of_ble_eq_true rfl, Nat.le_of_ble_eq_true rfl⟩) ⟨pu_bl, va_recv hK hP (ci := 9) (q0 := 5) rfl rfl, pu_in (hP.sub [5] rfl) (hK.sub [] rfl) (hD.sub [5] (by decide) rfl)⟩ rfl rfl hl.1 rfl (lv_room (Nat.le_of_ble_eq_true rfl)) dX9_automaton_83 ⟨Nat.le_of_ble_eq_true rfl, Nat.le_of_ble_eq_true rfl⟩) hS (fun q _ h => pu_fr hS hA q h) (pu_fr hS hA) (fun r_3 u t H1 locs ht hvm hw hB hz1 hk1 hS => ?_)
  have hP := pu_keep hP hk1
  clear hk1 hz1 ht hvm
  generalize H1 = H at hP hS ⊢
  obtain rfl : r_3 = 1 := hw
  refine lv_if_eq (tgt := 135) hx hb dX9_automaton_86 (by decide) (fun z => absurd z (by decide)) (fun _ => ?_)
  refine lv_aload_n hx hb dX9_automaton_89 rfl (lv_at hl 0 rfl) ?_
  refine va_get (D := (dC, dI)) (ci := 9) (v := .int 0) (C := RX9) (T := TX9) (N := 67) hx hb hts hiX9 hown hK hP 5 rfl rfl 22 (by decide) v_23 (fun _ h9 => h9) rfl dX9_automaton_90 ?_
  refine lv_if_eq (tgt := 135) hx hb dX9_automaton_93 (by decide) (fun _ => ?_) (fun z => absurd z (by decide))
  refine lv_aload_n hx hb dX9_automaton_135 rfl (lv_at hl 0 rfl) ?_
  refine va_calli (va_runV (As := []) (rest := []) ⟨hx, hb, hml, hown, hts⟩ (c_X9_isGood_1 l dC dI _ b j) (cwV 0 hts g_X9_automaton_X9_isGood_1 rfl rfl rfl (by decide +kernel) ⟨Nat.le_of_ble_eq_true rfl, Nat.le_of_ble_eq_true rfl⟩) ⟨pu_bl, va_recv hK hP (ci := 9) (q0 := 5) rfl rfl, pu_in (hP.sub [5] rfl) (hK.sub [] rfl) (hD.sub [5] (by decide) rfl)⟩ rfl rfl hl.1 rfl (lv_room (Nat.le_of_ble_eq_true rfl)) dX9_automaton_136 ⟨Nat.le_of_ble_eq_true rfl, Nat.le_of_ble_eq_true rfl⟩) hS (fun q _ h => pu_fr hS hA q h) (pu_fr hS hA) (fun r_4 u t H1 locs ht hvm hw hB hz1 hk1 hS => ?_)
  have hP := pu_keep hP hk1
  clear hk1 hz1 ht hvm
  generalize H1 = H at hP hS ⊢
  obtain rfl : r_4 = 1 := hw
  refine lv_if_eq (tgt := 160) hx hb dX9_automaton_139 (by decide) (fun z => absurd z (by decide)) (fun _ => ?_)
  refine lv_aload_n hx hb dX9_automaton_142 rfl (lv_at hl 0 rfl) ?_
  refine va_get (D := (dC, dI)) (ci := 9) (v := .ref (b 2)) (C := RX9) (T := TX9) (N := 67) hx hb hts hiX9 hown hK hP 5 rfl rfl 13 (by decide) v_9 (fun _ h9 => h9) rfl dX9_automaton_143 ?_
  refine lv_aload_n hx hb dX9_automaton_146 rfl (lv_at hl 0 rfl) ?_
  refine va_get (D := (dC, dI)) (ci := 9) (v := .int 1) (C := RX9) (T := TX9) (N := 67) hx hb hts hiX9 hown hK hP 5 rfl rfl 28 (by decide) v_7 (fun _ h9 => h9) rfl dX9_automaton_147 ?_
  refine va_iald hx hb hK hP 1 1 rfl rfl (show ¬ (_ ∨ _) by decide) dX9_automaton_150 ?_
  refine lv_topi (fun y_5 ey_5 => ?_)
  obtain rfl : y_5 = 0 := ey_5.trans (by first | rfl | decide)
  refine lv_if_ne (tgt := 160) hx hb dX9_automaton_151 (by decide) (fun z => absurd z (by decide)) (fun _ => ?_)
  refine lv_aload_n hx hb dX9_automaton_154 rfl (lv_at hl 0 rfl) ?_
  refine lv_bipush (v := 6) hx hb dX9_automaton_155 (by decide) ?_
  have hFc := va_free (wc := [((b 0), .inr (9, [.int 0, .ref (b 10), .ref (b 11), .ref (b 12), .ref (b 13), .ref (b 14), .ref (b 15), .ref (b 16), .ref (b 17), .ref (b 18), .ref (b 19), .ref (b 20), .ref (b 1), .ref (b 2), .ref (b 3), .ref (b 4), .int 0, .ref (b 5), .int 0, .int 0, .int 0, .int 0, .int 0, .int 0, .int 0, .int (-1), .int 0, .int 0, .int 1, .int 0, .int 0, .ref (b 21), .ref (b 22), .int 0, .ref (b 23), .ref (b 24), .ref (b 25), .ref (b 26), .ref (b 27), .ref (b 28), .ref (b 29), .ref (b 30), .ref (b 31), .ref (b 32), .ref (b 33), .int 0, .int 0, .ref (b 34), .ref (b 35), .ref (b 36), .ref (b 37), .ref (b 38), .int 0, .int 0, .ref (b 39), .ref (b 40), .ref (b 41), .ref (b 42), .ref (b 43), .ref (b 44), .ref (b 45), .int 0, .int 0, .int 0, .ref (b 46), .int 0, .int 0]))]) hD hS hA [5] rfl
  refine va_callv (va_runV (As := [.int 6]) (rest := []) ⟨hx, hb, hml, hown, hts⟩ (c_X9_fails l dC dI _ b j) (cwV 1 hts g_X9_automaton_X9_fails rfl rfl rfl (by decide +kernel) ⟨Nat.le_of_ble_eq_true rfl, Nat.le_of_ble_eq_true rfl⟩) ⟨pu_bl, va_recv hK hP (ci := 9) (q0 := 5) rfl rfl, pu_in (hP.sub [5] rfl) (hK.sub [] rfl) (hD.sub [5] (by decide) rfl)⟩ rfl rfl hl.1 rfl (lv_room (Nat.le_of_ble_eq_true rfl)) dX9_automaton_157 ⟨Nat.le_of_ble_eq_true rfl, Nat.le_of_ble_eq_true rfl⟩) hS (fun q _ h => hFc q h) hFc (fun u t H1 locs ht hvm hw hB hz1 hk1 hS => ?_)
  obtain ⟨hP1, hK1, hD1⟩ := hB
  rw [ht] at hP1
  have hK1 := va_K.moved hvm.symm hK1
  obtain ⟨hP, hD⟩ := va_join (wr := [((b 1), .inl ((j 1), 2, .inl (upd (fun _ => 0) (1 : Int32).toNatClampNeg 0))), ((b 2), .inl ((j 2), 2, .inl (upd (fun _ => 0) (1 : Int32).toNatClampNeg 0))), ((b 3), .inl ((j 3), 2, .inl (upd (fun _ => 0) (1 : Int32).toNatClampNeg 0))), ((b 4), .inl ((j 4), 2, .inl (upd begF (1 : Int32).toNatClampNeg (-1)))), ((b 5), .inl ((j 5), 900, .inl (fun _ => 0)))]) (w1 := [((b 0), .inr (9, [.int 0, .ref (b 10), .ref (b 11), .ref (b 12), .ref (b 13), .ref (b 14), .ref (b 15), .ref (b 16), .ref (b 17), .ref (b 18), .ref (b 19), .ref (b 20), .ref (b 1), .ref (b 2), .ref (b 3), .ref (b 4), .int 0, .ref (b 5), .int 0, .int 0, .int 0, .int 0, .int 0, .int 0, .int 0, .int (-1), .int 6, .int 0, .int 1, .int 0, .int 0, .ref (b 21), .ref (b 22), .int 0, .ref (b 23), .ref (b 24), .ref (b 25), .ref (b 26), .ref (b 27), .ref (b 28), .ref (b 29), .ref (b 30), .ref (b 31), .ref (b 32), .ref (b 33), .int 0, .int 0, .ref (b 34), .ref (b 35), .ref (b 36), .ref (b 37), .ref (b 38), .int 0, .int 0, .ref (b 39), .ref (b 40), .ref (b 41), .ref (b 42), .ref (b 43), .ref (b 44), .ref (b 45), .int 0, .int 0, .int 0, .ref (b 46), .int 0, .int 0]))]) hP hD [5] [0, 1, 2, 3, 4] rfl rfl (by decide) (by decide) hk1 hFc hP1 hD1
  clear hk1 hz1 ht hvm
  generalize H1 = H at hP hS ⊢
  have hP : va_P (dC, dI) vwCl [((b 1), .inl ((j 1), 2, .inl (upd (fun _ => 0) (1 : Int32).toNatClampNeg 0))), ((b 2), .inl ((j 2), 2, .inl (upd (fun _ => 0) (1 : Int32).toNatClampNeg 0))), ((b 3), .inl ((j 3), 2, .inl (upd (fun _ => 0) (1 : Int32).toNatClampNeg 0))), ((b 4), .inl ((j 4), 2, .inl (upd begF (1 : Int32).toNatClampNeg (-1)))), ((b 5), .inl ((j 5), 900, .inl (fun _ => 0))), ((b 0), .inr (9, [.int 0, .ref (b 10), .ref (b 11), .ref (b 12), .ref (b 13), .ref (b 14), .ref (b 15), .ref (b 16), .ref (b 17), .ref (b 18), .ref (b 19), .ref (b 20), .ref (b 1), .ref (b 2), .ref (b 3), .ref (b 4), .int 0, .ref (b 5), .int 0, .int 0, .int 0, .int 0, .int 0, .int 0, .int 0, .int (-1), .int 6, .int 0, .int 1, .int 0, .int 0, .ref (b 21), .ref (b 22), .int 0, .ref (b 23), .ref (b 24), .ref (b 25), .ref (b 26), .ref (b 27), .ref (b 28), .ref (b 29), .ref (b 30), .ref (b 31), .ref (b 32), .ref (b 33), .int 0, .int 0, .ref (b 34), .ref (b 35), .ref (b 36), .ref (b 37), .ref (b 38), .int 0, .int 0, .ref (b 39), .ref (b 40), .ref (b 41), .ref (b 42), .ref (b 43), .ref (b 44), .ref (b 45), .int 0, .int 0, .int 0, .ref (b 46), .int 0, .int 0]))] H := hP
  have hD : va_D A [((b 1), .inl ((j 1), 2, .inl (upd (fun _ => 0) (1 : Int32).toNatClampNeg 0))), ((b 2), .inl ((j 2), 2, .inl (upd (fun _ => 0) (1 : Int32).toNatClampNeg 0))), ((b 3), .inl ((j 3), 2, .inl (upd (fun _ => 0) (1 : Int32).toNatClampNeg 0))), ((b 4), .inl ((j 4), 2, .inl (upd begF (1 : Int32).toNatClampNeg (-1)))), ((b 5), .inl ((j 5), 900, .inl (fun _ => 0))), ((b 0), .inr (9, [.int 0, .ref (b 10), .ref (b 11), .ref (b 12), .ref (b 13), .ref (b 14), .ref (b 15), .ref (b 16), .ref (b 17), .ref (b 18), .ref (b 19), .ref (b 20), .ref (b 1), .ref (b 2), .ref (b 3), .ref (b 4), .int 0, .ref (b 5), .int 0, .int 0, .int 0, .int 0, .int 0, .int 0, .int 0, .int (-1), .int 6, .int 0, .int 1, .int 0, .int 0, .ref (b 21), .ref (b 22), .int 0, .ref (b 23), .ref (b 24), .ref (b 25), .ref (b 26), .ref (b 27), .ref (b 28), .ref (b 29), .ref (b 30), .ref (b 31), .ref (b 32), .ref (b 33), .int 0, .int 0, .ref (b 34), .ref (b 35), .ref (b 36), .ref (b 37), .ref (b 38), .int 0, .int 0, .ref (b 39), .ref (b 40), .ref (b 41), .ref (b 42), .ref (b 43), .ref (b 44), .ref (b 45), .int 0, .int 0, .int 0, .ref (b 46), .int 0, .int 0]))] := hD
  have hK : va_K (dC, dI) vwCl [(j 1, .int), (j 2, .int), (j 3, .int), (j 4, .int), (j 5, .int)] s := hK
  refine lv_aload_n hx hb dX9_automaton_160 rfl (lv_at hl 0 rfl) ?_
  refine lv_aload_n hx hb dX9_automaton_161 rfl (lv_at hl 0 rfl) ?_
  refine va_get (D := (dC, dI)) (ci := 9) (v := .int 6) (C := RX9) (T := TX9) (N := 67) hx hb hts hiX9 hown hK hP 5 rfl rfl 26 (by decide) v_5 (fun _ h9 => h9) rfl dX9_automaton_162 ?_
  refine va_put (D := (dC, dI)) (ci := 9) (v := .int 6) (ty := .int) (C := RX9) (T := TX9) (N := 67) hx hb hts hiX9 tyX9 tyX9_ok nmX9 hown hK hP hD hS 5 rfl rfl 24 (by decide) v_33 (fun _ h9 => h9) rfl (by decide +kernel) rfl rfl (Nat.le_of_ble_eq_true rfl) dX9_automaton_165 (fun H locs hP hD hS => ?_)
  have hP : va_P (dC, dI) vwCl [((b 1), .inl ((j 1), 2, .inl (upd (fun _ => 0) (1 : Int32).toNatClampNeg 0))), ((b 2), .inl ((j 2), 2, .inl (upd (fun _ => 0) (1 : Int32).toNatClampNeg 0))), ((b 3), .inl ((j 3), 2, .inl (upd (fun _ => 0) (1 : Int32).toNatClampNeg 0))), ((b 4), .inl ((j 4), 2, .inl (upd begF (1 : Int32).toNatClampNeg (-1)))), ((b 5), .inl ((j 5), 900, .inl (fun _ => 0))), ((b 0), .inr (9, [.int 0, .ref (b 10), .ref (b 11), .ref (b 12), .ref (b 13), .ref (b 14), .ref (b 15), .ref (b 16), .ref (b 17), .ref (b 18), .ref (b 19), .ref (b 20), .ref (b 1), .ref (b 2), .ref (b 3), .ref (b 4), .int 0, .ref (b 5), .int 0, .int 0, .int 0, .int 0, .int 0, .int 0, .int 6, .int (-1), .int 6, .int 0, .int 1, .int 0, .int 0, .ref (b 21), .ref (b 22), .int 0, .ref (b 23), .ref (b 24), .ref (b 25), .ref (b 26), .ref (b 27), .ref (b 28), .ref (b 29), .ref (b 30), .ref (b 31), .ref (b 32), .ref (b 33), .int 0, .int 0, .ref (b 34), .ref (b 35), .ref (b 36), .ref (b 37), .ref (b 38), .int 0, .int 0, .ref (b 39), .ref (b 40), .ref (b 41), .ref (b 42), .ref (b 43), .ref (b 44), .ref (b 45), .int 0, .int 0, .int 0, .ref (b 46), .int 0, .int 0]))] H := hP
  have hD : va_D A [((b 1), .inl ((j 1), 2, .inl (upd (fun _ => 0) (1 : Int32).toNatClampNeg 0))), ((b 2), .inl ((j 2), 2, .inl (upd (fun _ => 0) (1 : Int32).toNatClampNeg 0))), ((b 3), .inl ((j 3), 2, .inl (upd (fun _ => 0) (1 : Int32).toNatClampNeg 0))), ((b 4), .inl ((j 4), 2, .inl (upd begF (1 : Int32).toNatClampNeg (-1)))), ((b 5), .inl ((j 5), 900, .inl (fun _ => 0))), ((b 0), .inr (9, [.int 0, .ref (b 10), .ref (b 11), .ref (b 12), .ref (b 13), .ref (b 14), .ref (b 15), .ref (b 16), .ref (b 17), .ref (b 18), .ref (b 19), .ref (b 20), .ref (b 1), .ref (b 2), .ref (b 3), .ref (b 4), .int 0, .ref (b 5), .int 0, .int 0, .int 0, .int 0, .int 0, .int 0, .int 6, .int (-1), .int 6, .int 0, .int 1, .int 0, .int 0, .ref (b 21), .ref (b 22), .int 0, .ref (b 23), .ref (b 24), .ref (b 25), .ref (b 26), .ref (b 27), .ref (b 28), .ref (b 29), .ref (b 30), .ref (b 31), .ref (b 32), .ref (b 33), .int 0, .int 0, .ref (b 34), .ref (b 35), .ref (b 36), .ref (b 37), .ref (b 38), .int 0, .int 0, .ref (b 39), .ref (b 40), .ref (b 41), .ref (b 42), .ref (b 43), .ref (b 44), .ref (b 45), .int 0, .int 0, .int 0, .ref (b 46), .int 0, .int 0]))] := hD
  refine lv_aload_n hx hb dX9_automaton_168 rfl (lv_at hl 0 rfl) ?_
  refine lv_aload_n hx hb dX9_automaton_169 rfl (lv_at hl 0 rfl) ?_
  refine va_get (D := (dC, dI)) (ci := 9) (v := .int 6) (C := RX9) (T := TX9) (N := 67) hx hb hts hiX9 hown hK hP 5 rfl rfl 26 (by decide) v_5 (fun _ h9 => h9) rfl dX9_automaton_170 ?_
  refine lv_if_ne (tgt := 180) hx hb dX9_automaton_173 (by decide) (fun _ => ?_) (fun z => absurd z (by decide))
  refine lv_aload_n hx hb dX9_automaton_180 rfl (lv_at hl 0 rfl) ?_
  refine va_get (D := (dC, dI)) (ci := 9) (v := .int 0) (C := RX9) (T := TX9) (N := 67) hx hb hts hiX9 hown hK hP 5 rfl rfl 27 (by decide) v_32 (fun _ h9 => h9) rfl dX9_automaton_181 ?_
  refine va_put (D := (dC, dI)) (ci := 9) (v := .int 0) (ty := .int) (C := RX9) (T := TX9) (N := 67) hx hb hts hiX9 tyX9 tyX9_ok nmX9 hown hK hP hD hS 5 rfl rfl 25 (by decide) v_34 (fun _ h9 => h9) rfl (by decide +kernel) rfl rfl (Nat.le_of_ble_eq_true rfl) dX9_automaton_184 (fun H locs hP hD hS => ?_)
  have hP : va_P (dC, dI) vwCl [((b 1), .inl ((j 1), 2, .inl (upd (fun _ => 0) (1 : Int32).toNatClampNeg 0))), ((b 2), .inl ((j 2), 2, .inl (upd (fun _ => 0) (1 : Int32).toNatClampNeg 0))), ((b 3), .inl ((j 3), 2, .inl (upd (fun _ => 0) (1 : Int32).toNatClampNeg 0))), ((b 4), .inl ((j 4), 2, .inl (upd begF (1 : Int32).toNatClampNeg (-1)))), ((b 5), .inl ((j 5), 900, .inl (fun _ => 0))), ((b 0), .inr (9, [.int 0, .ref (b 10), .ref (b 11), .ref (b 12), .ref (b 13), .ref (b 14), .ref (b 15), .ref (b 16), .ref (b 17), .ref (b 18), .ref (b 19), .ref (b 20), .ref (b 1), .ref (b 2), .ref (b 3), .ref (b 4), .int 0, .ref (b 5), .int 0, .int 0, .int 0, .int 0, .int 0, .int 0, .int 6, .int 0, .int 6, .int 0, .int 1, .int 0, .int 0, .ref (b 21), .ref (b 22), .int 0, .ref (b 23), .ref (b 24), .ref (b 25), .ref (b 26), .ref (b 27), .ref (b 28), .ref (b 29), .ref (b 30), .ref (b 31), .ref (b 32), .ref (b 33), .int 0, .int 0, .ref (b 34), .ref (b 35), .ref (b 36), .ref (b 37), .ref (b 38), .int 0, .int 0, .ref (b 39), .ref (b 40), .ref (b 41), .ref (b 42), .ref (b 43), .ref (b 44), .ref (b 45), .int 0, .int 0, .int 0, .ref (b 46), .int 0, .int 0]))] H := hP
  have hD : va_D A [((b 1), .inl ((j 1), 2, .inl (upd (fun _ => 0) (1 : Int32).toNatClampNeg 0))), ((b 2), .inl ((j 2), 2, .inl (upd (fun _ => 0) (1 : Int32).toNatClampNeg 0))), ((b 3), .inl ((j 3), 2, .inl (upd (fun _ => 0) (1 : Int32).toNatClampNeg 0))), ((b 4), .inl ((j 4), 2, .inl (upd begF (1 : Int32).toNatClampNeg (-1)))), ((b 5), .inl ((j 5), 900, .inl (fun _ => 0))), ((b 0), .inr (9, [.int 0, .ref (b 10), .ref (b 11), .ref (b 12), .ref (b 13), .ref (b 14), .ref (b 15), .ref (b 16), .ref (b 17), .ref (b 18), .ref (b 19), .ref (b 20), .ref (b 1), .ref (b 2), .ref (b 3), .ref (b 4), .int 0, .ref (b 5), .int 0, .int 0, .int 0, .int 0, .int 0, .int 0, .int 6, .int 0, .int 6, .int 0, .int 1, .int 0, .int 0, .ref (b 21), .ref (b 22), .int 0, .ref (b 23), .ref (b 24), .ref (b 25), .ref (b 26), .ref (b 27), .ref (b 28), .ref (b 29), .ref (b 30), .ref (b 31), .ref (b 32), .ref (b 33), .int 0, .int 0, .ref (b 34), .ref (b 35), .ref (b 36), .ref (b 37), .ref (b 38), .int 0, .int 0, .ref (b 39), .ref (b 40), .ref (b 41), .ref (b 42), .ref (b 43), .ref (b 44), .ref (b 45), .int 0, .int 0, .int 0, .ref (b 46), .int 0, .int 0]))] := hD
  refine lv_aload_n hx hb dX9_automaton_187 rfl (lv_at hl 0 rfl) ?_
  refine va_calli (va_runV (As := []) (rest := []) ⟨hx, hb, hml, hown, hts⟩ (c_X9_isGood_0 l dC dI _ b j) (cwV 0 hts g_X9_automaton_X9_isGood_0 rfl rfl rfl (by decide +kernel) ⟨Nat.le_of_ble_eq_true rfl, Nat.le_of_ble_eq_true rfl⟩) ⟨pu_bl, va_recv hK hP (ci := 9) (q0 := 5) rfl rfl, pu_in (hP.sub [5] rfl) (hK.sub [] rfl) (hD.sub [5] (by decide) rfl)⟩ rfl rfl hl.1 rfl (lv_room (Nat.le_of_ble_eq_true rfl)) dX9_automaton_188 ⟨Nat.le_of_ble_eq_true rfl, Nat.le_of_ble_eq_true rfl⟩) hS (fun q _ h => pu_fr hS hA q h) (pu_fr hS hA) (fun r_7 u t H1 locs ht hvm hw hB hz1 hk1 hS => ?_)
  have hP := pu_keep hP hk1
  clear hk1 hz1 ht hvm
  generalize H1 = H at hP hS ⊢
  obtain rfl : r_7 = 0 := hw
  refine lv_if_ne (tgt := 196) hx hb dX9_automaton_191 (by decide) (fun z => absurd z (by decide)) (fun _ => ?_)
  refine lv_iconst (v := (-1)) hx hb dX9_automaton_194 (by decide) ?_
  exact W.iret (v := (-1)) hx hb hr (fun t ht hW => ⟨⟨(-1), (), rfl, by first | rfl | decide | simp_all, trivial⟩, hS.F ht⟩) hS.2.2 dX9_automaton_195
