theorem dX8_putBytes_0 : decode cX8_putBytes 0 = .ok (.bipush 24, 2) := by decide +kernel
theorem dX8_putBytes_2 : decode cX8_putBytes 2 = .ok (.istore_n 2, 1) := by decide +kernel
theorem dX8_putBytes_3 : decode cX8_putBytes 3 = .ok (.iload_n 2, 1) := by decide +kernel
theorem dX8_putBytes_4 : decode cX8_putBytes 4 = .ok (.ifCond .lt 45, 3) := by decide +kernel
theorem dX8_putBytes_7 : decode cX8_putBytes 7 = .ok (.aload_n 0, 1) := by decide +kernel
theorem dX8_putBytes_8 : decode cX8_putBytes 8 = .ok (.getfield 79, 3) := by decide +kernel
theorem dX8_putBytes_11 : decode cX8_putBytes 11 = .ok (.sipush 900, 3) := by decide +kernel
theorem dX8_putBytes_14 : decode cX8_putBytes 14 = .ok (.if_icmp .ge 35, 3) := by decide +kernel
theorem dX8_putBytes_17 : decode cX8_putBytes 17 = .ok (.aload_n 0, 1) := by decide +kernel
theorem dX8_putBytes_18 : decode cX8_putBytes 18 = .ok (.getfield 9, 3) := by decide +kernel
theorem dX8_putBytes_21 : decode cX8_putBytes 21 = .ok (.aload_n 0, 1) := by decide +kernel
theorem dX8_putBytes_22 : decode cX8_putBytes 22 = .ok (.getfield 79, 3) := by decide +kernel
theorem dX8_putBytes_25 : decode cX8_putBytes 25 = .ok (.iload_n 1, 1) := by decide +kernel
theorem dX8_putBytes_26 : decode cX8_putBytes 26 = .ok (.iload_n 2, 1) := by decide +kernel
theorem dX8_putBytes_27 : decode cX8_putBytes 27 = .ok (.ishr, 1) := by decide +kernel
theorem dX8_putBytes_28 : decode cX8_putBytes 28 = .ok (.sipush 255, 3) := by decide +kernel
theorem dX8_putBytes_31 : decode cX8_putBytes 31 = .ok (.iand, 1) := by decide +kernel
theorem dX8_putBytes_32 : decode cX8_putBytes 32 = .ok (.iastore, 1) := by decide +kernel
theorem dX8_putBytes_33 : decode cX8_putBytes 33 = .ok (.aload_n 0, 1) := by decide +kernel
theorem dX8_putBytes_34 : decode cX8_putBytes 34 = .ok (.dup, 1) := by decide +kernel
theorem dX8_putBytes_35 : decode cX8_putBytes 35 = .ok (.getfield 79, 3) := by decide +kernel
theorem dX8_putBytes_38 : decode cX8_putBytes 38 = .ok (.iconst 1, 1) := by decide +kernel
theorem dX8_putBytes_39 : decode cX8_putBytes 39 = .ok (.iadd, 1) := by decide +kernel
theorem dX8_putBytes_40 : decode cX8_putBytes 40 = .ok (.putfield 79, 3) := by decide +kernel
theorem dX8_putBytes_43 : decode cX8_putBytes 43 = .ok (.iinc 2 (-8), 3) := by decide +kernel
theorem dX8_putBytes_46 : decode cX8_putBytes 46 = .ok (.goto (-43), 3) := by decide +kernel
theorem dX8_putBytes_49 : decode cX8_putBytes 49 = .ok (.return_, 1) := by decide +kernel
def vs_X8_putBytes_0 : List Cond := .code yX8_putBytes cX8_putBytes 3 none :: ([.fieldLink RX8 79 "ClockReach" "taped" "I", .fieldLink RX8 9 "ClockReach" "tape" "[I"] ++ wsX80)
set_option maxHeartbeats 4000000 in
set_option maxRecDepth 100000 in
theorem c_X8_putBytes_0 (l : Launch) (dC : Nat → ClassId) (dI : Nat → Nat → Nat) (sz : Nat) (a : Nat → Nat) (k : Nat → ClassId) (f : Nat → Int32) (p0 : Int32) : Met l yX8_putBytes vs_X8_putBytes_0 ({ frames := 0, cells := 0, slots := 0, locals := 0 }) (va_Pc [.ref (a 0), .int p0] (pu_B (dC, dI) [((a 0), .inr (8, [.ref (a 6), .int 0, .ref (a 4), .ref (a 1), .ref (a 5), .ref (a 2), .ref (a 10), .int 0, .ref (a 11), .ref (a 12), .int 0, .ref (a 13), .ref (a 14), .ref (a 3), .ref (a 15), .ref (a 16)])), ((a 6), .inl ((k 0), 900, .inl f))] [(k 0, .int)] sz)) (va_Qv (fun (_ : Unit) => True) (fun _ t => ∃ (g : Nat → Int32), pu_E (dC, dI) [((a 0), .inr (8, [.ref (a 6), .int 4, .ref (a 4), .ref (a 1), .ref (a 5), .ref (a 2), .ref (a 10), .int 0, .ref (a 11), .ref (a 12), .int 0, .ref (a 13), .ref (a 14), .ref (a 3), .ref (a 15), .ref (a 16)])), ((a 6), .inl ((k 0), 900, .inl g))] [(k 0, .int)] (va_A ([((a 0), .inr (8, [.ref (a 6), .int 0, .ref (a 4), .ref (a 1), .ref (a 5), .ref (a 2), .ref (a 10), .int 0, .ref (a 11), .ref (a 12), .int 0, .ref (a 13), .ref (a 14), .ref (a 3), .ref (a 15), .ref (a 16)])), ((a 6), .inl ((k 0), 900, .inl f))]) sz) t) (va_A ([((a 0), .inr (8, [.ref (a 6), .int 0, .ref (a 4), .ref (a 1), .ref (a 5), .ref (a 2), .ref (a 10), .int 0, .ref (a 11), .ref (a 12), .int 0, .ref (a 13), .ref (a 14), .ref (a 3), .ref (a 15), .ref (a 16)])), ((a 6), .inl ((k 0), 900, .inl f))]) sz)) 0 0 (va_A ([((a 0), .inr (8, [.ref (a 6), .int 0, .ref (a 4), .ref (a 1), .ref (a 5), .ref (a 2), .ref (a 10), .int 0, .ref (a 11), .ref (a 12), .int 0, .ref (a 13), .ref (a 14), .ref (a 3), .ref (a 15), .ref (a 16)])), ((a 6), .inl ((k 0), 900, .inl f))]) sz) := by
  refine Met.ofW (cc := cX8_putBytes) (maxL := 3) (ret := none) (by decide) rfl ?_
  intro p e s m args below meth c s₁ B hml hv
  obtain ⟨rfl, rfl, hP, hK, hD0⟩ := hv
  have hx := B.exec
  have hb := B.bytes
  have hr := B.returns
  have hts := atoms_spec (ws := vs_X8_putBytes_0) B.pre
  have v_1 := hts (.fieldLink RX8 79 "ClockReach" "taped" "I") (List.mem_of_getElem? (i := 1) rfl)
  have v_2 := hts (.fieldLink RX8 9 "ClockReach" "tape" "[I") (List.mem_of_getElem? (i := 2) rfl)
  have hown : s.vm.findClass RX8 = some m.cls := findClass_of_methodNamed B.named
  have hlocks := B.notSynchronized
  have hiX8 : ∀ w ∈ wsX80, w ∈ vs_X8_putBytes_0 := fun _ h => List.mem_cons_of_mem _ (List.mem_append_right _ h)
  have hD := hD0.self (sz := s.heap.size)
  generalize hAe : va_A ([((a 0), .inr (8, [.ref (a 6), .int 0, .ref (a 4), .ref (a 1), .ref (a 5), .ref (a 2), .ref (a 10), .int 0, .ref (a 11), .ref (a 12), .int 0, .ref (a 13), .ref (a 14), .ref (a 3), .ref (a 15), .ref (a 16)])), ((a 6), .inl ((k 0), 900, .inl f))]) s.heap.size = A at hD ⊢
  have hA : ∀ q : Nat, s.heap.size ≤ q → A q := fun q h => by rw [← hAe]; exact Or.inr h
  have hS : va_S A s.heap s.heap [] := va_S.rf
  have hl := lv_entry ([.ref (a 0), .int p0]) (n := 3) (Nat.le_of_ble_eq_true rfl)
  rw [lg_entry_eq]
  generalize (lg_sl ([.ref (a 0), .int p0]) ++ List.replicate (3 - (lg_sl ([.ref (a 0), .int p0])).length) Slot.unset).toArray = ls at hl ⊢
  have hl : lv_has ls 3 [(0, .ref (a 0)), (1, .int p0)] := hl
  refine lv_bipush (v := 24) hx hb dX8_putBytes_0 (by decide) ?_
  refine lv_istore_n (lv' := [(2, .int 24), (0, .ref (a 0)), (1, .int p0)]) hx hb dX8_putBytes_2 rfl hl (by decide) rfl (fun ls hl => ?_)
  refine lv_iload_n hx hb dX8_putBytes_3 rfl (lv_at hl 0 rfl) ?_
  refine lv_if_lt (tgt := 49) hx hb dX8_putBytes_4 (by decide) (fun z => absurd z (by decide)) (fun _ => ?_)
  refine lv_aload_n hx hb dX8_putBytes_7 rfl (lv_at hl 1 rfl) ?_
  refine va_get (D := (dC, dI)) (ci := 8) (v := .int 0) (C := RX8) (T := TX8) (N := 16) hx hb hts hiX8 hown hK hP 0 rfl rfl 1 (by decide) v_1 (fun _ h9 => h9) rfl dX8_putBytes_8 ?_
  refine lv_sipush (v := 900) hx hb dX8_putBytes_11 (by decide) ?_
  refine lv_icmp_ge (tgt := 49) hx hb dX8_putBytes_14 (by decide) (fun z => absurd z (by decide)) (fun _ => ?_)
  refine lv_aload_n hx hb dX8_putBytes_17 rfl (lv_at hl 1 rfl) ?_
  refine va_get (D := (dC, dI)) (ci := 8) (v := .ref (a 6)) (C := RX8) (T := TX8) (N := 16) hx hb hts hiX8 hown hK hP 0 rfl rfl 0 (by decide) v_2 (fun _ h9 => h9) rfl dX8_putBytes_18 ?_
  refine lv_aload_n hx hb dX8_putBytes_21 rfl (lv_at hl 1 rfl) ?_
  refine va_get (D := (dC, dI)) (ci := 8) (v := .int 0) (C := RX8) (T := TX8) (N := 16) hx hb hts hiX8 hown hK hP 0 rfl rfl 1 (by decide) v_1 (fun _ h9 => h9) rfl dX8_putBytes_22 ?_
  refine lv_iload_n hx hb dX8_putBytes_25 rfl (lv_at hl 2 rfl) ?_
  refine lv_iload_n hx hb dX8_putBytes_26 rfl (lv_at hl 0 rfl) ?_
  refine lv_ishr hx hb dX8_putBytes_27 ?_
  refine lv_sipush (v := 255) hx hb dX8_putBytes_28 (by decide) ?_
  refine lv_iand hx hb dX8_putBytes_31 ?_
  refine va_iast hx hb hK hP hD hS 1 0 rfl rfl (show ¬ (_ ∨ _) by decide) dX8_putBytes_32 (fun H locs hP hD hS => ?_)
  have hP : va_P (dC, dI) vwCl [((a 0), .inr (8, [.ref (a 6), .int 0, .ref (a 4), .ref (a 1), .ref (a 5), .ref (a 2), .ref (a 10), .int 0, .ref (a 11), .ref (a 12), .int 0, .ref (a 13), .ref (a 14), .ref (a 3), .ref (a 15), .ref (a 16)])), ((a 6), .inl ((k 0), 900, .inl (upd f (0 : Int32).toNatClampNeg ((p0 >>> (24 &&& 31)) &&& 255))))] H := hP
  have hD : va_D A [((a 0), .inr (8, [.ref (a 6), .int 0, .ref (a 4), .ref (a 1), .ref (a 5), .ref (a 2), .ref (a 10), .int 0, .ref (a 11), .ref (a 12), .int 0, .ref (a 13), .ref (a 14), .ref (a 3), .ref (a 15), .ref (a 16)])), ((a 6), .inl ((k 0), 900, .inl (upd f (0 : Int32).toNatClampNeg ((p0 >>> (24 &&& 31)) &&& 255))))] := hD
  refine lv_aload_n hx hb dX8_putBytes_33 rfl (lv_at hl 1 rfl) ?_
  refine lv_dup hx hb dX8_putBytes_34 rfl ?_
  refine va_get (D := (dC, dI)) (ci := 8) (v := .int 0) (C := RX8) (T := TX8) (N := 16) hx hb hts hiX8 hown hK hP 0 rfl rfl 1 (by decide) v_1 (fun _ h9 => h9) rfl dX8_putBytes_35 ?_
  refine lv_iconst (v := 1) hx hb dX8_putBytes_38 (by decide) ?_
  refine lv_iadd hx hb dX8_putBytes_39 ?_
  refine lv_topi (fun y_1 ey_1 => ?_)
  obtain rfl : y_1 = 1 := ey_1.trans (by decide)
  refine va_put (D := (dC, dI)) (ci := 8) (v := .int 1) (ty := .int) (C := RX8) (T := TX8) (N := 16) hx hb hts hiX8 tyX8 tyX8_ok nmX8 hown hK hP hD hS 0 rfl rfl 1 (by decide) v_1 (fun _ h9 => h9) rfl (by decide +kernel) rfl rfl (Nat.le_of_ble_eq_true rfl) dX8_putBytes_40 (fun H locs hP hD hS => ?_)
  have hP : va_P (dC, dI) vwCl [((a 0), .inr (8, [.ref (a 6), .int 1, .ref (a 4), .ref (a 1), .ref (a 5), .ref (a 2), .ref (a 10), .int 0, .ref (a 11), .ref (a 12), .int 0, .ref (a 13), .ref (a 14), .ref (a 3), .ref (a 15), .ref (a 16)])), ((a 6), .inl ((k 0), 900, .inl (upd f (0 : Int32).toNatClampNeg ((p0 >>> (24 &&& 31)) &&& 255))))] H := hP
  have hD : va_D A [((a 0), .inr (8, [.ref (a 6), .int 1, .ref (a 4), .ref (a 1), .ref (a 5), .ref (a 2), .ref (a 10), .int 0, .ref (a 11), .ref (a 12), .int 0, .ref (a 13), .ref (a 14), .ref (a 3), .ref (a 15), .ref (a 16)])), ((a 6), .inl ((k 0), 900, .inl (upd f (0 : Int32).toNatClampNeg ((p0 >>> (24 &&& 31)) &&& 255))))] := hD
  refine lv_iinc (v := 16) (lv' := [(2, .int 16), (0, .ref (a 0)), (1, .int p0)]) hx hb dX8_putBytes_43 hl (k := 0) rfl (by decide) (by decide) rfl (fun ls hl => ?_)
  refine lv_goto (tgt := 3) hx hb dX8_putBytes_46 (by decide) ?_
  refine lv_iload_n hx hb dX8_putBytes_3 rfl (lv_at hl 0 rfl) ?_
  refine lv_if_lt (tgt := 49) hx hb dX8_putBytes_4 (by decide) (fun z => absurd z (by decide)) (fun _ => ?_)
  refine lv_aload_n hx hb dX8_putBytes_7 rfl (lv_at hl 1 rfl) ?_
  refine va_get (D := (dC, dI)) (ci := 8) (v := .int 1) (C := RX8) (T := TX8) (N := 16) hx hb hts hiX8 hown hK hP 0 rfl rfl 1 (by decide) v_1 (fun _ h9 => h9) rfl dX8_putBytes_8 ?_
  refine lv_sipush (v := 900) hx hb dX8_putBytes_11 (by decide) ?_
  refine lv_icmp_ge (tgt := 49) hx hb dX8_putBytes_14 (by decide) (fun z => absurd z (by decide)) (fun _ => ?_)
  refine lv_aload_n hx hb dX8_putBytes_17 rfl (lv_at hl 1 rfl) ?_
  refine va_get (D := (dC, dI)) (ci := 8) (v := .ref (a 6)) (C := RX8) (T := TX8) (N := 16) hx hb hts hiX8 hown hK hP 0 rfl rfl 0 (by decide) v_2 (fun _ h9 => h9) rfl dX8_putBytes_18 ?_
  refine lv_aload_n hx hb dX8_putBytes_21 rfl (lv_at hl 1 rfl) ?_
  refine va_get (D := (dC, dI)) (ci := 8) (v := .int 1) (C := RX8) (T := TX8) (N := 16) hx hb hts hiX8 hown hK hP 0 rfl rfl 1 (by decide) v_1 (fun _ h9 => h9) rfl dX8_putBytes_22 ?_
  refine lv_iload_n hx hb dX8_putBytes_25 rfl (lv_at hl 2 rfl) ?_
  refine lv_iload_n hx hb dX8_putBytes_26 rfl (lv_at hl 0 rfl) ?_
  refine lv_ishr hx hb dX8_putBytes_27 ?_
  refine lv_sipush (v := 255) hx hb dX8_putBytes_28 (by decide) ?_
  refine lv_iand hx hb dX8_putBytes_31 ?_
  refine va_iast hx hb hK hP hD hS 1 0 rfl rfl (show ¬ (_ ∨ _) by decide) dX8_putBytes_32 (fun H locs hP hD hS => ?_)
  have hP : va_P (dC, dI) vwCl [((a 0), .inr (8, [.ref (a 6), .int 1, .ref (a 4), .ref (a 1), .ref (a 5), .ref (a 2), .ref (a 10), .int 0, .ref (a 11), .ref (a 12), .int 0, .ref (a 13), .ref (a 14), .ref (a 3), .ref (a 15), .ref (a 16)])), ((a 6), .inl ((k 0), 900, .inl (upd (upd f (0 : Int32).toNatClampNeg ((p0 >>> (24 &&& 31)) &&& 255)) (1 : Int32).toNatClampNeg ((p0 >>> (16 &&& 31)) &&& 255))))] H := hP
  have hD : va_D A [((a 0), .inr (8, [.ref (a 6), .int 1, .ref (a 4), .ref (a 1), .ref (a 5), .ref (a 2), .ref (a 10), .int 0, .ref (a 11), .ref (a 12), .int 0, .ref (a 13), .ref (a 14), .ref (a 3), .ref (a 15), .ref (a 16)])), ((a 6), .inl ((k 0), 900, .inl (upd (upd f (0 : Int32).toNatClampNeg ((p0 >>> (24 &&& 31)) &&& 255)) (1 : Int32).toNatClampNeg ((p0 >>> (16 &&& 31)) &&& 255))))] := hD
  refine lv_aload_n hx hb dX8_putBytes_33 rfl (lv_at hl 1 rfl) ?_
  refine lv_dup hx hb dX8_putBytes_34 rfl ?_
  refine va_get (D := (dC, dI)) (ci := 8) (v := .int 1) (C := RX8) (T := TX8) (N := 16) hx hb hts hiX8 hown hK hP 0 rfl rfl 1 (by decide) v_1 (fun _ h9 => h9) rfl dX8_putBytes_35 ?_
  refine lv_iconst (v := 1) hx hb dX8_putBytes_38 (by decide) ?_
  refine lv_iadd hx hb dX8_putBytes_39 ?_
  refine lv_topi (fun y_2 ey_2 => ?_)
  obtain rfl : y_2 = 2 := ey_2.trans (by decide)
  refine va_put (D := (dC, dI)) (ci := 8) (v := .int 2) (ty := .int) (C := RX8) (T := TX8) (N := 16) hx hb hts hiX8 tyX8 tyX8_ok nmX8 hown hK hP hD hS 0 rfl rfl 1 (by decide) v_1 (fun _ h9 => h9) rfl (by decide +kernel) rfl rfl (Nat.le_of_ble_eq_true rfl) dX8_putBytes_40 (fun H locs hP hD hS => ?_)
  have hP : va_P (dC, dI) vwCl [((a 0), .inr (8, [.ref (a 6), .int 2, .ref (a 4), .ref (a 1), .ref (a 5), .ref (a 2), .ref (a 10), .int 0, .ref (a 11), .ref (a 12), .int 0, .ref (a 13), .ref (a 14), .ref (a 3), .ref (a 15), .ref (a 16)])), ((a 6), .inl ((k 0), 900, .inl (upd (upd f (0 : Int32).toNatClampNeg ((p0 >>> (24 &&& 31)) &&& 255)) (1 : Int32).toNatClampNeg ((p0 >>> (16 &&& 31)) &&& 255))))] H := hP
  have hD : va_D A [((a 0), .inr (8, [.ref (a 6), .int 2, .ref (a 4), .ref (a 1), .ref (a 5), .ref (a 2), .ref (a 10), .int 0, .ref (a 11), .ref (a 12), .int 0, .ref (a 13), .ref (a 14), .ref (a 3), .ref (a 15), .ref (a 16)])), ((a 6), .inl ((k 0), 900, .inl (upd (upd f (0 : Int32).toNatClampNeg ((p0 >>> (24 &&& 31)) &&& 255)) (1 : Int32).toNatClampNeg ((p0 >>> (16 &&& 31)) &&& 255))))] := hD
  refine lv_iinc (v := 8) (lv' := [(2, .int 8), (0, .ref (a 0)), (1, .int p0)]) hx hb dX8_putBytes_43 hl (k := 0) rfl (by decide) (by decide) rfl (fun ls hl => ?_)
  refine lv_goto (tgt := 3) hx hb dX8_putBytes_46 (by decide) ?_
  refine lv_iload_n hx hb dX8_putBytes_3 rfl (lv_at hl 0 rfl) ?_
  refine lv_if_lt (tgt := 49) hx hb dX8_putBytes_4 (by decide) (fun z => absurd z (by decide)) (fun _ => ?_)
  refine lv_aload_n hx hb dX8_putBytes_7 rfl (lv_at hl 1 rfl) ?_
  refine va_get (D := (dC, dI)) (ci := 8) (v := .int 2) (C := RX8) (T := TX8) (N := 16) hx hb hts hiX8 hown hK hP 0 rfl rfl 1 (by decide) v_1 (fun _ h9 => h9) rfl dX8_putBytes_8 ?_
  refine lv_sipush (v := 900) hx hb dX8_putBytes_11 (by decide) ?_
  refine lv_icmp_ge (tgt := 49) hx hb dX8_putBytes_14 (by decide) (fun z => absurd z (by decide)) (fun _ => ?_)
  refine lv_aload_n hx hb dX8_putBytes_17 rfl (lv_at hl 1 rfl) ?_
  refine va_get (D := (dC, dI)) (ci := 8) (v := .ref (a 6)) (C := RX8) (T := TX8) (N := 16) hx hb hts hiX8 hown hK hP 0 rfl rfl 0 (by decide) v_2 (fun _ h9 => h9) rfl dX8_putBytes_18 ?_
  refine lv_aload_n hx hb dX8_putBytes_21 rfl (lv_at hl 1 rfl) ?_
  refine va_get (D := (dC, dI)) (ci := 8) (v := .int 2) (C := RX8) (T := TX8) (N := 16) hx hb hts hiX8 hown hK hP 0 rfl rfl 1 (by decide) v_1 (fun _ h9 => h9) rfl dX8_putBytes_22 ?_
  refine lv_iload_n hx hb dX8_putBytes_25 rfl (lv_at hl 2 rfl) ?_
  refine lv_iload_n hx hb dX8_putBytes_26 rfl (lv_at hl 0 rfl) ?_
  refine lv_ishr hx hb dX8_putBytes_27 ?_
  refine lv_sipush (v := 255) hx hb dX8_putBytes_28 (by decide) ?_
  refine lv_iand hx hb dX8_putBytes_31 ?_
  refine va_iast hx hb hK hP hD hS 1 0 rfl rfl (show ¬ (_ ∨ _) by decide) dX8_putBytes_32 (fun H locs hP hD hS => ?_)
  have hP : va_P (dC, dI) vwCl [((a 0), .inr (8, [.ref (a 6), .int 2, .ref (a 4), .ref (a 1), .ref (a 5), .ref (a 2), .ref (a 10), .int 0, .ref (a 11), .ref (a 12), .int 0, .ref (a 13), .ref (a 14), .ref (a 3), .ref (a 15), .ref (a 16)])), ((a 6), .inl ((k 0), 900, .inl (upd (upd (upd f (0 : Int32).toNatClampNeg ((p0 >>> (24 &&& 31)) &&& 255)) (1 : Int32).toNatClampNeg ((p0 >>> (16 &&& 31)) &&& 255)) (2 : Int32).toNatClampNeg ((p0 >>> (8 &&& 31)) &&& 255))))] H := hP
  have hD : va_D A [((a 0), .inr (8, [.ref (a 6), .int 2, .ref (a 4), .ref (a 1), .ref (a 5), .ref (a 2), .ref (a 10), .int 0, .ref (a 11), .ref (a 12), .int 0, .ref (a 13), .ref (a 14), .ref (a 3), .ref (a 15), .ref (a 16)])), ((a 6), .inl ((k 0), 900, .inl (upd (upd (upd f (0 : Int32).toNatClampNeg ((p0 >>> (24 &&& 31)) &&& 255)) (1 : Int32).toNatClampNeg ((p0 >>> (16 &&& 31)) &&& 255)) (2 : Int32).toNatClampNeg ((p0 >>> (8 &&& 31)) &&& 255))))] := hD
  refine lv_aload_n hx hb dX8_putBytes_33 rfl (lv_at hl 1 rfl) ?_
  refine lv_dup hx hb dX8_putBytes_34 rfl ?_
  refine va_get (D := (dC, dI)) (ci := 8) (v := .int 2) (C := RX8) (T := TX8) (N := 16) hx hb hts hiX8 hown hK hP 0 rfl rfl 1 (by decide) v_1 (fun _ h9 => h9) rfl dX8_putBytes_35 ?_
  refine lv_iconst (v := 1) hx hb dX8_putBytes_38 (by decide) ?_
  refine lv_iadd hx hb dX8_putBytes_39 ?_
  refine lv_topi (fun y_3 ey_3 => ?_)
  obtain rfl : y_3 = 3 := ey_3.trans (by decide)
  refine va_put (D := (dC, dI)) (ci := 8) (v := .int 3) (ty := .int) (C := RX8) (T := TX8) (N := 16) hx hb hts hiX8 tyX8 tyX8_ok nmX8 hown hK hP hD hS 0 rfl rfl 1 (by decide) v_1 (fun _ h9 => h9) rfl (by decide +kernel) rfl rfl (Nat.le_of_ble_eq_true rfl) dX8_putBytes_40 (fun H locs hP hD hS => ?_)
  have hP : va_P (dC, dI) vwCl [((a 0), .inr (8, [.ref (a 6), .int 3, .ref (a 4), .ref (a 1), .ref (a 5), .ref (a 2), .ref (a 10), .int 0, .ref (a 11), .ref (a 12), .int 0, .ref (a 13), .ref (a 14), .ref (a 3), .ref (a 15), .ref (a 16)])), ((a 6), .inl ((k 0), 900, .inl (upd (upd (upd f (0 : Int32).toNatClampNeg ((p0 >>> (24 &&& 31)) &&& 255)) (1 : Int32).toNatClampNeg ((p0 >>> (16 &&& 31)) &&& 255)) (2 : Int32).toNatClampNeg ((p0 >>> (8 &&& 31)) &&& 255))))] H := hP
  have hD : va_D A [((a 0), .inr (8, [.ref (a 6), .int 3, .ref (a 4), .ref (a 1), .ref (a 5), .ref (a 2), .ref (a 10), .int 0, .ref (a 11), .ref (a 12), .int 0, .ref (a 13), .ref (a 14), .ref (a 3), .ref (a 15), .ref (a 16)])), ((a 6), .inl ((k 0), 900, .inl (upd (upd (upd f (0 : Int32).toNatClampNeg ((p0 >>> (24 &&& 31)) &&& 255)) (1 : Int32).toNatClampNeg ((p0 >>> (16 &&& 31)) &&& 255)) (2 : Int32).toNatClampNeg ((p0 >>> (8 &&& 31)) &&& 255))))] := hD
  refine lv_iinc (v := 0) (lv' := [(2, .int 0), (0, .ref (a 0)), (1, .int p0)]) hx hb dX8_putBytes_43 hl (k := 0) rfl (by decide) (by decide) rfl (fun ls hl => ?_)
  refine lv_goto (tgt := 3) hx hb dX8_putBytes_46 (by decide) ?_
  refine lv_iload_n hx hb dX8_putBytes_3 rfl (lv_at hl 0 rfl) ?_
  refine lv_if_lt (tgt := 49) hx hb dX8_putBytes_4 (by decide) (fun z => absurd z (by decide)) (fun _ => ?_)
  refine lv_aload_n hx hb dX8_putBytes_7 rfl (lv_at hl 1 rfl) ?_
  refine va_get (D := (dC, dI)) (ci := 8) (v := .int 3) (C := RX8) (T := TX8) (N := 16) hx hb hts hiX8 hown hK hP 0 rfl rfl 1 (by decide) v_1 (fun _ h9 => h9) rfl dX8_putBytes_8 ?_
  refine lv_sipush (v := 900) hx hb dX8_putBytes_11 (by decide) ?_
  refine lv_icmp_ge (tgt := 49) hx hb dX8_putBytes_14 (by decide) (fun z => absurd z (by decide)) (fun _ => ?_)
  refine lv_aload_n hx hb dX8_putBytes_17 rfl (lv_at hl 1 rfl) ?_
  refine va_get (D := (dC, dI)) (ci := 8) (v := .ref (a 6)) (C := RX8) (T := TX8) (N := 16) hx hb hts hiX8 hown hK hP 0 rfl rfl 0 (by decide) v_2 (fun _ h9 => h9) rfl dX8_putBytes_18 ?_
  refine lv_aload_n hx hb dX8_putBytes_21 rfl (lv_at hl 1 rfl) ?_
  refine va_get (D := (dC, dI)) (ci := 8) (v := .int 3) (C := RX8) (T := TX8) (N := 16) hx hb hts hiX8 hown hK hP 0 rfl rfl 1 (by decide) v_1 (fun _ h9 => h9) rfl dX8_putBytes_22 ?_
  refine lv_iload_n hx hb dX8_putBytes_25 rfl (lv_at hl 2 rfl) ?_
  refine lv_iload_n hx hb dX8_putBytes_26 rfl (lv_at hl 0 rfl) ?_
  refine lv_ishr hx hb dX8_putBytes_27 ?_
  refine lv_sipush (v := 255) hx hb dX8_putBytes_28 (by decide) ?_
  refine lv_iand hx hb dX8_putBytes_31 ?_
  refine va_iast hx hb hK hP hD hS 1 0 rfl rfl (show ¬ (_ ∨ _) by decide) dX8_putBytes_32 (fun H locs hP hD hS => ?_)
  have hP : va_P (dC, dI) vwCl [((a 0), .inr (8, [.ref (a 6), .int 3, .ref (a 4), .ref (a 1), .ref (a 5), .ref (a 2), .ref (a 10), .int 0, .ref (a 11), .ref (a 12), .int 0, .ref (a 13), .ref (a 14), .ref (a 3), .ref (a 15), .ref (a 16)])), ((a 6), .inl ((k 0), 900, .inl (upd (upd (upd (upd f (0 : Int32).toNatClampNeg ((p0 >>> (24 &&& 31)) &&& 255)) (1 : Int32).toNatClampNeg ((p0 >>> (16 &&& 31)) &&& 255)) (2 : Int32).toNatClampNeg ((p0 >>> (8 &&& 31)) &&& 255)) (3 : Int32).toNatClampNeg ((p0 >>> (0 &&& 31)) &&& 255))))] H := hP
  have hD : va_D A [((a 0), .inr (8, [.ref (a 6), .int 3, .ref (a 4), .ref (a 1), .ref (a 5), .ref (a 2), .ref (a 10), .int 0, .ref (a 11), .ref (a 12), .int 0, .ref (a 13), .ref (a 14), .ref (a 3), .ref (a 15), .ref (a 16)])), ((a 6), .inl ((k 0), 900, .inl (upd (upd (upd (upd f (0 : Int32).toNatClampNeg ((p0 >>> (24 &&& 31)) &&& 255)) (1 : Int32).toNatClampNeg ((p0 >>> (16 &&& 31)) &&& 255)) (2 : Int32).toNatClampNeg ((p0 >>> (8 &&& 31)) &&& 255)) (3 : Int32).toNatClampNeg ((p0 >>> (0 &&& 31)) &&& 255))))] := hD
  refine lv_aload_n hx hb dX8_putBytes_33 rfl (lv_at hl 1 rfl) ?_
  refine lv_dup hx hb dX8_putBytes_34 rfl ?_
  refine va_get (D := (dC, dI)) (ci := 8) (v := .int 3) (C := RX8) (T := TX8) (N := 16) hx hb hts hiX8 hown hK hP 0 rfl rfl 1 (by decide) v_1 (fun _ h9 => h9) rfl dX8_putBytes_35 ?_
  refine lv_iconst (v := 1) hx hb dX8_putBytes_38 (by decide) ?_
  refine lv_iadd hx hb dX8_putBytes_39 ?_
  refine lv_topi (fun y_4 ey_4 => ?_)
  obtain rfl : y_4 = 4 := ey_4.trans (by decide)
  refine va_put (D := (dC, dI)) (ci := 8) (v := .int 4) (ty := .int) (C := RX8) (T := TX8) (N := 16) hx hb hts hiX8 tyX8 tyX8_ok nmX8 hown hK hP hD hS 0 rfl rfl 1 (by decide) v_1 (fun _ h9 => h9) rfl (by decide +kernel) rfl rfl (Nat.le_of_ble_eq_true rfl) dX8_putBytes_40 (fun H locs hP hD hS => ?_)
  have hP : va_P (dC, dI) vwCl [((a 0), .inr (8, [.ref (a 6), .int 4, .ref (a 4), .ref (a 1), .ref (a 5), .ref (a 2), .ref (a 10), .int 0, .ref (a 11), .ref (a 12), .int 0, .ref (a 13), .ref (a 14), .ref (a 3), .ref (a 15), .ref (a 16)])), ((a 6), .inl ((k 0), 900, .inl (upd (upd (upd (upd f (0 : Int32).toNatClampNeg ((p0 >>> (24 &&& 31)) &&& 255)) (1 : Int32).toNatClampNeg ((p0 >>> (16 &&& 31)) &&& 255)) (2 : Int32).toNatClampNeg ((p0 >>> (8 &&& 31)) &&& 255)) (3 : Int32).toNatClampNeg ((p0 >>> (0 &&& 31)) &&& 255))))] H := hP
  have hD : va_D A [((a 0), .inr (8, [.ref (a 6), .int 4, .ref (a 4), .ref (a 1), .ref (a 5), .ref (a 2), .ref (a 10), .int 0, .ref (a 11), .ref (a 12), .int 0, .ref (a 13), .ref (a 14), .ref (a 3), .ref (a 15), .ref (a 16)])), ((a 6), .inl ((k 0), 900, .inl (upd (upd (upd (upd f (0 : Int32).toNatClampNeg ((p0 >>> (24 &&& 31)) &&& 255)) (1 : Int32).toNatClampNeg ((p0 >>> (16 &&& 31)) &&& 255)) (2 : Int32).toNatClampNeg ((p0 >>> (8 &&& 31)) &&& 255)) (3 : Int32).toNatClampNeg ((p0 >>> (0 &&& 31)) &&& 255))))] := hD
  refine lv_iinc (v := (-8)) (lv' := [(2, .int (-8)), (0, .ref (a 0)), (1, .int p0)]) hx hb dX8_putBytes_43 hl (k := 0) rfl (by decide) (by decide) rfl (fun ls hl => ?_)
  refine lv_goto (tgt := 3) hx hb dX8_putBytes_46 (by decide) ?_
  refine lv_iload_n hx hb dX8_putBytes_3 rfl (lv_at hl 0 rfl) ?_
  refine lv_if_lt (tgt := 49) hx hb dX8_putBytes_4 (by decide) (fun _ => ?_) (fun z => absurd z (by decide))
  have hP9 := hP.sub (ws' := [((a 0), .inr (8, [.ref (a 6), .int 4, .ref (a 4), .ref (a 1), .ref (a 5), .ref (a 2), .ref (a 10), .int 0, .ref (a 11), .ref (a 12), .int 0, .ref (a 13), .ref (a 14), .ref (a 3), .ref (a 15), .ref (a 16)])), ((a 6), .inl ((k 0), 900, .inl (upd (upd (upd (upd f (0 : Int32).toNatClampNeg ((p0 >>> (24 &&& 31)) &&& 255)) (1 : Int32).toNatClampNeg ((p0 >>> (16 &&& 31)) &&& 255)) (2 : Int32).toNatClampNeg ((p0 >>> (8 &&& 31)) &&& 255)) (3 : Int32).toNatClampNeg ((p0 >>> (0 &&& 31)) &&& 255))))]) [0, 1] rfl
  have hD9 := hD.sub (ws' := [((a 0), .inr (8, [.ref (a 6), .int 4, .ref (a 4), .ref (a 1), .ref (a 5), .ref (a 2), .ref (a 10), .int 0, .ref (a 11), .ref (a 12), .int 0, .ref (a 13), .ref (a 14), .ref (a 3), .ref (a 15), .ref (a 16)])), ((a 6), .inl ((k 0), 900, .inl (upd (upd (upd (upd f (0 : Int32).toNatClampNeg ((p0 >>> (24 &&& 31)) &&& 255)) (1 : Int32).toNatClampNeg ((p0 >>> (16 &&& 31)) &&& 255)) (2 : Int32).toNatClampNeg ((p0 >>> (8 &&& 31)) &&& 255)) (3 : Int32).toNatClampNeg ((p0 >>> (0 &&& 31)) &&& 255))))]) [0, 1] (by decide) rfl
  have hK9 := hK.sub (tys' := [(k 0, .int)]) [0] rfl
  exact W.vret hx hb hr (fun t ht hW => ⟨⟨(), rfl, trivial, ⟨upd (upd (upd (upd f (0 : Int32).toNatClampNeg ((p0 >>> (24 &&& 31)) &&& 255)) (1 : Int32).toNatClampNeg ((p0 >>> (16 &&& 31)) &&& 255)) (2 : Int32).toNatClampNeg ((p0 >>> (8 &&& 31)) &&& 255)) (3 : Int32).toNatClampNeg ((p0 >>> (0 &&& 31)) &&& 255), by rw [ht]; exact hP9, va_K.moved hW.alike hK9, hD9⟩⟩, hS.F ht⟩) hS.2.2 dX8_putBytes_49
theorem dX9_four_0 : decode cX9_four 0 = .ok (.bipush 24, 2) := by decide +kernel
theorem dX9_four_2 : decode cX9_four 2 = .ok (.istore_n 2, 1) := by decide +kernel
theorem dX9_four_3 : decode cX9_four 3 = .ok (.iload_n 2, 1) := by decide +kernel
theorem dX9_four_4 : decode cX9_four 4 = .ok (.ifCond .lt 35, 3) := by decide +kernel
theorem dX9_four_7 : decode cX9_four 7 = .ok (.aload_n 0, 1) := by decide +kernel
theorem dX9_four_8 : decode cX9_four 8 = .ok (.getfield 55, 3) := by decide +kernel
theorem dX9_four_11 : decode cX9_four 11 = .ok (.aload_n 0, 1) := by decide +kernel
theorem dX9_four_12 : decode cX9_four 12 = .ok (.getfield 145, 3) := by decide +kernel
theorem dX9_four_15 : decode cX9_four 15 = .ok (.iload_n 1, 1) := by decide +kernel
theorem dX9_four_16 : decode cX9_four 16 = .ok (.iload_n 2, 1) := by decide +kernel
theorem dX9_four_17 : decode cX9_four 17 = .ok (.ishr, 1) := by decide +kernel
theorem dX9_four_18 : decode cX9_four 18 = .ok (.sipush 255, 3) := by decide +kernel
theorem dX9_four_21 : decode cX9_four 21 = .ok (.iand, 1) := by decide +kernel
theorem dX9_four_22 : decode cX9_four 22 = .ok (.iastore, 1) := by decide +kernel
theorem dX9_four_23 : decode cX9_four 23 = .ok (.aload_n 0, 1) := by decide +kernel
theorem dX9_four_24 : decode cX9_four 24 = .ok (.dup, 1) := by decide +kernel
theorem dX9_four_25 : decode cX9_four 25 = .ok (.getfield 145, 3) := by decide +kernel
theorem dX9_four_28 : decode cX9_four 28 = .ok (.iconst 1, 1) := by decide +kernel
theorem dX9_four_29 : decode cX9_four 29 = .ok (.iadd, 1) := by decide +kernel
theorem dX9_four_30 : decode cX9_four 30 = .ok (.putfield 145, 3) := by decide +kernel
theorem dX9_four_33 : decode cX9_four 33 = .ok (.iinc 2 (-8), 3) := by decide +kernel
theorem dX9_four_36 : decode cX9_four 36 = .ok (.goto (-33), 3) := by decide +kernel
theorem dX9_four_39 : decode cX9_four 39 = .ok (.return_, 1) := by decide +kernel
def vs_X9_four_0 : List Cond := .code yX9_four cX9_four 3 none :: ([.fieldLink RX9 55 "ClockReachModel" "tape" "[I", .fieldLink RX9 145 "ClockReachModel" "taped" "I"] ++ wsX90)
set_option maxHeartbeats 4000000 in
set_option maxRecDepth 100000 in
theorem c_X9_four_0 (l : Launch) (dC : Nat → ClassId) (dI : Nat → Nat → Nat) (sz : Nat) (b : Nat → Nat) (j : Nat → ClassId) (f : Nat → Int32) (p0 : Int32) : Met l yX9_four vs_X9_four_0 ({ frames := 0, cells := 0, slots := 0, locals := 0 }) (va_Pc [.ref (b 0), .int p0] (pu_B (dC, dI) [((b 0), .inr (9, [.int 0, .ref (b 10), .ref (b 11), .ref (b 12), .ref (b 13), .ref (b 14), .ref (b 15), .ref (b 16), .ref (b 17), .ref (b 18), .ref (b 19), .ref (b 20), .ref (b 1), .ref (b 2), .ref (b 3), .ref (b 4), .int 0, .ref (b 5), .int 0, .int 0, .int 0, .int 0, .int 0, .int 0, .int 0, .int (-1), .int 0, .int 0, .int 0, .int 0, .int 0, .ref (b 21), .ref (b 22), .int 0, .ref (b 23), .ref (b 24), .ref (b 25), .ref (b 26), .ref (b 27), .ref (b 28), .ref (b 29), .ref (b 30), .ref (b 31), .ref (b 32), .ref (b 33), .int 0, .int 0, .ref (b 34), .ref (b 35), .ref (b 36), .ref (b 37), .ref (b 38), .int 0, .int 0, .ref (b 39), .ref (b 40), .ref (b 41), .ref (b 42), .ref (b 43), .ref (b 44), .ref (b 45), .int 0, .int 0, .int 0, .ref (b 46), .int 0, .int 0])), ((b 5), .inl ((j 5), 900, .inl f))] [(j 5, .int)] sz)) (va_Qv (fun (_ : Unit) => True) (fun _ t => ∃ (g : Nat → Int32), pu_E (dC, dI) [((b 0), .inr (9, [.int 0, .ref (b 10), .ref (b 11), .ref (b 12), .ref (b 13), .ref (b 14), .ref (b 15), .ref (b 16), .ref (b 17), .ref (b 18), .ref (b 19), .ref (b 20), .ref (b 1), .ref (b 2), .ref (b 3), .ref (b 4), .int 0, .ref (b 5), .int 4, .int 0, .int 0, .int 0, .int 0, .int 0, .int 0, .int (-1), .int 0, .int 0, .int 0, .int 0, .int 0, .ref (b 21), .ref (b 22), .int 0, .ref (b 23), .ref (b 24), .ref (b 25), .ref (b 26), .ref (b 27), .ref (b 28), .ref (b 29), .ref (b 30), .ref (b 31), .ref (b 32), .ref (b 33), .int 0, .int 0, .ref (b 34), .ref (b 35), .ref (b 36), .ref (b 37), .ref (b 38), .int 0, .int 0, .ref (b 39), .ref (b 40), .ref (b 41), .ref (b 42), .ref (b 43), .ref (b 44), .ref (b 45), .int 0, .int 0, .int 0, .ref (b 46), .int 0, .int 0])), ((b 5), .inl ((j 5), 900, .inl g))] [(j 5, .int)] (va_A ([((b 0), .inr (9, [.int 0, .ref (b 10), .ref (b 11), .ref (b 12), .ref (b 13), .ref (b 14), .ref (b 15), .ref (b 16), .ref (b 17), .ref (b 18), .ref (b 19), .ref (b 20), .ref (b 1), .ref (b 2), .ref (b 3), .ref (b 4), .int 0, .ref (b 5), .int 0, .int 0, .int 0, .int 0, .int 0, .int 0, .int 0, .int (-1), .int 0, .int 0, .int 0, .int 0, .int 0, .ref (b 21), .ref (b 22), .int 0, .ref (b 23), .ref (b 24), .ref (b 25), .ref (b 26), .ref (b 27), .ref (b 28), .ref (b 29), .ref (b 30), .ref (b 31), .ref (b 32), .ref (b 33), .int 0, .int 0, .ref (b 34), .ref (b 35), .ref (b 36), .ref (b 37), .ref (b 38), .int 0, .int 0, .ref (b 39), .ref (b 40), .ref (b 41), .ref (b 42), .ref (b 43), .ref (b 44), .ref (b 45), .int 0, .int 0, .int 0, .ref (b 46), .int 0, .int 0])), ((b 5), .inl ((j 5), 900, .inl f))]) sz) t) (va_A ([((b 0), .inr (9, [.int 0, .ref (b 10), .ref (b 11), .ref (b 12), .ref (b 13), .ref (b 14), .ref (b 15), .ref (b 16), .ref (b 17), .ref (b 18), .ref (b 19), .ref (b 20), .ref (b 1), .ref (b 2), .ref (b 3), .ref (b 4), .int 0, .ref (b 5), .int 0, .int 0, .int 0, .int 0, .int 0, .int 0, .int 0, .int (-1), .int 0, .int 0, .int 0, .int 0, .int 0, .ref (b 21), .ref (b 22), .int 0, .ref (b 23), .ref (b 24), .ref (b 25), .ref (b 26), .ref (b 27), .ref (b 28), .ref (b 29), .ref (b 30), .ref (b 31), .ref (b 32), .ref (b 33), .int 0, .int 0, .ref (b 34), .ref (b 35), .ref (b 36), .ref (b 37), .ref (b 38), .int 0, .int 0, .ref (b 39), .ref (b 40), .ref (b 41), .ref (b 42), .ref (b 43), .ref (b 44), .ref (b 45), .int 0, .int 0, .int 0, .ref (b 46), .int 0, .int 0])), ((b 5), .inl ((j 5), 900, .inl f))]) sz)) 0 0 (va_A ([((b 0), .inr (9, [.int 0, .ref (b 10), .ref (b 11), .ref (b 12), .ref (b 13), .ref (b 14), .ref (b 15), .ref (b 16), .ref (b 17), .ref (b 18), .ref (b 19), .ref (b 20), .ref (b 1), .ref (b 2), .ref (b 3), .ref (b 4), .int 0, .ref (b 5), .int 0, .int 0, .int 0, .int 0, .int 0, .int 0, .int 0, .int (-1), .int 0, .int 0, .int 0, .int 0, .int 0, .ref (b 21), .ref (b 22), .int 0, .ref (b 23), .ref (b 24), .ref (b 25), .ref (b 26), .ref (b 27), .ref (b 28), .ref (b 29), .ref (b 30), .ref (b 31), .ref (b 32), .ref (b 33), .int 0, .int 0, .ref (b 34), .ref (b 35), .ref (b 36), .ref (b 37), .ref (b 38), .int 0, .int 0, .ref (b 39), .ref (b 40), .ref (b 41), .ref (b 42), .ref (b 43), .ref (b 44), .ref (b 45), .int 0, .int 0, .int 0, .ref (b 46), .int 0, .int 0])), ((b 5), .inl ((j 5), 900, .inl f))]) sz) := by
  refine Met.ofW (cc := cX9_four) (maxL := 3) (ret := none) (by decide) rfl ?_
  intro p e s m args below meth c s₁ B hml hv
  obtain ⟨rfl, rfl, hP, hK, hD0⟩ := hv
  have hx := B.exec
  have hb := B.bytes
  have hr := B.returns
  have hts := atoms_spec (ws := vs_X9_four_0) B.pre
  have v_1 := hts (.fieldLink RX9 55 "ClockReachModel" "tape" "[I") (List.mem_of_getElem? (i := 1) rfl)
  have v_2 := hts (.fieldLink RX9 145 "ClockReachModel" "taped" "I") (List.mem_of_getElem? (i := 2) rfl)
  have hown : s.vm.findClass RX9 = some m.cls := findClass_of_methodNamed B.named
  have hlocks := B.notSynchronized
  have hiX9 : ∀ w ∈ wsX90, w ∈ vs_X9_four_0 := fun _ h => List.mem_cons_of_mem _ (List.mem_append_right _ h)
  have hD := hD0.self (sz := s.heap.size)
  generalize hAe : va_A ([((b 0), .inr (9, [.int 0, .ref (b 10), .ref (b 11), .ref (b 12), .ref (b 13), .ref (b 14), .ref (b 15), .ref (b 16), .ref (b 17), .ref (b 18), .ref (b 19), .ref (b 20), .ref (b 1), .ref (b 2), .ref (b 3), .ref (b 4), .int 0, .ref (b 5), .int 0, .int 0, .int 0, .int 0, .int 0, .int 0, .int 0, .int (-1), .int 0, .int 0, .int 0, .int 0, .int 0, .ref (b 21), .ref (b 22), .int 0, .ref (b 23), .ref (b 24), .ref (b 25), .ref (b 26), .ref (b 27), .ref (b 28), .ref (b 29), .ref (b 30), .ref (b 31), .ref (b 32), .ref (b 33), .int 0, .int 0, .ref (b 34), .ref (b 35), .ref (b 36), .ref (b 37), .ref (b 38), .int 0, .int 0, .ref (b 39), .ref (b 40), .ref (b 41), .ref (b 42), .ref (b 43), .ref (b 44), .ref (b 45), .int 0, .int 0, .int 0, .ref (b 46), .int 0, .int 0])), ((b 5), .inl ((j 5), 900, .inl f))]) s.heap.size = A at hD ⊢
  have hA : ∀ q : Nat, s.heap.size ≤ q → A q := fun q h => by rw [← hAe]; exact Or.inr h
  have hS : va_S A s.heap s.heap [] := va_S.rf
  have hl := lv_entry ([.ref (b 0), .int p0]) (n := 3) (Nat.le_of_ble_eq_true rfl)
  rw [lg_entry_eq]
  generalize (lg_sl ([.ref (b 0), .int p0]) ++ List.replicate (3 - (lg_sl ([.ref (b 0), .int p0])).length) Slot.unset).toArray = ls at hl ⊢
  have hl : lv_has ls 3 [(0, .ref (b 0)), (1, .int p0)] := hl
  refine lv_bipush (v := 24) hx hb dX9_four_0 (by decide) ?_
  refine lv_istore_n (lv' := [(2, .int 24), (0, .ref (b 0)), (1, .int p0)]) hx hb dX9_four_2 rfl hl (by decide) rfl (fun ls hl => ?_)
  refine lv_iload_n hx hb dX9_four_3 rfl (lv_at hl 0 rfl) ?_
  refine lv_if_lt (tgt := 39) hx hb dX9_four_4 (by decide) (fun z => absurd z (by decide)) (fun _ => ?_)
  refine lv_aload_n hx hb dX9_four_7 rfl (lv_at hl 1 rfl) ?_
  refine va_get (D := (dC, dI)) (ci := 9) (v := .ref (b 5)) (C := RX9) (T := TX9) (N := 67) hx hb hts hiX9 hown hK hP 0 rfl rfl 17 (by decide) v_1 (fun _ h9 => h9) rfl dX9_four_8 ?_
  refine lv_aload_n hx hb dX9_four_11 rfl (lv_at hl 1 rfl) ?_
  refine va_get (D := (dC, dI)) (ci := 9) (v := .int 0) (C := RX9) (T := TX9) (N := 67) hx hb hts hiX9 hown hK hP 0 rfl rfl 18 (by decide) v_2 (fun _ h9 => h9) rfl dX9_four_12 ?_
  refine lv_iload_n hx hb dX9_four_15 rfl (lv_at hl 2 rfl) ?_
  refine lv_iload_n hx hb dX9_four_16 rfl (lv_at hl 0 rfl) ?_
  refine lv_ishr hx hb dX9_four_17 ?_
  refine lv_sipush (v := 255) hx hb dX9_four_18 (by decide) ?_
  refine lv_iand hx hb dX9_four_21 ?_
  refine va_iast hx hb hK hP hD hS 1 0 rfl rfl (show ¬ (_ ∨ _) by decide) dX9_four_22 (fun H locs hP hD hS => ?_)
  have hP : va_P (dC, dI) vwCl [((b 0), .inr (9, [.int 0, .ref (b 10), .ref (b 11), .ref (b 12), .ref (b 13), .ref (b 14), .ref (b 15), .ref (b 16), .ref (b 17), .ref (b 18), .ref (b 19), .ref (b 20), .ref (b 1), .ref (b 2), .ref (b 3), .ref (b 4), .int 0, .ref (b 5), .int 0, .int 0, .int 0, .int 0, .int 0, .int 0, .int 0, .int (-1), .int 0, .int 0, .int 0, .int 0, .int 0, .ref (b 21), .ref (b 22), .int 0, .ref (b 23), .ref (b 24), .ref (b 25), .ref (b 26), .ref (b 27), .ref (b 28), .ref (b 29), .ref (b 30), .ref (b 31), .ref (b 32), .ref (b 33), .int 0, .int 0, .ref (b 34), .ref (b 35), .ref (b 36), .ref (b 37), .ref (b 38), .int 0, .int 0, .ref (b 39), .ref (b 40), .ref (b 41), .ref (b 42), .ref (b 43), .ref (b 44), .ref (b 45), .int 0, .int 0, .int 0, .ref (b 46), .int 0, .int 0])), ((b 5), .inl ((j 5), 900, .inl (upd f (0 : Int32).toNatClampNeg ((p0 >>> (24 &&& 31)) &&& 255))))] H := hP
  have hD : va_D A [((b 0), .inr (9, [.int 0, .ref (b 10), .ref (b 11), .ref (b 12), .ref (b 13), .ref (b 14), .ref (b 15), .ref (b 16), .ref (b 17), .ref (b 18), .ref (b 19), .ref (b 20), .ref (b 1), .ref (b 2), .ref (b 3), .ref (b 4), .int 0, .ref (b 5), .int 0, .int 0, .int 0, .int 0, .int 0, .int 0, .int 0, .int (-1), .int 0, .int 0, .int 0, .int 0, .int 0, .ref (b 21), .ref (b 22), .int 0, .ref (b 23), .ref (b 24), .ref (b 25), .ref (b 26), .ref (b 27), .ref (b 28), .ref (b 29), .ref (b 30), .ref (b 31), .ref (b 32), .ref (b 33), .int 0, .int 0, .ref (b 34), .ref (b 35), .ref (b 36), .ref (b 37), .ref (b 38), .int 0, .int 0, .ref (b 39), .ref (b 40), .ref (b 41), .ref (b 42), .ref (b 43), .ref (b 44), .ref (b 45), .int 0, .int 0, .int 0, .ref (b 46), .int 0, .int 0])), ((b 5), .inl ((j 5), 900, .inl (upd f (0 : Int32).toNatClampNeg ((p0 >>> (24 &&& 31)) &&& 255))))] := hD
  refine lv_aload_n hx hb dX9_four_23 rfl (lv_at hl 1 rfl) ?_
  refine lv_dup hx hb dX9_four_24 rfl ?_
  refine va_get (D := (dC, dI)) (ci := 9) (v := .int 0) (C := RX9) (T := TX9) (N := 67) hx hb hts hiX9 hown hK hP 0 rfl rfl 18 (by decide) v_2 (fun _ h9 => h9) rfl dX9_four_25 ?_
  refine lv_iconst (v := 1) hx hb dX9_four_28 (by decide) ?_
  refine lv_iadd hx hb dX9_four_29 ?_
  refine lv_topi (fun y_1 ey_1 => ?_)
  obtain rfl : y_1 = 1 := ey_1.trans (by decide)
  refine va_put (D := (dC, dI)) (ci := 9) (v := .int 1) (ty := .int) (C := RX9) (T := TX9) (N := 67) hx hb hts hiX9 tyX9 tyX9_ok nmX9 hown hK hP hD hS 0 rfl rfl 18 (by decide) v_2 (fun _ h9 => h9) rfl (by decide +kernel) rfl rfl (Nat.le_of_ble_eq_true rfl) dX9_four_30 (fun H locs hP hD hS => ?_)
  have hP : va_P (dC, dI) vwCl [((b 0), .inr (9, [.int 0, .ref (b 10), .ref (b 11), .ref (b 12), .ref (b 13), .ref (b 14), .ref (b 15), .ref (b 16), .ref (b 17), .ref (b 18), .ref (b 19), .ref (b 20), .ref (b 1), .ref (b 2), .ref (b 3), .ref (b 4), .int 0, .ref (b 5), .int 1, .int 0, .int 0, .int 0, .int 0, .int 0, .int 0, .int (-1), .int 0, .int 0, .int 0, .int 0, .int 0, .ref (b 21), .ref (b 22), .int 0, .ref (b 23), .ref (b 24), .ref (b 25), .ref (b 26), .ref (b 27), .ref (b 28), .ref (b 29), .ref (b 30), .ref (b 31), .ref (b 32), .ref (b 33), .int 0, .int 0, .ref (b 34), .ref (b 35), .ref (b 36), .ref (b 37), .ref (b 38), .int 0, .int 0, .ref (b 39), .ref (b 40), .ref (b 41), .ref (b 42), .ref (b 43), .ref (b 44), .ref (b 45), .int 0, .int 0, .int 0, .ref (b 46), .int 0, .int 0])), ((b 5), .inl ((j 5), 900, .inl (upd f (0 : Int32).toNatClampNeg ((p0 >>> (24 &&& 31)) &&& 255))))] H := hP
  have hD : va_D A [((b 0), .inr (9, [.int 0, .ref (b 10), .ref (b 11), .ref (b 12), .ref (b 13), .ref (b 14), .ref (b 15), .ref (b 16), .ref (b 17), .ref (b 18), .ref (b 19), .ref (b 20), .ref (b 1), .ref (b 2), .ref (b 3), .ref (b 4), .int 0, .ref (b 5), .int 1, .int 0, .int 0, .int 0, .int 0, .int 0, .int 0, .int (-1), .int 0, .int 0, .int 0, .int 0, .int 0, .ref (b 21), .ref (b 22), .int 0, .ref (b 23), .ref (b 24), .ref (b 25), .ref (b 26), .ref (b 27), .ref (b 28), .ref (b 29), .ref (b 30), .ref (b 31), .ref (b 32), .ref (b 33), .int 0, .int 0, .ref (b 34), .ref (b 35), .ref (b 36), .ref (b 37), .ref (b 38), .int 0, .int 0, .ref (b 39), .ref (b 40), .ref (b 41), .ref (b 42), .ref (b 43), .ref (b 44), .ref (b 45), .int 0, .int 0, .int 0, .ref (b 46), .int 0, .int 0])), ((b 5), .inl ((j 5), 900, .inl (upd f (0 : Int32).toNatClampNeg ((p0 >>> (24 &&& 31)) &&& 255))))] := hD
  refine lv_iinc (v := 16) (lv' := [(2, .int 16), (0, .ref (b 0)), (1, .int p0)]) hx hb dX9_four_33 hl (k := 0) rfl (by decide) (by decide) rfl (fun ls hl => ?_)
  refine lv_goto (tgt := 3) hx hb dX9_four_36 (by decide) ?_
  refine lv_iload_n hx hb dX9_four_3 rfl (lv_at hl 0 rfl) ?_
  refine lv_if_lt (tgt := 39) hx hb dX9_four_4 (by decide) (fun z => absurd z (by decide)) (fun _ => ?_)
  refine lv_aload_n hx hb dX9_four_7 rfl (lv_at hl 1 rfl) ?_
  refine va_get (D := (dC, dI)) (ci := 9) (v := .ref (b 5)) (C := RX9) (T := TX9) (N := 67) hx hb hts hiX9 hown hK hP 0 rfl rfl 17 (by decide) v_1 (fun _ h9 => h9) rfl dX9_four_8 ?_
  refine lv_aload_n hx hb dX9_four_11 rfl (lv_at hl 1 rfl) ?_
  refine va_get (D := (dC, dI)) (ci := 9) (v := .int 1) (C := RX9) (T := TX9) (N := 67) hx hb hts hiX9 hown hK hP 0 rfl rfl 18 (by decide) v_2 (fun _ h9 => h9) rfl dX9_four_12 ?_
  refine lv_iload_n hx hb dX9_four_15 rfl (lv_at hl 2 rfl) ?_
  refine lv_iload_n hx hb dX9_four_16 rfl (lv_at hl 0 rfl) ?_
  refine lv_ishr hx hb dX9_four_17 ?_
  refine lv_sipush (v := 255) hx hb dX9_four_18 (by decide) ?_
  refine lv_iand hx hb dX9_four_21 ?_
  refine va_iast hx hb hK hP hD hS 1 0 rfl rfl (show ¬ (_ ∨ _) by decide) dX9_four_22 (fun H locs hP hD hS => ?_)
  have hP : va_P (dC, dI) vwCl [((b 0), .inr (9, [.int 0, .ref (b 10), .ref (b 11), .ref (b 12), .ref (b 13), .ref (b 14), .ref (b 15), .ref (b 16), .ref (b 17), .ref (b 18), .ref (b 19), .ref (b 20), .ref (b 1), .ref (b 2), .ref (b 3), .ref (b 4), .int 0, .ref (b 5), .int 1, .int 0, .int 0, .int 0, .int 0, .int 0, .int 0, .int (-1), .int 0, .int 0, .int 0, .int 0, .int 0, .ref (b 21), .ref (b 22), .int 0, .ref (b 23), .ref (b 24), .ref (b 25), .ref (b 26), .ref (b 27), .ref (b 28), .ref (b 29), .ref (b 30), .ref (b 31), .ref (b 32), .ref (b 33), .int 0, .int 0, .ref (b 34), .ref (b 35), .ref (b 36), .ref (b 37), .ref (b 38), .int 0, .int 0, .ref (b 39), .ref (b 40), .ref (b 41), .ref (b 42), .ref (b 43), .ref (b 44), .ref (b 45), .int 0, .int 0, .int 0, .ref (b 46), .int 0, .int 0])), ((b 5), .inl ((j 5), 900, .inl (upd (upd f (0 : Int32).toNatClampNeg ((p0 >>> (24 &&& 31)) &&& 255)) (1 : Int32).toNatClampNeg ((p0 >>> (16 &&& 31)) &&& 255))))] H := hP
  have hD : va_D A [((b 0), .inr (9, [.int 0, .ref (b 10), .ref (b 11), .ref (b 12), .ref (b 13), .ref (b 14), .ref (b 15), .ref (b 16), .ref (b 17), .ref (b 18), .ref (b 19), .ref (b 20), .ref (b 1), .ref (b 2), .ref (b 3), .ref (b 4), .int 0, .ref (b 5), .int 1, .int 0, .int 0, .int 0, .int 0, .int 0, .int 0, .int (-1), .int 0, .int 0, .int 0, .int 0, .int 0, .ref (b 21), .ref (b 22), .int 0, .ref (b 23), .ref (b 24), .ref (b 25), .ref (b 26), .ref (b 27), .ref (b 28), .ref (b 29), .ref (b 30), .ref (b 31), .ref (b 32), .ref (b 33), .int 0, .int 0, .ref (b 34), .ref (b 35), .ref (b 36), .ref (b 37), .ref (b 38), .int 0, .int 0, .ref (b 39), .ref (b 40), .ref (b 41), .ref (b 42), .ref (b 43), .ref (b 44), .ref (b 45), .int 0, .int 0, .int 0, .ref (b 46), .int 0, .int 0])), ((b 5), .inl ((j 5), 900, .inl (upd (upd f (0 : Int32).toNatClampNeg ((p0 >>> (24 &&& 31)) &&& 255)) (1 : Int32).toNatClampNeg ((p0 >>> (16 &&& 31)) &&& 255))))] := hD
  refine lv_aload_n hx hb dX9_four_23 rfl (lv_at hl 1 rfl) ?_
  refine lv_dup hx hb dX9_four_24 rfl ?_
  refine va_get (D := (dC, dI)) (ci := 9) (v := .int 1) (C := RX9) (T := TX9) (N := 67) hx hb hts hiX9 hown hK hP 0 rfl rfl 18 (by decide) v_2 (fun _ h9 => h9) rfl dX9_four_25 ?_
  refine lv_iconst (v := 1) hx hb dX9_four_28 (by decide) ?_
  refine lv_iadd hx hb dX9_four_29 ?_
  refine lv_topi (fun y_2 ey_2 => ?_)
  obtain rfl : y_2 = 2 := ey_2.trans (by decide)
  refine va_put (D := (dC, dI)) (ci := 9) (v := .int 2) (ty := .int) (C := RX9) (T := TX9) (N := 67) hx hb hts hiX9 tyX9 tyX9_ok nmX9 hown hK hP hD hS 0 rfl rfl 18 (by decide) v_2 (fun _ h9 => h9) rfl (by decide +kernel) rfl rfl (Nat.le_of_ble_eq_true rfl) dX9_four_30 (fun H locs hP hD hS => ?_)
  have hP : va_P (dC, dI) vwCl [((b 0), .inr (9, [.int 0, .ref (b 10), .ref (b 11), .ref (b 12), .ref (b 13), .ref (b 14), .ref (b 15), .ref (b 16), .ref (b 17), .ref (b 18), .ref (b 19), .ref (b 20), .ref (b 1), .ref (b 2), .ref (b 3), .ref (b 4), .int 0, .ref (b 5), .int 2, .int 0, .int 0, .int 0, .int 0, .int 0, .int 0, .int (-1), .int 0, .int 0, .int 0, .int 0, .int 0, .ref (b 21), .ref (b 22), .int 0, .ref (b 23), .ref (b 24), .ref (b 25), .ref (b 26), .ref (b 27), .ref (b 28), .ref (b 29), .ref (b 30), .ref (b 31), .ref (b 32), .ref (b 33), .int 0, .int 0, .ref (b 34), .ref (b 35), .ref (b 36), .ref (b 37), .ref (b 38), .int 0, .int 0, .ref (b 39), .ref (b 40), .ref (b 41), .ref (b 42), .ref (b 43), .ref (b 44), .ref (b 45), .int 0, .int 0, .int 0, .ref (b 46), .int 0, .int 0])), ((b 5), .inl ((j 5), 900, .inl (upd (upd f (0 : Int32).toNatClampNeg ((p0 >>> (24 &&& 31)) &&& 255)) (1 : Int32).toNatClampNeg ((p0 >>> (16 &&& 31)) &&& 255))))] H := hP
  have hD : va_D A [((b 0), .inr (9, [.int 0, .ref (b 10), .ref (b 11), .ref (b 12), .ref (b 13), .ref (b 14), .ref (b 15), .ref (b 16), .ref (b 17), .ref (b 18), .ref (b 19), .ref (b 20), .ref (b 1), .ref (b 2), .ref (b 3), .ref (b 4), .int 0, .ref (b 5), .int 2, .int 0, .int 0, .int 0, .int 0, .int 0, .int 0, .int (-1), .int 0, .int 0, .int 0, .int 0, .int 0, .ref (b 21), .ref (b 22), .int 0, .ref (b 23), .ref (b 24), .ref (b 25), .ref (b 26), .ref (b 27), .ref (b 28), .ref (b 29), .ref (b 30), .ref (b 31), .ref (b 32), .ref (b 33), .int 0, .int 0, .ref (b 34), .ref (b 35), .ref (b 36), .ref (b 37), .ref (b 38), .int 0, .int 0, .ref (b 39), .ref (b 40), .ref (b 41), .ref (b 42), .ref (b 43), .ref (b 44), .ref (b 45), .int 0, .int 0, .int 0, .ref (b 46), .int 0, .int 0])), ((b 5), .inl ((j 5), 900, .inl (upd (upd f (0 : Int32).toNatClampNeg ((p0 >>> (24 &&& 31)) &&& 255)) (1 : Int32).toNatClampNeg ((p0 >>> (16 &&& 31)) &&& 255))))] := hD
  refine lv_iinc (v := 8) (lv' := [(2, .int 8), (0, .ref (b 0)), (1, .int p0)]) hx hb dX9_four_33 hl (k := 0) rfl (by decide) (by decide) rfl (fun ls hl => ?_)
  refine lv_goto (tgt := 3) hx hb dX9_four_36 (by decide) ?_
  refine lv_iload_n hx hb dX9_four_3 rfl (lv_at hl 0 rfl) ?_
  refine lv_if_lt (tgt := 39) hx hb dX9_four_4 (by decide) (fun z => absurd z (by decide)) (fun _ => ?_)
  refine lv_aload_n hx hb dX9_four_7 rfl (lv_at hl 1 rfl) ?_
  refine va_get (D := (dC, dI)) (ci := 9) (v := .ref (b 5)) (C := RX9) (T := TX9) (N := 67) hx hb hts hiX9 hown hK hP 0 rfl rfl 17 (by decide) v_1 (fun _ h9 => h9) rfl dX9_four_8 ?_
  refine lv_aload_n hx hb dX9_four_11 rfl (lv_at hl 1 rfl) ?_
  refine va_get (D := (dC, dI)) (ci := 9) (v := .int 2) (C := RX9) (T := TX9) (N := 67) hx hb hts hiX9 hown hK hP 0 rfl rfl 18 (by decide) v_2 (fun _ h9 => h9) rfl dX9_four_12 ?_
  refine lv_iload_n hx hb dX9_four_15 rfl (lv_at hl 2 rfl) ?_
  refine lv_iload_n hx hb dX9_four_16 rfl (lv_at hl 0 rfl) ?_
  refine lv_ishr hx hb dX9_four_17 ?_
  refine lv_sipush (v := 255) hx hb dX9_four_18 (by decide) ?_
  refine lv_iand hx hb dX9_four_21 ?_
  refine va_iast hx hb hK hP hD hS 1 0 rfl rfl (show ¬ (_ ∨ _) by decide) dX9_four_22 (fun H locs hP hD hS => ?_)
  have hP : va_P (dC, dI) vwCl [((b 0), .inr (9, [.int 0, .ref (b 10), .ref (b 11), .ref (b 12), .ref (b 13), .ref (b 14), .ref (b 15), .ref (b 16), .ref (b 17), .ref (b 18), .ref (b 19), .ref (b 20), .ref (b 1), .ref (b 2), .ref (b 3), .ref (b 4), .int 0, .ref (b 5), .int 2, .int 0, .int 0, .int 0, .int 0, .int 0, .int 0, .int (-1), .int 0, .int 0, .int 0, .int 0, .int 0, .ref (b 21), .ref (b 22), .int 0, .ref (b 23), .ref (b 24), .ref (b 25), .ref (b 26), .ref (b 27), .ref (b 28), .ref (b 29), .ref (b 30), .ref (b 31), .ref (b 32), .ref (b 33), .int 0, .int 0, .ref (b 34), .ref (b 35), .ref (b 36), .ref (b 37), .ref (b 38), .int 0, .int 0, .ref (b 39), .ref (b 40), .ref (b 41), .ref (b 42), .ref (b 43), .ref (b 44), .ref (b 45), .int 0, .int 0, .int 0, .ref (b 46), .int 0, .int 0])), ((b 5), .inl ((j 5), 900, .inl (upd (upd (upd f (0 : Int32).toNatClampNeg ((p0 >>> (24 &&& 31)) &&& 255)) (1 : Int32).toNatClampNeg ((p0 >>> (16 &&& 31)) &&& 255)) (2 : Int32).toNatClampNeg ((p0 >>> (8 &&& 31)) &&& 255))))] H := hP
  have hD : va_D A [((b 0), .inr (9, [.int 0, .ref (b 10), .ref (b 11), .ref (b 12), .ref (b 13), .ref (b 14), .ref (b 15), .ref (b 16), .ref (b 17), .ref (b 18), .ref (b 19), .ref (b 20), .ref (b 1), .ref (b 2), .ref (b 3), .ref (b 4), .int 0, .ref (b 5), .int 2, .int 0, .int 0, .int 0, .int 0, .int 0, .int 0, .int (-1), .int 0, .int 0, .int 0, .int 0, .int 0, .ref (b 21), .ref (b 22), .int 0, .ref (b 23), .ref (b 24), .ref (b 25), .ref (b 26), .ref (b 27), .ref (b 28), .ref (b 29), .ref (b 30), .ref (b 31), .ref (b 32), .ref (b 33), .int 0, .int 0, .ref (b 34), .ref (b 35), .ref (b 36), .ref (b 37), .ref (b 38), .int 0, .int 0, .ref (b 39), .ref (b 40), .ref (b 41), .ref (b 42), .ref (b 43), .ref (b 44), .ref (b 45), .int 0, .int 0, .int 0, .ref (b 46), .int 0, .int 0])), ((b 5), .inl ((j 5), 900, .inl (upd (upd (upd f (0 : Int32).toNatClampNeg ((p0 >>> (24 &&& 31)) &&& 255)) (1 : Int32).toNatClampNeg ((p0 >>> (16 &&& 31)) &&& 255)) (2 : Int32).toNatClampNeg ((p0 >>> (8 &&& 31)) &&& 255))))] := hD
  refine lv_aload_n hx hb dX9_four_23 rfl (lv_at hl 1 rfl) ?_
  refine lv_dup hx hb dX9_four_24 rfl ?_
  refine va_get (D := (dC, dI)) (ci := 9) (v := .int 2) (C := RX9) (T := TX9) (N := 67) hx hb hts hiX9 hown hK hP 0 rfl rfl 18 (by decide) v_2 (fun _ h9 => h9) rfl dX9_four_25 ?_
  refine lv_iconst (v := 1) hx hb dX9_four_28 (by decide) ?_
  refine lv_iadd hx hb dX9_four_29 ?_
  refine lv_topi (fun y_3 ey_3 => ?_)
  obtain rfl : y_3 = 3 := ey_3.trans (by decide)
  refine va_put (D := (dC, dI)) (ci := 9) (v := .int 3) (ty := .int) (C := RX9) (T := TX9) (N := 67) hx hb hts hiX9 tyX9 tyX9_ok nmX9 hown hK hP hD hS 0 rfl rfl 18 (by decide) v_2 (fun _ h9 => h9) rfl (by decide +kernel) rfl rfl (Nat.le_of_ble_eq_true rfl) dX9_four_30 (fun H locs hP hD hS => ?_)
  have hP : va_P (dC, dI) vwCl [((b 0), .inr (9, [.int 0, .ref (b 10), .ref (b 11), .ref (b 12), .ref (b 13), .ref (b 14), .ref (b 15), .ref (b 16), .ref (b 17), .ref (b 18), .ref (b 19), .ref (b 20), .ref (b 1), .ref (b 2), .ref (b 3), .ref (b 4), .int 0, .ref (b 5), .int 3, .int 0, .int 0, .int 0, .int 0, .int 0, .int 0, .int (-1), .int 0, .int 0, .int 0, .int 0, .int 0, .ref (b 21), .ref (b 22), .int 0, .ref (b 23), .ref (b 24), .ref (b 25), .ref (b 26), .ref (b 27), .ref (b 28), .ref (b 29), .ref (b 30), .ref (b 31), .ref (b 32), .ref (b 33), .int 0, .int 0, .ref (b 34), .ref (b 35), .ref (b 36), .ref (b 37), .ref (b 38), .int 0, .int 0, .ref (b 39), .ref (b 40), .ref (b 41), .ref (b 42), .ref (b 43), .ref (b 44), .ref (b 45), .int 0, .int 0, .int 0, .ref (b 46), .int 0, .int 0])), ((b 5), .inl ((j 5), 900, .inl (upd (upd (upd f (0 : Int32).toNatClampNeg ((p0 >>> (24 &&& 31)) &&& 255)) (1 : Int32).toNatClampNeg ((p0 >>> (16 &&& 31)) &&& 255)) (2 : Int32).toNatClampNeg ((p0 >>> (8 &&& 31)) &&& 255))))] H := hP
  have hD : va_D A [((b 0), .inr (9, [.int 0, .ref (b 10), .ref (b 11), .ref (b 12), .ref (b 13), .ref (b 14), .ref (b 15), .ref (b 16), .ref (b 17), .ref (b 18), .ref (b 19), .ref (b 20), .ref (b 1), .ref (b 2), .ref (b 3), .ref (b 4), .int 0, .ref (b 5), .int 3, .int 0, .int 0, .int 0, .int 0, .int 0, .int 0, .int (-1), .int 0, .int 0, .int 0, .int 0, .int 0, .ref (b 21), .ref (b 22), .int 0, .ref (b 23), .ref (b 24), .ref (b 25), .ref (b 26), .ref (b 27), .ref (b 28), .ref (b 29), .ref (b 30), .ref (b 31), .ref (b 32), .ref (b 33), .int 0, .int 0, .ref (b 34), .ref (b 35), .ref (b 36), .ref (b 37), .ref (b 38), .int 0, .int 0, .ref (b 39), .ref (b 40), .ref (b 41), .ref (b 42), .ref (b 43), .ref (b 44), .ref (b 45), .int 0, .int 0, .int 0, .ref (b 46), .int 0, .int 0])), ((b 5), .inl ((j 5), 900, .inl (upd (upd (upd f (0 : Int32).toNatClampNeg ((p0 >>> (24 &&& 31)) &&& 255)) (1 : Int32).toNatClampNeg ((p0 >>> (16 &&& 31)) &&& 255)) (2 : Int32).toNatClampNeg ((p0 >>> (8 &&& 31)) &&& 255))))] := hD
  refine lv_iinc (v := 0) (lv' := [(2, .int 0), (0, .ref (b 0)), (1, .int p0)]) hx hb dX9_four_33 hl (k := 0) rfl (by decide) (by decide) rfl (fun ls hl => ?_)
  refine lv_goto (tgt := 3) hx hb dX9_four_36 (by decide) ?_
  refine lv_iload_n hx hb dX9_four_3 rfl (lv_at hl 0 rfl) ?_
  refine lv_if_lt (tgt := 39) hx hb dX9_four_4 (by decide) (fun z => absurd z (by decide)) (fun _ => ?_)
  refine lv_aload_n hx hb dX9_four_7 rfl (lv_at hl 1 rfl) ?_
  refine va_get (D := (dC, dI)) (ci := 9) (v := .ref (b 5)) (C := RX9) (T := TX9) (N := 67) hx hb hts hiX9 hown hK hP 0 rfl rfl 17 (by decide) v_1 (fun _ h9 => h9) rfl dX9_four_8 ?_
  refine lv_aload_n hx hb dX9_four_11 rfl (lv_at hl 1 rfl) ?_
  refine va_get (D := (dC, dI)) (ci := 9) (v := .int 3) (C := RX9) (T := TX9) (N := 67) hx hb hts hiX9 hown hK hP 0 rfl rfl 18 (by decide) v_2 (fun _ h9 => h9) rfl dX9_four_12 ?_
  refine lv_iload_n hx hb dX9_four_15 rfl (lv_at hl 2 rfl) ?_
  refine lv_iload_n hx hb dX9_four_16 rfl (lv_at hl 0 rfl) ?_
  refine lv_ishr hx hb dX9_four_17 ?_
  refine lv_sipush (v := 255) hx hb dX9_four_18 (by decide) ?_
  refine lv_iand hx hb dX9_four_21 ?_
  refine va_iast hx hb hK hP hD hS 1 0 rfl rfl (show ¬ (_ ∨ _) by decide) dX9_four_22 (fun H locs hP hD hS => ?_)
  have hP : va_P (dC, dI) vwCl [((b 0), .inr (9, [.int 0, .ref (b 10), .ref (b 11), .ref (b 12), .ref (b 13), .ref (b 14), .ref (b 15), .ref (b 16), .ref (b 17), .ref (b 18), .ref (b 19), .ref (b 20), .ref (b 1), .ref (b 2), .ref (b 3), .ref (b 4), .int 0, .ref (b 5), .int 3, .int 0, .int 0, .int 0, .int 0, .int 0, .int 0, .int (-1), .int 0, .int 0, .int 0, .int 0, .int 0, .ref (b 21), .ref (b 22), .int 0, .ref (b 23), .ref (b 24), .ref (b 25), .ref (b 26), .ref (b 27), .ref (b 28), .ref (b 29), .ref (b 30), .ref (b 31), .ref (b 32), .ref (b 33), .int 0, .int 0, .ref (b 34), .ref (b 35), .ref (b 36), .ref (b 37), .ref (b 38), .int 0, .int 0, .ref (b 39), .ref (b 40), .ref (b 41), .ref (b 42), .ref (b 43), .ref (b 44), .ref (b 45), .int 0, .int 0, .int 0, .ref (b 46), .int 0, .int 0])), ((b 5), .inl ((j 5), 900, .inl (upd (upd (upd (upd f (0 : Int32).toNatClampNeg ((p0 >>> (24 &&& 31)) &&& 255)) (1 : Int32).toNatClampNeg ((p0 >>> (16 &&& 31)) &&& 255)) (2 : Int32).toNatClampNeg ((p0 >>> (8 &&& 31)) &&& 255)) (3 : Int32).toNatClampNeg ((p0 >>> (0 &&& 31)) &&& 255))))] H := hP
  have hD : va_D A [((b 0), .inr (9, [.int 0, .ref (b 10), .ref (b 11), .ref (b 12), .ref (b 13), .ref (b 14), .ref (b 15), .ref (b 16), .ref (b 17), .ref (b 18), .ref (b 19), .ref (b 20), .ref (b 1), .ref (b 2), .ref (b 3), .ref (b 4), .int 0, .ref (b 5), .int 3, .int 0, .int 0, .int 0, .int 0, .int 0, .int 0, .int (-1), .int 0, .int 0, .int 0, .int 0, .int 0, .ref (b 21), .ref (b 22), .int 0, .ref (b 23), .ref (b 24), .ref (b 25), .ref (b 26), .ref (b 27), .ref (b 28), .ref (b 29), .ref (b 30), .ref (b 31), .ref (b 32), .ref (b 33), .int 0, .int 0, .ref (b 34), .ref (b 35), .ref (b 36), .ref (b 37), .ref (b 38), .int 0, .int 0, .ref (b 39), .ref (b 40), .ref (b 41), .ref (b 42), .ref (b 43), .ref (b 44), .ref (b 45), .int 0, .int 0, .int 0, .ref (b 46), .int 0, .int 0])), ((b 5), .inl ((j 5), 900, .inl (upd (upd (upd (upd f (0 : Int32).toNatClampNeg ((p0 >>> (24 &&& 31)) &&& 255)) (1 : Int32).toNatClampNeg ((p0 >>> (16 &&& 31)) &&& 255)) (2 : Int32).toNatClampNeg ((p0 >>> (8 &&& 31)) &&& 255)) (3 : Int32).toNatClampNeg ((p0 >>> (0 &&& 31)) &&& 255))))] := hD
  refine lv_aload_n hx hb dX9_four_23 rfl (lv_at hl 1 rfl) ?_
  refine lv_dup hx hb dX9_four_24 rfl ?_
  refine va_get (D := (dC, dI)) (ci := 9) (v := .int 3) (C := RX9) (T := TX9) (N := 67) hx hb hts hiX9 hown hK hP 0 rfl rfl 18 (by decide) v_2 (fun _ h9 => h9) rfl dX9_four_25 ?_
  refine lv_iconst (v := 1) hx hb dX9_four_28 (by decide) ?_
  refine lv_iadd hx hb dX9_four_29 ?_
  refine lv_topi (fun y_4 ey_4 => ?_)
  obtain rfl : y_4 = 4 := ey_4.trans (by decide)
  refine va_put (D := (dC, dI)) (ci := 9) (v := .int 4) (ty := .int) (C := RX9) (T := TX9) (N := 67) hx hb hts hiX9 tyX9 tyX9_ok nmX9 hown hK hP hD hS 0 rfl rfl 18 (by decide) v_2 (fun _ h9 => h9) rfl (by decide +kernel) rfl rfl (Nat.le_of_ble_eq_true rfl) dX9_four_30 (fun H locs hP hD hS => ?_)
  have hP : va_P (dC, dI) vwCl [((b 0), .inr (9, [.int 0, .ref (b 10), .ref (b 11), .ref (b 12), .ref (b 13), .ref (b 14), .ref (b 15), .ref (b 16), .ref (b 17), .ref (b 18), .ref (b 19), .ref (b 20), .ref (b 1), .ref (b 2), .ref (b 3), .ref (b 4), .int 0, .ref (b 5), .int 4, .int 0, .int 0, .int 0, .int 0, .int 0, .int 0, .int (-1), .int 0, .int 0, .int 0, .int 0, .int 0, .ref (b 21), .ref (b 22), .int 0, .ref (b 23), .ref (b 24), .ref (b 25), .ref (b 26), .ref (b 27), .ref (b 28), .ref (b 29), .ref (b 30), .ref (b 31), .ref (b 32), .ref (b 33), .int 0, .int 0, .ref (b 34), .ref (b 35), .ref (b 36), .ref (b 37), .ref (b 38), .int 0, .int 0, .ref (b 39), .ref (b 40), .ref (b 41), .ref (b 42), .ref (b 43), .ref (b 44), .ref (b 45), .int 0, .int 0, .int 0, .ref (b 46), .int 0, .int 0])), ((b 5), .inl ((j 5), 900, .inl (upd (upd (upd (upd f (0 : Int32).toNatClampNeg ((p0 >>> (24 &&& 31)) &&& 255)) (1 : Int32).toNatClampNeg ((p0 >>> (16 &&& 31)) &&& 255)) (2 : Int32).toNatClampNeg ((p0 >>> (8 &&& 31)) &&& 255)) (3 : Int32).toNatClampNeg ((p0 >>> (0 &&& 31)) &&& 255))))] H := hP
  have hD : va_D A [((b 0), .inr (9, [.int 0, .ref (b 10), .ref (b 11), .ref (b 12), .ref (b 13), .ref (b 14), .ref (b 15), .ref (b 16), .ref (b 17), .ref (b 18), .ref (b 19), .ref (b 20), .ref (b 1), .ref (b 2), .ref (b 3), .ref (b 4), .int 0, .ref (b 5), .int 4, .int 0, .int 0, .int 0, .int 0, .int 0, .int 0, .int (-1), .int 0, .int 0, .int 0, .int 0, .int 0, .ref (b 21), .ref (b 22), .int 0, .ref (b 23), .ref (b 24), .ref (b 25), .ref (b 26), .ref (b 27), .ref (b 28), .ref (b 29), .ref (b 30), .ref (b 31), .ref (b 32), .ref (b 33), .int 0, .int 0, .ref (b 34), .ref (b 35), .ref (b 36), .ref (b 37), .ref (b 38), .int 0, .int 0, .ref (b 39), .ref (b 40), .ref (b 41), .ref (b 42), .ref (b 43), .ref (b 44), .ref (b 45), .int 0, .int 0, .int 0, .ref (b 46), .int 0, .int 0])), ((b 5), .inl ((j 5), 900, .inl (upd (upd (upd (upd f (0 : Int32).toNatClampNeg ((p0 >>> (24 &&& 31)) &&& 255)) (1 : Int32).toNatClampNeg ((p0 >>> (16 &&& 31)) &&& 255)) (2 : Int32).toNatClampNeg ((p0 >>> (8 &&& 31)) &&& 255)) (3 : Int32).toNatClampNeg ((p0 >>> (0 &&& 31)) &&& 255))))] := hD
  refine lv_iinc (v := (-8)) (lv' := [(2, .int (-8)), (0, .ref (b 0)), (1, .int p0)]) hx hb dX9_four_33 hl (k := 0) rfl (by decide) (by decide) rfl (fun ls hl => ?_)
  refine lv_goto (tgt := 3) hx hb dX9_four_36 (by decide) ?_
  refine lv_iload_n hx hb dX9_four_3 rfl (lv_at hl 0 rfl) ?_
  refine lv_if_lt (tgt := 39) hx hb dX9_four_4 (by decide) (fun _ => ?_) (fun z => absurd z (by decide))
  have hP9 := hP.sub (ws' := [((b 0), .inr (9, [.int 0, .ref (b 10), .ref (b 11), .ref (b 12), .ref (b 13), .ref (b 14), .ref (b 15), .ref (b 16), .ref (b 17), .ref (b 18), .ref (b 19), .ref (b 20), .ref (b 1), .ref (b 2), .ref (b 3), .ref (b 4), .int 0, .ref (b 5), .int 4, .int 0, .int 0, .int 0, .int 0, .int 0, .int 0, .int (-1), .int 0, .int 0, .int 0, .int 0, .int 0, .ref (b 21), .ref (b 22), .int 0, .ref (b 23), .ref (b 24), .ref (b 25), .ref (b 26), .ref (b 27), .ref (b 28), .ref (b 29), .ref (b 30), .ref (b 31), .ref (b 32), .ref (b 33), .int 0, .int 0, .ref (b 34), .ref (b 35), .ref (b 36), .ref (b 37), .ref (b 38), .int 0, .int 0, .ref (b 39), .ref (b 40), .ref (b 41), .ref (b 42), .ref (b 43), .ref (b 44), .ref (b 45), .int 0, .int 0, .int 0, .ref (b 46), .int 0, .int 0])), ((b 5), .inl ((j 5), 900, .inl (upd (upd (upd (upd f (0 : Int32).toNatClampNeg ((p0 >>> (24 &&& 31)) &&& 255)) (1 : Int32).toNatClampNeg ((p0 >>> (16 &&& 31)) &&& 255)) (2 : Int32).toNatClampNeg ((p0 >>> (8 &&& 31)) &&& 255)) (3 : Int32).toNatClampNeg ((p0 >>> (0 &&& 31)) &&& 255))))]) [0, 1] rfl
  have hD9 := hD.sub (ws' := [((b 0), .inr (9, [.int 0, .ref (b 10), .ref (b 11), .ref (b 12), .ref (b 13), .ref (b 14), .ref (b 15), .ref (b 16), .ref (b 17), .ref (b 18), .ref (b 19), .ref (b 20), .ref (b 1), .ref (b 2), .ref (b 3), .ref (b 4), .int 0, .ref (b 5), .int 4, .int 0, .int 0, .int 0, .int 0, .int 0, .int 0, .int (-1), .int 0, .int 0, .int 0, .int 0, .int 0, .ref (b 21), .ref (b 22), .int 0, .ref (b 23), .ref (b 24), .ref (b 25), .ref (b 26), .ref (b 27), .ref (b 28), .ref (b 29), .ref (b 30), .ref (b 31), .ref (b 32), .ref (b 33), .int 0, .int 0, .ref (b 34), .ref (b 35), .ref (b 36), .ref (b 37), .ref (b 38), .int 0, .int 0, .ref (b 39), .ref (b 40), .ref (b 41), .ref (b 42), .ref (b 43), .ref (b 44), .ref (b 45), .int 0, .int 0, .int 0, .ref (b 46), .int 0, .int 0])), ((b 5), .inl ((j 5), 900, .inl (upd (upd (upd (upd f (0 : Int32).toNatClampNeg ((p0 >>> (24 &&& 31)) &&& 255)) (1 : Int32).toNatClampNeg ((p0 >>> (16 &&& 31)) &&& 255)) (2 : Int32).toNatClampNeg ((p0 >>> (8 &&& 31)) &&& 255)) (3 : Int32).toNatClampNeg ((p0 >>> (0 &&& 31)) &&& 255))))]) [0, 1] (by decide) rfl
  have hK9 := hK.sub (tys' := [(j 5, .int)]) [0] rfl
  exact W.vret hx hb hr (fun t ht hW => ⟨⟨(), rfl, trivial, ⟨upd (upd (upd (upd f (0 : Int32).toNatClampNeg ((p0 >>> (24 &&& 31)) &&& 255)) (1 : Int32).toNatClampNeg ((p0 >>> (16 &&& 31)) &&& 255)) (2 : Int32).toNatClampNeg ((p0 >>> (8 &&& 31)) &&& 255)) (3 : Int32).toNatClampNeg ((p0 >>> (0 &&& 31)) &&& 255), by rw [ht]; exact hP9, va_K.moved hW.alike hK9, hD9⟩⟩, hS.F ht⟩) hS.2.2 dX9_four_39
def vs_X8_putBytes_4 : List Cond := .code yX8_putBytes cX8_putBytes 3 none :: ([.fieldLink RX8 79 "ClockReach" "taped" "I", .fieldLink RX8 9 "ClockReach" "tape" "[I"] ++ wsX80)
set_option maxHeartbeats 4000000 in
set_option maxRecDepth 100000 in
theorem c_X8_putBytes_4 (l : Launch) (dC : Nat → ClassId) (dI : Nat → Nat → Nat) (sz : Nat) (a : Nat → Nat) (k : Nat → ClassId) (f : Nat → Int32) (p0 : Int32) : Met l yX8_putBytes vs_X8_putBytes_4 ({ frames := 0, cells := 0, slots := 0, locals := 0 }) (va_Pc [.ref (a 0), .int p0] (pu_B (dC, dI) [((a 0), .inr (8, [.ref (a 6), .int 4, .ref (a 4), .ref (a 1), .ref (a 5), .ref (a 2), .ref (a 10), .int 0, .ref (a 11), .ref (a 12), .int 0, .ref (a 13), .ref (a 14), .ref (a 3), .ref (a 15), .ref (a 16)])), ((a 6), .inl ((k 0), 900, .inl f))] [(k 0, .int)] sz)) (va_Qv (fun (_ : Unit) => True) (fun _ t => ∃ (g : Nat → Int32), pu_E (dC, dI) [((a 0), .inr (8, [.ref (a 6), .int 8, .ref (a 4), .ref (a 1), .ref (a 5), .ref (a 2), .ref (a 10), .int 0, .ref (a 11), .ref (a 12), .int 0, .ref (a 13), .ref (a 14), .ref (a 3), .ref (a 15), .ref (a 16)])), ((a 6), .inl ((k 0), 900, .inl g))] [(k 0, .int)] (va_A ([((a 0), .inr (8, [.ref (a 6), .int 4, .ref (a 4), .ref (a 1), .ref (a 5), .ref (a 2), .ref (a 10), .int 0, .ref (a 11), .ref (a 12), .int 0, .ref (a 13), .ref (a 14), .ref (a 3), .ref (a 15), .ref (a 16)])), ((a 6), .inl ((k 0), 900, .inl f))]) sz) t) (va_A ([((a 0), .inr (8, [.ref (a 6), .int 4, .ref (a 4), .ref (a 1), .ref (a 5), .ref (a 2), .ref (a 10), .int 0, .ref (a 11), .ref (a 12), .int 0, .ref (a 13), .ref (a 14), .ref (a 3), .ref (a 15), .ref (a 16)])), ((a 6), .inl ((k 0), 900, .inl f))]) sz)) 0 0 (va_A ([((a 0), .inr (8, [.ref (a 6), .int 4, .ref (a 4), .ref (a 1), .ref (a 5), .ref (a 2), .ref (a 10), .int 0, .ref (a 11), .ref (a 12), .int 0, .ref (a 13), .ref (a 14), .ref (a 3), .ref (a 15), .ref (a 16)])), ((a 6), .inl ((k 0), 900, .inl f))]) sz) := by
  refine Met.ofW (cc := cX8_putBytes) (maxL := 3) (ret := none) (by decide) rfl ?_
  intro p e s m args below meth c s₁ B hml hv
  obtain ⟨rfl, rfl, hP, hK, hD0⟩ := hv
  have hx := B.exec
  have hb := B.bytes
  have hr := B.returns
  have hts := atoms_spec (ws := vs_X8_putBytes_4) B.pre
  have v_1 := hts (.fieldLink RX8 79 "ClockReach" "taped" "I") (List.mem_of_getElem? (i := 1) rfl)
  have v_2 := hts (.fieldLink RX8 9 "ClockReach" "tape" "[I") (List.mem_of_getElem? (i := 2) rfl)
  have hown : s.vm.findClass RX8 = some m.cls := findClass_of_methodNamed B.named
  have hlocks := B.notSynchronized
  have hiX8 : ∀ w ∈ wsX80, w ∈ vs_X8_putBytes_4 := fun _ h => List.mem_cons_of_mem _ (List.mem_append_right _ h)
  have hD := hD0.self (sz := s.heap.size)
  generalize hAe : va_A ([((a 0), .inr (8, [.ref (a 6), .int 4, .ref (a 4), .ref (a 1), .ref (a 5), .ref (a 2), .ref (a 10), .int 0, .ref (a 11), .ref (a 12), .int 0, .ref (a 13), .ref (a 14), .ref (a 3), .ref (a 15), .ref (a 16)])), ((a 6), .inl ((k 0), 900, .inl f))]) s.heap.size = A at hD ⊢
  have hA : ∀ q : Nat, s.heap.size ≤ q → A q := fun q h => by rw [← hAe]; exact Or.inr h
  have hS : va_S A s.heap s.heap [] := va_S.rf
  have hl := lv_entry ([.ref (a 0), .int p0]) (n := 3) (Nat.le_of_ble_eq_true rfl)
  rw [lg_entry_eq]
  generalize (lg_sl ([.ref (a 0), .int p0]) ++ List.replicate (3 - (lg_sl ([.ref (a 0), .int p0])).length) Slot.unset).toArray = ls at hl ⊢
  have hl : lv_has ls 3 [(0, .ref (a 0)), (1, .int p0)] := hl
  refine lv_bipush (v := 24) hx hb dX8_putBytes_0 (by decide) ?_
  refine lv_istore_n (lv' := [(2, .int 24), (0, .ref (a 0)), (1, .int p0)]) hx hb dX8_putBytes_2 rfl hl (by decide) rfl (fun ls hl => ?_)
  refine lv_iload_n hx hb dX8_putBytes_3 rfl (lv_at hl 0 rfl) ?_
  refine lv_if_lt (tgt := 49) hx hb dX8_putBytes_4 (by decide) (fun z => absurd z (by decide)) (fun _ => ?_)
  refine lv_aload_n hx hb dX8_putBytes_7 rfl (lv_at hl 1 rfl) ?_
  refine va_get (D := (dC, dI)) (ci := 8) (v := .int 4) (C := RX8) (T := TX8) (N := 16) hx hb hts hiX8 hown hK hP 0 rfl rfl 1 (by decide) v_1 (fun _ h9 => h9) rfl dX8_putBytes_8 ?_
  refine lv_sipush (v := 900) hx hb dX8_putBytes_11 (by decide) ?_
  refine lv_icmp_ge (tgt := 49) hx hb dX8_putBytes_14 (by decide) (fun z => absurd z (by decide)) (fun _ => ?_)
  refine lv_aload_n hx hb dX8_putBytes_17 rfl (lv_at hl 1 rfl) ?_
  refine va_get (D := (dC, dI)) (ci := 8) (v := .ref (a 6)) (C := RX8) (T := TX8) (N := 16) hx hb hts hiX8 hown hK hP 0 rfl rfl 0 (by decide) v_2 (fun _ h9 => h9) rfl dX8_putBytes_18 ?_
  refine lv_aload_n hx hb dX8_putBytes_21 rfl (lv_at hl 1 rfl) ?_
  refine va_get (D := (dC, dI)) (ci := 8) (v := .int 4) (C := RX8) (T := TX8) (N := 16) hx hb hts hiX8 hown hK hP 0 rfl rfl 1 (by decide) v_1 (fun _ h9 => h9) rfl dX8_putBytes_22 ?_
  refine lv_iload_n hx hb dX8_putBytes_25 rfl (lv_at hl 2 rfl) ?_
  refine lv_iload_n hx hb dX8_putBytes_26 rfl (lv_at hl 0 rfl) ?_
  refine lv_ishr hx hb dX8_putBytes_27 ?_
  refine lv_sipush (v := 255) hx hb dX8_putBytes_28 (by decide) ?_
  refine lv_iand hx hb dX8_putBytes_31 ?_
  refine va_iast hx hb hK hP hD hS 1 0 rfl rfl (show ¬ (_ ∨ _) by decide) dX8_putBytes_32 (fun H locs hP hD hS => ?_)
  have hP : va_P (dC, dI) vwCl [((a 0), .inr (8, [.ref (a 6), .int 4, .ref (a 4), .ref (a 1), .ref (a 5), .ref (a 2), .ref (a 10), .int 0, .ref (a 11), .ref (a 12), .int 0, .ref (a 13), .ref (a 14), .ref (a 3), .ref (a 15), .ref (a 16)])), ((a 6), .inl ((k 0), 900, .inl (upd f (4 : Int32).toNatClampNeg ((p0 >>> (24 &&& 31)) &&& 255))))] H := hP
  have hD : va_D A [((a 0), .inr (8, [.ref (a 6), .int 4, .ref (a 4), .ref (a 1), .ref (a 5), .ref (a 2), .ref (a 10), .int 0, .ref (a 11), .ref (a 12), .int 0, .ref (a 13), .ref (a 14), .ref (a 3), .ref (a 15), .ref (a 16)])), ((a 6), .inl ((k 0), 900, .inl (upd f (4 : Int32).toNatClampNeg ((p0 >>> (24 &&& 31)) &&& 255))))] := hD
  refine lv_aload_n hx hb dX8_putBytes_33 rfl (lv_at hl 1 rfl) ?_
  refine lv_dup hx hb dX8_putBytes_34 rfl ?_
  refine va_get (D := (dC, dI)) (ci := 8) (v := .int 4) (C := RX8) (T := TX8) (N := 16) hx hb hts hiX8 hown hK hP 0 rfl rfl 1 (by decide) v_1 (fun _ h9 => h9) rfl dX8_putBytes_35 ?_
  refine lv_iconst (v := 1) hx hb dX8_putBytes_38 (by decide) ?_
  refine lv_iadd hx hb dX8_putBytes_39 ?_
  refine lv_topi (fun y_1 ey_1 => ?_)
  obtain rfl : y_1 = 5 := ey_1.trans (by decide)
  refine va_put (D := (dC, dI)) (ci := 8) (v := .int 5) (ty := .int) (C := RX8) (T := TX8) (N := 16) hx hb hts hiX8 tyX8 tyX8_ok nmX8 hown hK hP hD hS 0 rfl rfl 1 (by decide) v_1 (fun _ h9 => h9) rfl (by decide +kernel) rfl rfl (Nat.le_of_ble_eq_true rfl) dX8_putBytes_40 (fun H locs hP hD hS => ?_)
  have hP : va_P (dC, dI) vwCl [((a 0), .inr (8, [.ref (a 6), .int 5, .ref (a 4), .ref (a 1), .ref (a 5), .ref (a 2), .ref (a 10), .int 0, .ref (a 11), .ref (a 12), .int 0, .ref (a 13), .ref (a 14), .ref (a 3), .ref (a 15), .ref (a 16)])), ((a 6), .inl ((k 0), 900, .inl (upd f (4 : Int32).toNatClampNeg ((p0 >>> (24 &&& 31)) &&& 255))))] H := hP
  have hD : va_D A [((a 0), .inr (8, [.ref (a 6), .int 5, .ref (a 4), .ref (a 1), .ref (a 5), .ref (a 2), .ref (a 10), .int 0, .ref (a 11), .ref (a 12), .int 0, .ref (a 13), .ref (a 14), .ref (a 3), .ref (a 15), .ref (a 16)])), ((a 6), .inl ((k 0), 900, .inl (upd f (4 : Int32).toNatClampNeg ((p0 >>> (24 &&& 31)) &&& 255))))] := hD
  refine lv_iinc (v := 16) (lv' := [(2, .int 16), (0, .ref (a 0)), (1, .int p0)]) hx hb dX8_putBytes_43 hl (k := 0) rfl (by decide) (by decide) rfl (fun ls hl => ?_)
  refine lv_goto (tgt := 3) hx hb dX8_putBytes_46 (by decide) ?_
  refine lv_iload_n hx hb dX8_putBytes_3 rfl (lv_at hl 0 rfl) ?_
  refine lv_if_lt (tgt := 49) hx hb dX8_putBytes_4 (by decide) (fun z => absurd z (by decide)) (fun _ => ?_)
  refine lv_aload_n hx hb dX8_putBytes_7 rfl (lv_at hl 1 rfl) ?_
  refine va_get (D := (dC, dI)) (ci := 8) (v := .int 5) (C := RX8) (T := TX8) (N := 16) hx hb hts hiX8 hown hK hP 0 rfl rfl 1 (by decide) v_1 (fun _ h9 => h9) rfl dX8_putBytes_8 ?_
  refine lv_sipush (v := 900) hx hb dX8_putBytes_11 (by decide) ?_
  refine lv_icmp_ge (tgt := 49) hx hb dX8_putBytes_14 (by decide) (fun z => absurd z (by decide)) (fun _ => ?_)
  refine lv_aload_n hx hb dX8_putBytes_17 rfl (lv_at hl 1 rfl) ?_
  refine va_get (D := (dC, dI)) (ci := 8) (v := .ref (a 6)) (C := RX8) (T := TX8) (N := 16) hx hb hts hiX8 hown hK hP 0 rfl rfl 0 (by decide) v_2 (fun _ h9 => h9) rfl dX8_putBytes_18 ?_
  refine lv_aload_n hx hb dX8_putBytes_21 rfl (lv_at hl 1 rfl) ?_
  refine va_get (D := (dC, dI)) (ci := 8) (v := .int 5) (C := RX8) (T := TX8) (N := 16) hx hb hts hiX8 hown hK hP 0 rfl rfl 1 (by decide) v_1 (fun _ h9 => h9) rfl dX8_putBytes_22 ?_
  refine lv_iload_n hx hb dX8_putBytes_25 rfl (lv_at hl 2 rfl) ?_
  refine lv_iload_n hx hb dX8_putBytes_26 rfl (lv_at hl 0 rfl) ?_
  refine lv_ishr hx hb dX8_putBytes_27 ?_
  refine lv_sipush (v := 255) hx hb dX8_putBytes_28 (by decide) ?_
  refine lv_iand hx hb dX8_putBytes_31 ?_
  refine va_iast hx hb hK hP hD hS 1 0 rfl rfl (show ¬ (_ ∨ _) by decide) dX8_putBytes_32 (fun H locs hP hD hS => ?_)
  have hP : va_P (dC, dI) vwCl [((a 0), .inr (8, [.ref (a 6), .int 5, .ref (a 4), .ref (a 1), .ref (a 5), .ref (a 2), .ref (a 10), .int 0, .ref (a 11), .ref (a 12), .int 0, .ref (a 13), .ref (a 14), .ref (a 3), .ref (a 15), .ref (a 16)])), ((a 6), .inl ((k 0), 900, .inl (upd (upd f (4 : Int32).toNatClampNeg ((p0 >>> (24 &&& 31)) &&& 255)) (5 : Int32).toNatClampNeg ((p0 >>> (16 &&& 31)) &&& 255))))] H := hP
  have hD : va_D A [((a 0), .inr (8, [.ref (a 6), .int 5, .ref (a 4), .ref (a 1), .ref (a 5), .ref (a 2), .ref (a 10), .int 0, .ref (a 11), .ref (a 12), .int 0, .ref (a 13), .ref (a 14), .ref (a 3), .ref (a 15), .ref (a 16)])), ((a 6), .inl ((k 0), 900, .inl (upd (upd f (4 : Int32).toNatClampNeg ((p0 >>> (24 &&& 31)) &&& 255)) (5 : Int32).toNatClampNeg ((p0 >>> (16 &&& 31)) &&& 255))))] := hD
  refine lv_aload_n hx hb dX8_putBytes_33 rfl (lv_at hl 1 rfl) ?_
  refine lv_dup hx hb dX8_putBytes_34 rfl ?_
  refine va_get (D := (dC, dI)) (ci := 8) (v := .int 5) (C := RX8) (T := TX8) (N := 16) hx hb hts hiX8 hown hK hP 0 rfl rfl 1 (by decide) v_1 (fun _ h9 => h9) rfl dX8_putBytes_35 ?_
  refine lv_iconst (v := 1) hx hb dX8_putBytes_38 (by decide) ?_
  refine lv_iadd hx hb dX8_putBytes_39 ?_
  refine lv_topi (fun y_2 ey_2 => ?_)
  obtain rfl : y_2 = 6 := ey_2.trans (by decide)
  refine va_put (D := (dC, dI)) (ci := 8) (v := .int 6) (ty := .int) (C := RX8) (T := TX8) (N := 16) hx hb hts hiX8 tyX8 tyX8_ok nmX8 hown hK hP hD hS 0 rfl rfl 1 (by decide) v_1 (fun _ h9 => h9) rfl (by decide +kernel) rfl rfl (Nat.le_of_ble_eq_true rfl) dX8_putBytes_40 (fun H locs hP hD hS => ?_)
  have hP : va_P (dC, dI) vwCl [((a 0), .inr (8, [.ref (a 6), .int 6, .ref (a 4), .ref (a 1), .ref (a 5), .ref (a 2), .ref (a 10), .int 0, .ref (a 11), .ref (a 12), .int 0, .ref (a 13), .ref (a 14), .ref (a 3), .ref (a 15), .ref (a 16)])), ((a 6), .inl ((k 0), 900, .inl (upd (upd f (4 : Int32).toNatClampNeg ((p0 >>> (24 &&& 31)) &&& 255)) (5 : Int32).toNatClampNeg ((p0 >>> (16 &&& 31)) &&& 255))))] H := hP
  have hD : va_D A [((a 0), .inr (8, [.ref (a 6), .int 6, .ref (a 4), .ref (a 1), .ref (a 5), .ref (a 2), .ref (a 10), .int 0, .ref (a 11), .ref (a 12), .int 0, .ref (a 13), .ref (a 14), .ref (a 3), .ref (a 15), .ref (a 16)])), ((a 6), .inl ((k 0), 900, .inl (upd (upd f (4 : Int32).toNatClampNeg ((p0 >>> (24 &&& 31)) &&& 255)) (5 : Int32).toNatClampNeg ((p0 >>> (16 &&& 31)) &&& 255))))] := hD
  refine lv_iinc (v := 8) (lv' := [(2, .int 8), (0, .ref (a 0)), (1, .int p0)]) hx hb dX8_putBytes_43 hl (k := 0) rfl (by decide) (by decide) rfl (fun ls hl => ?_)
  refine lv_goto (tgt := 3) hx hb dX8_putBytes_46 (by decide) ?_
  refine lv_iload_n hx hb dX8_putBytes_3 rfl (lv_at hl 0 rfl) ?_
  refine lv_if_lt (tgt := 49) hx hb dX8_putBytes_4 (by decide) (fun z => absurd z (by decide)) (fun _ => ?_)
  refine lv_aload_n hx hb dX8_putBytes_7 rfl (lv_at hl 1 rfl) ?_
  refine va_get (D := (dC, dI)) (ci := 8) (v := .int 6) (C := RX8) (T := TX8) (N := 16) hx hb hts hiX8 hown hK hP 0 rfl rfl 1 (by decide) v_1 (fun _ h9 => h9) rfl dX8_putBytes_8 ?_
  refine lv_sipush (v := 900) hx hb dX8_putBytes_11 (by decide) ?_
  refine lv_icmp_ge (tgt := 49) hx hb dX8_putBytes_14 (by decide) (fun z => absurd z (by decide)) (fun _ => ?_)
  refine lv_aload_n hx hb dX8_putBytes_17 rfl (lv_at hl 1 rfl) ?_
  refine va_get (D := (dC, dI)) (ci := 8) (v := .ref (a 6)) (C := RX8) (T := TX8) (N := 16) hx hb hts hiX8 hown hK hP 0 rfl rfl 0 (by decide) v_2 (fun _ h9 => h9) rfl dX8_putBytes_18 ?_
  refine lv_aload_n hx hb dX8_putBytes_21 rfl (lv_at hl 1 rfl) ?_
  refine va_get (D := (dC, dI)) (ci := 8) (v := .int 6) (C := RX8) (T := TX8) (N := 16) hx hb hts hiX8 hown hK hP 0 rfl rfl 1 (by decide) v_1 (fun _ h9 => h9) rfl dX8_putBytes_22 ?_
  refine lv_iload_n hx hb dX8_putBytes_25 rfl (lv_at hl 2 rfl) ?_
  refine lv_iload_n hx hb dX8_putBytes_26 rfl (lv_at hl 0 rfl) ?_
  refine lv_ishr hx hb dX8_putBytes_27 ?_
  refine lv_sipush (v := 255) hx hb dX8_putBytes_28 (by decide) ?_
  refine lv_iand hx hb dX8_putBytes_31 ?_
  refine va_iast hx hb hK hP hD hS 1 0 rfl rfl (show ¬ (_ ∨ _) by decide) dX8_putBytes_32 (fun H locs hP hD hS => ?_)
  have hP : va_P (dC, dI) vwCl [((a 0), .inr (8, [.ref (a 6), .int 6, .ref (a 4), .ref (a 1), .ref (a 5), .ref (a 2), .ref (a 10), .int 0, .ref (a 11), .ref (a 12), .int 0, .ref (a 13), .ref (a 14), .ref (a 3), .ref (a 15), .ref (a 16)])), ((a 6), .inl ((k 0), 900, .inl (upd (upd (upd f (4 : Int32).toNatClampNeg ((p0 >>> (24 &&& 31)) &&& 255)) (5 : Int32).toNatClampNeg ((p0 >>> (16 &&& 31)) &&& 255)) (6 : Int32).toNatClampNeg ((p0 >>> (8 &&& 31)) &&& 255))))] H := hP
  have hD : va_D A [((a 0), .inr (8, [.ref (a 6), .int 6, .ref (a 4), .ref (a 1), .ref (a 5), .ref (a 2), .ref (a 10), .int 0, .ref (a 11), .ref (a 12), .int 0, .ref (a 13), .ref (a 14), .ref (a 3), .ref (a 15), .ref (a 16)])), ((a 6), .inl ((k 0), 900, .inl (upd (upd (upd f (4 : Int32).toNatClampNeg ((p0 >>> (24 &&& 31)) &&& 255)) (5 : Int32).toNatClampNeg ((p0 >>> (16 &&& 31)) &&& 255)) (6 : Int32).toNatClampNeg ((p0 >>> (8 &&& 31)) &&& 255))))] := hD
  refine lv_aload_n hx hb dX8_putBytes_33 rfl (lv_at hl 1 rfl) ?_
  refine lv_dup hx hb dX8_putBytes_34 rfl ?_
  refine va_get (D := (dC, dI)) (ci := 8) (v := .int 6) (C := RX8) (T := TX8) (N := 16) hx hb hts hiX8 hown hK hP 0 rfl rfl 1 (by decide) v_1 (fun _ h9 => h9) rfl dX8_putBytes_35 ?_
  refine lv_iconst (v := 1) hx hb dX8_putBytes_38 (by decide) ?_
  refine lv_iadd hx hb dX8_putBytes_39 ?_
  refine lv_topi (fun y_3 ey_3 => ?_)
  obtain rfl : y_3 = 7 := ey_3.trans (by decide)
  refine va_put (D := (dC, dI)) (ci := 8) (v := .int 7) (ty := .int) (C := RX8) (T := TX8) (N := 16) hx hb hts hiX8 tyX8 tyX8_ok nmX8 hown hK hP hD hS 0 rfl rfl 1 (by decide) v_1 (fun _ h9 => h9) rfl (by decide +kernel) rfl rfl (Nat.le_of_ble_eq_true rfl) dX8_putBytes_40 (fun H locs hP hD hS => ?_)
  have hP : va_P (dC, dI) vwCl [((a 0), .inr (8, [.ref (a 6), .int 7, .ref (a 4), .ref (a 1), .ref (a 5), .ref (a 2), .ref (a 10), .int 0, .ref (a 11), .ref (a 12), .int 0, .ref (a 13), .ref (a 14), .ref (a 3), .ref (a 15), .ref (a 16)])), ((a 6), .inl ((k 0), 900, .inl (upd (upd (upd f (4 : Int32).toNatClampNeg ((p0 >>> (24 &&& 31)) &&& 255)) (5 : Int32).toNatClampNeg ((p0 >>> (16 &&& 31)) &&& 255)) (6 : Int32).toNatClampNeg ((p0 >>> (8 &&& 31)) &&& 255))))] H := hP
  have hD : va_D A [((a 0), .inr (8, [.ref (a 6), .int 7, .ref (a 4), .ref (a 1), .ref (a 5), .ref (a 2), .ref (a 10), .int 0, .ref (a 11), .ref (a 12), .int 0, .ref (a 13), .ref (a 14), .ref (a 3), .ref (a 15), .ref (a 16)])), ((a 6), .inl ((k 0), 900, .inl (upd (upd (upd f (4 : Int32).toNatClampNeg ((p0 >>> (24 &&& 31)) &&& 255)) (5 : Int32).toNatClampNeg ((p0 >>> (16 &&& 31)) &&& 255)) (6 : Int32).toNatClampNeg ((p0 >>> (8 &&& 31)) &&& 255))))] := hD
  refine lv_iinc (v := 0) (lv' := [(2, .int 0), (0, .ref (a 0)), (1, .int p0)]) hx hb dX8_putBytes_43 hl (k := 0) rfl (by decide) (by decide) rfl (fun ls hl => ?_)
  refine lv_goto (tgt := 3) hx hb dX8_putBytes_46 (by decide) ?_
  refine lv_iload_n hx hb dX8_putBytes_3 rfl (lv_at hl 0 rfl) ?_
  refine lv_if_lt (tgt := 49) hx hb dX8_putBytes_4 (by decide) (fun z => absurd z (by decide)) (fun _ => ?_)
  refine lv_aload_n hx hb dX8_putBytes_7 rfl (lv_at hl 1 rfl) ?_
  refine va_get (D := (dC, dI)) (ci := 8) (v := .int 7) (C := RX8) (T := TX8) (N := 16) hx hb hts hiX8 hown hK hP 0 rfl rfl 1 (by decide) v_1 (fun _ h9 => h9) rfl dX8_putBytes_8 ?_
  refine lv_sipush (v := 900) hx hb dX8_putBytes_11 (by decide) ?_
  refine lv_icmp_ge (tgt := 49) hx hb dX8_putBytes_14 (by decide) (fun z => absurd z (by decide)) (fun _ => ?_)
  refine lv_aload_n hx hb dX8_putBytes_17 rfl (lv_at hl 1 rfl) ?_
  refine va_get (D := (dC, dI)) (ci := 8) (v := .ref (a 6)) (C := RX8) (T := TX8) (N := 16) hx hb hts hiX8 hown hK hP 0 rfl rfl 0 (by decide) v_2 (fun _ h9 => h9) rfl dX8_putBytes_18 ?_
  refine lv_aload_n hx hb dX8_putBytes_21 rfl (lv_at hl 1 rfl) ?_
  refine va_get (D := (dC, dI)) (ci := 8) (v := .int 7) (C := RX8) (T := TX8) (N := 16) hx hb hts hiX8 hown hK hP 0 rfl rfl 1 (by decide) v_1 (fun _ h9 => h9) rfl dX8_putBytes_22 ?_
  refine lv_iload_n hx hb dX8_putBytes_25 rfl (lv_at hl 2 rfl) ?_
  refine lv_iload_n hx hb dX8_putBytes_26 rfl (lv_at hl 0 rfl) ?_
  refine lv_ishr hx hb dX8_putBytes_27 ?_
  refine lv_sipush (v := 255) hx hb dX8_putBytes_28 (by decide) ?_
  refine lv_iand hx hb dX8_putBytes_31 ?_
  refine va_iast hx hb hK hP hD hS 1 0 rfl rfl (show ¬ (_ ∨ _) by decide) dX8_putBytes_32 (fun H locs hP hD hS => ?_)
  have hP : va_P (dC, dI) vwCl [((a 0), .inr (8, [.ref (a 6), .int 7, .ref (a 4), .ref (a 1), .ref (a 5), .ref (a 2), .ref (a 10), .int 0, .ref (a 11), .ref (a 12), .int 0, .ref (a 13), .ref (a 14), .ref (a 3), .ref (a 15), .ref (a 16)])), ((a 6), .inl ((k 0), 900, .inl (upd (upd (upd (upd f (4 : Int32).toNatClampNeg ((p0 >>> (24 &&& 31)) &&& 255)) (5 : Int32).toNatClampNeg ((p0 >>> (16 &&& 31)) &&& 255)) (6 : Int32).toNatClampNeg ((p0 >>> (8 &&& 31)) &&& 255)) (7 : Int32).toNatClampNeg ((p0 >>> (0 &&& 31)) &&& 255))))] H := hP
  have hD : va_D A [((a 0), .inr (8, [.ref (a 6), .int 7, .ref (a 4), .ref (a 1), .ref (a 5), .ref (a 2), .ref (a 10), .int 0, .ref (a 11), .ref (a 12), .int 0, .ref (a 13), .ref (a 14), .ref (a 3), .ref (a 15), .ref (a 16)])), ((a 6), .inl ((k 0), 900, .inl (upd (upd (upd (upd f (4 : Int32).toNatClampNeg ((p0 >>> (24 &&& 31)) &&& 255)) (5 : Int32).toNatClampNeg ((p0 >>> (16 &&& 31)) &&& 255)) (6 : Int32).toNatClampNeg ((p0 >>> (8 &&& 31)) &&& 255)) (7 : Int32).toNatClampNeg ((p0 >>> (0 &&& 31)) &&& 255))))] := hD
  refine lv_aload_n hx hb dX8_putBytes_33 rfl (lv_at hl 1 rfl) ?_
  refine lv_dup hx hb dX8_putBytes_34 rfl ?_
  refine va_get (D := (dC, dI)) (ci := 8) (v := .int 7) (C := RX8) (T := TX8) (N := 16) hx hb hts hiX8 hown hK hP 0 rfl rfl 1 (by decide) v_1 (fun _ h9 => h9) rfl dX8_putBytes_35 ?_
  refine lv_iconst (v := 1) hx hb dX8_putBytes_38 (by decide) ?_
  refine lv_iadd hx hb dX8_putBytes_39 ?_
  refine lv_topi (fun y_4 ey_4 => ?_)
  obtain rfl : y_4 = 8 := ey_4.trans (by decide)
  refine va_put (D := (dC, dI)) (ci := 8) (v := .int 8) (ty := .int) (C := RX8) (T := TX8) (N := 16) hx hb hts hiX8 tyX8 tyX8_ok nmX8 hown hK hP hD hS 0 rfl rfl 1 (by decide) v_1 (fun _ h9 => h9) rfl (by decide +kernel) rfl rfl (Nat.le_of_ble_eq_true rfl) dX8_putBytes_40 (fun H locs hP hD hS => ?_)
  have hP : va_P (dC, dI) vwCl [((a 0), .inr (8, [.ref (a 6), .int 8, .ref (a 4), .ref (a 1), .ref (a 5), .ref (a 2), .ref (a 10), .int 0, .ref (a 11), .ref (a 12), .int 0, .ref (a 13), .ref (a 14), .ref (a 3), .ref (a 15), .ref (a 16)])), ((a 6), .inl ((k 0), 900, .inl (upd (upd (upd (upd f (4 : Int32).toNatClampNeg ((p0 >>> (24 &&& 31)) &&& 255)) (5 : Int32).toNatClampNeg ((p0 >>> (16 &&& 31)) &&& 255)) (6 : Int32).toNatClampNeg ((p0 >>> (8 &&& 31)) &&& 255)) (7 : Int32).toNatClampNeg ((p0 >>> (0 &&& 31)) &&& 255))))] H := hP
  have hD : va_D A [((a 0), .inr (8, [.ref (a 6), .int 8, .ref (a 4), .ref (a 1), .ref (a 5), .ref (a 2), .ref (a 10), .int 0, .ref (a 11), .ref (a 12), .int 0, .ref (a 13), .ref (a 14), .ref (a 3), .ref (a 15), .ref (a 16)])), ((a 6), .inl ((k 0), 900, .inl (upd (upd (upd (upd f (4 : Int32).toNatClampNeg ((p0 >>> (24 &&& 31)) &&& 255)) (5 : Int32).toNatClampNeg ((p0 >>> (16 &&& 31)) &&& 255)) (6 : Int32).toNatClampNeg ((p0 >>> (8 &&& 31)) &&& 255)) (7 : Int32).toNatClampNeg ((p0 >>> (0 &&& 31)) &&& 255))))] := hD
  refine lv_iinc (v := (-8)) (lv' := [(2, .int (-8)), (0, .ref (a 0)), (1, .int p0)]) hx hb dX8_putBytes_43 hl (k := 0) rfl (by decide) (by decide) rfl (fun ls hl => ?_)
  refine lv_goto (tgt := 3) hx hb dX8_putBytes_46 (by decide) ?_
  refine lv_iload_n hx hb dX8_putBytes_3 rfl (lv_at hl 0 rfl) ?_
  refine lv_if_lt (tgt := 49) hx hb dX8_putBytes_4 (by decide) (fun _ => ?_) (fun z => absurd z (by decide))
  have hP9 := hP.sub (ws' := [((a 0), .inr (8, [.ref (a 6), .int 8, .ref (a 4), .ref (a 1), .ref (a 5), .ref (a 2), .ref (a 10), .int 0, .ref (a 11), .ref (a 12), .int 0, .ref (a 13), .ref (a 14), .ref (a 3), .ref (a 15), .ref (a 16)])), ((a 6), .inl ((k 0), 900, .inl (upd (upd (upd (upd f (4 : Int32).toNatClampNeg ((p0 >>> (24 &&& 31)) &&& 255)) (5 : Int32).toNatClampNeg ((p0 >>> (16 &&& 31)) &&& 255)) (6 : Int32).toNatClampNeg ((p0 >>> (8 &&& 31)) &&& 255)) (7 : Int32).toNatClampNeg ((p0 >>> (0 &&& 31)) &&& 255))))]) [0, 1] rfl
  have hD9 := hD.sub (ws' := [((a 0), .inr (8, [.ref (a 6), .int 8, .ref (a 4), .ref (a 1), .ref (a 5), .ref (a 2), .ref (a 10), .int 0, .ref (a 11), .ref (a 12), .int 0, .ref (a 13), .ref (a 14), .ref (a 3), .ref (a 15), .ref (a 16)])), ((a 6), .inl ((k 0), 900, .inl (upd (upd (upd (upd f (4 : Int32).toNatClampNeg ((p0 >>> (24 &&& 31)) &&& 255)) (5 : Int32).toNatClampNeg ((p0 >>> (16 &&& 31)) &&& 255)) (6 : Int32).toNatClampNeg ((p0 >>> (8 &&& 31)) &&& 255)) (7 : Int32).toNatClampNeg ((p0 >>> (0 &&& 31)) &&& 255))))]) [0, 1] (by decide) rfl
  have hK9 := hK.sub (tys' := [(k 0, .int)]) [0] rfl
  exact W.vret hx hb hr (fun t ht hW => ⟨⟨(), rfl, trivial, ⟨upd (upd (upd (upd f (4 : Int32).toNatClampNeg ((p0 >>> (24 &&& 31)) &&& 255)) (5 : Int32).toNatClampNeg ((p0 >>> (16 &&& 31)) &&& 255)) (6 : Int32).toNatClampNeg ((p0 >>> (8 &&& 31)) &&& 255)) (7 : Int32).toNatClampNeg ((p0 >>> (0 &&& 31)) &&& 255), by rw [ht]; exact hP9, va_K.moved hW.alike hK9, hD9⟩⟩, hS.F ht⟩) hS.2.2 dX8_putBytes_49
def vs_X9_four_4 : List Cond := .code yX9_four cX9_four 3 none :: ([.fieldLink RX9 55 "ClockReachModel" "tape" "[I", .fieldLink RX9 145 "ClockReachModel" "taped" "I"] ++ wsX90)
set_option maxHeartbeats 4000000 in
set_option maxRecDepth 100000 in
theorem c_X9_four_4 (l : Launch) (dC : Nat → ClassId) (dI : Nat → Nat → Nat) (sz : Nat) (b : Nat → Nat) (j : Nat → ClassId) (f : Nat → Int32) (p0 : Int32) : Met l yX9_four vs_X9_four_4 ({ frames := 0, cells := 0, slots := 0, locals := 0 }) (va_Pc [.ref (b 0), .int p0] (pu_B (dC, dI) [((b 0), .inr (9, [.int 0, .ref (b 10), .ref (b 11), .ref (b 12), .ref (b 13), .ref (b 14), .ref (b 15), .ref (b 16), .ref (b 17), .ref (b 18), .ref (b 19), .ref (b 20), .ref (b 1), .ref (b 2), .ref (b 3), .ref (b 4), .int 0, .ref (b 5), .int 4, .int 0, .int 0, .int 0, .int 0, .int 0, .int 0, .int (-1), .int 0, .int 0, .int 0, .int 0, .int 0, .ref (b 21), .ref (b 22), .int 0, .ref (b 23), .ref (b 24), .ref (b 25), .ref (b 26), .ref (b 27), .ref (b 28), .ref (b 29), .ref (b 30), .ref (b 31), .ref (b 32), .ref (b 33), .int 0, .int 0, .ref (b 34), .ref (b 35), .ref (b 36), .ref (b 37), .ref (b 38), .int 0, .int 0, .ref (b 39), .ref (b 40), .ref (b 41), .ref (b 42), .ref (b 43), .ref (b 44), .ref (b 45), .int 0, .int 0, .int 0, .ref (b 46), .int 0, .int 0])), ((b 5), .inl ((j 5), 900, .inl f))] [(j 5, .int)] sz)) (va_Qv (fun (_ : Unit) => True) (fun _ t => ∃ (g : Nat → Int32), pu_E (dC, dI) [((b 0), .inr (9, [.int 0, .ref (b 10), .ref (b 11), .ref (b 12), .ref (b 13), .ref (b 14), .ref (b 15), .ref (b 16), .ref (b 17), .ref (b 18), .ref (b 19), .ref (b 20), .ref (b 1), .ref (b 2), .ref (b 3), .ref (b 4), .int 0, .ref (b 5), .int 8, .int 0, .int 0, .int 0, .int 0, .int 0, .int 0, .int (-1), .int 0, .int 0, .int 0, .int 0, .int 0, .ref (b 21), .ref (b 22), .int 0, .ref (b 23), .ref (b 24), .ref (b 25), .ref (b 26), .ref (b 27), .ref (b 28), .ref (b 29), .ref (b 30), .ref (b 31), .ref (b 32), .ref (b 33), .int 0, .int 0, .ref (b 34), .ref (b 35), .ref (b 36), .ref (b 37), .ref (b 38), .int 0, .int 0, .ref (b 39), .ref (b 40), .ref (b 41), .ref (b 42), .ref (b 43), .ref (b 44), .ref (b 45), .int 0, .int 0, .int 0, .ref (b 46), .int 0, .int 0])), ((b 5), .inl ((j 5), 900, .inl g))] [(j 5, .int)] (va_A ([((b 0), .inr (9, [.int 0, .ref (b 10), .ref (b 11), .ref (b 12), .ref (b 13), .ref (b 14), .ref (b 15), .ref (b 16), .ref (b 17), .ref (b 18), .ref (b 19), .ref (b 20), .ref (b 1), .ref (b 2), .ref (b 3), .ref (b 4), .int 0, .ref (b 5), .int 4, .int 0, .int 0, .int 0, .int 0, .int 0, .int 0, .int (-1), .int 0, .int 0, .int 0, .int 0, .int 0, .ref (b 21), .ref (b 22), .int 0, .ref (b 23), .ref (b 24), .ref (b 25), .ref (b 26), .ref (b 27), .ref (b 28), .ref (b 29), .ref (b 30), .ref (b 31), .ref (b 32), .ref (b 33), .int 0, .int 0, .ref (b 34), .ref (b 35), .ref (b 36), .ref (b 37), .ref (b 38), .int 0, .int 0, .ref (b 39), .ref (b 40), .ref (b 41), .ref (b 42), .ref (b 43), .ref (b 44), .ref (b 45), .int 0, .int 0, .int 0, .ref (b 46), .int 0, .int 0])), ((b 5), .inl ((j 5), 900, .inl f))]) sz) t) (va_A ([((b 0), .inr (9, [.int 0, .ref (b 10), .ref (b 11), .ref (b 12), .ref (b 13), .ref (b 14), .ref (b 15), .ref (b 16), .ref (b 17), .ref (b 18), .ref (b 19), .ref (b 20), .ref (b 1), .ref (b 2), .ref (b 3), .ref (b 4), .int 0, .ref (b 5), .int 4, .int 0, .int 0, .int 0, .int 0, .int 0, .int 0, .int (-1), .int 0, .int 0, .int 0, .int 0, .int 0, .ref (b 21), .ref (b 22), .int 0, .ref (b 23), .ref (b 24), .ref (b 25), .ref (b 26), .ref (b 27), .ref (b 28), .ref (b 29), .ref (b 30), .ref (b 31), .ref (b 32), .ref (b 33), .int 0, .int 0, .ref (b 34), .ref (b 35), .ref (b 36), .ref (b 37), .ref (b 38), .int 0, .int 0, .ref (b 39), .ref (b 40), .ref (b 41), .ref (b 42), .ref (b 43), .ref (b 44), .ref (b 45), .int 0, .int 0, .int 0, .ref (b 46), .int 0, .int 0])), ((b 5), .inl ((j 5), 900, .inl f))]) sz)) 0 0 (va_A ([((b 0), .inr (9, [.int 0, .ref (b 10), .ref (b 11), .ref (b 12), .ref (b 13), .ref (b 14), .ref (b 15), .ref (b 16), .ref (b 17), .ref (b 18), .ref (b 19), .ref (b 20), .ref (b 1), .ref (b 2), .ref (b 3), .ref (b 4), .int 0, .ref (b 5), .int 4, .int 0, .int 0, .int 0, .int 0, .int 0, .int 0, .int (-1), .int 0, .int 0, .int 0, .int 0, .int 0, .ref (b 21), .ref (b 22), .int 0, .ref (b 23), .ref (b 24), .ref (b 25), .ref (b 26), .ref (b 27), .ref (b 28), .ref (b 29), .ref (b 30), .ref (b 31), .ref (b 32), .ref (b 33), .int 0, .int 0, .ref (b 34), .ref (b 35), .ref (b 36), .ref (b 37), .ref (b 38), .int 0, .int 0, .ref (b 39), .ref (b 40), .ref (b 41), .ref (b 42), .ref (b 43), .ref (b 44), .ref (b 45), .int 0, .int 0, .int 0, .ref (b 46), .int 0, .int 0])), ((b 5), .inl ((j 5), 900, .inl f))]) sz) := by
  refine Met.ofW (cc := cX9_four) (maxL := 3) (ret := none) (by decide) rfl ?_
  intro p e s m args below meth c s₁ B hml hv
  obtain ⟨rfl, rfl, hP, hK, hD0⟩ := hv
  have hx := B.exec
  have hb := B.bytes
  have hr := B.returns
  have hts := atoms_spec (ws := vs_X9_four_4) B.pre
  have v_1 := hts (.fieldLink RX9 55 "ClockReachModel" "tape" "[I") (List.mem_of_getElem? (i := 1) rfl)
  have v_2 := hts (.fieldLink RX9 145 "ClockReachModel" "taped" "I") (List.mem_of_getElem? (i := 2) rfl)
  have hown : s.vm.findClass RX9 = some m.cls := findClass_of_methodNamed B.named
  have hlocks := B.notSynchronized
  have hiX9 : ∀ w ∈ wsX90, w ∈ vs_X9_four_4 := fun _ h => List.mem_cons_of_mem _ (List.mem_append_right _ h)
  have hD := hD0.self (sz := s.heap.size)
  generalize hAe : va_A ([((b 0), .inr (9, [.int 0, .ref (b 10), .ref (b 11), .ref (b 12), .ref (b 13), .ref (b 14), .ref (b 15), .ref (b 16), .ref (b 17), .ref (b 18), .ref (b 19), .ref (b 20), .ref (b 1), .ref (b 2), .ref (b 3), .ref (b 4), .int 0, .ref (b 5), .int 4, .int 0, .int 0, .int 0, .int 0, .int 0, .int 0, .int (-1), .int 0, .int 0, .int 0, .int 0, .int 0, .ref (b 21), .ref (b 22), .int 0, .ref (b 23), .ref (b 24), .ref (b 25), .ref (b 26), .ref (b 27), .ref (b 28), .ref (b 29), .ref (b 30), .ref (b 31), .ref (b 32), .ref (b 33), .int 0, .int 0, .ref (b 34), .ref (b 35), .ref (b 36), .ref (b 37), .ref (b 38), .int 0, .int 0, .ref (b 39), .ref (b 40), .ref (b 41), .ref (b 42), .ref (b 43), .ref (b 44), .ref (b 45), .int 0, .int 0, .int 0, .ref (b 46), .int 0, .int 0])), ((b 5), .inl ((j 5), 900, .inl f))]) s.heap.size = A at hD ⊢
  have hA : ∀ q : Nat, s.heap.size ≤ q → A q := fun q h => by rw [← hAe]; exact Or.inr h
  have hS : va_S A s.heap s.heap [] := va_S.rf
  have hl := lv_entry ([.ref (b 0), .int p0]) (n := 3) (Nat.le_of_ble_eq_true rfl)
  rw [lg_entry_eq]
  generalize (lg_sl ([.ref (b 0), .int p0]) ++ List.replicate (3 - (lg_sl ([.ref (b 0), .int p0])).length) Slot.unset).toArray = ls at hl ⊢
  have hl : lv_has ls 3 [(0, .ref (b 0)), (1, .int p0)] := hl
  refine lv_bipush (v := 24) hx hb dX9_four_0 (by decide) ?_
  refine lv_istore_n (lv' := [(2, .int 24), (0, .ref (b 0)), (1, .int p0)]) hx hb dX9_four_2 rfl hl (by decide) rfl (fun ls hl => ?_)
  refine lv_iload_n hx hb dX9_four_3 rfl (lv_at hl 0 rfl) ?_
  refine lv_if_lt (tgt := 39) hx hb dX9_four_4 (by decide) (fun z => absurd z (by decide)) (fun _ => ?_)
  refine lv_aload_n hx hb dX9_four_7 rfl (lv_at hl 1 rfl) ?_
  refine va_get (D := (dC, dI)) (ci := 9) (v := .ref (b 5)) (C := RX9) (T := TX9) (N := 67) hx hb hts hiX9 hown hK hP 0 rfl rfl 17 (by decide) v_1 (fun _ h9 => h9) rfl dX9_four_8 ?_
  refine lv_aload_n hx hb dX9_four_11 rfl (lv_at hl 1 rfl) ?_
  refine va_get (D := (dC, dI)) (ci := 9) (v := .int 4) (C := RX9) (T := TX9) (N := 67) hx hb hts hiX9 hown hK hP 0 rfl rfl 18 (by decide) v_2 (fun _ h9 => h9) rfl dX9_four_12 ?_
  refine lv_iload_n hx hb dX9_four_15 rfl (lv_at hl 2 rfl) ?_
  refine lv_iload_n hx hb dX9_four_16 rfl (lv_at hl 0 rfl) ?_
  refine lv_ishr hx hb dX9_four_17 ?_
  refine lv_sipush (v := 255) hx hb dX9_four_18 (by decide) ?_
  refine lv_iand hx hb dX9_four_21 ?_
  refine va_iast hx hb hK hP hD hS 1 0 rfl rfl (show ¬ (_ ∨ _) by decide) dX9_four_22 (fun H locs hP hD hS => ?_)
  have hP : va_P (dC, dI) vwCl [((b 0), .inr (9, [.int 0, .ref (b 10), .ref (b 11), .ref (b 12), .ref (b 13), .ref (b 14), .ref (b 15), .ref (b 16), .ref (b 17), .ref (b 18), .ref (b 19), .ref (b 20), .ref (b 1), .ref (b 2), .ref (b 3), .ref (b 4), .int 0, .ref (b 5), .int 4, .int 0, .int 0, .int 0, .int 0, .int 0, .int 0, .int (-1), .int 0, .int 0, .int 0, .int 0, .int 0, .ref (b 21), .ref (b 22), .int 0, .ref (b 23), .ref (b 24), .ref (b 25), .ref (b 26), .ref (b 27), .ref (b 28), .ref (b 29), .ref (b 30), .ref (b 31), .ref (b 32), .ref (b 33), .int 0, .int 0, .ref (b 34), .ref (b 35), .ref (b 36), .ref (b 37), .ref (b 38), .int 0, .int 0, .ref (b 39), .ref (b 40), .ref (b 41), .ref (b 42), .ref (b 43), .ref (b 44), .ref (b 45), .int 0, .int 0, .int 0, .ref (b 46), .int 0, .int 0])), ((b 5), .inl ((j 5), 900, .inl (upd f (4 : Int32).toNatClampNeg ((p0 >>> (24 &&& 31)) &&& 255))))] H := hP
  have hD : va_D A [((b 0), .inr (9, [.int 0, .ref (b 10), .ref (b 11), .ref (b 12), .ref (b 13), .ref (b 14), .ref (b 15), .ref (b 16), .ref (b 17), .ref (b 18), .ref (b 19), .ref (b 20), .ref (b 1), .ref (b 2), .ref (b 3), .ref (b 4), .int 0, .ref (b 5), .int 4, .int 0, .int 0, .int 0, .int 0, .int 0, .int 0, .int (-1), .int 0, .int 0, .int 0, .int 0, .int 0, .ref (b 21), .ref (b 22), .int 0, .ref (b 23), .ref (b 24), .ref (b 25), .ref (b 26), .ref (b 27), .ref (b 28), .ref (b 29), .ref (b 30), .ref (b 31), .ref (b 32), .ref (b 33), .int 0, .int 0, .ref (b 34), .ref (b 35), .ref (b 36), .ref (b 37), .ref (b 38), .int 0, .int 0, .ref (b 39), .ref (b 40), .ref (b 41), .ref (b 42), .ref (b 43), .ref (b 44), .ref (b 45), .int 0, .int 0, .int 0, .ref (b 46), .int 0, .int 0])), ((b 5), .inl ((j 5), 900, .inl (upd f (4 : Int32).toNatClampNeg ((p0 >>> (24 &&& 31)) &&& 255))))] := hD
  refine lv_aload_n hx hb dX9_four_23 rfl (lv_at hl 1 rfl) ?_
  refine lv_dup hx hb dX9_four_24 rfl ?_
  refine va_get (D := (dC, dI)) (ci := 9) (v := .int 4) (C := RX9) (T := TX9) (N := 67) hx hb hts hiX9 hown hK hP 0 rfl rfl 18 (by decide) v_2 (fun _ h9 => h9) rfl dX9_four_25 ?_
  refine lv_iconst (v := 1) hx hb dX9_four_28 (by decide) ?_
  refine lv_iadd hx hb dX9_four_29 ?_
  refine lv_topi (fun y_1 ey_1 => ?_)
  obtain rfl : y_1 = 5 := ey_1.trans (by decide)
  refine va_put (D := (dC, dI)) (ci := 9) (v := .int 5) (ty := .int) (C := RX9) (T := TX9) (N := 67) hx hb hts hiX9 tyX9 tyX9_ok nmX9 hown hK hP hD hS 0 rfl rfl 18 (by decide) v_2 (fun _ h9 => h9) rfl (by decide +kernel) rfl rfl (Nat.le_of_ble_eq_true rfl) dX9_four_30 (fun H locs hP hD hS => ?_)
  have hP : va_P (dC, dI) vwCl [((b 0), .inr (9, [.int 0, .ref (b 10), .ref (b 11), .ref (b 12), .ref (b 13), .ref (b 14), .ref (b 15), .ref (b 16), .ref (b 17), .ref (b 18), .ref (b 19), .ref (b 20), .ref (b 1), .ref (b 2), .ref (b 3), .ref (b 4), .int 0, .ref (b 5), .int 5, .int 0, .int 0, .int 0, .int 0, .int 0, .int 0, .int (-1), .int 0, .int 0, .int 0, .int 0, .int 0, .ref (b 21), .ref (b 22), .int 0, .ref (b 23), .ref (b 24), .ref (b 25), .ref (b 26), .ref (b 27), .ref (b 28), .ref (b 29), .ref (b 30), .ref (b 31), .ref (b 32), .ref (b 33), .int 0, .int 0, .ref (b 34), .ref (b 35), .ref (b 36), .ref (b 37), .ref (b 38), .int 0, .int 0, .ref (b 39), .ref (b 40), .ref (b 41), .ref (b 42), .ref (b 43), .ref (b 44), .ref (b 45), .int 0, .int 0, .int 0, .ref (b 46), .int 0, .int 0])), ((b 5), .inl ((j 5), 900, .inl (upd f (4 : Int32).toNatClampNeg ((p0 >>> (24 &&& 31)) &&& 255))))] H := hP
  have hD : va_D A [((b 0), .inr (9, [.int 0, .ref (b 10), .ref (b 11), .ref (b 12), .ref (b 13), .ref (b 14), .ref (b 15), .ref (b 16), .ref (b 17), .ref (b 18), .ref (b 19), .ref (b 20), .ref (b 1), .ref (b 2), .ref (b 3), .ref (b 4), .int 0, .ref (b 5), .int 5, .int 0, .int 0, .int 0, .int 0, .int 0, .int 0, .int (-1), .int 0, .int 0, .int 0, .int 0, .int 0, .ref (b 21), .ref (b 22), .int 0, .ref (b 23), .ref (b 24), .ref (b 25), .ref (b 26), .ref (b 27), .ref (b 28), .ref (b 29), .ref (b 30), .ref (b 31), .ref (b 32), .ref (b 33), .int 0, .int 0, .ref (b 34), .ref (b 35), .ref (b 36), .ref (b 37), .ref (b 38), .int 0, .int 0, .ref (b 39), .ref (b 40), .ref (b 41), .ref (b 42), .ref (b 43), .ref (b 44), .ref (b 45), .int 0, .int 0, .int 0, .ref (b 46), .int 0, .int 0])), ((b 5), .inl ((j 5), 900, .inl (upd f (4 : Int32).toNatClampNeg ((p0 >>> (24 &&& 31)) &&& 255))))] := hD
  refine lv_iinc (v := 16) (lv' := [(2, .int 16), (0, .ref (b 0)), (1, .int p0)]) hx hb dX9_four_33 hl (k := 0) rfl (by decide) (by decide) rfl (fun ls hl => ?_)
  refine lv_goto (tgt := 3) hx hb dX9_four_36 (by decide) ?_
  refine lv_iload_n hx hb dX9_four_3 rfl (lv_at hl 0 rfl) ?_
  refine lv_if_lt (tgt := 39) hx hb dX9_four_4 (by decide) (fun z => absurd z (by decide)) (fun _ => ?_)
  refine lv_aload_n hx hb dX9_four_7 rfl (lv_at hl 1 rfl) ?_
  refine va_get (D := (dC, dI)) (ci := 9) (v := .ref (b 5)) (C := RX9) (T := TX9) (N := 67) hx hb hts hiX9 hown hK hP 0 rfl rfl 17 (by decide) v_1 (fun _ h9 => h9) rfl dX9_four_8 ?_
  refine lv_aload_n hx hb dX9_four_11 rfl (lv_at hl 1 rfl) ?_
  refine va_get (D := (dC, dI)) (ci := 9) (v := .int 5) (C := RX9) (T := TX9) (N := 67) hx hb hts hiX9 hown hK hP 0 rfl rfl 18 (by decide) v_2 (fun _ h9 => h9) rfl dX9_four_12 ?_
  refine lv_iload_n hx hb dX9_four_15 rfl (lv_at hl 2 rfl) ?_
  refine lv_iload_n hx hb dX9_four_16 rfl (lv_at hl 0 rfl) ?_
  refine lv_ishr hx hb dX9_four_17 ?_
  refine lv_sipush (v := 255) hx hb dX9_four_18 (by decide) ?_
  refine lv_iand hx hb dX9_four_21 ?_
  refine va_iast hx hb hK hP hD hS 1 0 rfl rfl (show ¬ (_ ∨ _) by decide) dX9_four_22 (fun H locs hP hD hS => ?_)
  have hP : va_P (dC, dI) vwCl [((b 0), .inr (9, [.int 0, .ref (b 10), .ref (b 11), .ref (b 12), .ref (b 13), .ref (b 14), .ref (b 15), .ref (b 16), .ref (b 17), .ref (b 18), .ref (b 19), .ref (b 20), .ref (b 1), .ref (b 2), .ref (b 3), .ref (b 4), .int 0, .ref (b 5), .int 5, .int 0, .int 0, .int 0, .int 0, .int 0, .int 0, .int (-1), .int 0, .int 0, .int 0, .int 0, .int 0, .ref (b 21), .ref (b 22), .int 0, .ref (b 23), .ref (b 24), .ref (b 25), .ref (b 26), .ref (b 27), .ref (b 28), .ref (b 29), .ref (b 30), .ref (b 31), .ref (b 32), .ref (b 33), .int 0, .int 0, .ref (b 34), .ref (b 35), .ref (b 36), .ref (b 37), .ref (b 38), .int 0, .int 0, .ref (b 39), .ref (b 40), .ref (b 41), .ref (b 42), .ref (b 43), .ref (b 44), .ref (b 45), .int 0, .int 0, .int 0, .ref (b 46), .int 0, .int 0])), ((b 5), .inl ((j 5), 900, .inl (upd (upd f (4 : Int32).toNatClampNeg ((p0 >>> (24 &&& 31)) &&& 255)) (5 : Int32).toNatClampNeg ((p0 >>> (16 &&& 31)) &&& 255))))] H := hP
  have hD : va_D A [((b 0), .inr (9, [.int 0, .ref (b 10), .ref (b 11), .ref (b 12), .ref (b 13), .ref (b 14), .ref (b 15), .ref (b 16), .ref (b 17), .ref (b 18), .ref (b 19), .ref (b 20), .ref (b 1), .ref (b 2), .ref (b 3), .ref (b 4), .int 0, .ref (b 5), .int 5, .int 0, .int 0, .int 0, .int 0, .int 0, .int 0, .int (-1), .int 0, .int 0, .int 0, .int 0, .int 0, .ref (b 21), .ref (b 22), .int 0, .ref (b 23), .ref (b 24), .ref (b 25), .ref (b 26), .ref (b 27), .ref (b 28), .ref (b 29), .ref (b 30), .ref (b 31), .ref (b 32), .ref (b 33), .int 0, .int 0, .ref (b 34), .ref (b 35), .ref (b 36), .ref (b 37), .ref (b 38), .int 0, .int 0, .ref (b 39), .ref (b 40), .ref (b 41), .ref (b 42), .ref (b 43), .ref (b 44), .ref (b 45), .int 0, .int 0, .int 0, .ref (b 46), .int 0, .int 0])), ((b 5), .inl ((j 5), 900, .inl (upd (upd f (4 : Int32).toNatClampNeg ((p0 >>> (24 &&& 31)) &&& 255)) (5 : Int32).toNatClampNeg ((p0 >>> (16 &&& 31)) &&& 255))))] := hD
  refine lv_aload_n hx hb dX9_four_23 rfl (lv_at hl 1 rfl) ?_
  refine lv_dup hx hb dX9_four_24 rfl ?_
  refine va_get (D := (dC, dI)) (ci := 9) (v := .int 5) (C := RX9) (T := TX9) (N := 67) hx hb hts hiX9 hown hK hP 0 rfl rfl 18 (by decide) v_2 (fun _ h9 => h9) rfl dX9_four_25 ?_
  refine lv_iconst (v := 1) hx hb dX9_four_28 (by decide) ?_
  refine lv_iadd hx hb dX9_four_29 ?_
  refine lv_topi (fun y_2 ey_2 => ?_)
  obtain rfl : y_2 = 6 := ey_2.trans (by decide)
  refine va_put (D := (dC, dI)) (ci := 9) (v := .int 6) (ty := .int) (C := RX9) (T := TX9) (N := 67) hx hb hts hiX9 tyX9 tyX9_ok nmX9 hown hK hP hD hS 0 rfl rfl 18 (by decide) v_2 (fun _ h9 => h9) rfl (by decide +kernel) rfl rfl (Nat.le_of_ble_eq_true rfl) dX9_four_30 (fun H locs hP hD hS => ?_)
  have hP : va_P (dC, dI) vwCl [((b 0), .inr (9, [.int 0, .ref (b 10), .ref (b 11), .ref (b 12), .ref (b 13), .ref (b 14), .ref (b 15), .ref (b 16), .ref (b 17), .ref (b 18), .ref (b 19), .ref (b 20), .ref (b 1), .ref (b 2), .ref (b 3), .ref (b 4), .int 0, .ref (b 5), .int 6, .int 0, .int 0, .int 0, .int 0, .int 0, .int 0, .int (-1), .int 0, .int 0, .int 0, .int 0, .int 0, .ref (b 21), .ref (b 22), .int 0, .ref (b 23), .ref (b 24), .ref (b 25), .ref (b 26), .ref (b 27), .ref (b 28), .ref (b 29), .ref (b 30), .ref (b 31), .ref (b 32), .ref (b 33), .int 0, .int 0, .ref (b 34), .ref (b 35), .ref (b 36), .ref (b 37), .ref (b 38), .int 0, .int 0, .ref (b 39), .ref (b 40), .ref (b 41), .ref (b 42), .ref (b 43), .ref (b 44), .ref (b 45), .int 0, .int 0, .int 0, .ref (b 46), .int 0, .int 0])), ((b 5), .inl ((j 5), 900, .inl (upd (upd f (4 : Int32).toNatClampNeg ((p0 >>> (24 &&& 31)) &&& 255)) (5 : Int32).toNatClampNeg ((p0 >>> (16 &&& 31)) &&& 255))))] H := hP
  have hD : va_D A [((b 0), .inr (9, [.int 0, .ref (b 10), .ref (b 11), .ref (b 12), .ref (b 13), .ref (b 14), .ref (b 15), .ref (b 16), .ref (b 17), .ref (b 18), .ref (b 19), .ref (b 20), .ref (b 1), .ref (b 2), .ref (b 3), .ref (b 4), .int 0, .ref (b 5), .int 6, .int 0, .int 0, .int 0, .int 0, .int 0, .int 0, .int (-1), .int 0, .int 0, .int 0, .int 0, .int 0, .ref (b 21), .ref (b 22), .int 0, .ref (b 23), .ref (b 24), .ref (b 25), .ref (b 26), .ref (b 27), .ref (b 28), .ref (b 29), .ref (b 30), .ref (b 31), .ref (b 32), .ref (b 33), .int 0, .int 0, .ref (b 34), .ref (b 35), .ref (b 36), .ref (b 37), .ref (b 38), .int 0, .int 0, .ref (b 39), .ref (b 40), .ref (b 41), .ref (b 42), .ref (b 43), .ref (b 44), .ref (b 45), .int 0, .int 0, .int 0, .ref (b 46), .int 0, .int 0])), ((b 5), .inl ((j 5), 900, .inl (upd (upd f (4 : Int32).toNatClampNeg ((p0 >>> (24 &&& 31)) &&& 255)) (5 : Int32).toNatClampNeg ((p0 >>> (16 &&& 31)) &&& 255))))] := hD
  refine lv_iinc (v := 8) (lv' := [(2, .int 8), (0, .ref (b 0)), (1, .int p0)]) hx hb dX9_four_33 hl (k := 0) rfl (by decide) (by decide) rfl (fun ls hl => ?_)
  refine lv_goto (tgt := 3) hx hb dX9_four_36 (by decide) ?_
  refine lv_iload_n hx hb dX9_four_3 rfl (lv_at hl 0 rfl) ?_
  refine lv_if_lt (tgt := 39) hx hb dX9_four_4 (by decide) (fun z => absurd z (by decide)) (fun _ => ?_)
  refine lv_aload_n hx hb dX9_four_7 rfl (lv_at hl 1 rfl) ?_
  refine va_get (D := (dC, dI)) (ci := 9) (v := .ref (b 5)) (C := RX9) (T := TX9) (N := 67) hx hb hts hiX9 hown hK hP 0 rfl rfl 17 (by decide) v_1 (fun _ h9 => h9) rfl dX9_four_8 ?_
  refine lv_aload_n hx hb dX9_four_11 rfl (lv_at hl 1 rfl) ?_
  refine va_get (D := (dC, dI)) (ci := 9) (v := .int 6) (C := RX9) (T := TX9) (N := 67) hx hb hts hiX9 hown hK hP 0 rfl rfl 18 (by decide) v_2 (fun _ h9 => h9) rfl dX9_four_12 ?_
  refine lv_iload_n hx hb dX9_four_15 rfl (lv_at hl 2 rfl) ?_
  refine lv_iload_n hx hb dX9_four_16 rfl (lv_at hl 0 rfl) ?_
  refine lv_ishr hx hb dX9_four_17 ?_
  refine lv_sipush (v := 255) hx hb dX9_four_18 (by decide) ?_
  refine lv_iand hx hb dX9_four_21 ?_
  refine va_iast hx hb hK hP hD hS 1 0 rfl rfl (show ¬ (_ ∨ _) by decide) dX9_four_22 (fun H locs hP hD hS => ?_)
  have hP : va_P (dC, dI) vwCl [((b 0), .inr (9, [.int 0, .ref (b 10), .ref (b 11), .ref (b 12), .ref (b 13), .ref (b 14), .ref (b 15), .ref (b 16), .ref (b 17), .ref (b 18), .ref (b 19), .ref (b 20), .ref (b 1), .ref (b 2), .ref (b 3), .ref (b 4), .int 0, .ref (b 5), .int 6, .int 0, .int 0, .int 0, .int 0, .int 0, .int 0, .int (-1), .int 0, .int 0, .int 0, .int 0, .int 0, .ref (b 21), .ref (b 22), .int 0, .ref (b 23), .ref (b 24), .ref (b 25), .ref (b 26), .ref (b 27), .ref (b 28), .ref (b 29), .ref (b 30), .ref (b 31), .ref (b 32), .ref (b 33), .int 0, .int 0, .ref (b 34), .ref (b 35), .ref (b 36), .ref (b 37), .ref (b 38), .int 0, .int 0, .ref (b 39), .ref (b 40), .ref (b 41), .ref (b 42), .ref (b 43), .ref (b 44), .ref (b 45), .int 0, .int 0, .int 0, .ref (b 46), .int 0, .int 0])), ((b 5), .inl ((j 5), 900, .inl (upd (upd (upd f (4 : Int32).toNatClampNeg ((p0 >>> (24 &&& 31)) &&& 255)) (5 : Int32).toNatClampNeg ((p0 >>> (16 &&& 31)) &&& 255)) (6 : Int32).toNatClampNeg ((p0 >>> (8 &&& 31)) &&& 255))))] H := hP
  have hD : va_D A [((b 0), .inr (9, [.int 0, .ref (b 10), .ref (b 11), .ref (b 12), .ref (b 13), .ref (b 14), .ref (b 15), .ref (b 16), .ref (b 17), .ref (b 18), .ref (b 19), .ref (b 20), .ref (b 1), .ref (b 2), .ref (b 3), .ref (b 4), .int 0, .ref (b 5), .int 6, .int 0, .int 0, .int 0, .int 0, .int 0, .int 0, .int (-1), .int 0, .int 0, .int 0, .int 0, .int 0, .ref (b 21), .ref (b 22), .int 0, .ref (b 23), .ref (b 24), .ref (b 25), .ref (b 26), .ref (b 27), .ref (b 28), .ref (b 29), .ref (b 30), .ref (b 31), .ref (b 32), .ref (b 33), .int 0, .int 0, .ref (b 34), .ref (b 35), .ref (b 36), .ref (b 37), .ref (b 38), .int 0, .int 0, .ref (b 39), .ref (b 40), .ref (b 41), .ref (b 42), .ref (b 43), .ref (b 44), .ref (b 45), .int 0, .int 0, .int 0, .ref (b 46), .int 0, .int 0])), ((b 5), .inl ((j 5), 900, .inl (upd (upd (upd f (4 : Int32).toNatClampNeg ((p0 >>> (24 &&& 31)) &&& 255)) (5 : Int32).toNatClampNeg ((p0 >>> (16 &&& 31)) &&& 255)) (6 : Int32).toNatClampNeg ((p0 >>> (8 &&& 31)) &&& 255))))] := hD
  refine lv_aload_n hx hb dX9_four_23 rfl (lv_at hl 1 rfl) ?_
  refine lv_dup hx hb dX9_four_24 rfl ?_
  refine va_get (D := (dC, dI)) (ci := 9) (v := .int 6) (C := RX9) (T := TX9) (N := 67) hx hb hts hiX9 hown hK hP 0 rfl rfl 18 (by decide) v_2 (fun _ h9 => h9) rfl dX9_four_25 ?_
  refine lv_iconst (v := 1) hx hb dX9_four_28 (by decide) ?_
  refine lv_iadd hx hb dX9_four_29 ?_
  refine lv_topi (fun y_3 ey_3 => ?_)
  obtain rfl : y_3 = 7 := ey_3.trans (by decide)
  refine va_put (D := (dC, dI)) (ci := 9) (v := .int 7) (ty := .int) (C := RX9) (T := TX9) (N := 67) hx hb hts hiX9 tyX9 tyX9_ok nmX9 hown hK hP hD hS 0 rfl rfl 18 (by decide) v_2 (fun _ h9 => h9) rfl (by decide +kernel) rfl rfl (Nat.le_of_ble_eq_true rfl) dX9_four_30 (fun H locs hP hD hS => ?_)
  have hP : va_P (dC, dI) vwCl [((b 0), .inr (9, [.int 0, .ref (b 10), .ref (b 11), .ref (b 12), .ref (b 13), .ref (b 14), .ref (b 15), .ref (b 16), .ref (b 17), .ref (b 18), .ref (b 19), .ref (b 20), .ref (b 1), .ref (b 2), .ref (b 3), .ref (b 4), .int 0, .ref (b 5), .int 7, .int 0, .int 0, .int 0, .int 0, .int 0, .int 0, .int (-1), .int 0, .int 0, .int 0, .int 0, .int 0, .ref (b 21), .ref (b 22), .int 0, .ref (b 23), .ref (b 24), .ref (b 25), .ref (b 26), .ref (b 27), .ref (b 28), .ref (b 29), .ref (b 30), .ref (b 31), .ref (b 32), .ref (b 33), .int 0, .int 0, .ref (b 34), .ref (b 35), .ref (b 36), .ref (b 37), .ref (b 38), .int 0, .int 0, .ref (b 39), .ref (b 40), .ref (b 41), .ref (b 42), .ref (b 43), .ref (b 44), .ref (b 45), .int 0, .int 0, .int 0, .ref (b 46), .int 0, .int 0])), ((b 5), .inl ((j 5), 900, .inl (upd (upd (upd f (4 : Int32).toNatClampNeg ((p0 >>> (24 &&& 31)) &&& 255)) (5 : Int32).toNatClampNeg ((p0 >>> (16 &&& 31)) &&& 255)) (6 : Int32).toNatClampNeg ((p0 >>> (8 &&& 31)) &&& 255))))] H := hP
  have hD : va_D A [((b 0), .inr (9, [.int 0, .ref (b 10), .ref (b 11), .ref (b 12), .ref (b 13), .ref (b 14), .ref (b 15), .ref (b 16), .ref (b 17), .ref (b 18), .ref (b 19), .ref (b 20), .ref (b 1), .ref (b 2), .ref (b 3), .ref (b 4), .int 0, .ref (b 5), .int 7, .int 0, .int 0, .int 0, .int 0, .int 0, .int 0, .int (-1), .int 0, .int 0, .int 0, .int 0, .int 0, .ref (b 21), .ref (b 22), .int 0, .ref (b 23), .ref (b 24), .ref (b 25), .ref (b 26), .ref (b 27), .ref (b 28), .ref (b 29), .ref (b 30), .ref (b 31), .ref (b 32), .ref (b 33), .int 0, .int 0, .ref (b 34), .ref (b 35), .ref (b 36), .ref (b 37), .ref (b 38), .int 0, .int 0, .ref (b 39), .ref (b 40), .ref (b 41), .ref (b 42), .ref (b 43), .ref (b 44), .ref (b 45), .int 0, .int 0, .int 0, .ref (b 46), .int 0, .int 0])), ((b 5), .inl ((j 5), 900, .inl (upd (upd (upd f (4 : Int32).toNatClampNeg ((p0 >>> (24 &&& 31)) &&& 255)) (5 : Int32).toNatClampNeg ((p0 >>> (16 &&& 31)) &&& 255)) (6 : Int32).toNatClampNeg ((p0 >>> (8 &&& 31)) &&& 255))))] := hD
  refine lv_iinc (v := 0) (lv' := [(2, .int 0), (0, .ref (b 0)), (1, .int p0)]) hx hb dX9_four_33 hl (k := 0) rfl (by decide) (by decide) rfl (fun ls hl => ?_)
  refine lv_goto (tgt := 3) hx hb dX9_four_36 (by decide) ?_
  refine lv_iload_n hx hb dX9_four_3 rfl (lv_at hl 0 rfl) ?_
  refine lv_if_lt (tgt := 39) hx hb dX9_four_4 (by decide) (fun z => absurd z (by decide)) (fun _ => ?_)
  refine lv_aload_n hx hb dX9_four_7 rfl (lv_at hl 1 rfl) ?_
  refine va_get (D := (dC, dI)) (ci := 9) (v := .ref (b 5)) (C := RX9) (T := TX9) (N := 67) hx hb hts hiX9 hown hK hP 0 rfl rfl 17 (by decide) v_1 (fun _ h9 => h9) rfl dX9_four_8 ?_
  refine lv_aload_n hx hb dX9_four_11 rfl (lv_at hl 1 rfl) ?_
  refine va_get (D := (dC, dI)) (ci := 9) (v := .int 7) (C := RX9) (T := TX9) (N := 67) hx hb hts hiX9 hown hK hP 0 rfl rfl 18 (by decide) v_2 (fun _ h9 => h9) rfl dX9_four_12 ?_
  refine lv_iload_n hx hb dX9_four_15 rfl (lv_at hl 2 rfl) ?_
  refine lv_iload_n hx hb dX9_four_16 rfl (lv_at hl 0 rfl) ?_
  refine lv_ishr hx hb dX9_four_17 ?_
  refine lv_sipush (v := 255) hx hb dX9_four_18 (by decide) ?_
  refine lv_iand hx hb dX9_four_21 ?_
  refine va_iast hx hb hK hP hD hS 1 0 rfl rfl (show ¬ (_ ∨ _) by decide) dX9_four_22 (fun H locs hP hD hS => ?_)
  have hP : va_P (dC, dI) vwCl [((b 0), .inr (9, [.int 0, .ref (b 10), .ref (b 11), .ref (b 12), .ref (b 13), .ref (b 14), .ref (b 15), .ref (b 16), .ref (b 17), .ref (b 18), .ref (b 19), .ref (b 20), .ref (b 1), .ref (b 2), .ref (b 3), .ref (b 4), .int 0, .ref (b 5), .int 7, .int 0, .int 0, .int 0, .int 0, .int 0, .int 0, .int (-1), .int 0, .int 0, .int 0, .int 0, .int 0, .ref (b 21), .ref (b 22), .int 0, .ref (b 23), .ref (b 24), .ref (b 25), .ref (b 26), .ref (b 27), .ref (b 28), .ref (b 29), .ref (b 30), .ref (b 31), .ref (b 32), .ref (b 33), .int 0, .int 0, .ref (b 34), .ref (b 35), .ref (b 36), .ref (b 37), .ref (b 38), .int 0, .int 0, .ref (b 39), .ref (b 40), .ref (b 41), .ref (b 42), .ref (b 43), .ref (b 44), .ref (b 45), .int 0, .int 0, .int 0, .ref (b 46), .int 0, .int 0])), ((b 5), .inl ((j 5), 900, .inl (upd (upd (upd (upd f (4 : Int32).toNatClampNeg ((p0 >>> (24 &&& 31)) &&& 255)) (5 : Int32).toNatClampNeg ((p0 >>> (16 &&& 31)) &&& 255)) (6 : Int32).toNatClampNeg ((p0 >>> (8 &&& 31)) &&& 255)) (7 : Int32).toNatClampNeg ((p0 >>> (0 &&& 31)) &&& 255))))] H := hP
  have hD : va_D A [((b 0), .inr (9, [.int 0, .ref (b 10), .ref (b 11), .ref (b 12), .ref (b 13), .ref (b 14), .ref (b 15), .ref (b 16), .ref (b 17), .ref (b 18), .ref (b 19), .ref (b 20), .ref (b 1), .ref (b 2), .ref (b 3), .ref (b 4), .int 0, .ref (b 5), .int 7, .int 0, .int 0, .int 0, .int 0, .int 0, .int 0, .int (-1), .int 0, .int 0, .int 0, .int 0, .int 0, .ref (b 21), .ref (b 22), .int 0, .ref (b 23), .ref (b 24), .ref (b 25), .ref (b 26), .ref (b 27), .ref (b 28), .ref (b 29), .ref (b 30), .ref (b 31), .ref (b 32), .ref (b 33), .int 0, .int 0, .ref (b 34), .ref (b 35), .ref (b 36), .ref (b 37), .ref (b 38), .int 0, .int 0, .ref (b 39), .ref (b 40), .ref (b 41), .ref (b 42), .ref (b 43), .ref (b 44), .ref (b 45), .int 0, .int 0, .int 0, .ref (b 46), .int 0, .int 0])), ((b 5), .inl ((j 5), 900, .inl (upd (upd (upd (upd f (4 : Int32).toNatClampNeg ((p0 >>> (24 &&& 31)) &&& 255)) (5 : Int32).toNatClampNeg ((p0 >>> (16 &&& 31)) &&& 255)) (6 : Int32).toNatClampNeg ((p0 >>> (8 &&& 31)) &&& 255)) (7 : Int32).toNatClampNeg ((p0 >>> (0 &&& 31)) &&& 255))))] := hD
  refine lv_aload_n hx hb dX9_four_23 rfl (lv_at hl 1 rfl) ?_
  refine lv_dup hx hb dX9_four_24 rfl ?_
  refine va_get (D := (dC, dI)) (ci := 9) (v := .int 7) (C := RX9) (T := TX9) (N := 67) hx hb hts hiX9 hown hK hP 0 rfl rfl 18 (by decide) v_2 (fun _ h9 => h9) rfl dX9_four_25 ?_
  refine lv_iconst (v := 1) hx hb dX9_four_28 (by decide) ?_
  refine lv_iadd hx hb dX9_four_29 ?_
  refine lv_topi (fun y_4 ey_4 => ?_)
  obtain rfl : y_4 = 8 := ey_4.trans (by decide)
  refine va_put (D := (dC, dI)) (ci := 9) (v := .int 8) (ty := .int) (C := RX9) (T := TX9) (N := 67) hx hb hts hiX9 tyX9 tyX9_ok nmX9 hown hK hP hD hS 0 rfl rfl 18 (by decide) v_2 (fun _ h9 => h9) rfl (by decide +kernel) rfl rfl (Nat.le_of_ble_eq_true rfl) dX9_four_30 (fun H locs hP hD hS => ?_)
  have hP : va_P (dC, dI) vwCl [((b 0), .inr (9, [.int 0, .ref (b 10), .ref (b 11), .ref (b 12), .ref (b 13), .ref (b 14), .ref (b 15), .ref (b 16), .ref (b 17), .ref (b 18), .ref (b 19), .ref (b 20), .ref (b 1), .ref (b 2), .ref (b 3), .ref (b 4), .int 0, .ref (b 5), .int 8, .int 0, .int 0, .int 0, .int 0, .int 0, .int 0, .int (-1), .int 0, .int 0, .int 0, .int 0, .int 0, .ref (b 21), .ref (b 22), .int 0, .ref (b 23), .ref (b 24), .ref (b 25), .ref (b 26), .ref (b 27), .ref (b 28), .ref (b 29), .ref (b 30), .ref (b 31), .ref (b 32), .ref (b 33), .int 0, .int 0, .ref (b 34), .ref (b 35), .ref (b 36), .ref (b 37), .ref (b 38), .int 0, .int 0, .ref (b 39), .ref (b 40), .ref (b 41), .ref (b 42), .ref (b 43), .ref (b 44), .ref (b 45), .int 0, .int 0, .int 0, .ref (b 46), .int 0, .int 0])), ((b 5), .inl ((j 5), 900, .inl (upd (upd (upd (upd f (4 : Int32).toNatClampNeg ((p0 >>> (24 &&& 31)) &&& 255)) (5 : Int32).toNatClampNeg ((p0 >>> (16 &&& 31)) &&& 255)) (6 : Int32).toNatClampNeg ((p0 >>> (8 &&& 31)) &&& 255)) (7 : Int32).toNatClampNeg ((p0 >>> (0 &&& 31)) &&& 255))))] H := hP
  have hD : va_D A [((b 0), .inr (9, [.int 0, .ref (b 10), .ref (b 11), .ref (b 12), .ref (b 13), .ref (b 14), .ref (b 15), .ref (b 16), .ref (b 17), .ref (b 18), .ref (b 19), .ref (b 20), .ref (b 1), .ref (b 2), .ref (b 3), .ref (b 4), .int 0, .ref (b 5), .int 8, .int 0, .int 0, .int 0, .int 0, .int 0, .int 0, .int (-1), .int 0, .int 0, .int 0, .int 0, .int 0, .ref (b 21), .ref (b 22), .int 0, .ref (b 23), .ref (b 24), .ref (b 25), .ref (b 26), .ref (b 27), .ref (b 28), .ref (b 29), .ref (b 30), .ref (b 31), .ref (b 32), .ref (b 33), .int 0, .int 0, .ref (b 34), .ref (b 35), .ref (b 36), .ref (b 37), .ref (b 38), .int 0, .int 0, .ref (b 39), .ref (b 40), .ref (b 41), .ref (b 42), .ref (b 43), .ref (b 44), .ref (b 45), .int 0, .int 0, .int 0, .ref (b 46), .int 0, .int 0])), ((b 5), .inl ((j 5), 900, .inl (upd (upd (upd (upd f (4 : Int32).toNatClampNeg ((p0 >>> (24 &&& 31)) &&& 255)) (5 : Int32).toNatClampNeg ((p0 >>> (16 &&& 31)) &&& 255)) (6 : Int32).toNatClampNeg ((p0 >>> (8 &&& 31)) &&& 255)) (7 : Int32).toNatClampNeg ((p0 >>> (0 &&& 31)) &&& 255))))] := hD
  refine lv_iinc (v := (-8)) (lv' := [(2, .int (-8)), (0, .ref (b 0)), (1, .int p0)]) hx hb dX9_four_33 hl (k := 0) rfl (by decide) (by decide) rfl (fun ls hl => ?_)
  refine lv_goto (tgt := 3) hx hb dX9_four_36 (by decide) ?_
  refine lv_iload_n hx hb dX9_four_3 rfl (lv_at hl 0 rfl) ?_
  refine lv_if_lt (tgt := 39) hx hb dX9_four_4 (by decide) (fun _ => ?_) (fun z => absurd z (by decide))
  have hP9 := hP.sub (ws' := [((b 0), .inr (9, [.int 0, .ref (b 10), .ref (b 11), .ref (b 12), .ref (b 13), .ref (b 14), .ref (b 15), .ref (b 16), .ref (b 17), .ref (b 18), .ref (b 19), .ref (b 20), .ref (b 1), .ref (b 2), .ref (b 3), .ref (b 4), .int 0, .ref (b 5), .int 8, .int 0, .int 0, .int 0, .int 0, .int 0, .int 0, .int (-1), .int 0, .int 0, .int 0, .int 0, .int 0, .ref (b 21), .ref (b 22), .int 0, .ref (b 23), .ref (b 24), .ref (b 25), .ref (b 26), .ref (b 27), .ref (b 28), .ref (b 29), .ref (b 30), .ref (b 31), .ref (b 32), .ref (b 33), .int 0, .int 0, .ref (b 34), .ref (b 35), .ref (b 36), .ref (b 37), .ref (b 38), .int 0, .int 0, .ref (b 39), .ref (b 40), .ref (b 41), .ref (b 42), .ref (b 43), .ref (b 44), .ref (b 45), .int 0, .int 0, .int 0, .ref (b 46), .int 0, .int 0])), ((b 5), .inl ((j 5), 900, .inl (upd (upd (upd (upd f (4 : Int32).toNatClampNeg ((p0 >>> (24 &&& 31)) &&& 255)) (5 : Int32).toNatClampNeg ((p0 >>> (16 &&& 31)) &&& 255)) (6 : Int32).toNatClampNeg ((p0 >>> (8 &&& 31)) &&& 255)) (7 : Int32).toNatClampNeg ((p0 >>> (0 &&& 31)) &&& 255))))]) [0, 1] rfl
  have hD9 := hD.sub (ws' := [((b 0), .inr (9, [.int 0, .ref (b 10), .ref (b 11), .ref (b 12), .ref (b 13), .ref (b 14), .ref (b 15), .ref (b 16), .ref (b 17), .ref (b 18), .ref (b 19), .ref (b 20), .ref (b 1), .ref (b 2), .ref (b 3), .ref (b 4), .int 0, .ref (b 5), .int 8, .int 0, .int 0, .int 0, .int 0, .int 0, .int 0, .int (-1), .int 0, .int 0, .int 0, .int 0, .int 0, .ref (b 21), .ref (b 22), .int 0, .ref (b 23), .ref (b 24), .ref (b 25), .ref (b 26), .ref (b 27), .ref (b 28), .ref (b 29), .ref (b 30), .ref (b 31), .ref (b 32), .ref (b 33), .int 0, .int 0, .ref (b 34), .ref (b 35), .ref (b 36), .ref (b 37), .ref (b 38), .int 0, .int 0, .ref (b 39), .ref (b 40), .ref (b 41), .ref (b 42), .ref (b 43), .ref (b 44), .ref (b 45), .int 0, .int 0, .int 0, .ref (b 46), .int 0, .int 0])), ((b 5), .inl ((j 5), 900, .inl (upd (upd (upd (upd f (4 : Int32).toNatClampNeg ((p0 >>> (24 &&& 31)) &&& 255)) (5 : Int32).toNatClampNeg ((p0 >>> (16 &&& 31)) &&& 255)) (6 : Int32).toNatClampNeg ((p0 >>> (8 &&& 31)) &&& 255)) (7 : Int32).toNatClampNeg ((p0 >>> (0 &&& 31)) &&& 255))))]) [0, 1] (by decide) rfl
  have hK9 := hK.sub (tys' := [(j 5, .int)]) [0] rfl
  exact W.vret hx hb hr (fun t ht hW => ⟨⟨(), rfl, trivial, ⟨upd (upd (upd (upd f (4 : Int32).toNatClampNeg ((p0 >>> (24 &&& 31)) &&& 255)) (5 : Int32).toNatClampNeg ((p0 >>> (16 &&& 31)) &&& 255)) (6 : Int32).toNatClampNeg ((p0 >>> (8 &&& 31)) &&& 255)) (7 : Int32).toNatClampNeg ((p0 >>> (0 &&& 31)) &&& 255), by rw [ht]; exact hP9, va_K.moved hW.alike hK9, hD9⟩⟩, hS.F ht⟩) hS.2.2 dX9_four_39
def vs_X8_putBytes_8 : List Cond := .code yX8_putBytes cX8_putBytes 3 none :: ([.fieldLink RX8 79 "ClockReach" "taped" "I", .fieldLink RX8 9 "ClockReach" "tape" "[I"] ++ wsX80)
set_option maxHeartbeats 4000000 in
set_option maxRecDepth 100000 in
theorem c_X8_putBytes_8 (l : Launch) (dC : Nat → ClassId) (dI : Nat → Nat → Nat) (sz : Nat) (a : Nat → Nat) (k : Nat → ClassId) (f : Nat → Int32) (p0 : Int32) : Met l yX8_putBytes vs_X8_putBytes_8 ({ frames := 0, cells := 0, slots := 0, locals := 0 }) (va_Pc [.ref (a 0), .int p0] (pu_B (dC, dI) [((a 0), .inr (8, [.ref (a 6), .int 8, .ref (a 4), .ref (a 1), .ref (a 5), .ref (a 2), .ref (a 10), .int 0, .ref (a 11), .ref (a 12), .int 0, .ref (a 13), .ref (a 14), .ref (a 3), .ref (a 15), .ref (a 16)])), ((a 6), .inl ((k 0), 900, .inl f))] [(k 0, .int)] sz)) (va_Qv (fun (_ : Unit) => True) (fun _ t => ∃ (g : Nat → Int32), pu_E (dC, dI) [((a 0), .inr (8, [.ref (a 6), .int 12, .ref (a 4), .ref (a 1), .ref (a 5), .ref (a 2), .ref (a 10), .int 0, .ref (a 11), .ref (a 12), .int 0, .ref (a 13), .ref (a 14), .ref (a 3), .ref (a 15), .ref (a 16)])), ((a 6), .inl ((k 0), 900, .inl g))] [(k 0, .int)] (va_A ([((a 0), .inr (8, [.ref (a 6), .int 8, .ref (a 4), .ref (a 1), .ref (a 5), .ref (a 2), .ref (a 10), .int 0, .ref (a 11), .ref (a 12), .int 0, .ref (a 13), .ref (a 14), .ref (a 3), .ref (a 15), .ref (a 16)])), ((a 6), .inl ((k 0), 900, .inl f))]) sz) t) (va_A ([((a 0), .inr (8, [.ref (a 6), .int 8, .ref (a 4), .ref (a 1), .ref (a 5), .ref (a 2), .ref (a 10), .int 0, .ref (a 11), .ref (a 12), .int 0, .ref (a 13), .ref (a 14), .ref (a 3), .ref (a 15), .ref (a 16)])), ((a 6), .inl ((k 0), 900, .inl f))]) sz)) 0 0 (va_A ([((a 0), .inr (8, [.ref (a 6), .int 8, .ref (a 4), .ref (a 1), .ref (a 5), .ref (a 2), .ref (a 10), .int 0, .ref (a 11), .ref (a 12), .int 0, .ref (a 13), .ref (a 14), .ref (a 3), .ref (a 15), .ref (a 16)])), ((a 6), .inl ((k 0), 900, .inl f))]) sz) := by
  refine Met.ofW (cc := cX8_putBytes) (maxL := 3) (ret := none) (by decide) rfl ?_
  intro p e s m args below meth c s₁ B hml hv
  obtain ⟨rfl, rfl, hP, hK, hD0⟩ := hv
  have hx := B.exec
  have hb := B.bytes
  have hr := B.returns
  have hts := atoms_spec (ws := vs_X8_putBytes_8) B.pre
  have v_1 := hts (.fieldLink RX8 79 "ClockReach" "taped" "I") (List.mem_of_getElem? (i := 1) rfl)
  have v_2 := hts (.fieldLink RX8 9 "ClockReach" "tape" "[I") (List.mem_of_getElem? (i := 2) rfl)
  have hown : s.vm.findClass RX8 = some m.cls := findClass_of_methodNamed B.named
  have hlocks := B.notSynchronized
  have hiX8 : ∀ w ∈ wsX80, w ∈ vs_X8_putBytes_8 := fun _ h => List.mem_cons_of_mem _ (List.mem_append_right _ h)
  have hD := hD0.self (sz := s.heap.size)
  generalize hAe : va_A ([((a 0), .inr (8, [.ref (a 6), .int 8, .ref (a 4), .ref (a 1), .ref (a 5), .ref (a 2), .ref (a 10), .int 0, .ref (a 11), .ref (a 12), .int 0, .ref (a 13), .ref (a 14), .ref (a 3), .ref (a 15), .ref (a 16)])), ((a 6), .inl ((k 0), 900, .inl f))]) s.heap.size = A at hD ⊢
  have hA : ∀ q : Nat, s.heap.size ≤ q → A q := fun q h => by rw [← hAe]; exact Or.inr h
  have hS : va_S A s.heap s.heap [] := va_S.rf
  have hl := lv_entry ([.ref (a 0), .int p0]) (n := 3) (Nat.le_of_ble_eq_true rfl)
  rw [lg_entry_eq]
  generalize (lg_sl ([.ref (a 0), .int p0]) ++ List.replicate (3 - (lg_sl ([.ref (a 0), .int p0])).length) Slot.unset).toArray = ls at hl ⊢
  have hl : lv_has ls 3 [(0, .ref (a 0)), (1, .int p0)] := hl
  refine lv_bipush (v := 24) hx hb dX8_putBytes_0 (by decide) ?_
  refine lv_istore_n (lv' := [(2, .int 24), (0, .ref (a 0)), (1, .int p0)]) hx hb dX8_putBytes_2 rfl hl (by decide) rfl (fun ls hl => ?_)
  refine lv_iload_n hx hb dX8_putBytes_3 rfl (lv_at hl 0 rfl) ?_
  refine lv_if_lt (tgt := 49) hx hb dX8_putBytes_4 (by decide) (fun z => absurd z (by decide)) (fun _ => ?_)
  refine lv_aload_n hx hb dX8_putBytes_7 rfl (lv_at hl 1 rfl) ?_
  refine va_get (D := (dC, dI)) (ci := 8) (v := .int 8) (C := RX8) (T := TX8) (N := 16) hx hb hts hiX8 hown hK hP 0 rfl rfl 1 (by decide) v_1 (fun _ h9 => h9) rfl dX8_putBytes_8 ?_
  refine lv_sipush (v := 900) hx hb dX8_putBytes_11 (by decide) ?_
  refine lv_icmp_ge (tgt := 49) hx hb dX8_putBytes_14 (by decide) (fun z => absurd z (by decide)) (fun _ => ?_)
  refine lv_aload_n hx hb dX8_putBytes_17 rfl (lv_at hl 1 rfl) ?_
  refine va_get (D := (dC, dI)) (ci := 8) (v := .ref (a 6)) (C := RX8) (T := TX8) (N := 16) hx hb hts hiX8 hown hK hP 0 rfl rfl 0 (by decide) v_2 (fun _ h9 => h9) rfl dX8_putBytes_18 ?_
  refine lv_aload_n hx hb dX8_putBytes_21 rfl (lv_at hl 1 rfl) ?_
  refine va_get (D := (dC, dI)) (ci := 8) (v := .int 8) (C := RX8) (T := TX8) (N := 16) hx hb hts hiX8 hown hK hP 0 rfl rfl 1 (by decide) v_1 (fun _ h9 => h9) rfl dX8_putBytes_22 ?_
  refine lv_iload_n hx hb dX8_putBytes_25 rfl (lv_at hl 2 rfl) ?_
  refine lv_iload_n hx hb dX8_putBytes_26 rfl (lv_at hl 0 rfl) ?_
  refine lv_ishr hx hb dX8_putBytes_27 ?_
  refine lv_sipush (v := 255) hx hb dX8_putBytes_28 (by decide) ?_
  refine lv_iand hx hb dX8_putBytes_31 ?_
  refine va_iast hx hb hK hP hD hS 1 0 rfl rfl (show ¬ (_ ∨ _) by decide) dX8_putBytes_32 (fun H locs hP hD hS => ?_)
  have hP : va_P (dC, dI) vwCl [((a 0), .inr (8, [.ref (a 6), .int 8, .ref (a 4), .ref (a 1), .ref (a 5), .ref (a 2), .ref (a 10), .int 0, .ref (a 11), .ref (a 12), .int 0, .ref (a 13), .ref (a 14), .ref (a 3), .ref (a 15), .ref (a 16)])), ((a 6), .inl ((k 0), 900, .inl (upd f (8 : Int32).toNatClampNeg ((p0 >>> (24 &&& 31)) &&& 255))))] H := hP
  have hD : va_D A [((a 0), .inr (8, [.ref (a 6), .int 8, .ref (a 4), .ref (a 1), .ref (a 5), .ref (a 2), .ref (a 10), .int 0, .ref (a 11), .ref (a 12), .int 0, .ref (a 13), .ref (a 14), .ref (a 3), .ref (a 15), .ref (a 16)])), ((a 6), .inl ((k 0), 900, .inl (upd f (8 : Int32).toNatClampNeg ((p0 >>> (24 &&& 31)) &&& 255))))] := hD
  refine lv_aload_n hx hb dX8_putBytes_33 rfl (lv_at hl 1 rfl) ?_
  refine lv_dup hx hb dX8_putBytes_34 rfl ?_
  refine va_get (D := (dC, dI)) (ci := 8) (v := .int 8) (C := RX8) (T := TX8) (N := 16) hx hb hts hiX8 hown hK hP 0 rfl rfl 1 (by decide) v_1 (fun _ h9 => h9) rfl dX8_putBytes_35 ?_
  refine lv_iconst (v := 1) hx hb dX8_putBytes_38 (by decide) ?_
  refine lv_iadd hx hb dX8_putBytes_39 ?_
  refine lv_topi (fun y_1 ey_1 => ?_)
  obtain rfl : y_1 = 9 := ey_1.trans (by decide)
  refine va_put (D := (dC, dI)) (ci := 8) (v := .int 9) (ty := .int) (C := RX8) (T := TX8) (N := 16) hx hb hts hiX8 tyX8 tyX8_ok nmX8 hown hK hP hD hS 0 rfl rfl 1 (by decide) v_1 (fun _ h9 => h9) rfl (by decide +kernel) rfl rfl (Nat.le_of_ble_eq_true rfl) dX8_putBytes_40 (fun H locs hP hD hS => ?_)
  have hP : va_P (dC, dI) vwCl [((a 0), .inr (8, [.ref (a 6), .int 9, .ref (a 4), .ref (a 1), .ref (a 5), .ref (a 2), .ref (a 10), .int 0, .ref (a 11), .ref (a 12), .int 0, .ref (a 13), .ref (a 14), .ref (a 3), .ref (a 15), .ref (a 16)])), ((a 6), .inl ((k 0), 900, .inl (upd f (8 : Int32).toNatClampNeg ((p0 >>> (24 &&& 31)) &&& 255))))] H := hP
  have hD : va_D A [((a 0), .inr (8, [.ref (a 6), .int 9, .ref (a 4), .ref (a 1), .ref (a 5), .ref (a 2), .ref (a 10), .int 0, .ref (a 11), .ref (a 12), .int 0, .ref (a 13), .ref (a 14), .ref (a 3), .ref (a 15), .ref (a 16)])), ((a 6), .inl ((k 0), 900, .inl (upd f (8 : Int32).toNatClampNeg ((p0 >>> (24 &&& 31)) &&& 255))))] := hD
  refine lv_iinc (v := 16) (lv' := [(2, .int 16), (0, .ref (a 0)), (1, .int p0)]) hx hb dX8_putBytes_43 hl (k := 0) rfl (by decide) (by decide) rfl (fun ls hl => ?_)
  refine lv_goto (tgt := 3) hx hb dX8_putBytes_46 (by decide) ?_
  refine lv_iload_n hx hb dX8_putBytes_3 rfl (lv_at hl 0 rfl) ?_
  refine lv_if_lt (tgt := 49) hx hb dX8_putBytes_4 (by decide) (fun z => absurd z (by decide)) (fun _ => ?_)
  refine lv_aload_n hx hb dX8_putBytes_7 rfl (lv_at hl 1 rfl) ?_
  refine va_get (D := (dC, dI)) (ci := 8) (v := .int 9) (C := RX8) (T := TX8) (N := 16) hx hb hts hiX8 hown hK hP 0 rfl rfl 1 (by decide) v_1 (fun _ h9 => h9) rfl dX8_putBytes_8 ?_
  refine lv_sipush (v := 900) hx hb dX8_putBytes_11 (by decide) ?_
  refine lv_icmp_ge (tgt := 49) hx hb dX8_putBytes_14 (by decide) (fun z => absurd z (by decide)) (fun _ => ?_)
  refine lv_aload_n hx hb dX8_putBytes_17 rfl (lv_at hl 1 rfl) ?_
  refine va_get (D := (dC, dI)) (ci := 8) (v := .ref (a 6)) (C := RX8) (T := TX8) (N := 16) hx hb hts hiX8 hown hK hP 0 rfl rfl 0 (by decide) v_2 (fun _ h9 => h9) rfl dX8_putBytes_18 ?_
  refine lv_aload_n hx hb dX8_putBytes_21 rfl (lv_at hl 1 rfl) ?_
  refine va_get (D := (dC, dI)) (ci := 8) (v := .int 9) (C := RX8) (T := TX8) (N := 16) hx hb hts hiX8 hown hK hP 0 rfl rfl 1 (by decide) v_1 (fun _ h9 => h9) rfl dX8_putBytes_22 ?_
  refine lv_iload_n hx hb dX8_putBytes_25 rfl (lv_at hl 2 rfl) ?_
  refine lv_iload_n hx hb dX8_putBytes_26 rfl (lv_at hl 0 rfl) ?_
  refine lv_ishr hx hb dX8_putBytes_27 ?_
  refine lv_sipush (v := 255) hx hb dX8_putBytes_28 (by decide) ?_
  refine lv_iand hx hb dX8_putBytes_31 ?_
  refine va_iast hx hb hK hP hD hS 1 0 rfl rfl (show ¬ (_ ∨ _) by decide) dX8_putBytes_32 (fun H locs hP hD hS => ?_)
  have hP : va_P (dC, dI) vwCl [((a 0), .inr (8, [.ref (a 6), .int 9, .ref (a 4), .ref (a 1), .ref (a 5), .ref (a 2), .ref (a 10), .int 0, .ref (a 11), .ref (a 12), .int 0, .ref (a 13), .ref (a 14), .ref (a 3), .ref (a 15), .ref (a 16)])), ((a 6), .inl ((k 0), 900, .inl (upd (upd f (8 : Int32).toNatClampNeg ((p0 >>> (24 &&& 31)) &&& 255)) (9 : Int32).toNatClampNeg ((p0 >>> (16 &&& 31)) &&& 255))))] H := hP
  have hD : va_D A [((a 0), .inr (8, [.ref (a 6), .int 9, .ref (a 4), .ref (a 1), .ref (a 5), .ref (a 2), .ref (a 10), .int 0, .ref (a 11), .ref (a 12), .int 0, .ref (a 13), .ref (a 14), .ref (a 3), .ref (a 15), .ref (a 16)])), ((a 6), .inl ((k 0), 900, .inl (upd (upd f (8 : Int32).toNatClampNeg ((p0 >>> (24 &&& 31)) &&& 255)) (9 : Int32).toNatClampNeg ((p0 >>> (16 &&& 31)) &&& 255))))] := hD
  refine lv_aload_n hx hb dX8_putBytes_33 rfl (lv_at hl 1 rfl) ?_
  refine lv_dup hx hb dX8_putBytes_34 rfl ?_
  refine va_get (D := (dC, dI)) (ci := 8) (v := .int 9) (C := RX8) (T := TX8) (N := 16) hx hb hts hiX8 hown hK hP 0 rfl rfl 1 (by decide) v_1 (fun _ h9 => h9) rfl dX8_putBytes_35 ?_
  refine lv_iconst (v := 1) hx hb dX8_putBytes_38 (by decide) ?_
  refine lv_iadd hx hb dX8_putBytes_39 ?_
  refine lv_topi (fun y_2 ey_2 => ?_)
  obtain rfl : y_2 = 10 := ey_2.trans (by decide)
  refine va_put (D := (dC, dI)) (ci := 8) (v := .int 10) (ty := .int) (C := RX8) (T := TX8) (N := 16) hx hb hts hiX8 tyX8 tyX8_ok nmX8 hown hK hP hD hS 0 rfl rfl 1 (by decide) v_1 (fun _ h9 => h9) rfl (by decide +kernel) rfl rfl (Nat.le_of_ble_eq_true rfl) dX8_putBytes_40 (fun H locs hP hD hS => ?_)
  have hP : va_P (dC, dI) vwCl [((a 0), .inr (8, [.ref (a 6), .int 10, .ref (a 4), .ref (a 1), .ref (a 5), .ref (a 2), .ref (a 10), .int 0, .ref (a 11), .ref (a 12), .int 0, .ref (a 13), .ref (a 14), .ref (a 3), .ref (a 15), .ref (a 16)])), ((a 6), .inl ((k 0), 900, .inl (upd (upd f (8 : Int32).toNatClampNeg ((p0 >>> (24 &&& 31)) &&& 255)) (9 : Int32).toNatClampNeg ((p0 >>> (16 &&& 31)) &&& 255))))] H := hP
  have hD : va_D A [((a 0), .inr (8, [.ref (a 6), .int 10, .ref (a 4), .ref (a 1), .ref (a 5), .ref (a 2), .ref (a 10), .int 0, .ref (a 11), .ref (a 12), .int 0, .ref (a 13), .ref (a 14), .ref (a 3), .ref (a 15), .ref (a 16)])), ((a 6), .inl ((k 0), 900, .inl (upd (upd f (8 : Int32).toNatClampNeg ((p0 >>> (24 &&& 31)) &&& 255)) (9 : Int32).toNatClampNeg ((p0 >>> (16 &&& 31)) &&& 255))))] := hD
  refine lv_iinc (v := 8) (lv' := [(2, .int 8), (0, .ref (a 0)), (1, .int p0)]) hx hb dX8_putBytes_43 hl (k := 0) rfl (by decide) (by decide) rfl (fun ls hl => ?_)
  refine lv_goto (tgt := 3) hx hb dX8_putBytes_46 (by decide) ?_
  refine lv_iload_n hx hb dX8_putBytes_3 rfl (lv_at hl 0 rfl) ?_
  refine lv_if_lt (tgt := 49) hx hb dX8_putBytes_4 (by decide) (fun z => absurd z (by decide)) (fun _ => ?_)
  refine lv_aload_n hx hb dX8_putBytes_7 rfl (lv_at hl 1 rfl) ?_
  refine va_get (D := (dC, dI)) (ci := 8) (v := .int 10) (C := RX8) (T := TX8) (N := 16) hx hb hts hiX8 hown hK hP 0 rfl rfl 1 (by decide) v_1 (fun _ h9 => h9) rfl dX8_putBytes_8 ?_
  refine lv_sipush (v := 900) hx hb dX8_putBytes_11 (by decide) ?_
  refine lv_icmp_ge (tgt := 49) hx hb dX8_putBytes_14 (by decide) (fun z => absurd z (by decide)) (fun _ => ?_)
  refine lv_aload_n hx hb dX8_putBytes_17 rfl (lv_at hl 1 rfl) ?_
  refine va_get (D := (dC, dI)) (ci := 8) (v := .ref (a 6)) (C := RX8) (T := TX8) (N := 16) hx hb hts hiX8 hown hK hP 0 rfl rfl 0 (by decide) v_2 (fun _ h9 => h9) rfl dX8_putBytes_18 ?_
  refine lv_aload_n hx hb dX8_putBytes_21 rfl (lv_at hl 1 rfl) ?_
  refine va_get (D := (dC, dI)) (ci := 8) (v := .int 10) (C := RX8) (T := TX8) (N := 16) hx hb hts hiX8 hown hK hP 0 rfl rfl 1 (by decide) v_1 (fun _ h9 => h9) rfl dX8_putBytes_22 ?_
  refine lv_iload_n hx hb dX8_putBytes_25 rfl (lv_at hl 2 rfl) ?_
  refine lv_iload_n hx hb dX8_putBytes_26 rfl (lv_at hl 0 rfl) ?_
  refine lv_ishr hx hb dX8_putBytes_27 ?_
  refine lv_sipush (v := 255) hx hb dX8_putBytes_28 (by decide) ?_
  refine lv_iand hx hb dX8_putBytes_31 ?_
  refine va_iast hx hb hK hP hD hS 1 0 rfl rfl (show ¬ (_ ∨ _) by decide) dX8_putBytes_32 (fun H locs hP hD hS => ?_)
  have hP : va_P (dC, dI) vwCl [((a 0), .inr (8, [.ref (a 6), .int 10, .ref (a 4), .ref (a 1), .ref (a 5), .ref (a 2), .ref (a 10), .int 0, .ref (a 11), .ref (a 12), .int 0, .ref (a 13), .ref (a 14), .ref (a 3), .ref (a 15), .ref (a 16)])), ((a 6), .inl ((k 0), 900, .inl (upd (upd (upd f (8 : Int32).toNatClampNeg ((p0 >>> (24 &&& 31)) &&& 255)) (9 : Int32).toNatClampNeg ((p0 >>> (16 &&& 31)) &&& 255)) (10 : Int32).toNatClampNeg ((p0 >>> (8 &&& 31)) &&& 255))))] H := hP
  have hD : va_D A [((a 0), .inr (8, [.ref (a 6), .int 10, .ref (a 4), .ref (a 1), .ref (a 5), .ref (a 2), .ref (a 10), .int 0, .ref (a 11), .ref (a 12), .int 0, .ref (a 13), .ref (a 14), .ref (a 3), .ref (a 15), .ref (a 16)])), ((a 6), .inl ((k 0), 900, .inl (upd (upd (upd f (8 : Int32).toNatClampNeg ((p0 >>> (24 &&& 31)) &&& 255)) (9 : Int32).toNatClampNeg ((p0 >>> (16 &&& 31)) &&& 255)) (10 : Int32).toNatClampNeg ((p0 >>> (8 &&& 31)) &&& 255))))] := hD
  refine lv_aload_n hx hb dX8_putBytes_33 rfl (lv_at hl 1 rfl) ?_
  refine lv_dup hx hb dX8_putBytes_34 rfl ?_
  refine va_get (D := (dC, dI)) (ci := 8) (v := .int 10) (C := RX8) (T := TX8) (N := 16) hx hb hts hiX8 hown hK hP 0 rfl rfl 1 (by decide) v_1 (fun _ h9 => h9) rfl dX8_putBytes_35 ?_
  refine lv_iconst (v := 1) hx hb dX8_putBytes_38 (by decide) ?_
  refine lv_iadd hx hb dX8_putBytes_39 ?_
  refine lv_topi (fun y_3 ey_3 => ?_)
  obtain rfl : y_3 = 11 := ey_3.trans (by decide)
  refine va_put (D := (dC, dI)) (ci := 8) (v := .int 11) (ty := .int) (C := RX8) (T := TX8) (N := 16) hx hb hts hiX8 tyX8 tyX8_ok nmX8 hown hK hP hD hS 0 rfl rfl 1 (by decide) v_1 (fun _ h9 => h9) rfl (by decide +kernel) rfl rfl (Nat.le_of_ble_eq_true rfl) dX8_putBytes_40 (fun H locs hP hD hS => ?_)
  have hP : va_P (dC, dI) vwCl [((a 0), .inr (8, [.ref (a 6), .int 11, .ref (a 4), .ref (a 1), .ref (a 5), .ref (a 2), .ref (a 10), .int 0, .ref (a 11), .ref (a 12), .int 0, .ref (a 13), .ref (a 14), .ref (a 3), .ref (a 15), .ref (a 16)])), ((a 6), .inl ((k 0), 900, .inl (upd (upd (upd f (8 : Int32).toNatClampNeg ((p0 >>> (24 &&& 31)) &&& 255)) (9 : Int32).toNatClampNeg ((p0 >>> (16 &&& 31)) &&& 255)) (10 : Int32).toNatClampNeg ((p0 >>> (8 &&& 31)) &&& 255))))] H := hP
  have hD : va_D A [((a 0), .inr (8, [.ref (a 6), .int 11, .ref (a 4), .ref (a 1), .ref (a 5), .ref (a 2), .ref (a 10), .int 0, .ref (a 11), .ref (a 12), .int 0, .ref (a 13), .ref (a 14), .ref (a 3), .ref (a 15), .ref (a 16)])), ((a 6), .inl ((k 0), 900, .inl (upd (upd (upd f (8 : Int32).toNatClampNeg ((p0 >>> (24 &&& 31)) &&& 255)) (9 : Int32).toNatClampNeg ((p0 >>> (16 &&& 31)) &&& 255)) (10 : Int32).toNatClampNeg ((p0 >>> (8 &&& 31)) &&& 255))))] := hD
  refine lv_iinc (v := 0) (lv' := [(2, .int 0), (0, .ref (a 0)), (1, .int p0)]) hx hb dX8_putBytes_43 hl (k := 0) rfl (by decide) (by decide) rfl (fun ls hl => ?_)
  refine lv_goto (tgt := 3) hx hb dX8_putBytes_46 (by decide) ?_
  refine lv_iload_n hx hb dX8_putBytes_3 rfl (lv_at hl 0 rfl) ?_
  refine lv_if_lt (tgt := 49) hx hb dX8_putBytes_4 (by decide) (fun z => absurd z (by decide)) (fun _ => ?_)
  refine lv_aload_n hx hb dX8_putBytes_7 rfl (lv_at hl 1 rfl) ?_
  refine va_get (D := (dC, dI)) (ci := 8) (v := .int 11) (C := RX8) (T := TX8) (N := 16) hx hb hts hiX8 hown hK hP 0 rfl rfl 1 (by decide) v_1 (fun _ h9 => h9) rfl dX8_putBytes_8 ?_
  refine lv_sipush (v := 900) hx hb dX8_putBytes_11 (by decide) ?_
  refine lv_icmp_ge (tgt := 49) hx hb dX8_putBytes_14 (by decide) (fun z => absurd z (by decide)) (fun _ => ?_)
  refine lv_aload_n hx hb dX8_putBytes_17 rfl (lv_at hl 1 rfl) ?_
  refine va_get (D := (dC, dI)) (ci := 8) (v := .ref (a 6)) (C := RX8) (T := TX8) (N := 16) hx hb hts hiX8 hown hK hP 0 rfl rfl 0 (by decide) v_2 (fun _ h9 => h9) rfl dX8_putBytes_18 ?_
  refine lv_aload_n hx hb dX8_putBytes_21 rfl (lv_at hl 1 rfl) ?_
  refine va_get (D := (dC, dI)) (ci := 8) (v := .int 11) (C := RX8) (T := TX8) (N := 16) hx hb hts hiX8 hown hK hP 0 rfl rfl 1 (by decide) v_1 (fun _ h9 => h9) rfl dX8_putBytes_22 ?_
  refine lv_iload_n hx hb dX8_putBytes_25 rfl (lv_at hl 2 rfl) ?_
  refine lv_iload_n hx hb dX8_putBytes_26 rfl (lv_at hl 0 rfl) ?_
  refine lv_ishr hx hb dX8_putBytes_27 ?_
  refine lv_sipush (v := 255) hx hb dX8_putBytes_28 (by decide) ?_
  refine lv_iand hx hb dX8_putBytes_31 ?_
  refine va_iast hx hb hK hP hD hS 1 0 rfl rfl (show ¬ (_ ∨ _) by decide) dX8_putBytes_32 (fun H locs hP hD hS => ?_)
  have hP : va_P (dC, dI) vwCl [((a 0), .inr (8, [.ref (a 6), .int 11, .ref (a 4), .ref (a 1), .ref (a 5), .ref (a 2), .ref (a 10), .int 0, .ref (a 11), .ref (a 12), .int 0, .ref (a 13), .ref (a 14), .ref (a 3), .ref (a 15), .ref (a 16)])), ((a 6), .inl ((k 0), 900, .inl (upd (upd (upd (upd f (8 : Int32).toNatClampNeg ((p0 >>> (24 &&& 31)) &&& 255)) (9 : Int32).toNatClampNeg ((p0 >>> (16 &&& 31)) &&& 255)) (10 : Int32).toNatClampNeg ((p0 >>> (8 &&& 31)) &&& 255)) (11 : Int32).toNatClampNeg ((p0 >>> (0 &&& 31)) &&& 255))))] H := hP
  have hD : va_D A [((a 0), .inr (8, [.ref (a 6), .int 11, .ref (a 4), .ref (a 1), .ref (a 5), .ref (a 2), .ref (a 10), .int 0, .ref (a 11), .ref (a 12), .int 0, .ref (a 13), .ref (a 14), .ref (a 3), .ref (a 15), .ref (a 16)])), ((a 6), .inl ((k 0), 900, .inl (upd (upd (upd (upd f (8 : Int32).toNatClampNeg ((p0 >>> (24 &&& 31)) &&& 255)) (9 : Int32).toNatClampNeg ((p0 >>> (16 &&& 31)) &&& 255)) (10 : Int32).toNatClampNeg ((p0 >>> (8 &&& 31)) &&& 255)) (11 : Int32).toNatClampNeg ((p0 >>> (0 &&& 31)) &&& 255))))] := hD
  refine lv_aload_n hx hb dX8_putBytes_33 rfl (lv_at hl 1 rfl) ?_
  refine lv_dup hx hb dX8_putBytes_34 rfl ?_
  refine va_get (D := (dC, dI)) (ci := 8) (v := .int 11) (C := RX8) (T := TX8) (N := 16) hx hb hts hiX8 hown hK hP 0 rfl rfl 1 (by decide) v_1 (fun _ h9 => h9) rfl dX8_putBytes_35 ?_
  refine lv_iconst (v := 1) hx hb dX8_putBytes_38 (by decide) ?_
  refine lv_iadd hx hb dX8_putBytes_39 ?_
  refine lv_topi (fun y_4 ey_4 => ?_)
  obtain rfl : y_4 = 12 := ey_4.trans (by decide)
  refine va_put (D := (dC, dI)) (ci := 8) (v := .int 12) (ty := .int) (C := RX8) (T := TX8) (N := 16) hx hb hts hiX8 tyX8 tyX8_ok nmX8 hown hK hP hD hS 0 rfl rfl 1 (by decide) v_1 (fun _ h9 => h9) rfl (by decide +kernel) rfl rfl (Nat.le_of_ble_eq_true rfl) dX8_putBytes_40 (fun H locs hP hD hS => ?_)
  have hP : va_P (dC, dI) vwCl [((a 0), .inr (8, [.ref (a 6), .int 12, .ref (a 4), .ref (a 1), .ref (a 5), .ref (a 2), .ref (a 10), .int 0, .ref (a 11), .ref (a 12), .int 0, .ref (a 13), .ref (a 14), .ref (a 3), .ref (a 15), .ref (a 16)])), ((a 6), .inl ((k 0), 900, .inl (upd (upd (upd (upd f (8 : Int32).toNatClampNeg ((p0 >>> (24 &&& 31)) &&& 255)) (9 : Int32).toNatClampNeg ((p0 >>> (16 &&& 31)) &&& 255)) (10 : Int32).toNatClampNeg ((p0 >>> (8 &&& 31)) &&& 255)) (11 : Int32).toNatClampNeg ((p0 >>> (0 &&& 31)) &&& 255))))] H := hP
  have hD : va_D A [((a 0), .inr (8, [.ref (a 6), .int 12, .ref (a 4), .ref (a 1), .ref (a 5), .ref (a 2), .ref (a 10), .int 0, .ref (a 11), .ref (a 12), .int 0, .ref (a 13), .ref (a 14), .ref (a 3), .ref (a 15), .ref (a 16)])), ((a 6), .inl ((k 0), 900, .inl (upd (upd (upd (upd f (8 : Int32).toNatClampNeg ((p0 >>> (24 &&& 31)) &&& 255)) (9 : Int32).toNatClampNeg ((p0 >>> (16 &&& 31)) &&& 255)) (10 : Int32).toNatClampNeg ((p0 >>> (8 &&& 31)) &&& 255)) (11 : Int32).toNatClampNeg ((p0 >>> (0 &&& 31)) &&& 255))))] := hD
  refine lv_iinc (v := (-8)) (lv' := [(2, .int (-8)), (0, .ref (a 0)), (1, .int p0)]) hx hb dX8_putBytes_43 hl (k := 0) rfl (by decide) (by decide) rfl (fun ls hl => ?_)
  refine lv_goto (tgt := 3) hx hb dX8_putBytes_46 (by decide) ?_
  refine lv_iload_n hx hb dX8_putBytes_3 rfl (lv_at hl 0 rfl) ?_
  refine lv_if_lt (tgt := 49) hx hb dX8_putBytes_4 (by decide) (fun _ => ?_) (fun z => absurd z (by decide))
  have hP9 := hP.sub (ws' := [((a 0), .inr (8, [.ref (a 6), .int 12, .ref (a 4), .ref (a 1), .ref (a 5), .ref (a 2), .ref (a 10), .int 0, .ref (a 11), .ref (a 12), .int 0, .ref (a 13), .ref (a 14), .ref (a 3), .ref (a 15), .ref (a 16)])), ((a 6), .inl ((k 0), 900, .inl (upd (upd (upd (upd f (8 : Int32).toNatClampNeg ((p0 >>> (24 &&& 31)) &&& 255)) (9 : Int32).toNatClampNeg ((p0 >>> (16 &&& 31)) &&& 255)) (10 : Int32).toNatClampNeg ((p0 >>> (8 &&& 31)) &&& 255)) (11 : Int32).toNatClampNeg ((p0 >>> (0 &&& 31)) &&& 255))))]) [0, 1] rfl
  have hD9 := hD.sub (ws' := [((a 0), .inr (8, [.ref (a 6), .int 12, .ref (a 4), .ref (a 1), .ref (a 5), .ref (a 2), .ref (a 10), .int 0, .ref (a 11), .ref (a 12), .int 0, .ref (a 13), .ref (a 14), .ref (a 3), .ref (a 15), .ref (a 16)])), ((a 6), .inl ((k 0), 900, .inl (upd (upd (upd (upd f (8 : Int32).toNatClampNeg ((p0 >>> (24 &&& 31)) &&& 255)) (9 : Int32).toNatClampNeg ((p0 >>> (16 &&& 31)) &&& 255)) (10 : Int32).toNatClampNeg ((p0 >>> (8 &&& 31)) &&& 255)) (11 : Int32).toNatClampNeg ((p0 >>> (0 &&& 31)) &&& 255))))]) [0, 1] (by decide) rfl
  have hK9 := hK.sub (tys' := [(k 0, .int)]) [0] rfl
  exact W.vret hx hb hr (fun t ht hW => ⟨⟨(), rfl, trivial, ⟨upd (upd (upd (upd f (8 : Int32).toNatClampNeg ((p0 >>> (24 &&& 31)) &&& 255)) (9 : Int32).toNatClampNeg ((p0 >>> (16 &&& 31)) &&& 255)) (10 : Int32).toNatClampNeg ((p0 >>> (8 &&& 31)) &&& 255)) (11 : Int32).toNatClampNeg ((p0 >>> (0 &&& 31)) &&& 255), by rw [ht]; exact hP9, va_K.moved hW.alike hK9, hD9⟩⟩, hS.F ht⟩) hS.2.2 dX8_putBytes_49
def vs_X9_four_8 : List Cond := .code yX9_four cX9_four 3 none :: ([.fieldLink RX9 55 "ClockReachModel" "tape" "[I", .fieldLink RX9 145 "ClockReachModel" "taped" "I"] ++ wsX90)
set_option maxHeartbeats 4000000 in
set_option maxRecDepth 100000 in
theorem c_X9_four_8 (l : Launch) (dC : Nat → ClassId) (dI : Nat → Nat → Nat) (sz : Nat) (b : Nat → Nat) (j : Nat → ClassId) (f : Nat → Int32) (p0 : Int32) : Met l yX9_four vs_X9_four_8 ({ frames := 0, cells := 0, slots := 0, locals := 0 }) (va_Pc [.ref (b 0), .int p0] (pu_B (dC, dI) [((b 0), .inr (9, [.int 0, .ref (b 10), .ref (b 11), .ref (b 12), .ref (b 13), .ref (b 14), .ref (b 15), .ref (b 16), .ref (b 17), .ref (b 18), .ref (b 19), .ref (b 20), .ref (b 1), .ref (b 2), .ref (b 3), .ref (b 4), .int 0, .ref (b 5), .int 8, .int 0, .int 0, .int 0, .int 0, .int 0, .int 0, .int (-1), .int 0, .int 0, .int 0, .int 0, .int 0, .ref (b 21), .ref (b 22), .int 0, .ref (b 23), .ref (b 24), .ref (b 25), .ref (b 26), .ref (b 27), .ref (b 28), .ref (b 29), .ref (b 30), .ref (b 31), .ref (b 32), .ref (b 33), .int 0, .int 0, .ref (b 34), .ref (b 35), .ref (b 36), .ref (b 37), .ref (b 38), .int 0, .int 0, .ref (b 39), .ref (b 40), .ref (b 41), .ref (b 42), .ref (b 43), .ref (b 44), .ref (b 45), .int 0, .int 0, .int 0, .ref (b 46), .int 0, .int 0])), ((b 5), .inl ((j 5), 900, .inl f))] [(j 5, .int)] sz)) (va_Qv (fun (_ : Unit) => True) (fun _ t => ∃ (g : Nat → Int32), pu_E (dC, dI) [((b 0), .inr (9, [.int 0, .ref (b 10), .ref (b 11), .ref (b 12), .ref (b 13), .ref (b 14), .ref (b 15), .ref (b 16), .ref (b 17), .ref (b 18), .ref (b 19), .ref (b 20), .ref (b 1), .ref (b 2), .ref (b 3), .ref (b 4), .int 0, .ref (b 5), .int 12, .int 0, .int 0, .int 0, .int 0, .int 0, .int 0, .int (-1), .int 0, .int 0, .int 0, .int 0, .int 0, .ref (b 21), .ref (b 22), .int 0, .ref (b 23), .ref (b 24), .ref (b 25), .ref (b 26), .ref (b 27), .ref (b 28), .ref (b 29), .ref (b 30), .ref (b 31), .ref (b 32), .ref (b 33), .int 0, .int 0, .ref (b 34), .ref (b 35), .ref (b 36), .ref (b 37), .ref (b 38), .int 0, .int 0, .ref (b 39), .ref (b 40), .ref (b 41), .ref (b 42), .ref (b 43), .ref (b 44), .ref (b 45), .int 0, .int 0, .int 0, .ref (b 46), .int 0, .int 0])), ((b 5), .inl ((j 5), 900, .inl g))] [(j 5, .int)] (va_A ([((b 0), .inr (9, [.int 0, .ref (b 10), .ref (b 11), .ref (b 12), .ref (b 13), .ref (b 14), .ref (b 15), .ref (b 16), .ref (b 17), .ref (b 18), .ref (b 19), .ref (b 20), .ref (b 1), .ref (b 2), .ref (b 3), .ref (b 4), .int 0, .ref (b 5), .int 8, .int 0, .int 0, .int 0, .int 0, .int 0, .int 0, .int (-1), .int 0, .int 0, .int 0, .int 0, .int 0, .ref (b 21), .ref (b 22), .int 0, .ref (b 23), .ref (b 24), .ref (b 25), .ref (b 26), .ref (b 27), .ref (b 28), .ref (b 29), .ref (b 30), .ref (b 31), .ref (b 32), .ref (b 33), .int 0, .int 0, .ref (b 34), .ref (b 35), .ref (b 36), .ref (b 37), .ref (b 38), .int 0, .int 0, .ref (b 39), .ref (b 40), .ref (b 41), .ref (b 42), .ref (b 43), .ref (b 44), .ref (b 45), .int 0, .int 0, .int 0, .ref (b 46), .int 0, .int 0])), ((b 5), .inl ((j 5), 900, .inl f))]) sz) t) (va_A ([((b 0), .inr (9, [.int 0, .ref (b 10), .ref (b 11), .ref (b 12), .ref (b 13), .ref (b 14), .ref (b 15), .ref (b 16), .ref (b 17), .ref (b 18), .ref (b 19), .ref (b 20), .ref (b 1), .ref (b 2), .ref (b 3), .ref (b 4), .int 0, .ref (b 5), .int 8, .int 0, .int 0, .int 0, .int 0, .int 0, .int 0, .int (-1), .int 0, .int 0, .int 0, .int 0, .int 0, .ref (b 21), .ref (b 22), .int 0, .ref (b 23), .ref (b 24), .ref (b 25), .ref (b 26), .ref (b 27), .ref (b 28), .ref (b 29), .ref (b 30), .ref (b 31), .ref (b 32), .ref (b 33), .int 0, .int 0, .ref (b 34), .ref (b 35), .ref (b 36), .ref (b 37), .ref (b 38), .int 0, .int 0, .ref (b 39), .ref (b 40), .ref (b 41), .ref (b 42), .ref (b 43), .ref (b 44), .ref (b 45), .int 0, .int 0, .int 0, .ref (b 46), .int 0, .int 0])), ((b 5), .inl ((j 5), 900, .inl f))]) sz)) 0 0 (va_A ([((b 0), .inr (9, [.int 0, .ref (b 10), .ref (b 11), .ref (b 12), .ref (b 13), .ref (b 14), .ref (b 15), .ref (b 16), .ref (b 17), .ref (b 18), .ref (b 19), .ref (b 20), .ref (b 1), .ref (b 2), .ref (b 3), .ref (b 4), .int 0, .ref (b 5), .int 8, .int 0, .int 0, .int 0, .int 0, .int 0, .int 0, .int (-1), .int 0, .int 0, .int 0, .int 0, .int 0, .ref (b 21), .ref (b 22), .int 0, .ref (b 23), .ref (b 24), .ref (b 25), .ref (b 26), .ref (b 27), .ref (b 28), .ref (b 29), .ref (b 30), .ref (b 31), .ref (b 32), .ref (b 33), .int 0, .int 0, .ref (b 34), .ref (b 35), .ref (b 36), .ref (b 37), .ref (b 38), .int 0, .int 0, .ref (b 39), .ref (b 40), .ref (b 41), .ref (b 42), .ref (b 43), .ref (b 44), .ref (b 45), .int 0, .int 0, .int 0, .ref (b 46), .int 0, .int 0])), ((b 5), .inl ((j 5), 900, .inl f))]) sz) := by
  refine Met.ofW (cc := cX9_four) (maxL := 3) (ret := none) (by decide) rfl ?_
  intro p e s m args below meth c s₁ B hml hv
  obtain ⟨rfl, rfl, hP, hK, hD0⟩ := hv
  have hx := B.exec
  have hb := B.bytes
  have hr := B.returns
  have hts := atoms_spec (ws := vs_X9_four_8) B.pre
  have v_1 := hts (.fieldLink RX9 55 "ClockReachModel" "tape" "[I") (List.mem_of_getElem? (i := 1) rfl)
  have v_2 := hts (.fieldLink RX9 145 "ClockReachModel" "taped" "I") (List.mem_of_getElem? (i := 2) rfl)
  have hown : s.vm.findClass RX9 = some m.cls := findClass_of_methodNamed B.named
  have hlocks := B.notSynchronized
  have hiX9 : ∀ w ∈ wsX90, w ∈ vs_X9_four_8 := fun _ h => List.mem_cons_of_mem _ (List.mem_append_right _ h)
  have hD := hD0.self (sz := s.heap.size)
  generalize hAe : va_A ([((b 0), .inr (9, [.int 0, .ref (b 10), .ref (b 11), .ref (b 12), .ref (b 13), .ref (b 14), .ref (b 15), .ref (b 16), .ref (b 17), .ref (b 18), .ref (b 19), .ref (b 20), .ref (b 1), .ref (b 2), .ref (b 3), .ref (b 4), .int 0, .ref (b 5), .int 8, .int 0, .int 0, .int 0, .int 0, .int 0, .int 0, .int (-1), .int 0, .int 0, .int 0, .int 0, .int 0, .ref (b 21), .ref (b 22), .int 0, .ref (b 23), .ref (b 24), .ref (b 25), .ref (b 26), .ref (b 27), .ref (b 28), .ref (b 29), .ref (b 30), .ref (b 31), .ref (b 32), .ref (b 33), .int 0, .int 0, .ref (b 34), .ref (b 35), .ref (b 36), .ref (b 37), .ref (b 38), .int 0, .int 0, .ref (b 39), .ref (b 40), .ref (b 41), .ref (b 42), .ref (b 43), .ref (b 44), .ref (b 45), .int 0, .int 0, .int 0, .ref (b 46), .int 0, .int 0])), ((b 5), .inl ((j 5), 900, .inl f))]) s.heap.size = A at hD ⊢
  have hA : ∀ q : Nat, s.heap.size ≤ q → A q := fun q h => by rw [← hAe]; exact Or.inr h
  have hS : va_S A s.heap s.heap [] := va_S.rf
  have hl := lv_entry ([.ref (b 0), .int p0]) (n := 3) (Nat.le_of_ble_eq_true rfl)
  rw [lg_entry_eq]
  generalize (lg_sl ([.ref (b 0), .int p0]) ++ List.replicate (3 - (lg_sl ([.ref (b 0), .int p0])).length) Slot.unset).toArray = ls at hl ⊢
  have hl : lv_has ls 3 [(0, .ref (b 0)), (1, .int p0)] := hl
  refine lv_bipush (v := 24) hx hb dX9_four_0 (by decide) ?_
  refine lv_istore_n (lv' := [(2, .int 24), (0, .ref (b 0)), (1, .int p0)]) hx hb dX9_four_2 rfl hl (by decide) rfl (fun ls hl => ?_)
  refine lv_iload_n hx hb dX9_four_3 rfl (lv_at hl 0 rfl) ?_
  refine lv_if_lt (tgt := 39) hx hb dX9_four_4 (by decide) (fun z => absurd z (by decide)) (fun _ => ?_)
  refine lv_aload_n hx hb dX9_four_7 rfl (lv_at hl 1 rfl) ?_
  refine va_get (D := (dC, dI)) (ci := 9) (v := .ref (b 5)) (C := RX9) (T := TX9) (N := 67) hx hb hts hiX9 hown hK hP 0 rfl rfl 17 (by decide) v_1 (fun _ h9 => h9) rfl dX9_four_8 ?_
  refine lv_aload_n hx hb dX9_four_11 rfl (lv_at hl 1 rfl) ?_
  refine va_get (D := (dC, dI)) (ci := 9) (v := .int 8) (C := RX9) (T := TX9) (N := 67) hx hb hts hiX9 hown hK hP 0 rfl rfl 18 (by decide) v_2 (fun _ h9 => h9) rfl dX9_four_12 ?_
  refine lv_iload_n hx hb dX9_four_15 rfl (lv_at hl 2 rfl) ?_
  refine lv_iload_n hx hb dX9_four_16 rfl (lv_at hl 0 rfl) ?_
  refine lv_ishr hx hb dX9_four_17 ?_
  refine lv_sipush (v := 255) hx hb dX9_four_18 (by decide) ?_
  refine lv_iand hx hb dX9_four_21 ?_
  refine va_iast hx hb hK hP hD hS 1 0 rfl rfl (show ¬ (_ ∨ _) by decide) dX9_four_22 (fun H locs hP hD hS => ?_)
  have hP : va_P (dC, dI) vwCl [((b 0), .inr (9, [.int 0, .ref (b 10), .ref (b 11), .ref (b 12), .ref (b 13), .ref (b 14), .ref (b 15), .ref (b 16), .ref (b 17), .ref (b 18), .ref (b 19), .ref (b 20), .ref (b 1), .ref (b 2), .ref (b 3), .ref (b 4), .int 0, .ref (b 5), .int 8, .int 0, .int 0, .int 0, .int 0, .int 0, .int 0, .int (-1), .int 0, .int 0, .int 0, .int 0, .int 0, .ref (b 21), .ref (b 22), .int 0, .ref (b 23), .ref (b 24), .ref (b 25), .ref (b 26), .ref (b 27), .ref (b 28), .ref (b 29), .ref (b 30), .ref (b 31), .ref (b 32), .ref (b 33), .int 0, .int 0, .ref (b 34), .ref (b 35), .ref (b 36), .ref (b 37), .ref (b 38), .int 0, .int 0, .ref (b 39), .ref (b 40), .ref (b 41), .ref (b 42), .ref (b 43), .ref (b 44), .ref (b 45), .int 0, .int 0, .int 0, .ref (b 46), .int 0, .int 0])), ((b 5), .inl ((j 5), 900, .inl (upd f (8 : Int32).toNatClampNeg ((p0 >>> (24 &&& 31)) &&& 255))))] H := hP
  have hD : va_D A [((b 0), .inr (9, [.int 0, .ref (b 10), .ref (b 11), .ref (b 12), .ref (b 13), .ref (b 14), .ref (b 15), .ref (b 16), .ref (b 17), .ref (b 18), .ref (b 19), .ref (b 20), .ref (b 1), .ref (b 2), .ref (b 3), .ref (b 4), .int 0, .ref (b 5), .int 8, .int 0, .int 0, .int 0, .int 0, .int 0, .int 0, .int (-1), .int 0, .int 0, .int 0, .int 0, .int 0, .ref (b 21), .ref (b 22), .int 0, .ref (b 23), .ref (b 24), .ref (b 25), .ref (b 26), .ref (b 27), .ref (b 28), .ref (b 29), .ref (b 30), .ref (b 31), .ref (b 32), .ref (b 33), .int 0, .int 0, .ref (b 34), .ref (b 35), .ref (b 36), .ref (b 37), .ref (b 38), .int 0, .int 0, .ref (b 39), .ref (b 40), .ref (b 41), .ref (b 42), .ref (b 43), .ref (b 44), .ref (b 45), .int 0, .int 0, .int 0, .ref (b 46), .int 0, .int 0])), ((b 5), .inl ((j 5), 900, .inl (upd f (8 : Int32).toNatClampNeg ((p0 >>> (24 &&& 31)) &&& 255))))] := hD
  refine lv_aload_n hx hb dX9_four_23 rfl (lv_at hl 1 rfl) ?_
  refine lv_dup hx hb dX9_four_24 rfl ?_
  refine va_get (D := (dC, dI)) (ci := 9) (v := .int 8) (C := RX9) (T := TX9) (N := 67) hx hb hts hiX9 hown hK hP 0 rfl rfl 18 (by decide) v_2 (fun _ h9 => h9) rfl dX9_four_25 ?_
  refine lv_iconst (v := 1) hx hb dX9_four_28 (by decide) ?_
  refine lv_iadd hx hb dX9_four_29 ?_
  refine lv_topi (fun y_1 ey_1 => ?_)
  obtain rfl : y_1 = 9 := ey_1.trans (by decide)
  refine va_put (D := (dC, dI)) (ci := 9) (v := .int 9) (ty := .int) (C := RX9) (T := TX9) (N := 67) hx hb hts hiX9 tyX9 tyX9_ok nmX9 hown hK hP hD hS 0 rfl rfl 18 (by decide) v_2 (fun _ h9 => h9) rfl (by decide +kernel) rfl rfl (Nat.le_of_ble_eq_true rfl) dX9_four_30 (fun H locs hP hD hS => ?_)
  have hP : va_P (dC, dI) vwCl [((b 0), .inr (9, [.int 0, .ref (b 10), .ref (b 11), .ref (b 12), .ref (b 13), .ref (b 14), .ref (b 15), .ref (b 16), .ref (b 17), .ref (b 18), .ref (b 19), .ref (b 20), .ref (b 1), .ref (b 2), .ref (b 3), .ref (b 4), .int 0, .ref (b 5), .int 9, .int 0, .int 0, .int 0, .int 0, .int 0, .int 0, .int (-1), .int 0, .int 0, .int 0, .int 0, .int 0, .ref (b 21), .ref (b 22), .int 0, .ref (b 23), .ref (b 24), .ref (b 25), .ref (b 26), .ref (b 27), .ref (b 28), .ref (b 29), .ref (b 30), .ref (b 31), .ref (b 32), .ref (b 33), .int 0, .int 0, .ref (b 34), .ref (b 35), .ref (b 36), .ref (b 37), .ref (b 38), .int 0, .int 0, .ref (b 39), .ref (b 40), .ref (b 41), .ref (b 42), .ref (b 43), .ref (b 44), .ref (b 45), .int 0, .int 0, .int 0, .ref (b 46), .int 0, .int 0])), ((b 5), .inl ((j 5), 900, .inl (upd f (8 : Int32).toNatClampNeg ((p0 >>> (24 &&& 31)) &&& 255))))] H := hP
  have hD : va_D A [((b 0), .inr (9, [.int 0, .ref (b 10), .ref (b 11), .ref (b 12), .ref (b 13), .ref (b 14), .ref (b 15), .ref (b 16), .ref (b 17), .ref (b 18), .ref (b 19), .ref (b 20), .ref (b 1), .ref (b 2), .ref (b 3), .ref (b 4), .int 0, .ref (b 5), .int 9, .int 0, .int 0, .int 0, .int 0, .int 0, .int 0, .int (-1), .int 0, .int 0, .int 0, .int 0, .int 0, .ref (b 21), .ref (b 22), .int 0, .ref (b 23), .ref (b 24), .ref (b 25), .ref (b 26), .ref (b 27), .ref (b 28), .ref (b 29), .ref (b 30), .ref (b 31), .ref (b 32), .ref (b 33), .int 0, .int 0, .ref (b 34), .ref (b 35), .ref (b 36), .ref (b 37), .ref (b 38), .int 0, .int 0, .ref (b 39), .ref (b 40), .ref (b 41), .ref (b 42), .ref (b 43), .ref (b 44), .ref (b 45), .int 0, .int 0, .int 0, .ref (b 46), .int 0, .int 0])), ((b 5), .inl ((j 5), 900, .inl (upd f (8 : Int32).toNatClampNeg ((p0 >>> (24 &&& 31)) &&& 255))))] := hD
  refine lv_iinc (v := 16) (lv' := [(2, .int 16), (0, .ref (b 0)), (1, .int p0)]) hx hb dX9_four_33 hl (k := 0) rfl (by decide) (by decide) rfl (fun ls hl => ?_)
  refine lv_goto (tgt := 3) hx hb dX9_four_36 (by decide) ?_
  refine lv_iload_n hx hb dX9_four_3 rfl (lv_at hl 0 rfl) ?_
  refine lv_if_lt (tgt := 39) hx hb dX9_four_4 (by decide) (fun z => absurd z (by decide)) (fun _ => ?_)
  refine lv_aload_n hx hb dX9_four_7 rfl (lv_at hl 1 rfl) ?_
  refine va_get (D := (dC, dI)) (ci := 9) (v := .ref (b 5)) (C := RX9) (T := TX9) (N := 67) hx hb hts hiX9 hown hK hP 0 rfl rfl 17 (by decide) v_1 (fun _ h9 => h9) rfl dX9_four_8 ?_
  refine lv_aload_n hx hb dX9_four_11 rfl (lv_at hl 1 rfl) ?_
  refine va_get (D := (dC, dI)) (ci := 9) (v := .int 9) (C := RX9) (T := TX9) (N := 67) hx hb hts hiX9 hown hK hP 0 rfl rfl 18 (by decide) v_2 (fun _ h9 => h9) rfl dX9_four_12 ?_
  refine lv_iload_n hx hb dX9_four_15 rfl (lv_at hl 2 rfl) ?_
  refine lv_iload_n hx hb dX9_four_16 rfl (lv_at hl 0 rfl) ?_
  refine lv_ishr hx hb dX9_four_17 ?_
  refine lv_sipush (v := 255) hx hb dX9_four_18 (by decide) ?_
  refine lv_iand hx hb dX9_four_21 ?_
  refine va_iast hx hb hK hP hD hS 1 0 rfl rfl (show ¬ (_ ∨ _) by decide) dX9_four_22 (fun H locs hP hD hS => ?_)
  have hP : va_P (dC, dI) vwCl [((b 0), .inr (9, [.int 0, .ref (b 10), .ref (b 11), .ref (b 12), .ref (b 13), .ref (b 14), .ref (b 15), .ref (b 16), .ref (b 17), .ref (b 18), .ref (b 19), .ref (b 20), .ref (b 1), .ref (b 2), .ref (b 3), .ref (b 4), .int 0, .ref (b 5), .int 9, .int 0, .int 0, .int 0, .int 0, .int 0, .int 0, .int (-1), .int 0, .int 0, .int 0, .int 0, .int 0, .ref (b 21), .ref (b 22), .int 0, .ref (b 23), .ref (b 24), .ref (b 25), .ref (b 26), .ref (b 27), .ref (b 28), .ref (b 29), .ref (b 30), .ref (b 31), .ref (b 32), .ref (b 33), .int 0, .int 0, .ref (b 34), .ref (b 35), .ref (b 36), .ref (b 37), .ref (b 38), .int 0, .int 0, .ref (b 39), .ref (b 40), .ref (b 41), .ref (b 42), .ref (b 43), .ref (b 44), .ref (b 45), .int 0, .int 0, .int 0, .ref (b 46), .int 0, .int 0])), ((b 5), .inl ((j 5), 900, .inl (upd (upd f (8 : Int32).toNatClampNeg ((p0 >>> (24 &&& 31)) &&& 255)) (9 : Int32).toNatClampNeg ((p0 >>> (16 &&& 31)) &&& 255))))] H := hP
  have hD : va_D A [((b 0), .inr (9, [.int 0, .ref (b 10), .ref (b 11), .ref (b 12), .ref (b 13), .ref (b 14), .ref (b 15), .ref (b 16), .ref (b 17), .ref (b 18), .ref (b 19), .ref (b 20), .ref (b 1), .ref (b 2), .ref (b 3), .ref (b 4), .int 0, .ref (b 5), .int 9, .int 0, .int 0, .int 0, .int 0, .int 0, .int 0, .int (-1), .int 0, .int 0, .int 0, .int 0, .int 0, .ref (b 21), .ref (b 22), .int 0, .ref (b 23), .ref (b 24), .ref (b 25), .ref (b 26), .ref (b 27), .ref (b 28), .ref (b 29), .ref (b 30), .ref (b 31), .ref (b 32), .ref (b 33), .int 0, .int 0, .ref (b 34), .ref (b 35), .ref (b 36), .ref (b 37), .ref (b 38), .int 0, .int 0, .ref (b 39), .ref (b 40), .ref (b 41), .ref (b 42), .ref (b 43), .ref (b 44), .ref (b 45), .int 0, .int 0, .int 0, .ref (b 46), .int 0, .int 0])), ((b 5), .inl ((j 5), 900, .inl (upd (upd f (8 : Int32).toNatClampNeg ((p0 >>> (24 &&& 31)) &&& 255)) (9 : Int32).toNatClampNeg ((p0 >>> (16 &&& 31)) &&& 255))))] := hD
  refine lv_aload_n hx hb dX9_four_23 rfl (lv_at hl 1 rfl) ?_
  refine lv_dup hx hb dX9_four_24 rfl ?_
  refine va_get (D := (dC, dI)) (ci := 9) (v := .int 9) (C := RX9) (T := TX9) (N := 67) hx hb hts hiX9 hown hK hP 0 rfl rfl 18 (by decide) v_2 (fun _ h9 => h9) rfl dX9_four_25 ?_
  refine lv_iconst (v := 1) hx hb dX9_four_28 (by decide) ?_
  refine lv_iadd hx hb dX9_four_29 ?_
  refine lv_topi (fun y_2 ey_2 => ?_)
  obtain rfl : y_2 = 10 := ey_2.trans (by decide)
  refine va_put (D := (dC, dI)) (ci := 9) (v := .int 10) (ty := .int) (C := RX9) (T := TX9) (N := 67) hx hb hts hiX9 tyX9 tyX9_ok nmX9 hown hK hP hD hS 0 rfl rfl 18 (by decide) v_2 (fun _ h9 => h9) rfl (by decide +kernel) rfl rfl (Nat.le_of_ble_eq_true rfl) dX9_four_30 (fun H locs hP hD hS => ?_)
  have hP : va_P (dC, dI) vwCl [((b 0), .inr (9, [.int 0, .ref (b 10), .ref (b 11), .ref (b 12), .ref (b 13), .ref (b 14), .ref (b 15), .ref (b 16), .ref (b 17), .ref (b 18), .ref (b 19), .ref (b 20), .ref (b 1), .ref (b 2), .ref (b 3), .ref (b 4), .int 0, .ref (b 5), .int 10, .int 0, .int 0, .int 0, .int 0, .int 0, .int 0, .int (-1), .int 0, .int 0, .int 0, .int 0, .int 0, .ref (b 21), .ref (b 22), .int 0, .ref (b 23), .ref (b 24), .ref (b 25), .ref (b 26), .ref (b 27), .ref (b 28), .ref (b 29), .ref (b 30), .ref (b 31), .ref (b 32), .ref (b 33), .int 0, .int 0, .ref (b 34), .ref (b 35), .ref (b 36), .ref (b 37), .ref (b 38), .int 0, .int 0, .ref (b 39), .ref (b 40), .ref (b 41), .ref (b 42), .ref (b 43), .ref (b 44), .ref (b 45), .int 0, .int 0, .int 0, .ref (b 46), .int 0, .int 0])), ((b 5), .inl ((j 5), 900, .inl (upd (upd f (8 : Int32).toNatClampNeg ((p0 >>> (24 &&& 31)) &&& 255)) (9 : Int32).toNatClampNeg ((p0 >>> (16 &&& 31)) &&& 255))))] H := hP
  have hD : va_D A [((b 0), .inr (9, [.int 0, .ref (b 10), .ref (b 11), .ref (b 12), .ref (b 13), .ref (b 14), .ref (b 15), .ref (b 16), .ref (b 17), .ref (b 18), .ref (b 19), .ref (b 20), .ref (b 1), .ref (b 2), .ref (b 3), .ref (b 4), .int 0, .ref (b 5), .int 10, .int 0, .int 0, .int 0, .int 0, .int 0, .int 0, .int (-1), .int 0, .int 0, .int 0, .int 0, .int 0, .ref (b 21), .ref (b 22), .int 0, .ref (b 23), .ref (b 24), .ref (b 25), .ref (b 26), .ref (b 27), .ref (b 28), .ref (b 29), .ref (b 30), .ref (b 31), .ref (b 32), .ref (b 33), .int 0, .int 0, .ref (b 34), .ref (b 35), .ref (b 36), .ref (b 37), .ref (b 38), .int 0, .int 0, .ref (b 39), .ref (b 40), .ref (b 41), .ref (b 42), .ref (b 43), .ref (b 44), .ref (b 45), .int 0, .int 0, .int 0, .ref (b 46), .int 0, .int 0])), ((b 5), .inl ((j 5), 900, .inl (upd (upd f (8 : Int32).toNatClampNeg ((p0 >>> (24 &&& 31)) &&& 255)) (9 : Int32).toNatClampNeg ((p0 >>> (16 &&& 31)) &&& 255))))] := hD
  refine lv_iinc (v := 8) (lv' := [(2, .int 8), (0, .ref (b 0)), (1, .int p0)]) hx hb dX9_four_33 hl (k := 0) rfl (by decide) (by decide) rfl (fun ls hl => ?_)
  refine lv_goto (tgt := 3) hx hb dX9_four_36 (by decide) ?_
  refine lv_iload_n hx hb dX9_four_3 rfl (lv_at hl 0 rfl) ?_
  refine lv_if_lt (tgt := 39) hx hb dX9_four_4 (by decide) (fun z => absurd z (by decide)) (fun _ => ?_)
  refine lv_aload_n hx hb dX9_four_7 rfl (lv_at hl 1 rfl) ?_
  refine va_get (D := (dC, dI)) (ci := 9) (v := .ref (b 5)) (C := RX9) (T := TX9) (N := 67) hx hb hts hiX9 hown hK hP 0 rfl rfl 17 (by decide) v_1 (fun _ h9 => h9) rfl dX9_four_8 ?_
  refine lv_aload_n hx hb dX9_four_11 rfl (lv_at hl 1 rfl) ?_
  refine va_get (D := (dC, dI)) (ci := 9) (v := .int 10) (C := RX9) (T := TX9) (N := 67) hx hb hts hiX9 hown hK hP 0 rfl rfl 18 (by decide) v_2 (fun _ h9 => h9) rfl dX9_four_12 ?_
  refine lv_iload_n hx hb dX9_four_15 rfl (lv_at hl 2 rfl) ?_
  refine lv_iload_n hx hb dX9_four_16 rfl (lv_at hl 0 rfl) ?_
  refine lv_ishr hx hb dX9_four_17 ?_
  refine lv_sipush (v := 255) hx hb dX9_four_18 (by decide) ?_
  refine lv_iand hx hb dX9_four_21 ?_
  refine va_iast hx hb hK hP hD hS 1 0 rfl rfl (show ¬ (_ ∨ _) by decide) dX9_four_22 (fun H locs hP hD hS => ?_)
  have hP : va_P (dC, dI) vwCl [((b 0), .inr (9, [.int 0, .ref (b 10), .ref (b 11), .ref (b 12), .ref (b 13), .ref (b 14), .ref (b 15), .ref (b 16), .ref (b 17), .ref (b 18), .ref (b 19), .ref (b 20), .ref (b 1), .ref (b 2), .ref (b 3), .ref (b 4), .int 0, .ref (b 5), .int 10, .int 0, .int 0, .int 0, .int 0, .int 0, .int 0, .int (-1), .int 0, .int 0, .int 0, .int 0, .int 0, .ref (b 21), .ref (b 22), .int 0, .ref (b 23), .ref (b 24), .ref (b 25), .ref (b 26), .ref (b 27), .ref (b 28), .ref (b 29), .ref (b 30), .ref (b 31), .ref (b 32), .ref (b 33), .int 0, .int 0, .ref (b 34), .ref (b 35), .ref (b 36), .ref (b 37), .ref (b 38), .int 0, .int 0, .ref (b 39), .ref (b 40), .ref (b 41), .ref (b 42), .ref (b 43), .ref (b 44), .ref (b 45), .int 0, .int 0, .int 0, .ref (b 46), .int 0, .int 0])), ((b 5), .inl ((j 5), 900, .inl (upd (upd (upd f (8 : Int32).toNatClampNeg ((p0 >>> (24 &&& 31)) &&& 255)) (9 : Int32).toNatClampNeg ((p0 >>> (16 &&& 31)) &&& 255)) (10 : Int32).toNatClampNeg ((p0 >>> (8 &&& 31)) &&& 255))))] H := hP
  have hD : va_D A [((b 0), .inr (9, [.int 0, .ref (b 10), .ref (b 11), .ref (b 12), .ref (b 13), .ref (b 14), .ref (b 15), .ref (b 16), .ref (b 17), .ref (b 18), .ref (b 19), .ref (b 20), .ref (b 1), .ref (b 2), .ref (b 3), .ref (b 4), .int 0, .ref (b 5), .int 10, .int 0, .int 0, .int 0, .int 0, .int 0, .int 0, .int (-1), .int 0, .int 0, .int 0, .int 0, .int 0, .ref (b 21), .ref (b 22), .int 0, .ref (b 23), .ref (b 24), .ref (b 25), .ref (b 26), .ref (b 27), .ref (b 28), .ref (b 29), .ref (b 30), .ref (b 31), .ref (b 32), .ref (b 33), .int 0, .int 0, .ref (b 34), .ref (b 35), .ref (b 36), .ref (b 37), .ref (b 38), .int 0, .int 0, .ref (b 39), .ref (b 40), .ref (b 41), .ref (b 42), .ref (b 43), .ref (b 44), .ref (b 45), .int 0, .int 0, .int 0, .ref (b 46), .int 0, .int 0])), ((b 5), .inl ((j 5), 900, .inl (upd (upd (upd f (8 : Int32).toNatClampNeg ((p0 >>> (24 &&& 31)) &&& 255)) (9 : Int32).toNatClampNeg ((p0 >>> (16 &&& 31)) &&& 255)) (10 : Int32).toNatClampNeg ((p0 >>> (8 &&& 31)) &&& 255))))] := hD
  refine lv_aload_n hx hb dX9_four_23 rfl (lv_at hl 1 rfl) ?_
  refine lv_dup hx hb dX9_four_24 rfl ?_
  refine va_get (D := (dC, dI)) (ci := 9) (v := .int 10) (C := RX9) (T := TX9) (N := 67) hx hb hts hiX9 hown hK hP 0 rfl rfl 18 (by decide) v_2 (fun _ h9 => h9) rfl dX9_four_25 ?_
  refine lv_iconst (v := 1) hx hb dX9_four_28 (by decide) ?_
  refine lv_iadd hx hb dX9_four_29 ?_
  refine lv_topi (fun y_3 ey_3 => ?_)
  obtain rfl : y_3 = 11 := ey_3.trans (by decide)
  refine va_put (D := (dC, dI)) (ci := 9) (v := .int 11) (ty := .int) (C := RX9) (T := TX9) (N := 67) hx hb hts hiX9 tyX9 tyX9_ok nmX9 hown hK hP hD hS 0 rfl rfl 18 (by decide) v_2 (fun _ h9 => h9) rfl (by decide +kernel) rfl rfl (Nat.le_of_ble_eq_true rfl) dX9_four_30 (fun H locs hP hD hS => ?_)
  have hP : va_P (dC, dI) vwCl [((b 0), .inr (9, [.int 0, .ref (b 10), .ref (b 11), .ref (b 12), .ref (b 13), .ref (b 14), .ref (b 15), .ref (b 16), .ref (b 17), .ref (b 18), .ref (b 19), .ref (b 20), .ref (b 1), .ref (b 2), .ref (b 3), .ref (b 4), .int 0, .ref (b 5), .int 11, .int 0, .int 0, .int 0, .int 0, .int 0, .int 0, .int (-1), .int 0, .int 0, .int 0, .int 0, .int 0, .ref (b 21), .ref (b 22), .int 0, .ref (b 23), .ref (b 24), .ref (b 25), .ref (b 26), .ref (b 27), .ref (b 28), .ref (b 29), .ref (b 30), .ref (b 31), .ref (b 32), .ref (b 33), .int 0, .int 0, .ref (b 34), .ref (b 35), .ref (b 36), .ref (b 37), .ref (b 38), .int 0, .int 0, .ref (b 39), .ref (b 40), .ref (b 41), .ref (b 42), .ref (b 43), .ref (b 44), .ref (b 45), .int 0, .int 0, .int 0, .ref (b 46), .int 0, .int 0])), ((b 5), .inl ((j 5), 900, .inl (upd (upd (upd f (8 : Int32).toNatClampNeg ((p0 >>> (24 &&& 31)) &&& 255)) (9 : Int32).toNatClampNeg ((p0 >>> (16 &&& 31)) &&& 255)) (10 : Int32).toNatClampNeg ((p0 >>> (8 &&& 31)) &&& 255))))] H := hP
  have hD : va_D A [((b 0), .inr (9, [.int 0, .ref (b 10), .ref (b 11), .ref (b 12), .ref (b 13), .ref (b 14), .ref (b 15), .ref (b 16), .ref (b 17), .ref (b 18), .ref (b 19), .ref (b 20), .ref (b 1), .ref (b 2), .ref (b 3), .ref (b 4), .int 0, .ref (b 5), .int 11, .int 0, .int 0, .int 0, .int 0, .int 0, .int 0, .int (-1), .int 0, .int 0, .int 0, .int 0, .int 0, .ref (b 21), .ref (b 22), .int 0, .ref (b 23), .ref (b 24), .ref (b 25), .ref (b 26), .ref (b 27), .ref (b 28), .ref (b 29), .ref (b 30), .ref (b 31), .ref (b 32), .ref (b 33), .int 0, .int 0, .ref (b 34), .ref (b 35), .ref (b 36), .ref (b 37), .ref (b 38), .int 0, .int 0, .ref (b 39), .ref (b 40), .ref (b 41), .ref (b 42), .ref (b 43), .ref (b 44), .ref (b 45), .int 0, .int 0, .int 0, .ref (b 46), .int 0, .int 0])), ((b 5), .inl ((j 5), 900, .inl (upd (upd (upd f (8 : Int32).toNatClampNeg ((p0 >>> (24 &&& 31)) &&& 255)) (9 : Int32).toNatClampNeg ((p0 >>> (16 &&& 31)) &&& 255)) (10 : Int32).toNatClampNeg ((p0 >>> (8 &&& 31)) &&& 255))))] := hD
  refine lv_iinc (v := 0) (lv' := [(2, .int 0), (0, .ref (b 0)), (1, .int p0)]) hx hb dX9_four_33 hl (k := 0) rfl (by decide) (by decide) rfl (fun ls hl => ?_)
  refine lv_goto (tgt := 3) hx hb dX9_four_36 (by decide) ?_
  refine lv_iload_n hx hb dX9_four_3 rfl (lv_at hl 0 rfl) ?_
  refine lv_if_lt (tgt := 39) hx hb dX9_four_4 (by decide) (fun z => absurd z (by decide)) (fun _ => ?_)
  refine lv_aload_n hx hb dX9_four_7 rfl (lv_at hl 1 rfl) ?_
  refine va_get (D := (dC, dI)) (ci := 9) (v := .ref (b 5)) (C := RX9) (T := TX9) (N := 67) hx hb hts hiX9 hown hK hP 0 rfl rfl 17 (by decide) v_1 (fun _ h9 => h9) rfl dX9_four_8 ?_
  refine lv_aload_n hx hb dX9_four_11 rfl (lv_at hl 1 rfl) ?_
  refine va_get (D := (dC, dI)) (ci := 9) (v := .int 11) (C := RX9) (T := TX9) (N := 67) hx hb hts hiX9 hown hK hP 0 rfl rfl 18 (by decide) v_2 (fun _ h9 => h9) rfl dX9_four_12 ?_
  refine lv_iload_n hx hb dX9_four_15 rfl (lv_at hl 2 rfl) ?_
  refine lv_iload_n hx hb dX9_four_16 rfl (lv_at hl 0 rfl) ?_
  refine lv_ishr hx hb dX9_four_17 ?_
  refine lv_sipush (v := 255) hx hb dX9_four_18 (by decide) ?_
  refine lv_iand hx hb dX9_four_21 ?_
  refine va_iast hx hb hK hP hD hS 1 0 rfl rfl (show ¬ (_ ∨ _) by decide) dX9_four_22 (fun H locs hP hD hS => ?_)
  have hP : va_P (dC, dI) vwCl [((b 0), .inr (9, [.int 0, .ref (b 10), .ref (b 11), .ref (b 12), .ref (b 13), .ref (b 14), .ref (b 15), .ref (b 16), .ref (b 17), .ref (b 18), .ref (b 19), .ref (b 20), .ref (b 1), .ref (b 2), .ref (b 3), .ref (b 4), .int 0, .ref (b 5), .int 11, .int 0, .int 0, .int 0, .int 0, .int 0, .int 0, .int (-1), .int 0, .int 0, .int 0, .int 0, .int 0, .ref (b 21), .ref (b 22), .int 0, .ref (b 23), .ref (b 24), .ref (b 25), .ref (b 26), .ref (b 27), .ref (b 28), .ref (b 29), .ref (b 30), .ref (b 31), .ref (b 32), .ref (b 33), .int 0, .int 0, .ref (b 34), .ref (b 35), .ref (b 36), .ref (b 37), .ref (b 38), .int 0, .int 0, .ref (b 39), .ref (b 40), .ref (b 41), .ref (b 42), .ref (b 43), .ref (b 44), .ref (b 45), .int 0, .int 0, .int 0, .ref (b 46), .int 0, .int 0])), ((b 5), .inl ((j 5), 900, .inl (upd (upd (upd (upd f (8 : Int32).toNatClampNeg ((p0 >>> (24 &&& 31)) &&& 255)) (9 : Int32).toNatClampNeg ((p0 >>> (16 &&& 31)) &&& 255)) (10 : Int32).toNatClampNeg ((p0 >>> (8 &&& 31)) &&& 255)) (11 : Int32).toNatClampNeg ((p0 >>> (0 &&& 31)) &&& 255))))] H := hP
  have hD : va_D A [((b 0), .inr (9, [.int 0, .ref (b 10), .ref (b 11), .ref (b 12), .ref (b 13), .ref (b 14), .ref (b 15), .ref (b 16), .ref (b 17), .ref (b 18), .ref (b 19), .ref (b 20), .ref (b 1), .ref (b 2), .ref (b 3), .ref (b 4), .int 0, .ref (b 5), .int 11, .int 0, .int 0, .int 0, .int 0, .int 0, .int 0, .int (-1), .int 0, .int 0, .int 0, .int 0, .int 0, .ref (b 21), .ref (b 22), .int 0, .ref (b 23), .ref (b 24), .ref (b 25), .ref (b 26), .ref (b 27), .ref (b 28), .ref (b 29), .ref (b 30), .ref (b 31), .ref (b 32), .ref (b 33), .int 0, .int 0, .ref (b 34), .ref (b 35), .ref (b 36), .ref (b 37), .ref (b 38), .int 0, .int 0, .ref (b 39), .ref (b 40), .ref (b 41), .ref (b 42), .ref (b 43), .ref (b 44), .ref (b 45), .int 0, .int 0, .int 0, .ref (b 46), .int 0, .int 0])), ((b 5), .inl ((j 5), 900, .inl (upd (upd (upd (upd f (8 : Int32).toNatClampNeg ((p0 >>> (24 &&& 31)) &&& 255)) (9 : Int32).toNatClampNeg ((p0 >>> (16 &&& 31)) &&& 255)) (10 : Int32).toNatClampNeg ((p0 >>> (8 &&& 31)) &&& 255)) (11 : Int32).toNatClampNeg ((p0 >>> (0 &&& 31)) &&& 255))))] := hD
  refine lv_aload_n hx hb dX9_four_23 rfl (lv_at hl 1 rfl) ?_
  refine lv_dup hx hb dX9_four_24 rfl ?_
  refine va_get (D := (dC, dI)) (ci := 9) (v := .int 11) (C := RX9) (T := TX9) (N := 67) hx hb hts hiX9 hown hK hP 0 rfl rfl 18 (by decide) v_2 (fun _ h9 => h9) rfl dX9_four_25 ?_
  refine lv_iconst (v := 1) hx hb dX9_four_28 (by decide) ?_
  refine lv_iadd hx hb dX9_four_29 ?_
  refine lv_topi (fun y_4 ey_4 => ?_)
  obtain rfl : y_4 = 12 := ey_4.trans (by decide)
  refine va_put (D := (dC, dI)) (ci := 9) (v := .int 12) (ty := .int) (C := RX9) (T := TX9) (N := 67) hx hb hts hiX9 tyX9 tyX9_ok nmX9 hown hK hP hD hS 0 rfl rfl 18 (by decide) v_2 (fun _ h9 => h9) rfl (by decide +kernel) rfl rfl (Nat.le_of_ble_eq_true rfl) dX9_four_30 (fun H locs hP hD hS => ?_)
  have hP : va_P (dC, dI) vwCl [((b 0), .inr (9, [.int 0, .ref (b 10), .ref (b 11), .ref (b 12), .ref (b 13), .ref (b 14), .ref (b 15), .ref (b 16), .ref (b 17), .ref (b 18), .ref (b 19), .ref (b 20), .ref (b 1), .ref (b 2), .ref (b 3), .ref (b 4), .int 0, .ref (b 5), .int 12, .int 0, .int 0, .int 0, .int 0, .int 0, .int 0, .int (-1), .int 0, .int 0, .int 0, .int 0, .int 0, .ref (b 21), .ref (b 22), .int 0, .ref (b 23), .ref (b 24), .ref (b 25), .ref (b 26), .ref (b 27), .ref (b 28), .ref (b 29), .ref (b 30), .ref (b 31), .ref (b 32), .ref (b 33), .int 0, .int 0, .ref (b 34), .ref (b 35), .ref (b 36), .ref (b 37), .ref (b 38), .int 0, .int 0, .ref (b 39), .ref (b 40), .ref (b 41), .ref (b 42), .ref (b 43), .ref (b 44), .ref (b 45), .int 0, .int 0, .int 0, .ref (b 46), .int 0, .int 0])), ((b 5), .inl ((j 5), 900, .inl (upd (upd (upd (upd f (8 : Int32).toNatClampNeg ((p0 >>> (24 &&& 31)) &&& 255)) (9 : Int32).toNatClampNeg ((p0 >>> (16 &&& 31)) &&& 255)) (10 : Int32).toNatClampNeg ((p0 >>> (8 &&& 31)) &&& 255)) (11 : Int32).toNatClampNeg ((p0 >>> (0 &&& 31)) &&& 255))))] H := hP
  have hD : va_D A [((b 0), .inr (9, [.int 0, .ref (b 10), .ref (b 11), .ref (b 12), .ref (b 13), .ref (b 14), .ref (b 15), .ref (b 16), .ref (b 17), .ref (b 18), .ref (b 19), .ref (b 20), .ref (b 1), .ref (b 2), .ref (b 3), .ref (b 4), .int 0, .ref (b 5), .int 12, .int 0, .int 0, .int 0, .int 0, .int 0, .int 0, .int (-1), .int 0, .int 0, .int 0, .int 0, .int 0, .ref (b 21), .ref (b 22), .int 0, .ref (b 23), .ref (b 24), .ref (b 25), .ref (b 26), .ref (b 27), .ref (b 28), .ref (b 29), .ref (b 30), .ref (b 31), .ref (b 32), .ref (b 33), .int 0, .int 0, .ref (b 34), .ref (b 35), .ref (b 36), .ref (b 37), .ref (b 38), .int 0, .int 0, .ref (b 39), .ref (b 40), .ref (b 41), .ref (b 42), .ref (b 43), .ref (b 44), .ref (b 45), .int 0, .int 0, .int 0, .ref (b 46), .int 0, .int 0])), ((b 5), .inl ((j 5), 900, .inl (upd (upd (upd (upd f (8 : Int32).toNatClampNeg ((p0 >>> (24 &&& 31)) &&& 255)) (9 : Int32).toNatClampNeg ((p0 >>> (16 &&& 31)) &&& 255)) (10 : Int32).toNatClampNeg ((p0 >>> (8 &&& 31)) &&& 255)) (11 : Int32).toNatClampNeg ((p0 >>> (0 &&& 31)) &&& 255))))] := hD
  refine lv_iinc (v := (-8)) (lv' := [(2, .int (-8)), (0, .ref (b 0)), (1, .int p0)]) hx hb dX9_four_33 hl (k := 0) rfl (by decide) (by decide) rfl (fun ls hl => ?_)
  refine lv_goto (tgt := 3) hx hb dX9_four_36 (by decide) ?_
  refine lv_iload_n hx hb dX9_four_3 rfl (lv_at hl 0 rfl) ?_
  refine lv_if_lt (tgt := 39) hx hb dX9_four_4 (by decide) (fun _ => ?_) (fun z => absurd z (by decide))
  have hP9 := hP.sub (ws' := [((b 0), .inr (9, [.int 0, .ref (b 10), .ref (b 11), .ref (b 12), .ref (b 13), .ref (b 14), .ref (b 15), .ref (b 16), .ref (b 17), .ref (b 18), .ref (b 19), .ref (b 20), .ref (b 1), .ref (b 2), .ref (b 3), .ref (b 4), .int 0, .ref (b 5), .int 12, .int 0, .int 0, .int 0, .int 0, .int 0, .int 0, .int (-1), .int 0, .int 0, .int 0, .int 0, .int 0, .ref (b 21), .ref (b 22), .int 0, .ref (b 23), .ref (b 24), .ref (b 25), .ref (b 26), .ref (b 27), .ref (b 28), .ref (b 29), .ref (b 30), .ref (b 31), .ref (b 32), .ref (b 33), .int 0, .int 0, .ref (b 34), .ref (b 35), .ref (b 36), .ref (b 37), .ref (b 38), .int 0, .int 0, .ref (b 39), .ref (b 40), .ref (b 41), .ref (b 42), .ref (b 43), .ref (b 44), .ref (b 45), .int 0, .int 0, .int 0, .ref (b 46), .int 0, .int 0])), ((b 5), .inl ((j 5), 900, .inl (upd (upd (upd (upd f (8 : Int32).toNatClampNeg ((p0 >>> (24 &&& 31)) &&& 255)) (9 : Int32).toNatClampNeg ((p0 >>> (16 &&& 31)) &&& 255)) (10 : Int32).toNatClampNeg ((p0 >>> (8 &&& 31)) &&& 255)) (11 : Int32).toNatClampNeg ((p0 >>> (0 &&& 31)) &&& 255))))]) [0, 1] rfl
  have hD9 := hD.sub (ws' := [((b 0), .inr (9, [.int 0, .ref (b 10), .ref (b 11), .ref (b 12), .ref (b 13), .ref (b 14), .ref (b 15), .ref (b 16), .ref (b 17), .ref (b 18), .ref (b 19), .ref (b 20), .ref (b 1), .ref (b 2), .ref (b 3), .ref (b 4), .int 0, .ref (b 5), .int 12, .int 0, .int 0, .int 0, .int 0, .int 0, .int 0, .int (-1), .int 0, .int 0, .int 0, .int 0, .int 0, .ref (b 21), .ref (b 22), .int 0, .ref (b 23), .ref (b 24), .ref (b 25), .ref (b 26), .ref (b 27), .ref (b 28), .ref (b 29), .ref (b 30), .ref (b 31), .ref (b 32), .ref (b 33), .int 0, .int 0, .ref (b 34), .ref (b 35), .ref (b 36), .ref (b 37), .ref (b 38), .int 0, .int 0, .ref (b 39), .ref (b 40), .ref (b 41), .ref (b 42), .ref (b 43), .ref (b 44), .ref (b 45), .int 0, .int 0, .int 0, .ref (b 46), .int 0, .int 0])), ((b 5), .inl ((j 5), 900, .inl (upd (upd (upd (upd f (8 : Int32).toNatClampNeg ((p0 >>> (24 &&& 31)) &&& 255)) (9 : Int32).toNatClampNeg ((p0 >>> (16 &&& 31)) &&& 255)) (10 : Int32).toNatClampNeg ((p0 >>> (8 &&& 31)) &&& 255)) (11 : Int32).toNatClampNeg ((p0 >>> (0 &&& 31)) &&& 255))))]) [0, 1] (by decide) rfl
  have hK9 := hK.sub (tys' := [(j 5, .int)]) [0] rfl
  exact W.vret hx hb hr (fun t ht hW => ⟨⟨(), rfl, trivial, ⟨upd (upd (upd (upd f (8 : Int32).toNatClampNeg ((p0 >>> (24 &&& 31)) &&& 255)) (9 : Int32).toNatClampNeg ((p0 >>> (16 &&& 31)) &&& 255)) (10 : Int32).toNatClampNeg ((p0 >>> (8 &&& 31)) &&& 255)) (11 : Int32).toNatClampNeg ((p0 >>> (0 &&& 31)) &&& 255), by rw [ht]; exact hP9, va_K.moved hW.alike hK9, hD9⟩⟩, hS.F ht⟩) hS.2.2 dX9_four_39
def vs_X8_putBytes_12 : List Cond := .code yX8_putBytes cX8_putBytes 3 none :: ([.fieldLink RX8 79 "ClockReach" "taped" "I", .fieldLink RX8 9 "ClockReach" "tape" "[I"] ++ wsX80)
set_option maxHeartbeats 4000000 in
set_option maxRecDepth 100000 in
theorem c_X8_putBytes_12 (l : Launch) (dC : Nat → ClassId) (dI : Nat → Nat → Nat) (sz : Nat) (a : Nat → Nat) (k : Nat → ClassId) (f : Nat → Int32) (p0 : Int32) : Met l yX8_putBytes vs_X8_putBytes_12 ({ frames := 0, cells := 0, slots := 0, locals := 0 }) (va_Pc [.ref (a 0), .int p0] (pu_B (dC, dI) [((a 0), .inr (8, [.ref (a 6), .int 12, .ref (a 4), .ref (a 1), .ref (a 5), .ref (a 2), .ref (a 10), .int 0, .ref (a 11), .ref (a 12), .int 0, .ref (a 13), .ref (a 14), .ref (a 3), .ref (a 15), .ref (a 16)])), ((a 6), .inl ((k 0), 900, .inl f))] [(k 0, .int)] sz)) (va_Qv (fun (_ : Unit) => True) (fun _ t => ∃ (g : Nat → Int32), pu_E (dC, dI) [((a 0), .inr (8, [.ref (a 6), .int 16, .ref (a 4), .ref (a 1), .ref (a 5), .ref (a 2), .ref (a 10), .int 0, .ref (a 11), .ref (a 12), .int 0, .ref (a 13), .ref (a 14), .ref (a 3), .ref (a 15), .ref (a 16)])), ((a 6), .inl ((k 0), 900, .inl g))] [(k 0, .int)] (va_A ([((a 0), .inr (8, [.ref (a 6), .int 12, .ref (a 4), .ref (a 1), .ref (a 5), .ref (a 2), .ref (a 10), .int 0, .ref (a 11), .ref (a 12), .int 0, .ref (a 13), .ref (a 14), .ref (a 3), .ref (a 15), .ref (a 16)])), ((a 6), .inl ((k 0), 900, .inl f))]) sz) t) (va_A ([((a 0), .inr (8, [.ref (a 6), .int 12, .ref (a 4), .ref (a 1), .ref (a 5), .ref (a 2), .ref (a 10), .int 0, .ref (a 11), .ref (a 12), .int 0, .ref (a 13), .ref (a 14), .ref (a 3), .ref (a 15), .ref (a 16)])), ((a 6), .inl ((k 0), 900, .inl f))]) sz)) 0 0 (va_A ([((a 0), .inr (8, [.ref (a 6), .int 12, .ref (a 4), .ref (a 1), .ref (a 5), .ref (a 2), .ref (a 10), .int 0, .ref (a 11), .ref (a 12), .int 0, .ref (a 13), .ref (a 14), .ref (a 3), .ref (a 15), .ref (a 16)])), ((a 6), .inl ((k 0), 900, .inl f))]) sz) := by
  refine Met.ofW (cc := cX8_putBytes) (maxL := 3) (ret := none) (by decide) rfl ?_
  intro p e s m args below meth c s₁ B hml hv
  obtain ⟨rfl, rfl, hP, hK, hD0⟩ := hv
  have hx := B.exec
  have hb := B.bytes
  have hr := B.returns
  have hts := atoms_spec (ws := vs_X8_putBytes_12) B.pre
  have v_1 := hts (.fieldLink RX8 79 "ClockReach" "taped" "I") (List.mem_of_getElem? (i := 1) rfl)
  have v_2 := hts (.fieldLink RX8 9 "ClockReach" "tape" "[I") (List.mem_of_getElem? (i := 2) rfl)
  have hown : s.vm.findClass RX8 = some m.cls := findClass_of_methodNamed B.named
  have hlocks := B.notSynchronized
  have hiX8 : ∀ w ∈ wsX80, w ∈ vs_X8_putBytes_12 := fun _ h => List.mem_cons_of_mem _ (List.mem_append_right _ h)
  have hD := hD0.self (sz := s.heap.size)
  generalize hAe : va_A ([((a 0), .inr (8, [.ref (a 6), .int 12, .ref (a 4), .ref (a 1), .ref (a 5), .ref (a 2), .ref (a 10), .int 0, .ref (a 11), .ref (a 12), .int 0, .ref (a 13), .ref (a 14), .ref (a 3), .ref (a 15), .ref (a 16)])), ((a 6), .inl ((k 0), 900, .inl f))]) s.heap.size = A at hD ⊢
  have hA : ∀ q : Nat, s.heap.size ≤ q → A q := fun q h => by rw [← hAe]; exact Or.inr h
  have hS : va_S A s.heap s.heap [] := va_S.rf
  have hl := lv_entry ([.ref (a 0), .int p0]) (n := 3) (Nat.le_of_ble_eq_true rfl)
  rw [lg_entry_eq]
  generalize (lg_sl ([.ref (a 0), .int p0]) ++ List.replicate (3 - (lg_sl ([.ref (a 0), .int p0])).length) Slot.unset).toArray = ls at hl ⊢
  have hl : lv_has ls 3 [(0, .ref (a 0)), (1, .int p0)] := hl
  refine lv_bipush (v := 24) hx hb dX8_putBytes_0 (by decide) ?_
  refine lv_istore_n (lv' := [(2, .int 24), (0, .ref (a 0)), (1, .int p0)]) hx hb dX8_putBytes_2 rfl hl (by decide) rfl (fun ls hl => ?_)
  refine lv_iload_n hx hb dX8_putBytes_3 rfl (lv_at hl 0 rfl) ?_
  refine lv_if_lt (tgt := 49) hx hb dX8_putBytes_4 (by decide) (fun z => absurd z (by decide)) (fun _ => ?_)
  refine lv_aload_n hx hb dX8_putBytes_7 rfl (lv_at hl 1 rfl) ?_
  refine va_get (D := (dC, dI)) (ci := 8) (v := .int 12) (C := RX8) (T := TX8) (N := 16) hx hb hts hiX8 hown hK hP 0 rfl rfl 1 (by decide) v_1 (fun _ h9 => h9) rfl dX8_putBytes_8 ?_
  refine lv_sipush (v := 900) hx hb dX8_putBytes_11 (by decide) ?_
  refine lv_icmp_ge (tgt := 49) hx hb dX8_putBytes_14 (by decide) (fun z => absurd z (by decide)) (fun _ => ?_)
  refine lv_aload_n hx hb dX8_putBytes_17 rfl (lv_at hl 1 rfl) ?_
  refine va_get (D := (dC, dI)) (ci := 8) (v := .ref (a 6)) (C := RX8) (T := TX8) (N := 16) hx hb hts hiX8 hown hK hP 0 rfl rfl 0 (by decide) v_2 (fun _ h9 => h9) rfl dX8_putBytes_18 ?_
  refine lv_aload_n hx hb dX8_putBytes_21 rfl (lv_at hl 1 rfl) ?_
  refine va_get (D := (dC, dI)) (ci := 8) (v := .int 12) (C := RX8) (T := TX8) (N := 16) hx hb hts hiX8 hown hK hP 0 rfl rfl 1 (by decide) v_1 (fun _ h9 => h9) rfl dX8_putBytes_22 ?_
  refine lv_iload_n hx hb dX8_putBytes_25 rfl (lv_at hl 2 rfl) ?_
  refine lv_iload_n hx hb dX8_putBytes_26 rfl (lv_at hl 0 rfl) ?_
  refine lv_ishr hx hb dX8_putBytes_27 ?_
  refine lv_sipush (v := 255) hx hb dX8_putBytes_28 (by decide) ?_
  refine lv_iand hx hb dX8_putBytes_31 ?_
  refine va_iast hx hb hK hP hD hS 1 0 rfl rfl (show ¬ (_ ∨ _) by decide) dX8_putBytes_32 (fun H locs hP hD hS => ?_)
  have hP : va_P (dC, dI) vwCl [((a 0), .inr (8, [.ref (a 6), .int 12, .ref (a 4), .ref (a 1), .ref (a 5), .ref (a 2), .ref (a 10), .int 0, .ref (a 11), .ref (a 12), .int 0, .ref (a 13), .ref (a 14), .ref (a 3), .ref (a 15), .ref (a 16)])), ((a 6), .inl ((k 0), 900, .inl (upd f (12 : Int32).toNatClampNeg ((p0 >>> (24 &&& 31)) &&& 255))))] H := hP
  have hD : va_D A [((a 0), .inr (8, [.ref (a 6), .int 12, .ref (a 4), .ref (a 1), .ref (a 5), .ref (a 2), .ref (a 10), .int 0, .ref (a 11), .ref (a 12), .int 0, .ref (a 13), .ref (a 14), .ref (a 3), .ref (a 15), .ref (a 16)])), ((a 6), .inl ((k 0), 900, .inl (upd f (12 : Int32).toNatClampNeg ((p0 >>> (24 &&& 31)) &&& 255))))] := hD
  refine lv_aload_n hx hb dX8_putBytes_33 rfl (lv_at hl 1 rfl) ?_
  refine lv_dup hx hb dX8_putBytes_34 rfl ?_
  refine va_get (D := (dC, dI)) (ci := 8) (v := .int 12) (C := RX8) (T := TX8) (N := 16) hx hb hts hiX8 hown hK hP 0 rfl rfl 1 (by decide) v_1 (fun _ h9 => h9) rfl dX8_putBytes_35 ?_
  refine lv_iconst (v := 1) hx hb dX8_putBytes_38 (by decide) ?_
  refine lv_iadd hx hb dX8_putBytes_39 ?_
  refine lv_topi (fun y_1 ey_1 => ?_)
  obtain rfl : y_1 = 13 := ey_1.trans (by decide)
  refine va_put (D := (dC, dI)) (ci := 8) (v := .int 13) (ty := .int) (C := RX8) (T := TX8) (N := 16) hx hb hts hiX8 tyX8 tyX8_ok nmX8 hown hK hP hD hS 0 rfl rfl 1 (by decide) v_1 (fun _ h9 => h9) rfl (by decide +kernel) rfl rfl (Nat.le_of_ble_eq_true rfl) dX8_putBytes_40 (fun H locs hP hD hS => ?_)
  have hP : va_P (dC, dI) vwCl [((a 0), .inr (8, [.ref (a 6), .int 13, .ref (a 4), .ref (a 1), .ref (a 5), .ref (a 2), .ref (a 10), .int 0, .ref (a 11), .ref (a 12), .int 0, .ref (a 13), .ref (a 14), .ref (a 3), .ref (a 15), .ref (a 16)])), ((a 6), .inl ((k 0), 900, .inl (upd f (12 : Int32).toNatClampNeg ((p0 >>> (24 &&& 31)) &&& 255))))] H := hP
  have hD : va_D A [((a 0), .inr (8, [.ref (a 6), .int 13, .ref (a 4), .ref (a 1), .ref (a 5), .ref (a 2), .ref (a 10), .int 0, .ref (a 11), .ref (a 12), .int 0, .ref (a 13), .ref (a 14), .ref (a 3), .ref (a 15), .ref (a 16)])), ((a 6), .inl ((k 0), 900, .inl (upd f (12 : Int32).toNatClampNeg ((p0 >>> (24 &&& 31)) &&& 255))))] := hD
  refine lv_iinc (v := 16) (lv' := [(2, .int 16), (0, .ref (a 0)), (1, .int p0)]) hx hb dX8_putBytes_43 hl (k := 0) rfl (by decide) (by decide) rfl (fun ls hl => ?_)
  refine lv_goto (tgt := 3) hx hb dX8_putBytes_46 (by decide) ?_
  refine lv_iload_n hx hb dX8_putBytes_3 rfl (lv_at hl 0 rfl) ?_
  refine lv_if_lt (tgt := 49) hx hb dX8_putBytes_4 (by decide) (fun z => absurd z (by decide)) (fun _ => ?_)
  refine lv_aload_n hx hb dX8_putBytes_7 rfl (lv_at hl 1 rfl) ?_
  refine va_get (D := (dC, dI)) (ci := 8) (v := .int 13) (C := RX8) (T := TX8) (N := 16) hx hb hts hiX8 hown hK hP 0 rfl rfl 1 (by decide) v_1 (fun _ h9 => h9) rfl dX8_putBytes_8 ?_
  refine lv_sipush (v := 900) hx hb dX8_putBytes_11 (by decide) ?_
  refine lv_icmp_ge (tgt := 49) hx hb dX8_putBytes_14 (by decide) (fun z => absurd z (by decide)) (fun _ => ?_)
  refine lv_aload_n hx hb dX8_putBytes_17 rfl (lv_at hl 1 rfl) ?_
  refine va_get (D := (dC, dI)) (ci := 8) (v := .ref (a 6)) (C := RX8) (T := TX8) (N := 16) hx hb hts hiX8 hown hK hP 0 rfl rfl 0 (by decide) v_2 (fun _ h9 => h9) rfl dX8_putBytes_18 ?_
  refine lv_aload_n hx hb dX8_putBytes_21 rfl (lv_at hl 1 rfl) ?_
  refine va_get (D := (dC, dI)) (ci := 8) (v := .int 13) (C := RX8) (T := TX8) (N := 16) hx hb hts hiX8 hown hK hP 0 rfl rfl 1 (by decide) v_1 (fun _ h9 => h9) rfl dX8_putBytes_22 ?_
  refine lv_iload_n hx hb dX8_putBytes_25 rfl (lv_at hl 2 rfl) ?_
  refine lv_iload_n hx hb dX8_putBytes_26 rfl (lv_at hl 0 rfl) ?_
  refine lv_ishr hx hb dX8_putBytes_27 ?_
  refine lv_sipush (v := 255) hx hb dX8_putBytes_28 (by decide) ?_
  refine lv_iand hx hb dX8_putBytes_31 ?_
  refine va_iast hx hb hK hP hD hS 1 0 rfl rfl (show ¬ (_ ∨ _) by decide) dX8_putBytes_32 (fun H locs hP hD hS => ?_)
  have hP : va_P (dC, dI) vwCl [((a 0), .inr (8, [.ref (a 6), .int 13, .ref (a 4), .ref (a 1), .ref (a 5), .ref (a 2), .ref (a 10), .int 0, .ref (a 11), .ref (a 12), .int 0, .ref (a 13), .ref (a 14), .ref (a 3), .ref (a 15), .ref (a 16)])), ((a 6), .inl ((k 0), 900, .inl (upd (upd f (12 : Int32).toNatClampNeg ((p0 >>> (24 &&& 31)) &&& 255)) (13 : Int32).toNatClampNeg ((p0 >>> (16 &&& 31)) &&& 255))))] H := hP
  have hD : va_D A [((a 0), .inr (8, [.ref (a 6), .int 13, .ref (a 4), .ref (a 1), .ref (a 5), .ref (a 2), .ref (a 10), .int 0, .ref (a 11), .ref (a 12), .int 0, .ref (a 13), .ref (a 14), .ref (a 3), .ref (a 15), .ref (a 16)])), ((a 6), .inl ((k 0), 900, .inl (upd (upd f (12 : Int32).toNatClampNeg ((p0 >>> (24 &&& 31)) &&& 255)) (13 : Int32).toNatClampNeg ((p0 >>> (16 &&& 31)) &&& 255))))] := hD
  refine lv_aload_n hx hb dX8_putBytes_33 rfl (lv_at hl 1 rfl) ?_
  refine lv_dup hx hb dX8_putBytes_34 rfl ?_
  refine va_get (D := (dC, dI)) (ci := 8) (v := .int 13) (C := RX8) (T := TX8) (N := 16) hx hb hts hiX8 hown hK hP 0 rfl rfl 1 (by decide) v_1 (fun _ h9 => h9) rfl dX8_putBytes_35 ?_
  refine lv_iconst (v := 1) hx hb dX8_putBytes_38 (by decide) ?_
  refine lv_iadd hx hb dX8_putBytes_39 ?_
  refine lv_topi (fun y_2 ey_2 => ?_)
  obtain rfl : y_2 = 14 := ey_2.trans (by decide)
  refine va_put (D := (dC, dI)) (ci := 8) (v := .int 14) (ty := .int) (C := RX8) (T := TX8) (N := 16) hx hb hts hiX8 tyX8 tyX8_ok nmX8 hown hK hP hD hS 0 rfl rfl 1 (by decide) v_1 (fun _ h9 => h9) rfl (by decide +kernel) rfl rfl (Nat.le_of_ble_eq_true rfl) dX8_putBytes_40 (fun H locs hP hD hS => ?_)
  have hP : va_P (dC, dI) vwCl [((a 0), .inr (8, [.ref (a 6), .int 14, .ref (a 4), .ref (a 1), .ref (a 5), .ref (a 2), .ref (a 10), .int 0, .ref (a 11), .ref (a 12), .int 0, .ref (a 13), .ref (a 14), .ref (a 3), .ref (a 15), .ref (a 16)])), ((a 6), .inl ((k 0), 900, .inl (upd (upd f (12 : Int32).toNatClampNeg ((p0 >>> (24 &&& 31)) &&& 255)) (13 : Int32).toNatClampNeg ((p0 >>> (16 &&& 31)) &&& 255))))] H := hP
  have hD : va_D A [((a 0), .inr (8, [.ref (a 6), .int 14, .ref (a 4), .ref (a 1), .ref (a 5), .ref (a 2), .ref (a 10), .int 0, .ref (a 11), .ref (a 12), .int 0, .ref (a 13), .ref (a 14), .ref (a 3), .ref (a 15), .ref (a 16)])), ((a 6), .inl ((k 0), 900, .inl (upd (upd f (12 : Int32).toNatClampNeg ((p0 >>> (24 &&& 31)) &&& 255)) (13 : Int32).toNatClampNeg ((p0 >>> (16 &&& 31)) &&& 255))))] := hD
  refine lv_iinc (v := 8) (lv' := [(2, .int 8), (0, .ref (a 0)), (1, .int p0)]) hx hb dX8_putBytes_43 hl (k := 0) rfl (by decide) (by decide) rfl (fun ls hl => ?_)
  refine lv_goto (tgt := 3) hx hb dX8_putBytes_46 (by decide) ?_
  refine lv_iload_n hx hb dX8_putBytes_3 rfl (lv_at hl 0 rfl) ?_
  refine lv_if_lt (tgt := 49) hx hb dX8_putBytes_4 (by decide) (fun z => absurd z (by decide)) (fun _ => ?_)
  refine lv_aload_n hx hb dX8_putBytes_7 rfl (lv_at hl 1 rfl) ?_
  refine va_get (D := (dC, dI)) (ci := 8) (v := .int 14) (C := RX8) (T := TX8) (N := 16) hx hb hts hiX8 hown hK hP 0 rfl rfl 1 (by decide) v_1 (fun _ h9 => h9) rfl dX8_putBytes_8 ?_
  refine lv_sipush (v := 900) hx hb dX8_putBytes_11 (by decide) ?_
  refine lv_icmp_ge (tgt := 49) hx hb dX8_putBytes_14 (by decide) (fun z => absurd z (by decide)) (fun _ => ?_)
  refine lv_aload_n hx hb dX8_putBytes_17 rfl (lv_at hl 1 rfl) ?_
  refine va_get (D := (dC, dI)) (ci := 8) (v := .ref (a 6)) (C := RX8) (T := TX8) (N := 16) hx hb hts hiX8 hown hK hP 0 rfl rfl 0 (by decide) v_2 (fun _ h9 => h9) rfl dX8_putBytes_18 ?_
  refine lv_aload_n hx hb dX8_putBytes_21 rfl (lv_at hl 1 rfl) ?_
  refine va_get (D := (dC, dI)) (ci := 8) (v := .int 14) (C := RX8) (T := TX8) (N := 16) hx hb hts hiX8 hown hK hP 0 rfl rfl 1 (by decide) v_1 (fun _ h9 => h9) rfl dX8_putBytes_22 ?_
  refine lv_iload_n hx hb dX8_putBytes_25 rfl (lv_at hl 2 rfl) ?_
  refine lv_iload_n hx hb dX8_putBytes_26 rfl (lv_at hl 0 rfl) ?_
  refine lv_ishr hx hb dX8_putBytes_27 ?_
  refine lv_sipush (v := 255) hx hb dX8_putBytes_28 (by decide) ?_
  refine lv_iand hx hb dX8_putBytes_31 ?_
  refine va_iast hx hb hK hP hD hS 1 0 rfl rfl (show ¬ (_ ∨ _) by decide) dX8_putBytes_32 (fun H locs hP hD hS => ?_)
  have hP : va_P (dC, dI) vwCl [((a 0), .inr (8, [.ref (a 6), .int 14, .ref (a 4), .ref (a 1), .ref (a 5), .ref (a 2), .ref (a 10), .int 0, .ref (a 11), .ref (a 12), .int 0, .ref (a 13), .ref (a 14), .ref (a 3), .ref (a 15), .ref (a 16)])), ((a 6), .inl ((k 0), 900, .inl (upd (upd (upd f (12 : Int32).toNatClampNeg ((p0 >>> (24 &&& 31)) &&& 255)) (13 : Int32).toNatClampNeg ((p0 >>> (16 &&& 31)) &&& 255)) (14 : Int32).toNatClampNeg ((p0 >>> (8 &&& 31)) &&& 255))))] H := hP
  have hD : va_D A [((a 0), .inr (8, [.ref (a 6), .int 14, .ref (a 4), .ref (a 1), .ref (a 5), .ref (a 2), .ref (a 10), .int 0, .ref (a 11), .ref (a 12), .int 0, .ref (a 13), .ref (a 14), .ref (a 3), .ref (a 15), .ref (a 16)])), ((a 6), .inl ((k 0), 900, .inl (upd (upd (upd f (12 : Int32).toNatClampNeg ((p0 >>> (24 &&& 31)) &&& 255)) (13 : Int32).toNatClampNeg ((p0 >>> (16 &&& 31)) &&& 255)) (14 : Int32).toNatClampNeg ((p0 >>> (8 &&& 31)) &&& 255))))] := hD
  refine lv_aload_n hx hb dX8_putBytes_33 rfl (lv_at hl 1 rfl) ?_
  refine lv_dup hx hb dX8_putBytes_34 rfl ?_
  refine va_get (D := (dC, dI)) (ci := 8) (v := .int 14) (C := RX8) (T := TX8) (N := 16) hx hb hts hiX8 hown hK hP 0 rfl rfl 1 (by decide) v_1 (fun _ h9 => h9) rfl dX8_putBytes_35 ?_
  refine lv_iconst (v := 1) hx hb dX8_putBytes_38 (by decide) ?_
  refine lv_iadd hx hb dX8_putBytes_39 ?_
  refine lv_topi (fun y_3 ey_3 => ?_)
  obtain rfl : y_3 = 15 := ey_3.trans (by decide)
  refine va_put (D := (dC, dI)) (ci := 8) (v := .int 15) (ty := .int) (C := RX8) (T := TX8) (N := 16) hx hb hts hiX8 tyX8 tyX8_ok nmX8 hown hK hP hD hS 0 rfl rfl 1 (by decide) v_1 (fun _ h9 => h9) rfl (by decide +kernel) rfl rfl (Nat.le_of_ble_eq_true rfl) dX8_putBytes_40 (fun H locs hP hD hS => ?_)
  have hP : va_P (dC, dI) vwCl [((a 0), .inr (8, [.ref (a 6), .int 15, .ref (a 4), .ref (a 1), .ref (a 5), .ref (a 2), .ref (a 10), .int 0, .ref (a 11), .ref (a 12), .int 0, .ref (a 13), .ref (a 14), .ref (a 3), .ref (a 15), .ref (a 16)])), ((a 6), .inl ((k 0), 900, .inl (upd (upd (upd f (12 : Int32).toNatClampNeg ((p0 >>> (24 &&& 31)) &&& 255)) (13 : Int32).toNatClampNeg ((p0 >>> (16 &&& 31)) &&& 255)) (14 : Int32).toNatClampNeg ((p0 >>> (8 &&& 31)) &&& 255))))] H := hP
  have hD : va_D A [((a 0), .inr (8, [.ref (a 6), .int 15, .ref (a 4), .ref (a 1), .ref (a 5), .ref (a 2), .ref (a 10), .int 0, .ref (a 11), .ref (a 12), .int 0, .ref (a 13), .ref (a 14), .ref (a 3), .ref (a 15), .ref (a 16)])), ((a 6), .inl ((k 0), 900, .inl (upd (upd (upd f (12 : Int32).toNatClampNeg ((p0 >>> (24 &&& 31)) &&& 255)) (13 : Int32).toNatClampNeg ((p0 >>> (16 &&& 31)) &&& 255)) (14 : Int32).toNatClampNeg ((p0 >>> (8 &&& 31)) &&& 255))))] := hD
  refine lv_iinc (v := 0) (lv' := [(2, .int 0), (0, .ref (a 0)), (1, .int p0)]) hx hb dX8_putBytes_43 hl (k := 0) rfl (by decide) (by decide) rfl (fun ls hl => ?_)
  refine lv_goto (tgt := 3) hx hb dX8_putBytes_46 (by decide) ?_
  refine lv_iload_n hx hb dX8_putBytes_3 rfl (lv_at hl 0 rfl) ?_
  refine lv_if_lt (tgt := 49) hx hb dX8_putBytes_4 (by decide) (fun z => absurd z (by decide)) (fun _ => ?_)
  refine lv_aload_n hx hb dX8_putBytes_7 rfl (lv_at hl 1 rfl) ?_
  refine va_get (D := (dC, dI)) (ci := 8) (v := .int 15) (C := RX8) (T := TX8) (N := 16) hx hb hts hiX8 hown hK hP 0 rfl rfl 1 (by decide) v_1 (fun _ h9 => h9) rfl dX8_putBytes_8 ?_
  refine lv_sipush (v := 900) hx hb dX8_putBytes_11 (by decide) ?_
  refine lv_icmp_ge (tgt := 49) hx hb dX8_putBytes_14 (by decide) (fun z => absurd z (by decide)) (fun _ => ?_)
  refine lv_aload_n hx hb dX8_putBytes_17 rfl (lv_at hl 1 rfl) ?_
  refine va_get (D := (dC, dI)) (ci := 8) (v := .ref (a 6)) (C := RX8) (T := TX8) (N := 16) hx hb hts hiX8 hown hK hP 0 rfl rfl 0 (by decide) v_2 (fun _ h9 => h9) rfl dX8_putBytes_18 ?_
  refine lv_aload_n hx hb dX8_putBytes_21 rfl (lv_at hl 1 rfl) ?_
  refine va_get (D := (dC, dI)) (ci := 8) (v := .int 15) (C := RX8) (T := TX8) (N := 16) hx hb hts hiX8 hown hK hP 0 rfl rfl 1 (by decide) v_1 (fun _ h9 => h9) rfl dX8_putBytes_22 ?_
  refine lv_iload_n hx hb dX8_putBytes_25 rfl (lv_at hl 2 rfl) ?_
  refine lv_iload_n hx hb dX8_putBytes_26 rfl (lv_at hl 0 rfl) ?_
  refine lv_ishr hx hb dX8_putBytes_27 ?_
  refine lv_sipush (v := 255) hx hb dX8_putBytes_28 (by decide) ?_
  refine lv_iand hx hb dX8_putBytes_31 ?_
  refine va_iast hx hb hK hP hD hS 1 0 rfl rfl (show ¬ (_ ∨ _) by decide) dX8_putBytes_32 (fun H locs hP hD hS => ?_)
  have hP : va_P (dC, dI) vwCl [((a 0), .inr (8, [.ref (a 6), .int 15, .ref (a 4), .ref (a 1), .ref (a 5), .ref (a 2), .ref (a 10), .int 0, .ref (a 11), .ref (a 12), .int 0, .ref (a 13), .ref (a 14), .ref (a 3), .ref (a 15), .ref (a 16)])), ((a 6), .inl ((k 0), 900, .inl (upd (upd (upd (upd f (12 : Int32).toNatClampNeg ((p0 >>> (24 &&& 31)) &&& 255)) (13 : Int32).toNatClampNeg ((p0 >>> (16 &&& 31)) &&& 255)) (14 : Int32).toNatClampNeg ((p0 >>> (8 &&& 31)) &&& 255)) (15 : Int32).toNatClampNeg ((p0 >>> (0 &&& 31)) &&& 255))))] H := hP
  have hD : va_D A [((a 0), .inr (8, [.ref (a 6), .int 15, .ref (a 4), .ref (a 1), .ref (a 5), .ref (a 2), .ref (a 10), .int 0, .ref (a 11), .ref (a 12), .int 0, .ref (a 13), .ref (a 14), .ref (a 3), .ref (a 15), .ref (a 16)])), ((a 6), .inl ((k 0), 900, .inl (upd (upd (upd (upd f (12 : Int32).toNatClampNeg ((p0 >>> (24 &&& 31)) &&& 255)) (13 : Int32).toNatClampNeg ((p0 >>> (16 &&& 31)) &&& 255)) (14 : Int32).toNatClampNeg ((p0 >>> (8 &&& 31)) &&& 255)) (15 : Int32).toNatClampNeg ((p0 >>> (0 &&& 31)) &&& 255))))] := hD
  refine lv_aload_n hx hb dX8_putBytes_33 rfl (lv_at hl 1 rfl) ?_
  refine lv_dup hx hb dX8_putBytes_34 rfl ?_
  refine va_get (D := (dC, dI)) (ci := 8) (v := .int 15) (C := RX8) (T := TX8) (N := 16) hx hb hts hiX8 hown hK hP 0 rfl rfl 1 (by decide) v_1 (fun _ h9 => h9) rfl dX8_putBytes_35 ?_
  refine lv_iconst (v := 1) hx hb dX8_putBytes_38 (by decide) ?_
  refine lv_iadd hx hb dX8_putBytes_39 ?_
  refine lv_topi (fun y_4 ey_4 => ?_)
  obtain rfl : y_4 = 16 := ey_4.trans (by decide)
  refine va_put (D := (dC, dI)) (ci := 8) (v := .int 16) (ty := .int) (C := RX8) (T := TX8) (N := 16) hx hb hts hiX8 tyX8 tyX8_ok nmX8 hown hK hP hD hS 0 rfl rfl 1 (by decide) v_1 (fun _ h9 => h9) rfl (by decide +kernel) rfl rfl (Nat.le_of_ble_eq_true rfl) dX8_putBytes_40 (fun H locs hP hD hS => ?_)
  have hP : va_P (dC, dI) vwCl [((a 0), .inr (8, [.ref (a 6), .int 16, .ref (a 4), .ref (a 1), .ref (a 5), .ref (a 2), .ref (a 10), .int 0, .ref (a 11), .ref (a 12), .int 0, .ref (a 13), .ref (a 14), .ref (a 3), .ref (a 15), .ref (a 16)])), ((a 6), .inl ((k 0), 900, .inl (upd (upd (upd (upd f (12 : Int32).toNatClampNeg ((p0 >>> (24 &&& 31)) &&& 255)) (13 : Int32).toNatClampNeg ((p0 >>> (16 &&& 31)) &&& 255)) (14 : Int32).toNatClampNeg ((p0 >>> (8 &&& 31)) &&& 255)) (15 : Int32).toNatClampNeg ((p0 >>> (0 &&& 31)) &&& 255))))] H := hP
  have hD : va_D A [((a 0), .inr (8, [.ref (a 6), .int 16, .ref (a 4), .ref (a 1), .ref (a 5), .ref (a 2), .ref (a 10), .int 0, .ref (a 11), .ref (a 12), .int 0, .ref (a 13), .ref (a 14), .ref (a 3), .ref (a 15), .ref (a 16)])), ((a 6), .inl ((k 0), 900, .inl (upd (upd (upd (upd f (12 : Int32).toNatClampNeg ((p0 >>> (24 &&& 31)) &&& 255)) (13 : Int32).toNatClampNeg ((p0 >>> (16 &&& 31)) &&& 255)) (14 : Int32).toNatClampNeg ((p0 >>> (8 &&& 31)) &&& 255)) (15 : Int32).toNatClampNeg ((p0 >>> (0 &&& 31)) &&& 255))))] := hD
  refine lv_iinc (v := (-8)) (lv' := [(2, .int (-8)), (0, .ref (a 0)), (1, .int p0)]) hx hb dX8_putBytes_43 hl (k := 0) rfl (by decide) (by decide) rfl (fun ls hl => ?_)
  refine lv_goto (tgt := 3) hx hb dX8_putBytes_46 (by decide) ?_
  refine lv_iload_n hx hb dX8_putBytes_3 rfl (lv_at hl 0 rfl) ?_
  refine lv_if_lt (tgt := 49) hx hb dX8_putBytes_4 (by decide) (fun _ => ?_) (fun z => absurd z (by decide))
  have hP9 := hP.sub (ws' := [((a 0), .inr (8, [.ref (a 6), .int 16, .ref (a 4), .ref (a 1), .ref (a 5), .ref (a 2), .ref (a 10), .int 0, .ref (a 11), .ref (a 12), .int 0, .ref (a 13), .ref (a 14), .ref (a 3), .ref (a 15), .ref (a 16)])), ((a 6), .inl ((k 0), 900, .inl (upd (upd (upd (upd f (12 : Int32).toNatClampNeg ((p0 >>> (24 &&& 31)) &&& 255)) (13 : Int32).toNatClampNeg ((p0 >>> (16 &&& 31)) &&& 255)) (14 : Int32).toNatClampNeg ((p0 >>> (8 &&& 31)) &&& 255)) (15 : Int32).toNatClampNeg ((p0 >>> (0 &&& 31)) &&& 255))))]) [0, 1] rfl
  have hD9 := hD.sub (ws' := [((a 0), .inr (8, [.ref (a 6), .int 16, .ref (a 4), .ref (a 1), .ref (a 5), .ref (a 2), .ref (a 10), .int 0, .ref (a 11), .ref (a 12), .int 0, .ref (a 13), .ref (a 14), .ref (a 3), .ref (a 15), .ref (a 16)])), ((a 6), .inl ((k 0), 900, .inl (upd (upd (upd (upd f (12 : Int32).toNatClampNeg ((p0 >>> (24 &&& 31)) &&& 255)) (13 : Int32).toNatClampNeg ((p0 >>> (16 &&& 31)) &&& 255)) (14 : Int32).toNatClampNeg ((p0 >>> (8 &&& 31)) &&& 255)) (15 : Int32).toNatClampNeg ((p0 >>> (0 &&& 31)) &&& 255))))]) [0, 1] (by decide) rfl
  have hK9 := hK.sub (tys' := [(k 0, .int)]) [0] rfl
  exact W.vret hx hb hr (fun t ht hW => ⟨⟨(), rfl, trivial, ⟨upd (upd (upd (upd f (12 : Int32).toNatClampNeg ((p0 >>> (24 &&& 31)) &&& 255)) (13 : Int32).toNatClampNeg ((p0 >>> (16 &&& 31)) &&& 255)) (14 : Int32).toNatClampNeg ((p0 >>> (8 &&& 31)) &&& 255)) (15 : Int32).toNatClampNeg ((p0 >>> (0 &&& 31)) &&& 255), by rw [ht]; exact hP9, va_K.moved hW.alike hK9, hD9⟩⟩, hS.F ht⟩) hS.2.2 dX8_putBytes_49
def vs_X9_four_12 : List Cond := .code yX9_four cX9_four 3 none :: ([.fieldLink RX9 55 "ClockReachModel" "tape" "[I", .fieldLink RX9 145 "ClockReachModel" "taped" "I"] ++ wsX90)
set_option maxHeartbeats 4000000 in
set_option maxRecDepth 100000 in
theorem c_X9_four_12 (l : Launch) (dC : Nat → ClassId) (dI : Nat → Nat → Nat) (sz : Nat) (b : Nat → Nat) (j : Nat → ClassId) (f : Nat → Int32) (p0 : Int32) : Met l yX9_four vs_X9_four_12 ({ frames := 0, cells := 0, slots := 0, locals := 0 }) (va_Pc [.ref (b 0), .int p0] (pu_B (dC, dI) [((b 0), .inr (9, [.int 0, .ref (b 10), .ref (b 11), .ref (b 12), .ref (b 13), .ref (b 14), .ref (b 15), .ref (b 16), .ref (b 17), .ref (b 18), .ref (b 19), .ref (b 20), .ref (b 1), .ref (b 2), .ref (b 3), .ref (b 4), .int 0, .ref (b 5), .int 12, .int 0, .int 0, .int 0, .int 0, .int 0, .int 0, .int (-1), .int 0, .int 0, .int 0, .int 0, .int 0, .ref (b 21), .ref (b 22), .int 0, .ref (b 23), .ref (b 24), .ref (b 25), .ref (b 26), .ref (b 27), .ref (b 28), .ref (b 29), .ref (b 30), .ref (b 31), .ref (b 32), .ref (b 33), .int 0, .int 0, .ref (b 34), .ref (b 35), .ref (b 36), .ref (b 37), .ref (b 38), .int 0, .int 0, .ref (b 39), .ref (b 40), .ref (b 41), .ref (b 42), .ref (b 43), .ref (b 44), .ref (b 45), .int 0, .int 0, .int 0, .ref (b 46), .int 0, .int 0])), ((b 5), .inl ((j 5), 900, .inl f))] [(j 5, .int)] sz)) (va_Qv (fun (_ : Unit) => True) (fun _ t => ∃ (g : Nat → Int32), pu_E (dC, dI) [((b 0), .inr (9, [.int 0, .ref (b 10), .ref (b 11), .ref (b 12), .ref (b 13), .ref (b 14), .ref (b 15), .ref (b 16), .ref (b 17), .ref (b 18), .ref (b 19), .ref (b 20), .ref (b 1), .ref (b 2), .ref (b 3), .ref (b 4), .int 0, .ref (b 5), .int 16, .int 0, .int 0, .int 0, .int 0, .int 0, .int 0, .int (-1), .int 0, .int 0, .int 0, .int 0, .int 0, .ref (b 21), .ref (b 22), .int 0, .ref (b 23), .ref (b 24), .ref (b 25), .ref (b 26), .ref (b 27), .ref (b 28), .ref (b 29), .ref (b 30), .ref (b 31), .ref (b 32), .ref (b 33), .int 0, .int 0, .ref (b 34), .ref (b 35), .ref (b 36), .ref (b 37), .ref (b 38), .int 0, .int 0, .ref (b 39), .ref (b 40), .ref (b 41), .ref (b 42), .ref (b 43), .ref (b 44), .ref (b 45), .int 0, .int 0, .int 0, .ref (b 46), .int 0, .int 0])), ((b 5), .inl ((j 5), 900, .inl g))] [(j 5, .int)] (va_A ([((b 0), .inr (9, [.int 0, .ref (b 10), .ref (b 11), .ref (b 12), .ref (b 13), .ref (b 14), .ref (b 15), .ref (b 16), .ref (b 17), .ref (b 18), .ref (b 19), .ref (b 20), .ref (b 1), .ref (b 2), .ref (b 3), .ref (b 4), .int 0, .ref (b 5), .int 12, .int 0, .int 0, .int 0, .int 0, .int 0, .int 0, .int (-1), .int 0, .int 0, .int 0, .int 0, .int 0, .ref (b 21), .ref (b 22), .int 0, .ref (b 23), .ref (b 24), .ref (b 25), .ref (b 26), .ref (b 27), .ref (b 28), .ref (b 29), .ref (b 30), .ref (b 31), .ref (b 32), .ref (b 33), .int 0, .int 0, .ref (b 34), .ref (b 35), .ref (b 36), .ref (b 37), .ref (b 38), .int 0, .int 0, .ref (b 39), .ref (b 40), .ref (b 41), .ref (b 42), .ref (b 43), .ref (b 44), .ref (b 45), .int 0, .int 0, .int 0, .ref (b 46), .int 0, .int 0])), ((b 5), .inl ((j 5), 900, .inl f))]) sz) t) (va_A ([((b 0), .inr (9, [.int 0, .ref (b 10), .ref (b 11), .ref (b 12), .ref (b 13), .ref (b 14), .ref (b 15), .ref (b 16), .ref (b 17), .ref (b 18), .ref (b 19), .ref (b 20), .ref (b 1), .ref (b 2), .ref (b 3), .ref (b 4), .int 0, .ref (b 5), .int 12, .int 0, .int 0, .int 0, .int 0, .int 0, .int 0, .int (-1), .int 0, .int 0, .int 0, .int 0, .int 0, .ref (b 21), .ref (b 22), .int 0, .ref (b 23), .ref (b 24), .ref (b 25), .ref (b 26), .ref (b 27), .ref (b 28), .ref (b 29), .ref (b 30), .ref (b 31), .ref (b 32), .ref (b 33), .int 0, .int 0, .ref (b 34), .ref (b 35), .ref (b 36), .ref (b 37), .ref (b 38), .int 0, .int 0, .ref (b 39), .ref (b 40), .ref (b 41), .ref (b 42), .ref (b 43), .ref (b 44), .ref (b 45), .int 0, .int 0, .int 0, .ref (b 46), .int 0, .int 0])), ((b 5), .inl ((j 5), 900, .inl f))]) sz)) 0 0 (va_A ([((b 0), .inr (9, [.int 0, .ref (b 10), .ref (b 11), .ref (b 12), .ref (b 13), .ref (b 14), .ref (b 15), .ref (b 16), .ref (b 17), .ref (b 18), .ref (b 19), .ref (b 20), .ref (b 1), .ref (b 2), .ref (b 3), .ref (b 4), .int 0, .ref (b 5), .int 12, .int 0, .int 0, .int 0, .int 0, .int 0, .int 0, .int (-1), .int 0, .int 0, .int 0, .int 0, .int 0, .ref (b 21), .ref (b 22), .int 0, .ref (b 23), .ref (b 24), .ref (b 25), .ref (b 26), .ref (b 27), .ref (b 28), .ref (b 29), .ref (b 30), .ref (b 31), .ref (b 32), .ref (b 33), .int 0, .int 0, .ref (b 34), .ref (b 35), .ref (b 36), .ref (b 37), .ref (b 38), .int 0, .int 0, .ref (b 39), .ref (b 40), .ref (b 41), .ref (b 42), .ref (b 43), .ref (b 44), .ref (b 45), .int 0, .int 0, .int 0, .ref (b 46), .int 0, .int 0])), ((b 5), .inl ((j 5), 900, .inl f))]) sz) := by
  refine Met.ofW (cc := cX9_four) (maxL := 3) (ret := none) (by decide) rfl ?_
  intro p e s m args below meth c s₁ B hml hv
  obtain ⟨rfl, rfl, hP, hK, hD0⟩ := hv
  have hx := B.exec
  have hb := B.bytes
  have hr := B.returns
  have hts := atoms_spec (ws := vs_X9_four_12) B.pre
  have v_1 := hts (.fieldLink RX9 55 "ClockReachModel" "tape" "[I") (List.mem_of_getElem? (i := 1) rfl)
  have v_2 := hts (.fieldLink RX9 145 "ClockReachModel" "taped" "I") (List.mem_of_getElem? (i := 2) rfl)
  have hown : s.vm.findClass RX9 = some m.cls := findClass_of_methodNamed B.named
  have hlocks := B.notSynchronized
  have hiX9 : ∀ w ∈ wsX90, w ∈ vs_X9_four_12 := fun _ h => List.mem_cons_of_mem _ (List.mem_append_right _ h)
  have hD := hD0.self (sz := s.heap.size)
  generalize hAe : va_A ([((b 0), .inr (9, [.int 0, .ref (b 10), .ref (b 11), .ref (b 12), .ref (b 13), .ref (b 14), .ref (b 15), .ref (b 16), .ref (b 17), .ref (b 18), .ref (b 19), .ref (b 20), .ref (b 1), .ref (b 2), .ref (b 3), .ref (b 4), .int 0, .ref (b 5), .int 12, .int 0, .int 0, .int 0, .int 0, .int 0, .int 0, .int (-1), .int 0, .int 0, .int 0, .int 0, .int 0, .ref (b 21), .ref (b 22), .int 0, .ref (b 23), .ref (b 24), .ref (b 25), .ref (b 26), .ref (b 27), .ref (b 28), .ref (b 29), .ref (b 30), .ref (b 31), .ref (b 32), .ref (b 33), .int 0, .int 0, .ref (b 34), .ref (b 35), .ref (b 36), .ref (b 37), .ref (b 38), .int 0, .int 0, .ref (b 39), .ref (b 40), .ref (b 41), .ref (b 42), .ref (b 43), .ref (b 44), .ref (b 45), .int 0, .int 0, .int 0, .ref (b 46), .int 0, .int 0])), ((b 5), .inl ((j 5), 900, .inl f))]) s.heap.size = A at hD ⊢
  have hA : ∀ q : Nat, s.heap.size ≤ q → A q := fun q h => by rw [← hAe]; exact Or.inr h
  have hS : va_S A s.heap s.heap [] := va_S.rf
  have hl := lv_entry ([.ref (b 0), .int p0]) (n := 3) (Nat.le_of_ble_eq_true rfl)
  rw [lg_entry_eq]
  generalize (lg_sl ([.ref (b 0), .int p0]) ++ List.replicate (3 - (lg_sl ([.ref (b 0), .int p0])).length) Slot.unset).toArray = ls at hl ⊢
  have hl : lv_has ls 3 [(0, .ref (b 0)), (1, .int p0)] := hl
  refine lv_bipush (v := 24) hx hb dX9_four_0 (by decide) ?_
  refine lv_istore_n (lv' := [(2, .int 24), (0, .ref (b 0)), (1, .int p0)]) hx hb dX9_four_2 rfl hl (by decide) rfl (fun ls hl => ?_)
  refine lv_iload_n hx hb dX9_four_3 rfl (lv_at hl 0 rfl) ?_
  refine lv_if_lt (tgt := 39) hx hb dX9_four_4 (by decide) (fun z => absurd z (by decide)) (fun _ => ?_)
  refine lv_aload_n hx hb dX9_four_7 rfl (lv_at hl 1 rfl) ?_
  refine va_get (D := (dC, dI)) (ci := 9) (v := .ref (b 5)) (C := RX9) (T := TX9) (N := 67) hx hb hts hiX9 hown hK hP 0 rfl rfl 17 (by decide) v_1 (fun _ h9 => h9) rfl dX9_four_8 ?_
  refine lv_aload_n hx hb dX9_four_11 rfl (lv_at hl 1 rfl) ?_
  refine va_get (D := (dC, dI)) (ci := 9) (v := .int 12) (C := RX9) (T := TX9) (N := 67) hx hb hts hiX9 hown hK hP 0 rfl rfl 18 (by decide) v_2 (fun _ h9 => h9) rfl dX9_four_12 ?_
  refine lv_iload_n hx hb dX9_four_15 rfl (lv_at hl 2 rfl) ?_
  refine lv_iload_n hx hb dX9_four_16 rfl (lv_at hl 0 rfl) ?_
  refine lv_ishr hx hb dX9_four_17 ?_
  refine lv_sipush (v := 255) hx hb dX9_four_18 (by decide) ?_
  refine lv_iand hx hb dX9_four_21 ?_
  refine va_iast hx hb hK hP hD hS 1 0 rfl rfl (show ¬ (_ ∨ _) by decide) dX9_four_22 (fun H locs hP hD hS => ?_)
  have hP : va_P (dC, dI) vwCl [((b 0), .inr (9, [.int 0, .ref (b 10), .ref (b 11), .ref (b 12), .ref (b 13), .ref (b 14), .ref (b 15), .ref (b 16), .ref (b 17), .ref (b 18), .ref (b 19), .ref (b 20), .ref (b 1), .ref (b 2), .ref (b 3), .ref (b 4), .int 0, .ref (b 5), .int 12, .int 0, .int 0, .int 0, .int 0, .int 0, .int 0, .int (-1), .int 0, .int 0, .int 0, .int 0, .int 0, .ref (b 21), .ref (b 22), .int 0, .ref (b 23), .ref (b 24), .ref (b 25), .ref (b 26), .ref (b 27), .ref (b 28), .ref (b 29), .ref (b 30), .ref (b 31), .ref (b 32), .ref (b 33), .int 0, .int 0, .ref (b 34), .ref (b 35), .ref (b 36), .ref (b 37), .ref (b 38), .int 0, .int 0, .ref (b 39), .ref (b 40), .ref (b 41), .ref (b 42), .ref (b 43), .ref (b 44), .ref (b 45), .int 0, .int 0, .int 0, .ref (b 46), .int 0, .int 0])), ((b 5), .inl ((j 5), 900, .inl (upd f (12 : Int32).toNatClampNeg ((p0 >>> (24 &&& 31)) &&& 255))))] H := hP
  have hD : va_D A [((b 0), .inr (9, [.int 0, .ref (b 10), .ref (b 11), .ref (b 12), .ref (b 13), .ref (b 14), .ref (b 15), .ref (b 16), .ref (b 17), .ref (b 18), .ref (b 19), .ref (b 20), .ref (b 1), .ref (b 2), .ref (b 3), .ref (b 4), .int 0, .ref (b 5), .int 12, .int 0, .int 0, .int 0, .int 0, .int 0, .int 0, .int (-1), .int 0, .int 0, .int 0, .int 0, .int 0, .ref (b 21), .ref (b 22), .int 0, .ref (b 23), .ref (b 24), .ref (b 25), .ref (b 26), .ref (b 27), .ref (b 28), .ref (b 29), .ref (b 30), .ref (b 31), .ref (b 32), .ref (b 33), .int 0, .int 0, .ref (b 34), .ref (b 35), .ref (b 36), .ref (b 37), .ref (b 38), .int 0, .int 0, .ref (b 39), .ref (b 40), .ref (b 41), .ref (b 42), .ref (b 43), .ref (b 44), .ref (b 45), .int 0, .int 0, .int 0, .ref (b 46), .int 0, .int 0])), ((b 5), .inl ((j 5), 900, .inl (upd f (12 : Int32).toNatClampNeg ((p0 >>> (24 &&& 31)) &&& 255))))] := hD
  refine lv_aload_n hx hb dX9_four_23 rfl (lv_at hl 1 rfl) ?_
  refine lv_dup hx hb dX9_four_24 rfl ?_
  refine va_get (D := (dC, dI)) (ci := 9) (v := .int 12) (C := RX9) (T := TX9) (N := 67) hx hb hts hiX9 hown hK hP 0 rfl rfl 18 (by decide) v_2 (fun _ h9 => h9) rfl dX9_four_25 ?_
  refine lv_iconst (v := 1) hx hb dX9_four_28 (by decide) ?_
  refine lv_iadd hx hb dX9_four_29 ?_
  refine lv_topi (fun y_1 ey_1 => ?_)
  obtain rfl : y_1 = 13 := ey_1.trans (by decide)
  refine va_put (D := (dC, dI)) (ci := 9) (v := .int 13) (ty := .int) (C := RX9) (T := TX9) (N := 67) hx hb hts hiX9 tyX9 tyX9_ok nmX9 hown hK hP hD hS 0 rfl rfl 18 (by decide) v_2 (fun _ h9 => h9) rfl (by decide +kernel) rfl rfl (Nat.le_of_ble_eq_true rfl) dX9_four_30 (fun H locs hP hD hS => ?_)
  have hP : va_P (dC, dI) vwCl [((b 0), .inr (9, [.int 0, .ref (b 10), .ref (b 11), .ref (b 12), .ref (b 13), .ref (b 14), .ref (b 15), .ref (b 16), .ref (b 17), .ref (b 18), .ref (b 19), .ref (b 20), .ref (b 1), .ref (b 2), .ref (b 3), .ref (b 4), .int 0, .ref (b 5), .int 13, .int 0, .int 0, .int 0, .int 0, .int 0, .int 0, .int (-1), .int 0, .int 0, .int 0, .int 0, .int 0, .ref (b 21), .ref (b 22), .int 0, .ref (b 23), .ref (b 24), .ref (b 25), .ref (b 26), .ref (b 27), .ref (b 28), .ref (b 29), .ref (b 30), .ref (b 31), .ref (b 32), .ref (b 33), .int 0, .int 0, .ref (b 34), .ref (b 35), .ref (b 36), .ref (b 37), .ref (b 38), .int 0, .int 0, .ref (b 39), .ref (b 40), .ref (b 41), .ref (b 42), .ref (b 43), .ref (b 44), .ref (b 45), .int 0, .int 0, .int 0, .ref (b 46), .int 0, .int 0])), ((b 5), .inl ((j 5), 900, .inl (upd f (12 : Int32).toNatClampNeg ((p0 >>> (24 &&& 31)) &&& 255))))] H := hP
  have hD : va_D A [((b 0), .inr (9, [.int 0, .ref (b 10), .ref (b 11), .ref (b 12), .ref (b 13), .ref (b 14), .ref (b 15), .ref (b 16), .ref (b 17), .ref (b 18), .ref (b 19), .ref (b 20), .ref (b 1), .ref (b 2), .ref (b 3), .ref (b 4), .int 0, .ref (b 5), .int 13, .int 0, .int 0, .int 0, .int 0, .int 0, .int 0, .int (-1), .int 0, .int 0, .int 0, .int 0, .int 0, .ref (b 21), .ref (b 22), .int 0, .ref (b 23), .ref (b 24), .ref (b 25), .ref (b 26), .ref (b 27), .ref (b 28), .ref (b 29), .ref (b 30), .ref (b 31), .ref (b 32), .ref (b 33), .int 0, .int 0, .ref (b 34), .ref (b 35), .ref (b 36), .ref (b 37), .ref (b 38), .int 0, .int 0, .ref (b 39), .ref (b 40), .ref (b 41), .ref (b 42), .ref (b 43), .ref (b 44), .ref (b 45), .int 0, .int 0, .int 0, .ref (b 46), .int 0, .int 0])), ((b 5), .inl ((j 5), 900, .inl (upd f (12 : Int32).toNatClampNeg ((p0 >>> (24 &&& 31)) &&& 255))))] := hD
  refine lv_iinc (v := 16) (lv' := [(2, .int 16), (0, .ref (b 0)), (1, .int p0)]) hx hb dX9_four_33 hl (k := 0) rfl (by decide) (by decide) rfl (fun ls hl => ?_)
  refine lv_goto (tgt := 3) hx hb dX9_four_36 (by decide) ?_
  refine lv_iload_n hx hb dX9_four_3 rfl (lv_at hl 0 rfl) ?_
  refine lv_if_lt (tgt := 39) hx hb dX9_four_4 (by decide) (fun z => absurd z (by decide)) (fun _ => ?_)
  refine lv_aload_n hx hb dX9_four_7 rfl (lv_at hl 1 rfl) ?_
  refine va_get (D := (dC, dI)) (ci := 9) (v := .ref (b 5)) (C := RX9) (T := TX9) (N := 67) hx hb hts hiX9 hown hK hP 0 rfl rfl 17 (by decide) v_1 (fun _ h9 => h9) rfl dX9_four_8 ?_
  refine lv_aload_n hx hb dX9_four_11 rfl (lv_at hl 1 rfl) ?_
  refine va_get (D := (dC, dI)) (ci := 9) (v := .int 13) (C := RX9) (T := TX9) (N := 67) hx hb hts hiX9 hown hK hP 0 rfl rfl 18 (by decide) v_2 (fun _ h9 => h9) rfl dX9_four_12 ?_
  refine lv_iload_n hx hb dX9_four_15 rfl (lv_at hl 2 rfl) ?_
  refine lv_iload_n hx hb dX9_four_16 rfl (lv_at hl 0 rfl) ?_
  refine lv_ishr hx hb dX9_four_17 ?_
  refine lv_sipush (v := 255) hx hb dX9_four_18 (by decide) ?_
  refine lv_iand hx hb dX9_four_21 ?_
  refine va_iast hx hb hK hP hD hS 1 0 rfl rfl (show ¬ (_ ∨ _) by decide) dX9_four_22 (fun H locs hP hD hS => ?_)
  have hP : va_P (dC, dI) vwCl [((b 0), .inr (9, [.int 0, .ref (b 10), .ref (b 11), .ref (b 12), .ref (b 13), .ref (b 14), .ref (b 15), .ref (b 16), .ref (b 17), .ref (b 18), .ref (b 19), .ref (b 20), .ref (b 1), .ref (b 2), .ref (b 3), .ref (b 4), .int 0, .ref (b 5), .int 13, .int 0, .int 0, .int 0, .int 0, .int 0, .int 0, .int (-1), .int 0, .int 0, .int 0, .int 0, .int 0, .ref (b 21), .ref (b 22), .int 0, .ref (b 23), .ref (b 24), .ref (b 25), .ref (b 26), .ref (b 27), .ref (b 28), .ref (b 29), .ref (b 30), .ref (b 31), .ref (b 32), .ref (b 33), .int 0, .int 0, .ref (b 34), .ref (b 35), .ref (b 36), .ref (b 37), .ref (b 38), .int 0, .int 0, .ref (b 39), .ref (b 40), .ref (b 41), .ref (b 42), .ref (b 43), .ref (b 44), .ref (b 45), .int 0, .int 0, .int 0, .ref (b 46), .int 0, .int 0])), ((b 5), .inl ((j 5), 900, .inl (upd (upd f (12 : Int32).toNatClampNeg ((p0 >>> (24 &&& 31)) &&& 255)) (13 : Int32).toNatClampNeg ((p0 >>> (16 &&& 31)) &&& 255))))] H := hP
  have hD : va_D A [((b 0), .inr (9, [.int 0, .ref (b 10), .ref (b 11), .ref (b 12), .ref (b 13), .ref (b 14), .ref (b 15), .ref (b 16), .ref (b 17), .ref (b 18), .ref (b 19), .ref (b 20), .ref (b 1), .ref (b 2), .ref (b 3), .ref (b 4), .int 0, .ref (b 5), .int 13, .int 0, .int 0, .int 0, .int 0, .int 0, .int 0, .int (-1), .int 0, .int 0, .int 0, .int 0, .int 0, .ref (b 21), .ref (b 22), .int 0, .ref (b 23), .ref (b 24), .ref (b 25), .ref (b 26), .ref (b 27), .ref (b 28), .ref (b 29), .ref (b 30), .ref (b 31), .ref (b 32), .ref (b 33), .int 0, .int 0, .ref (b 34), .ref (b 35), .ref (b 36), .ref (b 37), .ref (b 38), .int 0, .int 0, .ref (b 39), .ref (b 40), .ref (b 41), .ref (b 42), .ref (b 43), .ref (b 44), .ref (b 45), .int 0, .int 0, .int 0, .ref (b 46), .int 0, .int 0])), ((b 5), .inl ((j 5), 900, .inl (upd (upd f (12 : Int32).toNatClampNeg ((p0 >>> (24 &&& 31)) &&& 255)) (13 : Int32).toNatClampNeg ((p0 >>> (16 &&& 31)) &&& 255))))] := hD
  refine lv_aload_n hx hb dX9_four_23 rfl (lv_at hl 1 rfl) ?_
  refine lv_dup hx hb dX9_four_24 rfl ?_
  refine va_get (D := (dC, dI)) (ci := 9) (v := .int 13) (C := RX9) (T := TX9) (N := 67) hx hb hts hiX9 hown hK hP 0 rfl rfl 18 (by decide) v_2 (fun _ h9 => h9) rfl dX9_four_25 ?_
  refine lv_iconst (v := 1) hx hb dX9_four_28 (by decide) ?_
  refine lv_iadd hx hb dX9_four_29 ?_
  refine lv_topi (fun y_2 ey_2 => ?_)
  obtain rfl : y_2 = 14 := ey_2.trans (by decide)
  refine va_put (D := (dC, dI)) (ci := 9) (v := .int 14) (ty := .int) (C := RX9) (T := TX9) (N := 67) hx hb hts hiX9 tyX9 tyX9_ok nmX9 hown hK hP hD hS 0 rfl rfl 18 (by decide) v_2 (fun _ h9 => h9) rfl (by decide +kernel) rfl rfl (Nat.le_of_ble_eq_true rfl) dX9_four_30 (fun H locs hP hD hS => ?_)
  have hP : va_P (dC, dI) vwCl [((b 0), .inr (9, [.int 0, .ref (b 10), .ref (b 11), .ref (b 12), .ref (b 13), .ref (b 14), .ref (b 15), .ref (b 16), .ref (b 17), .ref (b 18), .ref (b 19), .ref (b 20), .ref (b 1), .ref (b 2), .ref (b 3), .ref (b 4), .int 0, .ref (b 5), .int 14, .int 0, .int 0, .int 0, .int 0, .int 0, .int 0, .int (-1), .int 0, .int 0, .int 0, .int 0, .int 0, .ref (b 21), .ref (b 22), .int 0, .ref (b 23), .ref (b 24), .ref (b 25), .ref (b 26), .ref (b 27), .ref (b 28), .ref (b 29), .ref (b 30), .ref (b 31), .ref (b 32), .ref (b 33), .int 0, .int 0, .ref (b 34), .ref (b 35), .ref (b 36), .ref (b 37), .ref (b 38), .int 0, .int 0, .ref (b 39), .ref (b 40), .ref (b 41), .ref (b 42), .ref (b 43), .ref (b 44), .ref (b 45), .int 0, .int 0, .int 0, .ref (b 46), .int 0, .int 0])), ((b 5), .inl ((j 5), 900, .inl (upd (upd f (12 : Int32).toNatClampNeg ((p0 >>> (24 &&& 31)) &&& 255)) (13 : Int32).toNatClampNeg ((p0 >>> (16 &&& 31)) &&& 255))))] H := hP
  have hD : va_D A [((b 0), .inr (9, [.int 0, .ref (b 10), .ref (b 11), .ref (b 12), .ref (b 13), .ref (b 14), .ref (b 15), .ref (b 16), .ref (b 17), .ref (b 18), .ref (b 19), .ref (b 20), .ref (b 1), .ref (b 2), .ref (b 3), .ref (b 4), .int 0, .ref (b 5), .int 14, .int 0, .int 0, .int 0, .int 0, .int 0, .int 0, .int (-1), .int 0, .int 0, .int 0, .int 0, .int 0, .ref (b 21), .ref (b 22), .int 0, .ref (b 23), .ref (b 24), .ref (b 25), .ref (b 26), .ref (b 27), .ref (b 28), .ref (b 29), .ref (b 30), .ref (b 31), .ref (b 32), .ref (b 33), .int 0, .int 0, .ref (b 34), .ref (b 35), .ref (b 36), .ref (b 37), .ref (b 38), .int 0, .int 0, .ref (b 39), .ref (b 40), .ref (b 41), .ref (b 42), .ref (b 43), .ref (b 44), .ref (b 45), .int 0, .int 0, .int 0, .ref (b 46), .int 0, .int 0])), ((b 5), .inl ((j 5), 900, .inl (upd (upd f (12 : Int32).toNatClampNeg ((p0 >>> (24 &&& 31)) &&& 255)) (13 : Int32).toNatClampNeg ((p0 >>> (16 &&& 31)) &&& 255))))] := hD
  refine lv_iinc (v := 8) (lv' := [(2, .int 8), (0, .ref (b 0)), (1, .int p0)]) hx hb dX9_four_33 hl (k := 0) rfl (by decide) (by decide) rfl (fun ls hl => ?_)
  refine lv_goto (tgt := 3) hx hb dX9_four_36 (by decide) ?_
  refine lv_iload_n hx hb dX9_four_3 rfl (lv_at hl 0 rfl) ?_
  refine lv_if_lt (tgt := 39) hx hb dX9_four_4 (by decide) (fun z => absurd z (by decide)) (fun _ => ?_)
  refine lv_aload_n hx hb dX9_four_7 rfl (lv_at hl 1 rfl) ?_
  refine va_get (D := (dC, dI)) (ci := 9) (v := .ref (b 5)) (C := RX9) (T := TX9) (N := 67) hx hb hts hiX9 hown hK hP 0 rfl rfl 17 (by decide) v_1 (fun _ h9 => h9) rfl dX9_four_8 ?_
  refine lv_aload_n hx hb dX9_four_11 rfl (lv_at hl 1 rfl) ?_
  refine va_get (D := (dC, dI)) (ci := 9) (v := .int 14) (C := RX9) (T := TX9) (N := 67) hx hb hts hiX9 hown hK hP 0 rfl rfl 18 (by decide) v_2 (fun _ h9 => h9) rfl dX9_four_12 ?_
  refine lv_iload_n hx hb dX9_four_15 rfl (lv_at hl 2 rfl) ?_
  refine lv_iload_n hx hb dX9_four_16 rfl (lv_at hl 0 rfl) ?_
  refine lv_ishr hx hb dX9_four_17 ?_
  refine lv_sipush (v := 255) hx hb dX9_four_18 (by decide) ?_
  refine lv_iand hx hb dX9_four_21 ?_
  refine va_iast hx hb hK hP hD hS 1 0 rfl rfl (show ¬ (_ ∨ _) by decide) dX9_four_22 (fun H locs hP hD hS => ?_)
  have hP : va_P (dC, dI) vwCl [((b 0), .inr (9, [.int 0, .ref (b 10), .ref (b 11), .ref (b 12), .ref (b 13), .ref (b 14), .ref (b 15), .ref (b 16), .ref (b 17), .ref (b 18), .ref (b 19), .ref (b 20), .ref (b 1), .ref (b 2), .ref (b 3), .ref (b 4), .int 0, .ref (b 5), .int 14, .int 0, .int 0, .int 0, .int 0, .int 0, .int 0, .int (-1), .int 0, .int 0, .int 0, .int 0, .int 0, .ref (b 21), .ref (b 22), .int 0, .ref (b 23), .ref (b 24), .ref (b 25), .ref (b 26), .ref (b 27), .ref (b 28), .ref (b 29), .ref (b 30), .ref (b 31), .ref (b 32), .ref (b 33), .int 0, .int 0, .ref (b 34), .ref (b 35), .ref (b 36), .ref (b 37), .ref (b 38), .int 0, .int 0, .ref (b 39), .ref (b 40), .ref (b 41), .ref (b 42), .ref (b 43), .ref (b 44), .ref (b 45), .int 0, .int 0, .int 0, .ref (b 46), .int 0, .int 0])), ((b 5), .inl ((j 5), 900, .inl (upd (upd (upd f (12 : Int32).toNatClampNeg ((p0 >>> (24 &&& 31)) &&& 255)) (13 : Int32).toNatClampNeg ((p0 >>> (16 &&& 31)) &&& 255)) (14 : Int32).toNatClampNeg ((p0 >>> (8 &&& 31)) &&& 255))))] H := hP
  have hD : va_D A [((b 0), .inr (9, [.int 0, .ref (b 10), .ref (b 11), .ref (b 12), .ref (b 13), .ref (b 14), .ref (b 15), .ref (b 16), .ref (b 17), .ref (b 18), .ref (b 19), .ref (b 20), .ref (b 1), .ref (b 2), .ref (b 3), .ref (b 4), .int 0, .ref (b 5), .int 14, .int 0, .int 0, .int 0, .int 0, .int 0, .int 0, .int (-1), .int 0, .int 0, .int 0, .int 0, .int 0, .ref (b 21), .ref (b 22), .int 0, .ref (b 23), .ref (b 24), .ref (b 25), .ref (b 26), .ref (b 27), .ref (b 28), .ref (b 29), .ref (b 30), .ref (b 31), .ref (b 32), .ref (b 33), .int 0, .int 0, .ref (b 34), .ref (b 35), .ref (b 36), .ref (b 37), .ref (b 38), .int 0, .int 0, .ref (b 39), .ref (b 40), .ref (b 41), .ref (b 42), .ref (b 43), .ref (b 44), .ref (b 45), .int 0, .int 0, .int 0, .ref (b 46), .int 0, .int 0])), ((b 5), .inl ((j 5), 900, .inl (upd (upd (upd f (12 : Int32).toNatClampNeg ((p0 >>> (24 &&& 31)) &&& 255)) (13 : Int32).toNatClampNeg ((p0 >>> (16 &&& 31)) &&& 255)) (14 : Int32).toNatClampNeg ((p0 >>> (8 &&& 31)) &&& 255))))] := hD
  refine lv_aload_n hx hb dX9_four_23 rfl (lv_at hl 1 rfl) ?_
  refine lv_dup hx hb dX9_four_24 rfl ?_
  refine va_get (D := (dC, dI)) (ci := 9) (v := .int 14) (C := RX9) (T := TX9) (N := 67) hx hb hts hiX9 hown hK hP 0 rfl rfl 18 (by decide) v_2 (fun _ h9 => h9) rfl dX9_four_25 ?_
  refine lv_iconst (v := 1) hx hb dX9_four_28 (by decide) ?_
  refine lv_iadd hx hb dX9_four_29 ?_
  refine lv_topi (fun y_3 ey_3 => ?_)
  obtain rfl : y_3 = 15 := ey_3.trans (by decide)
  refine va_put (D := (dC, dI)) (ci := 9) (v := .int 15) (ty := .int) (C := RX9) (T := TX9) (N := 67) hx hb hts hiX9 tyX9 tyX9_ok nmX9 hown hK hP hD hS 0 rfl rfl 18 (by decide) v_2 (fun _ h9 => h9) rfl (by decide +kernel) rfl rfl (Nat.le_of_ble_eq_true rfl) dX9_four_30 (fun H locs hP hD hS => ?_)
  have hP : va_P (dC, dI) vwCl [((b 0), .inr (9, [.int 0, .ref (b 10), .ref (b 11), .ref (b 12), .ref (b 13), .ref (b 14), .ref (b 15), .ref (b 16), .ref (b 17), .ref (b 18), .ref (b 19), .ref (b 20), .ref (b 1), .ref (b 2), .ref (b 3), .ref (b 4), .int 0, .ref (b 5), .int 15, .int 0, .int 0, .int 0, .int 0, .int 0, .int 0, .int (-1), .int 0, .int 0, .int 0, .int 0, .int 0, .ref (b 21), .ref (b 22), .int 0, .ref (b 23), .ref (b 24), .ref (b 25), .ref (b 26), .ref (b 27), .ref (b 28), .ref (b 29), .ref (b 30), .ref (b 31), .ref (b 32), .ref (b 33), .int 0, .int 0, .ref (b 34), .ref (b 35), .ref (b 36), .ref (b 37), .ref (b 38), .int 0, .int 0, .ref (b 39), .ref (b 40), .ref (b 41), .ref (b 42), .ref (b 43), .ref (b 44), .ref (b 45), .int 0, .int 0, .int 0, .ref (b 46), .int 0, .int 0])), ((b 5), .inl ((j 5), 900, .inl (upd (upd (upd f (12 : Int32).toNatClampNeg ((p0 >>> (24 &&& 31)) &&& 255)) (13 : Int32).toNatClampNeg ((p0 >>> (16 &&& 31)) &&& 255)) (14 : Int32).toNatClampNeg ((p0 >>> (8 &&& 31)) &&& 255))))] H := hP
  have hD : va_D A [((b 0), .inr (9, [.int 0, .ref (b 10), .ref (b 11), .ref (b 12), .ref (b 13), .ref (b 14), .ref (b 15), .ref (b 16), .ref (b 17), .ref (b 18), .ref (b 19), .ref (b 20), .ref (b 1), .ref (b 2), .ref (b 3), .ref (b 4), .int 0, .ref (b 5), .int 15, .int 0, .int 0, .int 0, .int 0, .int 0, .int 0, .int (-1), .int 0, .int 0, .int 0, .int 0, .int 0, .ref (b 21), .ref (b 22), .int 0, .ref (b 23), .ref (b 24), .ref (b 25), .ref (b 26), .ref (b 27), .ref (b 28), .ref (b 29), .ref (b 30), .ref (b 31), .ref (b 32), .ref (b 33), .int 0, .int 0, .ref (b 34), .ref (b 35), .ref (b 36), .ref (b 37), .ref (b 38), .int 0, .int 0, .ref (b 39), .ref (b 40), .ref (b 41), .ref (b 42), .ref (b 43), .ref (b 44), .ref (b 45), .int 0, .int 0, .int 0, .ref (b 46), .int 0, .int 0])), ((b 5), .inl ((j 5), 900, .inl (upd (upd (upd f (12 : Int32).toNatClampNeg ((p0 >>> (24 &&& 31)) &&& 255)) (13 : Int32).toNatClampNeg ((p0 >>> (16 &&& 31)) &&& 255)) (14 : Int32).toNatClampNeg ((p0 >>> (8 &&& 31)) &&& 255))))] := hD
  refine lv_iinc (v := 0) (lv' := [(2, .int 0), (0, .ref (b 0)), (1, .int p0)]) hx hb dX9_four_33 hl (k := 0) rfl (by decide) (by decide) rfl (fun ls hl => ?_)
  refine lv_goto (tgt := 3) hx hb dX9_four_36 (by decide) ?_
  refine lv_iload_n hx hb dX9_four_3 rfl (lv_at hl 0 rfl) ?_
  refine lv_if_lt (tgt := 39) hx hb dX9_four_4 (by decide) (fun z => absurd z (by decide)) (fun _ => ?_)
  refine lv_aload_n hx hb dX9_four_7 rfl (lv_at hl 1 rfl) ?_
  refine va_get (D := (dC, dI)) (ci := 9) (v := .ref (b 5)) (C := RX9) (T := TX9) (N := 67) hx hb hts hiX9 hown hK hP 0 rfl rfl 17 (by decide) v_1 (fun _ h9 => h9) rfl dX9_four_8 ?_
  refine lv_aload_n hx hb dX9_four_11 rfl (lv_at hl 1 rfl) ?_
  refine va_get (D := (dC, dI)) (ci := 9) (v := .int 15) (C := RX9) (T := TX9) (N := 67) hx hb hts hiX9 hown hK hP 0 rfl rfl 18 (by decide) v_2 (fun _ h9 => h9) rfl dX9_four_12 ?_
  refine lv_iload_n hx hb dX9_four_15 rfl (lv_at hl 2 rfl) ?_
  refine lv_iload_n hx hb dX9_four_16 rfl (lv_at hl 0 rfl) ?_
  refine lv_ishr hx hb dX9_four_17 ?_
  refine lv_sipush (v := 255) hx hb dX9_four_18 (by decide) ?_
  refine lv_iand hx hb dX9_four_21 ?_
  refine va_iast hx hb hK hP hD hS 1 0 rfl rfl (show ¬ (_ ∨ _) by decide) dX9_four_22 (fun H locs hP hD hS => ?_)
  have hP : va_P (dC, dI) vwCl [((b 0), .inr (9, [.int 0, .ref (b 10), .ref (b 11), .ref (b 12), .ref (b 13), .ref (b 14), .ref (b 15), .ref (b 16), .ref (b 17), .ref (b 18), .ref (b 19), .ref (b 20), .ref (b 1), .ref (b 2), .ref (b 3), .ref (b 4), .int 0, .ref (b 5), .int 15, .int 0, .int 0, .int 0, .int 0, .int 0, .int 0, .int (-1), .int 0, .int 0, .int 0, .int 0, .int 0, .ref (b 21), .ref (b 22), .int 0, .ref (b 23), .ref (b 24), .ref (b 25), .ref (b 26), .ref (b 27), .ref (b 28), .ref (b 29), .ref (b 30), .ref (b 31), .ref (b 32), .ref (b 33), .int 0, .int 0, .ref (b 34), .ref (b 35), .ref (b 36), .ref (b 37), .ref (b 38), .int 0, .int 0, .ref (b 39), .ref (b 40), .ref (b 41), .ref (b 42), .ref (b 43), .ref (b 44), .ref (b 45), .int 0, .int 0, .int 0, .ref (b 46), .int 0, .int 0])), ((b 5), .inl ((j 5), 900, .inl (upd (upd (upd (upd f (12 : Int32).toNatClampNeg ((p0 >>> (24 &&& 31)) &&& 255)) (13 : Int32).toNatClampNeg ((p0 >>> (16 &&& 31)) &&& 255)) (14 : Int32).toNatClampNeg ((p0 >>> (8 &&& 31)) &&& 255)) (15 : Int32).toNatClampNeg ((p0 >>> (0 &&& 31)) &&& 255))))] H := hP
  have hD : va_D A [((b 0), .inr (9, [.int 0, .ref (b 10), .ref (b 11), .ref (b 12), .ref (b 13), .ref (b 14), .ref (b 15), .ref (b 16), .ref (b 17), .ref (b 18), .ref (b 19), .ref (b 20), .ref (b 1), .ref (b 2), .ref (b 3), .ref (b 4), .int 0, .ref (b 5), .int 15, .int 0, .int 0, .int 0, .int 0, .int 0, .int 0, .int (-1), .int 0, .int 0, .int 0, .int 0, .int 0, .ref (b 21), .ref (b 22), .int 0, .ref (b 23), .ref (b 24), .ref (b 25), .ref (b 26), .ref (b 27), .ref (b 28), .ref (b 29), .ref (b 30), .ref (b 31), .ref (b 32), .ref (b 33), .int 0, .int 0, .ref (b 34), .ref (b 35), .ref (b 36), .ref (b 37), .ref (b 38), .int 0, .int 0, .ref (b 39), .ref (b 40), .ref (b 41), .ref (b 42), .ref (b 43), .ref (b 44), .ref (b 45), .int 0, .int 0, .int 0, .ref (b 46), .int 0, .int 0])), ((b 5), .inl ((j 5), 900, .inl (upd (upd (upd (upd f (12 : Int32).toNatClampNeg ((p0 >>> (24 &&& 31)) &&& 255)) (13 : Int32).toNatClampNeg ((p0 >>> (16 &&& 31)) &&& 255)) (14 : Int32).toNatClampNeg ((p0 >>> (8 &&& 31)) &&& 255)) (15 : Int32).toNatClampNeg ((p0 >>> (0 &&& 31)) &&& 255))))] := hD
  refine lv_aload_n hx hb dX9_four_23 rfl (lv_at hl 1 rfl) ?_
  refine lv_dup hx hb dX9_four_24 rfl ?_
  refine va_get (D := (dC, dI)) (ci := 9) (v := .int 15) (C := RX9) (T := TX9) (N := 67) hx hb hts hiX9 hown hK hP 0 rfl rfl 18 (by decide) v_2 (fun _ h9 => h9) rfl dX9_four_25 ?_
  refine lv_iconst (v := 1) hx hb dX9_four_28 (by decide) ?_
  refine lv_iadd hx hb dX9_four_29 ?_
  refine lv_topi (fun y_4 ey_4 => ?_)
  obtain rfl : y_4 = 16 := ey_4.trans (by decide)
  refine va_put (D := (dC, dI)) (ci := 9) (v := .int 16) (ty := .int) (C := RX9) (T := TX9) (N := 67) hx hb hts hiX9 tyX9 tyX9_ok nmX9 hown hK hP hD hS 0 rfl rfl 18 (by decide) v_2 (fun _ h9 => h9) rfl (by decide +kernel) rfl rfl (Nat.le_of_ble_eq_true rfl) dX9_four_30 (fun H locs hP hD hS => ?_)
  have hP : va_P (dC, dI) vwCl [((b 0), .inr (9, [.int 0, .ref (b 10), .ref (b 11), .ref (b 12), .ref (b 13), .ref (b 14), .ref (b 15), .ref (b 16), .ref (b 17), .ref (b 18), .ref (b 19), .ref (b 20), .ref (b 1), .ref (b 2), .ref (b 3), .ref (b 4), .int 0, .ref (b 5), .int 16, .int 0, .int 0, .int 0, .int 0, .int 0, .int 0, .int (-1), .int 0, .int 0, .int 0, .int 0, .int 0, .ref (b 21), .ref (b 22), .int 0, .ref (b 23), .ref (b 24), .ref (b 25), .ref (b 26), .ref (b 27), .ref (b 28), .ref (b 29), .ref (b 30), .ref (b 31), .ref (b 32), .ref (b 33), .int 0, .int 0, .ref (b 34), .ref (b 35), .ref (b 36), .ref (b 37), .ref (b 38), .int 0, .int 0, .ref (b 39), .ref (b 40), .ref (b 41), .ref (b 42), .ref (b 43), .ref (b 44), .ref (b 45), .int 0, .int 0, .int 0, .ref (b 46), .int 0, .int 0])), ((b 5), .inl ((j 5), 900, .inl (upd (upd (upd (upd f (12 : Int32).toNatClampNeg ((p0 >>> (24 &&& 31)) &&& 255)) (13 : Int32).toNatClampNeg ((p0 >>> (16 &&& 31)) &&& 255)) (14 : Int32).toNatClampNeg ((p0 >>> (8 &&& 31)) &&& 255)) (15 : Int32).toNatClampNeg ((p0 >>> (0 &&& 31)) &&& 255))))] H := hP
  have hD : va_D A [((b 0), .inr (9, [.int 0, .ref (b 10), .ref (b 11), .ref (b 12), .ref (b 13), .ref (b 14), .ref (b 15), .ref (b 16), .ref (b 17), .ref (b 18), .ref (b 19), .ref (b 20), .ref (b 1), .ref (b 2), .ref (b 3), .ref (b 4), .int 0, .ref (b 5), .int 16, .int 0, .int 0, .int 0, .int 0, .int 0, .int 0, .int (-1), .int 0, .int 0, .int 0, .int 0, .int 0, .ref (b 21), .ref (b 22), .int 0, .ref (b 23), .ref (b 24), .ref (b 25), .ref (b 26), .ref (b 27), .ref (b 28), .ref (b 29), .ref (b 30), .ref (b 31), .ref (b 32), .ref (b 33), .int 0, .int 0, .ref (b 34), .ref (b 35), .ref (b 36), .ref (b 37), .ref (b 38), .int 0, .int 0, .ref (b 39), .ref (b 40), .ref (b 41), .ref (b 42), .ref (b 43), .ref (b 44), .ref (b 45), .int 0, .int 0, .int 0, .ref (b 46), .int 0, .int 0])), ((b 5), .inl ((j 5), 900, .inl (upd (upd (upd (upd f (12 : Int32).toNatClampNeg ((p0 >>> (24 &&& 31)) &&& 255)) (13 : Int32).toNatClampNeg ((p0 >>> (16 &&& 31)) &&& 255)) (14 : Int32).toNatClampNeg ((p0 >>> (8 &&& 31)) &&& 255)) (15 : Int32).toNatClampNeg ((p0 >>> (0 &&& 31)) &&& 255))))] := hD
  refine lv_iinc (v := (-8)) (lv' := [(2, .int (-8)), (0, .ref (b 0)), (1, .int p0)]) hx hb dX9_four_33 hl (k := 0) rfl (by decide) (by decide) rfl (fun ls hl => ?_)
  refine lv_goto (tgt := 3) hx hb dX9_four_36 (by decide) ?_
  refine lv_iload_n hx hb dX9_four_3 rfl (lv_at hl 0 rfl) ?_
  refine lv_if_lt (tgt := 39) hx hb dX9_four_4 (by decide) (fun _ => ?_) (fun z => absurd z (by decide))
  have hP9 := hP.sub (ws' := [((b 0), .inr (9, [.int 0, .ref (b 10), .ref (b 11), .ref (b 12), .ref (b 13), .ref (b 14), .ref (b 15), .ref (b 16), .ref (b 17), .ref (b 18), .ref (b 19), .ref (b 20), .ref (b 1), .ref (b 2), .ref (b 3), .ref (b 4), .int 0, .ref (b 5), .int 16, .int 0, .int 0, .int 0, .int 0, .int 0, .int 0, .int (-1), .int 0, .int 0, .int 0, .int 0, .int 0, .ref (b 21), .ref (b 22), .int 0, .ref (b 23), .ref (b 24), .ref (b 25), .ref (b 26), .ref (b 27), .ref (b 28), .ref (b 29), .ref (b 30), .ref (b 31), .ref (b 32), .ref (b 33), .int 0, .int 0, .ref (b 34), .ref (b 35), .ref (b 36), .ref (b 37), .ref (b 38), .int 0, .int 0, .ref (b 39), .ref (b 40), .ref (b 41), .ref (b 42), .ref (b 43), .ref (b 44), .ref (b 45), .int 0, .int 0, .int 0, .ref (b 46), .int 0, .int 0])), ((b 5), .inl ((j 5), 900, .inl (upd (upd (upd (upd f (12 : Int32).toNatClampNeg ((p0 >>> (24 &&& 31)) &&& 255)) (13 : Int32).toNatClampNeg ((p0 >>> (16 &&& 31)) &&& 255)) (14 : Int32).toNatClampNeg ((p0 >>> (8 &&& 31)) &&& 255)) (15 : Int32).toNatClampNeg ((p0 >>> (0 &&& 31)) &&& 255))))]) [0, 1] rfl
  have hD9 := hD.sub (ws' := [((b 0), .inr (9, [.int 0, .ref (b 10), .ref (b 11), .ref (b 12), .ref (b 13), .ref (b 14), .ref (b 15), .ref (b 16), .ref (b 17), .ref (b 18), .ref (b 19), .ref (b 20), .ref (b 1), .ref (b 2), .ref (b 3), .ref (b 4), .int 0, .ref (b 5), .int 16, .int 0, .int 0, .int 0, .int 0, .int 0, .int 0, .int (-1), .int 0, .int 0, .int 0, .int 0, .int 0, .ref (b 21), .ref (b 22), .int 0, .ref (b 23), .ref (b 24), .ref (b 25), .ref (b 26), .ref (b 27), .ref (b 28), .ref (b 29), .ref (b 30), .ref (b 31), .ref (b 32), .ref (b 33), .int 0, .int 0, .ref (b 34), .ref (b 35), .ref (b 36), .ref (b 37), .ref (b 38), .int 0, .int 0, .ref (b 39), .ref (b 40), .ref (b 41), .ref (b 42), .ref (b 43), .ref (b 44), .ref (b 45), .int 0, .int 0, .int 0, .ref (b 46), .int 0, .int 0])), ((b 5), .inl ((j 5), 900, .inl (upd (upd (upd (upd f (12 : Int32).toNatClampNeg ((p0 >>> (24 &&& 31)) &&& 255)) (13 : Int32).toNatClampNeg ((p0 >>> (16 &&& 31)) &&& 255)) (14 : Int32).toNatClampNeg ((p0 >>> (8 &&& 31)) &&& 255)) (15 : Int32).toNatClampNeg ((p0 >>> (0 &&& 31)) &&& 255))))]) [0, 1] (by decide) rfl
  have hK9 := hK.sub (tys' := [(j 5, .int)]) [0] rfl
  exact W.vret hx hb hr (fun t ht hW => ⟨⟨(), rfl, trivial, ⟨upd (upd (upd (upd f (12 : Int32).toNatClampNeg ((p0 >>> (24 &&& 31)) &&& 255)) (13 : Int32).toNatClampNeg ((p0 >>> (16 &&& 31)) &&& 255)) (14 : Int32).toNatClampNeg ((p0 >>> (8 &&& 31)) &&& 255)) (15 : Int32).toNatClampNeg ((p0 >>> (0 &&& 31)) &&& 255), by rw [ht]; exact hP9, va_K.moved hW.alike hK9, hD9⟩⟩, hS.F ht⟩) hS.2.2 dX9_four_39
def vs_X8_putBytes_16 : List Cond := .code yX8_putBytes cX8_putBytes 3 none :: ([.fieldLink RX8 79 "ClockReach" "taped" "I", .fieldLink RX8 9 "ClockReach" "tape" "[I"] ++ wsX80)
set_option maxHeartbeats 4000000 in
set_option maxRecDepth 100000 in
theorem c_X8_putBytes_16 (l : Launch) (dC : Nat → ClassId) (dI : Nat → Nat → Nat) (sz : Nat) (a : Nat → Nat) (k : Nat → ClassId) (f : Nat → Int32) (p0 : Int32) : Met l yX8_putBytes vs_X8_putBytes_16 ({ frames := 0, cells := 0, slots := 0, locals := 0 }) (va_Pc [.ref (a 0), .int p0] (pu_B (dC, dI) [((a 0), .inr (8, [.ref (a 6), .int 16, .ref (a 4), .ref (a 1), .ref (a 5), .ref (a 2), .ref (a 10), .int 0, .ref (a 11), .ref (a 12), .int 0, .ref (a 13), .ref (a 14), .ref (a 3), .ref (a 15), .ref (a 16)])), ((a 6), .inl ((k 0), 900, .inl f))] [(k 0, .int)] sz)) (va_Qv (fun (_ : Unit) => True) (fun _ t => ∃ (g : Nat → Int32), pu_E (dC, dI) [((a 0), .inr (8, [.ref (a 6), .int 20, .ref (a 4), .ref (a 1), .ref (a 5), .ref (a 2), .ref (a 10), .int 0, .ref (a 11), .ref (a 12), .int 0, .ref (a 13), .ref (a 14), .ref (a 3), .ref (a 15), .ref (a 16)])), ((a 6), .inl ((k 0), 900, .inl g))] [(k 0, .int)] (va_A ([((a 0), .inr (8, [.ref (a 6), .int 16, .ref (a 4), .ref (a 1), .ref (a 5), .ref (a 2), .ref (a 10), .int 0, .ref (a 11), .ref (a 12), .int 0, .ref (a 13), .ref (a 14), .ref (a 3), .ref (a 15), .ref (a 16)])), ((a 6), .inl ((k 0), 900, .inl f))]) sz) t) (va_A ([((a 0), .inr (8, [.ref (a 6), .int 16, .ref (a 4), .ref (a 1), .ref (a 5), .ref (a 2), .ref (a 10), .int 0, .ref (a 11), .ref (a 12), .int 0, .ref (a 13), .ref (a 14), .ref (a 3), .ref (a 15), .ref (a 16)])), ((a 6), .inl ((k 0), 900, .inl f))]) sz)) 0 0 (va_A ([((a 0), .inr (8, [.ref (a 6), .int 16, .ref (a 4), .ref (a 1), .ref (a 5), .ref (a 2), .ref (a 10), .int 0, .ref (a 11), .ref (a 12), .int 0, .ref (a 13), .ref (a 14), .ref (a 3), .ref (a 15), .ref (a 16)])), ((a 6), .inl ((k 0), 900, .inl f))]) sz) := by
  refine Met.ofW (cc := cX8_putBytes) (maxL := 3) (ret := none) (by decide) rfl ?_
  intro p e s m args below meth c s₁ B hml hv
  obtain ⟨rfl, rfl, hP, hK, hD0⟩ := hv
  have hx := B.exec
  have hb := B.bytes
  have hr := B.returns
  have hts := atoms_spec (ws := vs_X8_putBytes_16) B.pre
  have v_1 := hts (.fieldLink RX8 79 "ClockReach" "taped" "I") (List.mem_of_getElem? (i := 1) rfl)
  have v_2 := hts (.fieldLink RX8 9 "ClockReach" "tape" "[I") (List.mem_of_getElem? (i := 2) rfl)
  have hown : s.vm.findClass RX8 = some m.cls := findClass_of_methodNamed B.named
  have hlocks := B.notSynchronized
  have hiX8 : ∀ w ∈ wsX80, w ∈ vs_X8_putBytes_16 := fun _ h => List.mem_cons_of_mem _ (List.mem_append_right _ h)
  have hD := hD0.self (sz := s.heap.size)
  generalize hAe : va_A ([((a 0), .inr (8, [.ref (a 6), .int 16, .ref (a 4), .ref (a 1), .ref (a 5), .ref (a 2), .ref (a 10), .int 0, .ref (a 11), .ref (a 12), .int 0, .ref (a 13), .ref (a 14), .ref (a 3), .ref (a 15), .ref (a 16)])), ((a 6), .inl ((k 0), 900, .inl f))]) s.heap.size = A at hD ⊢
  have hA : ∀ q : Nat, s.heap.size ≤ q → A q := fun q h => by rw [← hAe]; exact Or.inr h
  have hS : va_S A s.heap s.heap [] := va_S.rf
  have hl := lv_entry ([.ref (a 0), .int p0]) (n := 3) (Nat.le_of_ble_eq_true rfl)
  rw [lg_entry_eq]
  generalize (lg_sl ([.ref (a 0), .int p0]) ++ List.replicate (3 - (lg_sl ([.ref (a 0), .int p0])).length) Slot.unset).toArray = ls at hl ⊢
  have hl : lv_has ls 3 [(0, .ref (a 0)), (1, .int p0)] := hl
  refine lv_bipush (v := 24) hx hb dX8_putBytes_0 (by decide) ?_
  refine lv_istore_n (lv' := [(2, .int 24), (0, .ref (a 0)), (1, .int p0)]) hx hb dX8_putBytes_2 rfl hl (by decide) rfl (fun ls hl => ?_)
  refine lv_iload_n hx hb dX8_putBytes_3 rfl (lv_at hl 0 rfl) ?_
  refine lv_if_lt (tgt := 49) hx hb dX8_putBytes_4 (by decide) (fun z => absurd z (by decide)) (fun _ => ?_)
  refine lv_aload_n hx hb dX8_putBytes_7 rfl (lv_at hl 1 rfl) ?_
  refine va_get (D := (dC, dI)) (ci := 8) (v := .int 16) (C := RX8) (T := TX8) (N := 16) hx hb hts hiX8 hown hK hP 0 rfl rfl 1 (by decide) v_1 (fun _ h9 => h9) rfl dX8_putBytes_8 ?_
  refine lv_sipush (v := 900) hx hb dX8_putBytes_11 (by decide) ?_
  refine lv_icmp_ge (tgt := 49) hx hb dX8_putBytes_14 (by decide) (fun z => absurd z (by decide)) (fun _ => ?_)
  refine lv_aload_n hx hb dX8_putBytes_17 rfl (lv_at hl 1 rfl) ?_
  refine va_get (D := (dC, dI)) (ci := 8) (v := .ref (a 6)) (C := RX8) (T := TX8) (N := 16) hx hb hts hiX8 hown hK hP 0 rfl rfl 0 (by decide) v_2 (fun _ h9 => h9) rfl dX8_putBytes_18 ?_
  refine lv_aload_n hx hb dX8_putBytes_21 rfl (lv_at hl 1 rfl) ?_
  refine va_get (D := (dC, dI)) (ci := 8) (v := .int 16) (C := RX8) (T := TX8) (N := 16) hx hb hts hiX8 hown hK hP 0 rfl rfl 1 (by decide) v_1 (fun _ h9 => h9) rfl dX8_putBytes_22 ?_
  refine lv_iload_n hx hb dX8_putBytes_25 rfl (lv_at hl 2 rfl) ?_
  refine lv_iload_n hx hb dX8_putBytes_26 rfl (lv_at hl 0 rfl) ?_
  refine lv_ishr hx hb dX8_putBytes_27 ?_
  refine lv_sipush (v := 255) hx hb dX8_putBytes_28 (by decide) ?_
  refine lv_iand hx hb dX8_putBytes_31 ?_
  refine va_iast hx hb hK hP hD hS 1 0 rfl rfl (show ¬ (_ ∨ _) by decide) dX8_putBytes_32 (fun H locs hP hD hS => ?_)
  have hP : va_P (dC, dI) vwCl [((a 0), .inr (8, [.ref (a 6), .int 16, .ref (a 4), .ref (a 1), .ref (a 5), .ref (a 2), .ref (a 10), .int 0, .ref (a 11), .ref (a 12), .int 0, .ref (a 13), .ref (a 14), .ref (a 3), .ref (a 15), .ref (a 16)])), ((a 6), .inl ((k 0), 900, .inl (upd f (16 : Int32).toNatClampNeg ((p0 >>> (24 &&& 31)) &&& 255))))] H := hP
  have hD : va_D A [((a 0), .inr (8, [.ref (a 6), .int 16, .ref (a 4), .ref (a 1), .ref (a 5), .ref (a 2), .ref (a 10), .int 0, .ref (a 11), .ref (a 12), .int 0, .ref (a 13), .ref (a 14), .ref (a 3), .ref (a 15), .ref (a 16)])), ((a 6), .inl ((k 0), 900, .inl (upd f (16 : Int32).toNatClampNeg ((p0 >>> (24 &&& 31)) &&& 255))))] := hD
  refine lv_aload_n hx hb dX8_putBytes_33 rfl (lv_at hl 1 rfl) ?_
  refine lv_dup hx hb dX8_putBytes_34 rfl ?_
  refine va_get (D := (dC, dI)) (ci := 8) (v := .int 16) (C := RX8) (T := TX8) (N := 16) hx hb hts hiX8 hown hK hP 0 rfl rfl 1 (by decide) v_1 (fun _ h9 => h9) rfl dX8_putBytes_35 ?_
  refine lv_iconst (v := 1) hx hb dX8_putBytes_38 (by decide) ?_
  refine lv_iadd hx hb dX8_putBytes_39 ?_
  refine lv_topi (fun y_1 ey_1 => ?_)
  obtain rfl : y_1 = 17 := ey_1.trans (by decide)
  refine va_put (D := (dC, dI)) (ci := 8) (v := .int 17) (ty := .int) (C := RX8) (T := TX8) (N := 16) hx hb hts hiX8 tyX8 tyX8_ok nmX8 hown hK hP hD hS 0 rfl rfl 1 (by decide) v_1 (fun _ h9 => h9) rfl (by decide +kernel) rfl rfl (Nat.le_of_ble_eq_true rfl) dX8_putBytes_40 (fun H locs hP hD hS => ?_)
  have hP : va_P (dC, dI) vwCl [((a 0), .inr (8, [.ref (a 6), .int 17, .ref (a 4), .ref (a 1), .ref (a 5), .ref (a 2), .ref (a 10), .int 0, .ref (a 11), .ref (a 12), .int 0, .ref (a 13), .ref (a 14), .ref (a 3), .ref (a 15), .ref (a 16)])), ((a 6), .inl ((k 0), 900, .inl (upd f (16 : Int32).toNatClampNeg ((p0 >>> (24 &&& 31)) &&& 255))))] H := hP
  have hD : va_D A [((a 0), .inr (8, [.ref (a 6), .int 17, .ref (a 4), .ref (a 1), .ref (a 5), .ref (a 2), .ref (a 10), .int 0, .ref (a 11), .ref (a 12), .int 0, .ref (a 13), .ref (a 14), .ref (a 3), .ref (a 15), .ref (a 16)])), ((a 6), .inl ((k 0), 900, .inl (upd f (16 : Int32).toNatClampNeg ((p0 >>> (24 &&& 31)) &&& 255))))] := hD
  refine lv_iinc (v := 16) (lv' := [(2, .int 16), (0, .ref (a 0)), (1, .int p0)]) hx hb dX8_putBytes_43 hl (k := 0) rfl (by decide) (by decide) rfl (fun ls hl => ?_)
  refine lv_goto (tgt := 3) hx hb dX8_putBytes_46 (by decide) ?_
  refine lv_iload_n hx hb dX8_putBytes_3 rfl (lv_at hl 0 rfl) ?_
  refine lv_if_lt (tgt := 49) hx hb dX8_putBytes_4 (by decide) (fun z => absurd z (by decide)) (fun _ => ?_)
  refine lv_aload_n hx hb dX8_putBytes_7 rfl (lv_at hl 1 rfl) ?_
  refine va_get (D := (dC, dI)) (ci := 8) (v := .int 17) (C := RX8) (T := TX8) (N := 16) hx hb hts hiX8 hown hK hP 0 rfl rfl 1 (by decide) v_1 (fun _ h9 => h9) rfl dX8_putBytes_8 ?_
  refine lv_sipush (v := 900) hx hb dX8_putBytes_11 (by decide) ?_
  refine lv_icmp_ge (tgt := 49) hx hb dX8_putBytes_14 (by decide) (fun z => absurd z (by decide)) (fun _ => ?_)
  refine lv_aload_n hx hb dX8_putBytes_17 rfl (lv_at hl 1 rfl) ?_
  refine va_get (D := (dC, dI)) (ci := 8) (v := .ref (a 6)) (C := RX8) (T := TX8) (N := 16) hx hb hts hiX8 hown hK hP 0 rfl rfl 0 (by decide) v_2 (fun _ h9 => h9) rfl dX8_putBytes_18 ?_
  refine lv_aload_n hx hb dX8_putBytes_21 rfl (lv_at hl 1 rfl) ?_
  refine va_get (D := (dC, dI)) (ci := 8) (v := .int 17) (C := RX8) (T := TX8) (N := 16) hx hb hts hiX8 hown hK hP 0 rfl rfl 1 (by decide) v_1 (fun _ h9 => h9) rfl dX8_putBytes_22 ?_
  refine lv_iload_n hx hb dX8_putBytes_25 rfl (lv_at hl 2 rfl) ?_
  refine lv_iload_n hx hb dX8_putBytes_26 rfl (lv_at hl 0 rfl) ?_
  refine lv_ishr hx hb dX8_putBytes_27 ?_
  refine lv_sipush (v := 255) hx hb dX8_putBytes_28 (by decide) ?_
  refine lv_iand hx hb dX8_putBytes_31 ?_
  refine va_iast hx hb hK hP hD hS 1 0 rfl rfl (show ¬ (_ ∨ _) by decide) dX8_putBytes_32 (fun H locs hP hD hS => ?_)
  have hP : va_P (dC, dI) vwCl [((a 0), .inr (8, [.ref (a 6), .int 17, .ref (a 4), .ref (a 1), .ref (a 5), .ref (a 2), .ref (a 10), .int 0, .ref (a 11), .ref (a 12), .int 0, .ref (a 13), .ref (a 14), .ref (a 3), .ref (a 15), .ref (a 16)])), ((a 6), .inl ((k 0), 900, .inl (upd (upd f (16 : Int32).toNatClampNeg ((p0 >>> (24 &&& 31)) &&& 255)) (17 : Int32).toNatClampNeg ((p0 >>> (16 &&& 31)) &&& 255))))] H := hP
  have hD : va_D A [((a 0), .inr (8, [.ref (a 6), .int 17, .ref (a 4), .ref (a 1), .ref (a 5), .ref (a 2), .ref (a 10), .int 0, .ref (a 11), .ref (a 12), .int 0, .ref (a 13), .ref (a 14), .ref (a 3), .ref (a 15), .ref (a 16)])), ((a 6), .inl ((k 0), 900, .inl (upd (upd f (16 : Int32).toNatClampNeg ((p0 >>> (24 &&& 31)) &&& 255)) (17 : Int32).toNatClampNeg ((p0 >>> (16 &&& 31)) &&& 255))))] := hD
  refine lv_aload_n hx hb dX8_putBytes_33 rfl (lv_at hl 1 rfl) ?_
  refine lv_dup hx hb dX8_putBytes_34 rfl ?_
  refine va_get (D := (dC, dI)) (ci := 8) (v := .int 17) (C := RX8) (T := TX8) (N := 16) hx hb hts hiX8 hown hK hP 0 rfl rfl 1 (by decide) v_1 (fun _ h9 => h9) rfl dX8_putBytes_35 ?_
  refine lv_iconst (v := 1) hx hb dX8_putBytes_38 (by decide) ?_
  refine lv_iadd hx hb dX8_putBytes_39 ?_
  refine lv_topi (fun y_2 ey_2 => ?_)
  obtain rfl : y_2 = 18 := ey_2.trans (by decide)
  refine va_put (D := (dC, dI)) (ci := 8) (v := .int 18) (ty := .int) (C := RX8) (T := TX8) (N := 16) hx hb hts hiX8 tyX8 tyX8_ok nmX8 hown hK hP hD hS 0 rfl rfl 1 (by decide) v_1 (fun _ h9 => h9) rfl (by decide +kernel) rfl rfl (Nat.le_of_ble_eq_true rfl) dX8_putBytes_40 (fun H locs hP hD hS => ?_)
  have hP : va_P (dC, dI) vwCl [((a 0), .inr (8, [.ref (a 6), .int 18, .ref (a 4), .ref (a 1), .ref (a 5), .ref (a 2), .ref (a 10), .int 0, .ref (a 11), .ref (a 12), .int 0, .ref (a 13), .ref (a 14), .ref (a 3), .ref (a 15), .ref (a 16)])), ((a 6), .inl ((k 0), 900, .inl (upd (upd f (16 : Int32).toNatClampNeg ((p0 >>> (24 &&& 31)) &&& 255)) (17 : Int32).toNatClampNeg ((p0 >>> (16 &&& 31)) &&& 255))))] H := hP
  have hD : va_D A [((a 0), .inr (8, [.ref (a 6), .int 18, .ref (a 4), .ref (a 1), .ref (a 5), .ref (a 2), .ref (a 10), .int 0, .ref (a 11), .ref (a 12), .int 0, .ref (a 13), .ref (a 14), .ref (a 3), .ref (a 15), .ref (a 16)])), ((a 6), .inl ((k 0), 900, .inl (upd (upd f (16 : Int32).toNatClampNeg ((p0 >>> (24 &&& 31)) &&& 255)) (17 : Int32).toNatClampNeg ((p0 >>> (16 &&& 31)) &&& 255))))] := hD
  refine lv_iinc (v := 8) (lv' := [(2, .int 8), (0, .ref (a 0)), (1, .int p0)]) hx hb dX8_putBytes_43 hl (k := 0) rfl (by decide) (by decide) rfl (fun ls hl => ?_)
  refine lv_goto (tgt := 3) hx hb dX8_putBytes_46 (by decide) ?_
  refine lv_iload_n hx hb dX8_putBytes_3 rfl (lv_at hl 0 rfl) ?_
  refine lv_if_lt (tgt := 49) hx hb dX8_putBytes_4 (by decide) (fun z => absurd z (by decide)) (fun _ => ?_)
  refine lv_aload_n hx hb dX8_putBytes_7 rfl (lv_at hl 1 rfl) ?_
  refine va_get (D := (dC, dI)) (ci := 8) (v := .int 18) (C := RX8) (T := TX8) (N := 16) hx hb hts hiX8 hown hK hP 0 rfl rfl 1 (by decide) v_1 (fun _ h9 => h9) rfl dX8_putBytes_8 ?_
  refine lv_sipush (v := 900) hx hb dX8_putBytes_11 (by decide) ?_
  refine lv_icmp_ge (tgt := 49) hx hb dX8_putBytes_14 (by decide) (fun z => absurd z (by decide)) (fun _ => ?_)
  refine lv_aload_n hx hb dX8_putBytes_17 rfl (lv_at hl 1 rfl) ?_
  refine va_get (D := (dC, dI)) (ci := 8) (v := .ref (a 6)) (C := RX8) (T := TX8) (N := 16) hx hb hts hiX8 hown hK hP 0 rfl rfl 0 (by decide) v_2 (fun _ h9 => h9) rfl dX8_putBytes_18 ?_
  refine lv_aload_n hx hb dX8_putBytes_21 rfl (lv_at hl 1 rfl) ?_
  refine va_get (D := (dC, dI)) (ci := 8) (v := .int 18) (C := RX8) (T := TX8) (N := 16) hx hb hts hiX8 hown hK hP 0 rfl rfl 1 (by decide) v_1 (fun _ h9 => h9) rfl dX8_putBytes_22 ?_
  refine lv_iload_n hx hb dX8_putBytes_25 rfl (lv_at hl 2 rfl) ?_
  refine lv_iload_n hx hb dX8_putBytes_26 rfl (lv_at hl 0 rfl) ?_
  refine lv_ishr hx hb dX8_putBytes_27 ?_
  refine lv_sipush (v := 255) hx hb dX8_putBytes_28 (by decide) ?_
  refine lv_iand hx hb dX8_putBytes_31 ?_
  refine va_iast hx hb hK hP hD hS 1 0 rfl rfl (show ¬ (_ ∨ _) by decide) dX8_putBytes_32 (fun H locs hP hD hS => ?_)
  have hP : va_P (dC, dI) vwCl [((a 0), .inr (8, [.ref (a 6), .int 18, .ref (a 4), .ref (a 1), .ref (a 5), .ref (a 2), .ref (a 10), .int 0, .ref (a 11), .ref (a 12), .int 0, .ref (a 13), .ref (a 14), .ref (a 3), .ref (a 15), .ref (a 16)])), ((a 6), .inl ((k 0), 900, .inl (upd (upd (upd f (16 : Int32).toNatClampNeg ((p0 >>> (24 &&& 31)) &&& 255)) (17 : Int32).toNatClampNeg ((p0 >>> (16 &&& 31)) &&& 255)) (18 : Int32).toNatClampNeg ((p0 >>> (8 &&& 31)) &&& 255))))] H := hP
  have hD : va_D A [((a 0), .inr (8, [.ref (a 6), .int 18, .ref (a 4), .ref (a 1), .ref (a 5), .ref (a 2), .ref (a 10), .int 0, .ref (a 11), .ref (a 12), .int 0, .ref (a 13), .ref (a 14), .ref (a 3), .ref (a 15), .ref (a 16)])), ((a 6), .inl ((k 0), 900, .inl (upd (upd (upd f (16 : Int32).toNatClampNeg ((p0 >>> (24 &&& 31)) &&& 255)) (17 : Int32).toNatClampNeg ((p0 >>> (16 &&& 31)) &&& 255)) (18 : Int32).toNatClampNeg ((p0 >>> (8 &&& 31)) &&& 255))))] := hD
  refine lv_aload_n hx hb dX8_putBytes_33 rfl (lv_at hl 1 rfl) ?_
  refine lv_dup hx hb dX8_putBytes_34 rfl ?_
  refine va_get (D := (dC, dI)) (ci := 8) (v := .int 18) (C := RX8) (T := TX8) (N := 16) hx hb hts hiX8 hown hK hP 0 rfl rfl 1 (by decide) v_1 (fun _ h9 => h9) rfl dX8_putBytes_35 ?_
  refine lv_iconst (v := 1) hx hb dX8_putBytes_38 (by decide) ?_
  refine lv_iadd hx hb dX8_putBytes_39 ?_
  refine lv_topi (fun y_3 ey_3 => ?_)
  obtain rfl : y_3 = 19 := ey_3.trans (by decide)
  refine va_put (D := (dC, dI)) (ci := 8) (v := .int 19) (ty := .int) (C := RX8) (T := TX8) (N := 16) hx hb hts hiX8 tyX8 tyX8_ok nmX8 hown hK hP hD hS 0 rfl rfl 1 (by decide) v_1 (fun _ h9 => h9) rfl (by decide +kernel) rfl rfl (Nat.le_of_ble_eq_true rfl) dX8_putBytes_40 (fun H locs hP hD hS => ?_)
  have hP : va_P (dC, dI) vwCl [((a 0), .inr (8, [.ref (a 6), .int 19, .ref (a 4), .ref (a 1), .ref (a 5), .ref (a 2), .ref (a 10), .int 0, .ref (a 11), .ref (a 12), .int 0, .ref (a 13), .ref (a 14), .ref (a 3), .ref (a 15), .ref (a 16)])), ((a 6), .inl ((k 0), 900, .inl (upd (upd (upd f (16 : Int32).toNatClampNeg ((p0 >>> (24 &&& 31)) &&& 255)) (17 : Int32).toNatClampNeg ((p0 >>> (16 &&& 31)) &&& 255)) (18 : Int32).toNatClampNeg ((p0 >>> (8 &&& 31)) &&& 255))))] H := hP
  have hD : va_D A [((a 0), .inr (8, [.ref (a 6), .int 19, .ref (a 4), .ref (a 1), .ref (a 5), .ref (a 2), .ref (a 10), .int 0, .ref (a 11), .ref (a 12), .int 0, .ref (a 13), .ref (a 14), .ref (a 3), .ref (a 15), .ref (a 16)])), ((a 6), .inl ((k 0), 900, .inl (upd (upd (upd f (16 : Int32).toNatClampNeg ((p0 >>> (24 &&& 31)) &&& 255)) (17 : Int32).toNatClampNeg ((p0 >>> (16 &&& 31)) &&& 255)) (18 : Int32).toNatClampNeg ((p0 >>> (8 &&& 31)) &&& 255))))] := hD
  refine lv_iinc (v := 0) (lv' := [(2, .int 0), (0, .ref (a 0)), (1, .int p0)]) hx hb dX8_putBytes_43 hl (k := 0) rfl (by decide) (by decide) rfl (fun ls hl => ?_)
  refine lv_goto (tgt := 3) hx hb dX8_putBytes_46 (by decide) ?_
  refine lv_iload_n hx hb dX8_putBytes_3 rfl (lv_at hl 0 rfl) ?_
  refine lv_if_lt (tgt := 49) hx hb dX8_putBytes_4 (by decide) (fun z => absurd z (by decide)) (fun _ => ?_)
  refine lv_aload_n hx hb dX8_putBytes_7 rfl (lv_at hl 1 rfl) ?_
  refine va_get (D := (dC, dI)) (ci := 8) (v := .int 19) (C := RX8) (T := TX8) (N := 16) hx hb hts hiX8 hown hK hP 0 rfl rfl 1 (by decide) v_1 (fun _ h9 => h9) rfl dX8_putBytes_8 ?_
  refine lv_sipush (v := 900) hx hb dX8_putBytes_11 (by decide) ?_
  refine lv_icmp_ge (tgt := 49) hx hb dX8_putBytes_14 (by decide) (fun z => absurd z (by decide)) (fun _ => ?_)
  refine lv_aload_n hx hb dX8_putBytes_17 rfl (lv_at hl 1 rfl) ?_
  refine va_get (D := (dC, dI)) (ci := 8) (v := .ref (a 6)) (C := RX8) (T := TX8) (N := 16) hx hb hts hiX8 hown hK hP 0 rfl rfl 0 (by decide) v_2 (fun _ h9 => h9) rfl dX8_putBytes_18 ?_
  refine lv_aload_n hx hb dX8_putBytes_21 rfl (lv_at hl 1 rfl) ?_
  refine va_get (D := (dC, dI)) (ci := 8) (v := .int 19) (C := RX8) (T := TX8) (N := 16) hx hb hts hiX8 hown hK hP 0 rfl rfl 1 (by decide) v_1 (fun _ h9 => h9) rfl dX8_putBytes_22 ?_
  refine lv_iload_n hx hb dX8_putBytes_25 rfl (lv_at hl 2 rfl) ?_
  refine lv_iload_n hx hb dX8_putBytes_26 rfl (lv_at hl 0 rfl) ?_
  refine lv_ishr hx hb dX8_putBytes_27 ?_
  refine lv_sipush (v := 255) hx hb dX8_putBytes_28 (by decide) ?_
  refine lv_iand hx hb dX8_putBytes_31 ?_
  refine va_iast hx hb hK hP hD hS 1 0 rfl rfl (show ¬ (_ ∨ _) by decide) dX8_putBytes_32 (fun H locs hP hD hS => ?_)
  have hP : va_P (dC, dI) vwCl [((a 0), .inr (8, [.ref (a 6), .int 19, .ref (a 4), .ref (a 1), .ref (a 5), .ref (a 2), .ref (a 10), .int 0, .ref (a 11), .ref (a 12), .int 0, .ref (a 13), .ref (a 14), .ref (a 3), .ref (a 15), .ref (a 16)])), ((a 6), .inl ((k 0), 900, .inl (upd (upd (upd (upd f (16 : Int32).toNatClampNeg ((p0 >>> (24 &&& 31)) &&& 255)) (17 : Int32).toNatClampNeg ((p0 >>> (16 &&& 31)) &&& 255)) (18 : Int32).toNatClampNeg ((p0 >>> (8 &&& 31)) &&& 255)) (19 : Int32).toNatClampNeg ((p0 >>> (0 &&& 31)) &&& 255))))] H := hP
  have hD : va_D A [((a 0), .inr (8, [.ref (a 6), .int 19, .ref (a 4), .ref (a 1), .ref (a 5), .ref (a 2), .ref (a 10), .int 0, .ref (a 11), .ref (a 12), .int 0, .ref (a 13), .ref (a 14), .ref (a 3), .ref (a 15), .ref (a 16)])), ((a 6), .inl ((k 0), 900, .inl (upd (upd (upd (upd f (16 : Int32).toNatClampNeg ((p0 >>> (24 &&& 31)) &&& 255)) (17 : Int32).toNatClampNeg ((p0 >>> (16 &&& 31)) &&& 255)) (18 : Int32).toNatClampNeg ((p0 >>> (8 &&& 31)) &&& 255)) (19 : Int32).toNatClampNeg ((p0 >>> (0 &&& 31)) &&& 255))))] := hD
  refine lv_aload_n hx hb dX8_putBytes_33 rfl (lv_at hl 1 rfl) ?_
  refine lv_dup hx hb dX8_putBytes_34 rfl ?_
  refine va_get (D := (dC, dI)) (ci := 8) (v := .int 19) (C := RX8) (T := TX8) (N := 16) hx hb hts hiX8 hown hK hP 0 rfl rfl 1 (by decide) v_1 (fun _ h9 => h9) rfl dX8_putBytes_35 ?_
  refine lv_iconst (v := 1) hx hb dX8_putBytes_38 (by decide) ?_
  refine lv_iadd hx hb dX8_putBytes_39 ?_
  refine lv_topi (fun y_4 ey_4 => ?_)
  obtain rfl : y_4 = 20 := ey_4.trans (by decide)
  refine va_put (D := (dC, dI)) (ci := 8) (v := .int 20) (ty := .int) (C := RX8) (T := TX8) (N := 16) hx hb hts hiX8 tyX8 tyX8_ok nmX8 hown hK hP hD hS 0 rfl rfl 1 (by decide) v_1 (fun _ h9 => h9) rfl (by decide +kernel) rfl rfl (Nat.le_of_ble_eq_true rfl) dX8_putBytes_40 (fun H locs hP hD hS => ?_)
  have hP : va_P (dC, dI) vwCl [((a 0), .inr (8, [.ref (a 6), .int 20, .ref (a 4), .ref (a 1), .ref (a 5), .ref (a 2), .ref (a 10), .int 0, .ref (a 11), .ref (a 12), .int 0, .ref (a 13), .ref (a 14), .ref (a 3), .ref (a 15), .ref (a 16)])), ((a 6), .inl ((k 0), 900, .inl (upd (upd (upd (upd f (16 : Int32).toNatClampNeg ((p0 >>> (24 &&& 31)) &&& 255)) (17 : Int32).toNatClampNeg ((p0 >>> (16 &&& 31)) &&& 255)) (18 : Int32).toNatClampNeg ((p0 >>> (8 &&& 31)) &&& 255)) (19 : Int32).toNatClampNeg ((p0 >>> (0 &&& 31)) &&& 255))))] H := hP
  have hD : va_D A [((a 0), .inr (8, [.ref (a 6), .int 20, .ref (a 4), .ref (a 1), .ref (a 5), .ref (a 2), .ref (a 10), .int 0, .ref (a 11), .ref (a 12), .int 0, .ref (a 13), .ref (a 14), .ref (a 3), .ref (a 15), .ref (a 16)])), ((a 6), .inl ((k 0), 900, .inl (upd (upd (upd (upd f (16 : Int32).toNatClampNeg ((p0 >>> (24 &&& 31)) &&& 255)) (17 : Int32).toNatClampNeg ((p0 >>> (16 &&& 31)) &&& 255)) (18 : Int32).toNatClampNeg ((p0 >>> (8 &&& 31)) &&& 255)) (19 : Int32).toNatClampNeg ((p0 >>> (0 &&& 31)) &&& 255))))] := hD
  refine lv_iinc (v := (-8)) (lv' := [(2, .int (-8)), (0, .ref (a 0)), (1, .int p0)]) hx hb dX8_putBytes_43 hl (k := 0) rfl (by decide) (by decide) rfl (fun ls hl => ?_)
  refine lv_goto (tgt := 3) hx hb dX8_putBytes_46 (by decide) ?_
  refine lv_iload_n hx hb dX8_putBytes_3 rfl (lv_at hl 0 rfl) ?_
  refine lv_if_lt (tgt := 49) hx hb dX8_putBytes_4 (by decide) (fun _ => ?_) (fun z => absurd z (by decide))
  have hP9 := hP.sub (ws' := [((a 0), .inr (8, [.ref (a 6), .int 20, .ref (a 4), .ref (a 1), .ref (a 5), .ref (a 2), .ref (a 10), .int 0, .ref (a 11), .ref (a 12), .int 0, .ref (a 13), .ref (a 14), .ref (a 3), .ref (a 15), .ref (a 16)])), ((a 6), .inl ((k 0), 900, .inl (upd (upd (upd (upd f (16 : Int32).toNatClampNeg ((p0 >>> (24 &&& 31)) &&& 255)) (17 : Int32).toNatClampNeg ((p0 >>> (16 &&& 31)) &&& 255)) (18 : Int32).toNatClampNeg ((p0 >>> (8 &&& 31)) &&& 255)) (19 : Int32).toNatClampNeg ((p0 >>> (0 &&& 31)) &&& 255))))]) [0, 1] rfl
  have hD9 := hD.sub (ws' := [((a 0), .inr (8, [.ref (a 6), .int 20, .ref (a 4), .ref (a 1), .ref (a 5), .ref (a 2), .ref (a 10), .int 0, .ref (a 11), .ref (a 12), .int 0, .ref (a 13), .ref (a 14), .ref (a 3), .ref (a 15), .ref (a 16)])), ((a 6), .inl ((k 0), 900, .inl (upd (upd (upd (upd f (16 : Int32).toNatClampNeg ((p0 >>> (24 &&& 31)) &&& 255)) (17 : Int32).toNatClampNeg ((p0 >>> (16 &&& 31)) &&& 255)) (18 : Int32).toNatClampNeg ((p0 >>> (8 &&& 31)) &&& 255)) (19 : Int32).toNatClampNeg ((p0 >>> (0 &&& 31)) &&& 255))))]) [0, 1] (by decide) rfl
  have hK9 := hK.sub (tys' := [(k 0, .int)]) [0] rfl
  exact W.vret hx hb hr (fun t ht hW => ⟨⟨(), rfl, trivial, ⟨upd (upd (upd (upd f (16 : Int32).toNatClampNeg ((p0 >>> (24 &&& 31)) &&& 255)) (17 : Int32).toNatClampNeg ((p0 >>> (16 &&& 31)) &&& 255)) (18 : Int32).toNatClampNeg ((p0 >>> (8 &&& 31)) &&& 255)) (19 : Int32).toNatClampNeg ((p0 >>> (0 &&& 31)) &&& 255), by rw [ht]; exact hP9, va_K.moved hW.alike hK9, hD9⟩⟩, hS.F ht⟩) hS.2.2 dX8_putBytes_49
def vs_X9_four_16 : List Cond := .code yX9_four cX9_four 3 none :: ([.fieldLink RX9 55 "ClockReachModel" "tape" "[I", .fieldLink RX9 145 "ClockReachModel" "taped" "I"] ++ wsX90)
set_option maxHeartbeats 4000000 in
set_option maxRecDepth 100000 in
theorem c_X9_four_16 (l : Launch) (dC : Nat → ClassId) (dI : Nat → Nat → Nat) (sz : Nat) (b : Nat → Nat) (j : Nat → ClassId) (f : Nat → Int32) (p0 : Int32) : Met l yX9_four vs_X9_four_16 ({ frames := 0, cells := 0, slots := 0, locals := 0 }) (va_Pc [.ref (b 0), .int p0] (pu_B (dC, dI) [((b 0), .inr (9, [.int 0, .ref (b 10), .ref (b 11), .ref (b 12), .ref (b 13), .ref (b 14), .ref (b 15), .ref (b 16), .ref (b 17), .ref (b 18), .ref (b 19), .ref (b 20), .ref (b 1), .ref (b 2), .ref (b 3), .ref (b 4), .int 0, .ref (b 5), .int 16, .int 0, .int 0, .int 0, .int 0, .int 0, .int 0, .int (-1), .int 0, .int 0, .int 0, .int 0, .int 0, .ref (b 21), .ref (b 22), .int 0, .ref (b 23), .ref (b 24), .ref (b 25), .ref (b 26), .ref (b 27), .ref (b 28), .ref (b 29), .ref (b 30), .ref (b 31), .ref (b 32), .ref (b 33), .int 0, .int 0, .ref (b 34), .ref (b 35), .ref (b 36), .ref (b 37), .ref (b 38), .int 0, .int 0, .ref (b 39), .ref (b 40), .ref (b 41), .ref (b 42), .ref (b 43), .ref (b 44), .ref (b 45), .int 0, .int 0, .int 0, .ref (b 46), .int 0, .int 0])), ((b 5), .inl ((j 5), 900, .inl f))] [(j 5, .int)] sz)) (va_Qv (fun (_ : Unit) => True) (fun _ t => ∃ (g : Nat → Int32), pu_E (dC, dI) [((b 0), .inr (9, [.int 0, .ref (b 10), .ref (b 11), .ref (b 12), .ref (b 13), .ref (b 14), .ref (b 15), .ref (b 16), .ref (b 17), .ref (b 18), .ref (b 19), .ref (b 20), .ref (b 1), .ref (b 2), .ref (b 3), .ref (b 4), .int 0, .ref (b 5), .int 20, .int 0, .int 0, .int 0, .int 0, .int 0, .int 0, .int (-1), .int 0, .int 0, .int 0, .int 0, .int 0, .ref (b 21), .ref (b 22), .int 0, .ref (b 23), .ref (b 24), .ref (b 25), .ref (b 26), .ref (b 27), .ref (b 28), .ref (b 29), .ref (b 30), .ref (b 31), .ref (b 32), .ref (b 33), .int 0, .int 0, .ref (b 34), .ref (b 35), .ref (b 36), .ref (b 37), .ref (b 38), .int 0, .int 0, .ref (b 39), .ref (b 40), .ref (b 41), .ref (b 42), .ref (b 43), .ref (b 44), .ref (b 45), .int 0, .int 0, .int 0, .ref (b 46), .int 0, .int 0])), ((b 5), .inl ((j 5), 900, .inl g))] [(j 5, .int)] (va_A ([((b 0), .inr (9, [.int 0, .ref (b 10), .ref (b 11), .ref (b 12), .ref (b 13), .ref (b 14), .ref (b 15), .ref (b 16), .ref (b 17), .ref (b 18), .ref (b 19), .ref (b 20), .ref (b 1), .ref (b 2), .ref (b 3), .ref (b 4), .int 0, .ref (b 5), .int 16, .int 0, .int 0, .int 0, .int 0, .int 0, .int 0, .int (-1), .int 0, .int 0, .int 0, .int 0, .int 0, .ref (b 21), .ref (b 22), .int 0, .ref (b 23), .ref (b 24), .ref (b 25), .ref (b 26), .ref (b 27), .ref (b 28), .ref (b 29), .ref (b 30), .ref (b 31), .ref (b 32), .ref (b 33), .int 0, .int 0, .ref (b 34), .ref (b 35), .ref (b 36), .ref (b 37), .ref (b 38), .int 0, .int 0, .ref (b 39), .ref (b 40), .ref (b 41), .ref (b 42), .ref (b 43), .ref (b 44), .ref (b 45), .int 0, .int 0, .int 0, .ref (b 46), .int 0, .int 0])), ((b 5), .inl ((j 5), 900, .inl f))]) sz) t) (va_A ([((b 0), .inr (9, [.int 0, .ref (b 10), .ref (b 11), .ref (b 12), .ref (b 13), .ref (b 14), .ref (b 15), .ref (b 16), .ref (b 17), .ref (b 18), .ref (b 19), .ref (b 20), .ref (b 1), .ref (b 2), .ref (b 3), .ref (b 4), .int 0, .ref (b 5), .int 16, .int 0, .int 0, .int 0, .int 0, .int 0, .int 0, .int (-1), .int 0, .int 0, .int 0, .int 0, .int 0, .ref (b 21), .ref (b 22), .int 0, .ref (b 23), .ref (b 24), .ref (b 25), .ref (b 26), .ref (b 27), .ref (b 28), .ref (b 29), .ref (b 30), .ref (b 31), .ref (b 32), .ref (b 33), .int 0, .int 0, .ref (b 34), .ref (b 35), .ref (b 36), .ref (b 37), .ref (b 38), .int 0, .int 0, .ref (b 39), .ref (b 40), .ref (b 41), .ref (b 42), .ref (b 43), .ref (b 44), .ref (b 45), .int 0, .int 0, .int 0, .ref (b 46), .int 0, .int 0])), ((b 5), .inl ((j 5), 900, .inl f))]) sz)) 0 0 (va_A ([((b 0), .inr (9, [.int 0, .ref (b 10), .ref (b 11), .ref (b 12), .ref (b 13), .ref (b 14), .ref (b 15), .ref (b 16), .ref (b 17), .ref (b 18), .ref (b 19), .ref (b 20), .ref (b 1), .ref (b 2), .ref (b 3), .ref (b 4), .int 0, .ref (b 5), .int 16, .int 0, .int 0, .int 0, .int 0, .int 0, .int 0, .int (-1), .int 0, .int 0, .int 0, .int 0, .int 0, .ref (b 21), .ref (b 22), .int 0, .ref (b 23), .ref (b 24), .ref (b 25), .ref (b 26), .ref (b 27), .ref (b 28), .ref (b 29), .ref (b 30), .ref (b 31), .ref (b 32), .ref (b 33), .int 0, .int 0, .ref (b 34), .ref (b 35), .ref (b 36), .ref (b 37), .ref (b 38), .int 0, .int 0, .ref (b 39), .ref (b 40), .ref (b 41), .ref (b 42), .ref (b 43), .ref (b 44), .ref (b 45), .int 0, .int 0, .int 0, .ref (b 46), .int 0, .int 0])), ((b 5), .inl ((j 5), 900, .inl f))]) sz) := by
  refine Met.ofW (cc := cX9_four) (maxL := 3) (ret := none) (by decide) rfl ?_
  intro p e s m args below meth c s₁ B hml hv
  obtain ⟨rfl, rfl, hP, hK, hD0⟩ := hv
  have hx := B.exec
  have hb := B.bytes
  have hr := B.returns
  have hts := atoms_spec (ws := vs_X9_four_16) B.pre
  have v_1 := hts (.fieldLink RX9 55 "ClockReachModel" "tape" "[I") (List.mem_of_getElem? (i := 1) rfl)
  have v_2 := hts (.fieldLink RX9 145 "ClockReachModel" "taped" "I") (List.mem_of_getElem? (i := 2) rfl)
  have hown : s.vm.findClass RX9 = some m.cls := findClass_of_methodNamed B.named
  have hlocks := B.notSynchronized
  have hiX9 : ∀ w ∈ wsX90, w ∈ vs_X9_four_16 := fun _ h => List.mem_cons_of_mem _ (List.mem_append_right _ h)
  have hD := hD0.self (sz := s.heap.size)
  generalize hAe : va_A ([((b 0), .inr (9, [.int 0, .ref (b 10), .ref (b 11), .ref (b 12), .ref (b 13), .ref (b 14), .ref (b 15), .ref (b 16), .ref (b 17), .ref (b 18), .ref (b 19), .ref (b 20), .ref (b 1), .ref (b 2), .ref (b 3), .ref (b 4), .int 0, .ref (b 5), .int 16, .int 0, .int 0, .int 0, .int 0, .int 0, .int 0, .int (-1), .int 0, .int 0, .int 0, .int 0, .int 0, .ref (b 21), .ref (b 22), .int 0, .ref (b 23), .ref (b 24), .ref (b 25), .ref (b 26), .ref (b 27), .ref (b 28), .ref (b 29), .ref (b 30), .ref (b 31), .ref (b 32), .ref (b 33), .int 0, .int 0, .ref (b 34), .ref (b 35), .ref (b 36), .ref (b 37), .ref (b 38), .int 0, .int 0, .ref (b 39), .ref (b 40), .ref (b 41), .ref (b 42), .ref (b 43), .ref (b 44), .ref (b 45), .int 0, .int 0, .int 0, .ref (b 46), .int 0, .int 0])), ((b 5), .inl ((j 5), 900, .inl f))]) s.heap.size = A at hD ⊢
  have hA : ∀ q : Nat, s.heap.size ≤ q → A q := fun q h => by rw [← hAe]; exact Or.inr h
  have hS : va_S A s.heap s.heap [] := va_S.rf
  have hl := lv_entry ([.ref (b 0), .int p0]) (n := 3) (Nat.le_of_ble_eq_true rfl)
  rw [lg_entry_eq]
  generalize (lg_sl ([.ref (b 0), .int p0]) ++ List.replicate (3 - (lg_sl ([.ref (b 0), .int p0])).length) Slot.unset).toArray = ls at hl ⊢
  have hl : lv_has ls 3 [(0, .ref (b 0)), (1, .int p0)] := hl
  refine lv_bipush (v := 24) hx hb dX9_four_0 (by decide) ?_
  refine lv_istore_n (lv' := [(2, .int 24), (0, .ref (b 0)), (1, .int p0)]) hx hb dX9_four_2 rfl hl (by decide) rfl (fun ls hl => ?_)
  refine lv_iload_n hx hb dX9_four_3 rfl (lv_at hl 0 rfl) ?_
  refine lv_if_lt (tgt := 39) hx hb dX9_four_4 (by decide) (fun z => absurd z (by decide)) (fun _ => ?_)
  refine lv_aload_n hx hb dX9_four_7 rfl (lv_at hl 1 rfl) ?_
  refine va_get (D := (dC, dI)) (ci := 9) (v := .ref (b 5)) (C := RX9) (T := TX9) (N := 67) hx hb hts hiX9 hown hK hP 0 rfl rfl 17 (by decide) v_1 (fun _ h9 => h9) rfl dX9_four_8 ?_
  refine lv_aload_n hx hb dX9_four_11 rfl (lv_at hl 1 rfl) ?_
  refine va_get (D := (dC, dI)) (ci := 9) (v := .int 16) (C := RX9) (T := TX9) (N := 67) hx hb hts hiX9 hown hK hP 0 rfl rfl 18 (by decide) v_2 (fun _ h9 => h9) rfl dX9_four_12 ?_
  refine lv_iload_n hx hb dX9_four_15 rfl (lv_at hl 2 rfl) ?_
  refine lv_iload_n hx hb dX9_four_16 rfl (lv_at hl 0 rfl) ?_
  refine lv_ishr hx hb dX9_four_17 ?_
  refine lv_sipush (v := 255) hx hb dX9_four_18 (by decide) ?_
  refine lv_iand hx hb dX9_four_21 ?_
  refine va_iast hx hb hK hP hD hS 1 0 rfl rfl (show ¬ (_ ∨ _) by decide) dX9_four_22 (fun H locs hP hD hS => ?_)
  have hP : va_P (dC, dI) vwCl [((b 0), .inr (9, [.int 0, .ref (b 10), .ref (b 11), .ref (b 12), .ref (b 13), .ref (b 14), .ref (b 15), .ref (b 16), .ref (b 17), .ref (b 18), .ref (b 19), .ref (b 20), .ref (b 1), .ref (b 2), .ref (b 3), .ref (b 4), .int 0, .ref (b 5), .int 16, .int 0, .int 0, .int 0, .int 0, .int 0, .int 0, .int (-1), .int 0, .int 0, .int 0, .int 0, .int 0, .ref (b 21), .ref (b 22), .int 0, .ref (b 23), .ref (b 24), .ref (b 25), .ref (b 26), .ref (b 27), .ref (b 28), .ref (b 29), .ref (b 30), .ref (b 31), .ref (b 32), .ref (b 33), .int 0, .int 0, .ref (b 34), .ref (b 35), .ref (b 36), .ref (b 37), .ref (b 38), .int 0, .int 0, .ref (b 39), .ref (b 40), .ref (b 41), .ref (b 42), .ref (b 43), .ref (b 44), .ref (b 45), .int 0, .int 0, .int 0, .ref (b 46), .int 0, .int 0])), ((b 5), .inl ((j 5), 900, .inl (upd f (16 : Int32).toNatClampNeg ((p0 >>> (24 &&& 31)) &&& 255))))] H := hP
  have hD : va_D A [((b 0), .inr (9, [.int 0, .ref (b 10), .ref (b 11), .ref (b 12), .ref (b 13), .ref (b 14), .ref (b 15), .ref (b 16), .ref (b 17), .ref (b 18), .ref (b 19), .ref (b 20), .ref (b 1), .ref (b 2), .ref (b 3), .ref (b 4), .int 0, .ref (b 5), .int 16, .int 0, .int 0, .int 0, .int 0, .int 0, .int 0, .int (-1), .int 0, .int 0, .int 0, .int 0, .int 0, .ref (b 21), .ref (b 22), .int 0, .ref (b 23), .ref (b 24), .ref (b 25), .ref (b 26), .ref (b 27), .ref (b 28), .ref (b 29), .ref (b 30), .ref (b 31), .ref (b 32), .ref (b 33), .int 0, .int 0, .ref (b 34), .ref (b 35), .ref (b 36), .ref (b 37), .ref (b 38), .int 0, .int 0, .ref (b 39), .ref (b 40), .ref (b 41), .ref (b 42), .ref (b 43), .ref (b 44), .ref (b 45), .int 0, .int 0, .int 0, .ref (b 46), .int 0, .int 0])), ((b 5), .inl ((j 5), 900, .inl (upd f (16 : Int32).toNatClampNeg ((p0 >>> (24 &&& 31)) &&& 255))))] := hD
  refine lv_aload_n hx hb dX9_four_23 rfl (lv_at hl 1 rfl) ?_
  refine lv_dup hx hb dX9_four_24 rfl ?_
  refine va_get (D := (dC, dI)) (ci := 9) (v := .int 16) (C := RX9) (T := TX9) (N := 67) hx hb hts hiX9 hown hK hP 0 rfl rfl 18 (by decide) v_2 (fun _ h9 => h9) rfl dX9_four_25 ?_
  refine lv_iconst (v := 1) hx hb dX9_four_28 (by decide) ?_
  refine lv_iadd hx hb dX9_four_29 ?_
  refine lv_topi (fun y_1 ey_1 => ?_)
  obtain rfl : y_1 = 17 := ey_1.trans (by decide)
  refine va_put (D := (dC, dI)) (ci := 9) (v := .int 17) (ty := .int) (C := RX9) (T := TX9) (N := 67) hx hb hts hiX9 tyX9 tyX9_ok nmX9 hown hK hP hD hS 0 rfl rfl 18 (by decide) v_2 (fun _ h9 => h9) rfl (by decide +kernel) rfl rfl (Nat.le_of_ble_eq_true rfl) dX9_four_30 (fun H locs hP hD hS => ?_)
  have hP : va_P (dC, dI) vwCl [((b 0), .inr (9, [.int 0, .ref (b 10), .ref (b 11), .ref (b 12), .ref (b 13), .ref (b 14), .ref (b 15), .ref (b 16), .ref (b 17), .ref (b 18), .ref (b 19), .ref (b 20), .ref (b 1), .ref (b 2), .ref (b 3), .ref (b 4), .int 0, .ref (b 5), .int 17, .int 0, .int 0, .int 0, .int 0, .int 0, .int 0, .int (-1), .int 0, .int 0, .int 0, .int 0, .int 0, .ref (b 21), .ref (b 22), .int 0, .ref (b 23), .ref (b 24), .ref (b 25), .ref (b 26), .ref (b 27), .ref (b 28), .ref (b 29), .ref (b 30), .ref (b 31), .ref (b 32), .ref (b 33), .int 0, .int 0, .ref (b 34), .ref (b 35), .ref (b 36), .ref (b 37), .ref (b 38), .int 0, .int 0, .ref (b 39), .ref (b 40), .ref (b 41), .ref (b 42), .ref (b 43), .ref (b 44), .ref (b 45), .int 0, .int 0, .int 0, .ref (b 46), .int 0, .int 0])), ((b 5), .inl ((j 5), 900, .inl (upd f (16 : Int32).toNatClampNeg ((p0 >>> (24 &&& 31)) &&& 255))))] H := hP
  have hD : va_D A [((b 0), .inr (9, [.int 0, .ref (b 10), .ref (b 11), .ref (b 12), .ref (b 13), .ref (b 14), .ref (b 15), .ref (b 16), .ref (b 17), .ref (b 18), .ref (b 19), .ref (b 20), .ref (b 1), .ref (b 2), .ref (b 3), .ref (b 4), .int 0, .ref (b 5), .int 17, .int 0, .int 0, .int 0, .int 0, .int 0, .int 0, .int (-1), .int 0, .int 0, .int 0, .int 0, .int 0, .ref (b 21), .ref (b 22), .int 0, .ref (b 23), .ref (b 24), .ref (b 25), .ref (b 26), .ref (b 27), .ref (b 28), .ref (b 29), .ref (b 30), .ref (b 31), .ref (b 32), .ref (b 33), .int 0, .int 0, .ref (b 34), .ref (b 35), .ref (b 36), .ref (b 37), .ref (b 38), .int 0, .int 0, .ref (b 39), .ref (b 40), .ref (b 41), .ref (b 42), .ref (b 43), .ref (b 44), .ref (b 45), .int 0, .int 0, .int 0, .ref (b 46), .int 0, .int 0])), ((b 5), .inl ((j 5), 900, .inl (upd f (16 : Int32).toNatClampNeg ((p0 >>> (24 &&& 31)) &&& 255))))] := hD
  refine lv_iinc (v := 16) (lv' := [(2, .int 16), (0, .ref (b 0)), (1, .int p0)]) hx hb dX9_four_33 hl (k := 0) rfl (by decide) (by decide) rfl (fun ls hl => ?_)
  refine lv_goto (tgt := 3) hx hb dX9_four_36 (by decide) ?_
  refine lv_iload_n hx hb dX9_four_3 rfl (lv_at hl 0 rfl) ?_
  refine lv_if_lt (tgt := 39) hx hb dX9_four_4 (by decide) (fun z => absurd z (by decide)) (fun _ => ?_)
  refine lv_aload_n hx hb dX9_four_7 rfl (lv_at hl 1 rfl) ?_
  refine va_get (D := (dC, dI)) (ci := 9) (v := .ref (b 5)) (C := RX9) (T := TX9) (N := 67) hx hb hts hiX9 hown hK hP 0 rfl rfl 17 (by decide) v_1 (fun _ h9 => h9) rfl dX9_four_8 ?_
  refine lv_aload_n hx hb dX9_four_11 rfl (lv_at hl 1 rfl) ?_
  refine va_get (D := (dC, dI)) (ci := 9) (v := .int 17) (C := RX9) (T := TX9) (N := 67) hx hb hts hiX9 hown hK hP 0 rfl rfl 18 (by decide) v_2 (fun _ h9 => h9) rfl dX9_four_12 ?_
  refine lv_iload_n hx hb dX9_four_15 rfl (lv_at hl 2 rfl) ?_
  refine lv_iload_n hx hb dX9_four_16 rfl (lv_at hl 0 rfl) ?_
  refine lv_ishr hx hb dX9_four_17 ?_
  refine lv_sipush (v := 255) hx hb dX9_four_18 (by decide) ?_
  refine lv_iand hx hb dX9_four_21 ?_
  refine va_iast hx hb hK hP hD hS 1 0 rfl rfl (show ¬ (_ ∨ _) by decide) dX9_four_22 (fun H locs hP hD hS => ?_)
  have hP : va_P (dC, dI) vwCl [((b 0), .inr (9, [.int 0, .ref (b 10), .ref (b 11), .ref (b 12), .ref (b 13), .ref (b 14), .ref (b 15), .ref (b 16), .ref (b 17), .ref (b 18), .ref (b 19), .ref (b 20), .ref (b 1), .ref (b 2), .ref (b 3), .ref (b 4), .int 0, .ref (b 5), .int 17, .int 0, .int 0, .int 0, .int 0, .int 0, .int 0, .int (-1), .int 0, .int 0, .int 0, .int 0, .int 0, .ref (b 21), .ref (b 22), .int 0, .ref (b 23), .ref (b 24), .ref (b 25), .ref (b 26), .ref (b 27), .ref (b 28), .ref (b 29), .ref (b 30), .ref (b 31), .ref (b 32), .ref (b 33), .int 0, .int 0, .ref (b 34), .ref (b 35), .ref (b 36), .ref (b 37), .ref (b 38), .int 0, .int 0, .ref (b 39), .ref (b 40), .ref (b 41), .ref (b 42), .ref (b 43), .ref (b 44), .ref (b 45), .int 0, .int 0, .int 0, .ref (b 46), .int 0, .int 0])), ((b 5), .inl ((j 5), 900, .inl (upd (upd f (16 : Int32).toNatClampNeg ((p0 >>> (24 &&& 31)) &&& 255)) (17 : Int32).toNatClampNeg ((p0 >>> (16 &&& 31)) &&& 255))))] H := hP
  have hD : va_D A [((b 0), .inr (9, [.int 0, .ref (b 10), .ref (b 11), .ref (b 12), .ref (b 13), .ref (b 14), .ref (b 15), .ref (b 16), .ref (b 17), .ref (b 18), .ref (b 19), .ref (b 20), .ref (b 1), .ref (b 2), .ref (b 3), .ref (b 4), .int 0, .ref (b 5), .int 17, .int 0, .int 0, .int 0, .int 0, .int 0, .int 0, .int (-1), .int 0, .int 0, .int 0, .int 0, .int 0, .ref (b 21), .ref (b 22), .int 0, .ref (b 23), .ref (b 24), .ref (b 25), .ref (b 26), .ref (b 27), .ref (b 28), .ref (b 29), .ref (b 30), .ref (b 31), .ref (b 32), .ref (b 33), .int 0, .int 0, .ref (b 34), .ref (b 35), .ref (b 36), .ref (b 37), .ref (b 38), .int 0, .int 0, .ref (b 39), .ref (b 40), .ref (b 41), .ref (b 42), .ref (b 43), .ref (b 44), .ref (b 45), .int 0, .int 0, .int 0, .ref (b 46), .int 0, .int 0])), ((b 5), .inl ((j 5), 900, .inl (upd (upd f (16 : Int32).toNatClampNeg ((p0 >>> (24 &&& 31)) &&& 255)) (17 : Int32).toNatClampNeg ((p0 >>> (16 &&& 31)) &&& 255))))] := hD
  refine lv_aload_n hx hb dX9_four_23 rfl (lv_at hl 1 rfl) ?_
  refine lv_dup hx hb dX9_four_24 rfl ?_
  refine va_get (D := (dC, dI)) (ci := 9) (v := .int 17) (C := RX9) (T := TX9) (N := 67) hx hb hts hiX9 hown hK hP 0 rfl rfl 18 (by decide) v_2 (fun _ h9 => h9) rfl dX9_four_25 ?_
  refine lv_iconst (v := 1) hx hb dX9_four_28 (by decide) ?_
  refine lv_iadd hx hb dX9_four_29 ?_
  refine lv_topi (fun y_2 ey_2 => ?_)
  obtain rfl : y_2 = 18 := ey_2.trans (by decide)
  refine va_put (D := (dC, dI)) (ci := 9) (v := .int 18) (ty := .int) (C := RX9) (T := TX9) (N := 67) hx hb hts hiX9 tyX9 tyX9_ok nmX9 hown hK hP hD hS 0 rfl rfl 18 (by decide) v_2 (fun _ h9 => h9) rfl (by decide +kernel) rfl rfl (Nat.le_of_ble_eq_true rfl) dX9_four_30 (fun H locs hP hD hS => ?_)
  have hP : va_P (dC, dI) vwCl [((b 0), .inr (9, [.int 0, .ref (b 10), .ref (b 11), .ref (b 12), .ref (b 13), .ref (b 14), .ref (b 15), .ref (b 16), .ref (b 17), .ref (b 18), .ref (b 19), .ref (b 20), .ref (b 1), .ref (b 2), .ref (b 3), .ref (b 4), .int 0, .ref (b 5), .int 18, .int 0, .int 0, .int 0, .int 0, .int 0, .int 0, .int (-1), .int 0, .int 0, .int 0, .int 0, .int 0, .ref (b 21), .ref (b 22), .int 0, .ref (b 23), .ref (b 24), .ref (b 25), .ref (b 26), .ref (b 27), .ref (b 28), .ref (b 29), .ref (b 30), .ref (b 31), .ref (b 32), .ref (b 33), .int 0, .int 0, .ref (b 34), .ref (b 35), .ref (b 36), .ref (b 37), .ref (b 38), .int 0, .int 0, .ref (b 39), .ref (b 40), .ref (b 41), .ref (b 42), .ref (b 43), .ref (b 44), .ref (b 45), .int 0, .int 0, .int 0, .ref (b 46), .int 0, .int 0])), ((b 5), .inl ((j 5), 900, .inl (upd (upd f (16 : Int32).toNatClampNeg ((p0 >>> (24 &&& 31)) &&& 255)) (17 : Int32).toNatClampNeg ((p0 >>> (16 &&& 31)) &&& 255))))] H := hP
  have hD : va_D A [((b 0), .inr (9, [.int 0, .ref (b 10), .ref (b 11), .ref (b 12), .ref (b 13), .ref (b 14), .ref (b 15), .ref (b 16), .ref (b 17), .ref (b 18), .ref (b 19), .ref (b 20), .ref (b 1), .ref (b 2), .ref (b 3), .ref (b 4), .int 0, .ref (b 5), .int 18, .int 0, .int 0, .int 0, .int 0, .int 0, .int 0, .int (-1), .int 0, .int 0, .int 0, .int 0, .int 0, .ref (b 21), .ref (b 22), .int 0, .ref (b 23), .ref (b 24), .ref (b 25), .ref (b 26), .ref (b 27), .ref (b 28), .ref (b 29), .ref (b 30), .ref (b 31), .ref (b 32), .ref (b 33), .int 0, .int 0, .ref (b 34), .ref (b 35), .ref (b 36), .ref (b 37), .ref (b 38), .int 0, .int 0, .ref (b 39), .ref (b 40), .ref (b 41), .ref (b 42), .ref (b 43), .ref (b 44), .ref (b 45), .int 0, .int 0, .int 0, .ref (b 46), .int 0, .int 0])), ((b 5), .inl ((j 5), 900, .inl (upd (upd f (16 : Int32).toNatClampNeg ((p0 >>> (24 &&& 31)) &&& 255)) (17 : Int32).toNatClampNeg ((p0 >>> (16 &&& 31)) &&& 255))))] := hD
  refine lv_iinc (v := 8) (lv' := [(2, .int 8), (0, .ref (b 0)), (1, .int p0)]) hx hb dX9_four_33 hl (k := 0) rfl (by decide) (by decide) rfl (fun ls hl => ?_)
  refine lv_goto (tgt := 3) hx hb dX9_four_36 (by decide) ?_
  refine lv_iload_n hx hb dX9_four_3 rfl (lv_at hl 0 rfl) ?_
  refine lv_if_lt (tgt := 39) hx hb dX9_four_4 (by decide) (fun z => absurd z (by decide)) (fun _ => ?_)
  refine lv_aload_n hx hb dX9_four_7 rfl (lv_at hl 1 rfl) ?_
  refine va_get (D := (dC, dI)) (ci := 9) (v := .ref (b 5)) (C := RX9) (T := TX9) (N := 67) hx hb hts hiX9 hown hK hP 0 rfl rfl 17 (by decide) v_1 (fun _ h9 => h9) rfl dX9_four_8 ?_
  refine lv_aload_n hx hb dX9_four_11 rfl (lv_at hl 1 rfl) ?_
  refine va_get (D := (dC, dI)) (ci := 9) (v := .int 18) (C := RX9) (T := TX9) (N := 67) hx hb hts hiX9 hown hK hP 0 rfl rfl 18 (by decide) v_2 (fun _ h9 => h9) rfl dX9_four_12 ?_
  refine lv_iload_n hx hb dX9_four_15 rfl (lv_at hl 2 rfl) ?_
  refine lv_iload_n hx hb dX9_four_16 rfl (lv_at hl 0 rfl) ?_
  refine lv_ishr hx hb dX9_four_17 ?_
  refine lv_sipush (v := 255) hx hb dX9_four_18 (by decide) ?_
  refine lv_iand hx hb dX9_four_21 ?_
  refine va_iast hx hb hK hP hD hS 1 0 rfl rfl (show ¬ (_ ∨ _) by decide) dX9_four_22 (fun H locs hP hD hS => ?_)
  have hP : va_P (dC, dI) vwCl [((b 0), .inr (9, [.int 0, .ref (b 10), .ref (b 11), .ref (b 12), .ref (b 13), .ref (b 14), .ref (b 15), .ref (b 16), .ref (b 17), .ref (b 18), .ref (b 19), .ref (b 20), .ref (b 1), .ref (b 2), .ref (b 3), .ref (b 4), .int 0, .ref (b 5), .int 18, .int 0, .int 0, .int 0, .int 0, .int 0, .int 0, .int (-1), .int 0, .int 0, .int 0, .int 0, .int 0, .ref (b 21), .ref (b 22), .int 0, .ref (b 23), .ref (b 24), .ref (b 25), .ref (b 26), .ref (b 27), .ref (b 28), .ref (b 29), .ref (b 30), .ref (b 31), .ref (b 32), .ref (b 33), .int 0, .int 0, .ref (b 34), .ref (b 35), .ref (b 36), .ref (b 37), .ref (b 38), .int 0, .int 0, .ref (b 39), .ref (b 40), .ref (b 41), .ref (b 42), .ref (b 43), .ref (b 44), .ref (b 45), .int 0, .int 0, .int 0, .ref (b 46), .int 0, .int 0])), ((b 5), .inl ((j 5), 900, .inl (upd (upd (upd f (16 : Int32).toNatClampNeg ((p0 >>> (24 &&& 31)) &&& 255)) (17 : Int32).toNatClampNeg ((p0 >>> (16 &&& 31)) &&& 255)) (18 : Int32).toNatClampNeg ((p0 >>> (8 &&& 31)) &&& 255))))] H := hP
  have hD : va_D A [((b 0), .inr (9, [.int 0, .ref (b 10), .ref (b 11), .ref (b 12), .ref (b 13), .ref (b 14), .ref (b 15), .ref (b 16), .ref (b 17), .ref (b 18), .ref (b 19), .ref (b 20), .ref (b 1), .ref (b 2), .ref (b 3), .ref (b 4), .int 0, .ref (b 5), .int 18, .int 0, .int 0, .int 0, .int 0, .int 0, .int 0, .int (-1), .int 0, .int 0, .int 0, .int 0, .int 0, .ref (b 21), .ref (b 22), .int 0, .ref (b 23), .ref (b 24), .ref (b 25), .ref (b 26), .ref (b 27), .ref (b 28), .ref (b 29), .ref (b 30), .ref (b 31), .ref (b 32), .ref (b 33), .int 0, .int 0, .ref (b 34), .ref (b 35), .ref (b 36), .ref (b 37), .ref (b 38), .int 0, .int 0, .ref (b 39), .ref (b 40), .ref (b 41), .ref (b 42), .ref (b 43), .ref (b 44), .ref (b 45), .int 0, .int 0, .int 0, .ref (b 46), .int 0, .int 0])), ((b 5), .inl ((j 5), 900, .inl (upd (upd (upd f (16 : Int32).toNatClampNeg ((p0 >>> (24 &&& 31)) &&& 255)) (17 : Int32).toNatClampNeg ((p0 >>> (16 &&& 31)) &&& 255)) (18 : Int32).toNatClampNeg ((p0 >>> (8 &&& 31)) &&& 255))))] := hD
  refine lv_aload_n hx hb dX9_four_23 rfl (lv_at hl 1 rfl) ?_
  refine lv_dup hx hb dX9_four_24 rfl ?_
  refine va_get (D := (dC, dI)) (ci := 9) (v := .int 18) (C := RX9) (T := TX9) (N := 67) hx hb hts hiX9 hown hK hP 0 rfl rfl 18 (by decide) v_2 (fun _ h9 => h9) rfl dX9_four_25 ?_
  refine lv_iconst (v := 1) hx hb dX9_four_28 (by decide) ?_
  refine lv_iadd hx hb dX9_four_29 ?_
  refine lv_topi (fun y_3 ey_3 => ?_)
  obtain rfl : y_3 = 19 := ey_3.trans (by decide)
  refine va_put (D := (dC, dI)) (ci := 9) (v := .int 19) (ty := .int) (C := RX9) (T := TX9) (N := 67) hx hb hts hiX9 tyX9 tyX9_ok nmX9 hown hK hP hD hS 0 rfl rfl 18 (by decide) v_2 (fun _ h9 => h9) rfl (by decide +kernel) rfl rfl (Nat.le_of_ble_eq_true rfl) dX9_four_30 (fun H locs hP hD hS => ?_)
  have hP : va_P (dC, dI) vwCl [((b 0), .inr (9, [.int 0, .ref (b 10), .ref (b 11), .ref (b 12), .ref (b 13), .ref (b 14), .ref (b 15), .ref (b 16), .ref (b 17), .ref (b 18), .ref (b 19), .ref (b 20), .ref (b 1), .ref (b 2), .ref (b 3), .ref (b 4), .int 0, .ref (b 5), .int 19, .int 0, .int 0, .int 0, .int 0, .int 0, .int 0, .int (-1), .int 0, .int 0, .int 0, .int 0, .int 0, .ref (b 21), .ref (b 22), .int 0, .ref (b 23), .ref (b 24), .ref (b 25), .ref (b 26), .ref (b 27), .ref (b 28), .ref (b 29), .ref (b 30), .ref (b 31), .ref (b 32), .ref (b 33), .int 0, .int 0, .ref (b 34), .ref (b 35), .ref (b 36), .ref (b 37), .ref (b 38), .int 0, .int 0, .ref (b 39), .ref (b 40), .ref (b 41), .ref (b 42), .ref (b 43), .ref (b 44), .ref (b 45), .int 0, .int 0, .int 0, .ref (b 46), .int 0, .int 0])), ((b 5), .inl ((j 5), 900, .inl (upd (upd (upd f (16 : Int32).toNatClampNeg ((p0 >>> (24 &&& 31)) &&& 255)) (17 : Int32).toNatClampNeg ((p0 >>> (16 &&& 31)) &&& 255)) (18 : Int32).toNatClampNeg ((p0 >>> (8 &&& 31)) &&& 255))))] H := hP
  have hD : va_D A [((b 0), .inr (9, [.int 0, .ref (b 10), .ref (b 11), .ref (b 12), .ref (b 13), .ref (b 14), .ref (b 15), .ref (b 16), .ref (b 17), .ref (b 18), .ref (b 19), .ref (b 20), .ref (b 1), .ref (b 2), .ref (b 3), .ref (b 4), .int 0, .ref (b 5), .int 19, .int 0, .int 0, .int 0, .int 0, .int 0, .int 0, .int (-1), .int 0, .int 0, .int 0, .int 0, .int 0, .ref (b 21), .ref (b 22), .int 0, .ref (b 23), .ref (b 24), .ref (b 25), .ref (b 26), .ref (b 27), .ref (b 28), .ref (b 29), .ref (b 30), .ref (b 31), .ref (b 32), .ref (b 33), .int 0, .int 0, .ref (b 34), .ref (b 35), .ref (b 36), .ref (b 37), .ref (b 38), .int 0, .int 0, .ref (b 39), .ref (b 40), .ref (b 41), .ref (b 42), .ref (b 43), .ref (b 44), .ref (b 45), .int 0, .int 0, .int 0, .ref (b 46), .int 0, .int 0])), ((b 5), .inl ((j 5), 900, .inl (upd (upd (upd f (16 : Int32).toNatClampNeg ((p0 >>> (24 &&& 31)) &&& 255)) (17 : Int32).toNatClampNeg ((p0 >>> (16 &&& 31)) &&& 255)) (18 : Int32).toNatClampNeg ((p0 >>> (8 &&& 31)) &&& 255))))] := hD
  refine lv_iinc (v := 0) (lv' := [(2, .int 0), (0, .ref (b 0)), (1, .int p0)]) hx hb dX9_four_33 hl (k := 0) rfl (by decide) (by decide) rfl (fun ls hl => ?_)
  refine lv_goto (tgt := 3) hx hb dX9_four_36 (by decide) ?_
  refine lv_iload_n hx hb dX9_four_3 rfl (lv_at hl 0 rfl) ?_
  refine lv_if_lt (tgt := 39) hx hb dX9_four_4 (by decide) (fun z => absurd z (by decide)) (fun _ => ?_)
  refine lv_aload_n hx hb dX9_four_7 rfl (lv_at hl 1 rfl) ?_
  refine va_get (D := (dC, dI)) (ci := 9) (v := .ref (b 5)) (C := RX9) (T := TX9) (N := 67) hx hb hts hiX9 hown hK hP 0 rfl rfl 17 (by decide) v_1 (fun _ h9 => h9) rfl dX9_four_8 ?_
  refine lv_aload_n hx hb dX9_four_11 rfl (lv_at hl 1 rfl) ?_
  refine va_get (D := (dC, dI)) (ci := 9) (v := .int 19) (C := RX9) (T := TX9) (N := 67) hx hb hts hiX9 hown hK hP 0 rfl rfl 18 (by decide) v_2 (fun _ h9 => h9) rfl dX9_four_12 ?_
  refine lv_iload_n hx hb dX9_four_15 rfl (lv_at hl 2 rfl) ?_
  refine lv_iload_n hx hb dX9_four_16 rfl (lv_at hl 0 rfl) ?_
  refine lv_ishr hx hb dX9_four_17 ?_
  refine lv_sipush (v := 255) hx hb dX9_four_18 (by decide) ?_
  refine lv_iand hx hb dX9_four_21 ?_
  refine va_iast hx hb hK hP hD hS 1 0 rfl rfl (show ¬ (_ ∨ _) by decide) dX9_four_22 (fun H locs hP hD hS => ?_)
  have hP : va_P (dC, dI) vwCl [((b 0), .inr (9, [.int 0, .ref (b 10), .ref (b 11), .ref (b 12), .ref (b 13), .ref (b 14), .ref (b 15), .ref (b 16), .ref (b 17), .ref (b 18), .ref (b 19), .ref (b 20), .ref (b 1), .ref (b 2), .ref (b 3), .ref (b 4), .int 0, .ref (b 5), .int 19, .int 0, .int 0, .int 0, .int 0, .int 0, .int 0, .int (-1), .int 0, .int 0, .int 0, .int 0, .int 0, .ref (b 21), .ref (b 22), .int 0, .ref (b 23), .ref (b 24), .ref (b 25), .ref (b 26), .ref (b 27), .ref (b 28), .ref (b 29), .ref (b 30), .ref (b 31), .ref (b 32), .ref (b 33), .int 0, .int 0, .ref (b 34), .ref (b 35), .ref (b 36), .ref (b 37), .ref (b 38), .int 0, .int 0, .ref (b 39), .ref (b 40), .ref (b 41), .ref (b 42), .ref (b 43), .ref (b 44), .ref (b 45), .int 0, .int 0, .int 0, .ref (b 46), .int 0, .int 0])), ((b 5), .inl ((j 5), 900, .inl (upd (upd (upd (upd f (16 : Int32).toNatClampNeg ((p0 >>> (24 &&& 31)) &&& 255)) (17 : Int32).toNatClampNeg ((p0 >>> (16 &&& 31)) &&& 255)) (18 : Int32).toNatClampNeg ((p0 >>> (8 &&& 31)) &&& 255)) (19 : Int32).toNatClampNeg ((p0 >>> (0 &&& 31)) &&& 255))))] H := hP
  have hD : va_D A [((b 0), .inr (9, [.int 0, .ref (b 10), .ref (b 11), .ref (b 12), .ref (b 13), .ref (b 14), .ref (b 15), .ref (b 16), .ref (b 17), .ref (b 18), .ref (b 19), .ref (b 20), .ref (b 1), .ref (b 2), .ref (b 3), .ref (b 4), .int 0, .ref (b 5), .int 19, .int 0, .int 0, .int 0, .int 0, .int 0, .int 0, .int (-1), .int 0, .int 0, .int 0, .int 0, .int 0, .ref (b 21), .ref (b 22), .int 0, .ref (b 23), .ref (b 24), .ref (b 25), .ref (b 26), .ref (b 27), .ref (b 28), .ref (b 29), .ref (b 30), .ref (b 31), .ref (b 32), .ref (b 33), .int 0, .int 0, .ref (b 34), .ref (b 35), .ref (b 36), .ref (b 37), .ref (b 38), .int 0, .int 0, .ref (b 39), .ref (b 40), .ref (b 41), .ref (b 42), .ref (b 43), .ref (b 44), .ref (b 45), .int 0, .int 0, .int 0, .ref (b 46), .int 0, .int 0])), ((b 5), .inl ((j 5), 900, .inl (upd (upd (upd (upd f (16 : Int32).toNatClampNeg ((p0 >>> (24 &&& 31)) &&& 255)) (17 : Int32).toNatClampNeg ((p0 >>> (16 &&& 31)) &&& 255)) (18 : Int32).toNatClampNeg ((p0 >>> (8 &&& 31)) &&& 255)) (19 : Int32).toNatClampNeg ((p0 >>> (0 &&& 31)) &&& 255))))] := hD
  refine lv_aload_n hx hb dX9_four_23 rfl (lv_at hl 1 rfl) ?_
  refine lv_dup hx hb dX9_four_24 rfl ?_
  refine va_get (D := (dC, dI)) (ci := 9) (v := .int 19) (C := RX9) (T := TX9) (N := 67) hx hb hts hiX9 hown hK hP 0 rfl rfl 18 (by decide) v_2 (fun _ h9 => h9) rfl dX9_four_25 ?_
  refine lv_iconst (v := 1) hx hb dX9_four_28 (by decide) ?_
  refine lv_iadd hx hb dX9_four_29 ?_
  refine lv_topi (fun y_4 ey_4 => ?_)
  obtain rfl : y_4 = 20 := ey_4.trans (by decide)
  refine va_put (D := (dC, dI)) (ci := 9) (v := .int 20) (ty := .int) (C := RX9) (T := TX9) (N := 67) hx hb hts hiX9 tyX9 tyX9_ok nmX9 hown hK hP hD hS 0 rfl rfl 18 (by decide) v_2 (fun _ h9 => h9) rfl (by decide +kernel) rfl rfl (Nat.le_of_ble_eq_true rfl) dX9_four_30 (fun H locs hP hD hS => ?_)
  have hP : va_P (dC, dI) vwCl [((b 0), .inr (9, [.int 0, .ref (b 10), .ref (b 11), .ref (b 12), .ref (b 13), .ref (b 14), .ref (b 15), .ref (b 16), .ref (b 17), .ref (b 18), .ref (b 19), .ref (b 20), .ref (b 1), .ref (b 2), .ref (b 3), .ref (b 4), .int 0, .ref (b 5), .int 20, .int 0, .int 0, .int 0, .int 0, .int 0, .int 0, .int (-1), .int 0, .int 0, .int 0, .int 0, .int 0, .ref (b 21), .ref (b 22), .int 0, .ref (b 23), .ref (b 24), .ref (b 25), .ref (b 26), .ref (b 27), .ref (b 28), .ref (b 29), .ref (b 30), .ref (b 31), .ref (b 32), .ref (b 33), .int 0, .int 0, .ref (b 34), .ref (b 35), .ref (b 36), .ref (b 37), .ref (b 38), .int 0, .int 0, .ref (b 39), .ref (b 40), .ref (b 41), .ref (b 42), .ref (b 43), .ref (b 44), .ref (b 45), .int 0, .int 0, .int 0, .ref (b 46), .int 0, .int 0])), ((b 5), .inl ((j 5), 900, .inl (upd (upd (upd (upd f (16 : Int32).toNatClampNeg ((p0 >>> (24 &&& 31)) &&& 255)) (17 : Int32).toNatClampNeg ((p0 >>> (16 &&& 31)) &&& 255)) (18 : Int32).toNatClampNeg ((p0 >>> (8 &&& 31)) &&& 255)) (19 : Int32).toNatClampNeg ((p0 >>> (0 &&& 31)) &&& 255))))] H := hP
  have hD : va_D A [((b 0), .inr (9, [.int 0, .ref (b 10), .ref (b 11), .ref (b 12), .ref (b 13), .ref (b 14), .ref (b 15), .ref (b 16), .ref (b 17), .ref (b 18), .ref (b 19), .ref (b 20), .ref (b 1), .ref (b 2), .ref (b 3), .ref (b 4), .int 0, .ref (b 5), .int 20, .int 0, .int 0, .int 0, .int 0, .int 0, .int 0, .int (-1), .int 0, .int 0, .int 0, .int 0, .int 0, .ref (b 21), .ref (b 22), .int 0, .ref (b 23), .ref (b 24), .ref (b 25), .ref (b 26), .ref (b 27), .ref (b 28), .ref (b 29), .ref (b 30), .ref (b 31), .ref (b 32), .ref (b 33), .int 0, .int 0, .ref (b 34), .ref (b 35), .ref (b 36), .ref (b 37), .ref (b 38), .int 0, .int 0, .ref (b 39), .ref (b 40), .ref (b 41), .ref (b 42), .ref (b 43), .ref (b 44), .ref (b 45), .int 0, .int 0, .int 0, .ref (b 46), .int 0, .int 0])), ((b 5), .inl ((j 5), 900, .inl (upd (upd (upd (upd f (16 : Int32).toNatClampNeg ((p0 >>> (24 &&& 31)) &&& 255)) (17 : Int32).toNatClampNeg ((p0 >>> (16 &&& 31)) &&& 255)) (18 : Int32).toNatClampNeg ((p0 >>> (8 &&& 31)) &&& 255)) (19 : Int32).toNatClampNeg ((p0 >>> (0 &&& 31)) &&& 255))))] := hD
  refine lv_iinc (v := (-8)) (lv' := [(2, .int (-8)), (0, .ref (b 0)), (1, .int p0)]) hx hb dX9_four_33 hl (k := 0) rfl (by decide) (by decide) rfl (fun ls hl => ?_)
  refine lv_goto (tgt := 3) hx hb dX9_four_36 (by decide) ?_
  refine lv_iload_n hx hb dX9_four_3 rfl (lv_at hl 0 rfl) ?_
  refine lv_if_lt (tgt := 39) hx hb dX9_four_4 (by decide) (fun _ => ?_) (fun z => absurd z (by decide))
  have hP9 := hP.sub (ws' := [((b 0), .inr (9, [.int 0, .ref (b 10), .ref (b 11), .ref (b 12), .ref (b 13), .ref (b 14), .ref (b 15), .ref (b 16), .ref (b 17), .ref (b 18), .ref (b 19), .ref (b 20), .ref (b 1), .ref (b 2), .ref (b 3), .ref (b 4), .int 0, .ref (b 5), .int 20, .int 0, .int 0, .int 0, .int 0, .int 0, .int 0, .int (-1), .int 0, .int 0, .int 0, .int 0, .int 0, .ref (b 21), .ref (b 22), .int 0, .ref (b 23), .ref (b 24), .ref (b 25), .ref (b 26), .ref (b 27), .ref (b 28), .ref (b 29), .ref (b 30), .ref (b 31), .ref (b 32), .ref (b 33), .int 0, .int 0, .ref (b 34), .ref (b 35), .ref (b 36), .ref (b 37), .ref (b 38), .int 0, .int 0, .ref (b 39), .ref (b 40), .ref (b 41), .ref (b 42), .ref (b 43), .ref (b 44), .ref (b 45), .int 0, .int 0, .int 0, .ref (b 46), .int 0, .int 0])), ((b 5), .inl ((j 5), 900, .inl (upd (upd (upd (upd f (16 : Int32).toNatClampNeg ((p0 >>> (24 &&& 31)) &&& 255)) (17 : Int32).toNatClampNeg ((p0 >>> (16 &&& 31)) &&& 255)) (18 : Int32).toNatClampNeg ((p0 >>> (8 &&& 31)) &&& 255)) (19 : Int32).toNatClampNeg ((p0 >>> (0 &&& 31)) &&& 255))))]) [0, 1] rfl
  have hD9 := hD.sub (ws' := [((b 0), .inr (9, [.int 0, .ref (b 10), .ref (b 11), .ref (b 12), .ref (b 13), .ref (b 14), .ref (b 15), .ref (b 16), .ref (b 17), .ref (b 18), .ref (b 19), .ref (b 20), .ref (b 1), .ref (b 2), .ref (b 3), .ref (b 4), .int 0, .ref (b 5), .int 20, .int 0, .int 0, .int 0, .int 0, .int 0, .int 0, .int (-1), .int 0, .int 0, .int 0, .int 0, .int 0, .ref (b 21), .ref (b 22), .int 0, .ref (b 23), .ref (b 24), .ref (b 25), .ref (b 26), .ref (b 27), .ref (b 28), .ref (b 29), .ref (b 30), .ref (b 31), .ref (b 32), .ref (b 33), .int 0, .int 0, .ref (b 34), .ref (b 35), .ref (b 36), .ref (b 37), .ref (b 38), .int 0, .int 0, .ref (b 39), .ref (b 40), .ref (b 41), .ref (b 42), .ref (b 43), .ref (b 44), .ref (b 45), .int 0, .int 0, .int 0, .ref (b 46), .int 0, .int 0])), ((b 5), .inl ((j 5), 900, .inl (upd (upd (upd (upd f (16 : Int32).toNatClampNeg ((p0 >>> (24 &&& 31)) &&& 255)) (17 : Int32).toNatClampNeg ((p0 >>> (16 &&& 31)) &&& 255)) (18 : Int32).toNatClampNeg ((p0 >>> (8 &&& 31)) &&& 255)) (19 : Int32).toNatClampNeg ((p0 >>> (0 &&& 31)) &&& 255))))]) [0, 1] (by decide) rfl
  have hK9 := hK.sub (tys' := [(j 5, .int)]) [0] rfl
  exact W.vret hx hb hr (fun t ht hW => ⟨⟨(), rfl, trivial, ⟨upd (upd (upd (upd f (16 : Int32).toNatClampNeg ((p0 >>> (24 &&& 31)) &&& 255)) (17 : Int32).toNatClampNeg ((p0 >>> (16 &&& 31)) &&& 255)) (18 : Int32).toNatClampNeg ((p0 >>> (8 &&& 31)) &&& 255)) (19 : Int32).toNatClampNeg ((p0 >>> (0 &&& 31)) &&& 255), by rw [ht]; exact hP9, va_K.moved hW.alike hK9, hD9⟩⟩, hS.F ht⟩) hS.2.2 dX9_four_39
theorem dX8_feed_0 : decode cX8_feed 0 = .ok (.aload_n 0, 1) := by decide +kernel
theorem dX8_feed_1 : decode cX8_feed 1 = .ok (.getfield 79, 3) := by decide +kernel
theorem dX8_feed_4 : decode cX8_feed 4 = .ok (.bipush 20, 2) := by decide +kernel
theorem dX8_feed_6 : decode cX8_feed 6 = .ok (.iadd, 1) := by decide +kernel
theorem dX8_feed_7 : decode cX8_feed 7 = .ok (.sipush 900, 3) := by decide +kernel
theorem dX8_feed_10 : decode cX8_feed 10 = .ok (.if_icmp .le 5, 3) := by decide +kernel
theorem dX8_feed_15 : decode cX8_feed 15 = .ok (.aload_n 0, 1) := by decide +kernel
theorem dX8_feed_16 : decode cX8_feed 16 = .ok (.iload_n 1, 1) := by decide +kernel
theorem dX8_feed_17 : decode cX8_feed 17 = .ok (.invokevirtual 83, 3) := by decide +kernel
theorem dX8_feed_20 : decode cX8_feed 20 = .ok (.aload_n 0, 1) := by decide +kernel
theorem dX8_feed_21 : decode cX8_feed 21 = .ok (.iload_n 2, 1) := by decide +kernel
theorem dX8_feed_22 : decode cX8_feed 22 = .ok (.invokevirtual 83, 3) := by decide +kernel
theorem dX8_feed_25 : decode cX8_feed 25 = .ok (.aload_n 0, 1) := by decide +kernel
theorem dX8_feed_26 : decode cX8_feed 26 = .ok (.iload_n 3, 1) := by decide +kernel
theorem dX8_feed_27 : decode cX8_feed 27 = .ok (.invokevirtual 83, 3) := by decide +kernel
theorem dX8_feed_30 : decode cX8_feed 30 = .ok (.aload_n 0, 1) := by decide +kernel
theorem dX8_feed_31 : decode cX8_feed 31 = .ok (.iload 4, 2) := by decide +kernel
theorem dX8_feed_33 : decode cX8_feed 33 = .ok (.invokevirtual 83, 3) := by decide +kernel
theorem dX8_feed_36 : decode cX8_feed 36 = .ok (.aload_n 0, 1) := by decide +kernel
theorem dX8_feed_37 : decode cX8_feed 37 = .ok (.iload 5, 2) := by decide +kernel
theorem dX8_feed_39 : decode cX8_feed 39 = .ok (.invokevirtual 83, 3) := by decide +kernel
theorem dX8_feed_42 : decode cX8_feed 42 = .ok (.aload_n 0, 1) := by decide +kernel
theorem dX8_feed_43 : decode cX8_feed 43 = .ok (.getfield 79, 3) := by decide +kernel
theorem dX8_feed_46 : decode cX8_feed 46 = .ok (.ireturn, 1) := by decide +kernel
def vs_X8_feed : List Cond := .code yX8_feed cX8_feed 6 (some .int) :: ([.fieldLink RX8 79 "ClockReach" "taped" "I", .methodLink RX8 83 yX8_putBytes, .instanceMethod yX8_putBytes, .selects RX8 yX8_putBytes yX8_putBytes, .initialized RX8, .code yX8_putBytes cX8_putBytes 3 none, .fieldLink RX8 9 "ClockReach" "tape" "[I"] ++ wsX80)
theorem g_X8_feed_X8_putBytes_0 : GoodIn vs_X8_feed (wsV RX8 83 RX8 yX8_putBytes vs_X8_putBytes_0) := goodIn_r _ [2, 3, 4, 5, 6, 1, 7, 8, 9, 10, 11, 12, 13, 14, 15, 16, 17, 18, 19, 20, 21, 22, 23] (by decide +kernel) (by decide +kernel)
theorem g_X8_feed_X8_putBytes_4 : GoodIn vs_X8_feed (wsV RX8 83 RX8 yX8_putBytes vs_X8_putBytes_4) := goodIn_r _ [2, 3, 4, 5, 6, 1, 7, 8, 9, 10, 11, 12, 13, 14, 15, 16, 17, 18, 19, 20, 21, 22, 23] (by decide +kernel) (by decide +kernel)
theorem g_X8_feed_X8_putBytes_8 : GoodIn vs_X8_feed (wsV RX8 83 RX8 yX8_putBytes vs_X8_putBytes_8) := goodIn_r _ [2, 3, 4, 5, 6, 1, 7, 8, 9, 10, 11, 12, 13, 14, 15, 16, 17, 18, 19, 20, 21, 22, 23] (by decide +kernel) (by decide +kernel)
theorem g_X8_feed_X8_putBytes_12 : GoodIn vs_X8_feed (wsV RX8 83 RX8 yX8_putBytes vs_X8_putBytes_12) := goodIn_r _ [2, 3, 4, 5, 6, 1, 7, 8, 9, 10, 11, 12, 13, 14, 15, 16, 17, 18, 19, 20, 21, 22, 23] (by decide +kernel) (by decide +kernel)
theorem g_X8_feed_X8_putBytes_16 : GoodIn vs_X8_feed (wsV RX8 83 RX8 yX8_putBytes vs_X8_putBytes_16) := goodIn_r _ [2, 3, 4, 5, 6, 1, 7, 8, 9, 10, 11, 12, 13, 14, 15, 16, 17, 18, 19, 20, 21, 22, 23] (by decide +kernel) (by decide +kernel)
set_option maxHeartbeats 4000000 in
set_option maxRecDepth 100000 in
theorem c_X8_feed (l : Launch) (dC : Nat → ClassId) (dI : Nat → Nat → Nat) (sz : Nat) (a : Nat → Nat) (k : Nat → ClassId) (p0 : Int32) (p1 : Int32) (p2 : Int32) (p3 : Int32) (p4 : Int32) : Met l yX8_feed vs_X8_feed ({ frames := 1, cells := 0, slots := 0, locals := 22 }) (va_Pc [.ref (a 0), .int p0, .int p1, .int p2, .int p3, .int p4] (pu_B (dC, dI) (wX a k) (tX k) sz)) (va_Qi (fun (r : Int32) (_ : Unit) => r = 20) (fun _ _ => True) (va_A (wX a k) sz)) 0 0 (va_A (wX a k) sz) := by
  refine Met.ofW (cc := cX8_feed) (maxL := 6) (ret := (some .int)) (by decide) rfl ?_
  intro p e s m args below meth c s₁ B hml hv
  obtain ⟨rfl, rfl, hP, hK, hD0⟩ := hv
  have hx := B.exec
  have hb := B.bytes
  have hr := B.returns
  have hts := atoms_spec (ws := vs_X8_feed) B.pre
  have v_1 := hts (.fieldLink RX8 79 "ClockReach" "taped" "I") (List.mem_of_getElem? (i := 1) rfl)
  have hown : s.vm.findClass RX8 = some m.cls := findClass_of_methodNamed B.named
  have hlocks := B.notSynchronized
  have hiX8 : ∀ w ∈ wsX80, w ∈ vs_X8_feed := fun _ h => List.mem_cons_of_mem _ (List.mem_append_right _ h)
  have hD := hD0.self (sz := s.heap.size)
  generalize hAe : va_A (wX a k) s.heap.size = A at hD ⊢
  have hA : ∀ q : Nat, s.heap.size ≤ q → A q := fun q h => by rw [← hAe]; exact Or.inr h
  have hS : va_S A s.heap s.heap [] := va_S.rf
  have hl := lv_entry ([.ref (a 0), .int p0, .int p1, .int p2, .int p3, .int p4]) (n := 6) (Nat.le_of_ble_eq_true rfl)
  rw [lg_entry_eq]
  generalize (lg_sl ([.ref (a 0), .int p0, .int p1, .int p2, .int p3, .int p4]) ++ List.replicate (6 - (lg_sl ([.ref (a 0), .int p0, .int p1, .int p2, .int p3, .int p4])).length) Slot.unset).toArray = ls at hl ⊢
  have hl : lv_has ls 6 [(0, .ref (a 0)), (1, .int p0), (2, .int p1), (3, .int p2), (4, .int p3), (5, .int p4)] := hl
  refine lv_aload_n hx hb dX8_feed_0 rfl (lv_at hl 0 rfl) ?_
  refine va_get (D := (dC, dI)) (ci := 8) (v := .int 0) (C := RX8) (T := TX8) (N := 16) hx hb hts hiX8 hown hK hP 0 rfl rfl 1 (by decide) v_1 (fun _ h9 => h9) rfl dX8_feed_1 ?_
  refine lv_bipush (v := 20) hx hb dX8_feed_4 (by decide) ?_
  refine lv_iadd hx hb dX8_feed_6 ?_
  refine lv_topi (fun y_1 ey_1 => ?_)
  obtain rfl : y_1 = 20 := ey_1.trans (by decide)
  refine lv_sipush (v := 900) hx hb dX8_feed_7 (by decide) ?_
  refine lv_icmp_le (tgt := 15) hx hb dX8_feed_10 (by decide) (fun _ => ?_) (fun z => absurd z (by decide))
  refine lv_aload_n hx hb dX8_feed_15 rfl (lv_at hl 0 rfl) ?_
  refine lv_iload_n hx hb dX8_feed_16 rfl (lv_at hl 1 rfl) ?_
  have hFc := va_free (wc := [((a 0), .inr (8, [.ref (a 6), .int 0, .ref (a 4), .ref (a 1), .ref (a 5), .ref (a 2), .ref (a 10), .int 0, .ref (a 11), .ref (a 12), .int 0, .ref (a 13), .ref (a 14), .ref (a 3), .ref (a 15), .ref (a 16)])), ((a 6), .inl ((k 0), 900, .inl (fun _ => 0)))]) hD hS hA [0, 6] rfl
  refine va_callv (va_runV (As := [.int p0]) (rest := []) ⟨hx, hb, hml, hown, hts⟩ (c_X8_putBytes_0 l dC dI _ a k (fun _ => 0) p0) (cwV 1 hts g_X8_feed_X8_putBytes_0 rfl rfl rfl (by decide +kernel) ⟨Nat.le_of_ble_eq_true rfl, Nat.le_of_ble_eq_true rfl⟩) ⟨pu_bl, va_recv hK hP (ci := 8) (q0 := 0) rfl rfl, pu_in (hP.sub [0, 6] rfl) (hK.sub [0] rfl) (hD.sub [0, 6] (by decide) rfl)⟩ rfl rfl hl.1 rfl (lv_room (Nat.le_of_ble_eq_true rfl)) dX8_feed_17 ⟨Nat.le_of_ble_eq_true rfl, Nat.le_of_ble_eq_true rfl⟩) hS (fun q _ h => hFc q h) hFc (fun u t H1 locs ht hvm hw hB hz1 hk1 hS => ?_)
  obtain ⟨g_3, ⟨hP1, hK1, hD1⟩⟩ := hB
  rw [ht] at hP1
  have hK1 := va_K.moved hvm.symm hK1
  obtain ⟨hP, hD⟩ := va_join (wr := [((a 1), .inr (0, [.int 0, .int 0, .int 0, .int (-1), .ref (a 20), .ref (a 21), .ref (a 22), .ref (a 23), .ref (a 7), .ref (a 24), .ref (a 25), .ref (a 26), .ref (a 27), .ref (a 28), .ref (a 29), .ref (a 30), .ref (a 31)])), ((a 2), .inr (2, [.int 0, .ref (a 60), .ref (a 61)])), ((a 3), .inr (3, [.int 0, .int 0, .int 0, .ref (a 62), .ref (a 63)])), ((a 4), .inr (4, [.int 0, .int (-1), .null, .int 0, .int 0, .int 0, .int 0, .int 0, .null, .ref (a 64), .ref (a 65), .ref (a 66)])), ((a 5), .inr (0, [.int 0, .int 0, .int 0, .int (-1), .ref (a 8), .ref (a 41), .ref (a 42), .ref (a 43), .ref (a 9), .ref (a 44), .ref (a 45), .ref (a 46), .ref (a 47), .ref (a 48), .ref (a 49), .ref (a 50), .ref (a 51)])), ((a 7), .inl ((k 1), 22, .inl (fun _ => 0))), ((a 8), .inl ((k 2), 8, .inl (fun _ => 0))), ((a 9), .inl ((k 3), 22, .inl (fun _ => 0)))]) (w1 := [((a 0), .inr (8, [.ref (a 6), .int 4, .ref (a 4), .ref (a 1), .ref (a 5), .ref (a 2), .ref (a 10), .int 0, .ref (a 11), .ref (a 12), .int 0, .ref (a 13), .ref (a 14), .ref (a 3), .ref (a 15), .ref (a 16)])), ((a 6), .inl ((k 0), 900, .inl g_3))]) hP hD [0, 6] [1, 2, 3, 4, 5, 7, 8, 9] rfl rfl (by decide) (by decide) hk1 hFc hP1 hD1
  have hK := hK.app hK1
  clear hk1 hz1 ht hvm
  generalize H1 = H at hP hS ⊢
  have hP : va_P (dC, dI) vwCl [((a 1), .inr (0, [.int 0, .int 0, .int 0, .int (-1), .ref (a 20), .ref (a 21), .ref (a 22), .ref (a 23), .ref (a 7), .ref (a 24), .ref (a 25), .ref (a 26), .ref (a 27), .ref (a 28), .ref (a 29), .ref (a 30), .ref (a 31)])), ((a 2), .inr (2, [.int 0, .ref (a 60), .ref (a 61)])), ((a 3), .inr (3, [.int 0, .int 0, .int 0, .ref (a 62), .ref (a 63)])), ((a 4), .inr (4, [.int 0, .int (-1), .null, .int 0, .int 0, .int 0, .int 0, .int 0, .null, .ref (a 64), .ref (a 65), .ref (a 66)])), ((a 5), .inr (0, [.int 0, .int 0, .int 0, .int (-1), .ref (a 8), .ref (a 41), .ref (a 42), .ref (a 43), .ref (a 9), .ref (a 44), .ref (a 45), .ref (a 46), .ref (a 47), .ref (a 48), .ref (a 49), .ref (a 50), .ref (a 51)])), ((a 7), .inl ((k 1), 22, .inl (fun _ => 0))), ((a 8), .inl ((k 2), 8, .inl (fun _ => 0))), ((a 9), .inl ((k 3), 22, .inl (fun _ => 0))), ((a 0), .inr (8, [.ref (a 6), .int 4, .ref (a 4), .ref (a 1), .ref (a 5), .ref (a 2), .ref (a 10), .int 0, .ref (a 11), .ref (a 12), .int 0, .ref (a 13), .ref (a 14), .ref (a 3), .ref (a 15), .ref (a 16)])), ((a 6), .inl ((k 0), 900, .inl g_3))] H := hP
  have hD : va_D A [((a 1), .inr (0, [.int 0, .int 0, .int 0, .int (-1), .ref (a 20), .ref (a 21), .ref (a 22), .ref (a 23), .ref (a 7), .ref (a 24), .ref (a 25), .ref (a 26), .ref (a 27), .ref (a 28), .ref (a 29), .ref (a 30), .ref (a 31)])), ((a 2), .inr (2, [.int 0, .ref (a 60), .ref (a 61)])), ((a 3), .inr (3, [.int 0, .int 0, .int 0, .ref (a 62), .ref (a 63)])), ((a 4), .inr (4, [.int 0, .int (-1), .null, .int 0, .int 0, .int 0, .int 0, .int 0, .null, .ref (a 64), .ref (a 65), .ref (a 66)])), ((a 5), .inr (0, [.int 0, .int 0, .int 0, .int (-1), .ref (a 8), .ref (a 41), .ref (a 42), .ref (a 43), .ref (a 9), .ref (a 44), .ref (a 45), .ref (a 46), .ref (a 47), .ref (a 48), .ref (a 49), .ref (a 50), .ref (a 51)])), ((a 7), .inl ((k 1), 22, .inl (fun _ => 0))), ((a 8), .inl ((k 2), 8, .inl (fun _ => 0))), ((a 9), .inl ((k 3), 22, .inl (fun _ => 0))), ((a 0), .inr (8, [.ref (a 6), .int 4, .ref (a 4), .ref (a 1), .ref (a 5), .ref (a 2), .ref (a 10), .int 0, .ref (a 11), .ref (a 12), .int 0, .ref (a 13), .ref (a 14), .ref (a 3), .ref (a 15), .ref (a 16)])), ((a 6), .inl ((k 0), 900, .inl g_3))] := hD
  have hK : va_K (dC, dI) vwCl [(k 0, .int), (k 1, .int), (k 2, .boolean), (k 3, .int), (k 0, .int)] s := hK
  refine lv_aload_n hx hb dX8_feed_20 rfl (lv_at hl 0 rfl) ?_
  refine lv_iload_n hx hb dX8_feed_21 rfl (lv_at hl 2 rfl) ?_
  have hFc := va_free (wc := [((a 0), .inr (8, [.ref (a 6), .int 4, .ref (a 4), .ref (a 1), .ref (a 5), .ref (a 2), .ref (a 10), .int 0, .ref (a 11), .ref (a 12), .int 0, .ref (a 13), .ref (a 14), .ref (a 3), .ref (a 15), .ref (a 16)])), ((a 6), .inl ((k 0), 900, .inl g_3))]) hD hS hA [8, 9] rfl
  refine va_callv (va_runV (As := [.int p1]) (rest := []) ⟨hx, hb, hml, hown, hts⟩ (c_X8_putBytes_4 l dC dI _ a k g_3 p1) (cwV 1 hts g_X8_feed_X8_putBytes_4 rfl rfl rfl (by decide +kernel) ⟨Nat.le_of_ble_eq_true rfl, Nat.le_of_ble_eq_true rfl⟩) ⟨pu_bl, va_recv hK hP (ci := 8) (q0 := 8) rfl rfl, pu_in (hP.sub [8, 9] rfl) (hK.sub [0] rfl) (hD.sub [8, 9] (by decide) rfl)⟩ rfl rfl hl.1 rfl (lv_room (Nat.le_of_ble_eq_true rfl)) dX8_feed_22 ⟨Nat.le_of_ble_eq_true rfl, Nat.le_of_ble_eq_true rfl⟩) hS (fun q _ h => hFc q h) hFc (fun u t H1 locs ht hvm hw hB hz1 hk1 hS => ?_)
  obtain ⟨g_5, ⟨hP1, hK1, hD1⟩⟩ := hB
  rw [ht] at hP1
  have hK1 := va_K.moved hvm.symm hK1
  obtain ⟨hP, hD⟩ := va_join (wr := [((a 1), .inr (0, [.int 0, .int 0, .int 0, .int (-1), .ref (a 20), .ref (a 21), .ref (a 22), .ref (a 23), .ref (a 7), .ref (a 24), .ref (a 25), .ref (a 26), .ref (a 27), .ref (a 28), .ref (a 29), .ref (a 30), .ref (a 31)])), ((a 2), .inr (2, [.int 0, .ref (a 60), .ref (a 61)])), ((a 3), .inr (3, [.int 0, .int 0, .int 0, .ref (a 62), .ref (a 63)])), ((a 4), .inr (4, [.int 0, .int (-1), .null, .int 0, .int 0, .int 0, .int 0, .int 0, .null, .ref (a 64), .ref (a 65), .ref (a 66)])), ((a 5), .inr (0, [.int 0, .int 0, .int 0, .int (-1), .ref (a 8), .ref (a 41), .ref (a 42), .ref (a 43), .ref (a 9), .ref (a 44), .ref (a 45), .ref (a 46), .ref (a 47), .ref (a 48), .ref (a 49), .ref (a 50), .ref (a 51)])), ((a 7), .inl ((k 1), 22, .inl (fun _ => 0))), ((a 8), .inl ((k 2), 8, .inl (fun _ => 0))), ((a 9), .inl ((k 3), 22, .inl (fun _ => 0)))]) (w1 := [((a 0), .inr (8, [.ref (a 6), .int 8, .ref (a 4), .ref (a 1), .ref (a 5), .ref (a 2), .ref (a 10), .int 0, .ref (a 11), .ref (a 12), .int 0, .ref (a 13), .ref (a 14), .ref (a 3), .ref (a 15), .ref (a 16)])), ((a 6), .inl ((k 0), 900, .inl g_5))]) hP hD [8, 9] [0, 1, 2, 3, 4, 5, 6, 7] rfl rfl (by decide) (by decide) hk1 hFc hP1 hD1
  have hK := hK.app hK1
  clear hk1 hz1 ht hvm
  generalize H1 = H at hP hS ⊢
  have hP : va_P (dC, dI) vwCl [((a 1), .inr (0, [.int 0, .int 0, .int 0, .int (-1), .ref (a 20), .ref (a 21), .ref (a 22), .ref (a 23), .ref (a 7), .ref (a 24), .ref (a 25), .ref (a 26), .ref (a 27), .ref (a 28), .ref (a 29), .ref (a 30), .ref (a 31)])), ((a 2), .inr (2, [.int 0, .ref (a 60), .ref (a 61)])), ((a 3), .inr (3, [.int 0, .int 0, .int 0, .ref (a 62), .ref (a 63)])), ((a 4), .inr (4, [.int 0, .int (-1), .null, .int 0, .int 0, .int 0, .int 0, .int 0, .null, .ref (a 64), .ref (a 65), .ref (a 66)])), ((a 5), .inr (0, [.int 0, .int 0, .int 0, .int (-1), .ref (a 8), .ref (a 41), .ref (a 42), .ref (a 43), .ref (a 9), .ref (a 44), .ref (a 45), .ref (a 46), .ref (a 47), .ref (a 48), .ref (a 49), .ref (a 50), .ref (a 51)])), ((a 7), .inl ((k 1), 22, .inl (fun _ => 0))), ((a 8), .inl ((k 2), 8, .inl (fun _ => 0))), ((a 9), .inl ((k 3), 22, .inl (fun _ => 0))), ((a 0), .inr (8, [.ref (a 6), .int 8, .ref (a 4), .ref (a 1), .ref (a 5), .ref (a 2), .ref (a 10), .int 0, .ref (a 11), .ref (a 12), .int 0, .ref (a 13), .ref (a 14), .ref (a 3), .ref (a 15), .ref (a 16)])), ((a 6), .inl ((k 0), 900, .inl g_5))] H := hP
  have hD : va_D A [((a 1), .inr (0, [.int 0, .int 0, .int 0, .int (-1), .ref (a 20), .ref (a 21), .ref (a 22), .ref (a 23), .ref (a 7), .ref (a 24), .ref (a 25), .ref (a 26), .ref (a 27), .ref (a 28), .ref (a 29), .ref (a 30), .ref (a 31)])), ((a 2), .inr (2, [.int 0, .ref (a 60), .ref (a 61)])), ((a 3), .inr (3, [.int 0, .int 0, .int 0, .ref (a 62), .ref (a 63)])), ((a 4), .inr (4, [.int 0, .int (-1), .null, .int 0, .int 0, .int 0, .int 0, .int 0, .null, .ref (a 64), .ref (a 65), .ref (a 66)])), ((a 5), .inr (0, [.int 0, .int 0, .int 0, .int (-1), .ref (a 8), .ref (a 41), .ref (a 42), .ref (a 43), .ref (a 9), .ref (a 44), .ref (a 45), .ref (a 46), .ref (a 47), .ref (a 48), .ref (a 49), .ref (a 50), .ref (a 51)])), ((a 7), .inl ((k 1), 22, .inl (fun _ => 0))), ((a 8), .inl ((k 2), 8, .inl (fun _ => 0))), ((a 9), .inl ((k 3), 22, .inl (fun _ => 0))), ((a 0), .inr (8, [.ref (a 6), .int 8, .ref (a 4), .ref (a 1), .ref (a 5), .ref (a 2), .ref (a 10), .int 0, .ref (a 11), .ref (a 12), .int 0, .ref (a 13), .ref (a 14), .ref (a 3), .ref (a 15), .ref (a 16)])), ((a 6), .inl ((k 0), 900, .inl g_5))] := hD
  have hK : va_K (dC, dI) vwCl [(k 0, .int), (k 1, .int), (k 2, .boolean), (k 3, .int), (k 0, .int), (k 0, .int)] s := hK
  refine lv_aload_n hx hb dX8_feed_25 rfl (lv_at hl 0 rfl) ?_
  refine lv_iload_n hx hb dX8_feed_26 rfl (lv_at hl 3 rfl) ?_
  have hFc := va_free (wc := [((a 0), .inr (8, [.ref (a 6), .int 8, .ref (a 4), .ref (a 1), .ref (a 5), .ref (a 2), .ref (a 10), .int 0, .ref (a 11), .ref (a 12), .int 0, .ref (a 13), .ref (a 14), .ref (a 3), .ref (a 15), .ref (a 16)])), ((a 6), .inl ((k 0), 900, .inl g_5))]) hD hS hA [8, 9] rfl
  refine va_callv (va_runV (As := [.int p2]) (rest := []) ⟨hx, hb, hml, hown, hts⟩ (c_X8_putBytes_8 l dC dI _ a k g_5 p2) (cwV 1 hts g_X8_feed_X8_putBytes_8 rfl rfl rfl (by decide +kernel) ⟨Nat.le_of_ble_eq_true rfl, Nat.le_of_ble_eq_true rfl⟩) ⟨pu_bl, va_recv hK hP (ci := 8) (q0 := 8) rfl rfl, pu_in (hP.sub [8, 9] rfl) (hK.sub [0] rfl) (hD.sub [8, 9] (by decide) rfl)⟩ rfl rfl hl.1 rfl (lv_room (Nat.le_of_ble_eq_true rfl)) dX8_feed_27 ⟨Nat.le_of_ble_eq_true rfl, Nat.le_of_ble_eq_true rfl⟩) hS (fun q _ h => hFc q h) hFc (fun u t H1 locs ht hvm hw hB hz1 hk1 hS => ?_)
  obtain ⟨g_7, ⟨hP1, hK1, hD1⟩⟩ := hB
  rw [ht] at hP1
  have hK1 := va_K.moved hvm.symm hK1
  obtain ⟨hP, hD⟩ := va_join (wr := [((a 1), .inr (0, [.int 0, .int 0, .int 0, .int (-1), .ref (a 20), .ref (a 21), .ref (a 22), .ref (a 23), .ref (a 7), .ref (a 24), .ref (a 25), .ref (a 26), .ref (a 27), .ref (a 28), .ref (a 29), .ref (a 30), .ref (a 31)])), ((a 2), .inr (2, [.int 0, .ref (a 60), .ref (a 61)])), ((a 3), .inr (3, [.int 0, .int 0, .int 0, .ref (a 62), .ref (a 63)])), ((a 4), .inr (4, [.int 0, .int (-1), .null, .int 0, .int 0, .int 0, .int 0, .int 0, .null, .ref (a 64), .ref (a 65), .ref (a 66)])), ((a 5), .inr (0, [.int 0, .int 0, .int 0, .int (-1), .ref (a 8), .ref (a 41), .ref (a 42), .ref (a 43), .ref (a 9), .ref (a 44), .ref (a 45), .ref (a 46), .ref (a 47), .ref (a 48), .ref (a 49), .ref (a 50), .ref (a 51)])), ((a 7), .inl ((k 1), 22, .inl (fun _ => 0))), ((a 8), .inl ((k 2), 8, .inl (fun _ => 0))), ((a 9), .inl ((k 3), 22, .inl (fun _ => 0)))]) (w1 := [((a 0), .inr (8, [.ref (a 6), .int 12, .ref (a 4), .ref (a 1), .ref (a 5), .ref (a 2), .ref (a 10), .int 0, .ref (a 11), .ref (a 12), .int 0, .ref (a 13), .ref (a 14), .ref (a 3), .ref (a 15), .ref (a 16)])), ((a 6), .inl ((k 0), 900, .inl g_7))]) hP hD [8, 9] [0, 1, 2, 3, 4, 5, 6, 7] rfl rfl (by decide) (by decide) hk1 hFc hP1 hD1
  have hK := hK.app hK1
  clear hk1 hz1 ht hvm
  generalize H1 = H at hP hS ⊢
  have hP : va_P (dC, dI) vwCl [((a 1), .inr (0, [.int 0, .int 0, .int 0, .int (-1), .ref (a 20), .ref (a 21), .ref (a 22), .ref (a 23), .ref (a 7), .ref (a 24), .ref (a 25), .ref (a 26), .ref (a 27), .ref (a 28), .ref (a 29), .ref (a 30), .ref (a 31)])), ((a 2), .inr (2, [.int 0, .ref (a 60), .ref (a 61)])), ((a 3), .inr (3, [.int 0, .int 0, .int 0, .ref (a 62), .ref (a 63)])), ((a 4), .inr (4, [.int 0, .int (-1), .null, .int 0, .int 0, .int 0, .int 0, .int 0, .null, .ref (a 64), .ref (a 65), .ref (a 66)])), ((a 5), .inr (0, [.int 0, .int 0, .int 0, .int (-1), .ref (a 8), .ref (a 41), .ref (a 42), .ref (a 43), .ref (a 9), .ref (a 44), .ref (a 45), .ref (a 46), .ref (a 47), .ref (a 48), .ref (a 49), .ref (a 50), .ref (a 51)])), ((a 7), .inl ((k 1), 22, .inl (fun _ => 0))), ((a 8), .inl ((k 2), 8, .inl (fun _ => 0))), ((a 9), .inl ((k 3), 22, .inl (fun _ => 0))), ((a 0), .inr (8, [.ref (a 6), .int 12, .ref (a 4), .ref (a 1), .ref (a 5), .ref (a 2), .ref (a 10), .int 0, .ref (a 11), .ref (a 12), .int 0, .ref (a 13), .ref (a 14), .ref (a 3), .ref (a 15), .ref (a 16)])), ((a 6), .inl ((k 0), 900, .inl g_7))] H := hP
  have hD : va_D A [((a 1), .inr (0, [.int 0, .int 0, .int 0, .int (-1), .ref (a 20), .ref (a 21), .ref (a 22), .ref (a 23), .ref (a 7), .ref (a 24), .ref (a 25), .ref (a 26), .ref (a 27), .ref (a 28), .ref (a 29), .ref (a 30), .ref (a 31)])), ((a 2), .inr (2, [.int 0, .ref (a 60), .ref (a 61)])), ((a 3), .inr (3, [.int 0, .int 0, .int 0, .ref (a 62), .ref (a 63)])), ((a 4), .inr (4, [.int 0, .int (-1), .null, .int 0, .int 0, .int 0, .int 0, .int 0, .null, .ref (a 64), .ref (a 65), .ref (a 66)])), ((a 5), .inr (0, [.int 0, .int 0, .int 0, .int (-1), .ref (a 8), .ref (a 41), .ref (a 42), .ref (a 43), .ref (a 9), .ref (a 44), .ref (a 45), .ref (a 46), .ref (a 47), .ref (a 48), .ref (a 49), .ref (a 50), .ref (a 51)])), ((a 7), .inl ((k 1), 22, .inl (fun _ => 0))), ((a 8), .inl ((k 2), 8, .inl (fun _ => 0))), ((a 9), .inl ((k 3), 22, .inl (fun _ => 0))), ((a 0), .inr (8, [.ref (a 6), .int 12, .ref (a 4), .ref (a 1), .ref (a 5), .ref (a 2), .ref (a 10), .int 0, .ref (a 11), .ref (a 12), .int 0, .ref (a 13), .ref (a 14), .ref (a 3), .ref (a 15), .ref (a 16)])), ((a 6), .inl ((k 0), 900, .inl g_7))] := hD
  have hK : va_K (dC, dI) vwCl [(k 0, .int), (k 1, .int), (k 2, .boolean), (k 3, .int), (k 0, .int), (k 0, .int), (k 0, .int)] s := hK
  refine lv_aload_n hx hb dX8_feed_30 rfl (lv_at hl 0 rfl) ?_
  refine lv_iload hx hb dX8_feed_31 (lv_at hl 4 rfl) ?_
  have hFc := va_free (wc := [((a 0), .inr (8, [.ref (a 6), .int 12, .ref (a 4), .ref (a 1), .ref (a 5), .ref (a 2), .ref (a 10), .int 0, .ref (a 11), .ref (a 12), .int 0, .ref (a 13), .ref (a 14), .ref (a 3), .ref (a 15), .ref (a 16)])), ((a 6), .inl ((k 0), 900, .inl g_7))]) hD hS hA [8, 9] rfl
  refine va_callv (va_runV (As := [.int p3]) (rest := []) ⟨hx, hb, hml, hown, hts⟩ (c_X8_putBytes_12 l dC dI _ a k g_7 p3) (cwV 1 hts g_X8_feed_X8_putBytes_12 rfl rfl rfl (by decide +kernel) ⟨Nat.le_of_ble_eq_true rfl, Nat.le_of_ble_eq_true rfl⟩) ⟨pu_bl, va_recv hK hP (ci := 8) (q0 := 8) rfl rfl, pu_in (hP.sub [8, 9] rfl) (hK.sub [0] rfl) (hD.sub [8, 9] (by decide) rfl)⟩ rfl rfl hl.1 rfl (lv_room (Nat.le_of_ble_eq_true rfl)) dX8_feed_33 ⟨Nat.le_of_ble_eq_true rfl, Nat.le_of_ble_eq_true rfl⟩) hS (fun q _ h => hFc q h) hFc (fun u t H1 locs ht hvm hw hB hz1 hk1 hS => ?_)
  obtain ⟨g_9, ⟨hP1, hK1, hD1⟩⟩ := hB
  rw [ht] at hP1
  have hK1 := va_K.moved hvm.symm hK1
  obtain ⟨hP, hD⟩ := va_join (wr := [((a 1), .inr (0, [.int 0, .int 0, .int 0, .int (-1), .ref (a 20), .ref (a 21), .ref (a 22), .ref (a 23), .ref (a 7), .ref (a 24), .ref (a 25), .ref (a 26), .ref (a 27), .ref (a 28), .ref (a 29), .ref (a 30), .ref (a 31)])), ((a 2), .inr (2, [.int 0, .ref (a 60), .ref (a 61)])), ((a 3), .inr (3, [.int 0, .int 0, .int 0, .ref (a 62), .ref (a 63)])), ((a 4), .inr (4, [.int 0, .int (-1), .null, .int 0, .int 0, .int 0, .int 0, .int 0, .null, .ref (a 64), .ref (a 65), .ref (a 66)])), ((a 5), .inr (0, [.int 0, .int 0, .int 0, .int (-1), .ref (a 8), .ref (a 41), .ref (a 42), .ref (a 43), .ref (a 9), .ref (a 44), .ref (a 45), .ref (a 46), .ref (a 47), .ref (a 48), .ref (a 49), .ref (a 50), .ref (a 51)])), ((a 7), .inl ((k 1), 22, .inl (fun _ => 0))), ((a 8), .inl ((k 2), 8, .inl (fun _ => 0))), ((a 9), .inl ((k 3), 22, .inl (fun _ => 0)))]) (w1 := [((a 0), .inr (8, [.ref (a 6), .int 16, .ref (a 4), .ref (a 1), .ref (a 5), .ref (a 2), .ref (a 10), .int 0, .ref (a 11), .ref (a 12), .int 0, .ref (a 13), .ref (a 14), .ref (a 3), .ref (a 15), .ref (a 16)])), ((a 6), .inl ((k 0), 900, .inl g_9))]) hP hD [8, 9] [0, 1, 2, 3, 4, 5, 6, 7] rfl rfl (by decide) (by decide) hk1 hFc hP1 hD1
  have hK := hK.app hK1
  clear hk1 hz1 ht hvm
  generalize H1 = H at hP hS ⊢
  have hP : va_P (dC, dI) vwCl [((a 1), .inr (0, [.int 0, .int 0, .int 0, .int (-1), .ref (a 20), .ref (a 21), .ref (a 22), .ref (a 23), .ref (a 7), .ref (a 24), .ref (a 25), .ref (a 26), .ref (a 27), .ref (a 28), .ref (a 29), .ref (a 30), .ref (a 31)])), ((a 2), .inr (2, [.int 0, .ref (a 60), .ref (a 61)])), ((a 3), .inr (3, [.int 0, .int 0, .int 0, .ref (a 62), .ref (a 63)])), ((a 4), .inr (4, [.int 0, .int (-1), .null, .int 0, .int 0, .int 0, .int 0, .int 0, .null, .ref (a 64), .ref (a 65), .ref (a 66)])), ((a 5), .inr (0, [.int 0, .int 0, .int 0, .int (-1), .ref (a 8), .ref (a 41), .ref (a 42), .ref (a 43), .ref (a 9), .ref (a 44), .ref (a 45), .ref (a 46), .ref (a 47), .ref (a 48), .ref (a 49), .ref (a 50), .ref (a 51)])), ((a 7), .inl ((k 1), 22, .inl (fun _ => 0))), ((a 8), .inl ((k 2), 8, .inl (fun _ => 0))), ((a 9), .inl ((k 3), 22, .inl (fun _ => 0))), ((a 0), .inr (8, [.ref (a 6), .int 16, .ref (a 4), .ref (a 1), .ref (a 5), .ref (a 2), .ref (a 10), .int 0, .ref (a 11), .ref (a 12), .int 0, .ref (a 13), .ref (a 14), .ref (a 3), .ref (a 15), .ref (a 16)])), ((a 6), .inl ((k 0), 900, .inl g_9))] H := hP
  have hD : va_D A [((a 1), .inr (0, [.int 0, .int 0, .int 0, .int (-1), .ref (a 20), .ref (a 21), .ref (a 22), .ref (a 23), .ref (a 7), .ref (a 24), .ref (a 25), .ref (a 26), .ref (a 27), .ref (a 28), .ref (a 29), .ref (a 30), .ref (a 31)])), ((a 2), .inr (2, [.int 0, .ref (a 60), .ref (a 61)])), ((a 3), .inr (3, [.int 0, .int 0, .int 0, .ref (a 62), .ref (a 63)])), ((a 4), .inr (4, [.int 0, .int (-1), .null, .int 0, .int 0, .int 0, .int 0, .int 0, .null, .ref (a 64), .ref (a 65), .ref (a 66)])), ((a 5), .inr (0, [.int 0, .int 0, .int 0, .int (-1), .ref (a 8), .ref (a 41), .ref (a 42), .ref (a 43), .ref (a 9), .ref (a 44), .ref (a 45), .ref (a 46), .ref (a 47), .ref (a 48), .ref (a 49), .ref (a 50), .ref (a 51)])), ((a 7), .inl ((k 1), 22, .inl (fun _ => 0))), ((a 8), .inl ((k 2), 8, .inl (fun _ => 0))), ((a 9), .inl ((k 3), 22, .inl (fun _ => 0))), ((a 0), .inr (8, [.ref (a 6), .int 16, .ref (a 4), .ref (a 1), .ref (a 5), .ref (a 2), .ref (a 10), .int 0, .ref (a 11), .ref (a 12), .int 0, .ref (a 13), .ref (a 14), .ref (a 3), .ref (a 15), .ref (a 16)])), ((a 6), .inl ((k 0), 900, .inl g_9))] := hD
  have hK : va_K (dC, dI) vwCl [(k 0, .int), (k 1, .int), (k 2, .boolean), (k 3, .int), (k 0, .int), (k 0, .int), (k 0, .int), (k 0, .int)] s := hK
  refine lv_aload_n hx hb dX8_feed_36 rfl (lv_at hl 0 rfl) ?_
  refine lv_iload hx hb dX8_feed_37 (lv_at hl 5 rfl) ?_
  have hFc := va_free (wc := [((a 0), .inr (8, [.ref (a 6), .int 16, .ref (a 4), .ref (a 1), .ref (a 5), .ref (a 2), .ref (a 10), .int 0, .ref (a 11), .ref (a 12), .int 0, .ref (a 13), .ref (a 14), .ref (a 3), .ref (a 15), .ref (a 16)])), ((a 6), .inl ((k 0), 900, .inl g_9))]) hD hS hA [8, 9] rfl
  refine va_callv (va_runV (As := [.int p4]) (rest := []) ⟨hx, hb, hml, hown, hts⟩ (c_X8_putBytes_16 l dC dI _ a k g_9 p4) (cwV 1 hts g_X8_feed_X8_putBytes_16 rfl rfl rfl (by decide +kernel) ⟨Nat.le_of_ble_eq_true rfl, Nat.le_of_ble_eq_true rfl⟩) ⟨pu_bl, va_recv hK hP (ci := 8) (q0 := 8) rfl rfl, pu_in (hP.sub [8, 9] rfl) (hK.sub [0] rfl) (hD.sub [8, 9] (by decide) rfl)⟩ rfl rfl hl.1 rfl (lv_room (Nat.le_of_ble_eq_true rfl)) dX8_feed_39 ⟨Nat.le_of_ble_eq_true rfl, Nat.le_of_ble_eq_true rfl⟩) hS (fun q _ h => hFc q h) hFc (fun u t H1 locs ht hvm hw hB hz1 hk1 hS => ?_)
  obtain ⟨g_11, ⟨hP1, hK1, hD1⟩⟩ := hB
  rw [ht] at hP1
  have hK1 := va_K.moved hvm.symm hK1
  obtain ⟨hP, hD⟩ := va_join (wr := [((a 1), .inr (0, [.int 0, .int 0, .int 0, .int (-1), .ref (a 20), .ref (a 21), .ref (a 22), .ref (a 23), .ref (a 7), .ref (a 24), .ref (a 25), .ref (a 26), .ref (a 27), .ref (a 28), .ref (a 29), .ref (a 30), .ref (a 31)])), ((a 2), .inr (2, [.int 0, .ref (a 60), .ref (a 61)])), ((a 3), .inr (3, [.int 0, .int 0, .int 0, .ref (a 62), .ref (a 63)])), ((a 4), .inr (4, [.int 0, .int (-1), .null, .int 0, .int 0, .int 0, .int 0, .int 0, .null, .ref (a 64), .ref (a 65), .ref (a 66)])), ((a 5), .inr (0, [.int 0, .int 0, .int 0, .int (-1), .ref (a 8), .ref (a 41), .ref (a 42), .ref (a 43), .ref (a 9), .ref (a 44), .ref (a 45), .ref (a 46), .ref (a 47), .ref (a 48), .ref (a 49), .ref (a 50), .ref (a 51)])), ((a 7), .inl ((k 1), 22, .inl (fun _ => 0))), ((a 8), .inl ((k 2), 8, .inl (fun _ => 0))), ((a 9), .inl ((k 3), 22, .inl (fun _ => 0)))]) (w1 := [((a 0), .inr (8, [.ref (a 6), .int 20, .ref (a 4), .ref (a 1), .ref (a 5), .ref (a 2), .ref (a 10), .int 0, .ref (a 11), .ref (a 12), .int 0, .ref (a 13), .ref (a 14), .ref (a 3), .ref (a 15), .ref (a 16)])), ((a 6), .inl ((k 0), 900, .inl g_11))]) hP hD [8, 9] [0, 1, 2, 3, 4, 5, 6, 7] rfl rfl (by decide) (by decide) hk1 hFc hP1 hD1
  have hK := hK.app hK1
  clear hk1 hz1 ht hvm
  generalize H1 = H at hP hS ⊢
  have hP : va_P (dC, dI) vwCl [((a 1), .inr (0, [.int 0, .int 0, .int 0, .int (-1), .ref (a 20), .ref (a 21), .ref (a 22), .ref (a 23), .ref (a 7), .ref (a 24), .ref (a 25), .ref (a 26), .ref (a 27), .ref (a 28), .ref (a 29), .ref (a 30), .ref (a 31)])), ((a 2), .inr (2, [.int 0, .ref (a 60), .ref (a 61)])), ((a 3), .inr (3, [.int 0, .int 0, .int 0, .ref (a 62), .ref (a 63)])), ((a 4), .inr (4, [.int 0, .int (-1), .null, .int 0, .int 0, .int 0, .int 0, .int 0, .null, .ref (a 64), .ref (a 65), .ref (a 66)])), ((a 5), .inr (0, [.int 0, .int 0, .int 0, .int (-1), .ref (a 8), .ref (a 41), .ref (a 42), .ref (a 43), .ref (a 9), .ref (a 44), .ref (a 45), .ref (a 46), .ref (a 47), .ref (a 48), .ref (a 49), .ref (a 50), .ref (a 51)])), ((a 7), .inl ((k 1), 22, .inl (fun _ => 0))), ((a 8), .inl ((k 2), 8, .inl (fun _ => 0))), ((a 9), .inl ((k 3), 22, .inl (fun _ => 0))), ((a 0), .inr (8, [.ref (a 6), .int 20, .ref (a 4), .ref (a 1), .ref (a 5), .ref (a 2), .ref (a 10), .int 0, .ref (a 11), .ref (a 12), .int 0, .ref (a 13), .ref (a 14), .ref (a 3), .ref (a 15), .ref (a 16)])), ((a 6), .inl ((k 0), 900, .inl g_11))] H := hP
  have hD : va_D A [((a 1), .inr (0, [.int 0, .int 0, .int 0, .int (-1), .ref (a 20), .ref (a 21), .ref (a 22), .ref (a 23), .ref (a 7), .ref (a 24), .ref (a 25), .ref (a 26), .ref (a 27), .ref (a 28), .ref (a 29), .ref (a 30), .ref (a 31)])), ((a 2), .inr (2, [.int 0, .ref (a 60), .ref (a 61)])), ((a 3), .inr (3, [.int 0, .int 0, .int 0, .ref (a 62), .ref (a 63)])), ((a 4), .inr (4, [.int 0, .int (-1), .null, .int 0, .int 0, .int 0, .int 0, .int 0, .null, .ref (a 64), .ref (a 65), .ref (a 66)])), ((a 5), .inr (0, [.int 0, .int 0, .int 0, .int (-1), .ref (a 8), .ref (a 41), .ref (a 42), .ref (a 43), .ref (a 9), .ref (a 44), .ref (a 45), .ref (a 46), .ref (a 47), .ref (a 48), .ref (a 49), .ref (a 50), .ref (a 51)])), ((a 7), .inl ((k 1), 22, .inl (fun _ => 0))), ((a 8), .inl ((k 2), 8, .inl (fun _ => 0))), ((a 9), .inl ((k 3), 22, .inl (fun _ => 0))), ((a 0), .inr (8, [.ref (a 6), .int 20, .ref (a 4), .ref (a 1), .ref (a 5), .ref (a 2), .ref (a 10), .int 0, .ref (a 11), .ref (a 12), .int 0, .ref (a 13), .ref (a 14), .ref (a 3), .ref (a 15), .ref (a 16)])), ((a 6), .inl ((k 0), 900, .inl g_11))] := hD
  have hK : va_K (dC, dI) vwCl [(k 0, .int), (k 1, .int), (k 2, .boolean), (k 3, .int), (k 0, .int), (k 0, .int), (k 0, .int), (k 0, .int), (k 0, .int)] s := hK
  refine lv_aload_n hx hb dX8_feed_42 rfl (lv_at hl 0 rfl) ?_
  refine va_get (D := (dC, dI)) (ci := 8) (v := .int 20) (C := RX8) (T := TX8) (N := 16) hx hb hts hiX8 hown hK hP 8 rfl rfl 1 (by decide) v_1 (fun _ h9 => h9) rfl dX8_feed_43 ?_
  exact W.iret (v := 20) hx hb hr (fun t ht hW => ⟨⟨20, (), rfl, by first | rfl | decide | simp_all, trivial⟩, hS.F ht⟩) hS.2.2 dX8_feed_46
theorem dX9_feed_0 : decode cX9_feed 0 = .ok (.aload_n 0, 1) := by decide +kernel
theorem dX9_feed_1 : decode cX9_feed 1 = .ok (.iconst 0, 1) := by decide +kernel
theorem dX9_feed_2 : decode cX9_feed 2 = .ok (.putfield 142, 3) := by decide +kernel
theorem dX9_feed_5 : decode cX9_feed 5 = .ok (.aload_n 0, 1) := by decide +kernel
theorem dX9_feed_6 : decode cX9_feed 6 = .ok (.getfield 145, 3) := by decide +kernel
theorem dX9_feed_9 : decode cX9_feed 9 = .ok (.bipush 20, 2) := by decide +kernel
theorem dX9_feed_11 : decode cX9_feed 11 = .ok (.iadd, 1) := by decide +kernel
theorem dX9_feed_12 : decode cX9_feed 12 = .ok (.sipush 900, 3) := by decide +kernel
theorem dX9_feed_15 : decode cX9_feed 15 = .ok (.if_icmp .le 5, 3) := by decide +kernel
theorem dX9_feed_20 : decode cX9_feed 20 = .ok (.aload_n 0, 1) := by decide +kernel
theorem dX9_feed_21 : decode cX9_feed 21 = .ok (.iload_n 1, 1) := by decide +kernel
theorem dX9_feed_22 : decode cX9_feed 22 = .ok (.invokevirtual 148, 3) := by decide +kernel
theorem dX9_feed_25 : decode cX9_feed 25 = .ok (.aload_n 0, 1) := by decide +kernel
theorem dX9_feed_26 : decode cX9_feed 26 = .ok (.iload_n 2, 1) := by decide +kernel
theorem dX9_feed_27 : decode cX9_feed 27 = .ok (.invokevirtual 148, 3) := by decide +kernel
theorem dX9_feed_30 : decode cX9_feed 30 = .ok (.aload_n 0, 1) := by decide +kernel
theorem dX9_feed_31 : decode cX9_feed 31 = .ok (.iload_n 3, 1) := by decide +kernel
theorem dX9_feed_32 : decode cX9_feed 32 = .ok (.invokevirtual 148, 3) := by decide +kernel
theorem dX9_feed_35 : decode cX9_feed 35 = .ok (.aload_n 0, 1) := by decide +kernel
theorem dX9_feed_36 : decode cX9_feed 36 = .ok (.iload 4, 2) := by decide +kernel
theorem dX9_feed_38 : decode cX9_feed 38 = .ok (.invokevirtual 148, 3) := by decide +kernel
theorem dX9_feed_41 : decode cX9_feed 41 = .ok (.aload_n 0, 1) := by decide +kernel
theorem dX9_feed_42 : decode cX9_feed 42 = .ok (.iload 5, 2) := by decide +kernel
theorem dX9_feed_44 : decode cX9_feed 44 = .ok (.invokevirtual 148, 3) := by decide +kernel
theorem dX9_feed_47 : decode cX9_feed 47 = .ok (.aload_n 0, 1) := by decide +kernel
theorem dX9_feed_48 : decode cX9_feed 48 = .ok (.getfield 145, 3) := by decide +kernel
theorem dX9_feed_51 : decode cX9_feed 51 = .ok (.ireturn, 1) := by decide +kernel
def vs_X9_feed : List Cond := .code yX9_feed cX9_feed 6 (some .int) :: ([.fieldLink RX9 142 "ClockReachModel" "thrown" "I", .fieldLink RX9 145 "ClockReachModel" "taped" "I", .methodLink RX9 148 yX9_four, .instanceMethod yX9_four, .selects RX9 yX9_four yX9_four, .initialized RX9, .code yX9_four cX9_four 3 none, .fieldLink RX9 55 "ClockReachModel" "tape" "[I"] ++ wsX90)
theorem g_X9_feed_X9_four_0 : GoodIn vs_X9_feed (wsV RX9 148 RX9 yX9_four vs_X9_four_0) := goodIn_r _ [3, 4, 5, 6, 7, 8, 2, 9, 10, 11, 12, 13, 14, 15, 16, 17, 18, 19, 20, 21, 22, 23, 24, 25, 26, 27, 28, 29, 30, 31, 32, 33, 34, 35, 36, 37, 38, 39, 40, 41, 42, 43, 44, 45, 46, 47, 48, 49, 50, 51, 52, 53, 54, 55, 56, 57, 58, 59, 60, 61, 62, 63, 64, 65, 66, 67, 68, 69, 70, 71, 72, 73, 74, 75] (by decide +kernel) (by decide +kernel)
theorem g_X9_feed_X9_four_4 : GoodIn vs_X9_feed (wsV RX9 148 RX9 yX9_four vs_X9_four_4) := goodIn_r _ [3, 4, 5, 6, 7, 8, 2, 9, 10, 11, 12, 13, 14, 15, 16, 17, 18, 19, 20, 21, 22, 23, 24, 25, 26, 27, 28, 29, 30, 31, 32, 33, 34, 35, 36, 37, 38, 39, 40, 41, 42, 43, 44, 45, 46, 47, 48, 49, 50, 51, 52, 53, 54, 55, 56, 57, 58, 59, 60, 61, 62, 63, 64, 65, 66, 67, 68, 69, 70, 71, 72, 73, 74, 75] (by decide +kernel) (by decide +kernel)
theorem g_X9_feed_X9_four_8 : GoodIn vs_X9_feed (wsV RX9 148 RX9 yX9_four vs_X9_four_8) := goodIn_r _ [3, 4, 5, 6, 7, 8, 2, 9, 10, 11, 12, 13, 14, 15, 16, 17, 18, 19, 20, 21, 22, 23, 24, 25, 26, 27, 28, 29, 30, 31, 32, 33, 34, 35, 36, 37, 38, 39, 40, 41, 42, 43, 44, 45, 46, 47, 48, 49, 50, 51, 52, 53, 54, 55, 56, 57, 58, 59, 60, 61, 62, 63, 64, 65, 66, 67, 68, 69, 70, 71, 72, 73, 74, 75] (by decide +kernel) (by decide +kernel)
theorem g_X9_feed_X9_four_12 : GoodIn vs_X9_feed (wsV RX9 148 RX9 yX9_four vs_X9_four_12) := goodIn_r _ [3, 4, 5, 6, 7, 8, 2, 9, 10, 11, 12, 13, 14, 15, 16, 17, 18, 19, 20, 21, 22, 23, 24, 25, 26, 27, 28, 29, 30, 31, 32, 33, 34, 35, 36, 37, 38, 39, 40, 41, 42, 43, 44, 45, 46, 47, 48, 49, 50, 51, 52, 53, 54, 55, 56, 57, 58, 59, 60, 61, 62, 63, 64, 65, 66, 67, 68, 69, 70, 71, 72, 73, 74, 75] (by decide +kernel) (by decide +kernel)
theorem g_X9_feed_X9_four_16 : GoodIn vs_X9_feed (wsV RX9 148 RX9 yX9_four vs_X9_four_16) := goodIn_r _ [3, 4, 5, 6, 7, 8, 2, 9, 10, 11, 12, 13, 14, 15, 16, 17, 18, 19, 20, 21, 22, 23, 24, 25, 26, 27, 28, 29, 30, 31, 32, 33, 34, 35, 36, 37, 38, 39, 40, 41, 42, 43, 44, 45, 46, 47, 48, 49, 50, 51, 52, 53, 54, 55, 56, 57, 58, 59, 60, 61, 62, 63, 64, 65, 66, 67, 68, 69, 70, 71, 72, 73, 74, 75] (by decide +kernel) (by decide +kernel)
set_option maxHeartbeats 4000000 in
set_option maxRecDepth 100000 in
theorem c_X9_feed (l : Launch) (dC : Nat → ClassId) (dI : Nat → Nat → Nat) (sz : Nat) (b : Nat → Nat) (j : Nat → ClassId) (p0 : Int32) (p1 : Int32) (p2 : Int32) (p3 : Int32) (p4 : Int32) : Met l yX9_feed vs_X9_feed ({ frames := 1, cells := 0, slots := 0, locals := 22 }) (va_Pc [.ref (b 0), .int p0, .int p1, .int p2, .int p3, .int p4] (pu_B (dC, dI) (wM b j) (tM j) sz)) (va_Qi (fun (r : Int32) (_ : Unit) => r = 20) (fun _ _ => True) (va_A (wM b j) sz)) 0 0 (va_A (wM b j) sz) := by
  refine Met.ofW (cc := cX9_feed) (maxL := 6) (ret := (some .int)) (by decide) rfl ?_
  intro p e s m args below meth c s₁ B hml hv
  obtain ⟨rfl, rfl, hP, hK, hD0⟩ := hv
  have hx := B.exec
  have hb := B.bytes
  have hr := B.returns
  have hts := atoms_spec (ws := vs_X9_feed) B.pre
  have v_1 := hts (.fieldLink RX9 142 "ClockReachModel" "thrown" "I") (List.mem_of_getElem? (i := 1) rfl)
  have v_2 := hts (.fieldLink RX9 145 "ClockReachModel" "taped" "I") (List.mem_of_getElem? (i := 2) rfl)
  have hown : s.vm.findClass RX9 = some m.cls := findClass_of_methodNamed B.named
  have hlocks := B.notSynchronized
  have hiX9 : ∀ w ∈ wsX90, w ∈ vs_X9_feed := fun _ h => List.mem_cons_of_mem _ (List.mem_append_right _ h)
  have hD := hD0.self (sz := s.heap.size)
  generalize hAe : va_A (wM b j) s.heap.size = A at hD ⊢
  have hA : ∀ q : Nat, s.heap.size ≤ q → A q := fun q h => by rw [← hAe]; exact Or.inr h
  have hS : va_S A s.heap s.heap [] := va_S.rf
  have hl := lv_entry ([.ref (b 0), .int p0, .int p1, .int p2, .int p3, .int p4]) (n := 6) (Nat.le_of_ble_eq_true rfl)
  rw [lg_entry_eq]
  generalize (lg_sl ([.ref (b 0), .int p0, .int p1, .int p2, .int p3, .int p4]) ++ List.replicate (6 - (lg_sl ([.ref (b 0), .int p0, .int p1, .int p2, .int p3, .int p4])).length) Slot.unset).toArray = ls at hl ⊢
  have hl : lv_has ls 6 [(0, .ref (b 0)), (1, .int p0), (2, .int p1), (3, .int p2), (4, .int p3), (5, .int p4)] := hl
  refine lv_aload_n hx hb dX9_feed_0 rfl (lv_at hl 0 rfl) ?_
  refine lv_iconst (v := 0) hx hb dX9_feed_1 (by decide) ?_
  refine va_put (D := (dC, dI)) (ci := 9) (v := .int 0) (ty := .int) (C := RX9) (T := TX9) (N := 67) hx hb hts hiX9 tyX9 tyX9_ok nmX9 hown hK hP hD hS 0 rfl rfl 0 (by decide) v_1 (fun _ h9 => h9) rfl (by decide +kernel) rfl rfl (Nat.le_of_ble_eq_true rfl) dX9_feed_2 (fun H locs hP hD hS => ?_)
  have hP : va_P (dC, dI) vwCl (wM b j) H := hP
  have hD : va_D A (wM b j) := hD
  refine lv_aload_n hx hb dX9_feed_5 rfl (lv_at hl 0 rfl) ?_
  refine va_get (D := (dC, dI)) (ci := 9) (v := .int 0) (C := RX9) (T := TX9) (N := 67) hx hb hts hiX9 hown hK hP 0 rfl rfl 18 (by decide) v_2 (fun _ h9 => h9) rfl dX9_feed_6 ?_
  refine lv_bipush (v := 20) hx hb dX9_feed_9 (by decide) ?_
  refine lv_iadd hx hb dX9_feed_11 ?_
  refine lv_topi (fun y_1 ey_1 => ?_)
  obtain rfl : y_1 = 20 := ey_1.trans (by decide)
  refine lv_sipush (v := 900) hx hb dX9_feed_12 (by decide) ?_
  refine lv_icmp_le (tgt := 20) hx hb dX9_feed_15 (by decide) (fun _ => ?_) (fun z => absurd z (by decide))
  refine lv_aload_n hx hb dX9_feed_20 rfl (lv_at hl 0 rfl) ?_
  refine lv_iload_n hx hb dX9_feed_21 rfl (lv_at hl 1 rfl) ?_
  have hFc := va_free (wc := [((b 0), .inr (9, [.int 0, .ref (b 10), .ref (b 11), .ref (b 12), .ref (b 13), .ref (b 14), .ref (b 15), .ref (b 16), .ref (b 17), .ref (b 18), .ref (b 19), .ref (b 20), .ref (b 1), .ref (b 2), .ref (b 3), .ref (b 4), .int 0, .ref (b 5), .int 0, .int 0, .int 0, .int 0, .int 0, .int 0, .int 0, .int (-1), .int 0, .int 0, .int 0, .int 0, .int 0, .ref (b 21), .ref (b 22), .int 0, .ref (b 23), .ref (b 24), .ref (b 25), .ref (b 26), .ref (b 27), .ref (b 28), .ref (b 29), .ref (b 30), .ref (b 31), .ref (b 32), .ref (b 33), .int 0, .int 0, .ref (b 34), .ref (b 35), .ref (b 36), .ref (b 37), .ref (b 38), .int 0, .int 0, .ref (b 39), .ref (b 40), .ref (b 41), .ref (b 42), .ref (b 43), .ref (b 44), .ref (b 45), .int 0, .int 0, .int 0, .ref (b 46), .int 0, .int 0])), ((b 5), .inl ((j 5), 900, .inl (fun _ => 0)))]) hD hS hA [0, 5] rfl
  refine va_callv (va_runV (As := [.int p0]) (rest := []) ⟨hx, hb, hml, hown, hts⟩ (c_X9_four_0 l dC dI _ b j (fun _ => 0) p0) (cwV 1 hts g_X9_feed_X9_four_0 rfl rfl rfl (by decide +kernel) ⟨Nat.le_of_ble_eq_true rfl, Nat.le_of_ble_eq_true rfl⟩) ⟨pu_bl, va_recv hK hP (ci := 9) (q0 := 0) rfl rfl, pu_in (hP.sub [0, 5] rfl) (hK.sub [4] rfl) (hD.sub [0, 5] (by decide) rfl)⟩ rfl rfl hl.1 rfl (lv_room (Nat.le_of_ble_eq_true rfl)) dX9_feed_22 ⟨Nat.le_of_ble_eq_true rfl, Nat.le_of_ble_eq_true rfl⟩) hS (fun q _ h => hFc q h) hFc (fun u t H1 locs ht hvm hw hB hz1 hk1 hS => ?_)
  obtain ⟨g_3, ⟨hP1, hK1, hD1⟩⟩ := hB
  rw [ht] at hP1
  have hK1 := va_K.moved hvm.symm hK1
  obtain ⟨hP, hD⟩ := va_join (wr := [((b 1), .inl ((j 1), 2, .inl (fun _ => 0))), ((b 2), .inl ((j 2), 2, .inl (fun _ => 0))), ((b 3), .inl ((j 3), 2, .inl (fun _ => 0))), ((b 4), .inl ((j 4), 2, .inl begF))]) (w1 := [((b 0), .inr (9, [.int 0, .ref (b 10), .ref (b 11), .ref (b 12), .ref (b 13), .ref (b 14), .ref (b 15), .ref (b 16), .ref (b 17), .ref (b 18), .ref (b 19), .ref (b 20), .ref (b 1), .ref (b 2), .ref (b 3), .ref (b 4), .int 0, .ref (b 5), .int 4, .int 0, .int 0, .int 0, .int 0, .int 0, .int 0, .int (-1), .int 0, .int 0, .int 0, .int 0, .int 0, .ref (b 21), .ref (b 22), .int 0, .ref (b 23), .ref (b 24), .ref (b 25), .ref (b 26), .ref (b 27), .ref (b 28), .ref (b 29), .ref (b 30), .ref (b 31), .ref (b 32), .ref (b 33), .int 0, .int 0, .ref (b 34), .ref (b 35), .ref (b 36), .ref (b 37), .ref (b 38), .int 0, .int 0, .ref (b 39), .ref (b 40), .ref (b 41), .ref (b 42), .ref (b 43), .ref (b 44), .ref (b 45), .int 0, .int 0, .int 0, .ref (b 46), .int 0, .int 0])), ((b 5), .inl ((j 5), 900, .inl g_3))]) hP hD [0, 5] [1, 2, 3, 4] rfl rfl (by decide) (by decide) hk1 hFc hP1 hD1
  have hK := hK.app hK1
  clear hk1 hz1 ht hvm
  generalize H1 = H at hP hS ⊢
  have hP : va_P (dC, dI) vwCl [((b 1), .inl ((j 1), 2, .inl (fun _ => 0))), ((b 2), .inl ((j 2), 2, .inl (fun _ => 0))), ((b 3), .inl ((j 3), 2, .inl (fun _ => 0))), ((b 4), .inl ((j 4), 2, .inl begF)), ((b 0), .inr (9, [.int 0, .ref (b 10), .ref (b 11), .ref (b 12), .ref (b 13), .ref (b 14), .ref (b 15), .ref (b 16), .ref (b 17), .ref (b 18), .ref (b 19), .ref (b 20), .ref (b 1), .ref (b 2), .ref (b 3), .ref (b 4), .int 0, .ref (b 5), .int 4, .int 0, .int 0, .int 0, .int 0, .int 0, .int 0, .int (-1), .int 0, .int 0, .int 0, .int 0, .int 0, .ref (b 21), .ref (b 22), .int 0, .ref (b 23), .ref (b 24), .ref (b 25), .ref (b 26), .ref (b 27), .ref (b 28), .ref (b 29), .ref (b 30), .ref (b 31), .ref (b 32), .ref (b 33), .int 0, .int 0, .ref (b 34), .ref (b 35), .ref (b 36), .ref (b 37), .ref (b 38), .int 0, .int 0, .ref (b 39), .ref (b 40), .ref (b 41), .ref (b 42), .ref (b 43), .ref (b 44), .ref (b 45), .int 0, .int 0, .int 0, .ref (b 46), .int 0, .int 0])), ((b 5), .inl ((j 5), 900, .inl g_3))] H := hP
  have hD : va_D A [((b 1), .inl ((j 1), 2, .inl (fun _ => 0))), ((b 2), .inl ((j 2), 2, .inl (fun _ => 0))), ((b 3), .inl ((j 3), 2, .inl (fun _ => 0))), ((b 4), .inl ((j 4), 2, .inl begF)), ((b 0), .inr (9, [.int 0, .ref (b 10), .ref (b 11), .ref (b 12), .ref (b 13), .ref (b 14), .ref (b 15), .ref (b 16), .ref (b 17), .ref (b 18), .ref (b 19), .ref (b 20), .ref (b 1), .ref (b 2), .ref (b 3), .ref (b 4), .int 0, .ref (b 5), .int 4, .int 0, .int 0, .int 0, .int 0, .int 0, .int 0, .int (-1), .int 0, .int 0, .int 0, .int 0, .int 0, .ref (b 21), .ref (b 22), .int 0, .ref (b 23), .ref (b 24), .ref (b 25), .ref (b 26), .ref (b 27), .ref (b 28), .ref (b 29), .ref (b 30), .ref (b 31), .ref (b 32), .ref (b 33), .int 0, .int 0, .ref (b 34), .ref (b 35), .ref (b 36), .ref (b 37), .ref (b 38), .int 0, .int 0, .ref (b 39), .ref (b 40), .ref (b 41), .ref (b 42), .ref (b 43), .ref (b 44), .ref (b 45), .int 0, .int 0, .int 0, .ref (b 46), .int 0, .int 0])), ((b 5), .inl ((j 5), 900, .inl g_3))] := hD
  have hK : va_K (dC, dI) vwCl [(j 1, .int), (j 2, .int), (j 3, .int), (j 4, .int), (j 5, .int), (j 5, .int)] s := hK
  refine lv_aload_n hx hb dX9_feed_25 rfl (lv_at hl 0 rfl) ?_
  refine lv_iload_n hx hb dX9_feed_26 rfl (lv_at hl 2 rfl) ?_
  have hFc := va_free (wc := [((b 0), .inr (9, [.int 0, .ref (b 10), .ref (b 11), .ref (b 12), .ref (b 13), .ref (b 14), .ref (b 15), .ref (b 16), .ref (b 17), .ref (b 18), .ref (b 19), .ref (b 20), .ref (b 1), .ref (b 2), .ref (b 3), .ref (b 4), .int 0, .ref (b 5), .int 4, .int 0, .int 0, .int 0, .int 0, .int 0, .int 0, .int (-1), .int 0, .int 0, .int 0, .int 0, .int 0, .ref (b 21), .ref (b 22), .int 0, .ref (b 23), .ref (b 24), .ref (b 25), .ref (b 26), .ref (b 27), .ref (b 28), .ref (b 29), .ref (b 30), .ref (b 31), .ref (b 32), .ref (b 33), .int 0, .int 0, .ref (b 34), .ref (b 35), .ref (b 36), .ref (b 37), .ref (b 38), .int 0, .int 0, .ref (b 39), .ref (b 40), .ref (b 41), .ref (b 42), .ref (b 43), .ref (b 44), .ref (b 45), .int 0, .int 0, .int 0, .ref (b 46), .int 0, .int 0])), ((b 5), .inl ((j 5), 900, .inl g_3))]) hD hS hA [4, 5] rfl
  refine va_callv (va_runV (As := [.int p1]) (rest := []) ⟨hx, hb, hml, hown, hts⟩ (c_X9_four_4 l dC dI _ b j g_3 p1) (cwV 1 hts g_X9_feed_X9_four_4 rfl rfl rfl (by decide +kernel) ⟨Nat.le_of_ble_eq_true rfl, Nat.le_of_ble_eq_true rfl⟩) ⟨pu_bl, va_recv hK hP (ci := 9) (q0 := 4) rfl rfl, pu_in (hP.sub [4, 5] rfl) (hK.sub [4] rfl) (hD.sub [4, 5] (by decide) rfl)⟩ rfl rfl hl.1 rfl (lv_room (Nat.le_of_ble_eq_true rfl)) dX9_feed_27 ⟨Nat.le_of_ble_eq_true rfl, Nat.le_of_ble_eq_true rfl⟩) hS (fun q _ h => hFc q h) hFc (fun u t H1 locs ht hvm hw hB hz1 hk1 hS => ?_)
  obtain ⟨g_5, ⟨hP1, hK1, hD1⟩⟩ := hB
  rw [ht] at hP1
  have hK1 := va_K.moved hvm.symm hK1
  obtain ⟨hP, hD⟩ := va_join (wr := [((b 1), .inl ((j 1), 2, .inl (fun _ => 0))), ((b 2), .inl ((j 2), 2, .inl (fun _ => 0))), ((b 3), .inl ((j 3), 2, .inl (fun _ => 0))), ((b 4), .inl ((j 4), 2, .inl begF))]) (w1 := [((b 0), .inr (9, [.int 0, .ref (b 10), .ref (b 11), .ref (b 12), .ref (b 13), .ref (b 14), .ref (b 15), .ref (b 16), .ref (b 17), .ref (b 18), .ref (b 19), .ref (b 20), .ref (b 1), .ref (b 2), .ref (b 3), .ref (b 4), .int 0, .ref (b 5), .int 8, .int 0, .int 0, .int 0, .int 0, .int 0, .int 0, .int (-1), .int 0, .int 0, .int 0, .int 0, .int 0, .ref (b 21), .ref (b 22), .int 0, .ref (b 23), .ref (b 24), .ref (b 25), .ref (b 26), .ref (b 27), .ref (b 28), .ref (b 29), .ref (b 30), .ref (b 31), .ref (b 32), .ref (b 33), .int 0, .int 0, .ref (b 34), .ref (b 35), .ref (b 36), .ref (b 37), .ref (b 38), .int 0, .int 0, .ref (b 39), .ref (b 40), .ref (b 41), .ref (b 42), .ref (b 43), .ref (b 44), .ref (b 45), .int 0, .int 0, .int 0, .ref (b 46), .int 0, .int 0])), ((b 5), .inl ((j 5), 900, .inl g_5))]) hP hD [4, 5] [0, 1, 2, 3] rfl rfl (by decide) (by decide) hk1 hFc hP1 hD1
  have hK := hK.app hK1
  clear hk1 hz1 ht hvm
  generalize H1 = H at hP hS ⊢
  have hP : va_P (dC, dI) vwCl [((b 1), .inl ((j 1), 2, .inl (fun _ => 0))), ((b 2), .inl ((j 2), 2, .inl (fun _ => 0))), ((b 3), .inl ((j 3), 2, .inl (fun _ => 0))), ((b 4), .inl ((j 4), 2, .inl begF)), ((b 0), .inr (9, [.int 0, .ref (b 10), .ref (b 11), .ref (b 12), .ref (b 13), .ref (b 14), .ref (b 15), .ref (b 16), .ref (b 17), .ref (b 18), .ref (b 19), .ref (b 20), .ref (b 1), .ref (b 2), .ref (b 3), .ref (b 4), .int 0, .ref (b 5), .int 8, .int 0, .int 0, .int 0, .int 0, .int 0, .int 0, .int (-1), .int 0, .int 0, .int 0, .int 0, .int 0, .ref (b 21), .ref (b 22), .int 0, .ref (b 23), .ref (b 24), .ref (b 25), .ref (b 26), .ref (b 27), .ref (b 28), .ref (b 29), .ref (b 30), .ref (b 31), .ref (b 32), .ref (b 33), .int 0, .int 0, .ref (b 34), .ref (b 35), .ref (b 36), .ref (b 37), .ref (b 38), .int 0, .int 0, .ref (b 39), .ref (b 40), .ref (b 41), .ref (b 42), .ref (b 43), .ref (b 44), .ref (b 45), .int 0, .int 0, .int 0, .ref (b 46), .int 0, .int 0])), ((b 5), .inl ((j 5), 900, .inl g_5))] H := hP
  have hD : va_D A [((b 1), .inl ((j 1), 2, .inl (fun _ => 0))), ((b 2), .inl ((j 2), 2, .inl (fun _ => 0))), ((b 3), .inl ((j 3), 2, .inl (fun _ => 0))), ((b 4), .inl ((j 4), 2, .inl begF)), ((b 0), .inr (9, [.int 0, .ref (b 10), .ref (b 11), .ref (b 12), .ref (b 13), .ref (b 14), .ref (b 15), .ref (b 16), .ref (b 17), .ref (b 18), .ref (b 19), .ref (b 20), .ref (b 1), .ref (b 2), .ref (b 3), .ref (b 4), .int 0, .ref (b 5), .int 8, .int 0, .int 0, .int 0, .int 0, .int 0, .int 0, .int (-1), .int 0, .int 0, .int 0, .int 0, .int 0, .ref (b 21), .ref (b 22), .int 0, .ref (b 23), .ref (b 24), .ref (b 25), .ref (b 26), .ref (b 27), .ref (b 28), .ref (b 29), .ref (b 30), .ref (b 31), .ref (b 32), .ref (b 33), .int 0, .int 0, .ref (b 34), .ref (b 35), .ref (b 36), .ref (b 37), .ref (b 38), .int 0, .int 0, .ref (b 39), .ref (b 40), .ref (b 41), .ref (b 42), .ref (b 43), .ref (b 44), .ref (b 45), .int 0, .int 0, .int 0, .ref (b 46), .int 0, .int 0])), ((b 5), .inl ((j 5), 900, .inl g_5))] := hD
  have hK : va_K (dC, dI) vwCl [(j 1, .int), (j 2, .int), (j 3, .int), (j 4, .int), (j 5, .int), (j 5, .int), (j 5, .int)] s := hK
  refine lv_aload_n hx hb dX9_feed_30 rfl (lv_at hl 0 rfl) ?_
  refine lv_iload_n hx hb dX9_feed_31 rfl (lv_at hl 3 rfl) ?_
  have hFc := va_free (wc := [((b 0), .inr (9, [.int 0, .ref (b 10), .ref (b 11), .ref (b 12), .ref (b 13), .ref (b 14), .ref (b 15), .ref (b 16), .ref (b 17), .ref (b 18), .ref (b 19), .ref (b 20), .ref (b 1), .ref (b 2), .ref (b 3), .ref (b 4), .int 0, .ref (b 5), .int 8, .int 0, .int 0, .int 0, .int 0, .int 0, .int 0, .int (-1), .int 0, .int 0, .int 0, .int 0, .int 0, .ref (b 21), .ref (b 22), .int 0, .ref (b 23), .ref (b 24), .ref (b 25), .ref (b 26), .ref (b 27), .ref (b 28), .ref (b 29), .ref (b 30), .ref (b 31), .ref (b 32), .ref (b 33), .int 0, .int 0, .ref (b 34), .ref (b 35), .ref (b 36), .ref (b 37), .ref (b 38), .int 0, .int 0, .ref (b 39), .ref (b 40), .ref (b 41), .ref (b 42), .ref (b 43), .ref (b 44), .ref (b 45), .int 0, .int 0, .int 0, .ref (b 46), .int 0, .int 0])), ((b 5), .inl ((j 5), 900, .inl g_5))]) hD hS hA [4, 5] rfl
  refine va_callv (va_runV (As := [.int p2]) (rest := []) ⟨hx, hb, hml, hown, hts⟩ (c_X9_four_8 l dC dI _ b j g_5 p2) (cwV 1 hts g_X9_feed_X9_four_8 rfl rfl rfl (by decide +kernel) ⟨Nat.le_of_ble_eq_true rfl, Nat.le_of_ble_eq_true rfl⟩) ⟨pu_bl, va_recv hK hP (ci := 9) (q0 := 4) rfl rfl, pu_in (hP.sub [4, 5] rfl) (hK.sub [4] rfl) (hD.sub [4, 5] (by decide) rfl)⟩ rfl rfl hl.1 rfl (lv_room (Nat.le_of_ble_eq_true rfl)) dX9_feed_32 ⟨Nat.le_of_ble_eq_true rfl, Nat.le_of_ble_eq_true rfl⟩) hS (fun q _ h => hFc q h) hFc (fun u t H1 locs ht hvm hw hB hz1 hk1 hS => ?_)
  obtain ⟨g_7, ⟨hP1, hK1, hD1⟩⟩ := hB
  rw [ht] at hP1
  have hK1 := va_K.moved hvm.symm hK1
  obtain ⟨hP, hD⟩ := va_join (wr := [((b 1), .inl ((j 1), 2, .inl (fun _ => 0))), ((b 2), .inl ((j 2), 2, .inl (fun _ => 0))), ((b 3), .inl ((j 3), 2, .inl (fun _ => 0))), ((b 4), .inl ((j 4), 2, .inl begF))]) (w1 := [((b 0), .inr (9, [.int 0, .ref (b 10), .ref (b 11), .ref (b 12), .ref (b 13), .ref (b 14), .ref (b 15), .ref (b 16), .ref (b 17), .ref (b 18), .ref (b 19), .ref (b 20), .ref (b 1), .ref (b 2), .ref (b 3), .ref (b 4), .int 0, .ref (b 5), .int 12, .int 0, .int 0, .int 0, .int 0, .int 0, .int 0, .int (-1), .int 0, .int 0, .int 0, .int 0, .int 0, .ref (b 21), .ref (b 22), .int 0, .ref (b 23), .ref (b 24), .ref (b 25), .ref (b 26), .ref (b 27), .ref (b 28), .ref (b 29), .ref (b 30), .ref (b 31), .ref (b 32), .ref (b 33), .int 0, .int 0, .ref (b 34), .ref (b 35), .ref (b 36), .ref (b 37), .ref (b 38), .int 0, .int 0, .ref (b 39), .ref (b 40), .ref (b 41), .ref (b 42), .ref (b 43), .ref (b 44), .ref (b 45), .int 0, .int 0, .int 0, .ref (b 46), .int 0, .int 0])), ((b 5), .inl ((j 5), 900, .inl g_7))]) hP hD [4, 5] [0, 1, 2, 3] rfl rfl (by decide) (by decide) hk1 hFc hP1 hD1
  have hK := hK.app hK1
  clear hk1 hz1 ht hvm
  generalize H1 = H at hP hS ⊢
  have hP : va_P (dC, dI) vwCl [((b 1), .inl ((j 1), 2, .inl (fun _ => 0))), ((b 2), .inl ((j 2), 2, .inl (fun _ => 0))), ((b 3), .inl ((j 3), 2, .inl (fun _ => 0))), ((b 4), .inl ((j 4), 2, .inl begF)), ((b 0), .inr (9, [.int 0, .ref (b 10), .ref (b 11), .ref (b 12), .ref (b 13), .ref (b 14), .ref (b 15), .ref (b 16), .ref (b 17), .ref (b 18), .ref (b 19), .ref (b 20), .ref (b 1), .ref (b 2), .ref (b 3), .ref (b 4), .int 0, .ref (b 5), .int 12, .int 0, .int 0, .int 0, .int 0, .int 0, .int 0, .int (-1), .int 0, .int 0, .int 0, .int 0, .int 0, .ref (b 21), .ref (b 22), .int 0, .ref (b 23), .ref (b 24), .ref (b 25), .ref (b 26), .ref (b 27), .ref (b 28), .ref (b 29), .ref (b 30), .ref (b 31), .ref (b 32), .ref (b 33), .int 0, .int 0, .ref (b 34), .ref (b 35), .ref (b 36), .ref (b 37), .ref (b 38), .int 0, .int 0, .ref (b 39), .ref (b 40), .ref (b 41), .ref (b 42), .ref (b 43), .ref (b 44), .ref (b 45), .int 0, .int 0, .int 0, .ref (b 46), .int 0, .int 0])), ((b 5), .inl ((j 5), 900, .inl g_7))] H := hP
  have hD : va_D A [((b 1), .inl ((j 1), 2, .inl (fun _ => 0))), ((b 2), .inl ((j 2), 2, .inl (fun _ => 0))), ((b 3), .inl ((j 3), 2, .inl (fun _ => 0))), ((b 4), .inl ((j 4), 2, .inl begF)), ((b 0), .inr (9, [.int 0, .ref (b 10), .ref (b 11), .ref (b 12), .ref (b 13), .ref (b 14), .ref (b 15), .ref (b 16), .ref (b 17), .ref (b 18), .ref (b 19), .ref (b 20), .ref (b 1), .ref (b 2), .ref (b 3), .ref (b 4), .int 0, .ref (b 5), .int 12, .int 0, .int 0, .int 0, .int 0, .int 0, .int 0, .int (-1), .int 0, .int 0, .int 0, .int 0, .int 0, .ref (b 21), .ref (b 22), .int 0, .ref (b 23), .ref (b 24), .ref (b 25), .ref (b 26), .ref (b 27), .ref (b 28), .ref (b 29), .ref (b 30), .ref (b 31), .ref (b 32), .ref (b 33), .int 0, .int 0, .ref (b 34), .ref (b 35), .ref (b 36), .ref (b 37), .ref (b 38), .int 0, .int 0, .ref (b 39), .ref (b 40), .ref (b 41), .ref (b 42), .ref (b 43), .ref (b 44), .ref (b 45), .int 0, .int 0, .int 0, .ref (b 46), .int 0, .int 0])), ((b 5), .inl ((j 5), 900, .inl g_7))] := hD
  have hK : va_K (dC, dI) vwCl [(j 1, .int), (j 2, .int), (j 3, .int), (j 4, .int), (j 5, .int), (j 5, .int), (j 5, .int), (j 5, .int)] s := hK
  refine lv_aload_n hx hb dX9_feed_35 rfl (lv_at hl 0 rfl) ?_
  refine lv_iload hx hb dX9_feed_36 (lv_at hl 4 rfl) ?_
  have hFc := va_free (wc := [((b 0), .inr (9, [.int 0, .ref (b 10), .ref (b 11), .ref (b 12), .ref (b 13), .ref (b 14), .ref (b 15), .ref (b 16), .ref (b 17), .ref (b 18), .ref (b 19), .ref (b 20), .ref (b 1), .ref (b 2), .ref (b 3), .ref (b 4), .int 0, .ref (b 5), .int 12, .int 0, .int 0, .int 0, .int 0, .int 0, .int 0, .int (-1), .int 0, .int 0, .int 0, .int 0, .int 0, .ref (b 21), .ref (b 22), .int 0, .ref (b 23), .ref (b 24), .ref (b 25), .ref (b 26), .ref (b 27), .ref (b 28), .ref (b 29), .ref (b 30), .ref (b 31), .ref (b 32), .ref (b 33), .int 0, .int 0, .ref (b 34), .ref (b 35), .ref (b 36), .ref (b 37), .ref (b 38), .int 0, .int 0, .ref (b 39), .ref (b 40), .ref (b 41), .ref (b 42), .ref (b 43), .ref (b 44), .ref (b 45), .int 0, .int 0, .int 0, .ref (b 46), .int 0, .int 0])), ((b 5), .inl ((j 5), 900, .inl g_7))]) hD hS hA [4, 5] rfl
  refine va_callv (va_runV (As := [.int p3]) (rest := []) ⟨hx, hb, hml, hown, hts⟩ (c_X9_four_12 l dC dI _ b j g_7 p3) (cwV 1 hts g_X9_feed_X9_four_12 rfl rfl rfl (by decide +kernel) ⟨Nat.le_of_ble_eq_true rfl, Nat.le_of_ble_eq_true rfl⟩) ⟨pu_bl, va_recv hK hP (ci := 9) (q0 := 4) rfl rfl, pu_in (hP.sub [4, 5] rfl) (hK.sub [4] rfl) (hD.sub [4, 5] (by decide) rfl)⟩ rfl rfl hl.1 rfl (lv_room (Nat.le_of_ble_eq_true rfl)) dX9_feed_38 ⟨Nat.le_of_ble_eq_true rfl, Nat.le_of_ble_eq_true rfl⟩) hS (fun q _ h => hFc q h) hFc (fun u t H1 locs ht hvm hw hB hz1 hk1 hS => ?_)
  obtain ⟨g_9, ⟨hP1, hK1, hD1⟩⟩ := hB
  rw [ht] at hP1
  have hK1 := va_K.moved hvm.symm hK1
  obtain ⟨hP, hD⟩ := va_join (wr := [((b 1), .inl ((j 1), 2, .inl (fun _ => 0))), ((b 2), .inl ((j 2), 2, .inl (fun _ => 0))), ((b 3), .inl ((j 3), 2, .inl (fun _ => 0))), ((b 4), .inl ((j 4), 2, .inl begF))]) (w1 := [((b 0), .inr (9, [.int 0, .ref (b 10), .ref (b 11), .ref (b 12), .ref (b 13), .ref (b 14), .ref (b 15), .ref (b 16), .ref (b 17), .ref (b 18), .ref (b 19), .ref (b 20), .ref (b 1), .ref (b 2), .ref (b 3), .ref (b 4), .int 0, .ref (b 5), .int 16, .int 0, .int 0, .int 0, .int 0, .int 0, .int 0, .int (-1), .int 0, .int 0, .int 0, .int 0, .int 0, .ref (b 21), .ref (b 22), .int 0, .ref (b 23), .ref (b 24), .ref (b 25), .ref (b 26), .ref (b 27), .ref (b 28), .ref (b 29), .ref (b 30), .ref (b 31), .ref (b 32), .ref (b 33), .int 0, .int 0, .ref (b 34), .ref (b 35), .ref (b 36), .ref (b 37), .ref (b 38), .int 0, .int 0, .ref (b 39), .ref (b 40), .ref (b 41), .ref (b 42), .ref (b 43), .ref (b 44), .ref (b 45), .int 0, .int 0, .int 0, .ref (b 46), .int 0, .int 0])), ((b 5), .inl ((j 5), 900, .inl g_9))]) hP hD [4, 5] [0, 1, 2, 3] rfl rfl (by decide) (by decide) hk1 hFc hP1 hD1
  have hK := hK.app hK1
  clear hk1 hz1 ht hvm
  generalize H1 = H at hP hS ⊢
  have hP : va_P (dC, dI) vwCl [((b 1), .inl ((j 1), 2, .inl (fun _ => 0))), ((b 2), .inl ((j 2), 2, .inl (fun _ => 0))), ((b 3), .inl ((j 3), 2, .inl (fun _ => 0))), ((b 4), .inl ((j 4), 2, .inl begF)), ((b 0), .inr (9, [.int 0, .ref (b 10), .ref (b 11), .ref (b 12), .ref (b 13), .ref (b 14), .ref (b 15), .ref (b 16), .ref (b 17), .ref (b 18), .ref (b 19), .ref (b 20), .ref (b 1), .ref (b 2), .ref (b 3), .ref (b 4), .int 0, .ref (b 5), .int 16, .int 0, .int 0, .int 0, .int 0, .int 0, .int 0, .int (-1), .int 0, .int 0, .int 0, .int 0, .int 0, .ref (b 21), .ref (b 22), .int 0, .ref (b 23), .ref (b 24), .ref (b 25), .ref (b 26), .ref (b 27), .ref (b 28), .ref (b 29), .ref (b 30), .ref (b 31), .ref (b 32), .ref (b 33), .int 0, .int 0, .ref (b 34), .ref (b 35), .ref (b 36), .ref (b 37), .ref (b 38), .int 0, .int 0, .ref (b 39), .ref (b 40), .ref (b 41), .ref (b 42), .ref (b 43), .ref (b 44), .ref (b 45), .int 0, .int 0, .int 0, .ref (b 46), .int 0, .int 0])), ((b 5), .inl ((j 5), 900, .inl g_9))] H := hP
  have hD : va_D A [((b 1), .inl ((j 1), 2, .inl (fun _ => 0))), ((b 2), .inl ((j 2), 2, .inl (fun _ => 0))), ((b 3), .inl ((j 3), 2, .inl (fun _ => 0))), ((b 4), .inl ((j 4), 2, .inl begF)), ((b 0), .inr (9, [.int 0, .ref (b 10), .ref (b 11), .ref (b 12), .ref (b 13), .ref (b 14), .ref (b 15), .ref (b 16), .ref (b 17), .ref (b 18), .ref (b 19), .ref (b 20), .ref (b 1), .ref (b 2), .ref (b 3), .ref (b 4), .int 0, .ref (b 5), .int 16, .int 0, .int 0, .int 0, .int 0, .int 0, .int 0, .int (-1), .int 0, .int 0, .int 0, .int 0, .int 0, .ref (b 21), .ref (b 22), .int 0, .ref (b 23), .ref (b 24), .ref (b 25), .ref (b 26), .ref (b 27), .ref (b 28), .ref (b 29), .ref (b 30), .ref (b 31), .ref (b 32), .ref (b 33), .int 0, .int 0, .ref (b 34), .ref (b 35), .ref (b 36), .ref (b 37), .ref (b 38), .int 0, .int 0, .ref (b 39), .ref (b 40), .ref (b 41), .ref (b 42), .ref (b 43), .ref (b 44), .ref (b 45), .int 0, .int 0, .int 0, .ref (b 46), .int 0, .int 0])), ((b 5), .inl ((j 5), 900, .inl g_9))] := hD
  have hK : va_K (dC, dI) vwCl [(j 1, .int), (j 2, .int), (j 3, .int), (j 4, .int), (j 5, .int), (j 5, .int), (j 5, .int), (j 5, .int), (j 5, .int)] s := hK
  refine lv_aload_n hx hb dX9_feed_41 rfl (lv_at hl 0 rfl) ?_
  refine lv_iload hx hb dX9_feed_42 (lv_at hl 5 rfl) ?_
  have hFc := va_free (wc := [((b 0), .inr (9, [.int 0, .ref (b 10), .ref (b 11), .ref (b 12), .ref (b 13), .ref (b 14), .ref (b 15), .ref (b 16), .ref (b 17), .ref (b 18), .ref (b 19), .ref (b 20), .ref (b 1), .ref (b 2), .ref (b 3), .ref (b 4), .int 0, .ref (b 5), .int 16, .int 0, .int 0, .int 0, .int 0, .int 0, .int 0, .int (-1), .int 0, .int 0, .int 0, .int 0, .int 0, .ref (b 21), .ref (b 22), .int 0, .ref (b 23), .ref (b 24), .ref (b 25), .ref (b 26), .ref (b 27), .ref (b 28), .ref (b 29), .ref (b 30), .ref (b 31), .ref (b 32), .ref (b 33), .int 0, .int 0, .ref (b 34), .ref (b 35), .ref (b 36), .ref (b 37), .ref (b 38), .int 0, .int 0, .ref (b 39), .ref (b 40), .ref (b 41), .ref (b 42), .ref (b 43), .ref (b 44), .ref (b 45), .int 0, .int 0, .int 0, .ref (b 46), .int 0, .int 0])), ((b 5), .inl ((j 5), 900, .inl g_9))]) hD hS hA [4, 5] rfl
  refine va_callv (va_runV (As := [.int p4]) (rest := []) ⟨hx, hb, hml, hown, hts⟩ (c_X9_four_16 l dC dI _ b j g_9 p4) (cwV 1 hts g_X9_feed_X9_four_16 rfl rfl rfl (by decide +kernel) ⟨Nat.le_of_ble_eq_true rfl, Nat.le_of_ble_eq_true rfl⟩) ⟨pu_bl, va_recv hK hP (ci := 9) (q0 := 4) rfl rfl, pu_in (hP.sub [4, 5] rfl) (hK.sub [4] rfl) (hD.sub [4, 5] (by decide) rfl)⟩ rfl rfl hl.1 rfl (lv_room (Nat.le_of_ble_eq_true rfl)) dX9_feed_44 ⟨Nat.le_of_ble_eq_true rfl, Nat.le_of_ble_eq_true rfl⟩) hS (fun q _ h => hFc q h) hFc (fun u t H1 locs ht hvm hw hB hz1 hk1 hS => ?_)
  obtain ⟨g_11, ⟨hP1, hK1, hD1⟩⟩ := hB
  rw [ht] at hP1
  have hK1 := va_K.moved hvm.symm hK1
  obtain ⟨hP, hD⟩ := va_join (wr := [((b 1), .inl ((j 1), 2, .inl (fun _ => 0))), ((b 2), .inl ((j 2), 2, .inl (fun _ => 0))), ((b 3), .inl ((j 3), 2, .inl (fun _ => 0))), ((b 4), .inl ((j 4), 2, .inl begF))]) (w1 := [((b 0), .inr (9, [.int 0, .ref (b 10), .ref (b 11), .ref (b 12), .ref (b 13), .ref (b 14), .ref (b 15), .ref (b 16), .ref (b 17), .ref (b 18), .ref (b 19), .ref (b 20), .ref (b 1), .ref (b 2), .ref (b 3), .ref (b 4), .int 0, .ref (b 5), .int 20, .int 0, .int 0, .int 0, .int 0, .int 0, .int 0, .int (-1), .int 0, .int 0, .int 0, .int 0, .int 0, .ref (b 21), .ref (b 22), .int 0, .ref (b 23), .ref (b 24), .ref (b 25), .ref (b 26), .ref (b 27), .ref (b 28), .ref (b 29), .ref (b 30), .ref (b 31), .ref (b 32), .ref (b 33), .int 0, .int 0, .ref (b 34), .ref (b 35), .ref (b 36), .ref (b 37), .ref (b 38), .int 0, .int 0, .ref (b 39), .ref (b 40), .ref (b 41), .ref (b 42), .ref (b 43), .ref (b 44), .ref (b 45), .int 0, .int 0, .int 0, .ref (b 46), .int 0, .int 0])), ((b 5), .inl ((j 5), 900, .inl g_11))]) hP hD [4, 5] [0, 1, 2, 3] rfl rfl (by decide) (by decide) hk1 hFc hP1 hD1
  have hK := hK.app hK1
  clear hk1 hz1 ht hvm
  generalize H1 = H at hP hS ⊢
  have hP : va_P (dC, dI) vwCl [((b 1), .inl ((j 1), 2, .inl (fun _ => 0))), ((b 2), .inl ((j 2), 2, .inl (fun _ => 0))), ((b 3), .inl ((j 3), 2, .inl (fun _ => 0))), ((b 4), .inl ((j 4), 2, .inl begF)), ((b 0), .inr (9, [.int 0, .ref (b 10), .ref (b 11), .ref (b 12), .ref (b 13), .ref (b 14), .ref (b 15), .ref (b 16), .ref (b 17), .ref (b 18), .ref (b 19), .ref (b 20), .ref (b 1), .ref (b 2), .ref (b 3), .ref (b 4), .int 0, .ref (b 5), .int 20, .int 0, .int 0, .int 0, .int 0, .int 0, .int 0, .int (-1), .int 0, .int 0, .int 0, .int 0, .int 0, .ref (b 21), .ref (b 22), .int 0, .ref (b 23), .ref (b 24), .ref (b 25), .ref (b 26), .ref (b 27), .ref (b 28), .ref (b 29), .ref (b 30), .ref (b 31), .ref (b 32), .ref (b 33), .int 0, .int 0, .ref (b 34), .ref (b 35), .ref (b 36), .ref (b 37), .ref (b 38), .int 0, .int 0, .ref (b 39), .ref (b 40), .ref (b 41), .ref (b 42), .ref (b 43), .ref (b 44), .ref (b 45), .int 0, .int 0, .int 0, .ref (b 46), .int 0, .int 0])), ((b 5), .inl ((j 5), 900, .inl g_11))] H := hP
  have hD : va_D A [((b 1), .inl ((j 1), 2, .inl (fun _ => 0))), ((b 2), .inl ((j 2), 2, .inl (fun _ => 0))), ((b 3), .inl ((j 3), 2, .inl (fun _ => 0))), ((b 4), .inl ((j 4), 2, .inl begF)), ((b 0), .inr (9, [.int 0, .ref (b 10), .ref (b 11), .ref (b 12), .ref (b 13), .ref (b 14), .ref (b 15), .ref (b 16), .ref (b 17), .ref (b 18), .ref (b 19), .ref (b 20), .ref (b 1), .ref (b 2), .ref (b 3), .ref (b 4), .int 0, .ref (b 5), .int 20, .int 0, .int 0, .int 0, .int 0, .int 0, .int 0, .int (-1), .int 0, .int 0, .int 0, .int 0, .int 0, .ref (b 21), .ref (b 22), .int 0, .ref (b 23), .ref (b 24), .ref (b 25), .ref (b 26), .ref (b 27), .ref (b 28), .ref (b 29), .ref (b 30), .ref (b 31), .ref (b 32), .ref (b 33), .int 0, .int 0, .ref (b 34), .ref (b 35), .ref (b 36), .ref (b 37), .ref (b 38), .int 0, .int 0, .ref (b 39), .ref (b 40), .ref (b 41), .ref (b 42), .ref (b 43), .ref (b 44), .ref (b 45), .int 0, .int 0, .int 0, .ref (b 46), .int 0, .int 0])), ((b 5), .inl ((j 5), 900, .inl g_11))] := hD
  have hK : va_K (dC, dI) vwCl [(j 1, .int), (j 2, .int), (j 3, .int), (j 4, .int), (j 5, .int), (j 5, .int), (j 5, .int), (j 5, .int), (j 5, .int), (j 5, .int)] s := hK
  refine lv_aload_n hx hb dX9_feed_47 rfl (lv_at hl 0 rfl) ?_
  refine va_get (D := (dC, dI)) (ci := 9) (v := .int 20) (C := RX9) (T := TX9) (N := 67) hx hb hts hiX9 hown hK hP 4 rfl rfl 18 (by decide) v_2 (fun _ h9 => h9) rfl dX9_feed_48 ?_
  exact W.iret (v := 20) hx hb hr (fun t ht hW => ⟨⟨20, (), rfl, by first | rfl | decide | simp_all, trivial⟩, hS.F ht⟩) hS.2.2 dX9_feed_51
