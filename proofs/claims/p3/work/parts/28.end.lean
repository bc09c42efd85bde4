theorem dX8_end_0 : decode cX8_end 0 = .ok (.iload_n 1, 1) := by decide +kernel
theorem dX8_end_1 : decode cX8_end 1 = .ok (.ifCond .lt 11, 3) := by decide +kernel
theorem dX8_end_4 : decode cX8_end 4 = .ok (.iload_n 1, 1) := by decide +kernel
theorem dX8_end_5 : decode cX8_end 5 = .ok (.aload_n 0, 1) := by decide +kernel
theorem dX8_end_6 : decode cX8_end 6 = .ok (.getfield 79, 3) := by decide +kernel
theorem dX8_end_9 : decode cX8_end 9 = .ok (.if_icmp .le 5, 3) := by decide +kernel
theorem dX8_end_12 : decode cX8_end 12 = .ok (.iconst (-1), 1) := by decide +kernel
theorem dX8_end_13 : decode cX8_end 13 = .ok (.ireturn, 1) := by decide +kernel
theorem dX8_end_14 : decode cX8_end 14 = .ok (.aload_n 0, 1) := by decide +kernel
theorem dX8_end_15 : decode cX8_end 15 = .ok (.iload_n 1, 1) := by decide +kernel
theorem dX8_end_16 : decode cX8_end 16 = .ok (.putfield 79, 3) := by decide +kernel
theorem dX8_end_19 : decode cX8_end 19 = .ok (.iload_n 1, 1) := by decide +kernel
theorem dX8_end_20 : decode cX8_end 20 = .ok (.ireturn, 1) := by decide +kernel
def vs_X8_end : List Cond := .code yX8_end cX8_end 2 (some .int) :: ([.fieldLink RX8 79 "ClockReach" "taped" "I"] ++ wsX80)
set_option maxHeartbeats 4000000 in
set_option maxRecDepth 100000 in
theorem c_X8_end (l : Launch) (dC : Nat → ClassId) (dI : Nat → Nat → Nat) (sz : Nat) (xa xtape xread xdraft xhist xshown xtried xsoon xrem xtim xplay xbeg xsam : Nat) (tp : Nat) (xs0 xs1 : Int32) (au : Nat) (htp : tp ≤ 900) (p0 : Int32) : Met l yX8_end vs_X8_end ({ frames := 0, cells := 0, slots := 0, locals := 0 }) (va_Pc [.ref xa, .int p0] (pu_B (dC, dI) [(xa, .inr (8, [.ref xtape, .int (nI tp), .ref xread, .ref au, .ref xdraft, .ref xhist, .ref xshown, .int xs0, .ref xtried, .ref xsoon, .int xs1, .ref xrem, .ref xtim, .ref xplay, .ref xbeg, .ref xsam]))] [] sz)) (va_Qi (fun (r : Int32) (_ : Unit) => r = (if 0 ≤ p0 ∧ p0 ≤ nI tp then p0 else -1)) (fun _ t => ∃ (k1 : Nat), pu_E (dC, dI) [(xa, .inr (8, [.ref xtape, .int (nI k1), .ref xread, .ref au, .ref xdraft, .ref xhist, .ref xshown, .int xs0, .ref xtried, .ref xsoon, .int xs1, .ref xrem, .ref xtim, .ref xplay, .ref xbeg, .ref xsam]))] [] (va_A ([(xa, .inr (8, [.ref xtape, .int (nI tp), .ref xread, .ref au, .ref xdraft, .ref xhist, .ref xshown, .int xs0, .ref xtried, .ref xsoon, .int xs1, .ref xrem, .ref xtim, .ref xplay, .ref xbeg, .ref xsam]))]) sz) t ∧ nI k1 = (if 0 ≤ p0 ∧ p0 ≤ nI tp then p0 else nI tp) ∧ k1 ≤ tp) (va_A ([(xa, .inr (8, [.ref xtape, .int (nI tp), .ref xread, .ref au, .ref xdraft, .ref xhist, .ref xshown, .int xs0, .ref xtried, .ref xsoon, .int xs1, .ref xrem, .ref xtim, .ref xplay, .ref xbeg, .ref xsam]))]) sz)) 0 0 (va_A ([(xa, .inr (8, [.ref xtape, .int (nI tp), .ref xread, .ref au, .ref xdraft, .ref xhist, .ref xshown, .int xs0, .ref xtried, .ref xsoon, .int xs1, .ref xrem, .ref xtim, .ref xplay, .ref xbeg, .ref xsam]))]) sz) := by
  refine Met.ofW (cc := cX8_end) (maxL := 2) (ret := (some .int)) (by decide) rfl ?_
  intro p e s m args below meth c s₁ B hml hv
  obtain ⟨rfl, rfl, hP, hK, hD0⟩ := hv
  have hx := B.exec
  have hb := B.bytes
  have hr := B.returns
  have hts := atoms_spec (ws := vs_X8_end) B.pre
  have v_1 := hts (.fieldLink RX8 79 "ClockReach" "taped" "I") (List.mem_of_getElem? (i := 1) rfl)
  have hown : s.vm.findClass RX8 = some m.cls := findClass_of_methodNamed B.named
  have hlocks := B.notSynchronized
  have hiX8 : ∀ w ∈ wsX80, w ∈ vs_X8_end := fun _ h => List.mem_cons_of_mem _ (List.mem_append_right _ h)
  have hD := hD0.self (sz := s.heap.size)
  generalize hAe : va_A ([(xa, .inr (8, [.ref xtape, .int (nI tp), .ref xread, .ref au, .ref xdraft, .ref xhist, .ref xshown, .int xs0, .ref xtried, .ref xsoon, .int xs1, .ref xrem, .ref xtim, .ref xplay, .ref xbeg, .ref xsam]))]) s.heap.size = A at hD ⊢
  have hA : ∀ q : Nat, s.heap.size ≤ q → A q := fun q h => by rw [← hAe]; exact Or.inr h
  have hS : va_S A s.heap s.heap [] := va_S.rf
  have hl := lv_entry ([.ref xa, .int p0]) (n := 2) (Nat.le_of_ble_eq_true rfl)
  rw [lg_entry_eq]
  generalize (lg_sl ([.ref xa, .int p0]) ++ List.replicate (2 - (lg_sl ([.ref xa, .int p0])).length) Slot.unset).toArray = ls at hl ⊢
  have hl : lv_has ls 2 [(0, .ref xa), (1, .int p0)] := hl
  refine lv_iload_n hx hb dX8_end_0 rfl (lv_at hl 1 rfl) ?_
  refine lv_if_lt (tgt := 12) hx hb dX8_end_1 (by decide) (fun c_1 => ?_) (fun c_1 => ?_)
  · refine lv_iconst (v := (-1)) hx hb dX8_end_12 (by decide) ?_
    have hP9 := hP.sub (ws' := [(xa, .inr (8, [.ref xtape, .int (nI tp), .ref xread, .ref au, .ref xdraft, .ref xhist, .ref xshown, .int xs0, .ref xtried, .ref xsoon, .int xs1, .ref xrem, .ref xtim, .ref xplay, .ref xbeg, .ref xsam]))]) [0] rfl
    have hD9 := hD.sub (ws' := [(xa, .inr (8, [.ref xtape, .int (nI tp), .ref xread, .ref au, .ref xdraft, .ref xhist, .ref xshown, .int xs0, .ref xtried, .ref xsoon, .int xs1, .ref xrem, .ref xtim, .ref xplay, .ref xbeg, .ref xsam]))]) [0] (by decide) rfl
    have hK9 := hK.sub (tys' := []) [] rfl
    exact W.iret (v := (-1)) hx hb hr (fun t ht hW => ⟨⟨(-1), (), rfl, by first | exact (if_neg (fun h => absurd h.1 (Int32.not_le.mpr c_1))).symm | exact (if_neg (fun h => c_2 h.2)).symm, ⟨tp, ⟨by rw [ht]; exact hP9, va_K.moved hW.alike hK9, hD9⟩, ⟨by first | exact (if_neg (fun h => absurd h.1 (Int32.not_le.mpr c_1))).symm | exact (if_neg (fun h => c_2 h.2)).symm, Nat.le_refl _⟩⟩⟩, hS.F ht⟩) hS.2.2 dX8_end_13
  · refine lv_iload_n hx hb dX8_end_4 rfl (lv_at hl 1 rfl) ?_
    refine lv_aload_n hx hb dX8_end_5 rfl (lv_at hl 0 rfl) ?_
    refine va_get (D := (dC, dI)) (ci := 8) (v := .int (nI tp)) (C := RX8) (T := TX8) (N := 16) hx hb hts hiX8 hown hK hP 0 rfl rfl 1 (by decide) v_1 (fun _ h9 => h9) rfl dX8_end_6 ?_
    refine lv_icmp_le (tgt := 14) hx hb dX8_end_9 (by decide) (fun c_2 => ?_) (fun c_2 => ?_)
    · refine lv_aload_n hx hb dX8_end_14 rfl (lv_at hl 0 rfl) ?_
      refine lv_iload_n hx hb dX8_end_15 rfl (lv_at hl 1 rfl) ?_
      have hz0 : (0 : Int32) ≤ p0 := Int32.not_lt.mp c_1
      have hz1e : p0 ≤ nI tp := c_2
      obtain ⟨qe_3, hqe_4, rfl⟩ := nI_of2 (nI_toInt (n := tp) (by omega)) c_1 c_2
      refine va_put (D := (dC, dI)) (ci := 8) (v := .int (nI qe_3)) (ty := .int) (C := RX8) (T := TX8) (N := 16) hx hb hts hiX8 tyX8 tyX8_ok nmX8 hown hK hP hD hS 0 rfl rfl 1 (by decide) v_1 (fun _ h9 => h9) rfl (by decide +kernel) rfl rfl (Nat.le_of_ble_eq_true rfl) dX8_end_16 (fun H locs hP hD hS => ?_)
      have hP : va_P (dC, dI) vwCl [(xa, .inr (8, [.ref xtape, .int (nI qe_3), .ref xread, .ref au, .ref xdraft, .ref xhist, .ref xshown, .int xs0, .ref xtried, .ref xsoon, .int xs1, .ref xrem, .ref xtim, .ref xplay, .ref xbeg, .ref xsam]))] H := hP
      have hD : va_D A [(xa, .inr (8, [.ref xtape, .int (nI qe_3), .ref xread, .ref au, .ref xdraft, .ref xhist, .ref xshown, .int xs0, .ref xtried, .ref xsoon, .int xs1, .ref xrem, .ref xtim, .ref xplay, .ref xbeg, .ref xsam]))] := hD
      refine lv_iload_n hx hb dX8_end_19 rfl (lv_at hl 1 rfl) ?_
      have hP9 := hP.sub (ws' := [(xa, .inr (8, [.ref xtape, .int (nI qe_3), .ref xread, .ref au, .ref xdraft, .ref xhist, .ref xshown, .int xs0, .ref xtried, .ref xsoon, .int xs1, .ref xrem, .ref xtim, .ref xplay, .ref xbeg, .ref xsam]))]) [0] rfl
      have hD9 := hD.sub (ws' := [(xa, .inr (8, [.ref xtape, .int (nI qe_3), .ref xread, .ref au, .ref xdraft, .ref xhist, .ref xshown, .int xs0, .ref xtried, .ref xsoon, .int xs1, .ref xrem, .ref xtim, .ref xplay, .ref xbeg, .ref xsam]))]) [0] (by decide) rfl
      have hK9 := hK.sub (tys' := []) [] rfl
      exact W.iret (v := (nI qe_3)) hx hb hr (fun t ht hW => ⟨⟨(nI qe_3), (), rfl, (if_pos ⟨hz0, hz1e⟩).symm, ⟨qe_3, ⟨by rw [ht]; exact hP9, va_K.moved hW.alike hK9, hD9⟩, ⟨(if_pos ⟨hz0, hz1e⟩).symm, hqe_4⟩⟩⟩, hS.F ht⟩) hS.2.2 dX8_end_20
    · refine lv_iconst (v := (-1)) hx hb dX8_end_12 (by decide) ?_
      have hP9 := hP.sub (ws' := [(xa, .inr (8, [.ref xtape, .int (nI tp), .ref xread, .ref au, .ref xdraft, .ref xhist, .ref xshown, .int xs0, .ref xtried, .ref xsoon, .int xs1, .ref xrem, .ref xtim, .ref xplay, .ref xbeg, .ref xsam]))]) [0] rfl
      have hD9 := hD.sub (ws' := [(xa, .inr (8, [.ref xtape, .int (nI tp), .ref xread, .ref au, .ref xdraft, .ref xhist, .ref xshown, .int xs0, .ref xtried, .ref xsoon, .int xs1, .ref xrem, .ref xtim, .ref xplay, .ref xbeg, .ref xsam]))]) [0] (by decide) rfl
      have hK9 := hK.sub (tys' := []) [] rfl
      exact W.iret (v := (-1)) hx hb hr (fun t ht hW => ⟨⟨(-1), (), rfl, by first | exact (if_neg (fun h => absurd h.1 (Int32.not_le.mpr c_1))).symm | exact (if_neg (fun h => c_2 h.2)).symm, ⟨tp, ⟨by rw [ht]; exact hP9, va_K.moved hW.alike hK9, hD9⟩, ⟨by first | exact (if_neg (fun h => absurd h.1 (Int32.not_le.mpr c_1))).symm | exact (if_neg (fun h => c_2 h.2)).symm, Nat.le_refl _⟩⟩⟩, hS.F ht⟩) hS.2.2 dX8_end_13
