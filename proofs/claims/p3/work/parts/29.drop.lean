theorem dX8_dropViews_0 : decode cX8_dropViews 0 = .ok (.aload_n 0, 1) := by decide +kernel
theorem dX8_dropViews_1 : decode cX8_dropViews 1 = .ok (.iconst 0, 1) := by decide +kernel
theorem dX8_dropViews_2 : decode cX8_dropViews 2 = .ok (.putfield 100, 3) := by decide +kernel
theorem dX8_dropViews_5 : decode cX8_dropViews 5 = .ok (.aload_n 0, 1) := by decide +kernel
theorem dX8_dropViews_6 : decode cX8_dropViews 6 = .ok (.iconst 0, 1) := by decide +kernel
theorem dX8_dropViews_7 : decode cX8_dropViews 7 = .ok (.putfield 104, 3) := by decide +kernel
theorem dX8_dropViews_10 : decode cX8_dropViews 10 = .ok (.aload_n 0, 1) := by decide +kernel
theorem dX8_dropViews_11 : decode cX8_dropViews 11 = .ok (.getfield 69, 3) := by decide +kernel
theorem dX8_dropViews_14 : decode cX8_dropViews 14 = .ok (.iconst 0, 1) := by decide +kernel
theorem dX8_dropViews_15 : decode cX8_dropViews 15 = .ok (.putfield 107, 3) := by decide +kernel
theorem dX8_dropViews_18 : decode cX8_dropViews 18 = .ok (.return_, 1) := by decide +kernel
def vs_X8_dropViews : List Cond := .code yX8_dropViews cX8_dropViews 1 none :: ([.fieldLink RX8 100 "ClockReach" "hasShown" "Z", .fieldLink RX8 104 "ClockReach" "soonStands" "Z", .fieldLink RX8 69 "ClockReach" "play" "LClockReach$Play;", .fieldLink RX8 107 "ClockReach$Play" "on" "Z"] ++ wsX80 ++ wsX30)
set_option maxHeartbeats 4000000 in
set_option maxRecDepth 100000 in
theorem c_X8_dropViews (l : Launch) (dC : Nat → ClassId) (dI : Nat → Nat → Nat) (sz : Nat) (xa xtape xread xdraft xhist xshown xtried xsoon xrem xtim xplay xbeg xsam : Nat) (tp : Nat) (xs0 xs1 : Int32) (au : Nat) (po0 ps0 pt0 : Int32) (ptm pbh : Nat) : Met l yX8_dropViews vs_X8_dropViews ({ frames := 0, cells := 0, slots := 0, locals := 0 }) (va_Pc [.ref xa] (pu_B (dC, dI) [(xa, .inr (8, [.ref xtape, .int (nI tp), .ref xread, .ref au, .ref xdraft, .ref xhist, .ref xshown, .int xs0, .ref xtried, .ref xsoon, .int xs1, .ref xrem, .ref xtim, .ref xplay, .ref xbeg, .ref xsam])), (xplay, .inr (3, [.int po0, .int ps0, .int pt0, .ref ptm, .ref pbh]))] [] sz)) (va_Qv (fun (_ : Unit) => True) (fun _ t => pu_E (dC, dI) [(xa, .inr (8, [.ref xtape, .int (nI tp), .ref xread, .ref au, .ref xdraft, .ref xhist, .ref xshown, .int 0, .ref xtried, .ref xsoon, .int 0, .ref xrem, .ref xtim, .ref xplay, .ref xbeg, .ref xsam])), (xplay, .inr (3, [.int 0, .int ps0, .int pt0, .ref ptm, .ref pbh]))] [] (va_A ([(xa, .inr (8, [.ref xtape, .int (nI tp), .ref xread, .ref au, .ref xdraft, .ref xhist, .ref xshown, .int xs0, .ref xtried, .ref xsoon, .int xs1, .ref xrem, .ref xtim, .ref xplay, .ref xbeg, .ref xsam])), (xplay, .inr (3, [.int po0, .int ps0, .int pt0, .ref ptm, .ref pbh]))]) sz) t) (va_A ([(xa, .inr (8, [.ref xtape, .int (nI tp), .ref xread, .ref au, .ref xdraft, .ref xhist, .ref xshown, .int xs0, .ref xtried, .ref xsoon, .int xs1, .ref xrem, .ref xtim, .ref xplay, .ref xbeg, .ref xsam])), (xplay, .inr (3, [.int po0, .int ps0, .int pt0, .ref ptm, .ref pbh]))]) sz)) 0 0 (va_A ([(xa, .inr (8, [.ref xtape, .int (nI tp), .ref xread, .ref au, .ref xdraft, .ref xhist, .ref xshown, .int xs0, .ref xtried, .ref xsoon, .int xs1, .ref xrem, .ref xtim, .ref xplay, .ref xbeg, .ref xsam])), (xplay, .inr (3, [.int po0, .int ps0, .int pt0, .ref ptm, .ref pbh]))]) sz) := by
  refine Met.ofW (cc := cX8_dropViews) (maxL := 1) (ret := none) (by decide) rfl ?_
  intro p e s m args below meth c s₁ B hml hv
  obtain ⟨rfl, rfl, hP, hK, hD0⟩ := hv
  have hx := B.exec
  have hb := B.bytes
  have hr := B.returns
  have hts := atoms_spec (ws := vs_X8_dropViews) B.pre
  have v_1 := hts (.fieldLink RX8 100 "ClockReach" "hasShown" "Z") (List.mem_of_getElem? (i := 1) rfl)
  have v_2 := hts (.fieldLink RX8 104 "ClockReach" "soonStands" "Z") (List.mem_of_getElem? (i := 2) rfl)
  have v_3 := hts (.fieldLink RX8 69 "ClockReach" "play" "LClockReach$Play;") (List.mem_of_getElem? (i := 3) rfl)
  have v_4 := hts (.fieldLink RX8 107 "ClockReach$Play" "on" "Z") (List.mem_of_getElem? (i := 4) rfl)
  have hown : s.vm.findClass RX8 = some m.cls := findClass_of_methodNamed B.named
  have hlocks := B.notSynchronized
  have hiX3 : ∀ w ∈ wsX30, w ∈ vs_X8_dropViews := fun _ h => List.mem_cons_of_mem _ (List.mem_append_right _ h)
  have hiX8 : ∀ w ∈ wsX80, w ∈ vs_X8_dropViews := fun _ h => List.mem_cons_of_mem _ (List.mem_append_left _ (List.mem_append_right _ h))
  have hD := hD0.self (sz := s.heap.size)
  generalize hAe : va_A ([(xa, .inr (8, [.ref xtape, .int (nI tp), .ref xread, .ref au, .ref xdraft, .ref xhist, .ref xshown, .int xs0, .ref xtried, .ref xsoon, .int xs1, .ref xrem, .ref xtim, .ref xplay, .ref xbeg, .ref xsam])), (xplay, .inr (3, [.int po0, .int ps0, .int pt0, .ref ptm, .ref pbh]))]) s.heap.size = A at hD ⊢
  have hA : ∀ q : Nat, s.heap.size ≤ q → A q := fun q h => by rw [← hAe]; exact Or.inr h
  have hS : va_S A s.heap s.heap [] := va_S.rf
  have hl := lv_entry ([.ref xa]) (n := 1) (Nat.le_of_ble_eq_true rfl)
  rw [lg_entry_eq]
  generalize (lg_sl ([.ref xa]) ++ List.replicate (1 - (lg_sl ([.ref xa])).length) Slot.unset).toArray = ls at hl ⊢
  have hl : lv_has ls 1 [(0, .ref xa)] := hl
  refine lv_aload_n hx hb dX8_dropViews_0 rfl (lv_at hl 0 rfl) ?_
  refine lv_iconst (v := 0) hx hb dX8_dropViews_1 (by decide) ?_
  refine va_put (D := (dC, dI)) (ci := 8) (v := .int 0) (ty := .boolean) (C := RX8) (T := TX8) (N := 16) hx hb hts hiX8 tyX8 tyX8_ok nmX8 hown hK hP hD hS 0 rfl rfl 7 (by decide) v_1 (fun _ h9 => h9) rfl (by decide +kernel) rfl rfl (Nat.le_of_ble_eq_true rfl) dX8_dropViews_2 (fun H locs hP hD hS => ?_)
  have hP : va_P (dC, dI) vwCl [(xa, .inr (8, [.ref xtape, .int (nI tp), .ref xread, .ref au, .ref xdraft, .ref xhist, .ref xshown, .int 0, .ref xtried, .ref xsoon, .int xs1, .ref xrem, .ref xtim, .ref xplay, .ref xbeg, .ref xsam])), (xplay, .inr (3, [.int po0, .int ps0, .int pt0, .ref ptm, .ref pbh]))] H := hP
  have hD : va_D A [(xa, .inr (8, [.ref xtape, .int (nI tp), .ref xread, .ref au, .ref xdraft, .ref xhist, .ref xshown, .int 0, .ref xtried, .ref xsoon, .int xs1, .ref xrem, .ref xtim, .ref xplay, .ref xbeg, .ref xsam])), (xplay, .inr (3, [.int po0, .int ps0, .int pt0, .ref ptm, .ref pbh]))] := hD
  refine lv_aload_n hx hb dX8_dropViews_5 rfl (lv_at hl 0 rfl) ?_
  refine lv_iconst (v := 0) hx hb dX8_dropViews_6 (by decide) ?_
  refine va_put (D := (dC, dI)) (ci := 8) (v := .int 0) (ty := .boolean) (C := RX8) (T := TX8) (N := 16) hx hb hts hiX8 tyX8 tyX8_ok nmX8 hown hK hP hD hS 0 rfl rfl 10 (by decide) v_2 (fun _ h9 => h9) rfl (by decide +kernel) rfl rfl (Nat.le_of_ble_eq_true rfl) dX8_dropViews_7 (fun H locs hP hD hS => ?_)
  have hP : va_P (dC, dI) vwCl [(xa, .inr (8, [.ref xtape, .int (nI tp), .ref xread, .ref au, .ref xdraft, .ref xhist, .ref xshown, .int 0, .ref xtried, .ref xsoon, .int 0, .ref xrem, .ref xtim, .ref xplay, .ref xbeg, .ref xsam])), (xplay, .inr (3, [.int po0, .int ps0, .int pt0, .ref ptm, .ref pbh]))] H := hP
  have hD : va_D A [(xa, .inr (8, [.ref xtape, .int (nI tp), .ref xread, .ref au, .ref xdraft, .ref xhist, .ref xshown, .int 0, .ref xtried, .ref xsoon, .int 0, .ref xrem, .ref xtim, .ref xplay, .ref xbeg, .ref xsam])), (xplay, .inr (3, [.int po0, .int ps0, .int pt0, .ref ptm, .ref pbh]))] := hD
  refine lv_aload_n hx hb dX8_dropViews_10 rfl (lv_at hl 0 rfl) ?_
  refine va_get (D := (dC, dI)) (ci := 8) (v := .ref xplay) (C := RX8) (T := TX8) (N := 16) hx hb hts hiX8 hown hK hP 0 rfl rfl 13 (by decide) v_3 (fun _ h9 => h9) rfl dX8_dropViews_11 ?_
  refine lv_iconst (v := 0) hx hb dX8_dropViews_14 (by decide) ?_
  refine va_put (D := (dC, dI)) (ci := 3) (v := .int 0) (ty := .boolean) (C := RX3) (T := TX3) (N := 5) hx hb hts hiX3 tyX3 tyX3_ok nmX3 hown hK hP hD hS 1 rfl rfl 0 (by decide) v_4 (fun _ h9 => h9) rfl (by decide +kernel) rfl rfl (Nat.le_of_ble_eq_true rfl) dX8_dropViews_15 (fun H locs hP hD hS => ?_)
  have hP : va_P (dC, dI) vwCl [(xa, .inr (8, [.ref xtape, .int (nI tp), .ref xread, .ref au, .ref xdraft, .ref xhist, .ref xshown, .int 0, .ref xtried, .ref xsoon, .int 0, .ref xrem, .ref xtim, .ref xplay, .ref xbeg, .ref xsam])), (xplay, .inr (3, [.int 0, .int ps0, .int pt0, .ref ptm, .ref pbh]))] H := hP
  have hD : va_D A [(xa, .inr (8, [.ref xtape, .int (nI tp), .ref xread, .ref au, .ref xdraft, .ref xhist, .ref xshown, .int 0, .ref xtried, .ref xsoon, .int 0, .ref xrem, .ref xtim, .ref xplay, .ref xbeg, .ref xsam])), (xplay, .inr (3, [.int 0, .int ps0, .int pt0, .ref ptm, .ref pbh]))] := hD
  have hP9 := hP.sub (ws' := [(xa, .inr (8, [.ref xtape, .int (nI tp), .ref xread, .ref au, .ref xdraft, .ref xhist, .ref xshown, .int 0, .ref xtried, .ref xsoon, .int 0, .ref xrem, .ref xtim, .ref xplay, .ref xbeg, .ref xsam])), (xplay, .inr (3, [.int 0, .int ps0, .int pt0, .ref ptm, .ref pbh]))]) [0, 1] rfl
  have hD9 := hD.sub (ws' := [(xa, .inr (8, [.ref xtape, .int (nI tp), .ref xread, .ref au, .ref xdraft, .ref xhist, .ref xshown, .int 0, .ref xtried, .ref xsoon, .int 0, .ref xrem, .ref xtim, .ref xplay, .ref xbeg, .ref xsam])), (xplay, .inr (3, [.int 0, .int ps0, .int pt0, .ref ptm, .ref pbh]))]) [0, 1] (by decide) rfl
  have hK9 := hK.sub (tys' := []) [] rfl
  exact W.vret hx hb hr (fun t ht hW => ⟨⟨(), rfl, trivial, ⟨by rw [ht]; exact hP9, va_K.moved hW.alike hK9, hD9⟩⟩, hS.F ht⟩) hS.2.2 dX8_dropViews_18
theorem dX8_fault_0 : decode cX8_fault 0 = .ok (.iload_n 1, 1) := by decide +kernel
theorem dX8_fault_1 : decode cX8_fault 1 = .ok (.lookupswitch 43 #[(0, 27), (1, 35)], 27) := by decide +kernel
theorem dX8_fault_28 : decode cX8_fault 28 = .ok (.aload_n 0, 1) := by decide +kernel
theorem dX8_fault_29 : decode cX8_fault 29 = .ok (.getfield 16, 3) := by decide +kernel
theorem dX8_fault_32 : decode cX8_fault 32 = .ok (.getfield 110, 3) := by decide +kernel
theorem dX8_fault_35 : decode cX8_fault 35 = .ok (.ireturn, 1) := by decide +kernel
theorem dX8_fault_36 : decode cX8_fault 36 = .ok (.aload_n 0, 1) := by decide +kernel
theorem dX8_fault_37 : decode cX8_fault 37 = .ok (.getfield 16, 3) := by decide +kernel
theorem dX8_fault_40 : decode cX8_fault 40 = .ok (.getfield 113, 3) := by decide +kernel
theorem dX8_fault_43 : decode cX8_fault 43 = .ok (.ireturn, 1) := by decide +kernel
theorem dX8_fault_44 : decode cX8_fault 44 = .ok (.iconst (-1), 1) := by decide +kernel
theorem dX8_fault_45 : decode cX8_fault 45 = .ok (.ireturn, 1) := by decide +kernel
def vs_X8_fault_n : List Cond := .code yX8_fault cX8_fault 2 (some .int) :: ([.fieldLink RX8 16 "ClockReach" "reader" "LClockReach$Reader;", .fieldLink RX8 110 "ClockReach$Reader" "fault" "I", .fieldLink RX8 113 "ClockReach$Reader" "faultAt" "I"] ++ wsX80 ++ wsX40)
set_option maxHeartbeats 4000000 in
set_option maxRecDepth 100000 in
theorem c_X8_fault_n (l : Launch) (dC : Nat → ClassId) (dI : Nat → Nat → Nat) (sz : Nat) (xa xtape xread xdraft xhist xshown xtried xsoon xrem xtim xplay xbeg xsam : Nat) (tp : Nat) (xs0 xs1 : Int32) (au : Nat) (rf0 rf1 r3 r4 r5 r6 r7 : Int32) (rw rc rp : Nat) (p0 : Int32) : Met l yX8_fault vs_X8_fault_n ({ frames := 0, cells := 0, slots := 0, locals := 0 }) (va_Pc [.ref xa, .int p0] (pu_B (dC, dI) [(xa, .inr (8, [.ref xtape, .int (nI tp), .ref xread, .ref au, .ref xdraft, .ref xhist, .ref xshown, .int xs0, .ref xtried, .ref xsoon, .int xs1, .ref xrem, .ref xtim, .ref xplay, .ref xbeg, .ref xsam])), (xread, .inr (4, [.int rf0, .int rf1, .null, .int r3, .int r4, .int r5, .int r6, .int r7, .null, .ref rw, .ref rc, .ref rp]))] [] sz)) (va_Qi (fun (r : Int32) (_ : Unit) => True) (fun _ _ => True) (va_A [] sz)) 0 0 (va_A [] sz) := by
  refine Met.ofW (cc := cX8_fault) (maxL := 2) (ret := (some .int)) (by decide) rfl ?_
  intro p e s m args below meth c s₁ B hml hv
  obtain ⟨rfl, rfl, hP, hK, hD0⟩ := hv
  have hx := B.exec
  have hb := B.bytes
  have hr := B.returns
  have hts := atoms_spec (ws := vs_X8_fault_n) B.pre
  have v_1 := hts (.fieldLink RX8 16 "ClockReach" "reader" "LClockReach$Reader;") (List.mem_of_getElem? (i := 1) rfl)
  have v_2 := hts (.fieldLink RX8 110 "ClockReach$Reader" "fault" "I") (List.mem_of_getElem? (i := 2) rfl)
  have v_3 := hts (.fieldLink RX8 113 "ClockReach$Reader" "faultAt" "I") (List.mem_of_getElem? (i := 3) rfl)
  have hown : s.vm.findClass RX8 = some m.cls := findClass_of_methodNamed B.named
  have hlocks := B.notSynchronized
  have hiX4 : ∀ w ∈ wsX40, w ∈ vs_X8_fault_n := fun _ h => List.mem_cons_of_mem _ (List.mem_append_right _ h)
  have hiX8 : ∀ w ∈ wsX80, w ∈ vs_X8_fault_n := fun _ h => List.mem_cons_of_mem _ (List.mem_append_left _ (List.mem_append_right _ h))
  have hD := hD0
  have hA : ∀ q : Nat, s.heap.size ≤ q → va_A [] s.heap.size q := fun _ h => Or.inr h
  have hS : va_S (va_A [] s.heap.size) s.heap s.heap [] := va_S.rf
  have hl := lv_entry ([.ref xa, .int p0]) (n := 2) (Nat.le_of_ble_eq_true rfl)
  rw [lg_entry_eq]
  generalize (lg_sl ([.ref xa, .int p0]) ++ List.replicate (2 - (lg_sl ([.ref xa, .int p0])).length) Slot.unset).toArray = ls at hl ⊢
  have hl : lv_has ls 2 [(0, .ref xa), (1, .int p0)] := hl
  refine lv_iload_n hx hb dX8_fault_0 rfl (lv_at hl 1 rfl) ?_
  by_cases w_1 : p0 = 0
  · subst w_1
    refine lv_lookup (tgt := 28) (off := 27) hx hb dX8_fault_1 (by decide) (by decide) (by decide) ?_
    refine lv_aload_n hx hb dX8_fault_28 rfl (lv_at hl 0 rfl) ?_
    refine va_get (D := (dC, dI)) (ci := 8) (v := .ref xread) (C := RX8) (T := TX8) (N := 16) hx hb hts hiX8 hown hK hP 0 rfl rfl 2 (by decide) v_1 (fun _ h9 => h9) rfl dX8_fault_29 ?_
    refine va_get (D := (dC, dI)) (ci := 4) (v := .int rf0) (C := RX4) (T := TX4) (N := 12) hx hb hts hiX4 hown hK hP 1 rfl rfl 0 (by decide) v_2 (fun _ h9 => h9) rfl dX8_fault_32 ?_
    exact W.iret (v := rf0) hx hb hr (fun t ht hW => ⟨⟨rf0, (), rfl, trivial, trivial⟩, hS.F ht⟩) hS.2.2 dX8_fault_35
  by_cases w_2 : p0 = 1
  · subst w_2
    refine lv_lookup (tgt := 36) (off := 35) hx hb dX8_fault_1 (by decide) (by decide) (by decide) ?_
    refine lv_aload_n hx hb dX8_fault_36 rfl (lv_at hl 0 rfl) ?_
    refine va_get (D := (dC, dI)) (ci := 8) (v := .ref xread) (C := RX8) (T := TX8) (N := 16) hx hb hts hiX8 hown hK hP 0 rfl rfl 2 (by decide) v_1 (fun _ h9 => h9) rfl dX8_fault_37 ?_
    refine va_get (D := (dC, dI)) (ci := 4) (v := .int rf1) (C := RX4) (T := TX4) (N := 12) hx hb hts hiX4 hown hK hP 1 rfl rfl 1 (by decide) v_3 (fun _ h9 => h9) rfl dX8_fault_40 ?_
    exact W.iret (v := rf1) hx hb hr (fun t ht hW => ⟨⟨rf1, (), rfl, trivial, trivial⟩, hS.F ht⟩) hS.2.2 dX8_fault_43
  refine lv_lookup (tgt := 44) (off := 43) hx hb dX8_fault_1 (by decide) ((lv_osw w_1 (by decide)).trans ((lv_osw w_2 (by decide)).trans (rfl))) (by decide) ?_
  refine lv_iconst (v := (-1)) hx hb dX8_fault_44 (by decide) ?_
  exact W.iret (v := (-1)) hx hb hr (fun t ht hW => ⟨⟨(-1), (), rfl, trivial, trivial⟩, hS.F ht⟩) hS.2.2 dX8_fault_45
