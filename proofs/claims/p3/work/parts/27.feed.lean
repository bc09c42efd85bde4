theorem dX8_putBytes_0 : decode cX8_putBytes 0 = .ok (.bipush 24, 2) := by decide +kernel
theorem dX8_putBytes_2 : decode cX8_putBytes 2 = .ok (.istore_n 2, 1) := by decide +kernel
theorem dX8_putBytes_3 : decode cX8_putBytes 3 = .ok (.iload_n 2, 1) := by decide +kernel
theorem dX8_putBytes_4 : decode cX8_putBytes 4 = .ok (.ifCond .lt 45, 3) := by decide +kernel
theorem dX8_putBytes_7 : decode cX8_putBytes 7 = .ok (.aload_n 0, 1) := by decide +kernel
theorem dX8_putBytes_8 : decode cX8_putBytes 8 = .ok (.getfield 79, 3) := by decide +kernel
theorem dX8_putBytes_11 : decode cX8_putBytes 11 = .ok (.sipush 900, 3) := by decide +kernel
theorem dX8_putBytes_14 : decode cX8_putBytes 14 = .ok (.if_icmp .ge 35, 3) := by decide +kernel
theorem dX8_putBytes_17 : decode cX8_putBytes 17 = .ok (.aload_n 0, 1) := by decide +kernel
theorem dX8_putBytes_18 : decode cX8_putBytes 18 = .ok (.getfield 9, 3) := by decide +kernel
theorem dX8_putBytes_21 : decode cX8_putBytes 21 = .ok (.aload_n 0, 1) := by decide +kernel
theorem dX8_putBytes_22 : decode cX8_putBytes 22 = .ok (.getfield 79, 3) := by decide +kernel
theorem dX8_putBytes_25 : decode cX8_putBytes 25 = .ok (.iload_n 1, 1) := by decide +kernel
theorem dX8_putBytes_26 : decode cX8_putBytes 26 = .ok (.iload_n 2, 1) := by decide +kernel
theorem dX8_putBytes_27 : decode cX8_putBytes 27 = .ok (.ishr, 1) := by decide +kernel
theorem dX8_putBytes_28 : decode cX8_putBytes 28 = .ok (.sipush 255, 3) := by decide +kernel
theorem dX8_putBytes_31 : decode cX8_putBytes 31 = .ok (.iand, 1) := by decide +kernel
theorem dX8_putBytes_32 : decode cX8_putBytes 32 = .ok (.iastore, 1) := by decide +kernel
theorem dX8_putBytes_33 : decode cX8_putBytes 33 = .ok (.aload_n 0, 1) := by decide +kernel
theorem dX8_putBytes_34 : decode cX8_putBytes 34 = .ok (.dup, 1) := by decide +kernel
theorem dX8_putBytes_35 : decode cX8_putBytes 35 = .ok (.getfield 79, 3) := by decide +kernel
theorem dX8_putBytes_38 : decode cX8_putBytes 38 = .ok (.iconst 1, 1) := by decide +kernel
theorem dX8_putBytes_39 : decode cX8_putBytes 39 = .ok (.iadd, 1) := by decide +kernel
theorem dX8_putBytes_40 : decode cX8_putBytes 40 = .ok (.putfield 79, 3) := by decide +kernel
theorem dX8_putBytes_43 : decode cX8_putBytes 43 = .ok (.iinc 2 (-8), 3) := by decide +kernel
theorem dX8_putBytes_46 : decode cX8_putBytes 46 = .ok (.goto (-43), 3) := by decide +kernel
theorem dX8_putBytes_49 : decode cX8_putBytes 49 = .ok (.return_, 1) := by decide +kernel
def vs_X8_putBytes : List Cond := .code yX8_putBytes cX8_putBytes 3 none :: ([.fieldLink RX8 79 "ClockReach" "taped" "I", .fieldLink RX8 9 "ClockReach" "tape" "[I"] ++ wsX80)
set_option maxHeartbeats 4000000 in
set_option maxRecDepth 100000 in
theorem c_X8_putBytes (l : Launch) (dC : Nat → ClassId) (dI : Nat → Nat → Nat) (sz : Nat) (xa xtape xread xdraft xhist xshown xtried xsoon xrem xtim xplay xbeg xsam : Nat) (tp : Nat) (xs0 xs1 : Int32) (au : Nat) (kt : ClassId) (ft : Nat → Int32) (htp : tp + 4 ≤ 900) (p0 : Int32) : Met l yX8_putBytes vs_X8_putBytes ({ frames := 0, cells := 0, slots := 0, locals := 0 }) (va_Pc [.ref xa, .int p0] (pu_B (dC, dI) [(xa, .inr (8, [.ref xtape, .int (nI tp), .ref xread, .ref au, .ref xdraft, .ref xhist, .ref xshown, .int xs0, .ref xtried, .ref xsoon, .int xs1, .ref xrem, .ref xtim, .ref xplay, .ref xbeg, .ref xsam])), (xtape, .inl (kt, 900, .inl ft))] [(kt, .int)] sz)) (va_Qv (fun (_ : Unit) => True) (fun _ t => ∃ (g : Nat → Int32), pu_E (dC, dI) [(xa, .inr (8, [.ref xtape, .int (nI (tp + 4)), .ref xread, .ref au, .ref xdraft, .ref xhist, .ref xshown, .int xs0, .ref xtried, .ref xsoon, .int xs1, .ref xrem, .ref xtim, .ref xplay, .ref xbeg, .ref xsam])), (xtape, .inl (kt, 900, .inl g))] [(kt, .int)] (va_A ([(xa, .inr (8, [.ref xtape, .int (nI tp), .ref xread, .ref au, .ref xdraft, .ref xhist, .ref xshown, .int xs0, .ref xtried, .ref xsoon, .int xs1, .ref xrem, .ref xtim, .ref xplay, .ref xbeg, .ref xsam])), (xtape, .inl (kt, 900, .inl ft))]) sz) t) (va_A ([(xa, .inr (8, [.ref xtape, .int (nI tp), .ref xread, .ref au, .ref xdraft, .ref xhist, .ref xshown, .int xs0, .ref xtried, .ref xsoon, .int xs1, .ref xrem, .ref xtim, .ref xplay, .ref xbeg, .ref xsam])), (xtape, .inl (kt, 900, .inl ft))]) sz)) 0 0 (va_A ([(xa, .inr (8, [.ref xtape, .int (nI tp), .ref xread, .ref au, .ref xdraft, .ref xhist, .ref xshown, .int xs0, .ref xtried, .ref xsoon, .int xs1, .ref xrem, .ref xtim, .ref xplay, .ref xbeg, .ref xsam])), (xtape, .inl (kt, 900, .inl ft))]) sz) := by
  refine Met.ofW (cc := cX8_putBytes) (maxL := 3) (ret := none) (by decide) rfl ?_
  intro p e s m args below meth c s₁ B hml hv
  obtain ⟨rfl, rfl, hP, hK, hD0⟩ := hv
  have hx := B.exec
  have hb := B.bytes
  have hr := B.returns
  have hts := atoms_spec (ws := vs_X8_putBytes) B.pre
  have v_1 := hts (.fieldLink RX8 79 "ClockReach" "taped" "I") (List.mem_of_getElem? (i := 1) rfl)
  have v_2 := hts (.fieldLink RX8 9 "ClockReach" "tape" "[I") (List.mem_of_getElem? (i := 2) rfl)
  have hown : s.vm.findClass RX8 = some m.cls := findClass_of_methodNamed B.named
  have hlocks := B.notSynchronized
  have hiX8 : ∀ w ∈ wsX80, w ∈ vs_X8_putBytes := fun _ h => List.mem_cons_of_mem _ (List.mem_append_right _ h)
  have hD := hD0.self (sz := s.heap.size)
  generalize hAe : va_A ([(xa, .inr (8, [.ref xtape, .int (nI tp), .ref xread, .ref au, .ref xdraft, .ref xhist, .ref xshown, .int xs0, .ref xtried, .ref xsoon, .int xs1, .ref xrem, .ref xtim, .ref xplay, .ref xbeg, .ref xsam])), (xtape, .inl (kt, 900, .inl ft))]) s.heap.size = A at hD ⊢
  have hA : ∀ q : Nat, s.heap.size ≤ q → A q := fun q h => by rw [← hAe]; exact Or.inr h
  have hS : va_S A s.heap s.heap [] := va_S.rf
  have hl := lv_entry ([.ref xa, .int p0]) (n := 3) (Nat.le_of_ble_eq_true rfl)
  rw [lg_entry_eq]
  generalize (lg_sl ([.ref xa, .int p0]) ++ List.replicate (3 - (lg_sl ([.ref xa, .int p0])).length) Slot.unset).toArray = ls at hl ⊢
  have hl : lv_has ls 3 [(0, .ref xa), (1, .int p0)] := hl
  refine lv_bipush (v := 24) hx hb dX8_putBytes_0 (by decide) ?_
  refine lv_istore_n (lv' := [(2, .int 24), (0, .ref xa), (1, .int p0)]) hx hb dX8_putBytes_2 rfl hl (by decide) rfl (fun ls hl => ?_)
  refine lv_iload_n hx hb dX8_putBytes_3 rfl (lv_at hl 0 rfl) ?_
  refine lv_if_lt (tgt := 49) hx hb dX8_putBytes_4 (by decide) (fun z => absurd z (by decide)) (fun _ => ?_)
  refine lv_aload_n hx hb dX8_putBytes_7 rfl (lv_at hl 1 rfl) ?_
  refine va_get (D := (dC, dI)) (ci := 8) (v := .int (nI tp)) (C := RX8) (T := TX8) (N := 16) hx hb hts hiX8 hown hK hP 0 rfl rfl 1 (by decide) v_1 (fun _ h9 => h9) rfl dX8_putBytes_8 ?_
  refine lv_sipush (v := 900) hx hb dX8_putBytes_11 (by decide) ?_
  refine lv_icmp_ge (tgt := 49) hx hb dX8_putBytes_14 (by decide) (fun c_1 => ?_) (fun c_1 => ?_)
  · have c_1 : 900 ≤ tp := (nI_leI (a := 900) (b := tp) (by omega) (by omega)).mp c_1
    exfalso
    omega
  · have c_1 : ¬ 900 ≤ tp := fun z => c_1 ((nI_leI (a := 900) (b := tp) (by omega) (by omega)).mpr z)
    refine lv_aload_n hx hb dX8_putBytes_17 rfl (lv_at hl 1 rfl) ?_
    refine va_get (D := (dC, dI)) (ci := 8) (v := .ref xtape) (C := RX8) (T := TX8) (N := 16) hx hb hts hiX8 hown hK hP 0 rfl rfl 0 (by decide) v_2 (fun _ h9 => h9) rfl dX8_putBytes_18 ?_
    refine lv_aload_n hx hb dX8_putBytes_21 rfl (lv_at hl 1 rfl) ?_
    refine va_get (D := (dC, dI)) (ci := 8) (v := .int (nI tp)) (C := RX8) (T := TX8) (N := 16) hx hb hts hiX8 hown hK hP 0 rfl rfl 1 (by decide) v_1 (fun _ h9 => h9) rfl dX8_putBytes_22 ?_
    refine lv_iload_n hx hb dX8_putBytes_25 rfl (lv_at hl 2 rfl) ?_
    refine lv_iload_n hx hb dX8_putBytes_26 rfl (lv_at hl 0 rfl) ?_
    refine lv_ishr hx hb dX8_putBytes_27 ?_
    refine lv_sipush (v := 255) hx hb dX8_putBytes_28 (by decide) ?_
    refine lv_iand hx hb dX8_putBytes_31 ?_
    refine va_iast hx hb hK hP hD hS 1 0 rfl rfl (vp_in_nI (n := tp) (by first | omega | exact ix_lt (by omega) (by omega) hn | exact ix_lt0 (by omega) hn | exact ix_ltq (by omega) hn | exact ix_lt1 (by omega) hn) (by omega)) dX8_putBytes_32 (fun H locs hP hD hS => ?_)
    have hP : va_P (dC, dI) vwCl [(xa, .inr (8, [.ref xtape, .int (nI tp), .ref xread, .ref au, .ref xdraft, .ref xhist, .ref xshown, .int xs0, .ref xtried, .ref xsoon, .int xs1, .ref xrem, .ref xtim, .ref xplay, .ref xbeg, .ref xsam])), (xtape, .inl (kt, 900, .inl (upd ft ((nI tp) : Int32).toNatClampNeg (((p0 : Int32) >>> ((24 : Int32) &&& 31)) &&& 255))))] H := hP
    have hD : va_D A [(xa, .inr (8, [.ref xtape, .int (nI tp), .ref xread, .ref au, .ref xdraft, .ref xhist, .ref xshown, .int xs0, .ref xtried, .ref xsoon, .int xs1, .ref xrem, .ref xtim, .ref xplay, .ref xbeg, .ref xsam])), (xtape, .inl (kt, 900, .inl (upd ft ((nI tp) : Int32).toNatClampNeg (((p0 : Int32) >>> ((24 : Int32) &&& 31)) &&& 255))))] := hD
    refine lv_aload_n hx hb dX8_putBytes_33 rfl (lv_at hl 1 rfl) ?_
    refine lv_dup hx hb dX8_putBytes_34 rfl ?_
    refine va_get (D := (dC, dI)) (ci := 8) (v := .int (nI tp)) (C := RX8) (T := TX8) (N := 16) hx hb hts hiX8 hown hK hP 0 rfl rfl 1 (by decide) v_1 (fun _ h9 => h9) rfl dX8_putBytes_35 ?_
    refine lv_iconst (v := 1) hx hb dX8_putBytes_38 (by decide) ?_
    refine lv_iadd hx hb dX8_putBytes_39 ?_
    refine lv_topi (fun y_2 ey_2 => ?_)
    obtain rfl : y_2 = (nI (tp + 1)) := ey_2.trans (nI_add tp 1)
    refine va_put (D := (dC, dI)) (ci := 8) (v := .int (nI (tp + 1))) (ty := .int) (C := RX8) (T := TX8) (N := 16) hx hb hts hiX8 tyX8 tyX8_ok nmX8 hown hK hP hD hS 0 rfl rfl 1 (by decide) v_1 (fun _ h9 => h9) rfl (by decide +kernel) rfl rfl (Nat.le_of_ble_eq_true rfl) dX8_putBytes_40 (fun H locs hP hD hS => ?_)
    have hP : va_P (dC, dI) vwCl [(xa, .inr (8, [.ref xtape, .int (nI (tp + 1)), .ref xread, .ref au, .ref xdraft, .ref xhist, .ref xshown, .int xs0, .ref xtried, .ref xsoon, .int xs1, .ref xrem, .ref xtim, .ref xplay, .ref xbeg, .ref xsam])), (xtape, .inl (kt, 900, .inl (upd ft ((nI tp) : Int32).toNatClampNeg (((p0 : Int32) >>> ((24 : Int32) &&& 31)) &&& 255))))] H := hP
    have hD : va_D A [(xa, .inr (8, [.ref xtape, .int (nI (tp + 1)), .ref xread, .ref au, .ref xdraft, .ref xhist, .ref xshown, .int xs0, .ref xtried, .ref xsoon, .int xs1, .ref xrem, .ref xtim, .ref xplay, .ref xbeg, .ref xsam])), (xtape, .inl (kt, 900, .inl (upd ft ((nI tp) : Int32).toNatClampNeg (((p0 : Int32) >>> ((24 : Int32) &&& 31)) &&& 255))))] := hD
    refine lv_iinc (v := 16) (lv' := [(2, .int 16), (0, .ref xa), (1, .int p0)]) hx hb dX8_putBytes_43 hl (k := 0) rfl (by decide) (by decide) rfl (fun ls hl => ?_)
    refine lv_goto (tgt := 3) hx hb dX8_putBytes_46 (by decide) ?_
    refine lv_iload_n hx hb dX8_putBytes_3 rfl (lv_at hl 0 rfl) ?_
    refine lv_if_lt (tgt := 49) hx hb dX8_putBytes_4 (by decide) (fun z => absurd z (by decide)) (fun _ => ?_)
    refine lv_aload_n hx hb dX8_putBytes_7 rfl (lv_at hl 1 rfl) ?_
    refine va_get (D := (dC, dI)) (ci := 8) (v := .int (nI (tp + 1))) (C := RX8) (T := TX8) (N := 16) hx hb hts hiX8 hown hK hP 0 rfl rfl 1 (by decide) v_1 (fun _ h9 => h9) rfl dX8_putBytes_8 ?_
    refine lv_sipush (v := 900) hx hb dX8_putBytes_11 (by decide) ?_
    refine lv_icmp_ge (tgt := 49) hx hb dX8_putBytes_14 (by decide) (fun c_3 => ?_) (fun c_3 => ?_)
    · have c_3 : 900 ≤ (tp + 1) := (nI_leI (a := 900) (b := (tp + 1)) (by omega) (by omega)).mp c_3
      exfalso
      omega
    · have c_3 : ¬ 900 ≤ (tp + 1) := fun z => c_3 ((nI_leI (a := 900) (b := (tp + 1)) (by omega) (by omega)).mpr z)
      refine lv_aload_n hx hb dX8_putBytes_17 rfl (lv_at hl 1 rfl) ?_
      refine va_get (D := (dC, dI)) (ci := 8) (v := .ref xtape) (C := RX8) (T := TX8) (N := 16) hx hb hts hiX8 hown hK hP 0 rfl rfl 0 (by decide) v_2 (fun _ h9 => h9) rfl dX8_putBytes_18 ?_
      refine lv_aload_n hx hb dX8_putBytes_21 rfl (lv_at hl 1 rfl) ?_
      refine va_get (D := (dC, dI)) (ci := 8) (v := .int (nI (tp + 1))) (C := RX8) (T := TX8) (N := 16) hx hb hts hiX8 hown hK hP 0 rfl rfl 1 (by decide) v_1 (fun _ h9 => h9) rfl dX8_putBytes_22 ?_
      refine lv_iload_n hx hb dX8_putBytes_25 rfl (lv_at hl 2 rfl) ?_
      refine lv_iload_n hx hb dX8_putBytes_26 rfl (lv_at hl 0 rfl) ?_
      refine lv_ishr hx hb dX8_putBytes_27 ?_
      refine lv_sipush (v := 255) hx hb dX8_putBytes_28 (by decide) ?_
      refine lv_iand hx hb dX8_putBytes_31 ?_
      refine va_iast hx hb hK hP hD hS 1 0 rfl rfl (vp_in_nI (n := (tp + 1)) (by first | omega | exact ix_lt (by omega) (by omega) hn | exact ix_lt0 (by omega) hn | exact ix_ltq (by omega) hn | exact ix_lt1 (by omega) hn) (by omega)) dX8_putBytes_32 (fun H locs hP hD hS => ?_)
      have hP : va_P (dC, dI) vwCl [(xa, .inr (8, [.ref xtape, .int (nI (tp + 1)), .ref xread, .ref au, .ref xdraft, .ref xhist, .ref xshown, .int xs0, .ref xtried, .ref xsoon, .int xs1, .ref xrem, .ref xtim, .ref xplay, .ref xbeg, .ref xsam])), (xtape, .inl (kt, 900, .inl (upd (upd ft ((nI tp) : Int32).toNatClampNeg (((p0 : Int32) >>> ((24 : Int32) &&& 31)) &&& 255)) ((nI (tp + 1)) : Int32).toNatClampNeg (((p0 : Int32) >>> ((16 : Int32) &&& 31)) &&& 255))))] H := hP
      have hD : va_D A [(xa, .inr (8, [.ref xtape, .int (nI (tp + 1)), .ref xread, .ref au, .ref xdraft, .ref xhist, .ref xshown, .int xs0, .ref xtried, .ref xsoon, .int xs1, .ref xrem, .ref xtim, .ref xplay, .ref xbeg, .ref xsam])), (xtape, .inl (kt, 900, .inl (upd (upd ft ((nI tp) : Int32).toNatClampNeg (((p0 : Int32) >>> ((24 : Int32) &&& 31)) &&& 255)) ((nI (tp + 1)) : Int32).toNatClampNeg (((p0 : Int32) >>> ((16 : Int32) &&& 31)) &&& 255))))] := hD
      refine lv_aload_n hx hb dX8_putBytes_33 rfl (lv_at hl 1 rfl) ?_
      refine lv_dup hx hb dX8_putBytes_34 rfl ?_
      refine va_get (D := (dC, dI)) (ci := 8) (v := .int (nI (tp + 1))) (C := RX8) (T := TX8) (N := 16) hx hb hts hiX8 hown hK hP 0 rfl rfl 1 (by decide) v_1 (fun _ h9 => h9) rfl dX8_putBytes_35 ?_
      refine lv_iconst (v := 1) hx hb dX8_putBytes_38 (by decide) ?_
      refine lv_iadd hx hb dX8_putBytes_39 ?_
      refine lv_topi (fun y_4 ey_4 => ?_)
      obtain rfl : y_4 = (nI ((tp + 1) + 1)) := ey_4.trans (nI_add (tp + 1) 1)
      refine va_put (D := (dC, dI)) (ci := 8) (v := .int (nI ((tp + 1) + 1))) (ty := .int) (C := RX8) (T := TX8) (N := 16) hx hb hts hiX8 tyX8 tyX8_ok nmX8 hown hK hP hD hS 0 rfl rfl 1 (by decide) v_1 (fun _ h9 => h9) rfl (by decide +kernel) rfl rfl (Nat.le_of_ble_eq_true rfl) dX8_putBytes_40 (fun H locs hP hD hS => ?_)
      have hP : va_P (dC, dI) vwCl [(xa, .inr (8, [.ref xtape, .int (nI ((tp + 1) + 1)), .ref xread, .ref au, .ref xdraft, .ref xhist, .ref xshown, .int xs0, .ref xtried, .ref xsoon, .int xs1, .ref xrem, .ref xtim, .ref xplay, .ref xbeg, .ref xsam])), (xtape, .inl (kt, 900, .inl (upd (upd ft ((nI tp) : Int32).toNatClampNeg (((p0 : Int32) >>> ((24 : Int32) &&& 31)) &&& 255)) ((nI (tp + 1)) : Int32).toNatClampNeg (((p0 : Int32) >>> ((16 : Int32) &&& 31)) &&& 255))))] H := hP
      have hD : va_D A [(xa, .inr (8, [.ref xtape, .int (nI ((tp + 1) + 1)), .ref xread, .ref au, .ref xdraft, .ref xhist, .ref xshown, .int xs0, .ref xtried, .ref xsoon, .int xs1, .ref xrem, .ref xtim, .ref xplay, .ref xbeg, .ref xsam])), (xtape, .inl (kt, 900, .inl (upd (upd ft ((nI tp) : Int32).toNatClampNeg (((p0 : Int32) >>> ((24 : Int32) &&& 31)) &&& 255)) ((nI (tp + 1)) : Int32).toNatClampNeg (((p0 : Int32) >>> ((16 : Int32) &&& 31)) &&& 255))))] := hD
      refine lv_iinc (v := 8) (lv' := [(2, .int 8), (0, .ref xa), (1, .int p0)]) hx hb dX8_putBytes_43 hl (k := 0) rfl (by decide) (by decide) rfl (fun ls hl => ?_)
      refine lv_goto (tgt := 3) hx hb dX8_putBytes_46 (by decide) ?_
      refine lv_iload_n hx hb dX8_putBytes_3 rfl (lv_at hl 0 rfl) ?_
      refine lv_if_lt (tgt := 49) hx hb dX8_putBytes_4 (by decide) (fun z => absurd z (by decide)) (fun _ => ?_)
      refine lv_aload_n hx hb dX8_putBytes_7 rfl (lv_at hl 1 rfl) ?_
      refine va_get (D := (dC, dI)) (ci := 8) (v := .int (nI ((tp + 1) + 1))) (C := RX8) (T := TX8) (N := 16) hx hb hts hiX8 hown hK hP 0 rfl rfl 1 (by decide) v_1 (fun _ h9 => h9) rfl dX8_putBytes_8 ?_
      refine lv_sipush (v := 900) hx hb dX8_putBytes_11 (by decide) ?_
      refine lv_icmp_ge (tgt := 49) hx hb dX8_putBytes_14 (by decide) (fun c_5 => ?_) (fun c_5 => ?_)
      · have c_5 : 900 ≤ ((tp + 1) + 1) := (nI_leI (a := 900) (b := ((tp + 1) + 1)) (by omega) (by omega)).mp c_5
        exfalso
        omega
      · have c_5 : ¬ 900 ≤ ((tp + 1) + 1) := fun z => c_5 ((nI_leI (a := 900) (b := ((tp + 1) + 1)) (by omega) (by omega)).mpr z)
        refine lv_aload_n hx hb dX8_putBytes_17 rfl (lv_at hl 1 rfl) ?_
        refine va_get (D := (dC, dI)) (ci := 8) (v := .ref xtape) (C := RX8) (T := TX8) (N := 16) hx hb hts hiX8 hown hK hP 0 rfl rfl 0 (by decide) v_2 (fun _ h9 => h9) rfl dX8_putBytes_18 ?_
        refine lv_aload_n hx hb dX8_putBytes_21 rfl (lv_at hl 1 rfl) ?_
        refine va_get (D := (dC, dI)) (ci := 8) (v := .int (nI ((tp + 1) + 1))) (C := RX8) (T := TX8) (N := 16) hx hb hts hiX8 hown hK hP 0 rfl rfl 1 (by decide) v_1 (fun _ h9 => h9) rfl dX8_putBytes_22 ?_
        refine lv_iload_n hx hb dX8_putBytes_25 rfl (lv_at hl 2 rfl) ?_
        refine lv_iload_n hx hb dX8_putBytes_26 rfl (lv_at hl 0 rfl) ?_
        refine lv_ishr hx hb dX8_putBytes_27 ?_
        refine lv_sipush (v := 255) hx hb dX8_putBytes_28 (by decide) ?_
        refine lv_iand hx hb dX8_putBytes_31 ?_
        refine va_iast hx hb hK hP hD hS 1 0 rfl rfl (vp_in_nI (n := ((tp + 1) + 1)) (by first | omega | exact ix_lt (by omega) (by omega) hn | exact ix_lt0 (by omega) hn | exact ix_ltq (by omega) hn | exact ix_lt1 (by omega) hn) (by omega)) dX8_putBytes_32 (fun H locs hP hD hS => ?_)
        have hP : va_P (dC, dI) vwCl [(xa, .inr (8, [.ref xtape, .int (nI ((tp + 1) + 1)), .ref xread, .ref au, .ref xdraft, .ref xhist, .ref xshown, .int xs0, .ref xtried, .ref xsoon, .int xs1, .ref xrem, .ref xtim, .ref xplay, .ref xbeg, .ref xsam])), (xtape, .inl (kt, 900, .inl (upd (upd (upd ft ((nI tp) : Int32).toNatClampNeg (((p0 : Int32) >>> ((24 : Int32) &&& 31)) &&& 255)) ((nI (tp + 1)) : Int32).toNatClampNeg (((p0 : Int32) >>> ((16 : Int32) &&& 31)) &&& 255)) ((nI ((tp + 1) + 1)) : Int32).toNatClampNeg (((p0 : Int32) >>> ((8 : Int32) &&& 31)) &&& 255))))] H := hP
        have hD : va_D A [(xa, .inr (8, [.ref xtape, .int (nI ((tp + 1) + 1)), .ref xread, .ref au, .ref xdraft, .ref xhist, .ref xshown, .int xs0, .ref xtried, .ref xsoon, .int xs1, .ref xrem, .ref xtim, .ref xplay, .ref xbeg, .ref xsam])), (xtape, .inl (kt, 900, .inl (upd (upd (upd ft ((nI tp) : Int32).toNatClampNeg (((p0 : Int32) >>> ((24 : Int32) &&& 31)) &&& 255)) ((nI (tp + 1)) : Int32).toNatClampNeg (((p0 : Int32) >>> ((16 : Int32) &&& 31)) &&& 255)) ((nI ((tp + 1) + 1)) : Int32).toNatClampNeg (((p0 : Int32) >>> ((8 : Int32) &&& 31)) &&& 255))))] := hD
        refine lv_aload_n hx hb dX8_putBytes_33 rfl (lv_at hl 1 rfl) ?_
        refine lv_dup hx hb dX8_putBytes_34 rfl ?_
        refine va_get (D := (dC, dI)) (ci := 8) (v := .int (nI ((tp + 1) + 1))) (C := RX8) (T := TX8) (N := 16) hx hb hts hiX8 hown hK hP 0 rfl rfl 1 (by decide) v_1 (fun _ h9 => h9) rfl dX8_putBytes_35 ?_
        refine lv_iconst (v := 1) hx hb dX8_putBytes_38 (by decide) ?_
        refine lv_iadd hx hb dX8_putBytes_39 ?_
        refine lv_topi (fun y_6 ey_6 => ?_)
        obtain rfl : y_6 = (nI (((tp + 1) + 1) + 1)) := ey_6.trans (nI_add ((tp + 1) + 1) 1)
        refine va_put (D := (dC, dI)) (ci := 8) (v := .int (nI (((tp + 1) + 1) + 1))) (ty := .int) (C := RX8) (T := TX8) (N := 16) hx hb hts hiX8 tyX8 tyX8_ok nmX8 hown hK hP hD hS 0 rfl rfl 1 (by decide) v_1 (fun _ h9 => h9) rfl (by decide +kernel) rfl rfl (Nat.le_of_ble_eq_true rfl) dX8_putBytes_40 (fun H locs hP hD hS => ?_)
        have hP : va_P (dC, dI) vwCl [(xa, .inr (8, [.ref xtape, .int (nI (((tp + 1) + 1) + 1)), .ref xread, .ref au, .ref xdraft, .ref xhist, .ref xshown, .int xs0, .ref xtried, .ref xsoon, .int xs1, .ref xrem, .ref xtim, .ref xplay, .ref xbeg, .ref xsam])), (xtape, .inl (kt, 900, .inl (upd (upd (upd ft ((nI tp) : Int32).toNatClampNeg (((p0 : Int32) >>> ((24 : Int32) &&& 31)) &&& 255)) ((nI (tp + 1)) : Int32).toNatClampNeg (((p0 : Int32) >>> ((16 : Int32) &&& 31)) &&& 255)) ((nI ((tp + 1) + 1)) : Int32).toNatClampNeg (((p0 : Int32) >>> ((8 : Int32) &&& 31)) &&& 255))))] H := hP
        have hD : va_D A [(xa, .inr (8, [.ref xtape, .int (nI (((tp + 1) + 1) + 1)), .ref xread, .ref au, .ref xdraft, .ref xhist, .ref xshown, .int xs0, .ref xtried, .ref xsoon, .int xs1, .ref xrem, .ref xtim, .ref xplay, .ref xbeg, .ref xsam])), (xtape, .inl (kt, 900, .inl (upd (upd (upd ft ((nI tp) : Int32).toNatClampNeg (((p0 : Int32) >>> ((24 : Int32) &&& 31)) &&& 255)) ((nI (tp + 1)) : Int32).toNatClampNeg (((p0 : Int32) >>> ((16 : Int32) &&& 31)) &&& 255)) ((nI ((tp + 1) + 1)) : Int32).toNatClampNeg (((p0 : Int32) >>> ((8 : Int32) &&& 31)) &&& 255))))] := hD
        refine lv_iinc (v := 0) (lv' := [(2, .int 0), (0, .ref xa), (1, .int p0)]) hx hb dX8_putBytes_43 hl (k := 0) rfl (by decide) (by decide) rfl (fun ls hl => ?_)
        refine lv_goto (tgt := 3) hx hb dX8_putBytes_46 (by decide) ?_
        refine lv_iload_n hx hb dX8_putBytes_3 rfl (lv_at hl 0 rfl) ?_
        refine lv_if_lt (tgt := 49) hx hb dX8_putBytes_4 (by decide) (fun z => absurd z (by decide)) (fun _ => ?_)
        refine lv_aload_n hx hb dX8_putBytes_7 rfl (lv_at hl 1 rfl) ?_
        refine va_get (D := (dC, dI)) (ci := 8) (v := .int (nI (((tp + 1) + 1) + 1))) (C := RX8) (T := TX8) (N := 16) hx hb hts hiX8 hown hK hP 0 rfl rfl 1 (by decide) v_1 (fun _ h9 => h9) rfl dX8_putBytes_8 ?_
        refine lv_sipush (v := 900) hx hb dX8_putBytes_11 (by decide) ?_
        refine lv_icmp_ge (tgt := 49) hx hb dX8_putBytes_14 (by decide) (fun c_7 => ?_) (fun c_7 => ?_)
        · have c_7 : 900 ≤ (((tp + 1) + 1) + 1) := (nI_leI (a := 900) (b := (((tp + 1) + 1) + 1)) (by omega) (by omega)).mp c_7
          exfalso
          omega
        · have c_7 : ¬ 900 ≤ (((tp + 1) + 1) + 1) := fun z => c_7 ((nI_leI (a := 900) (b := (((tp + 1) + 1) + 1)) (by omega) (by omega)).mpr z)
          refine lv_aload_n hx hb dX8_putBytes_17 rfl (lv_at hl 1 rfl) ?_
          refine va_get (D := (dC, dI)) (ci := 8) (v := .ref xtape) (C := RX8) (T := TX8) (N := 16) hx hb hts hiX8 hown hK hP 0 rfl rfl 0 (by decide) v_2 (fun _ h9 => h9) rfl dX8_putBytes_18 ?_
          refine lv_aload_n hx hb dX8_putBytes_21 rfl (lv_at hl 1 rfl) ?_
          refine va_get (D := (dC, dI)) (ci := 8) (v := .int (nI (((tp + 1) + 1) + 1))) (C := RX8) (T := TX8) (N := 16) hx hb hts hiX8 hown hK hP 0 rfl rfl 1 (by decide) v_1 (fun _ h9 => h9) rfl dX8_putBytes_22 ?_
          refine lv_iload_n hx hb dX8_putBytes_25 rfl (lv_at hl 2 rfl) ?_
          refine lv_iload_n hx hb dX8_putBytes_26 rfl (lv_at hl 0 rfl) ?_
          refine lv_ishr hx hb dX8_putBytes_27 ?_
          refine lv_sipush (v := 255) hx hb dX8_putBytes_28 (by decide) ?_
          refine lv_iand hx hb dX8_putBytes_31 ?_
          refine va_iast hx hb hK hP hD hS 1 0 rfl rfl (vp_in_nI (n := (((tp + 1) + 1) + 1)) (by first | omega | exact ix_lt (by omega) (by omega) hn | exact ix_lt0 (by omega) hn | exact ix_ltq (by omega) hn | exact ix_lt1 (by omega) hn) (by omega)) dX8_putBytes_32 (fun H locs hP hD hS => ?_)
          have hP : va_P (dC, dI) vwCl [(xa, .inr (8, [.ref xtape, .int (nI (((tp + 1) + 1) + 1)), .ref xread, .ref au, .ref xdraft, .ref xhist, .ref xshown, .int xs0, .ref xtried, .ref xsoon, .int xs1, .ref xrem, .ref xtim, .ref xplay, .ref xbeg, .ref xsam])), (xtape, .inl (kt, 900, .inl (upd (upd (upd (upd ft ((nI tp) : Int32).toNatClampNeg (((p0 : Int32) >>> ((24 : Int32) &&& 31)) &&& 255)) ((nI (tp + 1)) : Int32).toNatClampNeg (((p0 : Int32) >>> ((16 : Int32) &&& 31)) &&& 255)) ((nI ((tp + 1) + 1)) : Int32).toNatClampNeg (((p0 : Int32) >>> ((8 : Int32) &&& 31)) &&& 255)) ((nI (((tp + 1) + 1) + 1)) : Int32).toNatClampNeg (((p0 : Int32) >>> ((0 : Int32) &&& 31)) &&& 255))))] H := hP
          have hD : va_D A [(xa, .inr (8, [.ref xtape, .int (nI (((tp + 1) + 1) + 1)), .ref xread, .ref au, .ref xdraft, .ref xhist, .ref xshown, .int xs0, .ref xtried, .ref xsoon, .int xs1, .ref xrem, .ref xtim, .ref xplay, .ref xbeg, .ref xsam])), (xtape, .inl (kt, 900, .inl (upd (upd (upd (upd ft ((nI tp) : Int32).toNatClampNeg (((p0 : Int32) >>> ((24 : Int32) &&& 31)) &&& 255)) ((nI (tp + 1)) : Int32).toNatClampNeg (((p0 : Int32) >>> ((16 : Int32) &&& 31)) &&& 255)) ((nI ((tp + 1) + 1)) : Int32).toNatClampNeg (((p0 : Int32) >>> ((8 : Int32) &&& 31)) &&& 255)) ((nI (((tp + 1) + 1) + 1)) : Int32).toNatClampNeg (((p0 : Int32) >>> ((0 : Int32) &&& 31)) &&& 255))))] := hD
          refine lv_aload_n hx hb dX8_putBytes_33 rfl (lv_at hl 1 rfl) ?_
          refine lv_dup hx hb dX8_putBytes_34 rfl ?_
          refine va_get (D := (dC, dI)) (ci := 8) (v := .int (nI (((tp + 1) + 1) + 1))) (C := RX8) (T := TX8) (N := 16) hx hb hts hiX8 hown hK hP 0 rfl rfl 1 (by decide) v_1 (fun _ h9 => h9) rfl dX8_putBytes_35 ?_
          refine lv_iconst (v := 1) hx hb dX8_putBytes_38 (by decide) ?_
          refine lv_iadd hx hb dX8_putBytes_39 ?_
          refine lv_topi (fun y_8 ey_8 => ?_)
          obtain rfl : y_8 = (nI ((((tp + 1) + 1) + 1) + 1)) := ey_8.trans (nI_add (((tp + 1) + 1) + 1) 1)
          refine va_put (D := (dC, dI)) (ci := 8) (v := .int (nI ((((tp + 1) + 1) + 1) + 1))) (ty := .int) (C := RX8) (T := TX8) (N := 16) hx hb hts hiX8 tyX8 tyX8_ok nmX8 hown hK hP hD hS 0 rfl rfl 1 (by decide) v_1 (fun _ h9 => h9) rfl (by decide +kernel) rfl rfl (Nat.le_of_ble_eq_true rfl) dX8_putBytes_40 (fun H locs hP hD hS => ?_)
          have hP : va_P (dC, dI) vwCl [(xa, .inr (8, [.ref xtape, .int (nI ((((tp + 1) + 1) + 1) + 1)), .ref xread, .ref au, .ref xdraft, .ref xhist, .ref xshown, .int xs0, .ref xtried, .ref xsoon, .int xs1, .ref xrem, .ref xtim, .ref xplay, .ref xbeg, .ref xsam])), (xtape, .inl (kt, 900, .inl (upd (upd (upd (upd ft ((nI tp) : Int32).toNatClampNeg (((p0 : Int32) >>> ((24 : Int32) &&& 31)) &&& 255)) ((nI (tp + 1)) : Int32).toNatClampNeg (((p0 : Int32) >>> ((16 : Int32) &&& 31)) &&& 255)) ((nI ((tp + 1) + 1)) : Int32).toNatClampNeg (((p0 : Int32) >>> ((8 : Int32) &&& 31)) &&& 255)) ((nI (((tp + 1) + 1) + 1)) : Int32).toNatClampNeg (((p0 : Int32) >>> ((0 : Int32) &&& 31)) &&& 255))))] H := hP
          have hD : va_D A [(xa, .inr (8, [.ref xtape, .int (nI ((((tp + 1) + 1) + 1) + 1)), .ref xread, .ref au, .ref xdraft, .ref xhist, .ref xshown, .int xs0, .ref xtried, .ref xsoon, .int xs1, .ref xrem, .ref xtim, .ref xplay, .ref xbeg, .ref xsam])), (xtape, .inl (kt, 900, .inl (upd (upd (upd (upd ft ((nI tp) : Int32).toNatClampNeg (((p0 : Int32) >>> ((24 : Int32) &&& 31)) &&& 255)) ((nI (tp + 1)) : Int32).toNatClampNeg (((p0 : Int32) >>> ((16 : Int32) &&& 31)) &&& 255)) ((nI ((tp + 1) + 1)) : Int32).toNatClampNeg (((p0 : Int32) >>> ((8 : Int32) &&& 31)) &&& 255)) ((nI (((tp + 1) + 1) + 1)) : Int32).toNatClampNeg (((p0 : Int32) >>> ((0 : Int32) &&& 31)) &&& 255))))] := hD
          refine lv_iinc (v := (-8)) (lv' := [(2, .int (-8)), (0, .ref xa), (1, .int p0)]) hx hb dX8_putBytes_43 hl (k := 0) rfl (by decide) (by decide) rfl (fun ls hl => ?_)
          refine lv_goto (tgt := 3) hx hb dX8_putBytes_46 (by decide) ?_
          refine lv_iload_n hx hb dX8_putBytes_3 rfl (lv_at hl 0 rfl) ?_
          refine lv_if_lt (tgt := 49) hx hb dX8_putBytes_4 (by decide) (fun _ => ?_) (fun z => absurd z (by decide))
          have hP9 := hP.sub (ws' := [(xa, .inr (8, [.ref xtape, .int (nI (tp + 4)), .ref xread, .ref au, .ref xdraft, .ref xhist, .ref xshown, .int xs0, .ref xtried, .ref xsoon, .int xs1, .ref xrem, .ref xtim, .ref xplay, .ref xbeg, .ref xsam])), (xtape, .inl (kt, 900, .inl (upd (upd (upd (upd ft ((nI tp) : Int32).toNatClampNeg (((p0 : Int32) >>> ((24 : Int32) &&& 31)) &&& 255)) ((nI (tp + 1)) : Int32).toNatClampNeg (((p0 : Int32) >>> ((16 : Int32) &&& 31)) &&& 255)) ((nI ((tp + 1) + 1)) : Int32).toNatClampNeg (((p0 : Int32) >>> ((8 : Int32) &&& 31)) &&& 255)) ((nI (((tp + 1) + 1) + 1)) : Int32).toNatClampNeg (((p0 : Int32) >>> ((0 : Int32) &&& 31)) &&& 255))))]) [0, 1] rfl
          have hD9 := hD.sub (ws' := [(xa, .inr (8, [.ref xtape, .int (nI (tp + 4)), .ref xread, .ref au, .ref xdraft, .ref xhist, .ref xshown, .int xs0, .ref xtried, .ref xsoon, .int xs1, .ref xrem, .ref xtim, .ref xplay, .ref xbeg, .ref xsam])), (xtape, .inl (kt, 900, .inl (upd (upd (upd (upd ft ((nI tp) : Int32).toNatClampNeg (((p0 : Int32) >>> ((24 : Int32) &&& 31)) &&& 255)) ((nI (tp + 1)) : Int32).toNatClampNeg (((p0 : Int32) >>> ((16 : Int32) &&& 31)) &&& 255)) ((nI ((tp + 1) + 1)) : Int32).toNatClampNeg (((p0 : Int32) >>> ((8 : Int32) &&& 31)) &&& 255)) ((nI (((tp + 1) + 1) + 1)) : Int32).toNatClampNeg (((p0 : Int32) >>> ((0 : Int32) &&& 31)) &&& 255))))]) [0, 1] (by decide) rfl
          have hK9 := hK.sub (tys' := [(kt, .int)]) [0] rfl
          exact W.vret hx hb hr (fun t ht hW => ⟨⟨(), rfl, trivial, ⟨upd (upd (upd (upd ft ((nI tp) : Int32).toNatClampNeg (((p0 : Int32) >>> ((24 : Int32) &&& 31)) &&& 255)) ((nI (tp + 1)) : Int32).toNatClampNeg (((p0 : Int32) >>> ((16 : Int32) &&& 31)) &&& 255)) ((nI ((tp + 1) + 1)) : Int32).toNatClampNeg (((p0 : Int32) >>> ((8 : Int32) &&& 31)) &&& 255)) ((nI (((tp + 1) + 1) + 1)) : Int32).toNatClampNeg (((p0 : Int32) >>> ((0 : Int32) &&& 31)) &&& 255), by rw [ht]; exact hP9, va_K.moved hW.alike hK9, hD9⟩⟩, hS.F ht⟩) hS.2.2 dX8_putBytes_49
theorem dX8_feed_0 : decode cX8_feed 0 = .ok (.aload_n 0, 1) := by decide +kernel
theorem dX8_feed_1 : decode cX8_feed 1 = .ok (.getfield 79, 3) := by decide +kernel
theorem dX8_feed_4 : decode cX8_feed 4 = .ok (.bipush 20, 2) := by decide +kernel
theorem dX8_feed_6 : decode cX8_feed 6 = .ok (.iadd, 1) := by decide +kernel
theorem dX8_feed_7 : decode cX8_feed 7 = .ok (.sipush 900, 3) := by decide +kernel
theorem dX8_feed_10 : decode cX8_feed 10 = .ok (.if_icmp .le 5, 3) := by decide +kernel
theorem dX8_feed_13 : decode cX8_feed 13 = .ok (.iconst (-1), 1) := by decide +kernel
theorem dX8_feed_14 : decode cX8_feed 14 = .ok (.ireturn, 1) := by decide +kernel
theorem dX8_feed_15 : decode cX8_feed 15 = .ok (.aload_n 0, 1) := by decide +kernel
theorem dX8_feed_16 : decode cX8_feed 16 = .ok (.iload_n 1, 1) := by decide +kernel
theorem dX8_feed_17 : decode cX8_feed 17 = .ok (.invokevirtual 83, 3) := by decide +kernel
theorem dX8_feed_20 : decode cX8_feed 20 = .ok (.aload_n 0, 1) := by decide +kernel
theorem dX8_feed_21 : decode cX8_feed 21 = .ok (.iload_n 2, 1) := by decide +kernel
theorem dX8_feed_22 : decode cX8_feed 22 = .ok (.invokevirtual 83, 3) := by decide +kernel
theorem dX8_feed_25 : decode cX8_feed 25 = .ok (.aload_n 0, 1) := by decide +kernel
theorem dX8_feed_26 : decode cX8_feed 26 = .ok (.iload_n 3, 1) := by decide +kernel
theorem dX8_feed_27 : decode cX8_feed 27 = .ok (.invokevirtual 83, 3) := by decide +kernel
theorem dX8_feed_30 : decode cX8_feed 30 = .ok (.aload_n 0, 1) := by decide +kernel
theorem dX8_feed_31 : decode cX8_feed 31 = .ok (.iload 4, 2) := by decide +kernel
theorem dX8_feed_33 : decode cX8_feed 33 = .ok (.invokevirtual 83, 3) := by decide +kernel
theorem dX8_feed_36 : decode cX8_feed 36 = .ok (.aload_n 0, 1) := by decide +kernel
theorem dX8_feed_37 : decode cX8_feed 37 = .ok (.iload 5, 2) := by decide +kernel
theorem dX8_feed_39 : decode cX8_feed 39 = .ok (.invokevirtual 83, 3) := by decide +kernel
theorem dX8_feed_42 : decode cX8_feed 42 = .ok (.aload_n 0, 1) := by decide +kernel
theorem dX8_feed_43 : decode cX8_feed 43 = .ok (.getfield 79, 3) := by decide +kernel
theorem dX8_feed_46 : decode cX8_feed 46 = .ok (.ireturn, 1) := by decide +kernel
def vs_X8_feed : List Cond := .code yX8_feed cX8_feed 6 (some .int) :: ([.fieldLink RX8 79 "ClockReach" "taped" "I", .methodLink RX8 83 yX8_putBytes, .instanceMethod yX8_putBytes, .selects RX8 yX8_putBytes yX8_putBytes, .initialized RX8, .code yX8_putBytes cX8_putBytes 3 none, .fieldLink RX8 9 "ClockReach" "tape" "[I"] ++ wsX80)
theorem g_X8_feed_X8_putBytes : GoodIn vs_X8_feed (wsV RX8 83 RX8 yX8_putBytes vs_X8_putBytes) := goodIn_r _ [2, 3, 4, 5, 6, 1, 7, 8, 9, 10, 11, 12, 13, 14, 15, 16, 17, 18, 19, 20, 21, 22, 23] (by decide +kernel) (by decide +kernel)
set_option maxHeartbeats 4000000 in
set_option maxRecDepth 100000 in
theorem c_X8_feed (l : Launch) (dC : Nat → ClassId) (dI : Nat → Nat → Nat) (sz : Nat) (xa xtape xread xdraft xhist xshown xtried xsoon xrem xtim xplay xbeg xsam : Nat) (tp : Nat) (xs0 xs1 : Int32) (au : Nat) (kt : ClassId) (ft : Nat → Int32) (htp : tp ≤ 900) (p0 p1 p2 p3 p4 : Int32) : Met l yX8_feed vs_X8_feed ({ frames := 1, cells := 0, slots := 0, locals := 22 }) (va_Pc [.ref xa, .int p0, .int p1, .int p2, .int p3, .int p4] (pu_B (dC, dI) [(xa, .inr (8, [.ref xtape, .int (nI tp), .ref xread, .ref au, .ref xdraft, .ref xhist, .ref xshown, .int xs0, .ref xtried, .ref xsoon, .int xs1, .ref xrem, .ref xtim, .ref xplay, .ref xbeg, .ref xsam])), (xtape, .inl (kt, 900, .inl ft))] [(kt, .int)] sz)) (va_Qi (fun (r : Int32) (_ : Unit) => r = (if tp + 20 ≤ 900 then nI (tp + 20) else -1)) (fun _ t => ∃ (k1 : Nat) (g : Nat → Int32), pu_E (dC, dI) [(xa, .inr (8, [.ref xtape, .int (nI k1), .ref xread, .ref au, .ref xdraft, .ref xhist, .ref xshown, .int xs0, .ref xtried, .ref xsoon, .int xs1, .ref xrem, .ref xtim, .ref xplay, .ref xbeg, .ref xsam])), (xtape, .inl (kt, 900, .inl g))] [(kt, .int)] (va_A ([(xa, .inr (8, [.ref xtape, .int (nI tp), .ref xread, .ref au, .ref xdraft, .ref xhist, .ref xshown, .int xs0, .ref xtried, .ref xsoon, .int xs1, .ref xrem, .ref xtim, .ref xplay, .ref xbeg, .ref xsam])), (xtape, .inl (kt, 900, .inl ft))]) sz) t ∧ k1 = (if tp + 20 ≤ 900 then tp + 20 else tp)) (va_A ([(xa, .inr (8, [.ref xtape, .int (nI tp), .ref xread, .ref au, .ref xdraft, .ref xhist, .ref xshown, .int xs0, .ref xtried, .ref xsoon, .int xs1, .ref xrem, .ref xtim, .ref xplay, .ref xbeg, .ref xsam])), (xtape, .inl (kt, 900, .inl ft))]) sz)) 0 0 (va_A ([(xa, .inr (8, [.ref xtape, .int (nI tp), .ref xread, .ref au, .ref xdraft, .ref xhist, .ref xshown, .int xs0, .ref xtried, .ref xsoon, .int xs1, .ref xrem, .ref xtim, .ref xplay, .ref xbeg, .ref xsam])), (xtape, .inl (kt, 900, .inl ft))]) sz) := by
  refine Met.ofW (cc := cX8_feed) (maxL := 6) (ret := (some .int)) (by decide) rfl ?_
  intro p e s m args below meth c s₁ B hml hv
  obtain ⟨rfl, rfl, hP, hK, hD0⟩ := hv
  have hx := B.exec
  have hb := B.bytes
  have hr := B.returns
  have hts := atoms_spec (ws := vs_X8_feed) B.pre
  have v_1 := hts (.fieldLink RX8 79 "ClockReach" "taped" "I") (List.mem_of_getElem? (i := 1) rfl)
  have hown : s.vm.findClass RX8 = some m.cls := findClass_of_methodNamed B.named
  have hlocks := B.notSynchronized
  have hiX8 : ∀ w ∈ wsX80, w ∈ vs_X8_feed := fun _ h => List.mem_cons_of_mem _ (List.mem_append_right _ h)
  have hD := hD0.self (sz := s.heap.size)
  generalize hAe : va_A ([(xa, .inr (8, [.ref xtape, .int (nI tp), .ref xread, .ref au, .ref xdraft, .ref xhist, .ref xshown, .int xs0, .ref xtried, .ref xsoon, .int xs1, .ref xrem, .ref xtim, .ref xplay, .ref xbeg, .ref xsam])), (xtape, .inl (kt, 900, .inl ft))]) s.heap.size = A at hD ⊢
  have hA : ∀ q : Nat, s.heap.size ≤ q → A q := fun q h => by rw [← hAe]; exact Or.inr h
  have hS : va_S A s.heap s.heap [] := va_S.rf
  have hl := lv_entry ([.ref xa, .int p0, .int p1, .int p2, .int p3, .int p4]) (n := 6) (Nat.le_of_ble_eq_true rfl)
  rw [lg_entry_eq]
  generalize (lg_sl ([.ref xa, .int p0, .int p1, .int p2, .int p3, .int p4]) ++ List.replicate (6 - (lg_sl ([.ref xa, .int p0, .int p1, .int p2, .int p3, .int p4])).length) Slot.unset).toArray = ls at hl ⊢
  have hl : lv_has ls 6 [(0, .ref xa), (1, .int p0), (2, .int p1), (3, .int p2), (4, .int p3), (5, .int p4)] := hl
  refine lv_aload_n hx hb dX8_feed_0 rfl (lv_at hl 0 rfl) ?_
  refine va_get (D := (dC, dI)) (ci := 8) (v := .int (nI tp)) (C := RX8) (T := TX8) (N := 16) hx hb hts hiX8 hown hK hP 0 rfl rfl 1 (by decide) v_1 (fun _ h9 => h9) rfl dX8_feed_1 ?_
  refine lv_bipush (v := 20) hx hb dX8_feed_4 (by decide) ?_
  refine lv_iadd hx hb dX8_feed_6 ?_
  refine lv_topi (fun y_1 ey_1 => ?_)
  obtain rfl : y_1 = (nI (tp + 20)) := ey_1.trans (nI_add tp 20)
  refine lv_sipush (v := 900) hx hb dX8_feed_7 (by decide) ?_
  refine lv_icmp_le (tgt := 15) hx hb dX8_feed_10 (by decide) (fun c_2 => ?_) (fun c_2 => ?_)
  · have c_2 : (tp + 20) ≤ 900 := (nI_leI (a := (tp + 20)) (b := 900) (by omega) (by omega)).mp c_2
    refine lv_aload_n hx hb dX8_feed_15 rfl (lv_at hl 0 rfl) ?_
    refine lv_iload_n hx hb dX8_feed_16 rfl (lv_at hl 1 rfl) ?_
    have hFc := va_free (wc := [(xa, .inr (8, [.ref xtape, .int (nI tp), .ref xread, .ref au, .ref xdraft, .ref xhist, .ref xshown, .int xs0, .ref xtried, .ref xsoon, .int xs1, .ref xrem, .ref xtim, .ref xplay, .ref xbeg, .ref xsam])), (xtape, .inl (kt, 900, .inl ft))]) hD hS hA [0, 1] rfl
    refine va_callv (va_runV (As := [.int p0]) (rest := []) ⟨hx, hb, hml, hown, hts⟩ (c_X8_putBytes l dC dI _ xa xtape xread xdraft xhist xshown xtried xsoon xrem xtim xplay xbeg xsam tp xs0 xs1 au kt ft (by omega) p0) (cwV 1 hts g_X8_feed_X8_putBytes rfl rfl rfl (by decide +kernel) ⟨Nat.le_of_ble_eq_true rfl, Nat.le_of_ble_eq_true rfl⟩) ⟨pu_bl, va_recv hK hP (ci := 8) (q0 := 0) rfl rfl, pu_in hP hK hD⟩ rfl rfl hl.1 rfl (lv_room (Nat.le_of_ble_eq_true rfl)) dX8_feed_17 ⟨Nat.le_of_ble_eq_true rfl, Nat.le_of_ble_eq_true rfl⟩) hS (fun q _ h => hFc q h) hFc (fun u t H1 locs ht hvm hw hB hz1 hk1 hS => ?_)
    obtain ⟨g_4, ⟨hP1, hK1, hD1⟩⟩ := hB
    rw [ht] at hP1
    have hK1 := va_K.moved hvm.symm hK1
    obtain ⟨hP, hD⟩ := va_join (wr := []) (w1 := [(xa, .inr (8, [.ref xtape, .int (nI (tp + 4)), .ref xread, .ref au, .ref xdraft, .ref xhist, .ref xshown, .int xs0, .ref xtried, .ref xsoon, .int xs1, .ref xrem, .ref xtim, .ref xplay, .ref xbeg, .ref xsam])), (xtape, .inl (kt, 900, .inl g_4))]) hP hD [0, 1] [] rfl rfl (by decide) (by decide) hk1 hFc hP1 hD1
    have hK := hK.app hK1
    clear hk1 hz1 ht hvm
    generalize H1 = H at hP hS ⊢
    have hP : va_P (dC, dI) vwCl [(xa, .inr (8, [.ref xtape, .int (nI (tp + 4)), .ref xread, .ref au, .ref xdraft, .ref xhist, .ref xshown, .int xs0, .ref xtried, .ref xsoon, .int xs1, .ref xrem, .ref xtim, .ref xplay, .ref xbeg, .ref xsam])), (xtape, .inl (kt, 900, .inl g_4))] H := hP
    have hD : va_D A [(xa, .inr (8, [.ref xtape, .int (nI (tp + 4)), .ref xread, .ref au, .ref xdraft, .ref xhist, .ref xshown, .int xs0, .ref xtried, .ref xsoon, .int xs1, .ref xrem, .ref xtim, .ref xplay, .ref xbeg, .ref xsam])), (xtape, .inl (kt, 900, .inl g_4))] := hD
    have hK : va_K (dC, dI) vwCl [(kt, .int), (kt, .int)] s := hK
    refine lv_aload_n hx hb dX8_feed_20 rfl (lv_at hl 0 rfl) ?_
    refine lv_iload_n hx hb dX8_feed_21 rfl (lv_at hl 2 rfl) ?_
    have hFc := va_free (wc := [(xa, .inr (8, [.ref xtape, .int (nI (tp + 4)), .ref xread, .ref au, .ref xdraft, .ref xhist, .ref xshown, .int xs0, .ref xtried, .ref xsoon, .int xs1, .ref xrem, .ref xtim, .ref xplay, .ref xbeg, .ref xsam])), (xtape, .inl (kt, 900, .inl g_4))]) hD hS hA [0, 1] rfl
    refine va_callv (va_runV (As := [.int p1]) (rest := []) ⟨hx, hb, hml, hown, hts⟩ (c_X8_putBytes l dC dI _ xa xtape xread xdraft xhist xshown xtried xsoon xrem xtim xplay xbeg xsam (tp + 4) xs0 xs1 au kt g_4 (by omega) p1) (cwV 1 hts g_X8_feed_X8_putBytes rfl rfl rfl (by decide +kernel) ⟨Nat.le_of_ble_eq_true rfl, Nat.le_of_ble_eq_true rfl⟩) ⟨pu_bl, va_recv hK hP (ci := 8) (q0 := 0) rfl rfl, pu_in hP (hK.sub [0] rfl) hD⟩ rfl rfl hl.1 rfl (lv_room (Nat.le_of_ble_eq_true rfl)) dX8_feed_22 ⟨Nat.le_of_ble_eq_true rfl, Nat.le_of_ble_eq_true rfl⟩) hS (fun q _ h => hFc q h) hFc (fun u t H1 locs ht hvm hw hB hz1 hk1 hS => ?_)
    obtain ⟨g_6, ⟨hP1, hK1, hD1⟩⟩ := hB
    rw [ht] at hP1
    have hK1 := va_K.moved hvm.symm hK1
    obtain ⟨hP, hD⟩ := va_join (wr := []) (w1 := [(xa, .inr (8, [.ref xtape, .int (nI ((tp + 4) + 4)), .ref xread, .ref au, .ref xdraft, .ref xhist, .ref xshown, .int xs0, .ref xtried, .ref xsoon, .int xs1, .ref xrem, .ref xtim, .ref xplay, .ref xbeg, .ref xsam])), (xtape, .inl (kt, 900, .inl g_6))]) hP hD [0, 1] [] rfl rfl (by decide) (by decide) hk1 hFc hP1 hD1
    have hK := hK.app hK1
    clear hk1 hz1 ht hvm
    generalize H1 = H at hP hS ⊢
    have hP : va_P (dC, dI) vwCl [(xa, .inr (8, [.ref xtape, .int (nI ((tp + 4) + 4)), .ref xread, .ref au, .ref xdraft, .ref xhist, .ref xshown, .int xs0, .ref xtried, .ref xsoon, .int xs1, .ref xrem, .ref xtim, .ref xplay, .ref xbeg, .ref xsam])), (xtape, .inl (kt, 900, .inl g_6))] H := hP
    have hD : va_D A [(xa, .inr (8, [.ref xtape, .int (nI ((tp + 4) + 4)), .ref xread, .ref au, .ref xdraft, .ref xhist, .ref xshown, .int xs0, .ref xtried, .ref xsoon, .int xs1, .ref xrem, .ref xtim, .ref xplay, .ref xbeg, .ref xsam])), (xtape, .inl (kt, 900, .inl g_6))] := hD
    have hK : va_K (dC, dI) vwCl [(kt, .int), (kt, .int), (kt, .int)] s := hK
    refine lv_aload_n hx hb dX8_feed_25 rfl (lv_at hl 0 rfl) ?_
    refine lv_iload_n hx hb dX8_feed_26 rfl (lv_at hl 3 rfl) ?_
    have hFc := va_free (wc := [(xa, .inr (8, [.ref xtape, .int (nI ((tp + 4) + 4)), .ref xread, .ref au, .ref xdraft, .ref xhist, .ref xshown, .int xs0, .ref xtried, .ref xsoon, .int xs1, .ref xrem, .ref xtim, .ref xplay, .ref xbeg, .ref xsam])), (xtape, .inl (kt, 900, .inl g_6))]) hD hS hA [0, 1] rfl
    refine va_callv (va_runV (As := [.int p2]) (rest := []) ⟨hx, hb, hml, hown, hts⟩ (c_X8_putBytes l dC dI _ xa xtape xread xdraft xhist xshown xtried xsoon xrem xtim xplay xbeg xsam ((tp + 4) + 4) xs0 xs1 au kt g_6 (by omega) p2) (cwV 1 hts g_X8_feed_X8_putBytes rfl rfl rfl (by decide +kernel) ⟨Nat.le_of_ble_eq_true rfl, Nat.le_of_ble_eq_true rfl⟩) ⟨pu_bl, va_recv hK hP (ci := 8) (q0 := 0) rfl rfl, pu_in hP (hK.sub [0] rfl) hD⟩ rfl rfl hl.1 rfl (lv_room (Nat.le_of_ble_eq_true rfl)) dX8_feed_27 ⟨Nat.le_of_ble_eq_true rfl, Nat.le_of_ble_eq_true rfl⟩) hS (fun q _ h => hFc q h) hFc (fun u t H1 locs ht hvm hw hB hz1 hk1 hS => ?_)
    obtain ⟨g_8, ⟨hP1, hK1, hD1⟩⟩ := hB
    rw [ht] at hP1
    have hK1 := va_K.moved hvm.symm hK1
    obtain ⟨hP, hD⟩ := va_join (wr := []) (w1 := [(xa, .inr (8, [.ref xtape, .int (nI (((tp + 4) + 4) + 4)), .ref xread, .ref au, .ref xdraft, .ref xhist, .ref xshown, .int xs0, .ref xtried, .ref xsoon, .int xs1, .ref xrem, .ref xtim, .ref xplay, .ref xbeg, .ref xsam])), (xtape, .inl (kt, 900, .inl g_8))]) hP hD [0, 1] [] rfl rfl (by decide) (by decide) hk1 hFc hP1 hD1
    have hK := hK.app hK1
    clear hk1 hz1 ht hvm
    generalize H1 = H at hP hS ⊢
    have hP : va_P (dC, dI) vwCl [(xa, .inr (8, [.ref xtape, .int (nI (((tp + 4) + 4) + 4)), .ref xread, .ref au, .ref xdraft, .ref xhist, .ref xshown, .int xs0, .ref xtried, .ref xsoon, .int xs1, .ref xrem, .ref xtim, .ref xplay, .ref xbeg, .ref xsam])), (xtape, .inl (kt, 900, .inl g_8))] H := hP
    have hD : va_D A [(xa, .inr (8, [.ref xtape, .int (nI (((tp + 4) + 4) + 4)), .ref xread, .ref au, .ref xdraft, .ref xhist, .ref xshown, .int xs0, .ref xtried, .ref xsoon, .int xs1, .ref xrem, .ref xtim, .ref xplay, .ref xbeg, .ref xsam])), (xtape, .inl (kt, 900, .inl g_8))] := hD
    have hK : va_K (dC, dI) vwCl [(kt, .int), (kt, .int), (kt, .int), (kt, .int)] s := hK
    refine lv_aload_n hx hb dX8_feed_30 rfl (lv_at hl 0 rfl) ?_
    refine lv_iload hx hb dX8_feed_31 (lv_at hl 4 rfl) ?_
    have hFc := va_free (wc := [(xa, .inr (8, [.ref xtape, .int (nI (((tp + 4) + 4) + 4)), .ref xread, .ref au, .ref xdraft, .ref xhist, .ref xshown, .int xs0, .ref xtried, .ref xsoon, .int xs1, .ref xrem, .ref xtim, .ref xplay, .ref xbeg, .ref xsam])), (xtape, .inl (kt, 900, .inl g_8))]) hD hS hA [0, 1] rfl
    refine va_callv (va_runV (As := [.int p3]) (rest := []) ⟨hx, hb, hml, hown, hts⟩ (c_X8_putBytes l dC dI _ xa xtape xread xdraft xhist xshown xtried xsoon xrem xtim xplay xbeg xsam (((tp + 4) + 4) + 4) xs0 xs1 au kt g_8 (by omega) p3) (cwV 1 hts g_X8_feed_X8_putBytes rfl rfl rfl (by decide +kernel) ⟨Nat.le_of_ble_eq_true rfl, Nat.le_of_ble_eq_true rfl⟩) ⟨pu_bl, va_recv hK hP (ci := 8) (q0 := 0) rfl rfl, pu_in hP (hK.sub [0] rfl) hD⟩ rfl rfl hl.1 rfl (lv_room (Nat.le_of_ble_eq_true rfl)) dX8_feed_33 ⟨Nat.le_of_ble_eq_true rfl, Nat.le_of_ble_eq_true rfl⟩) hS (fun q _ h => hFc q h) hFc (fun u t H1 locs ht hvm hw hB hz1 hk1 hS => ?_)
    obtain ⟨g_10, ⟨hP1, hK1, hD1⟩⟩ := hB
    rw [ht] at hP1
    have hK1 := va_K.moved hvm.symm hK1
    obtain ⟨hP, hD⟩ := va_join (wr := []) (w1 := [(xa, .inr (8, [.ref xtape, .int (nI ((((tp + 4) + 4) + 4) + 4)), .ref xread, .ref au, .ref xdraft, .ref xhist, .ref xshown, .int xs0, .ref xtried, .ref xsoon, .int xs1, .ref xrem, .ref xtim, .ref xplay, .ref xbeg, .ref xsam])), (xtape, .inl (kt, 900, .inl g_10))]) hP hD [0, 1] [] rfl rfl (by decide) (by decide) hk1 hFc hP1 hD1
    have hK := hK.app hK1
    clear hk1 hz1 ht hvm
    generalize H1 = H at hP hS ⊢
    have hP : va_P (dC, dI) vwCl [(xa, .inr (8, [.ref xtape, .int (nI ((((tp + 4) + 4) + 4) + 4)), .ref xread, .ref au, .ref xdraft, .ref xhist, .ref xshown, .int xs0, .ref xtried, .ref xsoon, .int xs1, .ref xrem, .ref xtim, .ref xplay, .ref xbeg, .ref xsam])), (xtape, .inl (kt, 900, .inl g_10))] H := hP
    have hD : va_D A [(xa, .inr (8, [.ref xtape, .int (nI ((((tp + 4) + 4) + 4) + 4)), .ref xread, .ref au, .ref xdraft, .ref xhist, .ref xshown, .int xs0, .ref xtried, .ref xsoon, .int xs1, .ref xrem, .ref xtim, .ref xplay, .ref xbeg, .ref xsam])), (xtape, .inl (kt, 900, .inl g_10))] := hD
    have hK : va_K (dC, dI) vwCl [(kt, .int), (kt, .int), (kt, .int), (kt, .int), (kt, .int)] s := hK
    refine lv_aload_n hx hb dX8_feed_36 rfl (lv_at hl 0 rfl) ?_
    refine lv_iload hx hb dX8_feed_37 (lv_at hl 5 rfl) ?_
    have hFc := va_free (wc := [(xa, .inr (8, [.ref xtape, .int (nI ((((tp + 4) + 4) + 4) + 4)), .ref xread, .ref au, .ref xdraft, .ref xhist, .ref xshown, .int xs0, .ref xtried, .ref xsoon, .int xs1, .ref xrem, .ref xtim, .ref xplay, .ref xbeg, .ref xsam])), (xtape, .inl (kt, 900, .inl g_10))]) hD hS hA [0, 1] rfl
    refine va_callv (va_runV (As := [.int p4]) (rest := []) ⟨hx, hb, hml, hown, hts⟩ (c_X8_putBytes l dC dI _ xa xtape xread xdraft xhist xshown xtried xsoon xrem xtim xplay xbeg xsam ((((tp + 4) + 4) + 4) + 4) xs0 xs1 au kt g_10 (by omega) p4) (cwV 1 hts g_X8_feed_X8_putBytes rfl rfl rfl (by decide +kernel) ⟨Nat.le_of_ble_eq_true rfl, Nat.le_of_ble_eq_true rfl⟩) ⟨pu_bl, va_recv hK hP (ci := 8) (q0 := 0) rfl rfl, pu_in hP (hK.sub [0] rfl) hD⟩ rfl rfl hl.1 rfl (lv_room (Nat.le_of_ble_eq_true rfl)) dX8_feed_39 ⟨Nat.le_of_ble_eq_true rfl, Nat.le_of_ble_eq_true rfl⟩) hS (fun q _ h => hFc q h) hFc (fun u t H1 locs ht hvm hw hB hz1 hk1 hS => ?_)
    obtain ⟨g_12, ⟨hP1, hK1, hD1⟩⟩ := hB
    rw [ht] at hP1
    have hK1 := va_K.moved hvm.symm hK1
    obtain ⟨hP, hD⟩ := va_join (wr := []) (w1 := [(xa, .inr (8, [.ref xtape, .int (nI (((((tp + 4) + 4) + 4) + 4) + 4)), .ref xread, .ref au, .ref xdraft, .ref xhist, .ref xshown, .int xs0, .ref xtried, .ref xsoon, .int xs1, .ref xrem, .ref xtim, .ref xplay, .ref xbeg, .ref xsam])), (xtape, .inl (kt, 900, .inl g_12))]) hP hD [0, 1] [] rfl rfl (by decide) (by decide) hk1 hFc hP1 hD1
    have hK := hK.app hK1
    clear hk1 hz1 ht hvm
    generalize H1 = H at hP hS ⊢
    have hP : va_P (dC, dI) vwCl [(xa, .inr (8, [.ref xtape, .int (nI (((((tp + 4) + 4) + 4) + 4) + 4)), .ref xread, .ref au, .ref xdraft, .ref xhist, .ref xshown, .int xs0, .ref xtried, .ref xsoon, .int xs1, .ref xrem, .ref xtim, .ref xplay, .ref xbeg, .ref xsam])), (xtape, .inl (kt, 900, .inl g_12))] H := hP
    have hD : va_D A [(xa, .inr (8, [.ref xtape, .int (nI (((((tp + 4) + 4) + 4) + 4) + 4)), .ref xread, .ref au, .ref xdraft, .ref xhist, .ref xshown, .int xs0, .ref xtried, .ref xsoon, .int xs1, .ref xrem, .ref xtim, .ref xplay, .ref xbeg, .ref xsam])), (xtape, .inl (kt, 900, .inl g_12))] := hD
    have hK : va_K (dC, dI) vwCl [(kt, .int), (kt, .int), (kt, .int), (kt, .int), (kt, .int), (kt, .int)] s := hK
    refine lv_aload_n hx hb dX8_feed_42 rfl (lv_at hl 0 rfl) ?_
    refine va_get (D := (dC, dI)) (ci := 8) (v := .int (nI (((((tp + 4) + 4) + 4) + 4) + 4))) (C := RX8) (T := TX8) (N := 16) hx hb hts hiX8 hown hK hP 0 rfl rfl 1 (by decide) v_1 (fun _ h9 => h9) rfl dX8_feed_43 ?_
    have hP9 := hP.sub (ws' := [(xa, .inr (8, [.ref xtape, .int (nI (((((tp + 4) + 4) + 4) + 4) + 4)), .ref xread, .ref au, .ref xdraft, .ref xhist, .ref xshown, .int xs0, .ref xtried, .ref xsoon, .int xs1, .ref xrem, .ref xtim, .ref xplay, .ref xbeg, .ref xsam])), (xtape, .inl (kt, 900, .inl g_12))]) [0, 1] rfl
    have hD9 := hD.sub (ws' := [(xa, .inr (8, [.ref xtape, .int (nI (((((tp + 4) + 4) + 4) + 4) + 4)), .ref xread, .ref au, .ref xdraft, .ref xhist, .ref xshown, .int xs0, .ref xtried, .ref xsoon, .int xs1, .ref xrem, .ref xtim, .ref xplay, .ref xbeg, .ref xsam])), (xtape, .inl (kt, 900, .inl g_12))]) [0, 1] (by decide) rfl
    have hK9 := hK.sub (tys' := [(kt, .int)]) [0] rfl
    exact W.iret (v := (nI (((((tp + 4) + 4) + 4) + 4) + 4))) hx hb hr (fun t ht hW => ⟨⟨(nI (((((tp + 4) + 4) + 4) + 4) + 4)), (), rfl, by rw [if_pos (by omega)], ⟨(((((tp + 4) + 4) + 4) + 4) + 4), g_12, ⟨by rw [ht]; exact hP9, va_K.moved hW.alike hK9, hD9⟩, by rw [if_pos (by omega)]⟩⟩, hS.F ht⟩) hS.2.2 dX8_feed_46
  · have c_2 : ¬ (tp + 20) ≤ 900 := fun z => c_2 ((nI_leI (a := (tp + 20)) (b := 900) (by omega) (by omega)).mpr z)
    refine lv_iconst (v := (-1)) hx hb dX8_feed_13 (by decide) ?_
    have hP9 := hP.sub (ws' := [(xa, .inr (8, [.ref xtape, .int (nI tp), .ref xread, .ref au, .ref xdraft, .ref xhist, .ref xshown, .int xs0, .ref xtried, .ref xsoon, .int xs1, .ref xrem, .ref xtim, .ref xplay, .ref xbeg, .ref xsam])), (xtape, .inl (kt, 900, .inl ft))]) [0, 1] rfl
    have hD9 := hD.sub (ws' := [(xa, .inr (8, [.ref xtape, .int (nI tp), .ref xread, .ref au, .ref xdraft, .ref xhist, .ref xshown, .int xs0, .ref xtried, .ref xsoon, .int xs1, .ref xrem, .ref xtim, .ref xplay, .ref xbeg, .ref xsam])), (xtape, .inl (kt, 900, .inl ft))]) [0, 1] (by decide) rfl
    have hK9 := hK.sub (tys' := [(kt, .int)]) [0] rfl
    exact W.iret (v := (-1)) hx hb hr (fun t ht hW => ⟨⟨(-1), (), rfl, (if_neg (by omega)).symm, ⟨tp, ft, ⟨by rw [ht]; exact hP9, va_K.moved hW.alike hK9, hD9⟩, (if_neg (by omega)).symm⟩⟩, hS.F ht⟩) hS.2.2 dX8_feed_14
