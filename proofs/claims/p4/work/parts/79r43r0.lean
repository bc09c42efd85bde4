theorem dX9_clockCalled_0 : decode cX9_clockCalled 0 = .ok (.iconst 0, 1) := by decide +kernel
theorem dX9_clockCalled_1 : decode cX9_clockCalled 1 = .ok (.istore_n 1, 1) := by decide +kernel
theorem dX9_clockCalled_2 : decode cX9_clockCalled 2 = .ok (.iload_n 1, 1) := by decide +kernel
theorem dX9_clockCalled_3 : decode cX9_clockCalled 3 = .ok (.aload_n 0, 1) := by decide +kernel
theorem dX9_clockCalled_4 : decode cX9_clockCalled 4 = .ok (.getfield 43, 3) := by decide +kernel
theorem dX9_clockCalled_7 : decode cX9_clockCalled 7 = .ok (.aload_n 0, 1) := by decide +kernel
theorem dX9_clockCalled_8 : decode cX9_clockCalled 8 = .ok (.getfield 203, 3) := by decide +kernel
theorem dX9_clockCalled_11 : decode cX9_clockCalled 11 = .ok (.iaload, 1) := by decide +kernel
theorem dX9_clockCalled_12 : decode cX9_clockCalled 12 = .ok (.if_icmp .ge 31, 3) := by decide +kernel
theorem dX9_clockCalled_15 : decode cX9_clockCalled 15 = .ok (.aload_n 0, 1) := by decide +kernel
theorem dX9_clockCalled_16 : decode cX9_clockCalled 16 = .ok (.getfield 7, 3) := by decide +kernel
theorem dX9_clockCalled_19 : decode cX9_clockCalled 19 = .ok (.iconst 3, 1) := by decide +kernel
theorem dX9_clockCalled_20 : decode cX9_clockCalled 20 = .ok (.aload_n 0, 1) := by decide +kernel
theorem dX9_clockCalled_21 : decode cX9_clockCalled 21 = .ok (.getfield 203, 3) := by decide +kernel
theorem dX9_clockCalled_24 : decode cX9_clockCalled 24 = .ok (.imul, 1) := by decide +kernel
theorem dX9_clockCalled_25 : decode cX9_clockCalled 25 = .ok (.iload_n 1, 1) := by decide +kernel
theorem dX9_clockCalled_26 : decode cX9_clockCalled 26 = .ok (.iadd, 1) := by decide +kernel
theorem dX9_clockCalled_27 : decode cX9_clockCalled 27 = .ok (.iaload, 1) := by decide +kernel
theorem dX9_clockCalled_28 : decode cX9_clockCalled 28 = .ok (.aload_n 0, 1) := by decide +kernel
theorem dX9_clockCalled_29 : decode cX9_clockCalled 29 = .ok (.getfield 169, 3) := by decide +kernel
theorem dX9_clockCalled_32 : decode cX9_clockCalled 32 = .ok (.if_icmp .ne 5, 3) := by decide +kernel
theorem dX9_clockCalled_35 : decode cX9_clockCalled 35 = .ok (.iload_n 1, 1) := by decide +kernel
theorem dX9_clockCalled_36 : decode cX9_clockCalled 36 = .ok (.ireturn, 1) := by decide +kernel
theorem dX9_clockCalled_37 : decode cX9_clockCalled 37 = .ok (.iinc 1 1, 3) := by decide +kernel
theorem dX9_clockCalled_40 : decode cX9_clockCalled 40 = .ok (.goto (-38), 3) := by decide +kernel
theorem dX9_clockCalled_43 : decode cX9_clockCalled 43 = .ok (.iconst (-1), 1) := by decide +kernel
theorem dX9_clockCalled_44 : decode cX9_clockCalled 44 = .ok (.ireturn, 1) := by decide +kernel
abbrev vs_M_clockCalled_0 : List Cond := .code yX9_clockCalled cX9_clockCalled 2 (some .int) :: VM
set_option maxHeartbeats 4000000 in
set_option maxRecDepth 100000 in
theorem c_M_clockCalled_0 (l : Launch) (dC : Nat → ClassId) (dI : Nat → Nat → Nat) (sz : Nat) (ad : Nat → Nat) (ck : Nat → ClassId) (x0 : Int32) (x16 : Nat) (x18 : Nat) (x19 : Nat) (x20 : Int32) (x21 : Nat) (x22 : Nat) (x23 : Int32) (x24 : Int32) (x25 : Int32) (x26 : Nat) (x27 : Int32) (x29 : Nat) (x30 : Nat) (x33 : Nat) (x45 : Int32) (x46 : Nat) (x52 : Nat) (x53 : Nat) (x61 : Nat) (x62 : Nat) (x63 : Nat) (x65 : Nat) (x66 : Int32) (f1 : Nat → Int32) (f2 : Nat → Int32) (f3 : Nat → Int32) (q4 : Nat → Nat) (q5 : Nat → Nat) (q6 : Nat → Nat) (q7 : Nat → Nat) (f8 : Nat → Int32) (q9 : Nat → Nat) (q10 : Nat → Nat) (f11 : Nat → Int32) (m12_0 m12_1 : Nat) (m13_0 m13_1 : Nat) (m14_0 m14_1 : Nat) (m15_0 m15_1 : Nat) (f17 : Nat → Int32) (q31 : Nat → Nat) (f32 : Nat → Int32) (f34 : Nat → Int32) (f35 : Nat → Int32) (f36 : Nat → Int32) (f37 : Nat → Int32) (q38 : Nat → Nat) (f39 : Nat → Int32) (f40 : Nat → Int32) (f41 : Nat → Int32) (m42_0 m42_1 : Nat) (f43 : Nat → Int32) (f44 : Nat → Int32) (f47 : Nat → Int32) (f48 : Nat → Int32) (f49 : Nat → Int32) (f50 : Nat → Int32) (f51 : Nat → Int32) (q54 : Nat → Nat) (q55 : Nat → Nat) (q56 : Nat → Nat) (f57 : Nat → Int32) (q58 : Nat → Nat) (f59 : Nat → Int32) (f60 : Nat → Int32) (f64 : Nat → Int32) (hx16 : x16 ≤ 1) (hx18 : x18 ≤ 900) (hx19 : x19 ≤ 900) (hx21 : x21 ≤ 900) (hx22 : x22 ≤ 4) (hx26 : x26 ≤ 6) (hx29 : x29 ≤ 1) (hx30 : x30 ≤ 1) (hx33 : x33 ≤ 20) (hx46 : x46 ≤ 5) (hx52 : x52 ≤ 2400) (hx53 : x53 ≤ 119) (hx61 : x61 ≤ 119) (hx62 : x62 ≤ 2000) (hx63 : x63 ≤ 1) (hx65 : x65 ≤ 7) (hm12_0 : m12_0 ≤ 3) (hm12_1 : m12_1 ≤ 3) (hm13_0 : m13_0 ≤ 8) (hm13_1 : m13_1 ≤ 8) (hm14_0 : m14_0 ≤ 14) (hm14_1 : m14_1 ≤ 14) (hm15_0 : m15_0 ≤ 8) (hm15_1 : m15_1 ≤ 8) (hm42_0 : m42_0 ≤ 120) (hm42_1 : m42_1 ≤ 400) : Met l yX9_clockCalled vs_M_clockCalled_0 ({ frames := 0, cells := 0, slots := 0, locals := 0 }) (va_Pc [.ref (ad 0)] (pu_B (dC, dI) (mo_w ad ck x0 (nI x16) (nI x18) (nI x19) x20 (nI x21) (nI x22) x23 x24 x25 (nI x26) x27 0 (nI x29) (nI x30) (nI x33) x45 (nI x46) (nI x52) (nI x53) (nI x61) (nI x62) (nI x63) (nI x65) x66 f1 f2 f3 (bN 3 q4) (bN 7 q5) (bN 7 q6) (bN 4 q7) f8 (bN 2 q9) (bH q10) f11 (b2 m12_0 m12_1) (b2 m13_0 m13_1) (b2 m14_0 m14_1) (b2m m15_0 m15_1) f17 (bA 159 q31) f32 f34 f35 f36 f37 (bN 7 q38) f39 f40 f41 (b2 m42_0 m42_1) f43 f44 f47 f48 f49 f50 f51 (bN 13 q54) (bN 120 q55) (bN 120 q56) f57 (bN 120 q58) f59 f60 f64) (mo_t ck) sz)) (va_Qi (fun (r : Int32) (_ : Unit) => r = -1 ∨ ∃ v : Nat, v ≤ 2 ∧ r = nI v) (fun _ _ => True) (va_A [] sz)) 0 0 (va_A [] sz) := by
  refine Met.ofW (cc := cX9_clockCalled) (maxL := 2) (ret := (some .int)) (by decide) rfl ?_
  intro p e s m args below meth c s₁ B hml hv
  obtain ⟨rfl, rfl, hP, hK, hD0⟩ := hv
  have hx := B.exec
  have hb := B.bytes
  have hr := B.returns
  have hts := atoms_spec (ws := vs_M_clockCalled_0) B.pre
  have v_1 := hts (.fieldLink RX9 43 "ClockReachModel" "clockMany" "[I") (List.mem_cons_of_mem _ vm_21)
  have v_2 := hts (.fieldLink RX9 203 "ClockReachModel" "rb" "I") (List.mem_cons_of_mem _ vm_82)
  have v_3 := hts (.fieldLink RX9 7 "ClockReachModel" "clockName" "[I") (List.mem_cons_of_mem _ vm_83)
  have v_4 := hts (.fieldLink RX9 169 "ClockReachModel" "value" "I") (List.mem_cons_of_mem _ vm_37)
  have hown : s.vm.findClass RX9 = some m.cls := findClass_of_methodNamed B.named
  have hlocks := B.notSynchronized
  have hiX9 : ∀ w ∈ wsX90, w ∈ vs_M_clockCalled_0 := fun _ h => List.mem_cons_of_mem _ (List.mem_append_right _ h)
  have hD := hD0
  have hA : ∀ q : Nat, s.heap.size ≤ q → va_A [] s.heap.size q := fun _ h => Or.inr h
  have hS : va_S (va_A [] s.heap.size) s.heap s.heap [] := va_S.rf
  have hl := lv_entry ([.ref (ad 0)]) (n := 2) (Nat.le_of_ble_eq_true rfl)
  rw [lg_entry_eq]
  generalize (lg_sl ([.ref (ad 0)]) ++ List.replicate (2 - (lg_sl ([.ref (ad 0)])).length) Slot.unset).toArray = ls at hl ⊢
  have hl : lv_has ls 2 [(0, .ref (ad 0))] := hl
  refine lv_iconst (v := 0) hx hb dX9_clockCalled_0 (by decide) ?_
  refine lv_istore_n (lv' := [(1, .int 0), (0, .ref (ad 0))]) hx hb dX9_clockCalled_1 rfl hl (by decide) rfl (fun ls hl => ?_)
  refine pu_while (fun nn H locs ls => ∃ (g_2 : Nat), nn = 3 - g_2 ∧ g_2 ≤ 3 ∧ va_P (dC, dI) vwCl (mo_w ad ck x0 (nI x16) (nI x18) (nI x19) x20 (nI x21) (nI x22) x23 x24 x25 (nI x26) x27 0 (nI x29) (nI x30) (nI x33) x45 (nI x46) (nI x52) (nI x53) (nI x61) (nI x62) (nI x63) (nI x65) x66 f1 f2 f3 (bN 3 q4) (bN 7 q5) (bN 7 q6) (bN 4 q7) f8 (bN 2 q9) (bH q10) f11 (b2 m12_0 m12_1) (b2 m13_0 m13_1) (b2 m14_0 m14_1) (b2m m15_0 m15_1) f17 (bA 159 q31) f32 f34 f35 f36 f37 (bN 7 q38) f39 f40 f41 (b2 m42_0 m42_1) f43 f44 f47 f48 f49 f50 f51 (bN 13 q54) (bN 120 q55) (bN 120 q56) f57 (bN 120 q58) f59 f60 f64) H ∧ va_D (fun _ => True) (mo_w ad ck x0 (nI x16) (nI x18) (nI x19) x20 (nI x21) (nI x22) x23 x24 x25 (nI x26) x27 0 (nI x29) (nI x30) (nI x33) x45 (nI x46) (nI x52) (nI x53) (nI x61) (nI x62) (nI x63) (nI x65) x66 f1 f2 f3 (bN 3 q4) (bN 7 q5) (bN 7 q6) (bN 4 q7) f8 (bN 2 q9) (bH q10) f11 (b2 m12_0 m12_1) (b2 m13_0 m13_1) (b2 m14_0 m14_1) (b2m m15_0 m15_1) f17 (bA 159 q31) f32 f34 f35 f36 f37 (bN 7 q38) f39 f40 f41 (b2 m42_0 m42_1) f43 f44 f47 f48 f49 f50 f51 (bN 13 q54) (bN 120 q55) (bN 120 q56) f57 (bN 120 q58) f59 f60 f64) ∧ va_S (va_A [] s.heap.size) s.heap H locs ∧ lv_has ls 2 [(0, .ref (ad 0)), (1, .int (nI g_2))]) 2 ?_ _ _ _ _ ⟨0, rfl, (Nat.le_of_ble_eq_true rfl), hP, hD, hS, lv_sub hl [1, 0] rfl⟩
  rintro nn ih_3 H locs ls ⟨g_2, rfl, hg_2, hP, hD, hS, hl⟩
  refine lv_iload_n hx hb dX9_clockCalled_2 rfl (lv_at hl 1 rfl) ?_
  refine lv_aload_n hx hb dX9_clockCalled_3 rfl (lv_at hl 0 rfl) ?_
  refine va_get (D := (dC, dI)) (ci := 9) (v := .ref (ad 12)) (C := RX9) (T := TX9) (N := 67) hx hb hts hiX9 hown hK hP 0 rfl rfl 12 (by decide) v_1 (fun _ h9 => h9) rfl dX9_clockCalled_4 ?_
  refine lv_aload_n hx hb dX9_clockCalled_7 rfl (lv_at hl 0 rfl) ?_
  refine va_get (D := (dC, dI)) (ci := 9) (v := .int 0) (C := RX9) (T := TX9) (N := 67) hx hb hts hiX9 hown hK hP 0 rfl rfl 28 (by decide) v_2 (fun _ h9 => h9) rfl dX9_clockCalled_8 ?_
  refine va_iald hx hb hK hP 12 11 rfl rfl (vp_in_nI (n := 0) (Nat.le_of_ble_eq_true rfl) (Nat.le_of_ble_eq_true rfl)) dX9_clockCalled_11 ?_
  refine lv_topi (fun y_4 ey_4 => ?_)
  have qy_4 := ey_4.trans b2_0
  clear ey_4
  obtain rfl : y_4 = nI m12_0 := qy_4
  refine lv_icmp_ge (tgt := 43) hx hb dX9_clockCalled_12 (by decide) (fun c_5 => ?_) (fun c_5 => ?_)
  · have c_5 : m12_0 ≤ g_2 := (nI_leI (a := m12_0) (b := g_2) (Nat.lt_of_le_of_lt hm12_0 (Nat.le_of_ble_eq_true rfl)) (Nat.lt_of_le_of_lt hg_2 (Nat.le_of_ble_eq_true rfl))).mp c_5
    refine lv_iconst (v := (-1)) hx hb dX9_clockCalled_43 (by decide) ?_
    exact W.iret (v := (-1)) hx hb hr (fun t ht hW => ⟨⟨(-1), (), rfl, Or.inl rfl, trivial⟩, hS.F ht⟩) hS.2.2 dX9_clockCalled_44
  · have c_5 : ¬ m12_0 ≤ g_2 := fun z => c_5 ((nI_leI (a := m12_0) (b := g_2) (Nat.lt_of_le_of_lt hm12_0 (Nat.le_of_ble_eq_true rfl)) (Nat.lt_of_le_of_lt hg_2 (Nat.le_of_ble_eq_true rfl))).mpr z)
    refine lv_aload_n hx hb dX9_clockCalled_15 rfl (lv_at hl 0 rfl) ?_
    refine va_get (D := (dC, dI)) (ci := 9) (v := .ref (ad 1)) (C := RX9) (T := TX9) (N := 67) hx hb hts hiX9 hown hK hP 0 rfl rfl 1 (by decide) v_3 (fun _ h9 => h9) rfl dX9_clockCalled_16 ?_
    refine lv_iconst (v := 3) hx hb dX9_clockCalled_19 (by decide) ?_
    refine lv_aload_n hx hb dX9_clockCalled_20 rfl (lv_at hl 0 rfl) ?_
    refine va_get (D := (dC, dI)) (ci := 9) (v := .int 0) (C := RX9) (T := TX9) (N := 67) hx hb hts hiX9 hown hK hP 0 rfl rfl 28 (by decide) v_2 (fun _ h9 => h9) rfl dX9_clockCalled_21 ?_
    refine lv_imul hx hb dX9_clockCalled_24 ?_
    refine lv_topi (fun y_6 ey_6 => ?_)
    obtain rfl : y_6 = 0 := ey_6.trans (by decide)
    refine lv_iload_n hx hb dX9_clockCalled_25 rfl (lv_at hl 1 rfl) ?_
    refine lv_iadd hx hb dX9_clockCalled_26 ?_
    refine lv_topi (fun y_7 ey_7 => ?_)
    obtain rfl : y_7 = (nI (0 + g_2)) := ey_7.trans (nI_add 0 g_2)
    refine va_iald hx hb hK hP 1 0 rfl rfl (vp_in_nI (n := (0 + g_2)) (by omega) (Nat.le_of_ble_eq_true rfl)) dX9_clockCalled_27 ?_
    refine lv_topi (fun y_8 ey_8 => ?_)
    refine lv_aload_n hx hb dX9_clockCalled_28 rfl (lv_at hl 0 rfl) ?_
    refine va_get (D := (dC, dI)) (ci := 9) (v := .int x23) (C := RX9) (T := TX9) (N := 67) hx hb hts hiX9 hown hK hP 0 rfl rfl 23 (by decide) v_4 (fun _ h9 => h9) rfl dX9_clockCalled_29 ?_
    refine lv_icmp_ne (tgt := 37) hx hb dX9_clockCalled_32 (by decide) (fun c_9 => ?_) (fun c_9 => ?_)
    · refine lv_iinc (v := (nI (g_2 + 1))) (lv' := [(1, .int (nI (g_2 + 1))), (0, .ref (ad 0))]) hx hb dX9_clockCalled_37 hl (k := 1) rfl (nI_1 _) (by decide) rfl (fun ls hl => ?_)
      refine lv_goto (tgt := 2) hx hb dX9_clockCalled_40 (by decide) ?_
      exact ih_3 (3 - (g_2 + 1)) (by omega) _ _ _ ⟨(g_2 + 1), rfl, (by omega), hP, hD, hS, lv_sub hl [1, 0] rfl⟩
    · refine lv_iload_n hx hb dX9_clockCalled_35 rfl (lv_at hl 1 rfl) ?_
      exact W.iret (v := (nI g_2)) hx hb hr (fun t ht hW => ⟨⟨(nI g_2), (), rfl, Or.inr ⟨g_2, by omega, rfl⟩, trivial⟩, hS.F ht⟩) hS.2.2 dX9_clockCalled_36
theorem dX9_placeCalled_0 : decode cX9_placeCalled 0 = .ok (.iconst 0, 1) := by decide +kernel
theorem dX9_placeCalled_1 : decode cX9_placeCalled 1 = .ok (.istore_n 1, 1) := by decide +kernel
theorem dX9_placeCalled_2 : decode cX9_placeCalled 2 = .ok (.iload_n 1, 1) := by decide +kernel
theorem dX9_placeCalled_3 : decode cX9_placeCalled 3 = .ok (.aload_n 0, 1) := by decide +kernel
theorem dX9_placeCalled_4 : decode cX9_placeCalled 4 = .ok (.getfield 46, 3) := by decide +kernel
theorem dX9_placeCalled_7 : decode cX9_placeCalled 7 = .ok (.aload_n 0, 1) := by decide +kernel
theorem dX9_placeCalled_8 : decode cX9_placeCalled 8 = .ok (.getfield 203, 3) := by decide +kernel
theorem dX9_placeCalled_11 : decode cX9_placeCalled 11 = .ok (.iaload, 1) := by decide +kernel
theorem dX9_placeCalled_12 : decode cX9_placeCalled 12 = .ok (.if_icmp .ge 32, 3) := by decide +kernel
theorem dX9_placeCalled_15 : decode cX9_placeCalled 15 = .ok (.aload_n 0, 1) := by decide +kernel
theorem dX9_placeCalled_16 : decode cX9_placeCalled 16 = .ok (.getfield 13, 3) := by decide +kernel
theorem dX9_placeCalled_19 : decode cX9_placeCalled 19 = .ok (.bipush 8, 2) := by decide +kernel
theorem dX9_placeCalled_21 : decode cX9_placeCalled 21 = .ok (.aload_n 0, 1) := by decide +kernel
theorem dX9_placeCalled_22 : decode cX9_placeCalled 22 = .ok (.getfield 203, 3) := by decide +kernel
theorem dX9_placeCalled_25 : decode cX9_placeCalled 25 = .ok (.imul, 1) := by decide +kernel
theorem dX9_placeCalled_26 : decode cX9_placeCalled 26 = .ok (.iload_n 1, 1) := by decide +kernel
theorem dX9_placeCalled_27 : decode cX9_placeCalled 27 = .ok (.iadd, 1) := by decide +kernel
theorem dX9_placeCalled_28 : decode cX9_placeCalled 28 = .ok (.iaload, 1) := by decide +kernel
theorem dX9_placeCalled_29 : decode cX9_placeCalled 29 = .ok (.aload_n 0, 1) := by decide +kernel
theorem dX9_placeCalled_30 : decode cX9_placeCalled 30 = .ok (.getfield 169, 3) := by decide +kernel
theorem dX9_placeCalled_33 : decode cX9_placeCalled 33 = .ok (.if_icmp .ne 5, 3) := by decide +kernel
theorem dX9_placeCalled_36 : decode cX9_placeCalled 36 = .ok (.iload_n 1, 1) := by decide +kernel
theorem dX9_placeCalled_37 : decode cX9_placeCalled 37 = .ok (.ireturn, 1) := by decide +kernel
theorem dX9_placeCalled_38 : decode cX9_placeCalled 38 = .ok (.iinc 1 1, 3) := by decide +kernel
theorem dX9_placeCalled_41 : decode cX9_placeCalled 41 = .ok (.goto (-39), 3) := by decide +kernel
theorem dX9_placeCalled_44 : decode cX9_placeCalled 44 = .ok (.iconst (-1), 1) := by decide +kernel
theorem dX9_placeCalled_45 : decode cX9_placeCalled 45 = .ok (.ireturn, 1) := by decide +kernel
abbrev vs_M_placeCalled_0 : List Cond := .code yX9_placeCalled cX9_placeCalled 2 (some .int) :: VM
set_option maxHeartbeats 4000000 in
set_option maxRecDepth 100000 in
theorem c_M_placeCalled_0 (l : Launch) (dC : Nat → ClassId) (dI : Nat → Nat → Nat) (sz : Nat) (ad : Nat → Nat) (ck : Nat → ClassId) (x0 : Int32) (x16 : Nat) (x18 : Nat) (x19 : Nat) (x20 : Int32) (x21 : Nat) (x22 : Nat) (x23 : Int32) (x24 : Int32) (x25 : Int32) (x26 : Nat) (x27 : Int32) (x29 : Nat) (x30 : Nat) (x33 : Nat) (x45 : Int32) (x46 : Nat) (x52 : Nat) (x53 : Nat) (x61 : Nat) (x62 : Nat) (x63 : Nat) (x65 : Nat) (x66 : Int32) (f1 : Nat → Int32) (f2 : Nat → Int32) (f3 : Nat → Int32) (q4 : Nat → Nat) (q5 : Nat → Nat) (q6 : Nat → Nat) (q7 : Nat → Nat) (f8 : Nat → Int32) (q9 : Nat → Nat) (q10 : Nat → Nat) (f11 : Nat → Int32) (m12_0 m12_1 : Nat) (m13_0 m13_1 : Nat) (m14_0 m14_1 : Nat) (m15_0 m15_1 : Nat) (f17 : Nat → Int32) (q31 : Nat → Nat) (f32 : Nat → Int32) (f34 : Nat → Int32) (f35 : Nat → Int32) (f36 : Nat → Int32) (f37 : Nat → Int32) (q38 : Nat → Nat) (f39 : Nat → Int32) (f40 : Nat → Int32) (f41 : Nat → Int32) (m42_0 m42_1 : Nat) (f43 : Nat → Int32) (f44 : Nat → Int32) (f47 : Nat → Int32) (f48 : Nat → Int32) (f49 : Nat → Int32) (f50 : Nat → Int32) (f51 : Nat → Int32) (q54 : Nat → Nat) (q55 : Nat → Nat) (q56 : Nat → Nat) (f57 : Nat → Int32) (q58 : Nat → Nat) (f59 : Nat → Int32) (f60 : Nat → Int32) (f64 : Nat → Int32) (hx16 : x16 ≤ 1) (hx18 : x18 ≤ 900) (hx19 : x19 ≤ 900) (hx21 : x21 ≤ 900) (hx22 : x22 ≤ 4) (hx26 : x26 ≤ 6) (hx29 : x29 ≤ 1) (hx30 : x30 ≤ 1) (hx33 : x33 ≤ 20) (hx46 : x46 ≤ 5) (hx52 : x52 ≤ 2400) (hx53 : x53 ≤ 119) (hx61 : x61 ≤ 119) (hx62 : x62 ≤ 2000) (hx63 : x63 ≤ 1) (hx65 : x65 ≤ 7) (hm12_0 : m12_0 ≤ 3) (hm12_1 : m12_1 ≤ 3) (hm13_0 : m13_0 ≤ 8) (hm13_1 : m13_1 ≤ 8) (hm14_0 : m14_0 ≤ 14) (hm14_1 : m14_1 ≤ 14) (hm15_0 : m15_0 ≤ 8) (hm15_1 : m15_1 ≤ 8) (hm42_0 : m42_0 ≤ 120) (hm42_1 : m42_1 ≤ 400) : Met l yX9_placeCalled vs_M_placeCalled_0 ({ frames := 0, cells := 0, slots := 0, locals := 0 }) (va_Pc [.ref (ad 0)] (pu_B (dC, dI) (mo_w ad ck x0 (nI x16) (nI x18) (nI x19) x20 (nI x21) (nI x22) x23 x24 x25 (nI x26) x27 0 (nI x29) (nI x30) (nI x33) x45 (nI x46) (nI x52) (nI x53) (nI x61) (nI x62) (nI x63) (nI x65) x66 f1 f2 f3 (bN 3 q4) (bN 7 q5) (bN 7 q6) (bN 4 q7) f8 (bN 2 q9) (bH q10) f11 (b2 m12_0 m12_1) (b2 m13_0 m13_1) (b2 m14_0 m14_1) (b2m m15_0 m15_1) f17 (bA 159 q31) f32 f34 f35 f36 f37 (bN 7 q38) f39 f40 f41 (b2 m42_0 m42_1) f43 f44 f47 f48 f49 f50 f51 (bN 13 q54) (bN 120 q55) (bN 120 q56) f57 (bN 120 q58) f59 f60 f64) (mo_t ck) sz)) (va_Qi (fun (r : Int32) (_ : Unit) => r = -1 ∨ ∃ v : Nat, v ≤ 7 ∧ r = nI v) (fun _ _ => True) (va_A [] sz)) 0 0 (va_A [] sz) := by
  refine Met.ofW (cc := cX9_placeCalled) (maxL := 2) (ret := (some .int)) (by decide) rfl ?_
  intro p e s m args below meth c s₁ B hml hv
  obtain ⟨rfl, rfl, hP, hK, hD0⟩ := hv
  have hx := B.exec
  have hb := B.bytes
  have hr := B.returns
  have hts := atoms_spec (ws := vs_M_placeCalled_0) B.pre
  have v_1 := hts (.fieldLink RX9 46 "ClockReachModel" "placeMany" "[I") (List.mem_cons_of_mem _ vm_85)
  have v_2 := hts (.fieldLink RX9 203 "ClockReachModel" "rb" "I") (List.mem_cons_of_mem _ vm_82)
  have v_3 := hts (.fieldLink RX9 13 "ClockReachModel" "placeName" "[I") (List.mem_cons_of_mem _ vm_86)
  have v_4 := hts (.fieldLink RX9 169 "ClockReachModel" "value" "I") (List.mem_cons_of_mem _ vm_37)
  have hown : s.vm.findClass RX9 = some m.cls := findClass_of_methodNamed B.named
  have hlocks := B.notSynchronized
  have hiX9 : ∀ w ∈ wsX90, w ∈ vs_M_placeCalled_0 := fun _ h => List.mem_cons_of_mem _ (List.mem_append_right _ h)
  have hD := hD0
  have hA : ∀ q : Nat, s.heap.size ≤ q → va_A [] s.heap.size q := fun _ h => Or.inr h
  have hS : va_S (va_A [] s.heap.size) s.heap s.heap [] := va_S.rf
  have hl := lv_entry ([.ref (ad 0)]) (n := 2) (Nat.le_of_ble_eq_true rfl)
  rw [lg_entry_eq]
  generalize (lg_sl ([.ref (ad 0)]) ++ List.replicate (2 - (lg_sl ([.ref (ad 0)])).length) Slot.unset).toArray = ls at hl ⊢
  have hl : lv_has ls 2 [(0, .ref (ad 0))] := hl
  refine lv_iconst (v := 0) hx hb dX9_placeCalled_0 (by decide) ?_
  refine lv_istore_n (lv' := [(1, .int 0), (0, .ref (ad 0))]) hx hb dX9_placeCalled_1 rfl hl (by decide) rfl (fun ls hl => ?_)
  refine pu_while (fun nn H locs ls => ∃ (g_2 : Nat), nn = 8 - g_2 ∧ g_2 ≤ 8 ∧ va_P (dC, dI) vwCl (mo_w ad ck x0 (nI x16) (nI x18) (nI x19) x20 (nI x21) (nI x22) x23 x24 x25 (nI x26) x27 0 (nI x29) (nI x30) (nI x33) x45 (nI x46) (nI x52) (nI x53) (nI x61) (nI x62) (nI x63) (nI x65) x66 f1 f2 f3 (bN 3 q4) (bN 7 q5) (bN 7 q6) (bN 4 q7) f8 (bN 2 q9) (bH q10) f11 (b2 m12_0 m12_1) (b2 m13_0 m13_1) (b2 m14_0 m14_1) (b2m m15_0 m15_1) f17 (bA 159 q31) f32 f34 f35 f36 f37 (bN 7 q38) f39 f40 f41 (b2 m42_0 m42_1) f43 f44 f47 f48 f49 f50 f51 (bN 13 q54) (bN 120 q55) (bN 120 q56) f57 (bN 120 q58) f59 f60 f64) H ∧ va_D (fun _ => True) (mo_w ad ck x0 (nI x16) (nI x18) (nI x19) x20 (nI x21) (nI x22) x23 x24 x25 (nI x26) x27 0 (nI x29) (nI x30) (nI x33) x45 (nI x46) (nI x52) (nI x53) (nI x61) (nI x62) (nI x63) (nI x65) x66 f1 f2 f3 (bN 3 q4) (bN 7 q5) (bN 7 q6) (bN 4 q7) f8 (bN 2 q9) (bH q10) f11 (b2 m12_0 m12_1) (b2 m13_0 m13_1) (b2 m14_0 m14_1) (b2m m15_0 m15_1) f17 (bA 159 q31) f32 f34 f35 f36 f37 (bN 7 q38) f39 f40 f41 (b2 m42_0 m42_1) f43 f44 f47 f48 f49 f50 f51 (bN 13 q54) (bN 120 q55) (bN 120 q56) f57 (bN 120 q58) f59 f60 f64) ∧ va_S (va_A [] s.heap.size) s.heap H locs ∧ lv_has ls 2 [(0, .ref (ad 0)), (1, .int (nI g_2))]) 2 ?_ _ _ _ _ ⟨0, rfl, (Nat.le_of_ble_eq_true rfl), hP, hD, hS, lv_sub hl [1, 0] rfl⟩
  rintro nn ih_3 H locs ls ⟨g_2, rfl, hg_2, hP, hD, hS, hl⟩
  refine lv_iload_n hx hb dX9_placeCalled_2 rfl (lv_at hl 1 rfl) ?_
  refine lv_aload_n hx hb dX9_placeCalled_3 rfl (lv_at hl 0 rfl) ?_
  refine va_get (D := (dC, dI)) (ci := 9) (v := .ref (ad 13)) (C := RX9) (T := TX9) (N := 67) hx hb hts hiX9 hown hK hP 0 rfl rfl 13 (by decide) v_1 (fun _ h9 => h9) rfl dX9_placeCalled_4 ?_
  refine lv_aload_n hx hb dX9_placeCalled_7 rfl (lv_at hl 0 rfl) ?_
  refine va_get (D := (dC, dI)) (ci := 9) (v := .int 0) (C := RX9) (T := TX9) (N := 67) hx hb hts hiX9 hown hK hP 0 rfl rfl 28 (by decide) v_2 (fun _ h9 => h9) rfl dX9_placeCalled_8 ?_
  refine va_iald hx hb hK hP 13 12 rfl rfl (vp_in_nI (n := 0) (Nat.le_of_ble_eq_true rfl) (Nat.le_of_ble_eq_true rfl)) dX9_placeCalled_11 ?_
  refine lv_topi (fun y_4 ey_4 => ?_)
  have qy_4 := ey_4.trans b2_0
  clear ey_4
  obtain rfl : y_4 = nI m13_0 := qy_4
  refine lv_icmp_ge (tgt := 44) hx hb dX9_placeCalled_12 (by decide) (fun c_5 => ?_) (fun c_5 => ?_)
  · have c_5 : m13_0 ≤ g_2 := (nI_leI (a := m13_0) (b := g_2) (Nat.lt_of_le_of_lt hm13_0 (Nat.le_of_ble_eq_true rfl)) (Nat.lt_of_le_of_lt hg_2 (Nat.le_of_ble_eq_true rfl))).mp c_5
    refine lv_iconst (v := (-1)) hx hb dX9_placeCalled_44 (by decide) ?_
    exact W.iret (v := (-1)) hx hb hr (fun t ht hW => ⟨⟨(-1), (), rfl, Or.inl rfl, trivial⟩, hS.F ht⟩) hS.2.2 dX9_placeCalled_45
  · have c_5 : ¬ m13_0 ≤ g_2 := fun z => c_5 ((nI_leI (a := m13_0) (b := g_2) (Nat.lt_of_le_of_lt hm13_0 (Nat.le_of_ble_eq_true rfl)) (Nat.lt_of_le_of_lt hg_2 (Nat.le_of_ble_eq_true rfl))).mpr z)
    refine lv_aload_n hx hb dX9_placeCalled_15 rfl (lv_at hl 0 rfl) ?_
    refine va_get (D := (dC, dI)) (ci := 9) (v := .ref (ad 2)) (C := RX9) (T := TX9) (N := 67) hx hb hts hiX9 hown hK hP 0 rfl rfl 2 (by decide) v_3 (fun _ h9 => h9) rfl dX9_placeCalled_16 ?_
    refine lv_bipush (v := 8) hx hb dX9_placeCalled_19 (by decide) ?_
    refine lv_aload_n hx hb dX9_placeCalled_21 rfl (lv_at hl 0 rfl) ?_
    refine va_get (D := (dC, dI)) (ci := 9) (v := .int 0) (C := RX9) (T := TX9) (N := 67) hx hb hts hiX9 hown hK hP 0 rfl rfl 28 (by decide) v_2 (fun _ h9 => h9) rfl dX9_placeCalled_22 ?_
    refine lv_imul hx hb dX9_placeCalled_25 ?_
    refine lv_topi (fun y_6 ey_6 => ?_)
    obtain rfl : y_6 = 0 := ey_6.trans (by decide)
    refine lv_iload_n hx hb dX9_placeCalled_26 rfl (lv_at hl 1 rfl) ?_
    refine lv_iadd hx hb dX9_placeCalled_27 ?_
    refine lv_topi (fun y_7 ey_7 => ?_)
    obtain rfl : y_7 = (nI (0 + g_2)) := ey_7.trans (nI_add 0 g_2)
    refine va_iald hx hb hK hP 2 1 rfl rfl (vp_in_nI (n := (0 + g_2)) (by omega) (Nat.le_of_ble_eq_true rfl)) dX9_placeCalled_28 ?_
    refine lv_topi (fun y_8 ey_8 => ?_)
    refine lv_aload_n hx hb dX9_placeCalled_29 rfl (lv_at hl 0 rfl) ?_
    refine va_get (D := (dC, dI)) (ci := 9) (v := .int x23) (C := RX9) (T := TX9) (N := 67) hx hb hts hiX9 hown hK hP 0 rfl rfl 23 (by decide) v_4 (fun _ h9 => h9) rfl dX9_placeCalled_30 ?_
    refine lv_icmp_ne (tgt := 38) hx hb dX9_placeCalled_33 (by decide) (fun c_9 => ?_) (fun c_9 => ?_)
    · refine lv_iinc (v := (nI (g_2 + 1))) (lv' := [(1, .int (nI (g_2 + 1))), (0, .ref (ad 0))]) hx hb dX9_placeCalled_38 hl (k := 1) rfl (nI_1 _) (by decide) rfl (fun ls hl => ?_)
      refine lv_goto (tgt := 2) hx hb dX9_placeCalled_41 (by decide) ?_
      exact ih_3 (8 - (g_2 + 1)) (by omega) _ _ _ ⟨(g_2 + 1), rfl, (by omega), hP, hD, hS, lv_sub hl [1, 0] rfl⟩
    · refine lv_iload_n hx hb dX9_placeCalled_36 rfl (lv_at hl 1 rfl) ?_
      exact W.iret (v := (nI g_2)) hx hb hr (fun t ht hW => ⟨⟨(nI g_2), (), rfl, Or.inr ⟨g_2, by omega, rfl⟩, trivial⟩, hS.F ht⟩) hS.2.2 dX9_placeCalled_37
theorem dX9_freshName_0 : decode cX9_freshName 0 = .ok (.aload_n 0, 1) := by decide +kernel
theorem dX9_freshName_1 : decode cX9_freshName 1 = .ok (.invokevirtual 213, 3) := by decide +kernel
theorem dX9_freshName_4 : decode cX9_freshName 4 = .ok (.aload_n 0, 1) := by decide +kernel
theorem dX9_freshName_5 : decode cX9_freshName 5 = .ok (.invokevirtual 216, 3) := by decide +kernel
theorem dX9_freshName_8 : decode cX9_freshName 8 = .ok (.ifCond .eq 22, 3) := by decide +kernel
theorem dX9_freshName_11 : decode cX9_freshName 11 = .ok (.aload_n 0, 1) := by decide +kernel
theorem dX9_freshName_12 : decode cX9_freshName 12 = .ok (.invokevirtual 219, 3) := by decide +kernel
theorem dX9_freshName_15 : decode cX9_freshName 15 = .ok (.ifCond .ge 10, 3) := by decide +kernel
theorem dX9_freshName_18 : decode cX9_freshName 18 = .ok (.aload_n 0, 1) := by decide +kernel
theorem dX9_freshName_19 : decode cX9_freshName 19 = .ok (.invokevirtual 223, 3) := by decide +kernel
theorem dX9_freshName_22 : decode cX9_freshName 22 = .ok (.ifCond .lt 8, 3) := by decide +kernel
theorem dX9_freshName_25 : decode cX9_freshName 25 = .ok (.aload_n 0, 1) := by decide +kernel
theorem dX9_freshName_26 : decode cX9_freshName 26 = .ok (.iconst 3, 1) := by decide +kernel
theorem dX9_freshName_27 : decode cX9_freshName 27 = .ok (.invokevirtual 210, 3) := by decide +kernel
theorem dX9_freshName_30 : decode cX9_freshName 30 = .ok (.aload_n 0, 1) := by decide +kernel
theorem dX9_freshName_31 : decode cX9_freshName 31 = .ok (.getfield 169, 3) := by decide +kernel
theorem dX9_freshName_34 : decode cX9_freshName 34 = .ok (.istore_n 1, 1) := by decide +kernel
theorem dX9_freshName_35 : decode cX9_freshName 35 = .ok (.aload_n 0, 1) := by decide +kernel
theorem dX9_freshName_36 : decode cX9_freshName 36 = .ok (.invokevirtual 216, 3) := by decide +kernel
theorem dX9_freshName_39 : decode cX9_freshName 39 = .ok (.ifCond .eq 7, 3) := by decide +kernel
theorem dX9_freshName_42 : decode cX9_freshName 42 = .ok (.aload_n 0, 1) := by decide +kernel
theorem dX9_freshName_43 : decode cX9_freshName 43 = .ok (.invokevirtual 226, 3) := by decide +kernel
theorem dX9_freshName_46 : decode cX9_freshName 46 = .ok (.iload_n 1, 1) := by decide +kernel
theorem dX9_freshName_47 : decode cX9_freshName 47 = .ok (.ireturn, 1) := by decide +kernel
abbrev vs_M_freshName_0 : List Cond := .code yX9_freshName cX9_freshName 2 (some .int) :: VM
theorem g_M_freshName_0_M_mustBeName : GoodIn vs_M_freshName_0 (wsV RX9 213 RX9 yX9_mustBeName vs_M_mustBeName) := gm_V vm_88 vm_89 vm_90 vm_12 vm_54
theorem g_M_freshName_0_M_isGood : GoodIn vs_M_freshName_0 (wsV RX9 216 RX9 yX9_isGood vs_M_isGood) := gm_V vm_91 vm_92 vm_93 vm_12 vm_15
theorem g_M_freshName_0_M_next : GoodIn vs_M_freshName_0 (wsV RX9 226 RX9 yX9_next vs_M_next) := gm_V vm_100 vm_101 vm_102 vm_12 vm_72
theorem g_M_freshName_0_M_clockCalled_0 : GoodIn vs_M_freshName_0 (wsV RX9 219 RX9 yX9_clockCalled vs_M_clockCalled_0) := gm_V vm_94 vm_95 vm_96 vm_12 vm_81
theorem g_M_freshName_0_M_placeCalled_0 : GoodIn vs_M_freshName_0 (wsV RX9 223 RX9 yX9_placeCalled vs_M_placeCalled_0) := gm_V vm_97 vm_98 vm_99 vm_12 vm_84
theorem g_M_freshName_0_M_fails : GoodIn vs_M_freshName_0 (wsV RX9 210 RX9 yX9_fails vs_M_fails) := gm_V vm_55 vm_56 vm_57 vm_12 vm_39
set_option maxHeartbeats 4000000 in
set_option maxRecDepth 100000 in
theorem c_M_freshName_0 (l : Launch) (dC : Nat → ClassId) (dI : Nat → Nat → Nat) (sz : Nat) (ad : Nat → Nat) (ck : Nat → ClassId) (x0 : Int32) (x16 : Nat) (x18 : Nat) (x19 : Nat) (x20 : Int32) (x21 : Nat) (x22 : Nat) (x23 : Int32) (x24 : Int32) (x25 : Int32) (x26 : Nat) (x27 : Int32) (x29 : Nat) (x30 : Nat) (x33 : Nat) (x45 : Int32) (x46 : Nat) (x52 : Nat) (x53 : Nat) (x61 : Nat) (x62 : Nat) (x63 : Nat) (x65 : Nat) (x66 : Int32) (f1 : Nat → Int32) (f2 : Nat → Int32) (f3 : Nat → Int32) (q4 : Nat → Nat) (q5 : Nat → Nat) (q6 : Nat → Nat) (q7 : Nat → Nat) (f8 : Nat → Int32) (q9 : Nat → Nat) (q10 : Nat → Nat) (f11 : Nat → Int32) (m12_0 m12_1 : Nat) (m13_0 m13_1 : Nat) (m14_0 m14_1 : Nat) (m15_0 m15_1 : Nat) (f17 : Nat → Int32) (q31 : Nat → Nat) (f32 : Nat → Int32) (f34 : Nat → Int32) (f35 : Nat → Int32) (f36 : Nat → Int32) (f37 : Nat → Int32) (q38 : Nat → Nat) (f39 : Nat → Int32) (f40 : Nat → Int32) (f41 : Nat → Int32) (m42_0 m42_1 : Nat) (f43 : Nat → Int32) (f44 : Nat → Int32) (f47 : Nat → Int32) (f48 : Nat → Int32) (f49 : Nat → Int32) (f50 : Nat → Int32) (f51 : Nat → Int32) (q54 : Nat → Nat) (q55 : Nat → Nat) (q56 : Nat → Nat) (f57 : Nat → Int32) (q58 : Nat → Nat) (f59 : Nat → Int32) (f60 : Nat → Int32) (f64 : Nat → Int32) (hx16 : x16 ≤ 1) (hx18 : x18 ≤ 900) (hx19 : x19 ≤ 900) (hx21 : x21 ≤ 900) (hx22 : x22 ≤ 4) (hx26 : x26 ≤ 6) (hx29 : x29 ≤ 1) (hx30 : x30 ≤ 1) (hx33 : x33 ≤ 20) (hx46 : x46 ≤ 5) (hx52 : x52 ≤ 2400) (hx53 : x53 ≤ 119) (hx61 : x61 ≤ 119) (hx62 : x62 ≤ 2000) (hx63 : x63 ≤ 1) (hx65 : x65 ≤ 7) (hm12_0 : m12_0 ≤ 3) (hm12_1 : m12_1 ≤ 3) (hm13_0 : m13_0 ≤ 8) (hm13_1 : m13_1 ≤ 8) (hm14_0 : m14_0 ≤ 14) (hm14_1 : m14_1 ≤ 14) (hm15_0 : m15_0 ≤ 8) (hm15_1 : m15_1 ≤ 8) (hm42_0 : m42_0 ≤ 120) (hm42_1 : m42_1 ≤ 400) : Met l yX9_freshName vs_M_freshName_0 ({ frames := 3, cells := 0, slots := 0, locals := 61 }) (va_Pc [.ref (ad 0)] (pu_B (dC, dI) (mo_w ad ck x0 (nI x16) (nI x18) (nI x19) x20 (nI x21) (nI x22) x23 x24 x25 (nI x26) x27 0 (nI x29) (nI x30) (nI x33) x45 (nI x46) (nI x52) (nI x53) (nI x61) (nI x62) (nI x63) (nI x65) x66 f1 f2 f3 (bN 3 q4) (bN 7 q5) (bN 7 q6) (bN 4 q7) f8 (bN 2 q9) (bH q10) f11 (b2 m12_0 m12_1) (b2 m13_0 m13_1) (b2 m14_0 m14_1) (b2m m15_0 m15_1) f17 (bA 159 q31) f32 f34 f35 f36 f37 (bN 7 q38) f39 f40 f41 (b2 m42_0 m42_1) f43 f44 f47 f48 f49 f50 f51 (bN 13 q54) (bN 120 q55) (bN 120 q56) f57 (bN 120 q58) f59 f60 f64) (mo_t ck) sz)) (va_Qi (fun (r : Int32) (_ : Unit) => True) (fun _ t => ∃ (z20 : Int32) (z21 : Nat) (z22 : Nat) (z23 : Int32) (z26 : Nat) (z27 : Int32), pu_E (dC, dI) (mo_w ad ck x0 (nI x16) (nI x18) (nI x19) z20 (nI z21) (nI z22) z23 x24 x25 (nI z26) z27 0 (nI x29) (nI x30) (nI x33) x45 (nI x46) (nI x52) (nI x53) (nI x61) (nI x62) (nI x63) (nI x65) x66 f1 f2 f3 (bN 3 q4) (bN 7 q5) (bN 7 q6) (bN 4 q7) f8 (bN 2 q9) (bH q10) f11 (b2 m12_0 m12_1) (b2 m13_0 m13_1) (b2 m14_0 m14_1) (b2m m15_0 m15_1) f17 (bA 159 q31) f32 f34 f35 f36 f37 (bN 7 q38) f39 f40 f41 (b2 m42_0 m42_1) f43 f44 f47 f48 f49 f50 f51 (bN 13 q54) (bN 120 q55) (bN 120 q56) f57 (bN 120 q58) f59 f60 f64) (mo_t ck) (va_A ((mo_w ad ck x0 (nI x16) (nI x18) (nI x19) x20 (nI x21) (nI x22) x23 x24 x25 (nI x26) x27 0 (nI x29) (nI x30) (nI x33) x45 (nI x46) (nI x52) (nI x53) (nI x61) (nI x62) (nI x63) (nI x65) x66 f1 f2 f3 (bN 3 q4) (bN 7 q5) (bN 7 q6) (bN 4 q7) f8 (bN 2 q9) (bH q10) f11 (b2 m12_0 m12_1) (b2 m13_0 m13_1) (b2 m14_0 m14_1) (b2m m15_0 m15_1) f17 (bA 159 q31) f32 f34 f35 f36 f37 (bN 7 q38) f39 f40 f41 (b2 m42_0 m42_1) f43 f44 f47 f48 f49 f50 f51 (bN 13 q54) (bN 120 q55) (bN 120 q56) f57 (bN 120 q58) f59 f60 f64)) sz) t ∧ (z21 ≤ 900) ∧ (z22 ≤ 4) ∧ (z26 ≤ 6) ∧ (mu z21 z22 ≤ mu x21 x22)) (va_A ((mo_w ad ck x0 (nI x16) (nI x18) (nI x19) x20 (nI x21) (nI x22) x23 x24 x25 (nI x26) x27 0 (nI x29) (nI x30) (nI x33) x45 (nI x46) (nI x52) (nI x53) (nI x61) (nI x62) (nI x63) (nI x65) x66 f1 f2 f3 (bN 3 q4) (bN 7 q5) (bN 7 q6) (bN 4 q7) f8 (bN 2 q9) (bH q10) f11 (b2 m12_0 m12_1) (b2 m13_0 m13_1) (b2 m14_0 m14_1) (b2m m15_0 m15_1) f17 (bA 159 q31) f32 f34 f35 f36 f37 (bN 7 q38) f39 f40 f41 (b2 m42_0 m42_1) f43 f44 f47 f48 f49 f50 f51 (bN 13 q54) (bN 120 q55) (bN 120 q56) f57 (bN 120 q58) f59 f60 f64)) sz)) 0 0 (va_A ((mo_w ad ck x0 (nI x16) (nI x18) (nI x19) x20 (nI x21) (nI x22) x23 x24 x25 (nI x26) x27 0 (nI x29) (nI x30) (nI x33) x45 (nI x46) (nI x52) (nI x53) (nI x61) (nI x62) (nI x63) (nI x65) x66 f1 f2 f3 (bN 3 q4) (bN 7 q5) (bN 7 q6) (bN 4 q7) f8 (bN 2 q9) (bH q10) f11 (b2 m12_0 m12_1) (b2 m13_0 m13_1) (b2 m14_0 m14_1) (b2m m15_0 m15_1) f17 (bA 159 q31) f32 f34 f35 f36 f37 (bN 7 q38) f39 f40 f41 (b2 m42_0 m42_1) f43 f44 f47 f48 f49 f50 f51 (bN 13 q54) (bN 120 q55) (bN 120 q56) f57 (bN 120 q58) f59 f60 f64)) sz) := by
  refine Met.ofW (cc := cX9_freshName) (maxL := 2) (ret := (some .int)) (by decide) rfl ?_
  intro p e s m args below meth c s₁ B hml hv
  obtain ⟨rfl, rfl, hP, hK, hD0⟩ := hv
  have hx := B.exec
  have hb := B.bytes
  have hr := B.returns
  have hts := atoms_spec (ws := vs_M_freshName_0) B.pre
  have v_22 := hts (.fieldLink RX9 169 "ClockReachModel" "value" "I") (List.mem_cons_of_mem _ vm_37)
  have hown : s.vm.findClass RX9 = some m.cls := findClass_of_methodNamed B.named
  have hlocks := B.notSynchronized
  have hiX9 : ∀ w ∈ wsX90, w ∈ vs_M_freshName_0 := fun _ h => List.mem_cons_of_mem _ (List.mem_append_right _ h)
  have hD := hD0.self (sz := s.heap.size)
  generalize hAe : va_A ((mo_w ad ck x0 (nI x16) (nI x18) (nI x19) x20 (nI x21) (nI x22) x23 x24 x25 (nI x26) x27 0 (nI x29) (nI x30) (nI x33) x45 (nI x46) (nI x52) (nI x53) (nI x61) (nI x62) (nI x63) (nI x65) x66 f1 f2 f3 (bN 3 q4) (bN 7 q5) (bN 7 q6) (bN 4 q7) f8 (bN 2 q9) (bH q10) f11 (b2 m12_0 m12_1) (b2 m13_0 m13_1) (b2 m14_0 m14_1) (b2m m15_0 m15_1) f17 (bA 159 q31) f32 f34 f35 f36 f37 (bN 7 q38) f39 f40 f41 (b2 m42_0 m42_1) f43 f44 f47 f48 f49 f50 f51 (bN 13 q54) (bN 120 q55) (bN 120 q56) f57 (bN 120 q58) f59 f60 f64)) s.heap.size = A at hD ⊢
  have hA : ∀ q : Nat, s.heap.size ≤ q → A q := fun q h => by rw [← hAe]; exact Or.inr h
  have hS : va_S A s.heap s.heap [] := va_S.rf
  have hl := lv_entry ([.ref (ad 0)]) (n := 2) (Nat.le_of_ble_eq_true rfl)
  rw [lg_entry_eq]
  generalize (lg_sl ([.ref (ad 0)]) ++ List.replicate (2 - (lg_sl ([.ref (ad 0)])).length) Slot.unset).toArray = ls at hl ⊢
  have hl : lv_has ls 2 [(0, .ref (ad 0))] := hl
  refine lv_aload_n hx hb dX9_freshName_0 rfl (lv_at hl 0 rfl) ?_
  have hFc := pu_free hD hS hA
  refine va_callv (va_runV (As := []) (rest := []) ⟨hx, hb, hml, hown, hts⟩ (c_M_mustBeName l dC dI _ ad ck x0 x16 x18 x19 x20 x21 x22 x23 x24 x25 x26 x27 0 x29 x30 x33 x45 x46 x52 x53 x61 x62 x63 x65 x66 f1 f2 f3 q4 q5 q6 q7 f8 q9 q10 f11 m12_0 m12_1 m13_0 m13_1 m14_0 m14_1 m15_0 m15_1 f17 q31 f32 f34 f35 f36 f37 q38 f39 f40 f41 m42_0 m42_1 f43 f44 f47 f48 f49 f50 f51 q54 q55 q56 f57 q58 f59 f60 f64 hx16 hx18 hx19 hx21 hx22 hx26 (Nat.le_of_ble_eq_true rfl) hx29 hx30 hx33 hx46 hx52 hx53 hx61 hx62 hx63 hx65 hm12_0 hm12_1 hm13_0 hm13_1 hm14_0 hm14_1 hm15_0 hm15_1 hm42_0 hm42_1) (cwV 0 hts g_M_freshName_0_M_mustBeName rfl rfl rfl (by decide +kernel) ⟨Nat.le_of_ble_eq_true rfl, Nat.le_of_ble_eq_true rfl⟩) ⟨pu_bl, va_recv hK hP (ci := 9) (q0 := 0) rfl rfl, pu_in hP hK hD⟩ rfl rfl hl.1 rfl (lv_room (Nat.le_of_ble_eq_true rfl)) dX9_freshName_1 ⟨Nat.le_of_ble_eq_true rfl, Nat.le_of_ble_eq_true rfl⟩) hS (fun q _ h => hFc q h) hFc (fun u t H1 locs ht hvm hw hB hz1 hk1 hS => ?_)
  obtain ⟨z26_2, z27_3, ⟨hP1, -, hD1⟩, hz26_2, xr_1_0⟩ := hB
  rw [ht] at hP1
  have hP := hP1
  have hD := pu_all hFc hD1
  clear hP1 hD1 hFc
  clear hk1 hz1 ht hvm
  generalize H1 = H at hP hS ⊢
  refine lv_aload_n hx hb dX9_freshName_4 rfl (lv_at hl 0 rfl) ?_
  refine va_calli (va_runV (As := []) (rest := []) ⟨hx, hb, hml, hown, hts⟩ (c_M_isGood l dC dI _ ad ck x0 x16 x18 x19 x20 x21 x22 x23 x24 x25 z26_2 z27_3 0 x29 x30 x33 x45 x46 x52 x53 x61 x62 x63 x65 x66 f1 f2 f3 q4 q5 q6 q7 f8 q9 q10 f11 m12_0 m12_1 m13_0 m13_1 m14_0 m14_1 m15_0 m15_1 f17 q31 f32 f34 f35 f36 f37 q38 f39 f40 f41 m42_0 m42_1 f43 f44 f47 f48 f49 f50 f51 q54 q55 q56 f57 q58 f59 f60 f64 hx16 hx18 hx19 hx21 hx22 hz26_2 (Nat.le_of_ble_eq_true rfl) hx29 hx30 hx33 hx46 hx52 hx53 hx61 hx62 hx63 hx65 hm12_0 hm12_1 hm13_0 hm13_1 hm14_0 hm14_1 hm15_0 hm15_1 hm42_0 hm42_1) (cwV 0 hts g_M_freshName_0_M_isGood rfl rfl rfl (by decide +kernel) ⟨Nat.le_of_ble_eq_true rfl, Nat.le_of_ble_eq_true rfl⟩) ⟨pu_bl, va_recv hK hP (ci := 9) (q0 := 0) rfl rfl, pu_in hP hK hD⟩ rfl rfl hl.1 rfl (lv_room (Nat.le_of_ble_eq_true rfl)) dX9_freshName_5 ⟨Nat.le_of_ble_eq_true rfl, Nat.le_of_ble_eq_true rfl⟩) hS (fun q _ h => pu_fr hS hA q h) (pu_fr hS hA) (fun r_4 u t H1 locs ht hvm hw hB hz1 hk1 hS => ?_)
  have hP := pu_keep hP hk1
  clear hk1 hz1 ht hvm
  generalize H1 = H at hP hS ⊢
  obtain ⟨u_5, hu_5, rfl, iu_5⟩ := hw
  refine pu_join (fun H locs ls st => ∃ (g_6 : Nat) (g_7 : Int32), st = [] ∧ g_6 ≤ 6 ∧ mu x21 x22 ≤ mu x21 x22 ∧ va_P (dC, dI) vwCl (mo_w ad ck x0 (nI x16) (nI x18) (nI x19) x20 (nI x21) (nI x22) x23 x24 x25 (nI g_6) g_7 0 (nI x29) (nI x30) (nI x33) x45 (nI x46) (nI x52) (nI x53) (nI x61) (nI x62) (nI x63) (nI x65) x66 f1 f2 f3 (bN 3 q4) (bN 7 q5) (bN 7 q6) (bN 4 q7) f8 (bN 2 q9) (bH q10) f11 (b2 m12_0 m12_1) (b2 m13_0 m13_1) (b2 m14_0 m14_1) (b2m m15_0 m15_1) f17 (bA 159 q31) f32 f34 f35 f36 f37 (bN 7 q38) f39 f40 f41 (b2 m42_0 m42_1) f43 f44 f47 f48 f49 f50 f51 (bN 13 q54) (bN 120 q55) (bN 120 q56) f57 (bN 120 q58) f59 f60 f64) H ∧ va_D A (mo_w ad ck x0 (nI x16) (nI x18) (nI x19) x20 (nI x21) (nI x22) x23 x24 x25 (nI g_6) g_7 0 (nI x29) (nI x30) (nI x33) x45 (nI x46) (nI x52) (nI x53) (nI x61) (nI x62) (nI x63) (nI x65) x66 f1 f2 f3 (bN 3 q4) (bN 7 q5) (bN 7 q6) (bN 4 q7) f8 (bN 2 q9) (bH q10) f11 (b2 m12_0 m12_1) (b2 m13_0 m13_1) (b2 m14_0 m14_1) (b2m m15_0 m15_1) f17 (bA 159 q31) f32 f34 f35 f36 f37 (bN 7 q38) f39 f40 f41 (b2 m42_0 m42_1) f43 f44 f47 f48 f49 f50 f51 (bN 13 q54) (bN 120 q55) (bN 120 q56) f57 (bN 120 q58) f59 f60 f64) ∧ va_S A s.heap H locs ∧ lv_has ls 2 [(0, .ref (ad 0))]) 30 ?_ (fun j_9 => ?_)
  · rintro H locs ls st ⟨g_6, g_7, rfl, hg_6, he_8, hP, hD, hS, hl⟩
    refine lv_aload_n hx hb dX9_freshName_30 rfl (lv_at hl 0 rfl) ?_
    refine va_get (D := (dC, dI)) (ci := 9) (v := .int x23) (C := RX9) (T := TX9) (N := 67) hx hb hts hiX9 hown hK hP 0 rfl rfl 23 (by decide) v_22 (fun _ h9 => h9) rfl dX9_freshName_31 ?_
    refine lv_istore_n (lv' := [(1, .int x23), (0, .ref (ad 0))]) hx hb dX9_freshName_34 rfl hl (by decide) rfl (fun ls hl => ?_)
    refine lv_aload_n hx hb dX9_freshName_35 rfl (lv_at hl 1 rfl) ?_
    refine va_calli (va_runV (As := []) (rest := []) ⟨hx, hb, hml, hown, hts⟩ (c_M_isGood l dC dI _ ad ck x0 x16 x18 x19 x20 x21 x22 x23 x24 x25 g_6 g_7 0 x29 x30 x33 x45 x46 x52 x53 x61 x62 x63 x65 x66 f1 f2 f3 q4 q5 q6 q7 f8 q9 q10 f11 m12_0 m12_1 m13_0 m13_1 m14_0 m14_1 m15_0 m15_1 f17 q31 f32 f34 f35 f36 f37 q38 f39 f40 f41 m42_0 m42_1 f43 f44 f47 f48 f49 f50 f51 q54 q55 q56 f57 q58 f59 f60 f64 hx16 hx18 hx19 hx21 hx22 hg_6 (Nat.le_of_ble_eq_true rfl) hx29 hx30 hx33 hx46 hx52 hx53 hx61 hx62 hx63 hx65 hm12_0 hm12_1 hm13_0 hm13_1 hm14_0 hm14_1 hm15_0 hm15_1 hm42_0 hm42_1) (cwV 0 hts g_M_freshName_0_M_isGood rfl rfl rfl (by decide +kernel) ⟨Nat.le_of_ble_eq_true rfl, Nat.le_of_ble_eq_true rfl⟩) ⟨pu_bl, va_recv hK hP (ci := 9) (q0 := 0) rfl rfl, pu_in hP hK hD⟩ rfl rfl hl.1 rfl (lv_room (Nat.le_of_ble_eq_true rfl)) dX9_freshName_36 ⟨Nat.le_of_ble_eq_true rfl, Nat.le_of_ble_eq_true rfl⟩) hS (fun q _ h => pu_fr hS hA q h) (pu_fr hS hA) (fun r_10 u t H1 locs ht hvm hw hB hz1 hk1 hS => ?_)
    have hP := pu_keep hP hk1
    clear hk1 hz1 ht hvm
    generalize H1 = H at hP hS ⊢
    obtain ⟨u_11, hu_11, rfl, iu_11⟩ := hw
    refine lv_if_eq (tgt := 46) hx hb dX9_freshName_39 (by decide) (fun c_12 => ?_) (fun c_12 => ?_)
    · have c_12 : u_11 = 0 := (nI_eq (a := u_11) (b := 0) (Nat.lt_of_le_of_lt hu_11 (Nat.le_of_ble_eq_true rfl)) (Nat.le_of_ble_eq_true rfl)).mp c_12
      refine lv_iload_n hx hb dX9_freshName_46 rfl (lv_at hl 0 rfl) ?_
      exact W.iret (v := x23) hx hb hr (fun t ht hW => ⟨⟨x23, (), rfl, trivial, ⟨x20, x21, x22, x23, g_6, g_7, ⟨by rw [ht]; exact hP, va_K.moved hW.alike hK, hD⟩, hx21, hx22, hg_6, by omega⟩⟩, hS.F ht⟩) hS.2.2 dX9_freshName_47
    · have c_12 : ¬ u_11 = 0 := fun z => c_12 ((nI_eq (a := u_11) (b := 0) (Nat.lt_of_le_of_lt hu_11 (Nat.le_of_ble_eq_true rfl)) (Nat.le_of_ble_eq_true rfl)).mpr z)
      refine lv_aload_n hx hb dX9_freshName_42 rfl (lv_at hl 1 rfl) ?_
      have hFc := pu_free hD hS hA
      refine va_callv (va_runV (As := []) (rest := []) ⟨hx, hb, hml, hown, hts⟩ (c_M_next l dC dI _ ad ck x0 x16 x18 x19 x20 x21 x22 x23 x24 x25 g_6 g_7 0 x29 x30 x33 x45 x46 x52 x53 x61 x62 x63 x65 x66 f1 f2 f3 q4 q5 q6 q7 f8 q9 q10 f11 m12_0 m12_1 m13_0 m13_1 m14_0 m14_1 m15_0 m15_1 f17 q31 f32 f34 f35 f36 f37 q38 f39 f40 f41 m42_0 m42_1 f43 f44 f47 f48 f49 f50 f51 q54 q55 q56 f57 q58 f59 f60 f64 hx16 hx18 hx19 hx21 hx22 hg_6 (Nat.le_of_ble_eq_true rfl) hx29 hx30 hx33 hx46 hx52 hx53 hx61 hx62 hx63 hx65 hm12_0 hm12_1 hm13_0 hm13_1 hm14_0 hm14_1 hm15_0 hm15_1 hm42_0 hm42_1) (cwV 0 hts g_M_freshName_0_M_next rfl rfl rfl (by decide +kernel) ⟨Nat.le_of_ble_eq_true rfl, Nat.le_of_ble_eq_true rfl⟩) ⟨pu_bl, va_recv hK hP (ci := 9) (q0 := 0) rfl rfl, pu_in hP hK hD⟩ rfl rfl hl.1 rfl (lv_room (Nat.le_of_ble_eq_true rfl)) dX9_freshName_43 ⟨Nat.le_of_ble_eq_true rfl, Nat.le_of_ble_eq_true rfl⟩) hS (fun q _ h => hFc q h) hFc (fun u t H1 locs ht hvm hw hB hz1 hk1 hS => ?_)
      obtain ⟨z20_14, z21_15, z22_16, z23_17, ⟨hP1, -, hD1⟩, hz21_15, hz22_16, xr_13_0, xr_13_1⟩ := hB
      rw [ht] at hP1
      have hP := hP1
      have hD := pu_all hFc hD1
      clear hP1 hD1 hFc
      clear hk1 hz1 ht hvm
      generalize H1 = H at hP hS ⊢
      refine lv_iload_n hx hb dX9_freshName_46 rfl (lv_at hl 0 rfl) ?_
      exact W.iret (v := x23) hx hb hr (fun t ht hW => ⟨⟨x23, (), rfl, trivial, ⟨z20_14, z21_15, z22_16, z23_17, g_6, g_7, ⟨by rw [ht]; exact hP, va_K.moved hW.alike hK, hD⟩, hz21_15, hz22_16, hg_6, by omega⟩⟩, hS.F ht⟩) hS.2.2 dX9_freshName_47
  refine lv_if_eq (tgt := 30) hx hb dX9_freshName_8 (by decide) (fun c_18 => ?_) (fun c_18 => ?_)
  · have c_18 : u_5 = 0 := (nI_eq (a := u_5) (b := 0) (Nat.lt_of_le_of_lt hu_5 (Nat.le_of_ble_eq_true rfl)) (Nat.le_of_ble_eq_true rfl)).mp c_18
    exact j_9 _ _ _ _ ⟨z26_2, z27_3, rfl, hz26_2, by omega, hP, hD, hS, lv_sub hl [0] rfl⟩
  · have c_18 : ¬ u_5 = 0 := fun z => c_18 ((nI_eq (a := u_5) (b := 0) (Nat.lt_of_le_of_lt hu_5 (Nat.le_of_ble_eq_true rfl)) (Nat.le_of_ble_eq_true rfl)).mpr z)
    refine lv_aload_n hx hb dX9_freshName_11 rfl (lv_at hl 0 rfl) ?_
    refine va_calli (va_runV (As := []) (rest := []) ⟨hx, hb, hml, hown, hts⟩ (c_M_clockCalled_0 l dC dI _ ad ck x0 x16 x18 x19 x20 x21 x22 x23 x24 x25 z26_2 z27_3 x29 x30 x33 x45 x46 x52 x53 x61 x62 x63 x65 x66 f1 f2 f3 q4 q5 q6 q7 f8 q9 q10 f11 m12_0 m12_1 m13_0 m13_1 m14_0 m14_1 m15_0 m15_1 f17 q31 f32 f34 f35 f36 f37 q38 f39 f40 f41 m42_0 m42_1 f43 f44 f47 f48 f49 f50 f51 q54 q55 q56 f57 q58 f59 f60 f64 hx16 hx18 hx19 hx21 hx22 hz26_2 hx29 hx30 hx33 hx46 hx52 hx53 hx61 hx62 hx63 hx65 hm12_0 hm12_1 hm13_0 hm13_1 hm14_0 hm14_1 hm15_0 hm15_1 hm42_0 hm42_1) (cwV 0 hts g_M_freshName_0_M_clockCalled_0 rfl rfl rfl (by decide +kernel) ⟨Nat.le_of_ble_eq_true rfl, Nat.le_of_ble_eq_true rfl⟩) ⟨pu_bl, va_recv hK hP (ci := 9) (q0 := 0) rfl rfl, pu_in hP hK hD⟩ rfl rfl hl.1 rfl (lv_room (Nat.le_of_ble_eq_true rfl)) dX9_freshName_12 ⟨Nat.le_of_ble_eq_true rfl, Nat.le_of_ble_eq_true rfl⟩) hS (fun q _ h => pu_fr hS hA q h) (pu_fr hS hA) (fun r_19 u t H1 locs ht hvm hw hB hz1 hk1 hS => ?_)
    have hP := pu_keep hP hk1
    clear hk1 hz1 ht hvm
    generalize H1 = H at hP hS ⊢
    rcases hw with rfl | ⟨u_20, hu_20, rfl⟩
    · refine lv_if_ge (tgt := 25) hx hb dX9_freshName_15 (by decide) (fun z => absurd z (by decide)) (fun _ => ?_)
      refine lv_aload_n hx hb dX9_freshName_18 rfl (lv_at hl 0 rfl) ?_
      refine va_calli (va_runV (As := []) (rest := []) ⟨hx, hb, hml, hown, hts⟩ (c_M_placeCalled_0 l dC dI _ ad ck x0 x16 x18 x19 x20 x21 x22 x23 x24 x25 z26_2 z27_3 x29 x30 x33 x45 x46 x52 x53 x61 x62 x63 x65 x66 f1 f2 f3 q4 q5 q6 q7 f8 q9 q10 f11 m12_0 m12_1 m13_0 m13_1 m14_0 m14_1 m15_0 m15_1 f17 q31 f32 f34 f35 f36 f37 q38 f39 f40 f41 m42_0 m42_1 f43 f44 f47 f48 f49 f50 f51 q54 q55 q56 f57 q58 f59 f60 f64 hx16 hx18 hx19 hx21 hx22 hz26_2 hx29 hx30 hx33 hx46 hx52 hx53 hx61 hx62 hx63 hx65 hm12_0 hm12_1 hm13_0 hm13_1 hm14_0 hm14_1 hm15_0 hm15_1 hm42_0 hm42_1) (cwV 0 hts g_M_freshName_0_M_placeCalled_0 rfl rfl rfl (by decide +kernel) ⟨Nat.le_of_ble_eq_true rfl, Nat.le_of_ble_eq_true rfl⟩) ⟨pu_bl, va_recv hK hP (ci := 9) (q0 := 0) rfl rfl, pu_in hP hK hD⟩ rfl rfl hl.1 rfl (lv_room (Nat.le_of_ble_eq_true rfl)) dX9_freshName_19 ⟨Nat.le_of_ble_eq_true rfl, Nat.le_of_ble_eq_true rfl⟩) hS (fun q _ h => pu_fr hS hA q h) (pu_fr hS hA) (fun r_21 u t H1 locs ht hvm hw hB hz1 hk1 hS => ?_)
      have hP := pu_keep hP hk1
      clear hk1 hz1 ht hvm
      generalize H1 = H at hP hS ⊢
      rcases hw with rfl | ⟨u_22, hu_22, rfl⟩
      · refine lv_if_lt (tgt := 30) hx hb dX9_freshName_22 (by decide) (fun _ => ?_) (fun z => absurd z (by decide))
        exact j_9 _ _ _ _ ⟨z26_2, z27_3, rfl, hz26_2, by omega, hP, hD, hS, lv_sub hl [0] rfl⟩
      · refine lv_if_lt (tgt := 30) hx hb dX9_freshName_22 (by decide) (fun c_23 => ?_) (fun c_23 => ?_)
        · have c_23 : u_22 < 0 := (nI_ltI (a := u_22) (b := 0) (Nat.lt_of_le_of_lt hu_22 (Nat.le_of_ble_eq_true rfl)) (Nat.le_of_ble_eq_true rfl)).mp c_23
          exfalso
          omega
        · have c_23 : ¬ u_22 < 0 := fun z => c_23 ((nI_ltI (a := u_22) (b := 0) (Nat.lt_of_le_of_lt hu_22 (Nat.le_of_ble_eq_true rfl)) (Nat.le_of_ble_eq_true rfl)).mpr z)
          refine lv_aload_n hx hb dX9_freshName_25 rfl (lv_at hl 0 rfl) ?_
          refine lv_iconst (v := 3) hx hb dX9_freshName_26 (by decide) ?_
          have hFc := pu_free hD hS hA
          refine va_callv (va_runV (As := [.int 3]) (rest := []) ⟨hx, hb, hml, hown, hts⟩ (c_M_fails l dC dI _ ad ck x0 x16 x18 x19 x20 x21 x22 x23 x24 x25 z26_2 z27_3 0 x29 x30 x33 x45 x46 x52 x53 x61 x62 x63 x65 x66 f1 f2 f3 q4 q5 q6 q7 f8 q9 q10 f11 m12_0 m12_1 m13_0 m13_1 m14_0 m14_1 m15_0 m15_1 f17 q31 f32 f34 f35 f36 f37 q38 f39 f40 f41 m42_0 m42_1 f43 f44 f47 f48 f49 f50 f51 q54 q55 q56 f57 q58 f59 f60 f64 3 hx16 hx18 hx19 hx21 hx22 hz26_2 (Nat.le_of_ble_eq_true rfl) hx29 hx30 hx33 hx46 hx52 hx53 hx61 hx62 hx63 hx65 hm12_0 hm12_1 hm13_0 hm13_1 hm14_0 hm14_1 hm15_0 hm15_1 hm42_0 hm42_1 (Nat.le_of_ble_eq_true rfl) (by omega)) (cwV 1 hts g_M_freshName_0_M_fails rfl rfl rfl (by decide +kernel) ⟨Nat.le_of_ble_eq_true rfl, Nat.le_of_ble_eq_true rfl⟩) ⟨pu_bl, va_recv hK hP (ci := 9) (q0 := 0) rfl rfl, pu_in hP hK hD⟩ rfl rfl hl.1 rfl (lv_room (Nat.le_of_ble_eq_true rfl)) dX9_freshName_27 ⟨Nat.le_of_ble_eq_true rfl, Nat.le_of_ble_eq_true rfl⟩) hS (fun q _ h => hFc q h) hFc (fun u t H1 locs ht hvm hw hB hz1 hk1 hS => ?_)
          obtain ⟨z26_25, z27_26, ⟨hP1, -, hD1⟩, hz26_25, xr_24_0⟩ := hB
          rw [ht] at hP1
          have hP := hP1
          have hD := pu_all hFc hD1
          clear hP1 hD1 hFc
          clear hk1 hz1 ht hvm
          generalize H1 = H at hP hS ⊢
          exact j_9 _ _ _ _ ⟨z26_25, z27_26, rfl, hz26_25, by omega, hP, hD, hS, lv_sub hl [0] rfl⟩
    · refine lv_if_ge (tgt := 25) hx hb dX9_freshName_15 (by decide) (fun c_27 => ?_) (fun c_27 => ?_)
      · have c_27 : 0 ≤ u_20 := (nI_leI (a := 0) (b := u_20) (Nat.le_of_ble_eq_true rfl) (Nat.lt_of_le_of_lt hu_20 (Nat.le_of_ble_eq_true rfl))).mp c_27
        refine lv_aload_n hx hb dX9_freshName_25 rfl (lv_at hl 0 rfl) ?_
        refine lv_iconst (v := 3) hx hb dX9_freshName_26 (by decide) ?_
        have hFc := pu_free hD hS hA
        refine va_callv (va_runV (As := [.int 3]) (rest := []) ⟨hx, hb, hml, hown, hts⟩ (c_M_fails l dC dI _ ad ck x0 x16 x18 x19 x20 x21 x22 x23 x24 x25 z26_2 z27_3 0 x29 x30 x33 x45 x46 x52 x53 x61 x62 x63 x65 x66 f1 f2 f3 q4 q5 q6 q7 f8 q9 q10 f11 m12_0 m12_1 m13_0 m13_1 m14_0 m14_1 m15_0 m15_1 f17 q31 f32 f34 f35 f36 f37 q38 f39 f40 f41 m42_0 m42_1 f43 f44 f47 f48 f49 f50 f51 q54 q55 q56 f57 q58 f59 f60 f64 3 hx16 hx18 hx19 hx21 hx22 hz26_2 (Nat.le_of_ble_eq_true rfl) hx29 hx30 hx33 hx46 hx52 hx53 hx61 hx62 hx63 hx65 hm12_0 hm12_1 hm13_0 hm13_1 hm14_0 hm14_1 hm15_0 hm15_1 hm42_0 hm42_1 (Nat.le_of_ble_eq_true rfl) (by omega)) (cwV 1 hts g_M_freshName_0_M_fails rfl rfl rfl (by decide +kernel) ⟨Nat.le_of_ble_eq_true rfl, Nat.le_of_ble_eq_true rfl⟩) ⟨pu_bl, va_recv hK hP (ci := 9) (q0 := 0) rfl rfl, pu_in hP hK hD⟩ rfl rfl hl.1 rfl (lv_room (Nat.le_of_ble_eq_true rfl)) dX9_freshName_27 ⟨Nat.le_of_ble_eq_true rfl, Nat.le_of_ble_eq_true rfl⟩) hS (fun q _ h => hFc q h) hFc (fun u t H1 locs ht hvm hw hB hz1 hk1 hS => ?_)
        obtain ⟨z26_29, z27_30, ⟨hP1, -, hD1⟩, hz26_29, xr_28_0⟩ := hB
        rw [ht] at hP1
        have hP := hP1
        have hD := pu_all hFc hD1
        clear hP1 hD1 hFc
        clear hk1 hz1 ht hvm
        generalize H1 = H at hP hS ⊢
        exact j_9 _ _ _ _ ⟨z26_29, z27_30, rfl, hz26_29, by omega, hP, hD, hS, lv_sub hl [0] rfl⟩
      · have c_27 : ¬ 0 ≤ u_20 := fun z => c_27 ((nI_leI (a := 0) (b := u_20) (Nat.le_of_ble_eq_true rfl) (Nat.lt_of_le_of_lt hu_20 (Nat.le_of_ble_eq_true rfl))).mpr z)
        exfalso
        omega
theorem dX9_toldClock_0 : decode cX9_toldClock 0 = .ok (.aload_n 0, 1) := by decide +kernel
theorem dX9_toldClock_1 : decode cX9_toldClock 1 = .ok (.invokevirtual 213, 3) := by decide +kernel
theorem dX9_toldClock_4 : decode cX9_toldClock 4 = .ok (.aload_n 0, 1) := by decide +kernel
theorem dX9_toldClock_5 : decode cX9_toldClock 5 = .ok (.invokevirtual 216, 3) := by decide +kernel
theorem dX9_toldClock_8 : decode cX9_toldClock 8 = .ok (.ifCond .eq 10, 3) := by decide +kernel
theorem dX9_toldClock_11 : decode cX9_toldClock 11 = .ok (.aload_n 0, 1) := by decide +kernel
theorem dX9_toldClock_12 : decode cX9_toldClock 12 = .ok (.invokevirtual 219, 3) := by decide +kernel
theorem dX9_toldClock_15 : decode cX9_toldClock 15 = .ok (.goto 4, 3) := by decide +kernel
theorem dX9_toldClock_18 : decode cX9_toldClock 18 = .ok (.iconst 0, 1) := by decide +kernel
theorem dX9_toldClock_19 : decode cX9_toldClock 19 = .ok (.istore_n 1, 1) := by decide +kernel
theorem dX9_toldClock_20 : decode cX9_toldClock 20 = .ok (.iload_n 1, 1) := by decide +kernel
theorem dX9_toldClock_21 : decode cX9_toldClock 21 = .ok (.ifCond .ge 8, 3) := by decide +kernel
theorem dX9_toldClock_24 : decode cX9_toldClock 24 = .ok (.aload_n 0, 1) := by decide +kernel
theorem dX9_toldClock_25 : decode cX9_toldClock 25 = .ok (.iconst 3, 1) := by decide +kernel
theorem dX9_toldClock_26 : decode cX9_toldClock 26 = .ok (.invokevirtual 210, 3) := by decide +kernel
theorem dX9_toldClock_29 : decode cX9_toldClock 29 = .ok (.iconst 0, 1) := by decide +kernel
theorem dX9_toldClock_30 : decode cX9_toldClock 30 = .ok (.iload_n 1, 1) := by decide +kernel
theorem dX9_toldClock_31 : decode cX9_toldClock 31 = .ok (.invokestatic 229, 3) := by decide +kernel
theorem dX9_toldClock_34 : decode cX9_toldClock 34 = .ok (.ireturn, 1) := by decide +kernel
abbrev vs_M_toldClock_0 : List Cond := .code yX9_toldClock cX9_toldClock 2 (some .int) :: VM
theorem g_M_toldClock_0_M_mustBeName : GoodIn vs_M_toldClock_0 (wsV RX9 213 RX9 yX9_mustBeName vs_M_mustBeName) := gm_V vm_88 vm_89 vm_90 vm_12 vm_54
theorem g_M_toldClock_0_M_isGood : GoodIn vs_M_toldClock_0 (wsV RX9 216 RX9 yX9_isGood vs_M_isGood) := gm_V vm_91 vm_92 vm_93 vm_12 vm_15
theorem g_M_toldClock_0_M_greater_0 : GoodIn vs_M_toldClock_0 (va_wsS RX9 229 yX9_greater vs_M_greater_0) := gm_S vm_104 vm_105 vm_12 vm_4
theorem g_M_toldClock_0_M_clockCalled_0 : GoodIn vs_M_toldClock_0 (wsV RX9 219 RX9 yX9_clockCalled vs_M_clockCalled_0) := gm_V vm_94 vm_95 vm_96 vm_12 vm_81
theorem g_M_toldClock_0_M_fails : GoodIn vs_M_toldClock_0 (wsV RX9 210 RX9 yX9_fails vs_M_fails) := gm_V vm_55 vm_56 vm_57 vm_12 vm_39
theorem g_M_toldClock_0_M_greater_n : GoodIn vs_M_toldClock_0 (va_wsS RX9 229 yX9_greater vs_M_greater_n) := gm_S vm_104 vm_105 vm_12 vm_4
set_option maxHeartbeats 4000000 in
set_option maxRecDepth 100000 in
theorem c_M_toldClock_0 (l : Launch) (dC : Nat → ClassId) (dI : Nat → Nat → Nat) (sz : Nat) (ad : Nat → Nat) (ck : Nat → ClassId) (x0 : Int32) (x16 : Nat) (x18 : Nat) (x19 : Nat) (x20 : Int32) (x21 : Nat) (x22 : Nat) (x23 : Int32) (x24 : Int32) (x25 : Int32) (x26 : Nat) (x27 : Int32) (x29 : Nat) (x30 : Nat) (x33 : Nat) (x45 : Int32) (x46 : Nat) (x52 : Nat) (x53 : Nat) (x61 : Nat) (x62 : Nat) (x63 : Nat) (x65 : Nat) (x66 : Int32) (f1 : Nat → Int32) (f2 : Nat → Int32) (f3 : Nat → Int32) (q4 : Nat → Nat) (q5 : Nat → Nat) (q6 : Nat → Nat) (q7 : Nat → Nat) (f8 : Nat → Int32) (q9 : Nat → Nat) (q10 : Nat → Nat) (f11 : Nat → Int32) (m12_0 m12_1 : Nat) (m13_0 m13_1 : Nat) (m14_0 m14_1 : Nat) (m15_0 m15_1 : Nat) (f17 : Nat → Int32) (q31 : Nat → Nat) (f32 : Nat → Int32) (f34 : Nat → Int32) (f35 : Nat → Int32) (f36 : Nat → Int32) (f37 : Nat → Int32) (q38 : Nat → Nat) (f39 : Nat → Int32) (f40 : Nat → Int32) (f41 : Nat → Int32) (m42_0 m42_1 : Nat) (f43 : Nat → Int32) (f44 : Nat → Int32) (f47 : Nat → Int32) (f48 : Nat → Int32) (f49 : Nat → Int32) (f50 : Nat → Int32) (f51 : Nat → Int32) (q54 : Nat → Nat) (q55 : Nat → Nat) (q56 : Nat → Nat) (f57 : Nat → Int32) (q58 : Nat → Nat) (f59 : Nat → Int32) (f60 : Nat → Int32) (f64 : Nat → Int32) (hx16 : x16 ≤ 1) (hx18 : x18 ≤ 900) (hx19 : x19 ≤ 900) (hx21 : x21 ≤ 900) (hx22 : x22 ≤ 4) (hx26 : x26 ≤ 6) (hx29 : x29 ≤ 1) (hx30 : x30 ≤ 1) (hx33 : x33 ≤ 20) (hx46 : x46 ≤ 5) (hx52 : x52 ≤ 2400) (hx53 : x53 ≤ 119) (hx61 : x61 ≤ 119) (hx62 : x62 ≤ 2000) (hx63 : x63 ≤ 1) (hx65 : x65 ≤ 7) (hm12_0 : m12_0 ≤ 3) (hm12_1 : m12_1 ≤ 3) (hm13_0 : m13_0 ≤ 8) (hm13_1 : m13_1 ≤ 8) (hm14_0 : m14_0 ≤ 14) (hm14_1 : m14_1 ≤ 14) (hm15_0 : m15_0 ≤ 8) (hm15_1 : m15_1 ≤ 8) (hm42_0 : m42_0 ≤ 120) (hm42_1 : m42_1 ≤ 400) : Met l yX9_toldClock vs_M_toldClock_0 ({ frames := 3, cells := 0, slots := 0, locals := 61 }) (va_Pc [.ref (ad 0)] (pu_B (dC, dI) (mo_w ad ck x0 (nI x16) (nI x18) (nI x19) x20 (nI x21) (nI x22) x23 x24 x25 (nI x26) x27 0 (nI x29) (nI x30) (nI x33) x45 (nI x46) (nI x52) (nI x53) (nI x61) (nI x62) (nI x63) (nI x65) x66 f1 f2 f3 (bN 3 q4) (bN 7 q5) (bN 7 q6) (bN 4 q7) f8 (bN 2 q9) (bH q10) f11 (b2 m12_0 m12_1) (b2 m13_0 m13_1) (b2 m14_0 m14_1) (b2m m15_0 m15_1) f17 (bA 159 q31) f32 f34 f35 f36 f37 (bN 7 q38) f39 f40 f41 (b2 m42_0 m42_1) f43 f44 f47 f48 f49 f50 f51 (bN 13 q54) (bN 120 q55) (bN 120 q56) f57 (bN 120 q58) f59 f60 f64) (mo_t ck) sz)) (va_Qi (fun (r : Int32) (_ : Unit) => ∃ v : Nat, v ≤ 2 ∧ r = nI v) (fun _ t => ∃ (z26 : Nat) (z27 : Int32), pu_E (dC, dI) (mo_w ad ck x0 (nI x16) (nI x18) (nI x19) x20 (nI x21) (nI x22) x23 x24 x25 (nI z26) z27 0 (nI x29) (nI x30) (nI x33) x45 (nI x46) (nI x52) (nI x53) (nI x61) (nI x62) (nI x63) (nI x65) x66 f1 f2 f3 (bN 3 q4) (bN 7 q5) (bN 7 q6) (bN 4 q7) f8 (bN 2 q9) (bH q10) f11 (b2 m12_0 m12_1) (b2 m13_0 m13_1) (b2 m14_0 m14_1) (b2m m15_0 m15_1) f17 (bA 159 q31) f32 f34 f35 f36 f37 (bN 7 q38) f39 f40 f41 (b2 m42_0 m42_1) f43 f44 f47 f48 f49 f50 f51 (bN 13 q54) (bN 120 q55) (bN 120 q56) f57 (bN 120 q58) f59 f60 f64) (mo_t ck) (va_A ((mo_w ad ck x0 (nI x16) (nI x18) (nI x19) x20 (nI x21) (nI x22) x23 x24 x25 (nI x26) x27 0 (nI x29) (nI x30) (nI x33) x45 (nI x46) (nI x52) (nI x53) (nI x61) (nI x62) (nI x63) (nI x65) x66 f1 f2 f3 (bN 3 q4) (bN 7 q5) (bN 7 q6) (bN 4 q7) f8 (bN 2 q9) (bH q10) f11 (b2 m12_0 m12_1) (b2 m13_0 m13_1) (b2 m14_0 m14_1) (b2m m15_0 m15_1) f17 (bA 159 q31) f32 f34 f35 f36 f37 (bN 7 q38) f39 f40 f41 (b2 m42_0 m42_1) f43 f44 f47 f48 f49 f50 f51 (bN 13 q54) (bN 120 q55) (bN 120 q56) f57 (bN 120 q58) f59 f60 f64)) sz) t ∧ (z26 ≤ 6)) (va_A ((mo_w ad ck x0 (nI x16) (nI x18) (nI x19) x20 (nI x21) (nI x22) x23 x24 x25 (nI x26) x27 0 (nI x29) (nI x30) (nI x33) x45 (nI x46) (nI x52) (nI x53) (nI x61) (nI x62) (nI x63) (nI x65) x66 f1 f2 f3 (bN 3 q4) (bN 7 q5) (bN 7 q6) (bN 4 q7) f8 (bN 2 q9) (bH q10) f11 (b2 m12_0 m12_1) (b2 m13_0 m13_1) (b2 m14_0 m14_1) (b2m m15_0 m15_1) f17 (bA 159 q31) f32 f34 f35 f36 f37 (bN 7 q38) f39 f40 f41 (b2 m42_0 m42_1) f43 f44 f47 f48 f49 f50 f51 (bN 13 q54) (bN 120 q55) (bN 120 q56) f57 (bN 120 q58) f59 f60 f64)) sz)) 0 0 (va_A ((mo_w ad ck x0 (nI x16) (nI x18) (nI x19) x20 (nI x21) (nI x22) x23 x24 x25 (nI x26) x27 0 (nI x29) (nI x30) (nI x33) x45 (nI x46) (nI x52) (nI x53) (nI x61) (nI x62) (nI x63) (nI x65) x66 f1 f2 f3 (bN 3 q4) (bN 7 q5) (bN 7 q6) (bN 4 q7) f8 (bN 2 q9) (bH q10) f11 (b2 m12_0 m12_1) (b2 m13_0 m13_1) (b2 m14_0 m14_1) (b2m m15_0 m15_1) f17 (bA 159 q31) f32 f34 f35 f36 f37 (bN 7 q38) f39 f40 f41 (b2 m42_0 m42_1) f43 f44 f47 f48 f49 f50 f51 (bN 13 q54) (bN 120 q55) (bN 120 q56) f57 (bN 120 q58) f59 f60 f64)) sz) := by
  refine Met.ofW (cc := cX9_toldClock) (maxL := 2) (ret := (some .int)) (by decide) rfl ?_
  intro p e s m args below meth c s₁ B hml hv
  obtain ⟨rfl, rfl, hP, hK, hD0⟩ := hv
  have hx := B.exec
  have hb := B.bytes
  have hr := B.returns
  have hts := atoms_spec (ws := vs_M_toldClock_0) B.pre
  have hown : s.vm.findClass RX9 = some m.cls := findClass_of_methodNamed B.named
  have hlocks := B.notSynchronized
  have hD := hD0.self (sz := s.heap.size)
  generalize hAe : va_A ((mo_w ad ck x0 (nI x16) (nI x18) (nI x19) x20 (nI x21) (nI x22) x23 x24 x25 (nI x26) x27 0 (nI x29) (nI x30) (nI x33) x45 (nI x46) (nI x52) (nI x53) (nI x61) (nI x62) (nI x63) (nI x65) x66 f1 f2 f3 (bN 3 q4) (bN 7 q5) (bN 7 q6) (bN 4 q7) f8 (bN 2 q9) (bH q10) f11 (b2 m12_0 m12_1) (b2 m13_0 m13_1) (b2 m14_0 m14_1) (b2m m15_0 m15_1) f17 (bA 159 q31) f32 f34 f35 f36 f37 (bN 7 q38) f39 f40 f41 (b2 m42_0 m42_1) f43 f44 f47 f48 f49 f50 f51 (bN 13 q54) (bN 120 q55) (bN 120 q56) f57 (bN 120 q58) f59 f60 f64)) s.heap.size = A at hD ⊢
  have hA : ∀ q : Nat, s.heap.size ≤ q → A q := fun q h => by rw [← hAe]; exact Or.inr h
  have hS : va_S A s.heap s.heap [] := va_S.rf
  have hl := lv_entry ([.ref (ad 0)]) (n := 2) (Nat.le_of_ble_eq_true rfl)
  rw [lg_entry_eq]
  generalize (lg_sl ([.ref (ad 0)]) ++ List.replicate (2 - (lg_sl ([.ref (ad 0)])).length) Slot.unset).toArray = ls at hl ⊢
  have hl : lv_has ls 2 [(0, .ref (ad 0))] := hl
  refine lv_aload_n hx hb dX9_toldClock_0 rfl (lv_at hl 0 rfl) ?_
  have hFc := pu_free hD hS hA
  refine va_callv (va_runV (As := []) (rest := []) ⟨hx, hb, hml, hown, hts⟩ (c_M_mustBeName l dC dI _ ad ck x0 x16 x18 x19 x20 x21 x22 x23 x24 x25 x26 x27 0 x29 x30 x33 x45 x46 x52 x53 x61 x62 x63 x65 x66 f1 f2 f3 q4 q5 q6 q7 f8 q9 q10 f11 m12_0 m12_1 m13_0 m13_1 m14_0 m14_1 m15_0 m15_1 f17 q31 f32 f34 f35 f36 f37 q38 f39 f40 f41 m42_0 m42_1 f43 f44 f47 f48 f49 f50 f51 q54 q55 q56 f57 q58 f59 f60 f64 hx16 hx18 hx19 hx21 hx22 hx26 (Nat.le_of_ble_eq_true rfl) hx29 hx30 hx33 hx46 hx52 hx53 hx61 hx62 hx63 hx65 hm12_0 hm12_1 hm13_0 hm13_1 hm14_0 hm14_1 hm15_0 hm15_1 hm42_0 hm42_1) (cwV 0 hts g_M_toldClock_0_M_mustBeName rfl rfl rfl (by decide +kernel) ⟨Nat.le_of_ble_eq_true rfl, Nat.le_of_ble_eq_true rfl⟩) ⟨pu_bl, va_recv hK hP (ci := 9) (q0 := 0) rfl rfl, pu_in hP hK hD⟩ rfl rfl hl.1 rfl (lv_room (Nat.le_of_ble_eq_true rfl)) dX9_toldClock_1 ⟨Nat.le_of_ble_eq_true rfl, Nat.le_of_ble_eq_true rfl⟩) hS (fun q _ h => hFc q h) hFc (fun u t H1 locs ht hvm hw hB hz1 hk1 hS => ?_)
  obtain ⟨z26_2, z27_3, ⟨hP1, -, hD1⟩, hz26_2, xr_1_0⟩ := hB
  rw [ht] at hP1
  have hP := hP1
  have hD := pu_all hFc hD1
  clear hP1 hD1 hFc
  clear hk1 hz1 ht hvm
  generalize H1 = H at hP hS ⊢
  refine lv_aload_n hx hb dX9_toldClock_4 rfl (lv_at hl 0 rfl) ?_
  refine va_calli (va_runV (As := []) (rest := []) ⟨hx, hb, hml, hown, hts⟩ (c_M_isGood l dC dI _ ad ck x0 x16 x18 x19 x20 x21 x22 x23 x24 x25 z26_2 z27_3 0 x29 x30 x33 x45 x46 x52 x53 x61 x62 x63 x65 x66 f1 f2 f3 q4 q5 q6 q7 f8 q9 q10 f11 m12_0 m12_1 m13_0 m13_1 m14_0 m14_1 m15_0 m15_1 f17 q31 f32 f34 f35 f36 f37 q38 f39 f40 f41 m42_0 m42_1 f43 f44 f47 f48 f49 f50 f51 q54 q55 q56 f57 q58 f59 f60 f64 hx16 hx18 hx19 hx21 hx22 hz26_2 (Nat.le_of_ble_eq_true rfl) hx29 hx30 hx33 hx46 hx52 hx53 hx61 hx62 hx63 hx65 hm12_0 hm12_1 hm13_0 hm13_1 hm14_0 hm14_1 hm15_0 hm15_1 hm42_0 hm42_1) (cwV 0 hts g_M_toldClock_0_M_isGood rfl rfl rfl (by decide +kernel) ⟨Nat.le_of_ble_eq_true rfl, Nat.le_of_ble_eq_true rfl⟩) ⟨pu_bl, va_recv hK hP (ci := 9) (q0 := 0) rfl rfl, pu_in hP hK hD⟩ rfl rfl hl.1 rfl (lv_room (Nat.le_of_ble_eq_true rfl)) dX9_toldClock_5 ⟨Nat.le_of_ble_eq_true rfl, Nat.le_of_ble_eq_true rfl⟩) hS (fun q _ h => pu_fr hS hA q h) (pu_fr hS hA) (fun r_4 u t H1 locs ht hvm hw hB hz1 hk1 hS => ?_)
  have hP := pu_keep hP hk1
  clear hk1 hz1 ht hvm
  generalize H1 = H at hP hS ⊢
  obtain ⟨u_5, hu_5, rfl, iu_5⟩ := hw
  refine lv_if_eq (tgt := 18) hx hb dX9_toldClock_8 (by decide) (fun c_6 => ?_) (fun c_6 => ?_)
  · have c_6 : u_5 = 0 := (nI_eq (a := u_5) (b := 0) (Nat.lt_of_le_of_lt hu_5 (Nat.le_of_ble_eq_true rfl)) (Nat.le_of_ble_eq_true rfl)).mp c_6
    refine lv_iconst (v := 0) hx hb dX9_toldClock_18 (by decide) ?_
    refine lv_istore_n (lv' := [(1, .int 0), (0, .ref (ad 0))]) hx hb dX9_toldClock_19 rfl hl (by decide) rfl (fun ls hl => ?_)
    refine lv_iload_n hx hb dX9_toldClock_20 rfl (lv_at hl 0 rfl) ?_
    refine lv_if_ge (tgt := 29) hx hb dX9_toldClock_21 (by decide) (fun _ => ?_) (fun z => absurd z (by decide))
    refine lv_iconst (v := 0) hx hb dX9_toldClock_29 (by decide) ?_
    refine lv_iload_n hx hb dX9_toldClock_30 rfl (lv_at hl 0 rfl) ?_
    refine va_calli (va_runS (As := [.int 0, .int 0]) (rest := []) ⟨hx, hb, hml, hown, hts⟩ (c_M_greater_0 l dC dI _ ad ck x0 x16 x18 x19 x20 x21 x22 x23 x24 x25 z26_2 z27_3 0 x29 x30 x33 x45 x46 x52 x53 x61 x62 x63 x65 x66 f1 f2 f3 q4 q5 q6 q7 f8 q9 q10 f11 m12_0 m12_1 m13_0 m13_1 m14_0 m14_1 m15_0 m15_1 f17 q31 f32 f34 f35 f36 f37 q38 f39 f40 f41 m42_0 m42_1 f43 f44 f47 f48 f49 f50 f51 q54 q55 q56 f57 q58 f59 f60 f64 0 hx16 hx18 hx19 hx21 hx22 hz26_2 (Nat.le_of_ble_eq_true rfl) hx29 hx30 hx33 hx46 hx52 hx53 hx61 hx62 hx63 hx65 hm12_0 hm12_1 hm13_0 hm13_1 hm14_0 hm14_1 hm15_0 hm15_1 hm42_0 hm42_1 (Nat.le_of_ble_eq_true rfl)) (va_cwS 2 hts g_M_toldClock_0_M_greater_0 rfl rfl rfl (by decide +kernel) ⟨Nat.le_of_ble_eq_true rfl, Nat.le_of_ble_eq_true rfl⟩) ⟨pu_bl, pu_in hP hK hD⟩ rfl rfl hl.1 rfl (lv_room (Nat.le_of_ble_eq_true rfl)) dX9_toldClock_31 ⟨Nat.le_of_ble_eq_true rfl, Nat.le_of_ble_eq_true rfl⟩) hS (fun q _ h => pu_fr hS hA q h) (pu_fr hS hA) (fun r_7 u t H1 locs ht hvm hw hB hz1 hk1 hS => ?_)
    have hP := pu_keep hP hk1
    clear hk1 hz1 ht hvm
    generalize H1 = H at hP hS ⊢
    obtain rfl : r_7 = nI (0) := hw
    exact W.iret (v := (nI 0)) hx hb hr (fun t ht hW => ⟨⟨(nI 0), (), rfl, ⟨0, (Nat.le_of_ble_eq_true rfl), rfl⟩, ⟨z26_2, z27_3, ⟨by rw [ht]; exact hP, va_K.moved hW.alike hK, hD⟩, hz26_2⟩⟩, hS.F ht⟩) hS.2.2 dX9_toldClock_34
  · have c_6 : ¬ u_5 = 0 := fun z => c_6 ((nI_eq (a := u_5) (b := 0) (Nat.lt_of_le_of_lt hu_5 (Nat.le_of_ble_eq_true rfl)) (Nat.le_of_ble_eq_true rfl)).mpr z)
    refine lv_aload_n hx hb dX9_toldClock_11 rfl (lv_at hl 0 rfl) ?_
    refine va_calli (va_runV (As := []) (rest := []) ⟨hx, hb, hml, hown, hts⟩ (c_M_clockCalled_0 l dC dI _ ad ck x0 x16 x18 x19 x20 x21 x22 x23 x24 x25 z26_2 z27_3 x29 x30 x33 x45 x46 x52 x53 x61 x62 x63 x65 x66 f1 f2 f3 q4 q5 q6 q7 f8 q9 q10 f11 m12_0 m12_1 m13_0 m13_1 m14_0 m14_1 m15_0 m15_1 f17 q31 f32 f34 f35 f36 f37 q38 f39 f40 f41 m42_0 m42_1 f43 f44 f47 f48 f49 f50 f51 q54 q55 q56 f57 q58 f59 f60 f64 hx16 hx18 hx19 hx21 hx22 hz26_2 hx29 hx30 hx33 hx46 hx52 hx53 hx61 hx62 hx63 hx65 hm12_0 hm12_1 hm13_0 hm13_1 hm14_0 hm14_1 hm15_0 hm15_1 hm42_0 hm42_1) (cwV 0 hts g_M_toldClock_0_M_clockCalled_0 rfl rfl rfl (by decide +kernel) ⟨Nat.le_of_ble_eq_true rfl, Nat.le_of_ble_eq_true rfl⟩) ⟨pu_bl, va_recv hK hP (ci := 9) (q0 := 0) rfl rfl, pu_in hP hK hD⟩ rfl rfl hl.1 rfl (lv_room (Nat.le_of_ble_eq_true rfl)) dX9_toldClock_12 ⟨Nat.le_of_ble_eq_true rfl, Nat.le_of_ble_eq_true rfl⟩) hS (fun q _ h => pu_fr hS hA q h) (pu_fr hS hA) (fun r_8 u t H1 locs ht hvm hw hB hz1 hk1 hS => ?_)
    have hP := pu_keep hP hk1
    clear hk1 hz1 ht hvm
    generalize H1 = H at hP hS ⊢
    rcases hw with rfl | ⟨u_9, hu_9, rfl⟩
    · refine lv_goto (tgt := 19) hx hb dX9_toldClock_15 (by decide) ?_
      refine lv_istore_n (lv' := [(1, .int (-1)), (0, .ref (ad 0))]) hx hb dX9_toldClock_19 rfl hl (by decide) rfl (fun ls hl => ?_)
      refine lv_iload_n hx hb dX9_toldClock_20 rfl (lv_at hl 0 rfl) ?_
      refine lv_if_ge (tgt := 29) hx hb dX9_toldClock_21 (by decide) (fun z => absurd z (by decide)) (fun _ => ?_)
      refine lv_aload_n hx hb dX9_toldClock_24 rfl (lv_at hl 1 rfl) ?_
      refine lv_iconst (v := 3) hx hb dX9_toldClock_25 (by decide) ?_
      have hFc := pu_free hD hS hA
      refine va_callv (va_runV (As := [.int 3]) (rest := []) ⟨hx, hb, hml, hown, hts⟩ (c_M_fails l dC dI _ ad ck x0 x16 x18 x19 x20 x21 x22 x23 x24 x25 z26_2 z27_3 0 x29 x30 x33 x45 x46 x52 x53 x61 x62 x63 x65 x66 f1 f2 f3 q4 q5 q6 q7 f8 q9 q10 f11 m12_0 m12_1 m13_0 m13_1 m14_0 m14_1 m15_0 m15_1 f17 q31 f32 f34 f35 f36 f37 q38 f39 f40 f41 m42_0 m42_1 f43 f44 f47 f48 f49 f50 f51 q54 q55 q56 f57 q58 f59 f60 f64 3 hx16 hx18 hx19 hx21 hx22 hz26_2 (Nat.le_of_ble_eq_true rfl) hx29 hx30 hx33 hx46 hx52 hx53 hx61 hx62 hx63 hx65 hm12_0 hm12_1 hm13_0 hm13_1 hm14_0 hm14_1 hm15_0 hm15_1 hm42_0 hm42_1 (Nat.le_of_ble_eq_true rfl) (by omega)) (cwV 1 hts g_M_toldClock_0_M_fails rfl rfl rfl (by decide +kernel) ⟨Nat.le_of_ble_eq_true rfl, Nat.le_of_ble_eq_true rfl⟩) ⟨pu_bl, va_recv hK hP (ci := 9) (q0 := 0) rfl rfl, pu_in hP hK hD⟩ rfl rfl hl.1 rfl (lv_room (Nat.le_of_ble_eq_true rfl)) dX9_toldClock_26 ⟨Nat.le_of_ble_eq_true rfl, Nat.le_of_ble_eq_true rfl⟩) hS (fun q _ h => hFc q h) hFc (fun u t H1 locs ht hvm hw hB hz1 hk1 hS => ?_)
      obtain ⟨z26_11, z27_12, ⟨hP1, -, hD1⟩, hz26_11, xr_10_0⟩ := hB
      rw [ht] at hP1
      have hP := hP1
      have hD := pu_all hFc hD1
      clear hP1 hD1 hFc
      clear hk1 hz1 ht hvm
      generalize H1 = H at hP hS ⊢
      refine lv_iconst (v := 0) hx hb dX9_toldClock_29 (by decide) ?_
      refine lv_iload_n hx hb dX9_toldClock_30 rfl (lv_at hl 0 rfl) ?_
      refine va_calli (va_runS (As := [.int 0, .int (-1)]) (rest := []) ⟨hx, hb, hml, hown, hts⟩ (c_M_greater_n l dC dI _ ad ck x0 x16 x18 x19 x20 x21 x22 x23 x24 x25 z26_11 z27_12 0 x29 x30 x33 x45 x46 x52 x53 x61 x62 x63 x65 x66 f1 f2 f3 q4 q5 q6 q7 f8 q9 q10 f11 m12_0 m12_1 m13_0 m13_1 m14_0 m14_1 m15_0 m15_1 f17 q31 f32 f34 f35 f36 f37 q38 f39 f40 f41 m42_0 m42_1 f43 f44 f47 f48 f49 f50 f51 q54 q55 q56 f57 q58 f59 f60 f64 hx16 hx18 hx19 hx21 hx22 hz26_11 (Nat.le_of_ble_eq_true rfl) hx29 hx30 hx33 hx46 hx52 hx53 hx61 hx62 hx63 hx65 hm12_0 hm12_1 hm13_0 hm13_1 hm14_0 hm14_1 hm15_0 hm15_1 hm42_0 hm42_1) (va_cwS 2 hts g_M_toldClock_0_M_greater_n rfl rfl rfl (by decide +kernel) ⟨Nat.le_of_ble_eq_true rfl, Nat.le_of_ble_eq_true rfl⟩) ⟨pu_bl, pu_in hP hK hD⟩ rfl rfl hl.1 rfl (lv_room (Nat.le_of_ble_eq_true rfl)) dX9_toldClock_31 ⟨Nat.le_of_ble_eq_true rfl, Nat.le_of_ble_eq_true rfl⟩) hS (fun q _ h => pu_fr hS hA q h) (pu_fr hS hA) (fun r_13 u t H1 locs ht hvm hw hB hz1 hk1 hS => ?_)
      have hP := pu_keep hP hk1
      clear hk1 hz1 ht hvm
      generalize H1 = H at hP hS ⊢
      obtain rfl : r_13 = 0 := hw
      exact W.iret (v := 0) hx hb hr (fun t ht hW => ⟨⟨0, (), rfl, ⟨0, (Nat.le_of_ble_eq_true rfl), rfl⟩, ⟨z26_11, z27_12, ⟨by rw [ht]; exact hP, va_K.moved hW.alike hK, hD⟩, hz26_11⟩⟩, hS.F ht⟩) hS.2.2 dX9_toldClock_34
    · refine lv_goto (tgt := 19) hx hb dX9_toldClock_15 (by decide) ?_
      refine lv_istore_n (lv' := [(1, .int (nI u_9)), (0, .ref (ad 0))]) hx hb dX9_toldClock_19 rfl hl (by decide) rfl (fun ls hl => ?_)
      refine lv_iload_n hx hb dX9_toldClock_20 rfl (lv_at hl 0 rfl) ?_
      refine lv_if_ge (tgt := 29) hx hb dX9_toldClock_21 (by decide) (fun c_14 => ?_) (fun c_14 => ?_)
      · have c_14 : 0 ≤ u_9 := (nI_leI (a := 0) (b := u_9) (Nat.le_of_ble_eq_true rfl) (Nat.lt_of_le_of_lt hu_9 (Nat.le_of_ble_eq_true rfl))).mp c_14
        refine lv_iconst (v := 0) hx hb dX9_toldClock_29 (by decide) ?_
        refine lv_iload_n hx hb dX9_toldClock_30 rfl (lv_at hl 0 rfl) ?_
        refine va_calli (va_runS (As := [.int 0, .int (nI u_9)]) (rest := []) ⟨hx, hb, hml, hown, hts⟩ (c_M_greater_0 l dC dI _ ad ck x0 x16 x18 x19 x20 x21 x22 x23 x24 x25 z26_2 z27_3 0 x29 x30 x33 x45 x46 x52 x53 x61 x62 x63 x65 x66 f1 f2 f3 q4 q5 q6 q7 f8 q9 q10 f11 m12_0 m12_1 m13_0 m13_1 m14_0 m14_1 m15_0 m15_1 f17 q31 f32 f34 f35 f36 f37 q38 f39 f40 f41 m42_0 m42_1 f43 f44 f47 f48 f49 f50 f51 q54 q55 q56 f57 q58 f59 f60 f64 u_9 hx16 hx18 hx19 hx21 hx22 hz26_2 (Nat.le_of_ble_eq_true rfl) hx29 hx30 hx33 hx46 hx52 hx53 hx61 hx62 hx63 hx65 hm12_0 hm12_1 hm13_0 hm13_1 hm14_0 hm14_1 hm15_0 hm15_1 hm42_0 hm42_1 (Nat.le_trans hu_9 (Nat.le_of_ble_eq_true rfl))) (va_cwS 2 hts g_M_toldClock_0_M_greater_0 rfl rfl rfl (by decide +kernel) ⟨Nat.le_of_ble_eq_true rfl, Nat.le_of_ble_eq_true rfl⟩) ⟨pu_bl, pu_in hP hK hD⟩ rfl rfl hl.1 rfl (lv_room (Nat.le_of_ble_eq_true rfl)) dX9_toldClock_31 ⟨Nat.le_of_ble_eq_true rfl, Nat.le_of_ble_eq_true rfl⟩) hS (fun q _ h => pu_fr hS hA q h) (pu_fr hS hA) (fun r_15 u t H1 locs ht hvm hw hB hz1 hk1 hS => ?_)
        have hP := pu_keep hP hk1
        clear hk1 hz1 ht hvm
        generalize H1 = H at hP hS ⊢
        obtain rfl : r_15 = nI (u_9) := hw
        exact W.iret (v := (nI u_9)) hx hb hr (fun t ht hW => ⟨⟨(nI u_9), (), rfl, ⟨u_9, hu_9, rfl⟩, ⟨z26_2, z27_3, ⟨by rw [ht]; exact hP, va_K.moved hW.alike hK, hD⟩, hz26_2⟩⟩, hS.F ht⟩) hS.2.2 dX9_toldClock_34
      · have c_14 : ¬ 0 ≤ u_9 := fun z => c_14 ((nI_leI (a := 0) (b := u_9) (Nat.le_of_ble_eq_true rfl) (Nat.lt_of_le_of_lt hu_9 (Nat.le_of_ble_eq_true rfl))).mpr z)
        exfalso
        omega
theorem dX9_toldPlace_0 : decode cX9_toldPlace 0 = .ok (.aload_n 0, 1) := by decide +kernel
theorem dX9_toldPlace_1 : decode cX9_toldPlace 1 = .ok (.invokevirtual 213, 3) := by decide +kernel
theorem dX9_toldPlace_4 : decode cX9_toldPlace 4 = .ok (.aload_n 0, 1) := by decide +kernel
theorem dX9_toldPlace_5 : decode cX9_toldPlace 5 = .ok (.invokevirtual 216, 3) := by decide +kernel
theorem dX9_toldPlace_8 : decode cX9_toldPlace 8 = .ok (.ifCond .eq 10, 3) := by decide +kernel
theorem dX9_toldPlace_11 : decode cX9_toldPlace 11 = .ok (.aload_n 0, 1) := by decide +kernel
theorem dX9_toldPlace_12 : decode cX9_toldPlace 12 = .ok (.invokevirtual 223, 3) := by decide +kernel
theorem dX9_toldPlace_15 : decode cX9_toldPlace 15 = .ok (.goto 4, 3) := by decide +kernel
theorem dX9_toldPlace_18 : decode cX9_toldPlace 18 = .ok (.iconst 0, 1) := by decide +kernel
theorem dX9_toldPlace_19 : decode cX9_toldPlace 19 = .ok (.istore_n 1, 1) := by decide +kernel
theorem dX9_toldPlace_20 : decode cX9_toldPlace 20 = .ok (.iload_n 1, 1) := by decide +kernel
theorem dX9_toldPlace_21 : decode cX9_toldPlace 21 = .ok (.ifCond .ge 8, 3) := by decide +kernel
theorem dX9_toldPlace_24 : decode cX9_toldPlace 24 = .ok (.aload_n 0, 1) := by decide +kernel
theorem dX9_toldPlace_25 : decode cX9_toldPlace 25 = .ok (.iconst 3, 1) := by decide +kernel
theorem dX9_toldPlace_26 : decode cX9_toldPlace 26 = .ok (.invokevirtual 210, 3) := by decide +kernel
theorem dX9_toldPlace_29 : decode cX9_toldPlace 29 = .ok (.aload_n 0, 1) := by decide +kernel
theorem dX9_toldPlace_30 : decode cX9_toldPlace 30 = .ok (.invokevirtual 216, 3) := by decide +kernel
theorem dX9_toldPlace_33 : decode cX9_toldPlace 33 = .ok (.ifCond .eq 7, 3) := by decide +kernel
theorem dX9_toldPlace_36 : decode cX9_toldPlace 36 = .ok (.aload_n 0, 1) := by decide +kernel
theorem dX9_toldPlace_37 : decode cX9_toldPlace 37 = .ok (.invokevirtual 226, 3) := by decide +kernel
theorem dX9_toldPlace_40 : decode cX9_toldPlace 40 = .ok (.iconst 0, 1) := by decide +kernel
theorem dX9_toldPlace_41 : decode cX9_toldPlace 41 = .ok (.iload_n 1, 1) := by decide +kernel
theorem dX9_toldPlace_42 : decode cX9_toldPlace 42 = .ok (.invokestatic 229, 3) := by decide +kernel
theorem dX9_toldPlace_45 : decode cX9_toldPlace 45 = .ok (.ireturn, 1) := by decide +kernel
abbrev vs_M_toldPlace_0 : List Cond := .code yX9_toldPlace cX9_toldPlace 2 (some .int) :: VM
theorem g_M_toldPlace_0_M_mustBeName : GoodIn vs_M_toldPlace_0 (wsV RX9 213 RX9 yX9_mustBeName vs_M_mustBeName) := gm_V vm_88 vm_89 vm_90 vm_12 vm_54
theorem g_M_toldPlace_0_M_isGood : GoodIn vs_M_toldPlace_0 (wsV RX9 216 RX9 yX9_isGood vs_M_isGood) := gm_V vm_91 vm_92 vm_93 vm_12 vm_15
theorem g_M_toldPlace_0_M_greater_0 : GoodIn vs_M_toldPlace_0 (va_wsS RX9 229 yX9_greater vs_M_greater_0) := gm_S vm_104 vm_105 vm_12 vm_4
theorem g_M_toldPlace_0_M_next : GoodIn vs_M_toldPlace_0 (wsV RX9 226 RX9 yX9_next vs_M_next) := gm_V vm_100 vm_101 vm_102 vm_12 vm_72
theorem g_M_toldPlace_0_M_placeCalled_0 : GoodIn vs_M_toldPlace_0 (wsV RX9 223 RX9 yX9_placeCalled vs_M_placeCalled_0) := gm_V vm_97 vm_98 vm_99 vm_12 vm_84
theorem g_M_toldPlace_0_M_fails : GoodIn vs_M_toldPlace_0 (wsV RX9 210 RX9 yX9_fails vs_M_fails) := gm_V vm_55 vm_56 vm_57 vm_12 vm_39
theorem g_M_toldPlace_0_M_greater_n : GoodIn vs_M_toldPlace_0 (va_wsS RX9 229 yX9_greater vs_M_greater_n) := gm_S vm_104 vm_105 vm_12 vm_4
set_option maxHeartbeats 4000000 in
set_option maxRecDepth 100000 in
theorem c_M_toldPlace_0 (l : Launch) (dC : Nat → ClassId) (dI : Nat → Nat → Nat) (sz : Nat) (ad : Nat → Nat) (ck : Nat → ClassId) (x0 : Int32) (x16 : Nat) (x18 : Nat) (x19 : Nat) (x20 : Int32) (x21 : Nat) (x22 : Nat) (x23 : Int32) (x24 : Int32) (x25 : Int32) (x26 : Nat) (x27 : Int32) (x29 : Nat) (x30 : Nat) (x33 : Nat) (x45 : Int32) (x46 : Nat) (x52 : Nat) (x53 : Nat) (x61 : Nat) (x62 : Nat) (x63 : Nat) (x65 : Nat) (x66 : Int32) (f1 : Nat → Int32) (f2 : Nat → Int32) (f3 : Nat → Int32) (q4 : Nat → Nat) (q5 : Nat → Nat) (q6 : Nat → Nat) (q7 : Nat → Nat) (f8 : Nat → Int32) (q9 : Nat → Nat) (q10 : Nat → Nat) (f11 : Nat → Int32) (m12_0 m12_1 : Nat) (m13_0 m13_1 : Nat) (m14_0 m14_1 : Nat) (m15_0 m15_1 : Nat) (f17 : Nat → Int32) (q31 : Nat → Nat) (f32 : Nat → Int32) (f34 : Nat → Int32) (f35 : Nat → Int32) (f36 : Nat → Int32) (f37 : Nat → Int32) (q38 : Nat → Nat) (f39 : Nat → Int32) (f40 : Nat → Int32) (f41 : Nat → Int32) (m42_0 m42_1 : Nat) (f43 : Nat → Int32) (f44 : Nat → Int32) (f47 : Nat → Int32) (f48 : Nat → Int32) (f49 : Nat → Int32) (f50 : Nat → Int32) (f51 : Nat → Int32) (q54 : Nat → Nat) (q55 : Nat → Nat) (q56 : Nat → Nat) (f57 : Nat → Int32) (q58 : Nat → Nat) (f59 : Nat → Int32) (f60 : Nat → Int32) (f64 : Nat → Int32) (hx16 : x16 ≤ 1) (hx18 : x18 ≤ 900) (hx19 : x19 ≤ 900) (hx21 : x21 ≤ 900) (hx22 : x22 ≤ 4) (hx26 : x26 ≤ 6) (hx29 : x29 ≤ 1) (hx30 : x30 ≤ 1) (hx33 : x33 ≤ 20) (hx46 : x46 ≤ 5) (hx52 : x52 ≤ 2400) (hx53 : x53 ≤ 119) (hx61 : x61 ≤ 119) (hx62 : x62 ≤ 2000) (hx63 : x63 ≤ 1) (hx65 : x65 ≤ 7) (hm12_0 : m12_0 ≤ 3) (hm12_1 : m12_1 ≤ 3) (hm13_0 : m13_0 ≤ 8) (hm13_1 : m13_1 ≤ 8) (hm14_0 : m14_0 ≤ 14) (hm14_1 : m14_1 ≤ 14) (hm15_0 : m15_0 ≤ 8) (hm15_1 : m15_1 ≤ 8) (hm42_0 : m42_0 ≤ 120) (hm42_1 : m42_1 ≤ 400) : Met l yX9_toldPlace vs_M_toldPlace_0 ({ frames := 3, cells := 0, slots := 0, locals := 61 }) (va_Pc [.ref (ad 0)] (pu_B (dC, dI) (mo_w ad ck x0 (nI x16) (nI x18) (nI x19) x20 (nI x21) (nI x22) x23 x24 x25 (nI x26) x27 0 (nI x29) (nI x30) (nI x33) x45 (nI x46) (nI x52) (nI x53) (nI x61) (nI x62) (nI x63) (nI x65) x66 f1 f2 f3 (bN 3 q4) (bN 7 q5) (bN 7 q6) (bN 4 q7) f8 (bN 2 q9) (bH q10) f11 (b2 m12_0 m12_1) (b2 m13_0 m13_1) (b2 m14_0 m14_1) (b2m m15_0 m15_1) f17 (bA 159 q31) f32 f34 f35 f36 f37 (bN 7 q38) f39 f40 f41 (b2 m42_0 m42_1) f43 f44 f47 f48 f49 f50 f51 (bN 13 q54) (bN 120 q55) (bN 120 q56) f57 (bN 120 q58) f59 f60 f64) (mo_t ck) sz)) (va_Qi (fun (r : Int32) (_ : Unit) => ∃ v : Nat, v ≤ 7 ∧ r = nI v) (fun _ t => ∃ (z20 : Int32) (z21 : Nat) (z22 : Nat) (z23 : Int32) (z26 : Nat) (z27 : Int32), pu_E (dC, dI) (mo_w ad ck x0 (nI x16) (nI x18) (nI x19) z20 (nI z21) (nI z22) z23 x24 x25 (nI z26) z27 0 (nI x29) (nI x30) (nI x33) x45 (nI x46) (nI x52) (nI x53) (nI x61) (nI x62) (nI x63) (nI x65) x66 f1 f2 f3 (bN 3 q4) (bN 7 q5) (bN 7 q6) (bN 4 q7) f8 (bN 2 q9) (bH q10) f11 (b2 m12_0 m12_1) (b2 m13_0 m13_1) (b2 m14_0 m14_1) (b2m m15_0 m15_1) f17 (bA 159 q31) f32 f34 f35 f36 f37 (bN 7 q38) f39 f40 f41 (b2 m42_0 m42_1) f43 f44 f47 f48 f49 f50 f51 (bN 13 q54) (bN 120 q55) (bN 120 q56) f57 (bN 120 q58) f59 f60 f64) (mo_t ck) (va_A ((mo_w ad ck x0 (nI x16) (nI x18) (nI x19) x20 (nI x21) (nI x22) x23 x24 x25 (nI x26) x27 0 (nI x29) (nI x30) (nI x33) x45 (nI x46) (nI x52) (nI x53) (nI x61) (nI x62) (nI x63) (nI x65) x66 f1 f2 f3 (bN 3 q4) (bN 7 q5) (bN 7 q6) (bN 4 q7) f8 (bN 2 q9) (bH q10) f11 (b2 m12_0 m12_1) (b2 m13_0 m13_1) (b2 m14_0 m14_1) (b2m m15_0 m15_1) f17 (bA 159 q31) f32 f34 f35 f36 f37 (bN 7 q38) f39 f40 f41 (b2 m42_0 m42_1) f43 f44 f47 f48 f49 f50 f51 (bN 13 q54) (bN 120 q55) (bN 120 q56) f57 (bN 120 q58) f59 f60 f64)) sz) t ∧ (z21 ≤ 900) ∧ (z22 ≤ 4) ∧ (z26 ≤ 6) ∧ (mu z21 z22 ≤ mu x21 x22)) (va_A ((mo_w ad ck x0 (nI x16) (nI x18) (nI x19) x20 (nI x21) (nI x22) x23 x24 x25 (nI x26) x27 0 (nI x29) (nI x30) (nI x33) x45 (nI x46) (nI x52) (nI x53) (nI x61) (nI x62) (nI x63) (nI x65) x66 f1 f2 f3 (bN 3 q4) (bN 7 q5) (bN 7 q6) (bN 4 q7) f8 (bN 2 q9) (bH q10) f11 (b2 m12_0 m12_1) (b2 m13_0 m13_1) (b2 m14_0 m14_1) (b2m m15_0 m15_1) f17 (bA 159 q31) f32 f34 f35 f36 f37 (bN 7 q38) f39 f40 f41 (b2 m42_0 m42_1) f43 f44 f47 f48 f49 f50 f51 (bN 13 q54) (bN 120 q55) (bN 120 q56) f57 (bN 120 q58) f59 f60 f64)) sz)) 0 0 (va_A ((mo_w ad ck x0 (nI x16) (nI x18) (nI x19) x20 (nI x21) (nI x22) x23 x24 x25 (nI x26) x27 0 (nI x29) (nI x30) (nI x33) x45 (nI x46) (nI x52) (nI x53) (nI x61) (nI x62) (nI x63) (nI x65) x66 f1 f2 f3 (bN 3 q4) (bN 7 q5) (bN 7 q6) (bN 4 q7) f8 (bN 2 q9) (bH q10) f11 (b2 m12_0 m12_1) (b2 m13_0 m13_1) (b2 m14_0 m14_1) (b2m m15_0 m15_1) f17 (bA 159 q31) f32 f34 f35 f36 f37 (bN 7 q38) f39 f40 f41 (b2 m42_0 m42_1) f43 f44 f47 f48 f49 f50 f51 (bN 13 q54) (bN 120 q55) (bN 120 q56) f57 (bN 120 q58) f59 f60 f64)) sz) := by
  refine Met.ofW (cc := cX9_toldPlace) (maxL := 2) (ret := (some .int)) (by decide) rfl ?_
  intro p e s m args below meth c s₁ B hml hv
  obtain ⟨rfl, rfl, hP, hK, hD0⟩ := hv
  have hx := B.exec
  have hb := B.bytes
  have hr := B.returns
  have hts := atoms_spec (ws := vs_M_toldPlace_0) B.pre
  have hown : s.vm.findClass RX9 = some m.cls := findClass_of_methodNamed B.named
  have hlocks := B.notSynchronized
  have hD := hD0.self (sz := s.heap.size)
  generalize hAe : va_A ((mo_w ad ck x0 (nI x16) (nI x18) (nI x19) x20 (nI x21) (nI x22) x23 x24 x25 (nI x26) x27 0 (nI x29) (nI x30) (nI x33) x45 (nI x46) (nI x52) (nI x53) (nI x61) (nI x62) (nI x63) (nI x65) x66 f1 f2 f3 (bN 3 q4) (bN 7 q5) (bN 7 q6) (bN 4 q7) f8 (bN 2 q9) (bH q10) f11 (b2 m12_0 m12_1) (b2 m13_0 m13_1) (b2 m14_0 m14_1) (b2m m15_0 m15_1) f17 (bA 159 q31) f32 f34 f35 f36 f37 (bN 7 q38) f39 f40 f41 (b2 m42_0 m42_1) f43 f44 f47 f48 f49 f50 f51 (bN 13 q54) (bN 120 q55) (bN 120 q56) f57 (bN 120 q58) f59 f60 f64)) s.heap.size = A at hD ⊢
  have hA : ∀ q : Nat, s.heap.size ≤ q → A q := fun q h => by rw [← hAe]; exact Or.inr h
  have hS : va_S A s.heap s.heap [] := va_S.rf
  have hl := lv_entry ([.ref (ad 0)]) (n := 2) (Nat.le_of_ble_eq_true rfl)
  rw [lg_entry_eq]
  generalize (lg_sl ([.ref (ad 0)]) ++ List.replicate (2 - (lg_sl ([.ref (ad 0)])).length) Slot.unset).toArray = ls at hl ⊢
  have hl : lv_has ls 2 [(0, .ref (ad 0))] := hl
  refine lv_aload_n hx hb dX9_toldPlace_0 rfl (lv_at hl 0 rfl) ?_
  have hFc := pu_free hD hS hA
  refine va_callv (va_runV (As := []) (rest := []) ⟨hx, hb, hml, hown, hts⟩ (c_M_mustBeName l dC dI _ ad ck x0 x16 x18 x19 x20 x21 x22 x23 x24 x25 x26 x27 0 x29 x30 x33 x45 x46 x52 x53 x61 x62 x63 x65 x66 f1 f2 f3 q4 q5 q6 q7 f8 q9 q10 f11 m12_0 m12_1 m13_0 m13_1 m14_0 m14_1 m15_0 m15_1 f17 q31 f32 f34 f35 f36 f37 q38 f39 f40 f41 m42_0 m42_1 f43 f44 f47 f48 f49 f50 f51 q54 q55 q56 f57 q58 f59 f60 f64 hx16 hx18 hx19 hx21 hx22 hx26 (Nat.le_of_ble_eq_true rfl) hx29 hx30 hx33 hx46 hx52 hx53 hx61 hx62 hx63 hx65 hm12_0 hm12_1 hm13_0 hm13_1 hm14_0 hm14_1 hm15_0 hm15_1 hm42_0 hm42_1) (cwV 0 hts g_M_toldPlace_0_M_mustBeName rfl rfl rfl (by decide +kernel) ⟨Nat.le_of_ble_eq_true rfl, Nat.le_of_ble_eq_true rfl⟩) ⟨pu_bl, va_recv hK hP (ci := 9) (q0 := 0) rfl rfl, pu_in hP hK hD⟩ rfl rfl hl.1 rfl (lv_room (Nat.le_of_ble_eq_true rfl)) dX9_toldPlace_1 ⟨Nat.le_of_ble_eq_true rfl, Nat.le_of_ble_eq_true rfl⟩) hS (fun q _ h => hFc q h) hFc (fun u t H1 locs ht hvm hw hB hz1 hk1 hS => ?_)
  obtain ⟨z26_2, z27_3, ⟨hP1, -, hD1⟩, hz26_2, xr_1_0⟩ := hB
  rw [ht] at hP1
  have hP := hP1
  have hD := pu_all hFc hD1
  clear hP1 hD1 hFc
  clear hk1 hz1 ht hvm
  generalize H1 = H at hP hS ⊢
  refine lv_aload_n hx hb dX9_toldPlace_4 rfl (lv_at hl 0 rfl) ?_
  refine va_calli (va_runV (As := []) (rest := []) ⟨hx, hb, hml, hown, hts⟩ (c_M_isGood l dC dI _ ad ck x0 x16 x18 x19 x20 x21 x22 x23 x24 x25 z26_2 z27_3 0 x29 x30 x33 x45 x46 x52 x53 x61 x62 x63 x65 x66 f1 f2 f3 q4 q5 q6 q7 f8 q9 q10 f11 m12_0 m12_1 m13_0 m13_1 m14_0 m14_1 m15_0 m15_1 f17 q31 f32 f34 f35 f36 f37 q38 f39 f40 f41 m42_0 m42_1 f43 f44 f47 f48 f49 f50 f51 q54 q55 q56 f57 q58 f59 f60 f64 hx16 hx18 hx19 hx21 hx22 hz26_2 (Nat.le_of_ble_eq_true rfl) hx29 hx30 hx33 hx46 hx52 hx53 hx61 hx62 hx63 hx65 hm12_0 hm12_1 hm13_0 hm13_1 hm14_0 hm14_1 hm15_0 hm15_1 hm42_0 hm42_1) (cwV 0 hts g_M_toldPlace_0_M_isGood rfl rfl rfl (by decide +kernel) ⟨Nat.le_of_ble_eq_true rfl, Nat.le_of_ble_eq_true rfl⟩) ⟨pu_bl, va_recv hK hP (ci := 9) (q0 := 0) rfl rfl, pu_in hP hK hD⟩ rfl rfl hl.1 rfl (lv_room (Nat.le_of_ble_eq_true rfl)) dX9_toldPlace_5 ⟨Nat.le_of_ble_eq_true rfl, Nat.le_of_ble_eq_true rfl⟩) hS (fun q _ h => pu_fr hS hA q h) (pu_fr hS hA) (fun r_4 u t H1 locs ht hvm hw hB hz1 hk1 hS => ?_)
  have hP := pu_keep hP hk1
  clear hk1 hz1 ht hvm
  generalize H1 = H at hP hS ⊢
  obtain ⟨u_5, hu_5, rfl, iu_5⟩ := hw
  refine lv_if_eq (tgt := 18) hx hb dX9_toldPlace_8 (by decide) (fun c_6 => ?_) (fun c_6 => ?_)
  · have c_6 : u_5 = 0 := (nI_eq (a := u_5) (b := 0) (Nat.lt_of_le_of_lt hu_5 (Nat.le_of_ble_eq_true rfl)) (Nat.le_of_ble_eq_true rfl)).mp c_6
    refine lv_iconst (v := 0) hx hb dX9_toldPlace_18 (by decide) ?_
    refine lv_istore_n (lv' := [(1, .int 0), (0, .ref (ad 0))]) hx hb dX9_toldPlace_19 rfl hl (by decide) rfl (fun ls hl => ?_)
    refine lv_iload_n hx hb dX9_toldPlace_20 rfl (lv_at hl 0 rfl) ?_
    refine lv_if_ge (tgt := 29) hx hb dX9_toldPlace_21 (by decide) (fun _ => ?_) (fun z => absurd z (by decide))
    refine lv_aload_n hx hb dX9_toldPlace_29 rfl (lv_at hl 1 rfl) ?_
    refine va_calli (va_runV (As := []) (rest := []) ⟨hx, hb, hml, hown, hts⟩ (c_M_isGood l dC dI _ ad ck x0 x16 x18 x19 x20 x21 x22 x23 x24 x25 z26_2 z27_3 0 x29 x30 x33 x45 x46 x52 x53 x61 x62 x63 x65 x66 f1 f2 f3 q4 q5 q6 q7 f8 q9 q10 f11 m12_0 m12_1 m13_0 m13_1 m14_0 m14_1 m15_0 m15_1 f17 q31 f32 f34 f35 f36 f37 q38 f39 f40 f41 m42_0 m42_1 f43 f44 f47 f48 f49 f50 f51 q54 q55 q56 f57 q58 f59 f60 f64 hx16 hx18 hx19 hx21 hx22 hz26_2 (Nat.le_of_ble_eq_true rfl) hx29 hx30 hx33 hx46 hx52 hx53 hx61 hx62 hx63 hx65 hm12_0 hm12_1 hm13_0 hm13_1 hm14_0 hm14_1 hm15_0 hm15_1 hm42_0 hm42_1) (cwV 0 hts g_M_toldPlace_0_M_isGood rfl rfl rfl (by decide +kernel) ⟨Nat.le_of_ble_eq_true rfl, Nat.le_of_ble_eq_true rfl⟩) ⟨pu_bl, va_recv hK hP (ci := 9) (q0 := 0) rfl rfl, pu_in hP hK hD⟩ rfl rfl hl.1 rfl (lv_room (Nat.le_of_ble_eq_true rfl)) dX9_toldPlace_30 ⟨Nat.le_of_ble_eq_true rfl, Nat.le_of_ble_eq_true rfl⟩) hS (fun q _ h => pu_fr hS hA q h) (pu_fr hS hA) (fun r_7 u t H1 locs ht hvm hw hB hz1 hk1 hS => ?_)
    have hP := pu_keep hP hk1
    clear hk1 hz1 ht hvm
    generalize H1 = H at hP hS ⊢
    obtain ⟨u_8, hu_8, rfl, iu_8⟩ := hw
    refine lv_if_eq (tgt := 40) hx hb dX9_toldPlace_33 (by decide) (fun c_9 => ?_) (fun c_9 => ?_)
    · have c_9 : u_8 = 0 := (nI_eq (a := u_8) (b := 0) (Nat.lt_of_le_of_lt hu_8 (Nat.le_of_ble_eq_true rfl)) (Nat.le_of_ble_eq_true rfl)).mp c_9
      refine lv_iconst (v := 0) hx hb dX9_toldPlace_40 (by decide) ?_
      refine lv_iload_n hx hb dX9_toldPlace_41 rfl (lv_at hl 0 rfl) ?_
      refine va_calli (va_runS (As := [.int 0, .int 0]) (rest := []) ⟨hx, hb, hml, hown, hts⟩ (c_M_greater_0 l dC dI _ ad ck x0 x16 x18 x19 x20 x21 x22 x23 x24 x25 z26_2 z27_3 0 x29 x30 x33 x45 x46 x52 x53 x61 x62 x63 x65 x66 f1 f2 f3 q4 q5 q6 q7 f8 q9 q10 f11 m12_0 m12_1 m13_0 m13_1 m14_0 m14_1 m15_0 m15_1 f17 q31 f32 f34 f35 f36 f37 q38 f39 f40 f41 m42_0 m42_1 f43 f44 f47 f48 f49 f50 f51 q54 q55 q56 f57 q58 f59 f60 f64 0 hx16 hx18 hx19 hx21 hx22 hz26_2 (Nat.le_of_ble_eq_true rfl) hx29 hx30 hx33 hx46 hx52 hx53 hx61 hx62 hx63 hx65 hm12_0 hm12_1 hm13_0 hm13_1 hm14_0 hm14_1 hm15_0 hm15_1 hm42_0 hm42_1 (Nat.le_of_ble_eq_true rfl)) (va_cwS 2 hts g_M_toldPlace_0_M_greater_0 rfl rfl rfl (by decide +kernel) ⟨Nat.le_of_ble_eq_true rfl, Nat.le_of_ble_eq_true rfl⟩) ⟨pu_bl, pu_in hP hK hD⟩ rfl rfl hl.1 rfl (lv_room (Nat.le_of_ble_eq_true rfl)) dX9_toldPlace_42 ⟨Nat.le_of_ble_eq_true rfl, Nat.le_of_ble_eq_true rfl⟩) hS (fun q _ h => pu_fr hS hA q h) (pu_fr hS hA) (fun r_10 u t H1 locs ht hvm hw hB hz1 hk1 hS => ?_)
      have hP := pu_keep hP hk1
      clear hk1 hz1 ht hvm
      generalize H1 = H at hP hS ⊢
      obtain rfl : r_10 = nI (0) := hw
      exact W.iret (v := (nI 0)) hx hb hr (fun t ht hW => ⟨⟨(nI 0), (), rfl, ⟨0, (Nat.le_of_ble_eq_true rfl), rfl⟩, ⟨x20, x21, x22, x23, z26_2, z27_3, ⟨by rw [ht]; exact hP, va_K.moved hW.alike hK, hD⟩, hx21, hx22, hz26_2, by omega⟩⟩, hS.F ht⟩) hS.2.2 dX9_toldPlace_45
    · have c_9 : ¬ u_8 = 0 := fun z => c_9 ((nI_eq (a := u_8) (b := 0) (Nat.lt_of_le_of_lt hu_8 (Nat.le_of_ble_eq_true rfl)) (Nat.le_of_ble_eq_true rfl)).mpr z)
      refine lv_aload_n hx hb dX9_toldPlace_36 rfl (lv_at hl 1 rfl) ?_
      have hFc := pu_free hD hS hA
      refine va_callv (va_runV (As := []) (rest := []) ⟨hx, hb, hml, hown, hts⟩ (c_M_next l dC dI _ ad ck x0 x16 x18 x19 x20 x21 x22 x23 x24 x25 z26_2 z27_3 0 x29 x30 x33 x45 x46 x52 x53 x61 x62 x63 x65 x66 f1 f2 f3 q4 q5 q6 q7 f8 q9 q10 f11 m12_0 m12_1 m13_0 m13_1 m14_0 m14_1 m15_0 m15_1 f17 q31 f32 f34 f35 f36 f37 q38 f39 f40 f41 m42_0 m42_1 f43 f44 f47 f48 f49 f50 f51 q54 q55 q56 f57 q58 f59 f60 f64 hx16 hx18 hx19 hx21 hx22 hz26_2 (Nat.le_of_ble_eq_true rfl) hx29 hx30 hx33 hx46 hx52 hx53 hx61 hx62 hx63 hx65 hm12_0 hm12_1 hm13_0 hm13_1 hm14_0 hm14_1 hm15_0 hm15_1 hm42_0 hm42_1) (cwV 0 hts g_M_toldPlace_0_M_next rfl rfl rfl (by decide +kernel) ⟨Nat.le_of_ble_eq_true rfl, Nat.le_of_ble_eq_true rfl⟩) ⟨pu_bl, va_recv hK hP (ci := 9) (q0 := 0) rfl rfl, pu_in hP hK hD⟩ rfl rfl hl.1 rfl (lv_room (Nat.le_of_ble_eq_true rfl)) dX9_toldPlace_37 ⟨Nat.le_of_ble_eq_true rfl, Nat.le_of_ble_eq_true rfl⟩) hS (fun q _ h => hFc q h) hFc (fun u t H1 locs ht hvm hw hB hz1 hk1 hS => ?_)
      obtain ⟨z20_12, z21_13, z22_14, z23_15, ⟨hP1, -, hD1⟩, hz21_13, hz22_14, xr_11_0, xr_11_1⟩ := hB
      rw [ht] at hP1
      have hP := hP1
      have hD := pu_all hFc hD1
      clear hP1 hD1 hFc
      clear hk1 hz1 ht hvm
      generalize H1 = H at hP hS ⊢
      refine lv_iconst (v := 0) hx hb dX9_toldPlace_40 (by decide) ?_
      refine lv_iload_n hx hb dX9_toldPlace_41 rfl (lv_at hl 0 rfl) ?_
      refine va_calli (va_runS (As := [.int 0, .int 0]) (rest := []) ⟨hx, hb, hml, hown, hts⟩ (c_M_greater_0 l dC dI _ ad ck x0 x16 x18 x19 z20_12 z21_13 z22_14 z23_15 x24 x25 z26_2 z27_3 0 x29 x30 x33 x45 x46 x52 x53 x61 x62 x63 x65 x66 f1 f2 f3 q4 q5 q6 q7 f8 q9 q10 f11 m12_0 m12_1 m13_0 m13_1 m14_0 m14_1 m15_0 m15_1 f17 q31 f32 f34 f35 f36 f37 q38 f39 f40 f41 m42_0 m42_1 f43 f44 f47 f48 f49 f50 f51 q54 q55 q56 f57 q58 f59 f60 f64 0 hx16 hx18 hx19 hz21_13 hz22_14 hz26_2 (Nat.le_of_ble_eq_true rfl) hx29 hx30 hx33 hx46 hx52 hx53 hx61 hx62 hx63 hx65 hm12_0 hm12_1 hm13_0 hm13_1 hm14_0 hm14_1 hm15_0 hm15_1 hm42_0 hm42_1 (Nat.le_of_ble_eq_true rfl)) (va_cwS 2 hts g_M_toldPlace_0_M_greater_0 rfl rfl rfl (by decide +kernel) ⟨Nat.le_of_ble_eq_true rfl, Nat.le_of_ble_eq_true rfl⟩) ⟨pu_bl, pu_in hP hK hD⟩ rfl rfl hl.1 rfl (lv_room (Nat.le_of_ble_eq_true rfl)) dX9_toldPlace_42 ⟨Nat.le_of_ble_eq_true rfl, Nat.le_of_ble_eq_true rfl⟩) hS (fun q _ h => pu_fr hS hA q h) (pu_fr hS hA) (fun r_16 u t H1 locs ht hvm hw hB hz1 hk1 hS => ?_)
      have hP := pu_keep hP hk1
      clear hk1 hz1 ht hvm
      generalize H1 = H at hP hS ⊢
      obtain rfl : r_16 = nI (0) := hw
      exact W.iret (v := (nI 0)) hx hb hr (fun t ht hW => ⟨⟨(nI 0), (), rfl, ⟨0, (Nat.le_of_ble_eq_true rfl), rfl⟩, ⟨z20_12, z21_13, z22_14, z23_15, z26_2, z27_3, ⟨by rw [ht]; exact hP, va_K.moved hW.alike hK, hD⟩, hz21_13, hz22_14, hz26_2, by omega⟩⟩, hS.F ht⟩) hS.2.2 dX9_toldPlace_45
  · have c_6 : ¬ u_5 = 0 := fun z => c_6 ((nI_eq (a := u_5) (b := 0) (Nat.lt_of_le_of_lt hu_5 (Nat.le_of_ble_eq_true rfl)) (Nat.le_of_ble_eq_true rfl)).mpr z)
    refine lv_aload_n hx hb dX9_toldPlace_11 rfl (lv_at hl 0 rfl) ?_
    refine va_calli (va_runV (As := []) (rest := []) ⟨hx, hb, hml, hown, hts⟩ (c_M_placeCalled_0 l dC dI _ ad ck x0 x16 x18 x19 x20 x21 x22 x23 x24 x25 z26_2 z27_3 x29 x30 x33 x45 x46 x52 x53 x61 x62 x63 x65 x66 f1 f2 f3 q4 q5 q6 q7 f8 q9 q10 f11 m12_0 m12_1 m13_0 m13_1 m14_0 m14_1 m15_0 m15_1 f17 q31 f32 f34 f35 f36 f37 q38 f39 f40 f41 m42_0 m42_1 f43 f44 f47 f48 f49 f50 f51 q54 q55 q56 f57 q58 f59 f60 f64 hx16 hx18 hx19 hx21 hx22 hz26_2 hx29 hx30 hx33 hx46 hx52 hx53 hx61 hx62 hx63 hx65 hm12_0 hm12_1 hm13_0 hm13_1 hm14_0 hm14_1 hm15_0 hm15_1 hm42_0 hm42_1) (cwV 0 hts g_M_toldPlace_0_M_placeCalled_0 rfl rfl rfl (by decide +kernel) ⟨Nat.le_of_ble_eq_true rfl, Nat.le_of_ble_eq_true rfl⟩) ⟨pu_bl, va_recv hK hP (ci := 9) (q0 := 0) rfl rfl, pu_in hP hK hD⟩ rfl rfl hl.1 rfl (lv_room (Nat.le_of_ble_eq_true rfl)) dX9_toldPlace_12 ⟨Nat.le_of_ble_eq_true rfl, Nat.le_of_ble_eq_true rfl⟩) hS (fun q _ h => pu_fr hS hA q h) (pu_fr hS hA) (fun r_17 u t H1 locs ht hvm hw hB hz1 hk1 hS => ?_)
    have hP := pu_keep hP hk1
    clear hk1 hz1 ht hvm
    generalize H1 = H at hP hS ⊢
    rcases hw with rfl | ⟨u_18, hu_18, rfl⟩
    · refine lv_goto (tgt := 19) hx hb dX9_toldPlace_15 (by decide) ?_
      refine lv_istore_n (lv' := [(1, .int (-1)), (0, .ref (ad 0))]) hx hb dX9_toldPlace_19 rfl hl (by decide) rfl (fun ls hl => ?_)
      refine lv_iload_n hx hb dX9_toldPlace_20 rfl (lv_at hl 0 rfl) ?_
      refine lv_if_ge (tgt := 29) hx hb dX9_toldPlace_21 (by decide) (fun z => absurd z (by decide)) (fun _ => ?_)
      refine lv_aload_n hx hb dX9_toldPlace_24 rfl (lv_at hl 1 rfl) ?_
      refine lv_iconst (v := 3) hx hb dX9_toldPlace_25 (by decide) ?_
      have hFc := pu_free hD hS hA
      refine va_callv (va_runV (As := [.int 3]) (rest := []) ⟨hx, hb, hml, hown, hts⟩ (c_M_fails l dC dI _ ad ck x0 x16 x18 x19 x20 x21 x22 x23 x24 x25 z26_2 z27_3 0 x29 x30 x33 x45 x46 x52 x53 x61 x62 x63 x65 x66 f1 f2 f3 q4 q5 q6 q7 f8 q9 q10 f11 m12_0 m12_1 m13_0 m13_1 m14_0 m14_1 m15_0 m15_1 f17 q31 f32 f34 f35 f36 f37 q38 f39 f40 f41 m42_0 m42_1 f43 f44 f47 f48 f49 f50 f51 q54 q55 q56 f57 q58 f59 f60 f64 3 hx16 hx18 hx19 hx21 hx22 hz26_2 (Nat.le_of_ble_eq_true rfl) hx29 hx30 hx33 hx46 hx52 hx53 hx61 hx62 hx63 hx65 hm12_0 hm12_1 hm13_0 hm13_1 hm14_0 hm14_1 hm15_0 hm15_1 hm42_0 hm42_1 (Nat.le_of_ble_eq_true rfl) (by omega)) (cwV 1 hts g_M_toldPlace_0_M_fails rfl rfl rfl (by decide +kernel) ⟨Nat.le_of_ble_eq_true rfl, Nat.le_of_ble_eq_true rfl⟩) ⟨pu_bl, va_recv hK hP (ci := 9) (q0 := 0) rfl rfl, pu_in hP hK hD⟩ rfl rfl hl.1 rfl (lv_room (Nat.le_of_ble_eq_true rfl)) dX9_toldPlace_26 ⟨Nat.le_of_ble_eq_true rfl, Nat.le_of_ble_eq_true rfl⟩) hS (fun q _ h => hFc q h) hFc (fun u t H1 locs ht hvm hw hB hz1 hk1 hS => ?_)
      obtain ⟨z26_20, z27_21, ⟨hP1, -, hD1⟩, hz26_20, xr_19_0⟩ := hB
      rw [ht] at hP1
      have hP := hP1
      have hD := pu_all hFc hD1
      clear hP1 hD1 hFc
      clear hk1 hz1 ht hvm
      generalize H1 = H at hP hS ⊢
      refine lv_aload_n hx hb dX9_toldPlace_29 rfl (lv_at hl 1 rfl) ?_
      refine va_calli (va_runV (As := []) (rest := []) ⟨hx, hb, hml, hown, hts⟩ (c_M_isGood l dC dI _ ad ck x0 x16 x18 x19 x20 x21 x22 x23 x24 x25 z26_20 z27_21 0 x29 x30 x33 x45 x46 x52 x53 x61 x62 x63 x65 x66 f1 f2 f3 q4 q5 q6 q7 f8 q9 q10 f11 m12_0 m12_1 m13_0 m13_1 m14_0 m14_1 m15_0 m15_1 f17 q31 f32 f34 f35 f36 f37 q38 f39 f40 f41 m42_0 m42_1 f43 f44 f47 f48 f49 f50 f51 q54 q55 q56 f57 q58 f59 f60 f64 hx16 hx18 hx19 hx21 hx22 hz26_20 (Nat.le_of_ble_eq_true rfl) hx29 hx30 hx33 hx46 hx52 hx53 hx61 hx62 hx63 hx65 hm12_0 hm12_1 hm13_0 hm13_1 hm14_0 hm14_1 hm15_0 hm15_1 hm42_0 hm42_1) (cwV 0 hts g_M_toldPlace_0_M_isGood rfl rfl rfl (by decide +kernel) ⟨Nat.le_of_ble_eq_true rfl, Nat.le_of_ble_eq_true rfl⟩) ⟨pu_bl, va_recv hK hP (ci := 9) (q0 := 0) rfl rfl, pu_in hP hK hD⟩ rfl rfl hl.1 rfl (lv_room (Nat.le_of_ble_eq_true rfl)) dX9_toldPlace_30 ⟨Nat.le_of_ble_eq_true rfl, Nat.le_of_ble_eq_true rfl⟩) hS (fun q _ h => pu_fr hS hA q h) (pu_fr hS hA) (fun r_22 u t H1 locs ht hvm hw hB hz1 hk1 hS => ?_)
      have hP := pu_keep hP hk1
      clear hk1 hz1 ht hvm
      generalize H1 = H at hP hS ⊢
      obtain ⟨u_23, hu_23, rfl, iu_23⟩ := hw
      refine lv_if_eq (tgt := 40) hx hb dX9_toldPlace_33 (by decide) (fun c_24 => ?_) (fun c_24 => ?_)
      · have c_24 : u_23 = 0 := (nI_eq (a := u_23) (b := 0) (Nat.lt_of_le_of_lt hu_23 (Nat.le_of_ble_eq_true rfl)) (Nat.le_of_ble_eq_true rfl)).mp c_24
        refine lv_iconst (v := 0) hx hb dX9_toldPlace_40 (by decide) ?_
        refine lv_iload_n hx hb dX9_toldPlace_41 rfl (lv_at hl 0 rfl) ?_
        refine va_calli (va_runS (As := [.int 0, .int (-1)]) (rest := []) ⟨hx, hb, hml, hown, hts⟩ (c_M_greater_n l dC dI _ ad ck x0 x16 x18 x19 x20 x21 x22 x23 x24 x25 z26_20 z27_21 0 x29 x30 x33 x45 x46 x52 x53 x61 x62 x63 x65 x66 f1 f2 f3 q4 q5 q6 q7 f8 q9 q10 f11 m12_0 m12_1 m13_0 m13_1 m14_0 m14_1 m15_0 m15_1 f17 q31 f32 f34 f35 f36 f37 q38 f39 f40 f41 m42_0 m42_1 f43 f44 f47 f48 f49 f50 f51 q54 q55 q56 f57 q58 f59 f60 f64 hx16 hx18 hx19 hx21 hx22 hz26_20 (Nat.le_of_ble_eq_true rfl) hx29 hx30 hx33 hx46 hx52 hx53 hx61 hx62 hx63 hx65 hm12_0 hm12_1 hm13_0 hm13_1 hm14_0 hm14_1 hm15_0 hm15_1 hm42_0 hm42_1) (va_cwS 2 hts g_M_toldPlace_0_M_greater_n rfl rfl rfl (by decide +kernel) ⟨Nat.le_of_ble_eq_true rfl, Nat.le_of_ble_eq_true rfl⟩) ⟨pu_bl, pu_in hP hK hD⟩ rfl rfl hl.1 rfl (lv_room (Nat.le_of_ble_eq_true rfl)) dX9_toldPlace_42 ⟨Nat.le_of_ble_eq_true rfl, Nat.le_of_ble_eq_true rfl⟩) hS (fun q _ h => pu_fr hS hA q h) (pu_fr hS hA) (fun r_25 u t H1 locs ht hvm hw hB hz1 hk1 hS => ?_)
        have hP := pu_keep hP hk1
        clear hk1 hz1 ht hvm
        generalize H1 = H at hP hS ⊢
        obtain rfl : r_25 = 0 := hw
        exact W.iret (v := 0) hx hb hr (fun t ht hW => ⟨⟨0, (), rfl, ⟨0, (Nat.le_of_ble_eq_true rfl), rfl⟩, ⟨x20, x21, x22, x23, z26_20, z27_21, ⟨by rw [ht]; exact hP, va_K.moved hW.alike hK, hD⟩, hx21, hx22, hz26_20, by omega⟩⟩, hS.F ht⟩) hS.2.2 dX9_toldPlace_45
      · have c_24 : ¬ u_23 = 0 := fun z => c_24 ((nI_eq (a := u_23) (b := 0) (Nat.lt_of_le_of_lt hu_23 (Nat.le_of_ble_eq_true rfl)) (Nat.le_of_ble_eq_true rfl)).mpr z)
        refine lv_aload_n hx hb dX9_toldPlace_36 rfl (lv_at hl 1 rfl) ?_
        have hFc := pu_free hD hS hA
        refine va_callv (va_runV (As := []) (rest := []) ⟨hx, hb, hml, hown, hts⟩ (c_M_next l dC dI _ ad ck x0 x16 x18 x19 x20 x21 x22 x23 x24 x25 z26_20 z27_21 0 x29 x30 x33 x45 x46 x52 x53 x61 x62 x63 x65 x66 f1 f2 f3 q4 q5 q6 q7 f8 q9 q10 f11 m12_0 m12_1 m13_0 m13_1 m14_0 m14_1 m15_0 m15_1 f17 q31 f32 f34 f35 f36 f37 q38 f39 f40 f41 m42_0 m42_1 f43 f44 f47 f48 f49 f50 f51 q54 q55 q56 f57 q58 f59 f60 f64 hx16 hx18 hx19 hx21 hx22 hz26_20 (Nat.le_of_ble_eq_true rfl) hx29 hx30 hx33 hx46 hx52 hx53 hx61 hx62 hx63 hx65 hm12_0 hm12_1 hm13_0 hm13_1 hm14_0 hm14_1 hm15_0 hm15_1 hm42_0 hm42_1) (cwV 0 hts g_M_toldPlace_0_M_next rfl rfl rfl (by decide +kernel) ⟨Nat.le_of_ble_eq_true rfl, Nat.le_of_ble_eq_true rfl⟩) ⟨pu_bl, va_recv hK hP (ci := 9) (q0 := 0) rfl rfl, pu_in hP hK hD⟩ rfl rfl hl.1 rfl (lv_room (Nat.le_of_ble_eq_true rfl)) dX9_toldPlace_37 ⟨Nat.le_of_ble_eq_true rfl, Nat.le_of_ble_eq_true rfl⟩) hS (fun q _ h => hFc q h) hFc (fun u t H1 locs ht hvm hw hB hz1 hk1 hS => ?_)
        obtain ⟨z20_27, z21_28, z22_29, z23_30, ⟨hP1, -, hD1⟩, hz21_28, hz22_29, xr_26_0, xr_26_1⟩ := hB
        rw [ht] at hP1
        have hP := hP1
        have hD := pu_all hFc hD1
        clear hP1 hD1 hFc
        clear hk1 hz1 ht hvm
        generalize H1 = H at hP hS ⊢
        refine lv_iconst (v := 0) hx hb dX9_toldPlace_40 (by decide) ?_
        refine lv_iload_n hx hb dX9_toldPlace_41 rfl (lv_at hl 0 rfl) ?_
        refine va_calli (va_runS (As := [.int 0, .int (-1)]) (rest := []) ⟨hx, hb, hml, hown, hts⟩ (c_M_greater_n l dC dI _ ad ck x0 x16 x18 x19 z20_27 z21_28 z22_29 z23_30 x24 x25 z26_20 z27_21 0 x29 x30 x33 x45 x46 x52 x53 x61 x62 x63 x65 x66 f1 f2 f3 q4 q5 q6 q7 f8 q9 q10 f11 m12_0 m12_1 m13_0 m13_1 m14_0 m14_1 m15_0 m15_1 f17 q31 f32 f34 f35 f36 f37 q38 f39 f40 f41 m42_0 m42_1 f43 f44 f47 f48 f49 f50 f51 q54 q55 q56 f57 q58 f59 f60 f64 hx16 hx18 hx19 hz21_28 hz22_29 hz26_20 (Nat.le_of_ble_eq_true rfl) hx29 hx30 hx33 hx46 hx52 hx53 hx61 hx62 hx63 hx65 hm12_0 hm12_1 hm13_0 hm13_1 hm14_0 hm14_1 hm15_0 hm15_1 hm42_0 hm42_1) (va_cwS 2 hts g_M_toldPlace_0_M_greater_n rfl rfl rfl (by decide +kernel) ⟨Nat.le_of_ble_eq_true rfl, Nat.le_of_ble_eq_true rfl⟩) ⟨pu_bl, pu_in hP hK hD⟩ rfl rfl hl.1 rfl (lv_room (Nat.le_of_ble_eq_true rfl)) dX9_toldPlace_42 ⟨Nat.le_of_ble_eq_true rfl, Nat.le_of_ble_eq_true rfl⟩) hS (fun q _ h => pu_fr hS hA q h) (pu_fr hS hA) (fun r_31 u t H1 locs ht hvm hw hB hz1 hk1 hS => ?_)
        have hP := pu_keep hP hk1
        clear hk1 hz1 ht hvm
        generalize H1 = H at hP hS ⊢
        obtain rfl : r_31 = 0 := hw
        exact W.iret (v := 0) hx hb hr (fun t ht hW => ⟨⟨0, (), rfl, ⟨0, (Nat.le_of_ble_eq_true rfl), rfl⟩, ⟨z20_27, z21_28, z22_29, z23_30, z26_20, z27_21, ⟨by rw [ht]; exact hP, va_K.moved hW.alike hK, hD⟩, hz21_28, hz22_29, hz26_20, by omega⟩⟩, hS.F ht⟩) hS.2.2 dX9_toldPlace_45
    · refine lv_goto (tgt := 19) hx hb dX9_toldPlace_15 (by decide) ?_
      refine lv_istore_n (lv' := [(1, .int (nI u_18)), (0, .ref (ad 0))]) hx hb dX9_toldPlace_19 rfl hl (by decide) rfl (fun ls hl => ?_)
      refine lv_iload_n hx hb dX9_toldPlace_20 rfl (lv_at hl 0 rfl) ?_
      refine lv_if_ge (tgt := 29) hx hb dX9_toldPlace_21 (by decide) (fun c_32 => ?_) (fun c_32 => ?_)
      · have c_32 : 0 ≤ u_18 := (nI_leI (a := 0) (b := u_18) (Nat.le_of_ble_eq_true rfl) (Nat.lt_of_le_of_lt hu_18 (Nat.le_of_ble_eq_true rfl))).mp c_32
        refine lv_aload_n hx hb dX9_toldPlace_29 rfl (lv_at hl 1 rfl) ?_
        refine va_calli (va_runV (As := []) (rest := []) ⟨hx, hb, hml, hown, hts⟩ (c_M_isGood l dC dI _ ad ck x0 x16 x18 x19 x20 x21 x22 x23 x24 x25 z26_2 z27_3 0 x29 x30 x33 x45 x46 x52 x53 x61 x62 x63 x65 x66 f1 f2 f3 q4 q5 q6 q7 f8 q9 q10 f11 m12_0 m12_1 m13_0 m13_1 m14_0 m14_1 m15_0 m15_1 f17 q31 f32 f34 f35 f36 f37 q38 f39 f40 f41 m42_0 m42_1 f43 f44 f47 f48 f49 f50 f51 q54 q55 q56 f57 q58 f59 f60 f64 hx16 hx18 hx19 hx21 hx22 hz26_2 (Nat.le_of_ble_eq_true rfl) hx29 hx30 hx33 hx46 hx52 hx53 hx61 hx62 hx63 hx65 hm12_0 hm12_1 hm13_0 hm13_1 hm14_0 hm14_1 hm15_0 hm15_1 hm42_0 hm42_1) (cwV 0 hts g_M_toldPlace_0_M_isGood rfl rfl rfl (by decide +kernel) ⟨Nat.le_of_ble_eq_true rfl, Nat.le_of_ble_eq_true rfl⟩) ⟨pu_bl, va_recv hK hP (ci := 9) (q0 := 0) rfl rfl, pu_in hP hK hD⟩ rfl rfl hl.1 rfl (lv_room (Nat.le_of_ble_eq_true rfl)) dX9_toldPlace_30 ⟨Nat.le_of_ble_eq_true rfl, Nat.le_of_ble_eq_true rfl⟩) hS (fun q _ h => pu_fr hS hA q h) (pu_fr hS hA) (fun r_33 u t H1 locs ht hvm hw hB hz1 hk1 hS => ?_)
        have hP := pu_keep hP hk1
        clear hk1 hz1 ht hvm
        generalize H1 = H at hP hS ⊢
        obtain ⟨u_34, hu_34, rfl, iu_34⟩ := hw
        refine lv_if_eq (tgt := 40) hx hb dX9_toldPlace_33 (by decide) (fun c_35 => ?_) (fun c_35 => ?_)
        · have c_35 : u_34 = 0 := (nI_eq (a := u_34) (b := 0) (Nat.lt_of_le_of_lt hu_34 (Nat.le_of_ble_eq_true rfl)) (Nat.le_of_ble_eq_true rfl)).mp c_35
          refine lv_iconst (v := 0) hx hb dX9_toldPlace_40 (by decide) ?_
          refine lv_iload_n hx hb dX9_toldPlace_41 rfl (lv_at hl 0 rfl) ?_
          refine va_calli (va_runS (As := [.int 0, .int (nI u_18)]) (rest := []) ⟨hx, hb, hml, hown, hts⟩ (c_M_greater_0 l dC dI _ ad ck x0 x16 x18 x19 x20 x21 x22 x23 x24 x25 z26_2 z27_3 0 x29 x30 x33 x45 x46 x52 x53 x61 x62 x63 x65 x66 f1 f2 f3 q4 q5 q6 q7 f8 q9 q10 f11 m12_0 m12_1 m13_0 m13_1 m14_0 m14_1 m15_0 m15_1 f17 q31 f32 f34 f35 f36 f37 q38 f39 f40 f41 m42_0 m42_1 f43 f44 f47 f48 f49 f50 f51 q54 q55 q56 f57 q58 f59 f60 f64 u_18 hx16 hx18 hx19 hx21 hx22 hz26_2 (Nat.le_of_ble_eq_true rfl) hx29 hx30 hx33 hx46 hx52 hx53 hx61 hx62 hx63 hx65 hm12_0 hm12_1 hm13_0 hm13_1 hm14_0 hm14_1 hm15_0 hm15_1 hm42_0 hm42_1 hu_18) (va_cwS 2 hts g_M_toldPlace_0_M_greater_0 rfl rfl rfl (by decide +kernel) ⟨Nat.le_of_ble_eq_true rfl, Nat.le_of_ble_eq_true rfl⟩) ⟨pu_bl, pu_in hP hK hD⟩ rfl rfl hl.1 rfl (lv_room (Nat.le_of_ble_eq_true rfl)) dX9_toldPlace_42 ⟨Nat.le_of_ble_eq_true rfl, Nat.le_of_ble_eq_true rfl⟩) hS (fun q _ h => pu_fr hS hA q h) (pu_fr hS hA) (fun r_36 u t H1 locs ht hvm hw hB hz1 hk1 hS => ?_)
          have hP := pu_keep hP hk1
          clear hk1 hz1 ht hvm
          generalize H1 = H at hP hS ⊢
          obtain rfl : r_36 = nI (u_18) := hw
          exact W.iret (v := (nI u_18)) hx hb hr (fun t ht hW => ⟨⟨(nI u_18), (), rfl, ⟨u_18, hu_18, rfl⟩, ⟨x20, x21, x22, x23, z26_2, z27_3, ⟨by rw [ht]; exact hP, va_K.moved hW.alike hK, hD⟩, hx21, hx22, hz26_2, by omega⟩⟩, hS.F ht⟩) hS.2.2 dX9_toldPlace_45
        · have c_35 : ¬ u_34 = 0 := fun z => c_35 ((nI_eq (a := u_34) (b := 0) (Nat.lt_of_le_of_lt hu_34 (Nat.le_of_ble_eq_true rfl)) (Nat.le_of_ble_eq_true rfl)).mpr z)
          refine lv_aload_n hx hb dX9_toldPlace_36 rfl (lv_at hl 1 rfl) ?_
          have hFc := pu_free hD hS hA
          refine va_callv (va_runV (As := []) (rest := []) ⟨hx, hb, hml, hown, hts⟩ (c_M_next l dC dI _ ad ck x0 x16 x18 x19 x20 x21 x22 x23 x24 x25 z26_2 z27_3 0 x29 x30 x33 x45 x46 x52 x53 x61 x62 x63 x65 x66 f1 f2 f3 q4 q5 q6 q7 f8 q9 q10 f11 m12_0 m12_1 m13_0 m13_1 m14_0 m14_1 m15_0 m15_1 f17 q31 f32 f34 f35 f36 f37 q38 f39 f40 f41 m42_0 m42_1 f43 f44 f47 f48 f49 f50 f51 q54 q55 q56 f57 q58 f59 f60 f64 hx16 hx18 hx19 hx21 hx22 hz26_2 (Nat.le_of_ble_eq_true rfl) hx29 hx30 hx33 hx46 hx52 hx53 hx61 hx62 hx63 hx65 hm12_0 hm12_1 hm13_0 hm13_1 hm14_0 hm14_1 hm15_0 hm15_1 hm42_0 hm42_1) (cwV 0 hts g_M_toldPlace_0_M_next rfl rfl rfl (by decide +kernel) ⟨Nat.le_of_ble_eq_true rfl, Nat.le_of_ble_eq_true rfl⟩) ⟨pu_bl, va_recv hK hP (ci := 9) (q0 := 0) rfl rfl, pu_in hP hK hD⟩ rfl rfl hl.1 rfl (lv_room (Nat.le_of_ble_eq_true rfl)) dX9_toldPlace_37 ⟨Nat.le_of_ble_eq_true rfl, Nat.le_of_ble_eq_true rfl⟩) hS (fun q _ h => hFc q h) hFc (fun u t H1 locs ht hvm hw hB hz1 hk1 hS => ?_)
          obtain ⟨z20_38, z21_39, z22_40, z23_41, ⟨hP1, -, hD1⟩, hz21_39, hz22_40, xr_37_0, xr_37_1⟩ := hB
          rw [ht] at hP1
          have hP := hP1
          have hD := pu_all hFc hD1
          clear hP1 hD1 hFc
          clear hk1 hz1 ht hvm
          generalize H1 = H at hP hS ⊢
          refine lv_iconst (v := 0) hx hb dX9_toldPlace_40 (by decide) ?_
          refine lv_iload_n hx hb dX9_toldPlace_41 rfl (lv_at hl 0 rfl) ?_
          refine va_calli (va_runS (As := [.int 0, .int (nI u_18)]) (rest := []) ⟨hx, hb, hml, hown, hts⟩ (c_M_greater_0 l dC dI _ ad ck x0 x16 x18 x19 z20_38 z21_39 z22_40 z23_41 x24 x25 z26_2 z27_3 0 x29 x30 x33 x45 x46 x52 x53 x61 x62 x63 x65 x66 f1 f2 f3 q4 q5 q6 q7 f8 q9 q10 f11 m12_0 m12_1 m13_0 m13_1 m14_0 m14_1 m15_0 m15_1 f17 q31 f32 f34 f35 f36 f37 q38 f39 f40 f41 m42_0 m42_1 f43 f44 f47 f48 f49 f50 f51 q54 q55 q56 f57 q58 f59 f60 f64 u_18 hx16 hx18 hx19 hz21_39 hz22_40 hz26_2 (Nat.le_of_ble_eq_true rfl) hx29 hx30 hx33 hx46 hx52 hx53 hx61 hx62 hx63 hx65 hm12_0 hm12_1 hm13_0 hm13_1 hm14_0 hm14_1 hm15_0 hm15_1 hm42_0 hm42_1 hu_18) (va_cwS 2 hts g_M_toldPlace_0_M_greater_0 rfl rfl rfl (by decide +kernel) ⟨Nat.le_of_ble_eq_true rfl, Nat.le_of_ble_eq_true rfl⟩) ⟨pu_bl, pu_in hP hK hD⟩ rfl rfl hl.1 rfl (lv_room (Nat.le_of_ble_eq_true rfl)) dX9_toldPlace_42 ⟨Nat.le_of_ble_eq_true rfl, Nat.le_of_ble_eq_true rfl⟩) hS (fun q _ h => pu_fr hS hA q h) (pu_fr hS hA) (fun r_42 u t H1 locs ht hvm hw hB hz1 hk1 hS => ?_)
          have hP := pu_keep hP hk1
          clear hk1 hz1 ht hvm
          generalize H1 = H at hP hS ⊢
          obtain rfl : r_42 = nI (u_18) := hw
          exact W.iret (v := (nI u_18)) hx hb hr (fun t ht hW => ⟨⟨(nI u_18), (), rfl, ⟨u_18, hu_18, rfl⟩, ⟨z20_38, z21_39, z22_40, z23_41, z26_2, z27_3, ⟨by rw [ht]; exact hP, va_K.moved hW.alike hK, hD⟩, hz21_39, hz22_40, hz26_2, by omega⟩⟩, hS.F ht⟩) hS.2.2 dX9_toldPlace_45
      · have c_32 : ¬ 0 ≤ u_18 := fun z => c_32 ((nI_leI (a := 0) (b := u_18) (Nat.le_of_ble_eq_true rfl) (Nat.lt_of_le_of_lt hu_18 (Nat.le_of_ble_eq_true rfl))).mpr z)
        exfalso
        omega
theorem dX9_readCondition_0 : decode cX9_readCondition 0 = .ok (.aload_n 0, 1) := by decide +kernel
theorem dX9_readCondition_1 : decode cX9_readCondition 1 = .ok (.invokevirtual 226, 3) := by decide +kernel
theorem dX9_readCondition_4 : decode cX9_readCondition 4 = .ok (.aload_n 0, 1) := by decide +kernel
theorem dX9_readCondition_5 : decode cX9_readCondition 5 = .ok (.getfield 34, 3) := by decide +kernel
theorem dX9_readCondition_8 : decode cX9_readCondition 8 = .ok (.iload_n 1, 1) := by decide +kernel
theorem dX9_readCondition_9 : decode cX9_readCondition 9 = .ok (.aload_n 0, 1) := by decide +kernel
theorem dX9_readCondition_10 : decode cX9_readCondition 10 = .ok (.invokevirtual 232, 3) := by decide +kernel
theorem dX9_readCondition_13 : decode cX9_readCondition 13 = .ok (.iastore, 1) := by decide +kernel
theorem dX9_readCondition_14 : decode cX9_readCondition 14 = .ok (.aload_n 0, 1) := by decide +kernel
theorem dX9_readCondition_15 : decode cX9_readCondition 15 = .ok (.invokevirtual 216, 3) := by decide +kernel
theorem dX9_readCondition_18 : decode cX9_readCondition 18 = .ok (.ifCond .eq 7, 3) := by decide +kernel
theorem dX9_readCondition_21 : decode cX9_readCondition 21 = .ok (.aload_n 0, 1) := by decide +kernel
theorem dX9_readCondition_22 : decode cX9_readCondition 22 = .ok (.invokevirtual 226, 3) := by decide +kernel
theorem dX9_readCondition_25 : decode cX9_readCondition 25 = .ok (.aload_n 0, 1) := by decide +kernel
theorem dX9_readCondition_26 : decode cX9_readCondition 26 = .ok (.bipush 60, 2) := by decide +kernel
theorem dX9_readCondition_28 : decode cX9_readCondition 28 = .ok (.invokevirtual 235, 3) := by decide +kernel
theorem dX9_readCondition_31 : decode cX9_readCondition 31 = .ok (.istore_n 3, 1) := by decide +kernel
theorem dX9_readCondition_32 : decode cX9_readCondition 32 = .ok (.aload_n 0, 1) := by decide +kernel
theorem dX9_readCondition_33 : decode cX9_readCondition 33 = .ok (.bipush 62, 2) := by decide +kernel
theorem dX9_readCondition_35 : decode cX9_readCondition 35 = .ok (.invokevirtual 235, 3) := by decide +kernel
theorem dX9_readCondition_38 : decode cX9_readCondition 38 = .ok (.ifCond .eq 11, 3) := by decide +kernel
theorem dX9_readCondition_41 : decode cX9_readCondition 41 = .ok (.iload_n 2, 1) := by decide +kernel
theorem dX9_readCondition_42 : decode cX9_readCondition 42 = .ok (.ifCond .ne 7, 3) := by decide +kernel
theorem dX9_readCondition_45 : decode cX9_readCondition 45 = .ok (.iconst 1, 1) := by decide +kernel
theorem dX9_readCondition_46 : decode cX9_readCondition 46 = .ok (.goto 4, 3) := by decide +kernel
theorem dX9_readCondition_49 : decode cX9_readCondition 49 = .ok (.iconst 0, 1) := by decide +kernel
theorem dX9_readCondition_50 : decode cX9_readCondition 50 = .ok (.istore 4, 2) := by decide +kernel
theorem dX9_readCondition_52 : decode cX9_readCondition 52 = .ok (.aload_n 0, 1) := by decide +kernel
theorem dX9_readCondition_53 : decode cX9_readCondition 53 = .ok (.bipush 61, 2) := by decide +kernel
theorem dX9_readCondition_55 : decode cX9_readCondition 55 = .ok (.invokevirtual 235, 3) := by decide +kernel
theorem dX9_readCondition_58 : decode cX9_readCondition 58 = .ok (.ifCond .eq 11, 3) := by decide +kernel
theorem dX9_readCondition_61 : decode cX9_readCondition 61 = .ok (.iload_n 2, 1) := by decide +kernel
theorem dX9_readCondition_62 : decode cX9_readCondition 62 = .ok (.ifCond .ne 7, 3) := by decide +kernel
theorem dX9_readCondition_65 : decode cX9_readCondition 65 = .ok (.iconst 1, 1) := by decide +kernel
theorem dX9_readCondition_66 : decode cX9_readCondition 66 = .ok (.goto 4, 3) := by decide +kernel
theorem dX9_readCondition_69 : decode cX9_readCondition 69 = .ok (.iconst 0, 1) := by decide +kernel
theorem dX9_readCondition_70 : decode cX9_readCondition 70 = .ok (.istore 5, 2) := by decide +kernel
theorem dX9_readCondition_72 : decode cX9_readCondition 72 = .ok (.aload_n 0, 1) := by decide +kernel
theorem dX9_readCondition_73 : decode cX9_readCondition 73 = .ok (.invokevirtual 216, 3) := by decide +kernel
theorem dX9_readCondition_76 : decode cX9_readCondition 76 = .ok (.ifCond .eq 22, 3) := by decide +kernel
theorem dX9_readCondition_79 : decode cX9_readCondition 79 = .ok (.iload_n 3, 1) := by decide +kernel
theorem dX9_readCondition_80 : decode cX9_readCondition 80 = .ok (.ifCond .ne 18, 3) := by decide +kernel
theorem dX9_readCondition_83 : decode cX9_readCondition 83 = .ok (.iload 4, 2) := by decide +kernel
theorem dX9_readCondition_85 : decode cX9_readCondition 85 = .ok (.ifCond .ne 13, 3) := by decide +kernel
theorem dX9_readCondition_88 : decode cX9_readCondition 88 = .ok (.iload 5, 2) := by decide +kernel
theorem dX9_readCondition_90 : decode cX9_readCondition 90 = .ok (.ifCond .ne 8, 3) := by decide +kernel
theorem dX9_readCondition_93 : decode cX9_readCondition 93 = .ok (.aload_n 0, 1) := by decide +kernel
theorem dX9_readCondition_94 : decode cX9_readCondition 94 = .ok (.iconst 2, 1) := by decide +kernel
theorem dX9_readCondition_95 : decode cX9_readCondition 95 = .ok (.invokevirtual 210, 3) := by decide +kernel
theorem dX9_readCondition_98 : decode cX9_readCondition 98 = .ok (.aload_n 0, 1) := by decide +kernel
theorem dX9_readCondition_99 : decode cX9_readCondition 99 = .ok (.invokevirtual 216, 3) := by decide +kernel
theorem dX9_readCondition_102 : decode cX9_readCondition 102 = .ok (.ifCond .ne 4, 3) := by decide +kernel
theorem dX9_readCondition_105 : decode cX9_readCondition 105 = .ok (.return_, 1) := by decide +kernel
theorem dX9_readCondition_106 : decode cX9_readCondition 106 = .ok (.aload_n 0, 1) := by decide +kernel
theorem dX9_readCondition_107 : decode cX9_readCondition 107 = .ok (.invokevirtual 226, 3) := by decide +kernel
theorem dX9_readCondition_110 : decode cX9_readCondition 110 = .ok (.iload 5, 2) := by decide +kernel
theorem dX9_readCondition_112 : decode cX9_readCondition 112 = .ok (.ifCond .ne 16, 3) := by decide +kernel
theorem dX9_readCondition_115 : decode cX9_readCondition 115 = .ok (.aload_n 0, 1) := by decide +kernel
theorem dX9_readCondition_116 : decode cX9_readCondition 116 = .ok (.bipush 61, 2) := by decide +kernel
theorem dX9_readCondition_118 : decode cX9_readCondition 118 = .ok (.invokevirtual 235, 3) := by decide +kernel
theorem dX9_readCondition_121 : decode cX9_readCondition 121 = .ok (.ifCond .eq 7, 3) := by decide +kernel
theorem dX9_readCondition_124 : decode cX9_readCondition 124 = .ok (.iconst 1, 1) := by decide +kernel
theorem dX9_readCondition_125 : decode cX9_readCondition 125 = .ok (.goto 4, 3) := by decide +kernel
theorem dX9_readCondition_128 : decode cX9_readCondition 128 = .ok (.iconst 0, 1) := by decide +kernel
theorem dX9_readCondition_129 : decode cX9_readCondition 129 = .ok (.istore 6, 2) := by decide +kernel
theorem dX9_readCondition_131 : decode cX9_readCondition 131 = .ok (.iload 6, 2) := by decide +kernel
theorem dX9_readCondition_133 : decode cX9_readCondition 133 = .ok (.ifCond .eq 7, 3) := by decide +kernel
theorem dX9_readCondition_136 : decode cX9_readCondition 136 = .ok (.aload_n 0, 1) := by decide +kernel
theorem dX9_readCondition_137 : decode cX9_readCondition 137 = .ok (.invokevirtual 226, 3) := by decide +kernel
theorem dX9_readCondition_140 : decode cX9_readCondition 140 = .ok (.aload_n 0, 1) := by decide +kernel
theorem dX9_readCondition_141 : decode cX9_readCondition 141 = .ok (.getfield 37, 3) := by decide +kernel
theorem dX9_readCondition_144 : decode cX9_readCondition 144 = .ok (.iload_n 1, 1) := by decide +kernel
theorem dX9_readCondition_145 : decode cX9_readCondition 145 = .ok (.iload 5, 2) := by decide +kernel
theorem dX9_readCondition_147 : decode cX9_readCondition 147 = .ok (.ifCond .eq 7, 3) := by decide +kernel
theorem dX9_readCondition_150 : decode cX9_readCondition 150 = .ok (.iconst 2, 1) := by decide +kernel
theorem dX9_readCondition_151 : decode cX9_readCondition 151 = .ok (.goto 30, 3) := by decide +kernel
theorem dX9_readCondition_154 : decode cX9_readCondition 154 = .ok (.iload_n 3, 1) := by decide +kernel
theorem dX9_readCondition_155 : decode cX9_readCondition 155 = .ok (.ifCond .eq 16, 3) := by decide +kernel
theorem dX9_readCondition_158 : decode cX9_readCondition 158 = .ok (.iload 6, 2) := by decide +kernel
theorem dX9_readCondition_160 : decode cX9_readCondition 160 = .ok (.ifCond .eq 7, 3) := by decide +kernel
theorem dX9_readCondition_163 : decode cX9_readCondition 163 = .ok (.iconst 1, 1) := by decide +kernel
theorem dX9_readCondition_164 : decode cX9_readCondition 164 = .ok (.goto 17, 3) := by decide +kernel
theorem dX9_readCondition_167 : decode cX9_readCondition 167 = .ok (.iconst 0, 1) := by decide +kernel
theorem dX9_readCondition_168 : decode cX9_readCondition 168 = .ok (.goto 13, 3) := by decide +kernel
theorem dX9_readCondition_171 : decode cX9_readCondition 171 = .ok (.iload 6, 2) := by decide +kernel
theorem dX9_readCondition_173 : decode cX9_readCondition 173 = .ok (.ifCond .eq 7, 3) := by decide +kernel
theorem dX9_readCondition_176 : decode cX9_readCondition 176 = .ok (.iconst 3, 1) := by decide +kernel
theorem dX9_readCondition_177 : decode cX9_readCondition 177 = .ok (.goto 4, 3) := by decide +kernel
theorem dX9_readCondition_180 : decode cX9_readCondition 180 = .ok (.iconst 4, 1) := by decide +kernel
theorem dX9_readCondition_181 : decode cX9_readCondition 181 = .ok (.iastore, 1) := by decide +kernel
theorem dX9_readCondition_182 : decode cX9_readCondition 182 = .ok (.aload_n 0, 1) := by decide +kernel
theorem dX9_readCondition_183 : decode cX9_readCondition 183 = .ok (.getfield 172, 3) := by decide +kernel
theorem dX9_readCondition_186 : decode cX9_readCondition 186 = .ok (.iconst 2, 1) := by decide +kernel
theorem dX9_readCondition_187 : decode cX9_readCondition 187 = .ok (.if_icmp .eq 11, 3) := by decide +kernel
theorem dX9_readCondition_190 : decode cX9_readCondition 190 = .ok (.aload_n 0, 1) := by decide +kernel
theorem dX9_readCondition_191 : decode cX9_readCondition 191 = .ok (.iconst 2, 1) := by decide +kernel
theorem dX9_readCondition_192 : decode cX9_readCondition 192 = .ok (.invokevirtual 210, 3) := by decide +kernel
theorem dX9_readCondition_195 : decode cX9_readCondition 195 = .ok (.goto 17, 3) := by decide +kernel
theorem dX9_readCondition_198 : decode cX9_readCondition 198 = .ok (.aload_n 0, 1) := by decide +kernel
theorem dX9_readCondition_199 : decode cX9_readCondition 199 = .ok (.getfield 169, 3) := by decide +kernel
theorem dX9_readCondition_202 : decode cX9_readCondition 202 = .ok (.bipush 20, 2) := by decide +kernel
theorem dX9_readCondition_204 : decode cX9_readCondition 204 = .ok (.if_icmp .le 8, 3) := by decide +kernel
theorem dX9_readCondition_207 : decode cX9_readCondition 207 = .ok (.aload_n 0, 1) := by decide +kernel
theorem dX9_readCondition_208 : decode cX9_readCondition 208 = .ok (.iconst 4, 1) := by decide +kernel
theorem dX9_readCondition_209 : decode cX9_readCondition 209 = .ok (.invokevirtual 210, 3) := by decide +kernel
theorem dX9_readCondition_212 : decode cX9_readCondition 212 = .ok (.aload_n 0, 1) := by decide +kernel
theorem dX9_readCondition_213 : decode cX9_readCondition 213 = .ok (.getfield 40, 3) := by decide +kernel
theorem dX9_readCondition_216 : decode cX9_readCondition 216 = .ok (.iload_n 1, 1) := by decide +kernel
theorem dX9_readCondition_217 : decode cX9_readCondition 217 = .ok (.aload_n 0, 1) := by decide +kernel
theorem dX9_readCondition_218 : decode cX9_readCondition 218 = .ok (.getfield 169, 3) := by decide +kernel
theorem dX9_readCondition_221 : decode cX9_readCondition 221 = .ok (.iastore, 1) := by decide +kernel
theorem dX9_readCondition_222 : decode cX9_readCondition 222 = .ok (.aload_n 0, 1) := by decide +kernel
theorem dX9_readCondition_223 : decode cX9_readCondition 223 = .ok (.invokevirtual 216, 3) := by decide +kernel
theorem dX9_readCondition_226 : decode cX9_readCondition 226 = .ok (.ifCond .eq 7, 3) := by decide +kernel
theorem dX9_readCondition_229 : decode cX9_readCondition 229 = .ok (.aload_n 0, 1) := by decide +kernel
theorem dX9_readCondition_230 : decode cX9_readCondition 230 = .ok (.invokevirtual 226, 3) := by decide +kernel
theorem dX9_readCondition_233 : decode cX9_readCondition 233 = .ok (.return_, 1) := by decide +kernel
abbrev vs_M_readCondition0_0 : List Cond := .code yX9_readCondition cX9_readCondition 7 none :: VM
theorem g_M_readCondition0_0_M_next : GoodIn vs_M_readCondition0_0 (wsV RX9 226 RX9 yX9_next vs_M_next) := gm_V vm_100 vm_101 vm_102 vm_12 vm_72
theorem g_M_readCondition0_0_M_toldClock_0 : GoodIn vs_M_readCondition0_0 (wsV RX9 232 RX9 yX9_toldClock vs_M_toldClock_0) := gm_V vm_109 vm_110 vm_111 vm_12 vm_103
theorem g_M_readCondition0_0_M_isGood : GoodIn vs_M_readCondition0_0 (wsV RX9 216 RX9 yX9_isGood vs_M_isGood) := gm_V vm_91 vm_92 vm_93 vm_12 vm_15
theorem g_M_readCondition0_0_M_isSign : GoodIn vs_M_readCondition0_0 (wsV RX9 235 RX9 yX9_isSign vs_M_isSign) := gm_V vm_112 vm_113 vm_114 vm_12 vm_38
theorem g_M_readCondition0_0_M_fails : GoodIn vs_M_readCondition0_0 (wsV RX9 210 RX9 yX9_fails vs_M_fails) := gm_V vm_55 vm_56 vm_57 vm_12 vm_39
set_option maxHeartbeats 4000000 in
set_option maxRecDepth 100000 in
theorem c_M_readCondition0_0 (l : Launch) (dC : Nat → ClassId) (dI : Nat → Nat → Nat) (sz : Nat) (ad : Nat → Nat) (ck : Nat → ClassId) (x0 : Int32) (x16 : Nat) (x18 : Nat) (x19 : Nat) (x20 : Int32) (x21 : Nat) (x22 : Nat) (x23 : Int32) (x24 : Int32) (x25 : Int32) (x26 : Nat) (x27 : Int32) (x29 : Nat) (x30 : Nat) (x33 : Nat) (x45 : Int32) (x46 : Nat) (x52 : Nat) (x53 : Nat) (x61 : Nat) (x62 : Nat) (x63 : Nat) (x65 : Nat) (x66 : Int32) (f1 : Nat → Int32) (f2 : Nat → Int32) (f3 : Nat → Int32) (q4 : Nat → Nat) (q5 : Nat → Nat) (q6 : Nat → Nat) (q7 : Nat → Nat) (f8 : Nat → Int32) (q9 : Nat → Nat) (q10 : Nat → Nat) (f11 : Nat → Int32) (m12_0 m12_1 : Nat) (m13_0 m13_1 : Nat) (m14_0 m14_1 : Nat) (m15_0 m15_1 : Nat) (f17 : Nat → Int32) (q31 : Nat → Nat) (f32 : Nat → Int32) (f34 : Nat → Int32) (f35 : Nat → Int32) (f36 : Nat → Int32) (f37 : Nat → Int32) (q38 : Nat → Nat) (f39 : Nat → Int32) (f40 : Nat → Int32) (f41 : Nat → Int32) (m42_0 m42_1 : Nat) (f43 : Nat → Int32) (f44 : Nat → Int32) (f47 : Nat → Int32) (f48 : Nat → Int32) (f49 : Nat → Int32) (f50 : Nat → Int32) (f51 : Nat → Int32) (q54 : Nat → Nat) (q55 : Nat → Nat) (q56 : Nat → Nat) (f57 : Nat → Int32) (q58 : Nat → Nat) (f59 : Nat → Int32) (f60 : Nat → Int32) (f64 : Nat → Int32) (a0 : Nat) (hx16 : x16 ≤ 1) (hx18 : x18 ≤ 900) (hx19 : x19 ≤ 900) (hx21 : x21 ≤ 900) (hx22 : x22 ≤ 4) (hx26 : x26 ≤ 6) (hx29 : x29 ≤ 1) (hx30 : x30 ≤ 1) (hx33 : x33 ≤ 20) (hx46 : x46 ≤ 5) (hx52 : x52 ≤ 2400) (hx53 : x53 ≤ 119) (hx61 : x61 ≤ 119) (hx62 : x62 ≤ 2000) (hx63 : x63 ≤ 1) (hx65 : x65 ≤ 7) (hm12_0 : m12_0 ≤ 3) (hm12_1 : m12_1 ≤ 3) (hm13_0 : m13_0 ≤ 8) (hm13_1 : m13_1 ≤ 8) (hm14_0 : m14_0 ≤ 14) (hm14_1 : m14_1 ≤ 14) (hm15_0 : m15_0 ≤ 8) (hm15_1 : m15_1 ≤ 8) (hm42_0 : m42_0 ≤ 120) (hm42_1 : m42_1 ≤ 400) (ha0 : a0 ≤ 55) : Met l yX9_readCondition vs_M_readCondition0_0 ({ frames := 4, cells := 0, slots := 0, locals := 82 }) (va_Pc [.ref (ad 0), .int (nI a0), .int 0] (pu_B (dC, dI) (mo_w ad ck x0 (nI x16) (nI x18) (nI x19) x20 (nI x21) (nI x22) x23 x24 x25 (nI x26) x27 0 (nI x29) (nI x30) (nI x33) x45 (nI x46) (nI x52) (nI x53) (nI x61) (nI x62) (nI x63) (nI x65) x66 f1 f2 f3 (bN 3 q4) (bN 7 q5) (bN 7 q6) (bN 4 q7) f8 (bN 2 q9) (bH q10) f11 (b2 m12_0 m12_1) (b2 m13_0 m13_1) (b2 m14_0 m14_1) (b2m m15_0 m15_1) f17 (bA 159 q31) f32 f34 f35 f36 f37 (bN 7 q38) f39 f40 f41 (b2 m42_0 m42_1) f43 f44 f47 f48 f49 f50 f51 (bN 13 q54) (bN 120 q55) (bN 120 q56) f57 (bN 120 q58) f59 f60 f64) (mo_t ck) sz)) (va_Qv (fun (_ : Unit) => True) (fun _ t => ∃ (z10 : Nat → Nat) (z11 : Nat → Int32) (z9 : Nat → Nat) (z20 : Int32) (z21 : Nat) (z22 : Nat) (z23 : Int32) (z26 : Nat) (z27 : Int32), pu_E (dC, dI) (mo_w ad ck x0 (nI x16) (nI x18) (nI x19) z20 (nI z21) (nI z22) z23 x24 x25 (nI z26) z27 0 (nI x29) (nI x30) (nI x33) x45 (nI x46) (nI x52) (nI x53) (nI x61) (nI x62) (nI x63) (nI x65) x66 f1 f2 f3 (bN 3 q4) (bN 7 q5) (bN 7 q6) (bN 4 q7) f8 (bN 2 z9) (bH z10) z11 (b2 m12_0 m12_1) (b2 m13_0 m13_1) (b2 m14_0 m14_1) (b2m m15_0 m15_1) f17 (bA 159 q31) f32 f34 f35 f36 f37 (bN 7 q38) f39 f40 f41 (b2 m42_0 m42_1) f43 f44 f47 f48 f49 f50 f51 (bN 13 q54) (bN 120 q55) (bN 120 q56) f57 (bN 120 q58) f59 f60 f64) (mo_t ck) (va_A ((mo_w ad ck x0 (nI x16) (nI x18) (nI x19) x20 (nI x21) (nI x22) x23 x24 x25 (nI x26) x27 0 (nI x29) (nI x30) (nI x33) x45 (nI x46) (nI x52) (nI x53) (nI x61) (nI x62) (nI x63) (nI x65) x66 f1 f2 f3 (bN 3 q4) (bN 7 q5) (bN 7 q6) (bN 4 q7) f8 (bN 2 q9) (bH q10) f11 (b2 m12_0 m12_1) (b2 m13_0 m13_1) (b2 m14_0 m14_1) (b2m m15_0 m15_1) f17 (bA 159 q31) f32 f34 f35 f36 f37 (bN 7 q38) f39 f40 f41 (b2 m42_0 m42_1) f43 f44 f47 f48 f49 f50 f51 (bN 13 q54) (bN 120 q55) (bN 120 q56) f57 (bN 120 q58) f59 f60 f64)) sz) t ∧ (z21 ≤ 900) ∧ (z22 ≤ 4) ∧ (z26 ≤ 6) ∧ (mu z21 z22 ≤ mu x21 x22) ∧ (x22 = 0 ∨ mu z21 z22 < mu x21 x22)) (va_A ((mo_w ad ck x0 (nI x16) (nI x18) (nI x19) x20 (nI x21) (nI x22) x23 x24 x25 (nI x26) x27 0 (nI x29) (nI x30) (nI x33) x45 (nI x46) (nI x52) (nI x53) (nI x61) (nI x62) (nI x63) (nI x65) x66 f1 f2 f3 (bN 3 q4) (bN 7 q5) (bN 7 q6) (bN 4 q7) f8 (bN 2 q9) (bH q10) f11 (b2 m12_0 m12_1) (b2 m13_0 m13_1) (b2 m14_0 m14_1) (b2m m15_0 m15_1) f17 (bA 159 q31) f32 f34 f35 f36 f37 (bN 7 q38) f39 f40 f41 (b2 m42_0 m42_1) f43 f44 f47 f48 f49 f50 f51 (bN 13 q54) (bN 120 q55) (bN 120 q56) f57 (bN 120 q58) f59 f60 f64)) sz)) 0 0 (va_A ((mo_w ad ck x0 (nI x16) (nI x18) (nI x19) x20 (nI x21) (nI x22) x23 x24 x25 (nI x26) x27 0 (nI x29) (nI x30) (nI x33) x45 (nI x46) (nI x52) (nI x53) (nI x61) (nI x62) (nI x63) (nI x65) x66 f1 f2 f3 (bN 3 q4) (bN 7 q5) (bN 7 q6) (bN 4 q7) f8 (bN 2 q9) (bH q10) f11 (b2 m12_0 m12_1) (b2 m13_0 m13_1) (b2 m14_0 m14_1) (b2m m15_0 m15_1) f17 (bA 159 q31) f32 f34 f35 f36 f37 (bN 7 q38) f39 f40 f41 (b2 m42_0 m42_1) f43 f44 f47 f48 f49 f50 f51 (bN 13 q54) (bN 120 q55) (bN 120 q56) f57 (bN 120 q58) f59 f60 f64)) sz) := by
  refine Met.ofW (cc := cX9_readCondition) (maxL := 7) (ret := none) (by decide) rfl ?_
  intro p e s m args below meth c s₁ B hml hv
  obtain ⟨rfl, rfl, hP, hK, hD0⟩ := hv
  have hx := B.exec
  have hb := B.bytes
  have hr := B.returns
  have hts := atoms_spec (ws := vs_M_readCondition0_0) B.pre
  have v_6 := hts (.fieldLink RX9 34 "ClockReachModel" "ofClock" "[I") (List.mem_cons_of_mem _ vm_108)
  have v_23 := hts (.fieldLink RX9 37 "ClockReachModel" "how" "[I") (List.mem_cons_of_mem _ vm_115)
  have v_24 := hts (.fieldLink RX9 172 "ClockReachModel" "token" "I") (List.mem_cons_of_mem _ vm_36)
  have v_25 := hts (.fieldLink RX9 169 "ClockReachModel" "value" "I") (List.mem_cons_of_mem _ vm_37)
  have v_26 := hts (.fieldLink RX9 40 "ClockReachModel" "limit" "[I") (List.mem_cons_of_mem _ vm_116)
  have hown : s.vm.findClass RX9 = some m.cls := findClass_of_methodNamed B.named
  have hlocks := B.notSynchronized
  have hiX9 : ∀ w ∈ wsX90, w ∈ vs_M_readCondition0_0 := fun _ h => List.mem_cons_of_mem _ (List.mem_append_right _ h)
  have hD := hD0.self (sz := s.heap.size)
  generalize hAe : va_A ((mo_w ad ck x0 (nI x16) (nI x18) (nI x19) x20 (nI x21) (nI x22) x23 x24 x25 (nI x26) x27 0 (nI x29) (nI x30) (nI x33) x45 (nI x46) (nI x52) (nI x53) (nI x61) (nI x62) (nI x63) (nI x65) x66 f1 f2 f3 (bN 3 q4) (bN 7 q5) (bN 7 q6) (bN 4 q7) f8 (bN 2 q9) (bH q10) f11 (b2 m12_0 m12_1) (b2 m13_0 m13_1) (b2 m14_0 m14_1) (b2m m15_0 m15_1) f17 (bA 159 q31) f32 f34 f35 f36 f37 (bN 7 q38) f39 f40 f41 (b2 m42_0 m42_1) f43 f44 f47 f48 f49 f50 f51 (bN 13 q54) (bN 120 q55) (bN 120 q56) f57 (bN 120 q58) f59 f60 f64)) s.heap.size = A at hD ⊢
  have hA : ∀ q : Nat, s.heap.size ≤ q → A q := fun q h => by rw [← hAe]; exact Or.inr h
  have hS : va_S A s.heap s.heap [] := va_S.rf
  have hl := lv_entry ([.ref (ad 0), .int (nI a0), .int 0]) (n := 7) (Nat.le_of_ble_eq_true rfl)
  rw [lg_entry_eq]
  generalize (lg_sl ([.ref (ad 0), .int (nI a0), .int 0]) ++ List.replicate (7 - (lg_sl ([.ref (ad 0), .int (nI a0), .int 0])).length) Slot.unset).toArray = ls at hl ⊢
  have hl : lv_has ls 7 [(0, .ref (ad 0)), (1, .int (nI a0)), (2, .int 0)] := hl
  refine lv_aload_n hx hb dX9_readCondition_0 rfl (lv_at hl 0 rfl) ?_
  have hFc := pu_free hD hS hA
  refine va_callv (va_runV (As := []) (rest := []) ⟨hx, hb, hml, hown, hts⟩ (c_M_next l dC dI _ ad ck x0 x16 x18 x19 x20 x21 x22 x23 x24 x25 x26 x27 0 x29 x30 x33 x45 x46 x52 x53 x61 x62 x63 x65 x66 f1 f2 f3 q4 q5 q6 q7 f8 q9 q10 f11 m12_0 m12_1 m13_0 m13_1 m14_0 m14_1 m15_0 m15_1 f17 q31 f32 f34 f35 f36 f37 q38 f39 f40 f41 m42_0 m42_1 f43 f44 f47 f48 f49 f50 f51 q54 q55 q56 f57 q58 f59 f60 f64 hx16 hx18 hx19 hx21 hx22 hx26 (Nat.le_of_ble_eq_true rfl) hx29 hx30 hx33 hx46 hx52 hx53 hx61 hx62 hx63 hx65 hm12_0 hm12_1 hm13_0 hm13_1 hm14_0 hm14_1 hm15_0 hm15_1 hm42_0 hm42_1) (cwV 0 hts g_M_readCondition0_0_M_next rfl rfl rfl (by decide +kernel) ⟨Nat.le_of_ble_eq_true rfl, Nat.le_of_ble_eq_true rfl⟩) ⟨pu_bl, va_recv hK hP (ci := 9) (q0 := 0) rfl rfl, pu_in hP hK hD⟩ rfl rfl hl.1 rfl (lv_room (Nat.le_of_ble_eq_true rfl)) dX9_readCondition_1 ⟨Nat.le_of_ble_eq_true rfl, Nat.le_of_ble_eq_true rfl⟩) hS (fun q _ h => hFc q h) hFc (fun u t H1 locs ht hvm hw hB hz1 hk1 hS => ?_)
  obtain ⟨z20_2, z21_3, z22_4, z23_5, ⟨hP1, -, hD1⟩, hz21_3, hz22_4, xr_1_0, xr_1_1⟩ := hB
  rw [ht] at hP1
  have hP := hP1
  have hD := pu_all hFc hD1
  clear hP1 hD1 hFc
  clear hk1 hz1 ht hvm
  generalize H1 = H at hP hS ⊢
  refine lv_aload_n hx hb dX9_readCondition_4 rfl (lv_at hl 0 rfl) ?_
  refine va_get (D := (dC, dI)) (ci := 9) (v := .ref (ad 9)) (C := RX9) (T := TX9) (N := 67) hx hb hts hiX9 hown hK hP 0 rfl rfl 9 (by decide) v_6 (fun _ h9 => h9) rfl dX9_readCondition_5 ?_
  refine lv_iload_n hx hb dX9_readCondition_8 rfl (lv_at hl 1 rfl) ?_
  refine lv_aload_n hx hb dX9_readCondition_9 rfl (lv_at hl 0 rfl) ?_
  have hFc := pu_free hD hS hA
  refine va_calli (va_runV (As := []) (rest := [.int (nI a0), .ref (ad 9)]) ⟨hx, hb, hml, hown, hts⟩ (c_M_toldClock_0 l dC dI _ ad ck x0 x16 x18 x19 z20_2 z21_3 z22_4 z23_5 x24 x25 x26 x27 x29 x30 x33 x45 x46 x52 x53 x61 x62 x63 x65 x66 f1 f2 f3 q4 q5 q6 q7 f8 q9 q10 f11 m12_0 m12_1 m13_0 m13_1 m14_0 m14_1 m15_0 m15_1 f17 q31 f32 f34 f35 f36 f37 q38 f39 f40 f41 m42_0 m42_1 f43 f44 f47 f48 f49 f50 f51 q54 q55 q56 f57 q58 f59 f60 f64 hx16 hx18 hx19 hz21_3 hz22_4 hx26 hx29 hx30 hx33 hx46 hx52 hx53 hx61 hx62 hx63 hx65 hm12_0 hm12_1 hm13_0 hm13_1 hm14_0 hm14_1 hm15_0 hm15_1 hm42_0 hm42_1) (cwV 0 hts g_M_readCondition0_0_M_toldClock_0 rfl rfl rfl (by decide +kernel) ⟨Nat.le_of_ble_eq_true rfl, Nat.le_of_ble_eq_true rfl⟩) ⟨pu_bl, va_recv hK hP (ci := 9) (q0 := 0) rfl rfl, pu_in hP hK hD⟩ rfl rfl hl.1 rfl (lv_room (Nat.le_of_ble_eq_true rfl)) dX9_readCondition_10 ⟨Nat.le_of_ble_eq_true rfl, Nat.le_of_ble_eq_true rfl⟩) hS (fun q _ h => hFc q h) hFc (fun r_6 u t H1 locs ht hvm hw hB hz1 hk1 hS => ?_)
  obtain ⟨z26_7, z27_8, ⟨hP1, -, hD1⟩, hz26_7⟩ := hB
  rw [ht] at hP1
  have hP := hP1
  have hD := pu_all hFc hD1
  clear hP1 hD1 hFc
  clear hk1 hz1 ht hvm
  generalize H1 = H at hP hS ⊢
  obtain ⟨u_9, hu_9, rfl⟩ := hw
  refine va_iast hx hb hK hP hD hS 9 8 rfl rfl (vp_in_nI (n := a0) (Nat.lt_of_le_of_lt ha0 (Nat.le_of_ble_eq_true rfl)) (Nat.le_of_ble_eq_true rfl)) dX9_readCondition_13 (fun H locs hP hD hS => ?_)
  obtain ⟨q_10, eq_10, kq_10⟩ := bN_up 2 q9 (((nI a0) : Int32).toNatClampNeg) (v := u_9) hu_9
  have hP : va_P (dC, dI) vwCl (mo_w ad ck x0 (nI x16) (nI x18) (nI x19) z20_2 (nI z21_3) (nI z22_4) z23_5 x24 x25 (nI z26_7) z27_8 0 (nI x29) (nI x30) (nI x33) x45 (nI x46) (nI x52) (nI x53) (nI x61) (nI x62) (nI x63) (nI x65) x66 f1 f2 f3 (bN 3 q4) (bN 7 q5) (bN 7 q6) (bN 4 q7) f8 (bN 2 q_10) (bH q10) f11 (b2 m12_0 m12_1) (b2 m13_0 m13_1) (b2 m14_0 m14_1) (b2m m15_0 m15_1) f17 (bA 159 q31) f32 f34 f35 f36 f37 (bN 7 q38) f39 f40 f41 (b2 m42_0 m42_1) f43 f44 f47 f48 f49 f50 f51 (bN 13 q54) (bN 120 q55) (bN 120 q56) f57 (bN 120 q58) f59 f60 f64) H := by rw [← eq_10]; exact hP
  have hD : va_D A (mo_w ad ck x0 (nI x16) (nI x18) (nI x19) z20_2 (nI z21_3) (nI z22_4) z23_5 x24 x25 (nI z26_7) z27_8 0 (nI x29) (nI x30) (nI x33) x45 (nI x46) (nI x52) (nI x53) (nI x61) (nI x62) (nI x63) (nI x65) x66 f1 f2 f3 (bN 3 q4) (bN 7 q5) (bN 7 q6) (bN 4 q7) f8 (bN 2 q_10) (bH q10) f11 (b2 m12_0 m12_1) (b2 m13_0 m13_1) (b2 m14_0 m14_1) (b2m m15_0 m15_1) f17 (bA 159 q31) f32 f34 f35 f36 f37 (bN 7 q38) f39 f40 f41 (b2 m42_0 m42_1) f43 f44 f47 f48 f49 f50 f51 (bN 13 q54) (bN 120 q55) (bN 120 q56) f57 (bN 120 q58) f59 f60 f64) := by rw [← eq_10]; exact hD
  refine lv_aload_n hx hb dX9_readCondition_14 rfl (lv_at hl 0 rfl) ?_
  refine va_calli (va_runV (As := []) (rest := []) ⟨hx, hb, hml, hown, hts⟩ (c_M_isGood l dC dI _ ad ck x0 x16 x18 x19 z20_2 z21_3 z22_4 z23_5 x24 x25 z26_7 z27_8 0 x29 x30 x33 x45 x46 x52 x53 x61 x62 x63 x65 x66 f1 f2 f3 q4 q5 q6 q7 f8 q_10 q10 f11 m12_0 m12_1 m13_0 m13_1 m14_0 m14_1 m15_0 m15_1 f17 q31 f32 f34 f35 f36 f37 q38 f39 f40 f41 m42_0 m42_1 f43 f44 f47 f48 f49 f50 f51 q54 q55 q56 f57 q58 f59 f60 f64 hx16 hx18 hx19 hz21_3 hz22_4 hz26_7 (Nat.le_of_ble_eq_true rfl) hx29 hx30 hx33 hx46 hx52 hx53 hx61 hx62 hx63 hx65 hm12_0 hm12_1 hm13_0 hm13_1 hm14_0 hm14_1 hm15_0 hm15_1 hm42_0 hm42_1) (cwV 0 hts g_M_readCondition0_0_M_isGood rfl rfl rfl (by decide +kernel) ⟨Nat.le_of_ble_eq_true rfl, Nat.le_of_ble_eq_true rfl⟩) ⟨pu_bl, va_recv hK hP (ci := 9) (q0 := 0) rfl rfl, pu_in hP hK hD⟩ rfl rfl hl.1 rfl (lv_room (Nat.le_of_ble_eq_true rfl)) dX9_readCondition_15 ⟨Nat.le_of_ble_eq_true rfl, Nat.le_of_ble_eq_true rfl⟩) hS (fun q _ h => pu_fr hS hA q h) (pu_fr hS hA) (fun r_11 u t H1 locs ht hvm hw hB hz1 hk1 hS => ?_)
  have hP := pu_keep hP hk1
  clear hk1 hz1 ht hvm
  generalize H1 = H at hP hS ⊢
  obtain ⟨u_12, hu_12, rfl, iu_12⟩ := hw
  refine pu_join (fun H locs ls st => ∃ (g_13 : Int32) (g_14 : Nat) (g_15 : Nat) (g_16 : Int32), st = [] ∧ g_14 ≤ 900 ∧ g_15 ≤ 4 ∧ mu g_14 g_15 ≤ mu x21 x22 ∧ (x22 = 0 ∨ mu g_14 g_15 < mu x21 x22) ∧ va_P (dC, dI) vwCl (mo_w ad ck x0 (nI x16) (nI x18) (nI x19) g_13 (nI g_14) (nI g_15) g_16 x24 x25 (nI z26_7) z27_8 0 (nI x29) (nI x30) (nI x33) x45 (nI x46) (nI x52) (nI x53) (nI x61) (nI x62) (nI x63) (nI x65) x66 f1 f2 f3 (bN 3 q4) (bN 7 q5) (bN 7 q6) (bN 4 q7) f8 (bN 2 q_10) (bH q10) f11 (b2 m12_0 m12_1) (b2 m13_0 m13_1) (b2 m14_0 m14_1) (b2m m15_0 m15_1) f17 (bA 159 q31) f32 f34 f35 f36 f37 (bN 7 q38) f39 f40 f41 (b2 m42_0 m42_1) f43 f44 f47 f48 f49 f50 f51 (bN 13 q54) (bN 120 q55) (bN 120 q56) f57 (bN 120 q58) f59 f60 f64) H ∧ va_D A (mo_w ad ck x0 (nI x16) (nI x18) (nI x19) g_13 (nI g_14) (nI g_15) g_16 x24 x25 (nI z26_7) z27_8 0 (nI x29) (nI x30) (nI x33) x45 (nI x46) (nI x52) (nI x53) (nI x61) (nI x62) (nI x63) (nI x65) x66 f1 f2 f3 (bN 3 q4) (bN 7 q5) (bN 7 q6) (bN 4 q7) f8 (bN 2 q_10) (bH q10) f11 (b2 m12_0 m12_1) (b2 m13_0 m13_1) (b2 m14_0 m14_1) (b2m m15_0 m15_1) f17 (bA 159 q31) f32 f34 f35 f36 f37 (bN 7 q38) f39 f40 f41 (b2 m42_0 m42_1) f43 f44 f47 f48 f49 f50 f51 (bN 13 q54) (bN 120 q55) (bN 120 q56) f57 (bN 120 q58) f59 f60 f64) ∧ va_S A s.heap H locs ∧ lv_has ls 7 [(0, .ref (ad 0)), (1, .int (nI a0)), (2, .int 0)]) 25 ?_ (fun j_19 => ?_)
  · rintro H locs ls st ⟨g_13, g_14, g_15, g_16, rfl, hg_14, hg_15, he_17, he_18, hP, hD, hS, hl⟩
    refine lv_aload_n hx hb dX9_readCondition_25 rfl (lv_at hl 0 rfl) ?_
    refine lv_bipush (v := 60) hx hb dX9_readCondition_26 (by decide) ?_
    refine va_calli (va_runV (As := [.int 60]) (rest := []) ⟨hx, hb, hml, hown, hts⟩ (c_M_isSign l dC dI _ ad ck x0 x16 x18 x19 g_13 g_14 g_15 g_16 x24 x25 z26_7 z27_8 0 x29 x30 x33 x45 x46 x52 x53 x61 x62 x63 x65 x66 f1 f2 f3 q4 q5 q6 q7 f8 q_10 q10 f11 m12_0 m12_1 m13_0 m13_1 m14_0 m14_1 m15_0 m15_1 f17 q31 f32 f34 f35 f36 f37 q38 f39 f40 f41 m42_0 m42_1 f43 f44 f47 f48 f49 f50 f51 q54 q55 q56 f57 q58 f59 f60 f64 60 hx16 hx18 hx19 hg_14 hg_15 hz26_7 (Nat.le_of_ble_eq_true rfl) hx29 hx30 hx33 hx46 hx52 hx53 hx61 hx62 hx63 hx65 hm12_0 hm12_1 hm13_0 hm13_1 hm14_0 hm14_1 hm15_0 hm15_1 hm42_0 hm42_1) (cwV 1 hts g_M_readCondition0_0_M_isSign rfl rfl rfl (by decide +kernel) ⟨Nat.le_of_ble_eq_true rfl, Nat.le_of_ble_eq_true rfl⟩) ⟨pu_bl, va_recv hK hP (ci := 9) (q0 := 0) rfl rfl, pu_in hP hK hD⟩ rfl rfl hl.1 rfl (lv_room (Nat.le_of_ble_eq_true rfl)) dX9_readCondition_28 ⟨Nat.le_of_ble_eq_true rfl, Nat.le_of_ble_eq_true rfl⟩) hS (fun q _ h => pu_fr hS hA q h) (pu_fr hS hA) (fun r_20 u t H1 locs ht hvm hw hB hz1 hk1 hS => ?_)
    have hP := pu_keep hP hk1
    clear hk1 hz1 ht hvm
    generalize H1 = H at hP hS ⊢
    obtain ⟨u_21, hu_21, rfl, iu_21⟩ := hw
    refine lv_istore_n (lv' := [(3, .int (nI u_21)), (0, .ref (ad 0)), (1, .int (nI a0)), (2, .int 0)]) hx hb dX9_readCondition_31 rfl hl (by decide) rfl (fun ls hl => ?_)
    refine lv_aload_n hx hb dX9_readCondition_32 rfl (lv_at hl 1 rfl) ?_
    refine lv_bipush (v := 62) hx hb dX9_readCondition_33 (by decide) ?_
    refine va_calli (va_runV (As := [.int 62]) (rest := []) ⟨hx, hb, hml, hown, hts⟩ (c_M_isSign l dC dI _ ad ck x0 x16 x18 x19 g_13 g_14 g_15 g_16 x24 x25 z26_7 z27_8 0 x29 x30 x33 x45 x46 x52 x53 x61 x62 x63 x65 x66 f1 f2 f3 q4 q5 q6 q7 f8 q_10 q10 f11 m12_0 m12_1 m13_0 m13_1 m14_0 m14_1 m15_0 m15_1 f17 q31 f32 f34 f35 f36 f37 q38 f39 f40 f41 m42_0 m42_1 f43 f44 f47 f48 f49 f50 f51 q54 q55 q56 f57 q58 f59 f60 f64 62 hx16 hx18 hx19 hg_14 hg_15 hz26_7 (Nat.le_of_ble_eq_true rfl) hx29 hx30 hx33 hx46 hx52 hx53 hx61 hx62 hx63 hx65 hm12_0 hm12_1 hm13_0 hm13_1 hm14_0 hm14_1 hm15_0 hm15_1 hm42_0 hm42_1) (cwV 1 hts g_M_readCondition0_0_M_isSign rfl rfl rfl (by decide +kernel) ⟨Nat.le_of_ble_eq_true rfl, Nat.le_of_ble_eq_true rfl⟩) ⟨pu_bl, va_recv hK hP (ci := 9) (q0 := 0) rfl rfl, pu_in hP hK hD⟩ rfl rfl hl.1 rfl (lv_room (Nat.le_of_ble_eq_true rfl)) dX9_readCondition_35 ⟨Nat.le_of_ble_eq_true rfl, Nat.le_of_ble_eq_true rfl⟩) hS (fun q _ h => pu_fr hS hA q h) (pu_fr hS hA) (fun r_22 u t H1 locs ht hvm hw hB hz1 hk1 hS => ?_)
    have hP := pu_keep hP hk1
    clear hk1 hz1 ht hvm
    generalize H1 = H at hP hS ⊢
    obtain ⟨u_23, hu_23, rfl, iu_23⟩ := hw
    refine pu_join (fun H locs ls st => ∃ (g_24 : Nat), st = [.int (nI g_24)] ∧ g_24 ≤ 1 ∧ mu g_14 g_15 ≤ mu x21 x22 ∧ (x22 = 0 ∨ mu g_14 g_15 < mu x21 x22) ∧ va_P (dC, dI) vwCl (mo_w ad ck x0 (nI x16) (nI x18) (nI x19) g_13 (nI g_14) (nI g_15) g_16 x24 x25 (nI z26_7) z27_8 0 (nI x29) (nI x30) (nI x33) x45 (nI x46) (nI x52) (nI x53) (nI x61) (nI x62) (nI x63) (nI x65) x66 f1 f2 f3 (bN 3 q4) (bN 7 q5) (bN 7 q6) (bN 4 q7) f8 (bN 2 q_10) (bH q10) f11 (b2 m12_0 m12_1) (b2 m13_0 m13_1) (b2 m14_0 m14_1) (b2m m15_0 m15_1) f17 (bA 159 q31) f32 f34 f35 f36 f37 (bN 7 q38) f39 f40 f41 (b2 m42_0 m42_1) f43 f44 f47 f48 f49 f50 f51 (bN 13 q54) (bN 120 q55) (bN 120 q56) f57 (bN 120 q58) f59 f60 f64) H ∧ va_D A (mo_w ad ck x0 (nI x16) (nI x18) (nI x19) g_13 (nI g_14) (nI g_15) g_16 x24 x25 (nI z26_7) z27_8 0 (nI x29) (nI x30) (nI x33) x45 (nI x46) (nI x52) (nI x53) (nI x61) (nI x62) (nI x63) (nI x65) x66 f1 f2 f3 (bN 3 q4) (bN 7 q5) (bN 7 q6) (bN 4 q7) f8 (bN 2 q_10) (bH q10) f11 (b2 m12_0 m12_1) (b2 m13_0 m13_1) (b2 m14_0 m14_1) (b2m m15_0 m15_1) f17 (bA 159 q31) f32 f34 f35 f36 f37 (bN 7 q38) f39 f40 f41 (b2 m42_0 m42_1) f43 f44 f47 f48 f49 f50 f51 (bN 13 q54) (bN 120 q55) (bN 120 q56) f57 (bN 120 q58) f59 f60 f64) ∧ va_S A s.heap H locs ∧ lv_has ls 7 [(0, .ref (ad 0)), (1, .int (nI a0)), (2, .int 0), (3, .int (nI u_21))]) 50 ?_ (fun j_27 => ?_)
    · rintro H locs ls st ⟨g_24, rfl, hg_24, he_25, he_26, hP, hD, hS, hl⟩
      refine lv_istore (lv' := [(4, .int (nI g_24)), (0, .ref (ad 0)), (1, .int (nI a0)), (2, .int 0), (3, .int (nI u_21))]) hx hb dX9_readCondition_50 hl (by decide) rfl (fun ls hl => ?_)
      refine lv_aload_n hx hb dX9_readCondition_52 rfl (lv_at hl 1 rfl) ?_
      refine lv_bipush (v := 61) hx hb dX9_readCondition_53 (by decide) ?_
      refine va_calli (va_runV (As := [.int 61]) (rest := []) ⟨hx, hb, hml, hown, hts⟩ (c_M_isSign l dC dI _ ad ck x0 x16 x18 x19 g_13 g_14 g_15 g_16 x24 x25 z26_7 z27_8 0 x29 x30 x33 x45 x46 x52 x53 x61 x62 x63 x65 x66 f1 f2 f3 q4 q5 q6 q7 f8 q_10 q10 f11 m12_0 m12_1 m13_0 m13_1 m14_0 m14_1 m15_0 m15_1 f17 q31 f32 f34 f35 f36 f37 q38 f39 f40 f41 m42_0 m42_1 f43 f44 f47 f48 f49 f50 f51 q54 q55 q56 f57 q58 f59 f60 f64 61 hx16 hx18 hx19 hg_14 hg_15 hz26_7 (Nat.le_of_ble_eq_true rfl) hx29 hx30 hx33 hx46 hx52 hx53 hx61 hx62 hx63 hx65 hm12_0 hm12_1 hm13_0 hm13_1 hm14_0 hm14_1 hm15_0 hm15_1 hm42_0 hm42_1) (cwV 1 hts g_M_readCondition0_0_M_isSign rfl rfl rfl (by decide +kernel) ⟨Nat.le_of_ble_eq_true rfl, Nat.le_of_ble_eq_true rfl⟩) ⟨pu_bl, va_recv hK hP (ci := 9) (q0 := 0) rfl rfl, pu_in hP hK hD⟩ rfl rfl hl.1 rfl (lv_room (Nat.le_of_ble_eq_true rfl)) dX9_readCondition_55 ⟨Nat.le_of_ble_eq_true rfl, Nat.le_of_ble_eq_true rfl⟩) hS (fun q _ h => pu_fr hS hA q h) (pu_fr hS hA) (fun r_28 u t H1 locs ht hvm hw hB hz1 hk1 hS => ?_)
      have hP := pu_keep hP hk1
      clear hk1 hz1 ht hvm
      generalize H1 = H at hP hS ⊢
      obtain ⟨u_29, hu_29, rfl, iu_29⟩ := hw
      refine pu_join (fun H locs ls st => ∃ (g_30 : Nat), st = [.int (nI g_30)] ∧ g_30 ≤ 1 ∧ mu g_14 g_15 ≤ mu x21 x22 ∧ (x22 = 0 ∨ mu g_14 g_15 < mu x21 x22) ∧ va_P (dC, dI) vwCl (mo_w ad ck x0 (nI x16) (nI x18) (nI x19) g_13 (nI g_14) (nI g_15) g_16 x24 x25 (nI z26_7) z27_8 0 (nI x29) (nI x30) (nI x33) x45 (nI x46) (nI x52) (nI x53) (nI x61) (nI x62) (nI x63) (nI x65) x66 f1 f2 f3 (bN 3 q4) (bN 7 q5) (bN 7 q6) (bN 4 q7) f8 (bN 2 q_10) (bH q10) f11 (b2 m12_0 m12_1) (b2 m13_0 m13_1) (b2 m14_0 m14_1) (b2m m15_0 m15_1) f17 (bA 159 q31) f32 f34 f35 f36 f37 (bN 7 q38) f39 f40 f41 (b2 m42_0 m42_1) f43 f44 f47 f48 f49 f50 f51 (bN 13 q54) (bN 120 q55) (bN 120 q56) f57 (bN 120 q58) f59 f60 f64) H ∧ va_D A (mo_w ad ck x0 (nI x16) (nI x18) (nI x19) g_13 (nI g_14) (nI g_15) g_16 x24 x25 (nI z26_7) z27_8 0 (nI x29) (nI x30) (nI x33) x45 (nI x46) (nI x52) (nI x53) (nI x61) (nI x62) (nI x63) (nI x65) x66 f1 f2 f3 (bN 3 q4) (bN 7 q5) (bN 7 q6) (bN 4 q7) f8 (bN 2 q_10) (bH q10) f11 (b2 m12_0 m12_1) (b2 m13_0 m13_1) (b2 m14_0 m14_1) (b2m m15_0 m15_1) f17 (bA 159 q31) f32 f34 f35 f36 f37 (bN 7 q38) f39 f40 f41 (b2 m42_0 m42_1) f43 f44 f47 f48 f49 f50 f51 (bN 13 q54) (bN 120 q55) (bN 120 q56) f57 (bN 120 q58) f59 f60 f64) ∧ va_S A s.heap H locs ∧ lv_has ls 7 [(0, .ref (ad 0)), (1, .int (nI a0)), (2, .int 0), (3, .int (nI u_21)), (4, .int (nI g_24))]) 70 ?_ (fun j_33 => ?_)
      · rintro H locs ls st ⟨g_30, rfl, hg_30, he_31, he_32, hP, hD, hS, hl⟩
        refine lv_istore (lv' := [(5, .int (nI g_30)), (0, .ref (ad 0)), (1, .int (nI a0)), (2, .int 0), (3, .int (nI u_21)), (4, .int (nI g_24))]) hx hb dX9_readCondition_70 hl (by decide) rfl (fun ls hl => ?_)
        refine lv_aload_n hx hb dX9_readCondition_72 rfl (lv_at hl 1 rfl) ?_
        refine va_calli (va_runV (As := []) (rest := []) ⟨hx, hb, hml, hown, hts⟩ (c_M_isGood l dC dI _ ad ck x0 x16 x18 x19 g_13 g_14 g_15 g_16 x24 x25 z26_7 z27_8 0 x29 x30 x33 x45 x46 x52 x53 x61 x62 x63 x65 x66 f1 f2 f3 q4 q5 q6 q7 f8 q_10 q10 f11 m12_0 m12_1 m13_0 m13_1 m14_0 m14_1 m15_0 m15_1 f17 q31 f32 f34 f35 f36 f37 q38 f39 f40 f41 m42_0 m42_1 f43 f44 f47 f48 f49 f50 f51 q54 q55 q56 f57 q58 f59 f60 f64 hx16 hx18 hx19 hg_14 hg_15 hz26_7 (Nat.le_of_ble_eq_true rfl) hx29 hx30 hx33 hx46 hx52 hx53 hx61 hx62 hx63 hx65 hm12_0 hm12_1 hm13_0 hm13_1 hm14_0 hm14_1 hm15_0 hm15_1 hm42_0 hm42_1) (cwV 0 hts g_M_readCondition0_0_M_isGood rfl rfl rfl (by decide +kernel) ⟨Nat.le_of_ble_eq_true rfl, Nat.le_of_ble_eq_true rfl⟩) ⟨pu_bl, va_recv hK hP (ci := 9) (q0 := 0) rfl rfl, pu_in hP hK hD⟩ rfl rfl hl.1 rfl (lv_room (Nat.le_of_ble_eq_true rfl)) dX9_readCondition_73 ⟨Nat.le_of_ble_eq_true rfl, Nat.le_of_ble_eq_true rfl⟩) hS (fun q _ h => pu_fr hS hA q h) (pu_fr hS hA) (fun r_34 u t H1 locs ht hvm hw hB hz1 hk1 hS => ?_)
        have hP := pu_keep hP hk1
        clear hk1 hz1 ht hvm
        generalize H1 = H at hP hS ⊢
        obtain ⟨u_35, hu_35, rfl, iu_35⟩ := hw
        refine pu_join (fun H locs ls st => ∃ (g_36 : Nat) (g_37 : Int32), st = [] ∧ g_36 ≤ 6 ∧ mu g_14 g_15 ≤ mu x21 x22 ∧ (x22 = 0 ∨ mu g_14 g_15 < mu x21 x22) ∧ (g_36 ≠ 0 ∨ u_21 = 1 ∨ g_24 = 1 ∨ g_30 = 1) ∧ va_P (dC, dI) vwCl (mo_w ad ck x0 (nI x16) (nI x18) (nI x19) g_13 (nI g_14) (nI g_15) g_16 x24 x25 (nI g_36) g_37 0 (nI x29) (nI x30) (nI x33) x45 (nI x46) (nI x52) (nI x53) (nI x61) (nI x62) (nI x63) (nI x65) x66 f1 f2 f3 (bN 3 q4) (bN 7 q5) (bN 7 q6) (bN 4 q7) f8 (bN 2 q_10) (bH q10) f11 (b2 m12_0 m12_1) (b2 m13_0 m13_1) (b2 m14_0 m14_1) (b2m m15_0 m15_1) f17 (bA 159 q31) f32 f34 f35 f36 f37 (bN 7 q38) f39 f40 f41 (b2 m42_0 m42_1) f43 f44 f47 f48 f49 f50 f51 (bN 13 q54) (bN 120 q55) (bN 120 q56) f57 (bN 120 q58) f59 f60 f64) H ∧ va_D A (mo_w ad ck x0 (nI x16) (nI x18) (nI x19) g_13 (nI g_14) (nI g_15) g_16 x24 x25 (nI g_36) g_37 0 (nI x29) (nI x30) (nI x33) x45 (nI x46) (nI x52) (nI x53) (nI x61) (nI x62) (nI x63) (nI x65) x66 f1 f2 f3 (bN 3 q4) (bN 7 q5) (bN 7 q6) (bN 4 q7) f8 (bN 2 q_10) (bH q10) f11 (b2 m12_0 m12_1) (b2 m13_0 m13_1) (b2 m14_0 m14_1) (b2m m15_0 m15_1) f17 (bA 159 q31) f32 f34 f35 f36 f37 (bN 7 q38) f39 f40 f41 (b2 m42_0 m42_1) f43 f44 f47 f48 f49 f50 f51 (bN 13 q54) (bN 120 q55) (bN 120 q56) f57 (bN 120 q58) f59 f60 f64) ∧ va_S A s.heap H locs ∧ lv_has ls 7 [(0, .ref (ad 0)), (1, .int (nI a0)), (2, .int 0), (3, .int (nI u_21)), (4, .int (nI g_24)), (5, .int (nI g_30))]) 98 ?_ (fun j_41 => ?_)
        · rintro H locs ls st ⟨g_36, g_37, rfl, hg_36, he_38, he_39, he_40, hP, hD, hS, hl⟩
          refine lv_aload_n hx hb dX9_readCondition_98 rfl (lv_at hl 0 rfl) ?_
          refine va_calli (va_runV (As := []) (rest := []) ⟨hx, hb, hml, hown, hts⟩ (c_M_isGood l dC dI _ ad ck x0 x16 x18 x19 g_13 g_14 g_15 g_16 x24 x25 g_36 g_37 0 x29 x30 x33 x45 x46 x52 x53 x61 x62 x63 x65 x66 f1 f2 f3 q4 q5 q6 q7 f8 q_10 q10 f11 m12_0 m12_1 m13_0 m13_1 m14_0 m14_1 m15_0 m15_1 f17 q31 f32 f34 f35 f36 f37 q38 f39 f40 f41 m42_0 m42_1 f43 f44 f47 f48 f49 f50 f51 q54 q55 q56 f57 q58 f59 f60 f64 hx16 hx18 hx19 hg_14 hg_15 hg_36 (Nat.le_of_ble_eq_true rfl) hx29 hx30 hx33 hx46 hx52 hx53 hx61 hx62 hx63 hx65 hm12_0 hm12_1 hm13_0 hm13_1 hm14_0 hm14_1 hm15_0 hm15_1 hm42_0 hm42_1) (cwV 0 hts g_M_readCondition0_0_M_isGood rfl rfl rfl (by decide +kernel) ⟨Nat.le_of_ble_eq_true rfl, Nat.le_of_ble_eq_true rfl⟩) ⟨pu_bl, va_recv hK hP (ci := 9) (q0 := 0) rfl rfl, pu_in hP hK hD⟩ rfl rfl hl.1 rfl (lv_room (Nat.le_of_ble_eq_true rfl)) dX9_readCondition_99 ⟨Nat.le_of_ble_eq_true rfl, Nat.le_of_ble_eq_true rfl⟩) hS (fun q _ h => pu_fr hS hA q h) (pu_fr hS hA) (fun r_42 u t H1 locs ht hvm hw hB hz1 hk1 hS => ?_)
          have hP := pu_keep hP hk1
          clear hk1 hz1 ht hvm
          generalize H1 = H at hP hS ⊢
          obtain ⟨u_43, hu_43, rfl, iu_43⟩ := hw
          refine lv_if_ne (tgt := 106) hx hb dX9_readCondition_102 (by decide) (fun c_44 => ?_) (fun c_44 => ?_)
          · have c_44 : ¬ u_43 = 0 := fun z => c_44 ((nI_eq (a := u_43) (b := 0) (Nat.lt_of_le_of_lt hu_43 (Nat.le_of_ble_eq_true rfl)) (Nat.le_of_ble_eq_true rfl)).mpr z)
            refine lv_aload_n hx hb dX9_readCondition_106 rfl (lv_at hl 0 rfl) ?_
            have hFc := pu_free hD hS hA
            refine va_callv (va_runV (As := []) (rest := []) ⟨hx, hb, hml, hown, hts⟩ (c_M_next l dC dI _ ad ck x0 x16 x18 x19 g_13 g_14 g_15 g_16 x24 x25 g_36 g_37 0 x29 x30 x33 x45 x46 x52 x53 x61 x62 x63 x65 x66 f1 f2 f3 q4 q5 q6 q7 f8 q_10 q10 f11 m12_0 m12_1 m13_0 m13_1 m14_0 m14_1 m15_0 m15_1 f17 q31 f32 f34 f35 f36 f37 q38 f39 f40 f41 m42_0 m42_1 f43 f44 f47 f48 f49 f50 f51 q54 q55 q56 f57 q58 f59 f60 f64 hx16 hx18 hx19 hg_14 hg_15 hg_36 (Nat.le_of_ble_eq_true rfl) hx29 hx30 hx33 hx46 hx52 hx53 hx61 hx62 hx63 hx65 hm12_0 hm12_1 hm13_0 hm13_1 hm14_0 hm14_1 hm15_0 hm15_1 hm42_0 hm42_1) (cwV 0 hts g_M_readCondition0_0_M_next rfl rfl rfl (by decide +kernel) ⟨Nat.le_of_ble_eq_true rfl, Nat.le_of_ble_eq_true rfl⟩) ⟨pu_bl, va_recv hK hP (ci := 9) (q0 := 0) rfl rfl, pu_in hP hK hD⟩ rfl rfl hl.1 rfl (lv_room (Nat.le_of_ble_eq_true rfl)) dX9_readCondition_107 ⟨Nat.le_of_ble_eq_true rfl, Nat.le_of_ble_eq_true rfl⟩) hS (fun q _ h => hFc q h) hFc (fun u t H1 locs ht hvm hw hB hz1 hk1 hS => ?_)
            obtain ⟨z20_46, z21_47, z22_48, z23_49, ⟨hP1, -, hD1⟩, hz21_47, hz22_48, xr_45_0, xr_45_1⟩ := hB
            rw [ht] at hP1
            have hP := hP1
            have hD := pu_all hFc hD1
            clear hP1 hD1 hFc
            clear hk1 hz1 ht hvm
            generalize H1 = H at hP hS ⊢
            refine lv_iload hx hb dX9_readCondition_110 (lv_at hl 5 rfl) ?_
            refine pu_join (fun H locs ls st => ∃ (g_50 : Nat), st = [.int (nI g_50)] ∧ g_50 ≤ 1 ∧ mu z21_47 z22_48 ≤ mu x21 x22 ∧ (x22 = 0 ∨ mu z21_47 z22_48 < mu x21 x22) ∧ va_P (dC, dI) vwCl (mo_w ad ck x0 (nI x16) (nI x18) (nI x19) z20_46 (nI z21_47) (nI z22_48) z23_49 x24 x25 (nI g_36) g_37 0 (nI x29) (nI x30) (nI x33) x45 (nI x46) (nI x52) (nI x53) (nI x61) (nI x62) (nI x63) (nI x65) x66 f1 f2 f3 (bN 3 q4) (bN 7 q5) (bN 7 q6) (bN 4 q7) f8 (bN 2 q_10) (bH q10) f11 (b2 m12_0 m12_1) (b2 m13_0 m13_1) (b2 m14_0 m14_1) (b2m m15_0 m15_1) f17 (bA 159 q31) f32 f34 f35 f36 f37 (bN 7 q38) f39 f40 f41 (b2 m42_0 m42_1) f43 f44 f47 f48 f49 f50 f51 (bN 13 q54) (bN 120 q55) (bN 120 q56) f57 (bN 120 q58) f59 f60 f64) H ∧ va_D A (mo_w ad ck x0 (nI x16) (nI x18) (nI x19) z20_46 (nI z21_47) (nI z22_48) z23_49 x24 x25 (nI g_36) g_37 0 (nI x29) (nI x30) (nI x33) x45 (nI x46) (nI x52) (nI x53) (nI x61) (nI x62) (nI x63) (nI x65) x66 f1 f2 f3 (bN 3 q4) (bN 7 q5) (bN 7 q6) (bN 4 q7) f8 (bN 2 q_10) (bH q10) f11 (b2 m12_0 m12_1) (b2 m13_0 m13_1) (b2 m14_0 m14_1) (b2m m15_0 m15_1) f17 (bA 159 q31) f32 f34 f35 f36 f37 (bN 7 q38) f39 f40 f41 (b2 m42_0 m42_1) f43 f44 f47 f48 f49 f50 f51 (bN 13 q54) (bN 120 q55) (bN 120 q56) f57 (bN 120 q58) f59 f60 f64) ∧ va_S A s.heap H locs ∧ lv_has ls 7 [(0, .ref (ad 0)), (1, .int (nI a0)), (2, .int 0), (3, .int (nI u_21)), (4, .int (nI g_24)), (5, .int (nI g_30))]) 129 ?_ (fun j_53 => ?_)
            · rintro H locs ls st ⟨g_50, rfl, hg_50, he_51, he_52, hP, hD, hS, hl⟩
              refine lv_istore (lv' := [(6, .int (nI g_50)), (0, .ref (ad 0)), (1, .int (nI a0)), (2, .int 0), (3, .int (nI u_21)), (4, .int (nI g_24)), (5, .int (nI g_30))]) hx hb dX9_readCondition_129 hl (by decide) rfl (fun ls hl => ?_)
              refine lv_iload hx hb dX9_readCondition_131 (lv_at hl 0 rfl) ?_
              refine pu_join (fun H locs ls st => ∃ (g_54 : Int32) (g_55 : Nat) (g_56 : Nat) (g_57 : Int32), st = [] ∧ g_55 ≤ 900 ∧ g_56 ≤ 4 ∧ mu g_55 g_56 ≤ mu x21 x22 ∧ (x22 = 0 ∨ mu g_55 g_56 < mu x21 x22) ∧ va_P (dC, dI) vwCl (mo_w ad ck x0 (nI x16) (nI x18) (nI x19) g_54 (nI g_55) (nI g_56) g_57 x24 x25 (nI g_36) g_37 0 (nI x29) (nI x30) (nI x33) x45 (nI x46) (nI x52) (nI x53) (nI x61) (nI x62) (nI x63) (nI x65) x66 f1 f2 f3 (bN 3 q4) (bN 7 q5) (bN 7 q6) (bN 4 q7) f8 (bN 2 q_10) (bH q10) f11 (b2 m12_0 m12_1) (b2 m13_0 m13_1) (b2 m14_0 m14_1) (b2m m15_0 m15_1) f17 (bA 159 q31) f32 f34 f35 f36 f37 (bN 7 q38) f39 f40 f41 (b2 m42_0 m42_1) f43 f44 f47 f48 f49 f50 f51 (bN 13 q54) (bN 120 q55) (bN 120 q56) f57 (bN 120 q58) f59 f60 f64) H ∧ va_D A (mo_w ad ck x0 (nI x16) (nI x18) (nI x19) g_54 (nI g_55) (nI g_56) g_57 x24 x25 (nI g_36) g_37 0 (nI x29) (nI x30) (nI x33) x45 (nI x46) (nI x52) (nI x53) (nI x61) (nI x62) (nI x63) (nI x65) x66 f1 f2 f3 (bN 3 q4) (bN 7 q5) (bN 7 q6) (bN 4 q7) f8 (bN 2 q_10) (bH q10) f11 (b2 m12_0 m12_1) (b2 m13_0 m13_1) (b2 m14_0 m14_1) (b2m m15_0 m15_1) f17 (bA 159 q31) f32 f34 f35 f36 f37 (bN 7 q38) f39 f40 f41 (b2 m42_0 m42_1) f43 f44 f47 f48 f49 f50 f51 (bN 13 q54) (bN 120 q55) (bN 120 q56) f57 (bN 120 q58) f59 f60 f64) ∧ va_S A s.heap H locs ∧ lv_has ls 7 [(0, .ref (ad 0)), (1, .int (nI a0)), (2, .int 0), (3, .int (nI u_21)), (4, .int (nI g_24)), (5, .int (nI g_30)), (6, .int (nI g_50))]) 140 ?_ (fun j_60 => ?_)
              · rintro H locs ls st ⟨g_54, g_55, g_56, g_57, rfl, hg_55, hg_56, he_58, he_59, hP, hD, hS, hl⟩
                refine lv_aload_n hx hb dX9_readCondition_140 rfl (lv_at hl 0 rfl) ?_
                refine va_get (D := (dC, dI)) (ci := 9) (v := .ref (ad 10)) (C := RX9) (T := TX9) (N := 67) hx hb hts hiX9 hown hK hP 0 rfl rfl 10 (by decide) v_23 (fun _ h9 => h9) rfl dX9_readCondition_141 ?_
                refine lv_iload_n hx hb dX9_readCondition_144 rfl (lv_at hl 1 rfl) ?_
                refine lv_iload hx hb dX9_readCondition_145 (lv_at hl 5 rfl) ?_
                refine pu_join (fun H locs ls st => ∃ (g_61 : Nat), st = [.int (nI g_61), .int (nI a0), .ref (ad 10)] ∧ g_61 ≤ 4 ∧ mu g_55 g_56 ≤ mu x21 x22 ∧ (x22 = 0 ∨ mu g_55 g_56 < mu x21 x22) ∧ va_P (dC, dI) vwCl (mo_w ad ck x0 (nI x16) (nI x18) (nI x19) g_54 (nI g_55) (nI g_56) g_57 x24 x25 (nI g_36) g_37 0 (nI x29) (nI x30) (nI x33) x45 (nI x46) (nI x52) (nI x53) (nI x61) (nI x62) (nI x63) (nI x65) x66 f1 f2 f3 (bN 3 q4) (bN 7 q5) (bN 7 q6) (bN 4 q7) f8 (bN 2 q_10) (bH q10) f11 (b2 m12_0 m12_1) (b2 m13_0 m13_1) (b2 m14_0 m14_1) (b2m m15_0 m15_1) f17 (bA 159 q31) f32 f34 f35 f36 f37 (bN 7 q38) f39 f40 f41 (b2 m42_0 m42_1) f43 f44 f47 f48 f49 f50 f51 (bN 13 q54) (bN 120 q55) (bN 120 q56) f57 (bN 120 q58) f59 f60 f64) H ∧ va_D A (mo_w ad ck x0 (nI x16) (nI x18) (nI x19) g_54 (nI g_55) (nI g_56) g_57 x24 x25 (nI g_36) g_37 0 (nI x29) (nI x30) (nI x33) x45 (nI x46) (nI x52) (nI x53) (nI x61) (nI x62) (nI x63) (nI x65) x66 f1 f2 f3 (bN 3 q4) (bN 7 q5) (bN 7 q6) (bN 4 q7) f8 (bN 2 q_10) (bH q10) f11 (b2 m12_0 m12_1) (b2 m13_0 m13_1) (b2 m14_0 m14_1) (b2m m15_0 m15_1) f17 (bA 159 q31) f32 f34 f35 f36 f37 (bN 7 q38) f39 f40 f41 (b2 m42_0 m42_1) f43 f44 f47 f48 f49 f50 f51 (bN 13 q54) (bN 120 q55) (bN 120 q56) f57 (bN 120 q58) f59 f60 f64) ∧ va_S A s.heap H locs ∧ lv_has ls 7 [(0, .ref (ad 0)), (1, .int (nI a0)), (2, .int 0), (3, .int (nI u_21)), (4, .int (nI g_24)), (5, .int (nI g_30)), (6, .int (nI g_50))]) 181 ?_ (fun j_64 => ?_)
                · rintro H locs ls st ⟨g_61, rfl, hg_61, he_62, he_63, hP, hD, hS, hl⟩
                  refine va_iast hx hb hK hP hD hS 10 9 rfl rfl (vp_in_nI (n := a0) (Nat.lt_of_le_of_lt ha0 (Nat.le_of_ble_eq_true rfl)) (Nat.le_of_ble_eq_true rfl)) dX9_readCondition_181 (fun H locs hP hD hS => ?_)
                  obtain ⟨q_65, eq_65, kq_65⟩ := bH_up q10 (i := a0) (v := g_61) (by omega) (by omega)
                  have hP : va_P (dC, dI) vwCl (mo_w ad ck x0 (nI x16) (nI x18) (nI x19) g_54 (nI g_55) (nI g_56) g_57 x24 x25 (nI g_36) g_37 0 (nI x29) (nI x30) (nI x33) x45 (nI x46) (nI x52) (nI x53) (nI x61) (nI x62) (nI x63) (nI x65) x66 f1 f2 f3 (bN 3 q4) (bN 7 q5) (bN 7 q6) (bN 4 q7) f8 (bN 2 q_10) (bH q_65) f11 (b2 m12_0 m12_1) (b2 m13_0 m13_1) (b2 m14_0 m14_1) (b2m m15_0 m15_1) f17 (bA 159 q31) f32 f34 f35 f36 f37 (bN 7 q38) f39 f40 f41 (b2 m42_0 m42_1) f43 f44 f47 f48 f49 f50 f51 (bN 13 q54) (bN 120 q55) (bN 120 q56) f57 (bN 120 q58) f59 f60 f64) H := by rw [← eq_65]; exact hP
                  have hD : va_D A (mo_w ad ck x0 (nI x16) (nI x18) (nI x19) g_54 (nI g_55) (nI g_56) g_57 x24 x25 (nI g_36) g_37 0 (nI x29) (nI x30) (nI x33) x45 (nI x46) (nI x52) (nI x53) (nI x61) (nI x62) (nI x63) (nI x65) x66 f1 f2 f3 (bN 3 q4) (bN 7 q5) (bN 7 q6) (bN 4 q7) f8 (bN 2 q_10) (bH q_65) f11 (b2 m12_0 m12_1) (b2 m13_0 m13_1) (b2 m14_0 m14_1) (b2m m15_0 m15_1) f17 (bA 159 q31) f32 f34 f35 f36 f37 (bN 7 q38) f39 f40 f41 (b2 m42_0 m42_1) f43 f44 f47 f48 f49 f50 f51 (bN 13 q54) (bN 120 q55) (bN 120 q56) f57 (bN 120 q58) f59 f60 f64) := by rw [← eq_65]; exact hD
                  refine lv_aload_n hx hb dX9_readCondition_182 rfl (lv_at hl 0 rfl) ?_
                  refine va_get (D := (dC, dI)) (ci := 9) (v := .int (nI g_56)) (C := RX9) (T := TX9) (N := 67) hx hb hts hiX9 hown hK hP 0 rfl rfl 22 (by decide) v_24 (fun _ h9 => h9) rfl dX9_readCondition_183 ?_
                  refine lv_iconst (v := 2) hx hb dX9_readCondition_186 (by decide) ?_
                  refine pu_join (fun H locs ls st => ∃ (g_66 : Nat) (g_67 : Int32), st = [] ∧ g_66 ≤ 6 ∧ mu g_55 g_56 ≤ mu x21 x22 ∧ (x22 = 0 ∨ mu g_55 g_56 < mu x21 x22) ∧ va_P (dC, dI) vwCl (mo_w ad ck x0 (nI x16) (nI x18) (nI x19) g_54 (nI g_55) (nI g_56) g_57 x24 x25 (nI g_66) g_67 0 (nI x29) (nI x30) (nI x33) x45 (nI x46) (nI x52) (nI x53) (nI x61) (nI x62) (nI x63) (nI x65) x66 f1 f2 f3 (bN 3 q4) (bN 7 q5) (bN 7 q6) (bN 4 q7) f8 (bN 2 q_10) (bH q_65) f11 (b2 m12_0 m12_1) (b2 m13_0 m13_1) (b2 m14_0 m14_1) (b2m m15_0 m15_1) f17 (bA 159 q31) f32 f34 f35 f36 f37 (bN 7 q38) f39 f40 f41 (b2 m42_0 m42_1) f43 f44 f47 f48 f49 f50 f51 (bN 13 q54) (bN 120 q55) (bN 120 q56) f57 (bN 120 q58) f59 f60 f64) H ∧ va_D A (mo_w ad ck x0 (nI x16) (nI x18) (nI x19) g_54 (nI g_55) (nI g_56) g_57 x24 x25 (nI g_66) g_67 0 (nI x29) (nI x30) (nI x33) x45 (nI x46) (nI x52) (nI x53) (nI x61) (nI x62) (nI x63) (nI x65) x66 f1 f2 f3 (bN 3 q4) (bN 7 q5) (bN 7 q6) (bN 4 q7) f8 (bN 2 q_10) (bH q_65) f11 (b2 m12_0 m12_1) (b2 m13_0 m13_1) (b2 m14_0 m14_1) (b2m m15_0 m15_1) f17 (bA 159 q31) f32 f34 f35 f36 f37 (bN 7 q38) f39 f40 f41 (b2 m42_0 m42_1) f43 f44 f47 f48 f49 f50 f51 (bN 13 q54) (bN 120 q55) (bN 120 q56) f57 (bN 120 q58) f59 f60 f64) ∧ va_S A s.heap H locs ∧ lv_has ls 7 [(0, .ref (ad 0)), (1, .int (nI a0)), (2, .int 0), (3, .int (nI u_21)), (4, .int (nI g_24)), (5, .int (nI g_30)), (6, .int (nI g_50))]) 212 ?_ (fun j_70 => ?_)
                  · rintro H locs ls st ⟨g_66, g_67, rfl, hg_66, he_68, he_69, hP, hD, hS, hl⟩
                    refine lv_aload_n hx hb dX9_readCondition_212 rfl (lv_at hl 0 rfl) ?_
                    refine va_get (D := (dC, dI)) (ci := 9) (v := .ref (ad 11)) (C := RX9) (T := TX9) (N := 67) hx hb hts hiX9 hown hK hP 0 rfl rfl 11 (by decide) v_26 (fun _ h9 => h9) rfl dX9_readCondition_213 ?_
                    refine lv_iload_n hx hb dX9_readCondition_216 rfl (lv_at hl 1 rfl) ?_
                    refine lv_aload_n hx hb dX9_readCondition_217 rfl (lv_at hl 0 rfl) ?_
                    refine va_get (D := (dC, dI)) (ci := 9) (v := .int g_57) (C := RX9) (T := TX9) (N := 67) hx hb hts hiX9 hown hK hP 0 rfl rfl 23 (by decide) v_25 (fun _ h9 => h9) rfl dX9_readCondition_218 ?_
                    refine va_iast hx hb hK hP hD hS 11 10 rfl rfl (vp_in_nI (n := a0) (Nat.lt_of_le_of_lt ha0 (Nat.le_of_ble_eq_true rfl)) (Nat.le_of_ble_eq_true rfl)) dX9_readCondition_221 (fun H locs hP hD hS => ?_)
                    have hP : va_P (dC, dI) vwCl (mo_w ad ck x0 (nI x16) (nI x18) (nI x19) g_54 (nI g_55) (nI g_56) g_57 x24 x25 (nI g_66) g_67 0 (nI x29) (nI x30) (nI x33) x45 (nI x46) (nI x52) (nI x53) (nI x61) (nI x62) (nI x63) (nI x65) x66 f1 f2 f3 (bN 3 q4) (bN 7 q5) (bN 7 q6) (bN 4 q7) f8 (bN 2 q_10) (bH q_65) (upd f11 ((nI a0) : Int32).toNatClampNeg g_57) (b2 m12_0 m12_1) (b2 m13_0 m13_1) (b2 m14_0 m14_1) (b2m m15_0 m15_1) f17 (bA 159 q31) f32 f34 f35 f36 f37 (bN 7 q38) f39 f40 f41 (b2 m42_0 m42_1) f43 f44 f47 f48 f49 f50 f51 (bN 13 q54) (bN 120 q55) (bN 120 q56) f57 (bN 120 q58) f59 f60 f64) H := hP
                    have hD : va_D A (mo_w ad ck x0 (nI x16) (nI x18) (nI x19) g_54 (nI g_55) (nI g_56) g_57 x24 x25 (nI g_66) g_67 0 (nI x29) (nI x30) (nI x33) x45 (nI x46) (nI x52) (nI x53) (nI x61) (nI x62) (nI x63) (nI x65) x66 f1 f2 f3 (bN 3 q4) (bN 7 q5) (bN 7 q6) (bN 4 q7) f8 (bN 2 q_10) (bH q_65) (upd f11 ((nI a0) : Int32).toNatClampNeg g_57) (b2 m12_0 m12_1) (b2 m13_0 m13_1) (b2 m14_0 m14_1) (b2m m15_0 m15_1) f17 (bA 159 q31) f32 f34 f35 f36 f37 (bN 7 q38) f39 f40 f41 (b2 m42_0 m42_1) f43 f44 f47 f48 f49 f50 f51 (bN 13 q54) (bN 120 q55) (bN 120 q56) f57 (bN 120 q58) f59 f60 f64) := hD
                    refine lv_aload_n hx hb dX9_readCondition_222 rfl (lv_at hl 0 rfl) ?_
                    refine va_calli (va_runV (As := []) (rest := []) ⟨hx, hb, hml, hown, hts⟩ (c_M_isGood l dC dI _ ad ck x0 x16 x18 x19 g_54 g_55 g_56 g_57 x24 x25 g_66 g_67 0 x29 x30 x33 x45 x46 x52 x53 x61 x62 x63 x65 x66 f1 f2 f3 q4 q5 q6 q7 f8 q_10 q_65 (upd f11 ((nI a0) : Int32).toNatClampNeg g_57) m12_0 m12_1 m13_0 m13_1 m14_0 m14_1 m15_0 m15_1 f17 q31 f32 f34 f35 f36 f37 q38 f39 f40 f41 m42_0 m42_1 f43 f44 f47 f48 f49 f50 f51 q54 q55 q56 f57 q58 f59 f60 f64 hx16 hx18 hx19 hg_55 hg_56 hg_66 (Nat.le_of_ble_eq_true rfl) hx29 hx30 hx33 hx46 hx52 hx53 hx61 hx62 hx63 hx65 hm12_0 hm12_1 hm13_0 hm13_1 hm14_0 hm14_1 hm15_0 hm15_1 hm42_0 hm42_1) (cwV 0 hts g_M_readCondition0_0_M_isGood rfl rfl rfl (by decide +kernel) ⟨Nat.le_of_ble_eq_true rfl, Nat.le_of_ble_eq_true rfl⟩) ⟨pu_bl, va_recv hK hP (ci := 9) (q0 := 0) rfl rfl, pu_in hP hK hD⟩ rfl rfl hl.1 rfl (lv_room (Nat.le_of_ble_eq_true rfl)) dX9_readCondition_223 ⟨Nat.le_of_ble_eq_true rfl, Nat.le_of_ble_eq_true rfl⟩) hS (fun q _ h => pu_fr hS hA q h) (pu_fr hS hA) (fun r_71 u t H1 locs ht hvm hw hB hz1 hk1 hS => ?_)
                    have hP := pu_keep hP hk1
                    clear hk1 hz1 ht hvm
                    generalize H1 = H at hP hS ⊢
                    obtain ⟨u_72, hu_72, rfl, iu_72⟩ := hw
                    refine lv_if_eq (tgt := 233) hx hb dX9_readCondition_226 (by decide) (fun c_73 => ?_) (fun c_73 => ?_)
                    · have c_73 : u_72 = 0 := (nI_eq (a := u_72) (b := 0) (Nat.lt_of_le_of_lt hu_72 (Nat.le_of_ble_eq_true rfl)) (Nat.le_of_ble_eq_true rfl)).mp c_73
                      exact W.vret hx hb hr (fun t ht hW => ⟨⟨(), rfl, trivial, ⟨q_65, (upd f11 ((nI a0) : Int32).toNatClampNeg g_57), q_10, g_54, g_55, g_56, g_57, g_66, g_67, ⟨by rw [ht]; exact hP, va_K.moved hW.alike hK, hD⟩, hg_55, hg_56, hg_66, by omega, by omega⟩⟩, hS.F ht⟩) hS.2.2 dX9_readCondition_233
                    · have c_73 : ¬ u_72 = 0 := fun z => c_73 ((nI_eq (a := u_72) (b := 0) (Nat.lt_of_le_of_lt hu_72 (Nat.le_of_ble_eq_true rfl)) (Nat.le_of_ble_eq_true rfl)).mpr z)
                      refine lv_aload_n hx hb dX9_readCondition_229 rfl (lv_at hl 0 rfl) ?_
                      have hFc := pu_free hD hS hA
                      refine va_callv (va_runV (As := []) (rest := []) ⟨hx, hb, hml, hown, hts⟩ (c_M_next l dC dI _ ad ck x0 x16 x18 x19 g_54 g_55 g_56 g_57 x24 x25 g_66 g_67 0 x29 x30 x33 x45 x46 x52 x53 x61 x62 x63 x65 x66 f1 f2 f3 q4 q5 q6 q7 f8 q_10 q_65 (upd f11 ((nI a0) : Int32).toNatClampNeg g_57) m12_0 m12_1 m13_0 m13_1 m14_0 m14_1 m15_0 m15_1 f17 q31 f32 f34 f35 f36 f37 q38 f39 f40 f41 m42_0 m42_1 f43 f44 f47 f48 f49 f50 f51 q54 q55 q56 f57 q58 f59 f60 f64 hx16 hx18 hx19 hg_55 hg_56 hg_66 (Nat.le_of_ble_eq_true rfl) hx29 hx30 hx33 hx46 hx52 hx53 hx61 hx62 hx63 hx65 hm12_0 hm12_1 hm13_0 hm13_1 hm14_0 hm14_1 hm15_0 hm15_1 hm42_0 hm42_1) (cwV 0 hts g_M_readCondition0_0_M_next rfl rfl rfl (by decide +kernel) ⟨Nat.le_of_ble_eq_true rfl, Nat.le_of_ble_eq_true rfl⟩) ⟨pu_bl, va_recv hK hP (ci := 9) (q0 := 0) rfl rfl, pu_in hP hK hD⟩ rfl rfl hl.1 rfl (lv_room (Nat.le_of_ble_eq_true rfl)) dX9_readCondition_230 ⟨Nat.le_of_ble_eq_true rfl, Nat.le_of_ble_eq_true rfl⟩) hS (fun q _ h => hFc q h) hFc (fun u t H1 locs ht hvm hw hB hz1 hk1 hS => ?_)
                      obtain ⟨z20_75, z21_76, z22_77, z23_78, ⟨hP1, -, hD1⟩, hz21_76, hz22_77, xr_74_0, xr_74_1⟩ := hB
                      rw [ht] at hP1
                      have hP := hP1
                      have hD := pu_all hFc hD1
                      clear hP1 hD1 hFc
                      clear hk1 hz1 ht hvm
                      generalize H1 = H at hP hS ⊢
                      exact W.vret hx hb hr (fun t ht hW => ⟨⟨(), rfl, trivial, ⟨q_65, (upd f11 ((nI a0) : Int32).toNatClampNeg g_57), q_10, z20_75, z21_76, z22_77, z23_78, g_66, g_67, ⟨by rw [ht]; exact hP, va_K.moved hW.alike hK, hD⟩, hz21_76, hz22_77, hg_66, by omega, by omega⟩⟩, hS.F ht⟩) hS.2.2 dX9_readCondition_233
                  refine lv_icmp_eq (tgt := 198) hx hb dX9_readCondition_187 (by decide) (fun c_79 => ?_) (fun c_79 => ?_)
                  · have c_79 : g_56 = 2 := (nI_eq (a := g_56) (b := 2) (Nat.lt_of_le_of_lt hg_56 (Nat.le_of_ble_eq_true rfl)) (Nat.le_of_ble_eq_true rfl)).mp c_79
                    refine lv_aload_n hx hb dX9_readCondition_198 rfl (lv_at hl 0 rfl) ?_
                    refine va_get (D := (dC, dI)) (ci := 9) (v := .int g_57) (C := RX9) (T := TX9) (N := 67) hx hb hts hiX9 hown hK hP 0 rfl rfl 23 (by decide) v_25 (fun _ h9 => h9) rfl dX9_readCondition_199 ?_
                    refine lv_bipush (v := 20) hx hb dX9_readCondition_202 (by decide) ?_
                    refine lv_icmp_le (tgt := 212) hx hb dX9_readCondition_204 (by decide) (fun c_80 => ?_) (fun c_80 => ?_)
                    · exact j_70 _ _ _ _ ⟨g_36, g_37, rfl, hg_36, by omega, by omega, hP, hD, hS, lv_sub hl [0, 1, 2, 3, 4, 5, 6] rfl⟩
                    · refine lv_aload_n hx hb dX9_readCondition_207 rfl (lv_at hl 0 rfl) ?_
                      refine lv_iconst (v := 4) hx hb dX9_readCondition_208 (by decide) ?_
                      have hFc := pu_free hD hS hA
                      refine va_callv (va_runV (As := [.int 4]) (rest := []) ⟨hx, hb, hml, hown, hts⟩ (c_M_fails l dC dI _ ad ck x0 x16 x18 x19 g_54 g_55 g_56 g_57 x24 x25 g_36 g_37 0 x29 x30 x33 x45 x46 x52 x53 x61 x62 x63 x65 x66 f1 f2 f3 q4 q5 q6 q7 f8 q_10 q_65 f11 m12_0 m12_1 m13_0 m13_1 m14_0 m14_1 m15_0 m15_1 f17 q31 f32 f34 f35 f36 f37 q38 f39 f40 f41 m42_0 m42_1 f43 f44 f47 f48 f49 f50 f51 q54 q55 q56 f57 q58 f59 f60 f64 4 hx16 hx18 hx19 hg_55 hg_56 hg_36 (Nat.le_of_ble_eq_true rfl) hx29 hx30 hx33 hx46 hx52 hx53 hx61 hx62 hx63 hx65 hm12_0 hm12_1 hm13_0 hm13_1 hm14_0 hm14_1 hm15_0 hm15_1 hm42_0 hm42_1 (Nat.le_of_ble_eq_true rfl) (by omega)) (cwV 1 hts g_M_readCondition0_0_M_fails rfl rfl rfl (by decide +kernel) ⟨Nat.le_of_ble_eq_true rfl, Nat.le_of_ble_eq_true rfl⟩) ⟨pu_bl, va_recv hK hP (ci := 9) (q0 := 0) rfl rfl, pu_in hP hK hD⟩ rfl rfl hl.1 rfl (lv_room (Nat.le_of_ble_eq_true rfl)) dX9_readCondition_209 ⟨Nat.le_of_ble_eq_true rfl, Nat.le_of_ble_eq_true rfl⟩) hS (fun q _ h => hFc q h) hFc (fun u t H1 locs ht hvm hw hB hz1 hk1 hS => ?_)
                      obtain ⟨z26_82, z27_83, ⟨hP1, -, hD1⟩, hz26_82, xr_81_0⟩ := hB
                      rw [ht] at hP1
                      have hP := hP1
                      have hD := pu_all hFc hD1
                      clear hP1 hD1 hFc
                      clear hk1 hz1 ht hvm
                      generalize H1 = H at hP hS ⊢
                      exact j_70 _ _ _ _ ⟨z26_82, z27_83, rfl, hz26_82, by omega, by omega, hP, hD, hS, lv_sub hl [0, 1, 2, 3, 4, 5, 6] rfl⟩
                  · have c_79 : ¬ g_56 = 2 := fun z => c_79 ((nI_eq (a := g_56) (b := 2) (Nat.lt_of_le_of_lt hg_56 (Nat.le_of_ble_eq_true rfl)) (Nat.le_of_ble_eq_true rfl)).mpr z)
                    refine lv_aload_n hx hb dX9_readCondition_190 rfl (lv_at hl 0 rfl) ?_
                    refine lv_iconst (v := 2) hx hb dX9_readCondition_191 (by decide) ?_
                    have hFc := pu_free hD hS hA
                    refine va_callv (va_runV (As := [.int 2]) (rest := []) ⟨hx, hb, hml, hown, hts⟩ (c_M_fails l dC dI _ ad ck x0 x16 x18 x19 g_54 g_55 g_56 g_57 x24 x25 g_36 g_37 0 x29 x30 x33 x45 x46 x52 x53 x61 x62 x63 x65 x66 f1 f2 f3 q4 q5 q6 q7 f8 q_10 q_65 f11 m12_0 m12_1 m13_0 m13_1 m14_0 m14_1 m15_0 m15_1 f17 q31 f32 f34 f35 f36 f37 q38 f39 f40 f41 m42_0 m42_1 f43 f44 f47 f48 f49 f50 f51 q54 q55 q56 f57 q58 f59 f60 f64 2 hx16 hx18 hx19 hg_55 hg_56 hg_36 (Nat.le_of_ble_eq_true rfl) hx29 hx30 hx33 hx46 hx52 hx53 hx61 hx62 hx63 hx65 hm12_0 hm12_1 hm13_0 hm13_1 hm14_0 hm14_1 hm15_0 hm15_1 hm42_0 hm42_1 (Nat.le_of_ble_eq_true rfl) (by omega)) (cwV 1 hts g_M_readCondition0_0_M_fails rfl rfl rfl (by decide +kernel) ⟨Nat.le_of_ble_eq_true rfl, Nat.le_of_ble_eq_true rfl⟩) ⟨pu_bl, va_recv hK hP (ci := 9) (q0 := 0) rfl rfl, pu_in hP hK hD⟩ rfl rfl hl.1 rfl (lv_room (Nat.le_of_ble_eq_true rfl)) dX9_readCondition_192 ⟨Nat.le_of_ble_eq_true rfl, Nat.le_of_ble_eq_true rfl⟩) hS (fun q _ h => hFc q h) hFc (fun u t H1 locs ht hvm hw hB hz1 hk1 hS => ?_)
                    obtain ⟨z26_85, z27_86, ⟨hP1, -, hD1⟩, hz26_85, xr_84_0⟩ := hB
                    rw [ht] at hP1
                    have hP := hP1
                    have hD := pu_all hFc hD1
                    clear hP1 hD1 hFc
                    clear hk1 hz1 ht hvm
                    generalize H1 = H at hP hS ⊢
                    refine lv_goto (tgt := 212) hx hb dX9_readCondition_195 (by decide) ?_
                    exact j_70 _ _ _ _ ⟨z26_85, z27_86, rfl, hz26_85, by omega, by omega, hP, hD, hS, lv_sub hl [0, 1, 2, 3, 4, 5, 6] rfl⟩
                refine lv_if_eq (tgt := 154) hx hb dX9_readCondition_147 (by decide) (fun c_87 => ?_) (fun c_87 => ?_)
                · have c_87 : g_30 = 0 := (nI_eq (a := g_30) (b := 0) (Nat.lt_of_le_of_lt hg_30 (Nat.le_of_ble_eq_true rfl)) (Nat.le_of_ble_eq_true rfl)).mp c_87
                  refine lv_iload_n hx hb dX9_readCondition_154 rfl (lv_at hl 3 rfl) ?_
                  refine lv_if_eq (tgt := 171) hx hb dX9_readCondition_155 (by decide) (fun c_88 => ?_) (fun c_88 => ?_)
                  · have c_88 : u_21 = 0 := (nI_eq (a := u_21) (b := 0) (Nat.lt_of_le_of_lt hu_21 (Nat.le_of_ble_eq_true rfl)) (Nat.le_of_ble_eq_true rfl)).mp c_88
                    refine lv_iload hx hb dX9_readCondition_171 (lv_at hl 6 rfl) ?_
                    refine lv_if_eq (tgt := 180) hx hb dX9_readCondition_173 (by decide) (fun c_89 => ?_) (fun c_89 => ?_)
                    · have c_89 : g_50 = 0 := (nI_eq (a := g_50) (b := 0) (Nat.lt_of_le_of_lt hg_50 (Nat.le_of_ble_eq_true rfl)) (Nat.le_of_ble_eq_true rfl)).mp c_89
                      refine lv_iconst (v := 4) hx hb dX9_readCondition_180 (by decide) ?_
                      exact j_64 _ _ _ _ ⟨4, rfl, (Nat.le_of_ble_eq_true rfl), by omega, by omega, hP, hD, hS, lv_sub hl [0, 1, 2, 3, 4, 5, 6] rfl⟩
                    · have c_89 : ¬ g_50 = 0 := fun z => c_89 ((nI_eq (a := g_50) (b := 0) (Nat.lt_of_le_of_lt hg_50 (Nat.le_of_ble_eq_true rfl)) (Nat.le_of_ble_eq_true rfl)).mpr z)
                      refine lv_iconst (v := 3) hx hb dX9_readCondition_176 (by decide) ?_
                      refine lv_goto (tgt := 181) hx hb dX9_readCondition_177 (by decide) ?_
                      exact j_64 _ _ _ _ ⟨3, rfl, (Nat.le_of_ble_eq_true rfl), by omega, by omega, hP, hD, hS, lv_sub hl [0, 1, 2, 3, 4, 5, 6] rfl⟩
                  · have c_88 : ¬ u_21 = 0 := fun z => c_88 ((nI_eq (a := u_21) (b := 0) (Nat.lt_of_le_of_lt hu_21 (Nat.le_of_ble_eq_true rfl)) (Nat.le_of_ble_eq_true rfl)).mpr z)
                    refine lv_iload hx hb dX9_readCondition_158 (lv_at hl 6 rfl) ?_
                    refine lv_if_eq (tgt := 167) hx hb dX9_readCondition_160 (by decide) (fun c_90 => ?_) (fun c_90 => ?_)
                    · have c_90 : g_50 = 0 := (nI_eq (a := g_50) (b := 0) (Nat.lt_of_le_of_lt hg_50 (Nat.le_of_ble_eq_true rfl)) (Nat.le_of_ble_eq_true rfl)).mp c_90
                      refine lv_iconst (v := 0) hx hb dX9_readCondition_167 (by decide) ?_
                      refine lv_goto (tgt := 181) hx hb dX9_readCondition_168 (by decide) ?_
                      exact j_64 _ _ _ _ ⟨0, rfl, (Nat.le_of_ble_eq_true rfl), by omega, by omega, hP, hD, hS, lv_sub hl [0, 1, 2, 3, 4, 5, 6] rfl⟩
                    · have c_90 : ¬ g_50 = 0 := fun z => c_90 ((nI_eq (a := g_50) (b := 0) (Nat.lt_of_le_of_lt hg_50 (Nat.le_of_ble_eq_true rfl)) (Nat.le_of_ble_eq_true rfl)).mpr z)
                      refine lv_iconst (v := 1) hx hb dX9_readCondition_163 (by decide) ?_
                      refine lv_goto (tgt := 181) hx hb dX9_readCondition_164 (by decide) ?_
                      exact j_64 _ _ _ _ ⟨1, rfl, (Nat.le_of_ble_eq_true rfl), by omega, by omega, hP, hD, hS, lv_sub hl [0, 1, 2, 3, 4, 5, 6] rfl⟩
                · have c_87 : ¬ g_30 = 0 := fun z => c_87 ((nI_eq (a := g_30) (b := 0) (Nat.lt_of_le_of_lt hg_30 (Nat.le_of_ble_eq_true rfl)) (Nat.le_of_ble_eq_true rfl)).mpr z)
                  refine lv_iconst (v := 2) hx hb dX9_readCondition_150 (by decide) ?_
                  refine lv_goto (tgt := 181) hx hb dX9_readCondition_151 (by decide) ?_
                  exact j_64 _ _ _ _ ⟨2, rfl, (Nat.le_of_ble_eq_true rfl), by omega, by omega, hP, hD, hS, lv_sub hl [0, 1, 2, 3, 4, 5, 6] rfl⟩
              refine lv_if_eq (tgt := 140) hx hb dX9_readCondition_133 (by decide) (fun c_91 => ?_) (fun c_91 => ?_)
              · have c_91 : g_50 = 0 := (nI_eq (a := g_50) (b := 0) (Nat.lt_of_le_of_lt hg_50 (Nat.le_of_ble_eq_true rfl)) (Nat.le_of_ble_eq_true rfl)).mp c_91
                exact j_60 _ _ _ _ ⟨z20_46, z21_47, z22_48, z23_49, rfl, hz21_47, hz22_48, by omega, by omega, hP, hD, hS, lv_sub hl [1, 2, 3, 4, 5, 6, 0] rfl⟩
              · have c_91 : ¬ g_50 = 0 := fun z => c_91 ((nI_eq (a := g_50) (b := 0) (Nat.lt_of_le_of_lt hg_50 (Nat.le_of_ble_eq_true rfl)) (Nat.le_of_ble_eq_true rfl)).mpr z)
                refine lv_aload_n hx hb dX9_readCondition_136 rfl (lv_at hl 1 rfl) ?_
                have hFc := pu_free hD hS hA
                refine va_callv (va_runV (As := []) (rest := []) ⟨hx, hb, hml, hown, hts⟩ (c_M_next l dC dI _ ad ck x0 x16 x18 x19 z20_46 z21_47 z22_48 z23_49 x24 x25 g_36 g_37 0 x29 x30 x33 x45 x46 x52 x53 x61 x62 x63 x65 x66 f1 f2 f3 q4 q5 q6 q7 f8 q_10 q10 f11 m12_0 m12_1 m13_0 m13_1 m14_0 m14_1 m15_0 m15_1 f17 q31 f32 f34 f35 f36 f37 q38 f39 f40 f41 m42_0 m42_1 f43 f44 f47 f48 f49 f50 f51 q54 q55 q56 f57 q58 f59 f60 f64 hx16 hx18 hx19 hz21_47 hz22_48 hg_36 (Nat.le_of_ble_eq_true rfl) hx29 hx30 hx33 hx46 hx52 hx53 hx61 hx62 hx63 hx65 hm12_0 hm12_1 hm13_0 hm13_1 hm14_0 hm14_1 hm15_0 hm15_1 hm42_0 hm42_1) (cwV 0 hts g_M_readCondition0_0_M_next rfl rfl rfl (by decide +kernel) ⟨Nat.le_of_ble_eq_true rfl, Nat.le_of_ble_eq_true rfl⟩) ⟨pu_bl, va_recv hK hP (ci := 9) (q0 := 0) rfl rfl, pu_in hP hK hD⟩ rfl rfl hl.1 rfl (lv_room (Nat.le_of_ble_eq_true rfl)) dX9_readCondition_137 ⟨Nat.le_of_ble_eq_true rfl, Nat.le_of_ble_eq_true rfl⟩) hS (fun q _ h => hFc q h) hFc (fun u t H1 locs ht hvm hw hB hz1 hk1 hS => ?_)
                obtain ⟨z20_93, z21_94, z22_95, z23_96, ⟨hP1, -, hD1⟩, hz21_94, hz22_95, xr_92_0, xr_92_1⟩ := hB
                rw [ht] at hP1
                have hP := hP1
                have hD := pu_all hFc hD1
                clear hP1 hD1 hFc
                clear hk1 hz1 ht hvm
                generalize H1 = H at hP hS ⊢
                exact j_60 _ _ _ _ ⟨z20_93, z21_94, z22_95, z23_96, rfl, hz21_94, hz22_95, by omega, by omega, hP, hD, hS, lv_sub hl [1, 2, 3, 4, 5, 6, 0] rfl⟩
            refine lv_if_ne (tgt := 128) hx hb dX9_readCondition_112 (by decide) (fun c_97 => ?_) (fun c_97 => ?_)
            · have c_97 : ¬ g_30 = 0 := fun z => c_97 ((nI_eq (a := g_30) (b := 0) (Nat.lt_of_le_of_lt hg_30 (Nat.le_of_ble_eq_true rfl)) (Nat.le_of_ble_eq_true rfl)).mpr z)
              refine lv_iconst (v := 0) hx hb dX9_readCondition_128 (by decide) ?_
              exact j_53 _ _ _ _ ⟨0, rfl, (Nat.le_of_ble_eq_true rfl), by omega, by omega, hP, hD, hS, lv_sub hl [0, 1, 2, 3, 4, 5] rfl⟩
            · have c_97 : g_30 = 0 := (nI_eq (a := g_30) (b := 0) (Nat.lt_of_le_of_lt hg_30 (Nat.le_of_ble_eq_true rfl)) (Nat.le_of_ble_eq_true rfl)).mp c_97
              refine lv_aload_n hx hb dX9_readCondition_115 rfl (lv_at hl 0 rfl) ?_
              refine lv_bipush (v := 61) hx hb dX9_readCondition_116 (by decide) ?_
              refine va_calli (va_runV (As := [.int 61]) (rest := []) ⟨hx, hb, hml, hown, hts⟩ (c_M_isSign l dC dI _ ad ck x0 x16 x18 x19 z20_46 z21_47 z22_48 z23_49 x24 x25 g_36 g_37 0 x29 x30 x33 x45 x46 x52 x53 x61 x62 x63 x65 x66 f1 f2 f3 q4 q5 q6 q7 f8 q_10 q10 f11 m12_0 m12_1 m13_0 m13_1 m14_0 m14_1 m15_0 m15_1 f17 q31 f32 f34 f35 f36 f37 q38 f39 f40 f41 m42_0 m42_1 f43 f44 f47 f48 f49 f50 f51 q54 q55 q56 f57 q58 f59 f60 f64 61 hx16 hx18 hx19 hz21_47 hz22_48 hg_36 (Nat.le_of_ble_eq_true rfl) hx29 hx30 hx33 hx46 hx52 hx53 hx61 hx62 hx63 hx65 hm12_0 hm12_1 hm13_0 hm13_1 hm14_0 hm14_1 hm15_0 hm15_1 hm42_0 hm42_1) (cwV 1 hts g_M_readCondition0_0_M_isSign rfl rfl rfl (by decide +kernel) ⟨Nat.le_of_ble_eq_true rfl, Nat.le_of_ble_eq_true rfl⟩) ⟨pu_bl, va_recv hK hP (ci := 9) (q0 := 0) rfl rfl, pu_in hP hK hD⟩ rfl rfl hl.1 rfl (lv_room (Nat.le_of_ble_eq_true rfl)) dX9_readCondition_118 ⟨Nat.le_of_ble_eq_true rfl, Nat.le_of_ble_eq_true rfl⟩) hS (fun q _ h => pu_fr hS hA q h) (pu_fr hS hA) (fun r_98 u t H1 locs ht hvm hw hB hz1 hk1 hS => ?_)
              have hP := pu_keep hP hk1
              clear hk1 hz1 ht hvm
              generalize H1 = H at hP hS ⊢
              obtain ⟨u_99, hu_99, rfl, iu_99⟩ := hw
              refine lv_if_eq (tgt := 128) hx hb dX9_readCondition_121 (by decide) (fun c_100 => ?_) (fun c_100 => ?_)
              · have c_100 : u_99 = 0 := (nI_eq (a := u_99) (b := 0) (Nat.lt_of_le_of_lt hu_99 (Nat.le_of_ble_eq_true rfl)) (Nat.le_of_ble_eq_true rfl)).mp c_100
                refine lv_iconst (v := 0) hx hb dX9_readCondition_128 (by decide) ?_
                exact j_53 _ _ _ _ ⟨0, rfl, (Nat.le_of_ble_eq_true rfl), by omega, by omega, hP, hD, hS, lv_sub hl [0, 1, 2, 3, 4, 5] rfl⟩
              · have c_100 : ¬ u_99 = 0 := fun z => c_100 ((nI_eq (a := u_99) (b := 0) (Nat.lt_of_le_of_lt hu_99 (Nat.le_of_ble_eq_true rfl)) (Nat.le_of_ble_eq_true rfl)).mpr z)
                refine lv_iconst (v := 1) hx hb dX9_readCondition_124 (by decide) ?_
                refine lv_goto (tgt := 129) hx hb dX9_readCondition_125 (by decide) ?_
                exact j_53 _ _ _ _ ⟨1, rfl, (Nat.le_of_ble_eq_true rfl), by omega, by omega, hP, hD, hS, lv_sub hl [0, 1, 2, 3, 4, 5] rfl⟩
          · have c_44 : u_43 = 0 := (nI_eq (a := u_43) (b := 0) (Nat.lt_of_le_of_lt hu_43 (Nat.le_of_ble_eq_true rfl)) (Nat.le_of_ble_eq_true rfl)).mp c_44
            exact W.vret hx hb hr (fun t ht hW => ⟨⟨(), rfl, trivial, ⟨q10, f11, q_10, g_13, g_14, g_15, g_16, g_36, g_37, ⟨by rw [ht]; exact hP, va_K.moved hW.alike hK, hD⟩, hg_14, hg_15, hg_36, by omega, by omega⟩⟩, hS.F ht⟩) hS.2.2 dX9_readCondition_105
        refine lv_if_eq (tgt := 98) hx hb dX9_readCondition_76 (by decide) (fun c_101 => ?_) (fun c_101 => ?_)
        · have c_101 : u_35 = 0 := (nI_eq (a := u_35) (b := 0) (Nat.lt_of_le_of_lt hu_35 (Nat.le_of_ble_eq_true rfl)) (Nat.le_of_ble_eq_true rfl)).mp c_101
          exact j_41 _ _ _ _ ⟨z26_7, z27_8, rfl, hz26_7, by omega, by omega, by omega, hP, hD, hS, lv_sub hl [1, 2, 3, 4, 5, 0] rfl⟩
        · have c_101 : ¬ u_35 = 0 := fun z => c_101 ((nI_eq (a := u_35) (b := 0) (Nat.lt_of_le_of_lt hu_35 (Nat.le_of_ble_eq_true rfl)) (Nat.le_of_ble_eq_true rfl)).mpr z)
          refine lv_iload_n hx hb dX9_readCondition_79 rfl (lv_at hl 4 rfl) ?_
          refine lv_if_ne (tgt := 98) hx hb dX9_readCondition_80 (by decide) (fun c_102 => ?_) (fun c_102 => ?_)
          · have c_102 : ¬ u_21 = 0 := fun z => c_102 ((nI_eq (a := u_21) (b := 0) (Nat.lt_of_le_of_lt hu_21 (Nat.le_of_ble_eq_true rfl)) (Nat.le_of_ble_eq_true rfl)).mpr z)
            exact j_41 _ _ _ _ ⟨z26_7, z27_8, rfl, hz26_7, by omega, by omega, by omega, hP, hD, hS, lv_sub hl [1, 2, 3, 4, 5, 0] rfl⟩
          · have c_102 : u_21 = 0 := (nI_eq (a := u_21) (b := 0) (Nat.lt_of_le_of_lt hu_21 (Nat.le_of_ble_eq_true rfl)) (Nat.le_of_ble_eq_true rfl)).mp c_102
            refine lv_iload hx hb dX9_readCondition_83 (lv_at hl 5 rfl) ?_
            refine lv_if_ne (tgt := 98) hx hb dX9_readCondition_85 (by decide) (fun c_103 => ?_) (fun c_103 => ?_)
            · have c_103 : ¬ g_24 = 0 := fun z => c_103 ((nI_eq (a := g_24) (b := 0) (Nat.lt_of_le_of_lt hg_24 (Nat.le_of_ble_eq_true rfl)) (Nat.le_of_ble_eq_true rfl)).mpr z)
              exact j_41 _ _ _ _ ⟨z26_7, z27_8, rfl, hz26_7, by omega, by omega, by omega, hP, hD, hS, lv_sub hl [1, 2, 3, 4, 5, 0] rfl⟩
            · have c_103 : g_24 = 0 := (nI_eq (a := g_24) (b := 0) (Nat.lt_of_le_of_lt hg_24 (Nat.le_of_ble_eq_true rfl)) (Nat.le_of_ble_eq_true rfl)).mp c_103
              refine lv_iload hx hb dX9_readCondition_88 (lv_at hl 0 rfl) ?_
              refine lv_if_ne (tgt := 98) hx hb dX9_readCondition_90 (by decide) (fun c_104 => ?_) (fun c_104 => ?_)
              · have c_104 : ¬ g_30 = 0 := fun z => c_104 ((nI_eq (a := g_30) (b := 0) (Nat.lt_of_le_of_lt hg_30 (Nat.le_of_ble_eq_true rfl)) (Nat.le_of_ble_eq_true rfl)).mpr z)
                exact j_41 _ _ _ _ ⟨z26_7, z27_8, rfl, hz26_7, by omega, by omega, by omega, hP, hD, hS, lv_sub hl [1, 2, 3, 4, 5, 0] rfl⟩
              · have c_104 : g_30 = 0 := (nI_eq (a := g_30) (b := 0) (Nat.lt_of_le_of_lt hg_30 (Nat.le_of_ble_eq_true rfl)) (Nat.le_of_ble_eq_true rfl)).mp c_104
                refine lv_aload_n hx hb dX9_readCondition_93 rfl (lv_at hl 1 rfl) ?_
                refine lv_iconst (v := 2) hx hb dX9_readCondition_94 (by decide) ?_
                have hFc := pu_free hD hS hA
                refine va_callv (va_runV (As := [.int 2]) (rest := []) ⟨hx, hb, hml, hown, hts⟩ (c_M_fails l dC dI _ ad ck x0 x16 x18 x19 g_13 g_14 g_15 g_16 x24 x25 z26_7 z27_8 0 x29 x30 x33 x45 x46 x52 x53 x61 x62 x63 x65 x66 f1 f2 f3 q4 q5 q6 q7 f8 q_10 q10 f11 m12_0 m12_1 m13_0 m13_1 m14_0 m14_1 m15_0 m15_1 f17 q31 f32 f34 f35 f36 f37 q38 f39 f40 f41 m42_0 m42_1 f43 f44 f47 f48 f49 f50 f51 q54 q55 q56 f57 q58 f59 f60 f64 2 hx16 hx18 hx19 hg_14 hg_15 hz26_7 (Nat.le_of_ble_eq_true rfl) hx29 hx30 hx33 hx46 hx52 hx53 hx61 hx62 hx63 hx65 hm12_0 hm12_1 hm13_0 hm13_1 hm14_0 hm14_1 hm15_0 hm15_1 hm42_0 hm42_1 (Nat.le_of_ble_eq_true rfl) (by omega)) (cwV 1 hts g_M_readCondition0_0_M_fails rfl rfl rfl (by decide +kernel) ⟨Nat.le_of_ble_eq_true rfl, Nat.le_of_ble_eq_true rfl⟩) ⟨pu_bl, va_recv hK hP (ci := 9) (q0 := 0) rfl rfl, pu_in hP hK hD⟩ rfl rfl hl.1 rfl (lv_room (Nat.le_of_ble_eq_true rfl)) dX9_readCondition_95 ⟨Nat.le_of_ble_eq_true rfl, Nat.le_of_ble_eq_true rfl⟩) hS (fun q _ h => hFc q h) hFc (fun u t H1 locs ht hvm hw hB hz1 hk1 hS => ?_)
                obtain ⟨z26_106, z27_107, ⟨hP1, -, hD1⟩, hz26_106, xr_105_0⟩ := hB
                rw [ht] at hP1
                have hP := hP1
                have hD := pu_all hFc hD1
                clear hP1 hD1 hFc
                clear hk1 hz1 ht hvm
                generalize H1 = H at hP hS ⊢
                exact j_41 _ _ _ _ ⟨z26_106, z27_107, rfl, hz26_106, by omega, by omega, by omega, hP, hD, hS, lv_sub hl [1, 2, 3, 4, 5, 0] rfl⟩
      refine lv_if_eq (tgt := 69) hx hb dX9_readCondition_58 (by decide) (fun c_108 => ?_) (fun c_108 => ?_)
      · have c_108 : u_29 = 0 := (nI_eq (a := u_29) (b := 0) (Nat.lt_of_le_of_lt hu_29 (Nat.le_of_ble_eq_true rfl)) (Nat.le_of_ble_eq_true rfl)).mp c_108
        refine lv_iconst (v := 0) hx hb dX9_readCondition_69 (by decide) ?_
        exact j_33 _ _ _ _ ⟨0, rfl, (Nat.le_of_ble_eq_true rfl), by omega, by omega, hP, hD, hS, lv_sub hl [1, 2, 3, 4, 0] rfl⟩
      · have c_108 : ¬ u_29 = 0 := fun z => c_108 ((nI_eq (a := u_29) (b := 0) (Nat.lt_of_le_of_lt hu_29 (Nat.le_of_ble_eq_true rfl)) (Nat.le_of_ble_eq_true rfl)).mpr z)
        refine lv_iload_n hx hb dX9_readCondition_61 rfl (lv_at hl 3 rfl) ?_
        refine lv_if_ne (tgt := 69) hx hb dX9_readCondition_62 (by decide) (fun z => absurd z (by decide)) (fun _ => ?_)
        refine lv_iconst (v := 1) hx hb dX9_readCondition_65 (by decide) ?_
        refine lv_goto (tgt := 70) hx hb dX9_readCondition_66 (by decide) ?_
        exact j_33 _ _ _ _ ⟨1, rfl, (Nat.le_of_ble_eq_true rfl), by omega, by omega, hP, hD, hS, lv_sub hl [1, 2, 3, 4, 0] rfl⟩
    refine lv_if_eq (tgt := 49) hx hb dX9_readCondition_38 (by decide) (fun c_109 => ?_) (fun c_109 => ?_)
    · have c_109 : u_23 = 0 := (nI_eq (a := u_23) (b := 0) (Nat.lt_of_le_of_lt hu_23 (Nat.le_of_ble_eq_true rfl)) (Nat.le_of_ble_eq_true rfl)).mp c_109
      refine lv_iconst (v := 0) hx hb dX9_readCondition_49 (by decide) ?_
      exact j_27 _ _ _ _ ⟨0, rfl, (Nat.le_of_ble_eq_true rfl), by omega, by omega, hP, hD, hS, lv_sub hl [1, 2, 3, 0] rfl⟩
    · have c_109 : ¬ u_23 = 0 := fun z => c_109 ((nI_eq (a := u_23) (b := 0) (Nat.lt_of_le_of_lt hu_23 (Nat.le_of_ble_eq_true rfl)) (Nat.le_of_ble_eq_true rfl)).mpr z)
      refine lv_iload_n hx hb dX9_readCondition_41 rfl (lv_at hl 3 rfl) ?_
      refine lv_if_ne (tgt := 49) hx hb dX9_readCondition_42 (by decide) (fun z => absurd z (by decide)) (fun _ => ?_)
      refine lv_iconst (v := 1) hx hb dX9_readCondition_45 (by decide) ?_
      refine lv_goto (tgt := 50) hx hb dX9_readCondition_46 (by decide) ?_
      exact j_27 _ _ _ _ ⟨1, rfl, (Nat.le_of_ble_eq_true rfl), by omega, by omega, hP, hD, hS, lv_sub hl [1, 2, 3, 0] rfl⟩
  refine lv_if_eq (tgt := 25) hx hb dX9_readCondition_18 (by decide) (fun c_110 => ?_) (fun c_110 => ?_)
  · have c_110 : u_12 = 0 := (nI_eq (a := u_12) (b := 0) (Nat.lt_of_le_of_lt hu_12 (Nat.le_of_ble_eq_true rfl)) (Nat.le_of_ble_eq_true rfl)).mp c_110
    exact j_19 _ _ _ _ ⟨z20_2, z21_3, z22_4, z23_5, rfl, hz21_3, hz22_4, by omega, by omega, hP, hD, hS, lv_sub hl [0, 1, 2] rfl⟩
  · have c_110 : ¬ u_12 = 0 := fun z => c_110 ((nI_eq (a := u_12) (b := 0) (Nat.lt_of_le_of_lt hu_12 (Nat.le_of_ble_eq_true rfl)) (Nat.le_of_ble_eq_true rfl)).mpr z)
    refine lv_aload_n hx hb dX9_readCondition_21 rfl (lv_at hl 0 rfl) ?_
    have hFc := pu_free hD hS hA
    refine va_callv (va_runV (As := []) (rest := []) ⟨hx, hb, hml, hown, hts⟩ (c_M_next l dC dI _ ad ck x0 x16 x18 x19 z20_2 z21_3 z22_4 z23_5 x24 x25 z26_7 z27_8 0 x29 x30 x33 x45 x46 x52 x53 x61 x62 x63 x65 x66 f1 f2 f3 q4 q5 q6 q7 f8 q_10 q10 f11 m12_0 m12_1 m13_0 m13_1 m14_0 m14_1 m15_0 m15_1 f17 q31 f32 f34 f35 f36 f37 q38 f39 f40 f41 m42_0 m42_1 f43 f44 f47 f48 f49 f50 f51 q54 q55 q56 f57 q58 f59 f60 f64 hx16 hx18 hx19 hz21_3 hz22_4 hz26_7 (Nat.le_of_ble_eq_true rfl) hx29 hx30 hx33 hx46 hx52 hx53 hx61 hx62 hx63 hx65 hm12_0 hm12_1 hm13_0 hm13_1 hm14_0 hm14_1 hm15_0 hm15_1 hm42_0 hm42_1) (cwV 0 hts g_M_readCondition0_0_M_next rfl rfl rfl (by decide +kernel) ⟨Nat.le_of_ble_eq_true rfl, Nat.le_of_ble_eq_true rfl⟩) ⟨pu_bl, va_recv hK hP (ci := 9) (q0 := 0) rfl rfl, pu_in hP hK hD⟩ rfl rfl hl.1 rfl (lv_room (Nat.le_of_ble_eq_true rfl)) dX9_readCondition_22 ⟨Nat.le_of_ble_eq_true rfl, Nat.le_of_ble_eq_true rfl⟩) hS (fun q _ h => hFc q h) hFc (fun u t H1 locs ht hvm hw hB hz1 hk1 hS => ?_)
    obtain ⟨z20_112, z21_113, z22_114, z23_115, ⟨hP1, -, hD1⟩, hz21_113, hz22_114, xr_111_0, xr_111_1⟩ := hB
    rw [ht] at hP1
    have hP := hP1
    have hD := pu_all hFc hD1
    clear hP1 hD1 hFc
    clear hk1 hz1 ht hvm
    generalize H1 = H at hP hS ⊢
    exact j_19 _ _ _ _ ⟨z20_112, z21_113, z22_114, z23_115, rfl, hz21_113, hz22_114, by omega, by omega, hP, hD, hS, lv_sub hl [0, 1, 2] rfl⟩
abbrev vs_M_readCondition1_0 : List Cond := .code yX9_readCondition cX9_readCondition 7 none :: VM
theorem g_M_readCondition1_0_M_next : GoodIn vs_M_readCondition1_0 (wsV RX9 226 RX9 yX9_next vs_M_next) := gm_V vm_100 vm_101 vm_102 vm_12 vm_72
theorem g_M_readCondition1_0_M_toldClock_0 : GoodIn vs_M_readCondition1_0 (wsV RX9 232 RX9 yX9_toldClock vs_M_toldClock_0) := gm_V vm_109 vm_110 vm_111 vm_12 vm_103
theorem g_M_readCondition1_0_M_isGood : GoodIn vs_M_readCondition1_0 (wsV RX9 216 RX9 yX9_isGood vs_M_isGood) := gm_V vm_91 vm_92 vm_93 vm_12 vm_15
theorem g_M_readCondition1_0_M_isSign : GoodIn vs_M_readCondition1_0 (wsV RX9 235 RX9 yX9_isSign vs_M_isSign) := gm_V vm_112 vm_113 vm_114 vm_12 vm_38
theorem g_M_readCondition1_0_M_fails : GoodIn vs_M_readCondition1_0 (wsV RX9 210 RX9 yX9_fails vs_M_fails) := gm_V vm_55 vm_56 vm_57 vm_12 vm_39
set_option maxHeartbeats 4000000 in
set_option maxRecDepth 100000 in
theorem c_M_readCondition1_0 (l : Launch) (dC : Nat → ClassId) (dI : Nat → Nat → Nat) (sz : Nat) (ad : Nat → Nat) (ck : Nat → ClassId) (x0 : Int32) (x16 : Nat) (x18 : Nat) (x19 : Nat) (x20 : Int32) (x21 : Nat) (x22 : Nat) (x23 : Int32) (x24 : Int32) (x25 : Int32) (x26 : Nat) (x27 : Int32) (x29 : Nat) (x30 : Nat) (x33 : Nat) (x45 : Int32) (x46 : Nat) (x52 : Nat) (x53 : Nat) (x61 : Nat) (x62 : Nat) (x63 : Nat) (x65 : Nat) (x66 : Int32) (f1 : Nat → Int32) (f2 : Nat → Int32) (f3 : Nat → Int32) (q4 : Nat → Nat) (q5 : Nat → Nat) (q6 : Nat → Nat) (q7 : Nat → Nat) (f8 : Nat → Int32) (q9 : Nat → Nat) (q10 : Nat → Nat) (f11 : Nat → Int32) (m12_0 m12_1 : Nat) (m13_0 m13_1 : Nat) (m14_0 m14_1 : Nat) (m15_0 m15_1 : Nat) (f17 : Nat → Int32) (q31 : Nat → Nat) (f32 : Nat → Int32) (f34 : Nat → Int32) (f35 : Nat → Int32) (f36 : Nat → Int32) (f37 : Nat → Int32) (q38 : Nat → Nat) (f39 : Nat → Int32) (f40 : Nat → Int32) (f41 : Nat → Int32) (m42_0 m42_1 : Nat) (f43 : Nat → Int32) (f44 : Nat → Int32) (f47 : Nat → Int32) (f48 : Nat → Int32) (f49 : Nat → Int32) (f50 : Nat → Int32) (f51 : Nat → Int32) (q54 : Nat → Nat) (q55 : Nat → Nat) (q56 : Nat → Nat) (f57 : Nat → Int32) (q58 : Nat → Nat) (f59 : Nat → Int32) (f60 : Nat → Int32) (f64 : Nat → Int32) (a0 : Nat) (hx16 : x16 ≤ 1) (hx18 : x18 ≤ 900) (hx19 : x19 ≤ 900) (hx21 : x21 ≤ 900) (hx22 : x22 ≤ 4) (hx26 : x26 ≤ 6) (hx29 : x29 ≤ 1) (hx30 : x30 ≤ 1) (hx33 : x33 ≤ 20) (hx46 : x46 ≤ 5) (hx52 : x52 ≤ 2400) (hx53 : x53 ≤ 119) (hx61 : x61 ≤ 119) (hx62 : x62 ≤ 2000) (hx63 : x63 ≤ 1) (hx65 : x65 ≤ 7) (hm12_0 : m12_0 ≤ 3) (hm12_1 : m12_1 ≤ 3) (hm13_0 : m13_0 ≤ 8) (hm13_1 : m13_1 ≤ 8) (hm14_0 : m14_0 ≤ 14) (hm14_1 : m14_1 ≤ 14) (hm15_0 : m15_0 ≤ 8) (hm15_1 : m15_1 ≤ 8) (hm42_0 : m42_0 ≤ 120) (hm42_1 : m42_1 ≤ 400) (ha0 : a0 ≤ 79) (hb0 : 56 ≤ a0) : Met l yX9_readCondition vs_M_readCondition1_0 ({ frames := 4, cells := 0, slots := 0, locals := 82 }) (va_Pc [.ref (ad 0), .int (nI a0), .int 1] (pu_B (dC, dI) (mo_w ad ck x0 (nI x16) (nI x18) (nI x19) x20 (nI x21) (nI x22) x23 x24 x25 (nI x26) x27 0 (nI x29) (nI x30) (nI x33) x45 (nI x46) (nI x52) (nI x53) (nI x61) (nI x62) (nI x63) (nI x65) x66 f1 f2 f3 (bN 3 q4) (bN 7 q5) (bN 7 q6) (bN 4 q7) f8 (bN 2 q9) (bH q10) f11 (b2 m12_0 m12_1) (b2 m13_0 m13_1) (b2 m14_0 m14_1) (b2m m15_0 m15_1) f17 (bA 159 q31) f32 f34 f35 f36 f37 (bN 7 q38) f39 f40 f41 (b2 m42_0 m42_1) f43 f44 f47 f48 f49 f50 f51 (bN 13 q54) (bN 120 q55) (bN 120 q56) f57 (bN 120 q58) f59 f60 f64) (mo_t ck) sz)) (va_Qv (fun (_ : Unit) => True) (fun _ t => ∃ (z10 : Nat → Nat) (z11 : Nat → Int32) (z9 : Nat → Nat) (z20 : Int32) (z21 : Nat) (z22 : Nat) (z23 : Int32) (z26 : Nat) (z27 : Int32), pu_E (dC, dI) (mo_w ad ck x0 (nI x16) (nI x18) (nI x19) z20 (nI z21) (nI z22) z23 x24 x25 (nI z26) z27 0 (nI x29) (nI x30) (nI x33) x45 (nI x46) (nI x52) (nI x53) (nI x61) (nI x62) (nI x63) (nI x65) x66 f1 f2 f3 (bN 3 q4) (bN 7 q5) (bN 7 q6) (bN 4 q7) f8 (bN 2 z9) (bH z10) z11 (b2 m12_0 m12_1) (b2 m13_0 m13_1) (b2 m14_0 m14_1) (b2m m15_0 m15_1) f17 (bA 159 q31) f32 f34 f35 f36 f37 (bN 7 q38) f39 f40 f41 (b2 m42_0 m42_1) f43 f44 f47 f48 f49 f50 f51 (bN 13 q54) (bN 120 q55) (bN 120 q56) f57 (bN 120 q58) f59 f60 f64) (mo_t ck) (va_A ((mo_w ad ck x0 (nI x16) (nI x18) (nI x19) x20 (nI x21) (nI x22) x23 x24 x25 (nI x26) x27 0 (nI x29) (nI x30) (nI x33) x45 (nI x46) (nI x52) (nI x53) (nI x61) (nI x62) (nI x63) (nI x65) x66 f1 f2 f3 (bN 3 q4) (bN 7 q5) (bN 7 q6) (bN 4 q7) f8 (bN 2 q9) (bH q10) f11 (b2 m12_0 m12_1) (b2 m13_0 m13_1) (b2 m14_0 m14_1) (b2m m15_0 m15_1) f17 (bA 159 q31) f32 f34 f35 f36 f37 (bN 7 q38) f39 f40 f41 (b2 m42_0 m42_1) f43 f44 f47 f48 f49 f50 f51 (bN 13 q54) (bN 120 q55) (bN 120 q56) f57 (bN 120 q58) f59 f60 f64)) sz) t ∧ (z21 ≤ 900) ∧ (z22 ≤ 4) ∧ (z26 ≤ 6) ∧ (mu z21 z22 ≤ mu x21 x22) ∧ (x22 = 0 ∨ mu z21 z22 < mu x21 x22)) (va_A ((mo_w ad ck x0 (nI x16) (nI x18) (nI x19) x20 (nI x21) (nI x22) x23 x24 x25 (nI x26) x27 0 (nI x29) (nI x30) (nI x33) x45 (nI x46) (nI x52) (nI x53) (nI x61) (nI x62) (nI x63) (nI x65) x66 f1 f2 f3 (bN 3 q4) (bN 7 q5) (bN 7 q6) (bN 4 q7) f8 (bN 2 q9) (bH q10) f11 (b2 m12_0 m12_1) (b2 m13_0 m13_1) (b2 m14_0 m14_1) (b2m m15_0 m15_1) f17 (bA 159 q31) f32 f34 f35 f36 f37 (bN 7 q38) f39 f40 f41 (b2 m42_0 m42_1) f43 f44 f47 f48 f49 f50 f51 (bN 13 q54) (bN 120 q55) (bN 120 q56) f57 (bN 120 q58) f59 f60 f64)) sz)) 0 0 (va_A ((mo_w ad ck x0 (nI x16) (nI x18) (nI x19) x20 (nI x21) (nI x22) x23 x24 x25 (nI x26) x27 0 (nI x29) (nI x30) (nI x33) x45 (nI x46) (nI x52) (nI x53) (nI x61) (nI x62) (nI x63) (nI x65) x66 f1 f2 f3 (bN 3 q4) (bN 7 q5) (bN 7 q6) (bN 4 q7) f8 (bN 2 q9) (bH q10) f11 (b2 m12_0 m12_1) (b2 m13_0 m13_1) (b2 m14_0 m14_1) (b2m m15_0 m15_1) f17 (bA 159 q31) f32 f34 f35 f36 f37 (bN 7 q38) f39 f40 f41 (b2 m42_0 m42_1) f43 f44 f47 f48 f49 f50 f51 (bN 13 q54) (bN 120 q55) (bN 120 q56) f57 (bN 120 q58) f59 f60 f64)) sz) := by
  refine Met.ofW (cc := cX9_readCondition) (maxL := 7) (ret := none) (by decide) rfl ?_
  intro p e s m args below meth c s₁ B hml hv
  obtain ⟨rfl, rfl, hP, hK, hD0⟩ := hv
  have hx := B.exec
  have hb := B.bytes
  have hr := B.returns
  have hts := atoms_spec (ws := vs_M_readCondition1_0) B.pre
  have v_6 := hts (.fieldLink RX9 34 "ClockReachModel" "ofClock" "[I") (List.mem_cons_of_mem _ vm_108)
  have v_23 := hts (.fieldLink RX9 37 "ClockReachModel" "how" "[I") (List.mem_cons_of_mem _ vm_115)
  have v_24 := hts (.fieldLink RX9 172 "ClockReachModel" "token" "I") (List.mem_cons_of_mem _ vm_36)
  have v_25 := hts (.fieldLink RX9 169 "ClockReachModel" "value" "I") (List.mem_cons_of_mem _ vm_37)
  have v_26 := hts (.fieldLink RX9 40 "ClockReachModel" "limit" "[I") (List.mem_cons_of_mem _ vm_116)
  have hown : s.vm.findClass RX9 = some m.cls := findClass_of_methodNamed B.named
  have hlocks := B.notSynchronized
  have hiX9 : ∀ w ∈ wsX90, w ∈ vs_M_readCondition1_0 := fun _ h => List.mem_cons_of_mem _ (List.mem_append_right _ h)
  have hD := hD0.self (sz := s.heap.size)
  generalize hAe : va_A ((mo_w ad ck x0 (nI x16) (nI x18) (nI x19) x20 (nI x21) (nI x22) x23 x24 x25 (nI x26) x27 0 (nI x29) (nI x30) (nI x33) x45 (nI x46) (nI x52) (nI x53) (nI x61) (nI x62) (nI x63) (nI x65) x66 f1 f2 f3 (bN 3 q4) (bN 7 q5) (bN 7 q6) (bN 4 q7) f8 (bN 2 q9) (bH q10) f11 (b2 m12_0 m12_1) (b2 m13_0 m13_1) (b2 m14_0 m14_1) (b2m m15_0 m15_1) f17 (bA 159 q31) f32 f34 f35 f36 f37 (bN 7 q38) f39 f40 f41 (b2 m42_0 m42_1) f43 f44 f47 f48 f49 f50 f51 (bN 13 q54) (bN 120 q55) (bN 120 q56) f57 (bN 120 q58) f59 f60 f64)) s.heap.size = A at hD ⊢
  have hA : ∀ q : Nat, s.heap.size ≤ q → A q := fun q h => by rw [← hAe]; exact Or.inr h
  have hS : va_S A s.heap s.heap [] := va_S.rf
  have hl := lv_entry ([.ref (ad 0), .int (nI a0), .int 1]) (n := 7) (Nat.le_of_ble_eq_true rfl)
  rw [lg_entry_eq]
  generalize (lg_sl ([.ref (ad 0), .int (nI a0), .int 1]) ++ List.replicate (7 - (lg_sl ([.ref (ad 0), .int (nI a0), .int 1])).length) Slot.unset).toArray = ls at hl ⊢
  have hl : lv_has ls 7 [(0, .ref (ad 0)), (1, .int (nI a0)), (2, .int 1)] := hl
  refine lv_aload_n hx hb dX9_readCondition_0 rfl (lv_at hl 0 rfl) ?_
  have hFc := pu_free hD hS hA
  refine va_callv (va_runV (As := []) (rest := []) ⟨hx, hb, hml, hown, hts⟩ (c_M_next l dC dI _ ad ck x0 x16 x18 x19 x20 x21 x22 x23 x24 x25 x26 x27 0 x29 x30 x33 x45 x46 x52 x53 x61 x62 x63 x65 x66 f1 f2 f3 q4 q5 q6 q7 f8 q9 q10 f11 m12_0 m12_1 m13_0 m13_1 m14_0 m14_1 m15_0 m15_1 f17 q31 f32 f34 f35 f36 f37 q38 f39 f40 f41 m42_0 m42_1 f43 f44 f47 f48 f49 f50 f51 q54 q55 q56 f57 q58 f59 f60 f64 hx16 hx18 hx19 hx21 hx22 hx26 (Nat.le_of_ble_eq_true rfl) hx29 hx30 hx33 hx46 hx52 hx53 hx61 hx62 hx63 hx65 hm12_0 hm12_1 hm13_0 hm13_1 hm14_0 hm14_1 hm15_0 hm15_1 hm42_0 hm42_1) (cwV 0 hts g_M_readCondition1_0_M_next rfl rfl rfl (by decide +kernel) ⟨Nat.le_of_ble_eq_true rfl, Nat.le_of_ble_eq_true rfl⟩) ⟨pu_bl, va_recv hK hP (ci := 9) (q0 := 0) rfl rfl, pu_in hP hK hD⟩ rfl rfl hl.1 rfl (lv_room (Nat.le_of_ble_eq_true rfl)) dX9_readCondition_1 ⟨Nat.le_of_ble_eq_true rfl, Nat.le_of_ble_eq_true rfl⟩) hS (fun q _ h => hFc q h) hFc (fun u t H1 locs ht hvm hw hB hz1 hk1 hS => ?_)
  obtain ⟨z20_2, z21_3, z22_4, z23_5, ⟨hP1, -, hD1⟩, hz21_3, hz22_4, xr_1_0, xr_1_1⟩ := hB
  rw [ht] at hP1
  have hP := hP1
  have hD := pu_all hFc hD1
  clear hP1 hD1 hFc
  clear hk1 hz1 ht hvm
  generalize H1 = H at hP hS ⊢
  refine lv_aload_n hx hb dX9_readCondition_4 rfl (lv_at hl 0 rfl) ?_
  refine va_get (D := (dC, dI)) (ci := 9) (v := .ref (ad 9)) (C := RX9) (T := TX9) (N := 67) hx hb hts hiX9 hown hK hP 0 rfl rfl 9 (by decide) v_6 (fun _ h9 => h9) rfl dX9_readCondition_5 ?_
  refine lv_iload_n hx hb dX9_readCondition_8 rfl (lv_at hl 1 rfl) ?_
  refine lv_aload_n hx hb dX9_readCondition_9 rfl (lv_at hl 0 rfl) ?_
  have hFc := pu_free hD hS hA
  refine va_calli (va_runV (As := []) (rest := [.int (nI a0), .ref (ad 9)]) ⟨hx, hb, hml, hown, hts⟩ (c_M_toldClock_0 l dC dI _ ad ck x0 x16 x18 x19 z20_2 z21_3 z22_4 z23_5 x24 x25 x26 x27 x29 x30 x33 x45 x46 x52 x53 x61 x62 x63 x65 x66 f1 f2 f3 q4 q5 q6 q7 f8 q9 q10 f11 m12_0 m12_1 m13_0 m13_1 m14_0 m14_1 m15_0 m15_1 f17 q31 f32 f34 f35 f36 f37 q38 f39 f40 f41 m42_0 m42_1 f43 f44 f47 f48 f49 f50 f51 q54 q55 q56 f57 q58 f59 f60 f64 hx16 hx18 hx19 hz21_3 hz22_4 hx26 hx29 hx30 hx33 hx46 hx52 hx53 hx61 hx62 hx63 hx65 hm12_0 hm12_1 hm13_0 hm13_1 hm14_0 hm14_1 hm15_0 hm15_1 hm42_0 hm42_1) (cwV 0 hts g_M_readCondition1_0_M_toldClock_0 rfl rfl rfl (by decide +kernel) ⟨Nat.le_of_ble_eq_true rfl, Nat.le_of_ble_eq_true rfl⟩) ⟨pu_bl, va_recv hK hP (ci := 9) (q0 := 0) rfl rfl, pu_in hP hK hD⟩ rfl rfl hl.1 rfl (lv_room (Nat.le_of_ble_eq_true rfl)) dX9_readCondition_10 ⟨Nat.le_of_ble_eq_true rfl, Nat.le_of_ble_eq_true rfl⟩) hS (fun q _ h => hFc q h) hFc (fun r_6 u t H1 locs ht hvm hw hB hz1 hk1 hS => ?_)
  obtain ⟨z26_7, z27_8, ⟨hP1, -, hD1⟩, hz26_7⟩ := hB
  rw [ht] at hP1
  have hP := hP1
  have hD := pu_all hFc hD1
  clear hP1 hD1 hFc
  clear hk1 hz1 ht hvm
  generalize H1 = H at hP hS ⊢
  obtain ⟨u_9, hu_9, rfl⟩ := hw
  refine va_iast hx hb hK hP hD hS 9 8 rfl rfl (vp_in_nI (n := a0) (Nat.lt_of_le_of_lt ha0 (Nat.le_of_ble_eq_true rfl)) (Nat.le_of_ble_eq_true rfl)) dX9_readCondition_13 (fun H locs hP hD hS => ?_)
  obtain ⟨q_10, eq_10, kq_10⟩ := bN_up 2 q9 (((nI a0) : Int32).toNatClampNeg) (v := u_9) hu_9
  have hP : va_P (dC, dI) vwCl (mo_w ad ck x0 (nI x16) (nI x18) (nI x19) z20_2 (nI z21_3) (nI z22_4) z23_5 x24 x25 (nI z26_7) z27_8 0 (nI x29) (nI x30) (nI x33) x45 (nI x46) (nI x52) (nI x53) (nI x61) (nI x62) (nI x63) (nI x65) x66 f1 f2 f3 (bN 3 q4) (bN 7 q5) (bN 7 q6) (bN 4 q7) f8 (bN 2 q_10) (bH q10) f11 (b2 m12_0 m12_1) (b2 m13_0 m13_1) (b2 m14_0 m14_1) (b2m m15_0 m15_1) f17 (bA 159 q31) f32 f34 f35 f36 f37 (bN 7 q38) f39 f40 f41 (b2 m42_0 m42_1) f43 f44 f47 f48 f49 f50 f51 (bN 13 q54) (bN 120 q55) (bN 120 q56) f57 (bN 120 q58) f59 f60 f64) H := by rw [← eq_10]; exact hP
  have hD : va_D A (mo_w ad ck x0 (nI x16) (nI x18) (nI x19) z20_2 (nI z21_3) (nI z22_4) z23_5 x24 x25 (nI z26_7) z27_8 0 (nI x29) (nI x30) (nI x33) x45 (nI x46) (nI x52) (nI x53) (nI x61) (nI x62) (nI x63) (nI x65) x66 f1 f2 f3 (bN 3 q4) (bN 7 q5) (bN 7 q6) (bN 4 q7) f8 (bN 2 q_10) (bH q10) f11 (b2 m12_0 m12_1) (b2 m13_0 m13_1) (b2 m14_0 m14_1) (b2m m15_0 m15_1) f17 (bA 159 q31) f32 f34 f35 f36 f37 (bN 7 q38) f39 f40 f41 (b2 m42_0 m42_1) f43 f44 f47 f48 f49 f50 f51 (bN 13 q54) (bN 120 q55) (bN 120 q56) f57 (bN 120 q58) f59 f60 f64) := by rw [← eq_10]; exact hD
  refine lv_aload_n hx hb dX9_readCondition_14 rfl (lv_at hl 0 rfl) ?_
  refine va_calli (va_runV (As := []) (rest := []) ⟨hx, hb, hml, hown, hts⟩ (c_M_isGood l dC dI _ ad ck x0 x16 x18 x19 z20_2 z21_3 z22_4 z23_5 x24 x25 z26_7 z27_8 0 x29 x30 x33 x45 x46 x52 x53 x61 x62 x63 x65 x66 f1 f2 f3 q4 q5 q6 q7 f8 q_10 q10 f11 m12_0 m12_1 m13_0 m13_1 m14_0 m14_1 m15_0 m15_1 f17 q31 f32 f34 f35 f36 f37 q38 f39 f40 f41 m42_0 m42_1 f43 f44 f47 f48 f49 f50 f51 q54 q55 q56 f57 q58 f59 f60 f64 hx16 hx18 hx19 hz21_3 hz22_4 hz26_7 (Nat.le_of_ble_eq_true rfl) hx29 hx30 hx33 hx46 hx52 hx53 hx61 hx62 hx63 hx65 hm12_0 hm12_1 hm13_0 hm13_1 hm14_0 hm14_1 hm15_0 hm15_1 hm42_0 hm42_1) (cwV 0 hts g_M_readCondition1_0_M_isGood rfl rfl rfl (by decide +kernel) ⟨Nat.le_of_ble_eq_true rfl, Nat.le_of_ble_eq_true rfl⟩) ⟨pu_bl, va_recv hK hP (ci := 9) (q0 := 0) rfl rfl, pu_in hP hK hD⟩ rfl rfl hl.1 rfl (lv_room (Nat.le_of_ble_eq_true rfl)) dX9_readCondition_15 ⟨Nat.le_of_ble_eq_true rfl, Nat.le_of_ble_eq_true rfl⟩) hS (fun q _ h => pu_fr hS hA q h) (pu_fr hS hA) (fun r_11 u t H1 locs ht hvm hw hB hz1 hk1 hS => ?_)
  have hP := pu_keep hP hk1
  clear hk1 hz1 ht hvm
  generalize H1 = H at hP hS ⊢
  obtain ⟨u_12, hu_12, rfl, iu_12⟩ := hw
  refine pu_join (fun H locs ls st => ∃ (g_13 : Int32) (g_14 : Nat) (g_15 : Nat) (g_16 : Int32), st = [] ∧ g_14 ≤ 900 ∧ g_15 ≤ 4 ∧ mu g_14 g_15 ≤ mu x21 x22 ∧ (x22 = 0 ∨ mu g_14 g_15 < mu x21 x22) ∧ va_P (dC, dI) vwCl (mo_w ad ck x0 (nI x16) (nI x18) (nI x19) g_13 (nI g_14) (nI g_15) g_16 x24 x25 (nI z26_7) z27_8 0 (nI x29) (nI x30) (nI x33) x45 (nI x46) (nI x52) (nI x53) (nI x61) (nI x62) (nI x63) (nI x65) x66 f1 f2 f3 (bN 3 q4) (bN 7 q5) (bN 7 q6) (bN 4 q7) f8 (bN 2 q_10) (bH q10) f11 (b2 m12_0 m12_1) (b2 m13_0 m13_1) (b2 m14_0 m14_1) (b2m m15_0 m15_1) f17 (bA 159 q31) f32 f34 f35 f36 f37 (bN 7 q38) f39 f40 f41 (b2 m42_0 m42_1) f43 f44 f47 f48 f49 f50 f51 (bN 13 q54) (bN 120 q55) (bN 120 q56) f57 (bN 120 q58) f59 f60 f64) H ∧ va_D A (mo_w ad ck x0 (nI x16) (nI x18) (nI x19) g_13 (nI g_14) (nI g_15) g_16 x24 x25 (nI z26_7) z27_8 0 (nI x29) (nI x30) (nI x33) x45 (nI x46) (nI x52) (nI x53) (nI x61) (nI x62) (nI x63) (nI x65) x66 f1 f2 f3 (bN 3 q4) (bN 7 q5) (bN 7 q6) (bN 4 q7) f8 (bN 2 q_10) (bH q10) f11 (b2 m12_0 m12_1) (b2 m13_0 m13_1) (b2 m14_0 m14_1) (b2m m15_0 m15_1) f17 (bA 159 q31) f32 f34 f35 f36 f37 (bN 7 q38) f39 f40 f41 (b2 m42_0 m42_1) f43 f44 f47 f48 f49 f50 f51 (bN 13 q54) (bN 120 q55) (bN 120 q56) f57 (bN 120 q58) f59 f60 f64) ∧ va_S A s.heap H locs ∧ lv_has ls 7 [(0, .ref (ad 0)), (1, .int (nI a0)), (2, .int 1)]) 25 ?_ (fun j_19 => ?_)
  · rintro H locs ls st ⟨g_13, g_14, g_15, g_16, rfl, hg_14, hg_15, he_17, he_18, hP, hD, hS, hl⟩
    refine lv_aload_n hx hb dX9_readCondition_25 rfl (lv_at hl 0 rfl) ?_
    refine lv_bipush (v := 60) hx hb dX9_readCondition_26 (by decide) ?_
    refine va_calli (va_runV (As := [.int 60]) (rest := []) ⟨hx, hb, hml, hown, hts⟩ (c_M_isSign l dC dI _ ad ck x0 x16 x18 x19 g_13 g_14 g_15 g_16 x24 x25 z26_7 z27_8 0 x29 x30 x33 x45 x46 x52 x53 x61 x62 x63 x65 x66 f1 f2 f3 q4 q5 q6 q7 f8 q_10 q10 f11 m12_0 m12_1 m13_0 m13_1 m14_0 m14_1 m15_0 m15_1 f17 q31 f32 f34 f35 f36 f37 q38 f39 f40 f41 m42_0 m42_1 f43 f44 f47 f48 f49 f50 f51 q54 q55 q56 f57 q58 f59 f60 f64 60 hx16 hx18 hx19 hg_14 hg_15 hz26_7 (Nat.le_of_ble_eq_true rfl) hx29 hx30 hx33 hx46 hx52 hx53 hx61 hx62 hx63 hx65 hm12_0 hm12_1 hm13_0 hm13_1 hm14_0 hm14_1 hm15_0 hm15_1 hm42_0 hm42_1) (cwV 1 hts g_M_readCondition1_0_M_isSign rfl rfl rfl (by decide +kernel) ⟨Nat.le_of_ble_eq_true rfl, Nat.le_of_ble_eq_true rfl⟩) ⟨pu_bl, va_recv hK hP (ci := 9) (q0 := 0) rfl rfl, pu_in hP hK hD⟩ rfl rfl hl.1 rfl (lv_room (Nat.le_of_ble_eq_true rfl)) dX9_readCondition_28 ⟨Nat.le_of_ble_eq_true rfl, Nat.le_of_ble_eq_true rfl⟩) hS (fun q _ h => pu_fr hS hA q h) (pu_fr hS hA) (fun r_20 u t H1 locs ht hvm hw hB hz1 hk1 hS => ?_)
    have hP := pu_keep hP hk1
    clear hk1 hz1 ht hvm
    generalize H1 = H at hP hS ⊢
    obtain ⟨u_21, hu_21, rfl, iu_21⟩ := hw
    refine lv_istore_n (lv' := [(3, .int (nI u_21)), (0, .ref (ad 0)), (1, .int (nI a0)), (2, .int 1)]) hx hb dX9_readCondition_31 rfl hl (by decide) rfl (fun ls hl => ?_)
    refine lv_aload_n hx hb dX9_readCondition_32 rfl (lv_at hl 1 rfl) ?_
    refine lv_bipush (v := 62) hx hb dX9_readCondition_33 (by decide) ?_
    refine va_calli (va_runV (As := [.int 62]) (rest := []) ⟨hx, hb, hml, hown, hts⟩ (c_M_isSign l dC dI _ ad ck x0 x16 x18 x19 g_13 g_14 g_15 g_16 x24 x25 z26_7 z27_8 0 x29 x30 x33 x45 x46 x52 x53 x61 x62 x63 x65 x66 f1 f2 f3 q4 q5 q6 q7 f8 q_10 q10 f11 m12_0 m12_1 m13_0 m13_1 m14_0 m14_1 m15_0 m15_1 f17 q31 f32 f34 f35 f36 f37 q38 f39 f40 f41 m42_0 m42_1 f43 f44 f47 f48 f49 f50 f51 q54 q55 q56 f57 q58 f59 f60 f64 62 hx16 hx18 hx19 hg_14 hg_15 hz26_7 (Nat.le_of_ble_eq_true rfl) hx29 hx30 hx33 hx46 hx52 hx53 hx61 hx62 hx63 hx65 hm12_0 hm12_1 hm13_0 hm13_1 hm14_0 hm14_1 hm15_0 hm15_1 hm42_0 hm42_1) (cwV 1 hts g_M_readCondition1_0_M_isSign rfl rfl rfl (by decide +kernel) ⟨Nat.le_of_ble_eq_true rfl, Nat.le_of_ble_eq_true rfl⟩) ⟨pu_bl, va_recv hK hP (ci := 9) (q0 := 0) rfl rfl, pu_in hP hK hD⟩ rfl rfl hl.1 rfl (lv_room (Nat.le_of_ble_eq_true rfl)) dX9_readCondition_35 ⟨Nat.le_of_ble_eq_true rfl, Nat.le_of_ble_eq_true rfl⟩) hS (fun q _ h => pu_fr hS hA q h) (pu_fr hS hA) (fun r_22 u t H1 locs ht hvm hw hB hz1 hk1 hS => ?_)
    have hP := pu_keep hP hk1
    clear hk1 hz1 ht hvm
    generalize H1 = H at hP hS ⊢
    obtain ⟨u_23, hu_23, rfl, iu_23⟩ := hw
    refine pu_join (fun H locs ls st => st = [.int 0] ∧ mu g_14 g_15 ≤ mu x21 x22 ∧ (x22 = 0 ∨ mu g_14 g_15 < mu x21 x22) ∧ va_P (dC, dI) vwCl (mo_w ad ck x0 (nI x16) (nI x18) (nI x19) g_13 (nI g_14) (nI g_15) g_16 x24 x25 (nI z26_7) z27_8 0 (nI x29) (nI x30) (nI x33) x45 (nI x46) (nI x52) (nI x53) (nI x61) (nI x62) (nI x63) (nI x65) x66 f1 f2 f3 (bN 3 q4) (bN 7 q5) (bN 7 q6) (bN 4 q7) f8 (bN 2 q_10) (bH q10) f11 (b2 m12_0 m12_1) (b2 m13_0 m13_1) (b2 m14_0 m14_1) (b2m m15_0 m15_1) f17 (bA 159 q31) f32 f34 f35 f36 f37 (bN 7 q38) f39 f40 f41 (b2 m42_0 m42_1) f43 f44 f47 f48 f49 f50 f51 (bN 13 q54) (bN 120 q55) (bN 120 q56) f57 (bN 120 q58) f59 f60 f64) H ∧ va_D A (mo_w ad ck x0 (nI x16) (nI x18) (nI x19) g_13 (nI g_14) (nI g_15) g_16 x24 x25 (nI z26_7) z27_8 0 (nI x29) (nI x30) (nI x33) x45 (nI x46) (nI x52) (nI x53) (nI x61) (nI x62) (nI x63) (nI x65) x66 f1 f2 f3 (bN 3 q4) (bN 7 q5) (bN 7 q6) (bN 4 q7) f8 (bN 2 q_10) (bH q10) f11 (b2 m12_0 m12_1) (b2 m13_0 m13_1) (b2 m14_0 m14_1) (b2m m15_0 m15_1) f17 (bA 159 q31) f32 f34 f35 f36 f37 (bN 7 q38) f39 f40 f41 (b2 m42_0 m42_1) f43 f44 f47 f48 f49 f50 f51 (bN 13 q54) (bN 120 q55) (bN 120 q56) f57 (bN 120 q58) f59 f60 f64) ∧ va_S A s.heap H locs ∧ lv_has ls 7 [(0, .ref (ad 0)), (1, .int (nI a0)), (2, .int 1), (3, .int (nI u_21))]) 50 ?_ (fun j_26 => ?_)
    · rintro H locs ls st ⟨rfl, he_24, he_25, hP, hD, hS, hl⟩
      refine lv_istore (lv' := [(4, .int 0), (0, .ref (ad 0)), (1, .int (nI a0)), (2, .int 1), (3, .int (nI u_21))]) hx hb dX9_readCondition_50 hl (by decide) rfl (fun ls hl => ?_)
      refine lv_aload_n hx hb dX9_readCondition_52 rfl (lv_at hl 1 rfl) ?_
      refine lv_bipush (v := 61) hx hb dX9_readCondition_53 (by decide) ?_
      refine va_calli (va_runV (As := [.int 61]) (rest := []) ⟨hx, hb, hml, hown, hts⟩ (c_M_isSign l dC dI _ ad ck x0 x16 x18 x19 g_13 g_14 g_15 g_16 x24 x25 z26_7 z27_8 0 x29 x30 x33 x45 x46 x52 x53 x61 x62 x63 x65 x66 f1 f2 f3 q4 q5 q6 q7 f8 q_10 q10 f11 m12_0 m12_1 m13_0 m13_1 m14_0 m14_1 m15_0 m15_1 f17 q31 f32 f34 f35 f36 f37 q38 f39 f40 f41 m42_0 m42_1 f43 f44 f47 f48 f49 f50 f51 q54 q55 q56 f57 q58 f59 f60 f64 61 hx16 hx18 hx19 hg_14 hg_15 hz26_7 (Nat.le_of_ble_eq_true rfl) hx29 hx30 hx33 hx46 hx52 hx53 hx61 hx62 hx63 hx65 hm12_0 hm12_1 hm13_0 hm13_1 hm14_0 hm14_1 hm15_0 hm15_1 hm42_0 hm42_1) (cwV 1 hts g_M_readCondition1_0_M_isSign rfl rfl rfl (by decide +kernel) ⟨Nat.le_of_ble_eq_true rfl, Nat.le_of_ble_eq_true rfl⟩) ⟨pu_bl, va_recv hK hP (ci := 9) (q0 := 0) rfl rfl, pu_in hP hK hD⟩ rfl rfl hl.1 rfl (lv_room (Nat.le_of_ble_eq_true rfl)) dX9_readCondition_55 ⟨Nat.le_of_ble_eq_true rfl, Nat.le_of_ble_eq_true rfl⟩) hS (fun q _ h => pu_fr hS hA q h) (pu_fr hS hA) (fun r_27 u t H1 locs ht hvm hw hB hz1 hk1 hS => ?_)
      have hP := pu_keep hP hk1
      clear hk1 hz1 ht hvm
      generalize H1 = H at hP hS ⊢
      obtain ⟨u_28, hu_28, rfl, iu_28⟩ := hw
      refine pu_join (fun H locs ls st => st = [.int 0] ∧ mu g_14 g_15 ≤ mu x21 x22 ∧ (x22 = 0 ∨ mu g_14 g_15 < mu x21 x22) ∧ va_P (dC, dI) vwCl (mo_w ad ck x0 (nI x16) (nI x18) (nI x19) g_13 (nI g_14) (nI g_15) g_16 x24 x25 (nI z26_7) z27_8 0 (nI x29) (nI x30) (nI x33) x45 (nI x46) (nI x52) (nI x53) (nI x61) (nI x62) (nI x63) (nI x65) x66 f1 f2 f3 (bN 3 q4) (bN 7 q5) (bN 7 q6) (bN 4 q7) f8 (bN 2 q_10) (bH q10) f11 (b2 m12_0 m12_1) (b2 m13_0 m13_1) (b2 m14_0 m14_1) (b2m m15_0 m15_1) f17 (bA 159 q31) f32 f34 f35 f36 f37 (bN 7 q38) f39 f40 f41 (b2 m42_0 m42_1) f43 f44 f47 f48 f49 f50 f51 (bN 13 q54) (bN 120 q55) (bN 120 q56) f57 (bN 120 q58) f59 f60 f64) H ∧ va_D A (mo_w ad ck x0 (nI x16) (nI x18) (nI x19) g_13 (nI g_14) (nI g_15) g_16 x24 x25 (nI z26_7) z27_8 0 (nI x29) (nI x30) (nI x33) x45 (nI x46) (nI x52) (nI x53) (nI x61) (nI x62) (nI x63) (nI x65) x66 f1 f2 f3 (bN 3 q4) (bN 7 q5) (bN 7 q6) (bN 4 q7) f8 (bN 2 q_10) (bH q10) f11 (b2 m12_0 m12_1) (b2 m13_0 m13_1) (b2 m14_0 m14_1) (b2m m15_0 m15_1) f17 (bA 159 q31) f32 f34 f35 f36 f37 (bN 7 q38) f39 f40 f41 (b2 m42_0 m42_1) f43 f44 f47 f48 f49 f50 f51 (bN 13 q54) (bN 120 q55) (bN 120 q56) f57 (bN 120 q58) f59 f60 f64) ∧ va_S A s.heap H locs ∧ lv_has ls 7 [(0, .ref (ad 0)), (1, .int (nI a0)), (2, .int 1), (3, .int (nI u_21)), (4, .int 0)]) 70 ?_ (fun j_31 => ?_)
      · rintro H locs ls st ⟨rfl, he_29, he_30, hP, hD, hS, hl⟩
        refine lv_istore (lv' := [(5, .int 0), (0, .ref (ad 0)), (1, .int (nI a0)), (2, .int 1), (3, .int (nI u_21)), (4, .int 0)]) hx hb dX9_readCondition_70 hl (by decide) rfl (fun ls hl => ?_)
        refine lv_aload_n hx hb dX9_readCondition_72 rfl (lv_at hl 1 rfl) ?_
        refine va_calli (va_runV (As := []) (rest := []) ⟨hx, hb, hml, hown, hts⟩ (c_M_isGood l dC dI _ ad ck x0 x16 x18 x19 g_13 g_14 g_15 g_16 x24 x25 z26_7 z27_8 0 x29 x30 x33 x45 x46 x52 x53 x61 x62 x63 x65 x66 f1 f2 f3 q4 q5 q6 q7 f8 q_10 q10 f11 m12_0 m12_1 m13_0 m13_1 m14_0 m14_1 m15_0 m15_1 f17 q31 f32 f34 f35 f36 f37 q38 f39 f40 f41 m42_0 m42_1 f43 f44 f47 f48 f49 f50 f51 q54 q55 q56 f57 q58 f59 f60 f64 hx16 hx18 hx19 hg_14 hg_15 hz26_7 (Nat.le_of_ble_eq_true rfl) hx29 hx30 hx33 hx46 hx52 hx53 hx61 hx62 hx63 hx65 hm12_0 hm12_1 hm13_0 hm13_1 hm14_0 hm14_1 hm15_0 hm15_1 hm42_0 hm42_1) (cwV 0 hts g_M_readCondition1_0_M_isGood rfl rfl rfl (by decide +kernel) ⟨Nat.le_of_ble_eq_true rfl, Nat.le_of_ble_eq_true rfl⟩) ⟨pu_bl, va_recv hK hP (ci := 9) (q0 := 0) rfl rfl, pu_in hP hK hD⟩ rfl rfl hl.1 rfl (lv_room (Nat.le_of_ble_eq_true rfl)) dX9_readCondition_73 ⟨Nat.le_of_ble_eq_true rfl, Nat.le_of_ble_eq_true rfl⟩) hS (fun q _ h => pu_fr hS hA q h) (pu_fr hS hA) (fun r_32 u t H1 locs ht hvm hw hB hz1 hk1 hS => ?_)
        have hP := pu_keep hP hk1
        clear hk1 hz1 ht hvm
        generalize H1 = H at hP hS ⊢
        obtain ⟨u_33, hu_33, rfl, iu_33⟩ := hw
        refine pu_join (fun H locs ls st => ∃ (g_34 : Nat) (g_35 : Int32), st = [] ∧ g_34 ≤ 6 ∧ mu g_14 g_15 ≤ mu x21 x22 ∧ (x22 = 0 ∨ mu g_14 g_15 < mu x21 x22) ∧ (g_34 ≠ 0 ∨ u_21 = 1 ∨ 0 = 1 ∨ 0 = 1) ∧ va_P (dC, dI) vwCl (mo_w ad ck x0 (nI x16) (nI x18) (nI x19) g_13 (nI g_14) (nI g_15) g_16 x24 x25 (nI g_34) g_35 0 (nI x29) (nI x30) (nI x33) x45 (nI x46) (nI x52) (nI x53) (nI x61) (nI x62) (nI x63) (nI x65) x66 f1 f2 f3 (bN 3 q4) (bN 7 q5) (bN 7 q6) (bN 4 q7) f8 (bN 2 q_10) (bH q10) f11 (b2 m12_0 m12_1) (b2 m13_0 m13_1) (b2 m14_0 m14_1) (b2m m15_0 m15_1) f17 (bA 159 q31) f32 f34 f35 f36 f37 (bN 7 q38) f39 f40 f41 (b2 m42_0 m42_1) f43 f44 f47 f48 f49 f50 f51 (bN 13 q54) (bN 120 q55) (bN 120 q56) f57 (bN 120 q58) f59 f60 f64) H ∧ va_D A (mo_w ad ck x0 (nI x16) (nI x18) (nI x19) g_13 (nI g_14) (nI g_15) g_16 x24 x25 (nI g_34) g_35 0 (nI x29) (nI x30) (nI x33) x45 (nI x46) (nI x52) (nI x53) (nI x61) (nI x62) (nI x63) (nI x65) x66 f1 f2 f3 (bN 3 q4) (bN 7 q5) (bN 7 q6) (bN 4 q7) f8 (bN 2 q_10) (bH q10) f11 (b2 m12_0 m12_1) (b2 m13_0 m13_1) (b2 m14_0 m14_1) (b2m m15_0 m15_1) f17 (bA 159 q31) f32 f34 f35 f36 f37 (bN 7 q38) f39 f40 f41 (b2 m42_0 m42_1) f43 f44 f47 f48 f49 f50 f51 (bN 13 q54) (bN 120 q55) (bN 120 q56) f57 (bN 120 q58) f59 f60 f64) ∧ va_S A s.heap H locs ∧ lv_has ls 7 [(0, .ref (ad 0)), (1, .int (nI a0)), (2, .int 1), (3, .int (nI u_21)), (4, .int 0), (5, .int 0)]) 98 ?_ (fun j_39 => ?_)
        · rintro H locs ls st ⟨g_34, g_35, rfl, hg_34, he_36, he_37, he_38, hP, hD, hS, hl⟩
          refine lv_aload_n hx hb dX9_readCondition_98 rfl (lv_at hl 0 rfl) ?_
          refine va_calli (va_runV (As := []) (rest := []) ⟨hx, hb, hml, hown, hts⟩ (c_M_isGood l dC dI _ ad ck x0 x16 x18 x19 g_13 g_14 g_15 g_16 x24 x25 g_34 g_35 0 x29 x30 x33 x45 x46 x52 x53 x61 x62 x63 x65 x66 f1 f2 f3 q4 q5 q6 q7 f8 q_10 q10 f11 m12_0 m12_1 m13_0 m13_1 m14_0 m14_1 m15_0 m15_1 f17 q31 f32 f34 f35 f36 f37 q38 f39 f40 f41 m42_0 m42_1 f43 f44 f47 f48 f49 f50 f51 q54 q55 q56 f57 q58 f59 f60 f64 hx16 hx18 hx19 hg_14 hg_15 hg_34 (Nat.le_of_ble_eq_true rfl) hx29 hx30 hx33 hx46 hx52 hx53 hx61 hx62 hx63 hx65 hm12_0 hm12_1 hm13_0 hm13_1 hm14_0 hm14_1 hm15_0 hm15_1 hm42_0 hm42_1) (cwV 0 hts g_M_readCondition1_0_M_isGood rfl rfl rfl (by decide +kernel) ⟨Nat.le_of_ble_eq_true rfl, Nat.le_of_ble_eq_true rfl⟩) ⟨pu_bl, va_recv hK hP (ci := 9) (q0 := 0) rfl rfl, pu_in hP hK hD⟩ rfl rfl hl.1 rfl (lv_room (Nat.le_of_ble_eq_true rfl)) dX9_readCondition_99 ⟨Nat.le_of_ble_eq_true rfl, Nat.le_of_ble_eq_true rfl⟩) hS (fun q _ h => pu_fr hS hA q h) (pu_fr hS hA) (fun r_40 u t H1 locs ht hvm hw hB hz1 hk1 hS => ?_)
          have hP := pu_keep hP hk1
          clear hk1 hz1 ht hvm
          generalize H1 = H at hP hS ⊢
          obtain ⟨u_41, hu_41, rfl, iu_41⟩ := hw
          refine lv_if_ne (tgt := 106) hx hb dX9_readCondition_102 (by decide) (fun c_42 => ?_) (fun c_42 => ?_)
          · have c_42 : ¬ u_41 = 0 := fun z => c_42 ((nI_eq (a := u_41) (b := 0) (Nat.lt_of_le_of_lt hu_41 (Nat.le_of_ble_eq_true rfl)) (Nat.le_of_ble_eq_true rfl)).mpr z)
            have hL3 : u_21 = 1 := by omega
            refine lv_aload_n hx hb dX9_readCondition_106 rfl (lv_at hl 0 rfl) ?_
            have hFc := pu_free hD hS hA
            refine va_callv (va_runV (As := []) (rest := []) ⟨hx, hb, hml, hown, hts⟩ (c_M_next l dC dI _ ad ck x0 x16 x18 x19 g_13 g_14 g_15 g_16 x24 x25 g_34 g_35 0 x29 x30 x33 x45 x46 x52 x53 x61 x62 x63 x65 x66 f1 f2 f3 q4 q5 q6 q7 f8 q_10 q10 f11 m12_0 m12_1 m13_0 m13_1 m14_0 m14_1 m15_0 m15_1 f17 q31 f32 f34 f35 f36 f37 q38 f39 f40 f41 m42_0 m42_1 f43 f44 f47 f48 f49 f50 f51 q54 q55 q56 f57 q58 f59 f60 f64 hx16 hx18 hx19 hg_14 hg_15 hg_34 (Nat.le_of_ble_eq_true rfl) hx29 hx30 hx33 hx46 hx52 hx53 hx61 hx62 hx63 hx65 hm12_0 hm12_1 hm13_0 hm13_1 hm14_0 hm14_1 hm15_0 hm15_1 hm42_0 hm42_1) (cwV 0 hts g_M_readCondition1_0_M_next rfl rfl rfl (by decide +kernel) ⟨Nat.le_of_ble_eq_true rfl, Nat.le_of_ble_eq_true rfl⟩) ⟨pu_bl, va_recv hK hP (ci := 9) (q0 := 0) rfl rfl, pu_in hP hK hD⟩ rfl rfl hl.1 rfl (lv_room (Nat.le_of_ble_eq_true rfl)) dX9_readCondition_107 ⟨Nat.le_of_ble_eq_true rfl, Nat.le_of_ble_eq_true rfl⟩) hS (fun q _ h => hFc q h) hFc (fun u t H1 locs ht hvm hw hB hz1 hk1 hS => ?_)
            obtain ⟨z20_44, z21_45, z22_46, z23_47, ⟨hP1, -, hD1⟩, hz21_45, hz22_46, xr_43_0, xr_43_1⟩ := hB
            rw [ht] at hP1
            have hP := hP1
            have hD := pu_all hFc hD1
            clear hP1 hD1 hFc
            clear hk1 hz1 ht hvm
            generalize H1 = H at hP hS ⊢
            refine lv_iload hx hb dX9_readCondition_110 (lv_at hl 5 rfl) ?_
            refine pu_join (fun H locs ls st => ∃ (g_48 : Nat), st = [.int (nI g_48)] ∧ g_48 ≤ 1 ∧ mu z21_45 z22_46 ≤ mu x21 x22 ∧ (x22 = 0 ∨ mu z21_45 z22_46 < mu x21 x22) ∧ va_P (dC, dI) vwCl (mo_w ad ck x0 (nI x16) (nI x18) (nI x19) z20_44 (nI z21_45) (nI z22_46) z23_47 x24 x25 (nI g_34) g_35 0 (nI x29) (nI x30) (nI x33) x45 (nI x46) (nI x52) (nI x53) (nI x61) (nI x62) (nI x63) (nI x65) x66 f1 f2 f3 (bN 3 q4) (bN 7 q5) (bN 7 q6) (bN 4 q7) f8 (bN 2 q_10) (bH q10) f11 (b2 m12_0 m12_1) (b2 m13_0 m13_1) (b2 m14_0 m14_1) (b2m m15_0 m15_1) f17 (bA 159 q31) f32 f34 f35 f36 f37 (bN 7 q38) f39 f40 f41 (b2 m42_0 m42_1) f43 f44 f47 f48 f49 f50 f51 (bN 13 q54) (bN 120 q55) (bN 120 q56) f57 (bN 120 q58) f59 f60 f64) H ∧ va_D A (mo_w ad ck x0 (nI x16) (nI x18) (nI x19) z20_44 (nI z21_45) (nI z22_46) z23_47 x24 x25 (nI g_34) g_35 0 (nI x29) (nI x30) (nI x33) x45 (nI x46) (nI x52) (nI x53) (nI x61) (nI x62) (nI x63) (nI x65) x66 f1 f2 f3 (bN 3 q4) (bN 7 q5) (bN 7 q6) (bN 4 q7) f8 (bN 2 q_10) (bH q10) f11 (b2 m12_0 m12_1) (b2 m13_0 m13_1) (b2 m14_0 m14_1) (b2m m15_0 m15_1) f17 (bA 159 q31) f32 f34 f35 f36 f37 (bN 7 q38) f39 f40 f41 (b2 m42_0 m42_1) f43 f44 f47 f48 f49 f50 f51 (bN 13 q54) (bN 120 q55) (bN 120 q56) f57 (bN 120 q58) f59 f60 f64) ∧ va_S A s.heap H locs ∧ lv_has ls 7 [(0, .ref (ad 0)), (1, .int (nI a0)), (2, .int 1), (3, .int (nI u_21)), (4, .int 0), (5, .int 0)]) 129 ?_ (fun j_51 => ?_)
            · rintro H locs ls st ⟨g_48, rfl, hg_48, he_49, he_50, hP, hD, hS, hl⟩
              refine lv_istore (lv' := [(6, .int (nI g_48)), (0, .ref (ad 0)), (1, .int (nI a0)), (2, .int 1), (3, .int (nI u_21)), (4, .int 0), (5, .int 0)]) hx hb dX9_readCondition_129 hl (by decide) rfl (fun ls hl => ?_)
              refine lv_iload hx hb dX9_readCondition_131 (lv_at hl 0 rfl) ?_
              refine pu_join (fun H locs ls st => ∃ (g_52 : Int32) (g_53 : Nat) (g_54 : Nat) (g_55 : Int32), st = [] ∧ g_53 ≤ 900 ∧ g_54 ≤ 4 ∧ mu g_53 g_54 ≤ mu x21 x22 ∧ (x22 = 0 ∨ mu g_53 g_54 < mu x21 x22) ∧ va_P (dC, dI) vwCl (mo_w ad ck x0 (nI x16) (nI x18) (nI x19) g_52 (nI g_53) (nI g_54) g_55 x24 x25 (nI g_34) g_35 0 (nI x29) (nI x30) (nI x33) x45 (nI x46) (nI x52) (nI x53) (nI x61) (nI x62) (nI x63) (nI x65) x66 f1 f2 f3 (bN 3 q4) (bN 7 q5) (bN 7 q6) (bN 4 q7) f8 (bN 2 q_10) (bH q10) f11 (b2 m12_0 m12_1) (b2 m13_0 m13_1) (b2 m14_0 m14_1) (b2m m15_0 m15_1) f17 (bA 159 q31) f32 f34 f35 f36 f37 (bN 7 q38) f39 f40 f41 (b2 m42_0 m42_1) f43 f44 f47 f48 f49 f50 f51 (bN 13 q54) (bN 120 q55) (bN 120 q56) f57 (bN 120 q58) f59 f60 f64) H ∧ va_D A (mo_w ad ck x0 (nI x16) (nI x18) (nI x19) g_52 (nI g_53) (nI g_54) g_55 x24 x25 (nI g_34) g_35 0 (nI x29) (nI x30) (nI x33) x45 (nI x46) (nI x52) (nI x53) (nI x61) (nI x62) (nI x63) (nI x65) x66 f1 f2 f3 (bN 3 q4) (bN 7 q5) (bN 7 q6) (bN 4 q7) f8 (bN 2 q_10) (bH q10) f11 (b2 m12_0 m12_1) (b2 m13_0 m13_1) (b2 m14_0 m14_1) (b2m m15_0 m15_1) f17 (bA 159 q31) f32 f34 f35 f36 f37 (bN 7 q38) f39 f40 f41 (b2 m42_0 m42_1) f43 f44 f47 f48 f49 f50 f51 (bN 13 q54) (bN 120 q55) (bN 120 q56) f57 (bN 120 q58) f59 f60 f64) ∧ va_S A s.heap H locs ∧ lv_has ls 7 [(0, .ref (ad 0)), (1, .int (nI a0)), (2, .int 1), (3, .int (nI u_21)), (4, .int 0), (5, .int 0), (6, .int (nI g_48))]) 140 ?_ (fun j_58 => ?_)
              · rintro H locs ls st ⟨g_52, g_53, g_54, g_55, rfl, hg_53, hg_54, he_56, he_57, hP, hD, hS, hl⟩
                refine lv_aload_n hx hb dX9_readCondition_140 rfl (lv_at hl 0 rfl) ?_
                refine va_get (D := (dC, dI)) (ci := 9) (v := .ref (ad 10)) (C := RX9) (T := TX9) (N := 67) hx hb hts hiX9 hown hK hP 0 rfl rfl 10 (by decide) v_23 (fun _ h9 => h9) rfl dX9_readCondition_141 ?_
                refine lv_iload_n hx hb dX9_readCondition_144 rfl (lv_at hl 1 rfl) ?_
                refine lv_iload hx hb dX9_readCondition_145 (lv_at hl 5 rfl) ?_
                refine pu_join (fun H locs ls st => ∃ (g_59 : Nat), st = [.int (nI g_59), .int (nI a0), .ref (ad 10)] ∧ g_59 ≤ 1 ∧ mu g_53 g_54 ≤ mu x21 x22 ∧ (x22 = 0 ∨ mu g_53 g_54 < mu x21 x22) ∧ va_P (dC, dI) vwCl (mo_w ad ck x0 (nI x16) (nI x18) (nI x19) g_52 (nI g_53) (nI g_54) g_55 x24 x25 (nI g_34) g_35 0 (nI x29) (nI x30) (nI x33) x45 (nI x46) (nI x52) (nI x53) (nI x61) (nI x62) (nI x63) (nI x65) x66 f1 f2 f3 (bN 3 q4) (bN 7 q5) (bN 7 q6) (bN 4 q7) f8 (bN 2 q_10) (bH q10) f11 (b2 m12_0 m12_1) (b2 m13_0 m13_1) (b2 m14_0 m14_1) (b2m m15_0 m15_1) f17 (bA 159 q31) f32 f34 f35 f36 f37 (bN 7 q38) f39 f40 f41 (b2 m42_0 m42_1) f43 f44 f47 f48 f49 f50 f51 (bN 13 q54) (bN 120 q55) (bN 120 q56) f57 (bN 120 q58) f59 f60 f64) H ∧ va_D A (mo_w ad ck x0 (nI x16) (nI x18) (nI x19) g_52 (nI g_53) (nI g_54) g_55 x24 x25 (nI g_34) g_35 0 (nI x29) (nI x30) (nI x33) x45 (nI x46) (nI x52) (nI x53) (nI x61) (nI x62) (nI x63) (nI x65) x66 f1 f2 f3 (bN 3 q4) (bN 7 q5) (bN 7 q6) (bN 4 q7) f8 (bN 2 q_10) (bH q10) f11 (b2 m12_0 m12_1) (b2 m13_0 m13_1) (b2 m14_0 m14_1) (b2m m15_0 m15_1) f17 (bA 159 q31) f32 f34 f35 f36 f37 (bN 7 q38) f39 f40 f41 (b2 m42_0 m42_1) f43 f44 f47 f48 f49 f50 f51 (bN 13 q54) (bN 120 q55) (bN 120 q56) f57 (bN 120 q58) f59 f60 f64) ∧ va_S A s.heap H locs ∧ lv_has ls 7 [(0, .ref (ad 0)), (1, .int (nI a0)), (2, .int 1), (3, .int (nI u_21)), (4, .int 0), (5, .int 0), (6, .int (nI g_48))]) 181 ?_ (fun j_62 => ?_)
                · rintro H locs ls st ⟨g_59, rfl, hg_59, he_60, he_61, hP, hD, hS, hl⟩
                  refine va_iast hx hb hK hP hD hS 10 9 rfl rfl (vp_in_nI (n := a0) (Nat.lt_of_le_of_lt ha0 (Nat.le_of_ble_eq_true rfl)) (Nat.le_of_ble_eq_true rfl)) dX9_readCondition_181 (fun H locs hP hD hS => ?_)
                  obtain ⟨q_63, eq_63, kq_63⟩ := bH_up q10 (i := a0) (v := g_59) (by omega) (by omega)
                  have hP : va_P (dC, dI) vwCl (mo_w ad ck x0 (nI x16) (nI x18) (nI x19) g_52 (nI g_53) (nI g_54) g_55 x24 x25 (nI g_34) g_35 0 (nI x29) (nI x30) (nI x33) x45 (nI x46) (nI x52) (nI x53) (nI x61) (nI x62) (nI x63) (nI x65) x66 f1 f2 f3 (bN 3 q4) (bN 7 q5) (bN 7 q6) (bN 4 q7) f8 (bN 2 q_10) (bH q_63) f11 (b2 m12_0 m12_1) (b2 m13_0 m13_1) (b2 m14_0 m14_1) (b2m m15_0 m15_1) f17 (bA 159 q31) f32 f34 f35 f36 f37 (bN 7 q38) f39 f40 f41 (b2 m42_0 m42_1) f43 f44 f47 f48 f49 f50 f51 (bN 13 q54) (bN 120 q55) (bN 120 q56) f57 (bN 120 q58) f59 f60 f64) H := by rw [← eq_63]; exact hP
                  have hD : va_D A (mo_w ad ck x0 (nI x16) (nI x18) (nI x19) g_52 (nI g_53) (nI g_54) g_55 x24 x25 (nI g_34) g_35 0 (nI x29) (nI x30) (nI x33) x45 (nI x46) (nI x52) (nI x53) (nI x61) (nI x62) (nI x63) (nI x65) x66 f1 f2 f3 (bN 3 q4) (bN 7 q5) (bN 7 q6) (bN 4 q7) f8 (bN 2 q_10) (bH q_63) f11 (b2 m12_0 m12_1) (b2 m13_0 m13_1) (b2 m14_0 m14_1) (b2m m15_0 m15_1) f17 (bA 159 q31) f32 f34 f35 f36 f37 (bN 7 q38) f39 f40 f41 (b2 m42_0 m42_1) f43 f44 f47 f48 f49 f50 f51 (bN 13 q54) (bN 120 q55) (bN 120 q56) f57 (bN 120 q58) f59 f60 f64) := by rw [← eq_63]; exact hD
                  refine lv_aload_n hx hb dX9_readCondition_182 rfl (lv_at hl 0 rfl) ?_
                  refine va_get (D := (dC, dI)) (ci := 9) (v := .int (nI g_54)) (C := RX9) (T := TX9) (N := 67) hx hb hts hiX9 hown hK hP 0 rfl rfl 22 (by decide) v_24 (fun _ h9 => h9) rfl dX9_readCondition_183 ?_
                  refine lv_iconst (v := 2) hx hb dX9_readCondition_186 (by decide) ?_
                  refine pu_join (fun H locs ls st => ∃ (g_64 : Nat) (g_65 : Int32), st = [] ∧ g_64 ≤ 6 ∧ mu g_53 g_54 ≤ mu x21 x22 ∧ (x22 = 0 ∨ mu g_53 g_54 < mu x21 x22) ∧ va_P (dC, dI) vwCl (mo_w ad ck x0 (nI x16) (nI x18) (nI x19) g_52 (nI g_53) (nI g_54) g_55 x24 x25 (nI g_64) g_65 0 (nI x29) (nI x30) (nI x33) x45 (nI x46) (nI x52) (nI x53) (nI x61) (nI x62) (nI x63) (nI x65) x66 f1 f2 f3 (bN 3 q4) (bN 7 q5) (bN 7 q6) (bN 4 q7) f8 (bN 2 q_10) (bH q_63) f11 (b2 m12_0 m12_1) (b2 m13_0 m13_1) (b2 m14_0 m14_1) (b2m m15_0 m15_1) f17 (bA 159 q31) f32 f34 f35 f36 f37 (bN 7 q38) f39 f40 f41 (b2 m42_0 m42_1) f43 f44 f47 f48 f49 f50 f51 (bN 13 q54) (bN 120 q55) (bN 120 q56) f57 (bN 120 q58) f59 f60 f64) H ∧ va_D A (mo_w ad ck x0 (nI x16) (nI x18) (nI x19) g_52 (nI g_53) (nI g_54) g_55 x24 x25 (nI g_64) g_65 0 (nI x29) (nI x30) (nI x33) x45 (nI x46) (nI x52) (nI x53) (nI x61) (nI x62) (nI x63) (nI x65) x66 f1 f2 f3 (bN 3 q4) (bN 7 q5) (bN 7 q6) (bN 4 q7) f8 (bN 2 q_10) (bH q_63) f11 (b2 m12_0 m12_1) (b2 m13_0 m13_1) (b2 m14_0 m14_1) (b2m m15_0 m15_1) f17 (bA 159 q31) f32 f34 f35 f36 f37 (bN 7 q38) f39 f40 f41 (b2 m42_0 m42_1) f43 f44 f47 f48 f49 f50 f51 (bN 13 q54) (bN 120 q55) (bN 120 q56) f57 (bN 120 q58) f59 f60 f64) ∧ va_S A s.heap H locs ∧ lv_has ls 7 [(0, .ref (ad 0)), (1, .int (nI a0)), (2, .int 1), (3, .int (nI u_21)), (4, .int 0), (5, .int 0), (6, .int (nI g_48))]) 212 ?_ (fun j_68 => ?_)
                  · rintro H locs ls st ⟨g_64, g_65, rfl, hg_64, he_66, he_67, hP, hD, hS, hl⟩
                    refine lv_aload_n hx hb dX9_readCondition_212 rfl (lv_at hl 0 rfl) ?_
                    refine va_get (D := (dC, dI)) (ci := 9) (v := .ref (ad 11)) (C := RX9) (T := TX9) (N := 67) hx hb hts hiX9 hown hK hP 0 rfl rfl 11 (by decide) v_26 (fun _ h9 => h9) rfl dX9_readCondition_213 ?_
                    refine lv_iload_n hx hb dX9_readCondition_216 rfl (lv_at hl 1 rfl) ?_
                    refine lv_aload_n hx hb dX9_readCondition_217 rfl (lv_at hl 0 rfl) ?_
                    refine va_get (D := (dC, dI)) (ci := 9) (v := .int g_55) (C := RX9) (T := TX9) (N := 67) hx hb hts hiX9 hown hK hP 0 rfl rfl 23 (by decide) v_25 (fun _ h9 => h9) rfl dX9_readCondition_218 ?_
                    refine va_iast hx hb hK hP hD hS 11 10 rfl rfl (vp_in_nI (n := a0) (Nat.lt_of_le_of_lt ha0 (Nat.le_of_ble_eq_true rfl)) (Nat.le_of_ble_eq_true rfl)) dX9_readCondition_221 (fun H locs hP hD hS => ?_)
                    have hP : va_P (dC, dI) vwCl (mo_w ad ck x0 (nI x16) (nI x18) (nI x19) g_52 (nI g_53) (nI g_54) g_55 x24 x25 (nI g_64) g_65 0 (nI x29) (nI x30) (nI x33) x45 (nI x46) (nI x52) (nI x53) (nI x61) (nI x62) (nI x63) (nI x65) x66 f1 f2 f3 (bN 3 q4) (bN 7 q5) (bN 7 q6) (bN 4 q7) f8 (bN 2 q_10) (bH q_63) (upd f11 ((nI a0) : Int32).toNatClampNeg g_55) (b2 m12_0 m12_1) (b2 m13_0 m13_1) (b2 m14_0 m14_1) (b2m m15_0 m15_1) f17 (bA 159 q31) f32 f34 f35 f36 f37 (bN 7 q38) f39 f40 f41 (b2 m42_0 m42_1) f43 f44 f47 f48 f49 f50 f51 (bN 13 q54) (bN 120 q55) (bN 120 q56) f57 (bN 120 q58) f59 f60 f64) H := hP
                    have hD : va_D A (mo_w ad ck x0 (nI x16) (nI x18) (nI x19) g_52 (nI g_53) (nI g_54) g_55 x24 x25 (nI g_64) g_65 0 (nI x29) (nI x30) (nI x33) x45 (nI x46) (nI x52) (nI x53) (nI x61) (nI x62) (nI x63) (nI x65) x66 f1 f2 f3 (bN 3 q4) (bN 7 q5) (bN 7 q6) (bN 4 q7) f8 (bN 2 q_10) (bH q_63) (upd f11 ((nI a0) : Int32).toNatClampNeg g_55) (b2 m12_0 m12_1) (b2 m13_0 m13_1) (b2 m14_0 m14_1) (b2m m15_0 m15_1) f17 (bA 159 q31) f32 f34 f35 f36 f37 (bN 7 q38) f39 f40 f41 (b2 m42_0 m42_1) f43 f44 f47 f48 f49 f50 f51 (bN 13 q54) (bN 120 q55) (bN 120 q56) f57 (bN 120 q58) f59 f60 f64) := hD
                    refine lv_aload_n hx hb dX9_readCondition_222 rfl (lv_at hl 0 rfl) ?_
                    refine va_calli (va_runV (As := []) (rest := []) ⟨hx, hb, hml, hown, hts⟩ (c_M_isGood l dC dI _ ad ck x0 x16 x18 x19 g_52 g_53 g_54 g_55 x24 x25 g_64 g_65 0 x29 x30 x33 x45 x46 x52 x53 x61 x62 x63 x65 x66 f1 f2 f3 q4 q5 q6 q7 f8 q_10 q_63 (upd f11 ((nI a0) : Int32).toNatClampNeg g_55) m12_0 m12_1 m13_0 m13_1 m14_0 m14_1 m15_0 m15_1 f17 q31 f32 f34 f35 f36 f37 q38 f39 f40 f41 m42_0 m42_1 f43 f44 f47 f48 f49 f50 f51 q54 q55 q56 f57 q58 f59 f60 f64 hx16 hx18 hx19 hg_53 hg_54 hg_64 (Nat.le_of_ble_eq_true rfl) hx29 hx30 hx33 hx46 hx52 hx53 hx61 hx62 hx63 hx65 hm12_0 hm12_1 hm13_0 hm13_1 hm14_0 hm14_1 hm15_0 hm15_1 hm42_0 hm42_1) (cwV 0 hts g_M_readCondition1_0_M_isGood rfl rfl rfl (by decide +kernel) ⟨Nat.le_of_ble_eq_true rfl, Nat.le_of_ble_eq_true rfl⟩) ⟨pu_bl, va_recv hK hP (ci := 9) (q0 := 0) rfl rfl, pu_in hP hK hD⟩ rfl rfl hl.1 rfl (lv_room (Nat.le_of_ble_eq_true rfl)) dX9_readCondition_223 ⟨Nat.le_of_ble_eq_true rfl, Nat.le_of_ble_eq_true rfl⟩) hS (fun q _ h => pu_fr hS hA q h) (pu_fr hS hA) (fun r_69 u t H1 locs ht hvm hw hB hz1 hk1 hS => ?_)
                    have hP := pu_keep hP hk1
                    clear hk1 hz1 ht hvm
                    generalize H1 = H at hP hS ⊢
                    obtain ⟨u_70, hu_70, rfl, iu_70⟩ := hw
                    refine lv_if_eq (tgt := 233) hx hb dX9_readCondition_226 (by decide) (fun c_71 => ?_) (fun c_71 => ?_)
                    · have c_71 : u_70 = 0 := (nI_eq (a := u_70) (b := 0) (Nat.lt_of_le_of_lt hu_70 (Nat.le_of_ble_eq_true rfl)) (Nat.le_of_ble_eq_true rfl)).mp c_71
                      exact W.vret hx hb hr (fun t ht hW => ⟨⟨(), rfl, trivial, ⟨q_63, (upd f11 ((nI a0) : Int32).toNatClampNeg g_55), q_10, g_52, g_53, g_54, g_55, g_64, g_65, ⟨by rw [ht]; exact hP, va_K.moved hW.alike hK, hD⟩, hg_53, hg_54, hg_64, by omega, by omega⟩⟩, hS.F ht⟩) hS.2.2 dX9_readCondition_233
                    · have c_71 : ¬ u_70 = 0 := fun z => c_71 ((nI_eq (a := u_70) (b := 0) (Nat.lt_of_le_of_lt hu_70 (Nat.le_of_ble_eq_true rfl)) (Nat.le_of_ble_eq_true rfl)).mpr z)
                      refine lv_aload_n hx hb dX9_readCondition_229 rfl (lv_at hl 0 rfl) ?_
                      have hFc := pu_free hD hS hA
                      refine va_callv (va_runV (As := []) (rest := []) ⟨hx, hb, hml, hown, hts⟩ (c_M_next l dC dI _ ad ck x0 x16 x18 x19 g_52 g_53 g_54 g_55 x24 x25 g_64 g_65 0 x29 x30 x33 x45 x46 x52 x53 x61 x62 x63 x65 x66 f1 f2 f3 q4 q5 q6 q7 f8 q_10 q_63 (upd f11 ((nI a0) : Int32).toNatClampNeg g_55) m12_0 m12_1 m13_0 m13_1 m14_0 m14_1 m15_0 m15_1 f17 q31 f32 f34 f35 f36 f37 q38 f39 f40 f41 m42_0 m42_1 f43 f44 f47 f48 f49 f50 f51 q54 q55 q56 f57 q58 f59 f60 f64 hx16 hx18 hx19 hg_53 hg_54 hg_64 (Nat.le_of_ble_eq_true rfl) hx29 hx30 hx33 hx46 hx52 hx53 hx61 hx62 hx63 hx65 hm12_0 hm12_1 hm13_0 hm13_1 hm14_0 hm14_1 hm15_0 hm15_1 hm42_0 hm42_1) (cwV 0 hts g_M_readCondition1_0_M_next rfl rfl rfl (by decide +kernel) ⟨Nat.le_of_ble_eq_true rfl, Nat.le_of_ble_eq_true rfl⟩) ⟨pu_bl, va_recv hK hP (ci := 9) (q0 := 0) rfl rfl, pu_in hP hK hD⟩ rfl rfl hl.1 rfl (lv_room (Nat.le_of_ble_eq_true rfl)) dX9_readCondition_230 ⟨Nat.le_of_ble_eq_true rfl, Nat.le_of_ble_eq_true rfl⟩) hS (fun q _ h => hFc q h) hFc (fun u t H1 locs ht hvm hw hB hz1 hk1 hS => ?_)
                      obtain ⟨z20_73, z21_74, z22_75, z23_76, ⟨hP1, -, hD1⟩, hz21_74, hz22_75, xr_72_0, xr_72_1⟩ := hB
                      rw [ht] at hP1
                      have hP := hP1
                      have hD := pu_all hFc hD1
                      clear hP1 hD1 hFc
                      clear hk1 hz1 ht hvm
                      generalize H1 = H at hP hS ⊢
                      exact W.vret hx hb hr (fun t ht hW => ⟨⟨(), rfl, trivial, ⟨q_63, (upd f11 ((nI a0) : Int32).toNatClampNeg g_55), q_10, z20_73, z21_74, z22_75, z23_76, g_64, g_65, ⟨by rw [ht]; exact hP, va_K.moved hW.alike hK, hD⟩, hz21_74, hz22_75, hg_64, by omega, by omega⟩⟩, hS.F ht⟩) hS.2.2 dX9_readCondition_233
                  refine lv_icmp_eq (tgt := 198) hx hb dX9_readCondition_187 (by decide) (fun c_77 => ?_) (fun c_77 => ?_)
                  · have c_77 : g_54 = 2 := (nI_eq (a := g_54) (b := 2) (Nat.lt_of_le_of_lt hg_54 (Nat.le_of_ble_eq_true rfl)) (Nat.le_of_ble_eq_true rfl)).mp c_77
                    refine lv_aload_n hx hb dX9_readCondition_198 rfl (lv_at hl 0 rfl) ?_
                    refine va_get (D := (dC, dI)) (ci := 9) (v := .int g_55) (C := RX9) (T := TX9) (N := 67) hx hb hts hiX9 hown hK hP 0 rfl rfl 23 (by decide) v_25 (fun _ h9 => h9) rfl dX9_readCondition_199 ?_
                    refine lv_bipush (v := 20) hx hb dX9_readCondition_202 (by decide) ?_
                    refine lv_icmp_le (tgt := 212) hx hb dX9_readCondition_204 (by decide) (fun c_78 => ?_) (fun c_78 => ?_)
                    · exact j_68 _ _ _ _ ⟨g_34, g_35, rfl, hg_34, by omega, by omega, hP, hD, hS, lv_sub hl [0, 1, 2, 3, 4, 5, 6] rfl⟩
                    · refine lv_aload_n hx hb dX9_readCondition_207 rfl (lv_at hl 0 rfl) ?_
                      refine lv_iconst (v := 4) hx hb dX9_readCondition_208 (by decide) ?_
                      have hFc := pu_free hD hS hA
                      refine va_callv (va_runV (As := [.int 4]) (rest := []) ⟨hx, hb, hml, hown, hts⟩ (c_M_fails l dC dI _ ad ck x0 x16 x18 x19 g_52 g_53 g_54 g_55 x24 x25 g_34 g_35 0 x29 x30 x33 x45 x46 x52 x53 x61 x62 x63 x65 x66 f1 f2 f3 q4 q5 q6 q7 f8 q_10 q_63 f11 m12_0 m12_1 m13_0 m13_1 m14_0 m14_1 m15_0 m15_1 f17 q31 f32 f34 f35 f36 f37 q38 f39 f40 f41 m42_0 m42_1 f43 f44 f47 f48 f49 f50 f51 q54 q55 q56 f57 q58 f59 f60 f64 4 hx16 hx18 hx19 hg_53 hg_54 hg_34 (Nat.le_of_ble_eq_true rfl) hx29 hx30 hx33 hx46 hx52 hx53 hx61 hx62 hx63 hx65 hm12_0 hm12_1 hm13_0 hm13_1 hm14_0 hm14_1 hm15_0 hm15_1 hm42_0 hm42_1 (Nat.le_of_ble_eq_true rfl) (by omega)) (cwV 1 hts g_M_readCondition1_0_M_fails rfl rfl rfl (by decide +kernel) ⟨Nat.le_of_ble_eq_true rfl, Nat.le_of_ble_eq_true rfl⟩) ⟨pu_bl, va_recv hK hP (ci := 9) (q0 := 0) rfl rfl, pu_in hP hK hD⟩ rfl rfl hl.1 rfl (lv_room (Nat.le_of_ble_eq_true rfl)) dX9_readCondition_209 ⟨Nat.le_of_ble_eq_true rfl, Nat.le_of_ble_eq_true rfl⟩) hS (fun q _ h => hFc q h) hFc (fun u t H1 locs ht hvm hw hB hz1 hk1 hS => ?_)
                      obtain ⟨z26_80, z27_81, ⟨hP1, -, hD1⟩, hz26_80, xr_79_0⟩ := hB
                      rw [ht] at hP1
                      have hP := hP1
                      have hD := pu_all hFc hD1
                      clear hP1 hD1 hFc
                      clear hk1 hz1 ht hvm
                      generalize H1 = H at hP hS ⊢
                      exact j_68 _ _ _ _ ⟨z26_80, z27_81, rfl, hz26_80, by omega, by omega, hP, hD, hS, lv_sub hl [0, 1, 2, 3, 4, 5, 6] rfl⟩
                  · have c_77 : ¬ g_54 = 2 := fun z => c_77 ((nI_eq (a := g_54) (b := 2) (Nat.lt_of_le_of_lt hg_54 (Nat.le_of_ble_eq_true rfl)) (Nat.le_of_ble_eq_true rfl)).mpr z)
                    refine lv_aload_n hx hb dX9_readCondition_190 rfl (lv_at hl 0 rfl) ?_
                    refine lv_iconst (v := 2) hx hb dX9_readCondition_191 (by decide) ?_
                    have hFc := pu_free hD hS hA
                    refine va_callv (va_runV (As := [.int 2]) (rest := []) ⟨hx, hb, hml, hown, hts⟩ (c_M_fails l dC dI _ ad ck x0 x16 x18 x19 g_52 g_53 g_54 g_55 x24 x25 g_34 g_35 0 x29 x30 x33 x45 x46 x52 x53 x61 x62 x63 x65 x66 f1 f2 f3 q4 q5 q6 q7 f8 q_10 q_63 f11 m12_0 m12_1 m13_0 m13_1 m14_0 m14_1 m15_0 m15_1 f17 q31 f32 f34 f35 f36 f37 q38 f39 f40 f41 m42_0 m42_1 f43 f44 f47 f48 f49 f50 f51 q54 q55 q56 f57 q58 f59 f60 f64 2 hx16 hx18 hx19 hg_53 hg_54 hg_34 (Nat.le_of_ble_eq_true rfl) hx29 hx30 hx33 hx46 hx52 hx53 hx61 hx62 hx63 hx65 hm12_0 hm12_1 hm13_0 hm13_1 hm14_0 hm14_1 hm15_0 hm15_1 hm42_0 hm42_1 (Nat.le_of_ble_eq_true rfl) (by omega)) (cwV 1 hts g_M_readCondition1_0_M_fails rfl rfl rfl (by decide +kernel) ⟨Nat.le_of_ble_eq_true rfl, Nat.le_of_ble_eq_true rfl⟩) ⟨pu_bl, va_recv hK hP (ci := 9) (q0 := 0) rfl rfl, pu_in hP hK hD⟩ rfl rfl hl.1 rfl (lv_room (Nat.le_of_ble_eq_true rfl)) dX9_readCondition_192 ⟨Nat.le_of_ble_eq_true rfl, Nat.le_of_ble_eq_true rfl⟩) hS (fun q _ h => hFc q h) hFc (fun u t H1 locs ht hvm hw hB hz1 hk1 hS => ?_)
                    obtain ⟨z26_83, z27_84, ⟨hP1, -, hD1⟩, hz26_83, xr_82_0⟩ := hB
                    rw [ht] at hP1
                    have hP := hP1
                    have hD := pu_all hFc hD1
                    clear hP1 hD1 hFc
                    clear hk1 hz1 ht hvm
                    generalize H1 = H at hP hS ⊢
                    refine lv_goto (tgt := 212) hx hb dX9_readCondition_195 (by decide) ?_
                    exact j_68 _ _ _ _ ⟨z26_83, z27_84, rfl, hz26_83, by omega, by omega, hP, hD, hS, lv_sub hl [0, 1, 2, 3, 4, 5, 6] rfl⟩
                refine lv_if_eq (tgt := 154) hx hb dX9_readCondition_147 (by decide) (fun _ => ?_) (fun z => absurd z (by decide))
                refine lv_iload_n hx hb dX9_readCondition_154 rfl (lv_at hl 3 rfl) ?_
                refine lv_if_eq (tgt := 171) hx hb dX9_readCondition_155 (by decide) (fun c_85 => ?_) (fun c_85 => ?_)
                · have c_85 : u_21 = 0 := (nI_eq (a := u_21) (b := 0) (Nat.lt_of_le_of_lt hu_21 (Nat.le_of_ble_eq_true rfl)) (Nat.le_of_ble_eq_true rfl)).mp c_85
                  exfalso
                  omega
                · have c_85 : ¬ u_21 = 0 := fun z => c_85 ((nI_eq (a := u_21) (b := 0) (Nat.lt_of_le_of_lt hu_21 (Nat.le_of_ble_eq_true rfl)) (Nat.le_of_ble_eq_true rfl)).mpr z)
                  refine lv_iload hx hb dX9_readCondition_158 (lv_at hl 6 rfl) ?_
                  refine lv_if_eq (tgt := 167) hx hb dX9_readCondition_160 (by decide) (fun c_86 => ?_) (fun c_86 => ?_)
                  · have c_86 : g_48 = 0 := (nI_eq (a := g_48) (b := 0) (Nat.lt_of_le_of_lt hg_48 (Nat.le_of_ble_eq_true rfl)) (Nat.le_of_ble_eq_true rfl)).mp c_86
                    refine lv_iconst (v := 0) hx hb dX9_readCondition_167 (by decide) ?_
                    refine lv_goto (tgt := 181) hx hb dX9_readCondition_168 (by decide) ?_
                    exact j_62 _ _ _ _ ⟨0, rfl, (Nat.le_of_ble_eq_true rfl), by omega, by omega, hP, hD, hS, lv_sub hl [0, 1, 2, 3, 4, 5, 6] rfl⟩
                  · have c_86 : ¬ g_48 = 0 := fun z => c_86 ((nI_eq (a := g_48) (b := 0) (Nat.lt_of_le_of_lt hg_48 (Nat.le_of_ble_eq_true rfl)) (Nat.le_of_ble_eq_true rfl)).mpr z)
                    refine lv_iconst (v := 1) hx hb dX9_readCondition_163 (by decide) ?_
                    refine lv_goto (tgt := 181) hx hb dX9_readCondition_164 (by decide) ?_
                    exact j_62 _ _ _ _ ⟨1, rfl, (Nat.le_of_ble_eq_true rfl), by omega, by omega, hP, hD, hS, lv_sub hl [0, 1, 2, 3, 4, 5, 6] rfl⟩
              refine lv_if_eq (tgt := 140) hx hb dX9_readCondition_133 (by decide) (fun c_87 => ?_) (fun c_87 => ?_)
              · have c_87 : g_48 = 0 := (nI_eq (a := g_48) (b := 0) (Nat.lt_of_le_of_lt hg_48 (Nat.le_of_ble_eq_true rfl)) (Nat.le_of_ble_eq_true rfl)).mp c_87
                exact j_58 _ _ _ _ ⟨z20_44, z21_45, z22_46, z23_47, rfl, hz21_45, hz22_46, by omega, by omega, hP, hD, hS, lv_sub hl [1, 2, 3, 4, 5, 6, 0] rfl⟩
              · have c_87 : ¬ g_48 = 0 := fun z => c_87 ((nI_eq (a := g_48) (b := 0) (Nat.lt_of_le_of_lt hg_48 (Nat.le_of_ble_eq_true rfl)) (Nat.le_of_ble_eq_true rfl)).mpr z)
                refine lv_aload_n hx hb dX9_readCondition_136 rfl (lv_at hl 1 rfl) ?_
                have hFc := pu_free hD hS hA
                refine va_callv (va_runV (As := []) (rest := []) ⟨hx, hb, hml, hown, hts⟩ (c_M_next l dC dI _ ad ck x0 x16 x18 x19 z20_44 z21_45 z22_46 z23_47 x24 x25 g_34 g_35 0 x29 x30 x33 x45 x46 x52 x53 x61 x62 x63 x65 x66 f1 f2 f3 q4 q5 q6 q7 f8 q_10 q10 f11 m12_0 m12_1 m13_0 m13_1 m14_0 m14_1 m15_0 m15_1 f17 q31 f32 f34 f35 f36 f37 q38 f39 f40 f41 m42_0 m42_1 f43 f44 f47 f48 f49 f50 f51 q54 q55 q56 f57 q58 f59 f60 f64 hx16 hx18 hx19 hz21_45 hz22_46 hg_34 (Nat.le_of_ble_eq_true rfl) hx29 hx30 hx33 hx46 hx52 hx53 hx61 hx62 hx63 hx65 hm12_0 hm12_1 hm13_0 hm13_1 hm14_0 hm14_1 hm15_0 hm15_1 hm42_0 hm42_1) (cwV 0 hts g_M_readCondition1_0_M_next rfl rfl rfl (by decide +kernel) ⟨Nat.le_of_ble_eq_true rfl, Nat.le_of_ble_eq_true rfl⟩) ⟨pu_bl, va_recv hK hP (ci := 9) (q0 := 0) rfl rfl, pu_in hP hK hD⟩ rfl rfl hl.1 rfl (lv_room (Nat.le_of_ble_eq_true rfl)) dX9_readCondition_137 ⟨Nat.le_of_ble_eq_true rfl, Nat.le_of_ble_eq_true rfl⟩) hS (fun q _ h => hFc q h) hFc (fun u t H1 locs ht hvm hw hB hz1 hk1 hS => ?_)
                obtain ⟨z20_89, z21_90, z22_91, z23_92, ⟨hP1, -, hD1⟩, hz21_90, hz22_91, xr_88_0, xr_88_1⟩ := hB
                rw [ht] at hP1
                have hP := hP1
                have hD := pu_all hFc hD1
                clear hP1 hD1 hFc
                clear hk1 hz1 ht hvm
                generalize H1 = H at hP hS ⊢
                exact j_58 _ _ _ _ ⟨z20_89, z21_90, z22_91, z23_92, rfl, hz21_90, hz22_91, by omega, by omega, hP, hD, hS, lv_sub hl [1, 2, 3, 4, 5, 6, 0] rfl⟩
            refine lv_if_ne (tgt := 128) hx hb dX9_readCondition_112 (by decide) (fun z => absurd z (by decide)) (fun _ => ?_)
            refine lv_aload_n hx hb dX9_readCondition_115 rfl (lv_at hl 0 rfl) ?_
            refine lv_bipush (v := 61) hx hb dX9_readCondition_116 (by decide) ?_
            refine va_calli (va_runV (As := [.int 61]) (rest := []) ⟨hx, hb, hml, hown, hts⟩ (c_M_isSign l dC dI _ ad ck x0 x16 x18 x19 z20_44 z21_45 z22_46 z23_47 x24 x25 g_34 g_35 0 x29 x30 x33 x45 x46 x52 x53 x61 x62 x63 x65 x66 f1 f2 f3 q4 q5 q6 q7 f8 q_10 q10 f11 m12_0 m12_1 m13_0 m13_1 m14_0 m14_1 m15_0 m15_1 f17 q31 f32 f34 f35 f36 f37 q38 f39 f40 f41 m42_0 m42_1 f43 f44 f47 f48 f49 f50 f51 q54 q55 q56 f57 q58 f59 f60 f64 61 hx16 hx18 hx19 hz21_45 hz22_46 hg_34 (Nat.le_of_ble_eq_true rfl) hx29 hx30 hx33 hx46 hx52 hx53 hx61 hx62 hx63 hx65 hm12_0 hm12_1 hm13_0 hm13_1 hm14_0 hm14_1 hm15_0 hm15_1 hm42_0 hm42_1) (cwV 1 hts g_M_readCondition1_0_M_isSign rfl rfl rfl (by decide +kernel) ⟨Nat.le_of_ble_eq_true rfl, Nat.le_of_ble_eq_true rfl⟩) ⟨pu_bl, va_recv hK hP (ci := 9) (q0 := 0) rfl rfl, pu_in hP hK hD⟩ rfl rfl hl.1 rfl (lv_room (Nat.le_of_ble_eq_true rfl)) dX9_readCondition_118 ⟨Nat.le_of_ble_eq_true rfl, Nat.le_of_ble_eq_true rfl⟩) hS (fun q _ h => pu_fr hS hA q h) (pu_fr hS hA) (fun r_93 u t H1 locs ht hvm hw hB hz1 hk1 hS => ?_)
            have hP := pu_keep hP hk1
            clear hk1 hz1 ht hvm
            generalize H1 = H at hP hS ⊢
            obtain ⟨u_94, hu_94, rfl, iu_94⟩ := hw
            refine lv_if_eq (tgt := 128) hx hb dX9_readCondition_121 (by decide) (fun c_95 => ?_) (fun c_95 => ?_)
            · have c_95 : u_94 = 0 := (nI_eq (a := u_94) (b := 0) (Nat.lt_of_le_of_lt hu_94 (Nat.le_of_ble_eq_true rfl)) (Nat.le_of_ble_eq_true rfl)).mp c_95
              refine lv_iconst (v := 0) hx hb dX9_readCondition_128 (by decide) ?_
              exact j_51 _ _ _ _ ⟨0, rfl, (Nat.le_of_ble_eq_true rfl), by omega, by omega, hP, hD, hS, lv_sub hl [0, 1, 2, 3, 4, 5] rfl⟩
            · have c_95 : ¬ u_94 = 0 := fun z => c_95 ((nI_eq (a := u_94) (b := 0) (Nat.lt_of_le_of_lt hu_94 (Nat.le_of_ble_eq_true rfl)) (Nat.le_of_ble_eq_true rfl)).mpr z)
              refine lv_iconst (v := 1) hx hb dX9_readCondition_124 (by decide) ?_
              refine lv_goto (tgt := 129) hx hb dX9_readCondition_125 (by decide) ?_
              exact j_51 _ _ _ _ ⟨1, rfl, (Nat.le_of_ble_eq_true rfl), by omega, by omega, hP, hD, hS, lv_sub hl [0, 1, 2, 3, 4, 5] rfl⟩
          · have c_42 : u_41 = 0 := (nI_eq (a := u_41) (b := 0) (Nat.lt_of_le_of_lt hu_41 (Nat.le_of_ble_eq_true rfl)) (Nat.le_of_ble_eq_true rfl)).mp c_42
            exact W.vret hx hb hr (fun t ht hW => ⟨⟨(), rfl, trivial, ⟨q10, f11, q_10, g_13, g_14, g_15, g_16, g_34, g_35, ⟨by rw [ht]; exact hP, va_K.moved hW.alike hK, hD⟩, hg_14, hg_15, hg_34, by omega, by omega⟩⟩, hS.F ht⟩) hS.2.2 dX9_readCondition_105
        refine lv_if_eq (tgt := 98) hx hb dX9_readCondition_76 (by decide) (fun c_96 => ?_) (fun c_96 => ?_)
        · have c_96 : u_33 = 0 := (nI_eq (a := u_33) (b := 0) (Nat.lt_of_le_of_lt hu_33 (Nat.le_of_ble_eq_true rfl)) (Nat.le_of_ble_eq_true rfl)).mp c_96
          exact j_39 _ _ _ _ ⟨z26_7, z27_8, rfl, hz26_7, by omega, by omega, by omega, hP, hD, hS, lv_sub hl [1, 2, 3, 4, 5, 0] rfl⟩
        · have c_96 : ¬ u_33 = 0 := fun z => c_96 ((nI_eq (a := u_33) (b := 0) (Nat.lt_of_le_of_lt hu_33 (Nat.le_of_ble_eq_true rfl)) (Nat.le_of_ble_eq_true rfl)).mpr z)
          refine lv_iload_n hx hb dX9_readCondition_79 rfl (lv_at hl 4 rfl) ?_
          refine lv_if_ne (tgt := 98) hx hb dX9_readCondition_80 (by decide) (fun c_97 => ?_) (fun c_97 => ?_)
          · have c_97 : ¬ u_21 = 0 := fun z => c_97 ((nI_eq (a := u_21) (b := 0) (Nat.lt_of_le_of_lt hu_21 (Nat.le_of_ble_eq_true rfl)) (Nat.le_of_ble_eq_true rfl)).mpr z)
            exact j_39 _ _ _ _ ⟨z26_7, z27_8, rfl, hz26_7, by omega, by omega, by omega, hP, hD, hS, lv_sub hl [1, 2, 3, 4, 5, 0] rfl⟩
          · have c_97 : u_21 = 0 := (nI_eq (a := u_21) (b := 0) (Nat.lt_of_le_of_lt hu_21 (Nat.le_of_ble_eq_true rfl)) (Nat.le_of_ble_eq_true rfl)).mp c_97
            refine lv_iload hx hb dX9_readCondition_83 (lv_at hl 5 rfl) ?_
            refine lv_if_ne (tgt := 98) hx hb dX9_readCondition_85 (by decide) (fun z => absurd z (by decide)) (fun _ => ?_)
            refine lv_iload hx hb dX9_readCondition_88 (lv_at hl 0 rfl) ?_
            refine lv_if_ne (tgt := 98) hx hb dX9_readCondition_90 (by decide) (fun z => absurd z (by decide)) (fun _ => ?_)
            refine lv_aload_n hx hb dX9_readCondition_93 rfl (lv_at hl 1 rfl) ?_
            refine lv_iconst (v := 2) hx hb dX9_readCondition_94 (by decide) ?_
            have hFc := pu_free hD hS hA
            refine va_callv (va_runV (As := [.int 2]) (rest := []) ⟨hx, hb, hml, hown, hts⟩ (c_M_fails l dC dI _ ad ck x0 x16 x18 x19 g_13 g_14 g_15 g_16 x24 x25 z26_7 z27_8 0 x29 x30 x33 x45 x46 x52 x53 x61 x62 x63 x65 x66 f1 f2 f3 q4 q5 q6 q7 f8 q_10 q10 f11 m12_0 m12_1 m13_0 m13_1 m14_0 m14_1 m15_0 m15_1 f17 q31 f32 f34 f35 f36 f37 q38 f39 f40 f41 m42_0 m42_1 f43 f44 f47 f48 f49 f50 f51 q54 q55 q56 f57 q58 f59 f60 f64 2 hx16 hx18 hx19 hg_14 hg_15 hz26_7 (Nat.le_of_ble_eq_true rfl) hx29 hx30 hx33 hx46 hx52 hx53 hx61 hx62 hx63 hx65 hm12_0 hm12_1 hm13_0 hm13_1 hm14_0 hm14_1 hm15_0 hm15_1 hm42_0 hm42_1 (Nat.le_of_ble_eq_true rfl) (by omega)) (cwV 1 hts g_M_readCondition1_0_M_fails rfl rfl rfl (by decide +kernel) ⟨Nat.le_of_ble_eq_true rfl, Nat.le_of_ble_eq_true rfl⟩) ⟨pu_bl, va_recv hK hP (ci := 9) (q0 := 0) rfl rfl, pu_in hP hK hD⟩ rfl rfl hl.1 rfl (lv_room (Nat.le_of_ble_eq_true rfl)) dX9_readCondition_95 ⟨Nat.le_of_ble_eq_true rfl, Nat.le_of_ble_eq_true rfl⟩) hS (fun q _ h => hFc q h) hFc (fun u t H1 locs ht hvm hw hB hz1 hk1 hS => ?_)
            obtain ⟨z26_99, z27_100, ⟨hP1, -, hD1⟩, hz26_99, xr_98_0⟩ := hB
            rw [ht] at hP1
            have hP := hP1
            have hD := pu_all hFc hD1
            clear hP1 hD1 hFc
            clear hk1 hz1 ht hvm
            generalize H1 = H at hP hS ⊢
            exact j_39 _ _ _ _ ⟨z26_99, z27_100, rfl, hz26_99, by omega, by omega, by omega, hP, hD, hS, lv_sub hl [1, 2, 3, 4, 5, 0] rfl⟩
      refine lv_if_eq (tgt := 69) hx hb dX9_readCondition_58 (by decide) (fun c_101 => ?_) (fun c_101 => ?_)
      · have c_101 : u_28 = 0 := (nI_eq (a := u_28) (b := 0) (Nat.lt_of_le_of_lt hu_28 (Nat.le_of_ble_eq_true rfl)) (Nat.le_of_ble_eq_true rfl)).mp c_101
        refine lv_iconst (v := 0) hx hb dX9_readCondition_69 (by decide) ?_
        exact j_31 _ _ _ _ ⟨rfl, by omega, by omega, hP, hD, hS, lv_sub hl [1, 2, 3, 4, 0] rfl⟩
      · have c_101 : ¬ u_28 = 0 := fun z => c_101 ((nI_eq (a := u_28) (b := 0) (Nat.lt_of_le_of_lt hu_28 (Nat.le_of_ble_eq_true rfl)) (Nat.le_of_ble_eq_true rfl)).mpr z)
        refine lv_iload_n hx hb dX9_readCondition_61 rfl (lv_at hl 3 rfl) ?_
        refine lv_if_ne (tgt := 69) hx hb dX9_readCondition_62 (by decide) (fun _ => ?_) (fun z => absurd z (by decide))
        refine lv_iconst (v := 0) hx hb dX9_readCondition_69 (by decide) ?_
        exact j_31 _ _ _ _ ⟨rfl, by omega, by omega, hP, hD, hS, lv_sub hl [1, 2, 3, 4, 0] rfl⟩
    refine lv_if_eq (tgt := 49) hx hb dX9_readCondition_38 (by decide) (fun c_102 => ?_) (fun c_102 => ?_)
    · have c_102 : u_23 = 0 := (nI_eq (a := u_23) (b := 0) (Nat.lt_of_le_of_lt hu_23 (Nat.le_of_ble_eq_true rfl)) (Nat.le_of_ble_eq_true rfl)).mp c_102
      refine lv_iconst (v := 0) hx hb dX9_readCondition_49 (by decide) ?_
      exact j_26 _ _ _ _ ⟨rfl, by omega, by omega, hP, hD, hS, lv_sub hl [1, 2, 3, 0] rfl⟩
    · have c_102 : ¬ u_23 = 0 := fun z => c_102 ((nI_eq (a := u_23) (b := 0) (Nat.lt_of_le_of_lt hu_23 (Nat.le_of_ble_eq_true rfl)) (Nat.le_of_ble_eq_true rfl)).mpr z)
      refine lv_iload_n hx hb dX9_readCondition_41 rfl (lv_at hl 3 rfl) ?_
      refine lv_if_ne (tgt := 49) hx hb dX9_readCondition_42 (by decide) (fun _ => ?_) (fun z => absurd z (by decide))
      refine lv_iconst (v := 0) hx hb dX9_readCondition_49 (by decide) ?_
      exact j_26 _ _ _ _ ⟨rfl, by omega, by omega, hP, hD, hS, lv_sub hl [1, 2, 3, 0] rfl⟩
  refine lv_if_eq (tgt := 25) hx hb dX9_readCondition_18 (by decide) (fun c_103 => ?_) (fun c_103 => ?_)
  · have c_103 : u_12 = 0 := (nI_eq (a := u_12) (b := 0) (Nat.lt_of_le_of_lt hu_12 (Nat.le_of_ble_eq_true rfl)) (Nat.le_of_ble_eq_true rfl)).mp c_103
    exact j_19 _ _ _ _ ⟨z20_2, z21_3, z22_4, z23_5, rfl, hz21_3, hz22_4, by omega, by omega, hP, hD, hS, lv_sub hl [0, 1, 2] rfl⟩
  · have c_103 : ¬ u_12 = 0 := fun z => c_103 ((nI_eq (a := u_12) (b := 0) (Nat.lt_of_le_of_lt hu_12 (Nat.le_of_ble_eq_true rfl)) (Nat.le_of_ble_eq_true rfl)).mpr z)
    refine lv_aload_n hx hb dX9_readCondition_21 rfl (lv_at hl 0 rfl) ?_
    have hFc := pu_free hD hS hA
    refine va_callv (va_runV (As := []) (rest := []) ⟨hx, hb, hml, hown, hts⟩ (c_M_next l dC dI _ ad ck x0 x16 x18 x19 z20_2 z21_3 z22_4 z23_5 x24 x25 z26_7 z27_8 0 x29 x30 x33 x45 x46 x52 x53 x61 x62 x63 x65 x66 f1 f2 f3 q4 q5 q6 q7 f8 q_10 q10 f11 m12_0 m12_1 m13_0 m13_1 m14_0 m14_1 m15_0 m15_1 f17 q31 f32 f34 f35 f36 f37 q38 f39 f40 f41 m42_0 m42_1 f43 f44 f47 f48 f49 f50 f51 q54 q55 q56 f57 q58 f59 f60 f64 hx16 hx18 hx19 hz21_3 hz22_4 hz26_7 (Nat.le_of_ble_eq_true rfl) hx29 hx30 hx33 hx46 hx52 hx53 hx61 hx62 hx63 hx65 hm12_0 hm12_1 hm13_0 hm13_1 hm14_0 hm14_1 hm15_0 hm15_1 hm42_0 hm42_1) (cwV 0 hts g_M_readCondition1_0_M_next rfl rfl rfl (by decide +kernel) ⟨Nat.le_of_ble_eq_true rfl, Nat.le_of_ble_eq_true rfl⟩) ⟨pu_bl, va_recv hK hP (ci := 9) (q0 := 0) rfl rfl, pu_in hP hK hD⟩ rfl rfl hl.1 rfl (lv_room (Nat.le_of_ble_eq_true rfl)) dX9_readCondition_22 ⟨Nat.le_of_ble_eq_true rfl, Nat.le_of_ble_eq_true rfl⟩) hS (fun q _ h => hFc q h) hFc (fun u t H1 locs ht hvm hw hB hz1 hk1 hS => ?_)
    obtain ⟨z20_105, z21_106, z22_107, z23_108, ⟨hP1, -, hD1⟩, hz21_106, hz22_107, xr_104_0, xr_104_1⟩ := hB
    rw [ht] at hP1
    have hP := hP1
    have hD := pu_all hFc hD1
    clear hP1 hD1 hFc
    clear hk1 hz1 ht hvm
    generalize H1 = H at hP hS ⊢
    exact j_19 _ _ _ _ ⟨z20_105, z21_106, z22_107, z23_108, rfl, hz21_106, hz22_107, by omega, by omega, hP, hD, hS, lv_sub hl [0, 1, 2] rfl⟩
