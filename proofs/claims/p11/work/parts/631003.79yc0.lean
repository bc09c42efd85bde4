theorem dX9_clockCalled_0 : decode cX9_clockCalled 0 = .ok (.iconst 0, 1) := by decide +kernel
theorem dX9_clockCalled_1 : decode cX9_clockCalled 1 = .ok (.istore_n 1, 1) := by decide +kernel
theorem dX9_clockCalled_2 : decode cX9_clockCalled 2 = .ok (.iload_n 1, 1) := by decide +kernel
theorem dX9_clockCalled_3 : decode cX9_clockCalled 3 = .ok (.aload_n 0, 1) := by decide +kernel
theorem dX9_clockCalled_4 : decode cX9_clockCalled 4 = .ok (.getfield 43, 3) := by decide +kernel
theorem dX9_clockCalled_7 : decode cX9_clockCalled 7 = .ok (.aload_n 0, 1) := by decide +kernel
theorem dX9_clockCalled_8 : decode cX9_clockCalled 8 = .ok (.getfield 203, 3) := by decide +kernel
theorem dX9_clockCalled_11 : decode cX9_clockCalled 11 = .ok (.iaload, 1) := by decide +kernel
theorem dX9_clockCalled_12 : decode cX9_clockCalled 12 = .ok (.if_icmp .ge 31, 3) := by decide +kernel
theorem dX9_clockCalled_15 : decode cX9_clockCalled 15 = .ok (.aload_n 0, 1) := by decide +kernel
theorem dX9_clockCalled_16 : decode cX9_clockCalled 16 = .ok (.getfield 7, 3) := by decide +kernel
theorem dX9_clockCalled_19 : decode cX9_clockCalled 19 = .ok (.iconst 3, 1) := by decide +kernel
theorem dX9_clockCalled_20 : decode cX9_clockCalled 20 = .ok (.aload_n 0, 1) := by decide +kernel
theorem dX9_clockCalled_21 : decode cX9_clockCalled 21 = .ok (.getfield 203, 3) := by decide +kernel
theorem dX9_clockCalled_24 : decode cX9_clockCalled 24 = .ok (.imul, 1) := by decide +kernel
theorem dX9_clockCalled_25 : decode cX9_clockCalled 25 = .ok (.iload_n 1, 1) := by decide +kernel
theorem dX9_clockCalled_26 : decode cX9_clockCalled 26 = .ok (.iadd, 1) := by decide +kernel
theorem dX9_clockCalled_27 : decode cX9_clockCalled 27 = .ok (.iaload, 1) := by decide +kernel
theorem dX9_clockCalled_28 : decode cX9_clockCalled 28 = .ok (.aload_n 0, 1) := by decide +kernel
theorem dX9_clockCalled_29 : decode cX9_clockCalled 29 = .ok (.getfield 169, 3) := by decide +kernel
theorem dX9_clockCalled_32 : decode cX9_clockCalled 32 = .ok (.if_icmp .ne 5, 3) := by decide +kernel
theorem dX9_clockCalled_35 : decode cX9_clockCalled 35 = .ok (.iload_n 1, 1) := by decide +kernel
theorem dX9_clockCalled_36 : decode cX9_clockCalled 36 = .ok (.ireturn, 1) := by decide +kernel
theorem dX9_clockCalled_37 : decode cX9_clockCalled 37 = .ok (.iinc 1 1, 3) := by decide +kernel
theorem dX9_clockCalled_40 : decode cX9_clockCalled 40 = .ok (.goto (-38), 3) := by decide +kernel
theorem dX9_clockCalled_43 : decode cX9_clockCalled 43 = .ok (.iconst (-1), 1) := by decide +kernel
theorem dX9_clockCalled_44 : decode cX9_clockCalled 44 = .ok (.ireturn, 1) := by decide +kernel
abbrev vs_EM_clockCalled_0 : List Cond := .code yX9_clockCalled cX9_clockCalled 2 (some .int) :: VM
noncomputable def sp_EM_clockCalled_0_L1 (x23 : Int32) (f1 : Nat → Int32) (m12_0 : Nat) : (Nat) → (Nat) ⊕ (Nat) := fun g_2 => (if m12_0 ≤ g_2 then (Sum.inr 0) else (slet (f1 (0 + g_2)) (fun y_13 => (if (y_13 : Int32) = x23 then (Sum.inr (g_2 + 1)) else (Sum.inl (g_2 + 1))))))
noncomputable def sp_EM_clockCalled_0 (x23 : Int32) (f1 : Nat → Int32) (m12_0 : Nat) : Nat := (itrv (α := Nat) (β := (Nat)) default (sp_EM_clockCalled_0_L1 x23 f1 m12_0) 0)
set_option maxHeartbeats 4000000 in
set_option maxRecDepth 100000 in
theorem c_EM_clockCalled_0 (l : Launch) (dC : Nat → ClassId) (dI : Nat → Nat → Nat) (sz : Nat) (ad : Nat → Nat) (ck : Nat → ClassId) (x0 : Int32) (x16 : Nat) (x18 : Nat) (x19 : Nat) (x20 : Int32) (x21 : Nat) (x22 : Nat) (x23 : Int32) (x24 : Int32) (x25 : Int32) (x26 : Nat) (x27 : Int32) (x29 : Nat) (x30 : Nat) (x33 : Nat) (x45 : Int32) (x46 : Nat) (x52 : Nat) (x53 : Nat) (x61 : Nat) (x62 : Nat) (x63 : Nat) (x65 : Nat) (x66 : Int32) (f1 : Nat → Int32) (f2 : Nat → Int32) (f3 : Nat → Int32) (q4 : Nat → Nat) (q5 : Nat → Nat) (q6 : Nat → Nat) (q7 : Nat → Nat) (f8 : Nat → Int32) (q9 : Nat → Nat) (q10 : Nat → Nat) (f11 : Nat → Int32) (m12_0 m12_1 : Nat) (m13_0 m13_1 : Nat) (m14_0 m14_1 : Nat) (m15_0 m15_1 : Nat) (f17 : Nat → Int32) (q31 : Nat → Nat) (f32 : Nat → Int32) (f34 : Nat → Int32) (f35 : Nat → Int32) (f36 : Nat → Int32) (f37 : Nat → Int32) (q38 : Nat → Nat) (f39 : Nat → Int32) (f40 : Nat → Int32) (f41 : Nat → Int32) (m42_0 m42_1 : Nat) (f43 : Nat → Int32) (f44 : Nat → Int32) (f47 : Nat → Int32) (f48 : Nat → Int32) (f49 : Nat → Int32) (f50 : Nat → Int32) (f51 : Nat → Int32) (q54 : Nat → Nat) (q55 : Nat → Nat) (q56 : Nat → Nat) (f57 : Nat → Int32) (q58 : Nat → Nat) (f59 : Nat → Int32) (f60 : Nat → Int32) (f64 : Nat → Int32) (hx16 : x16 ≤ 1) (hx18 : x18 ≤ 900) (hx19 : x19 ≤ 900) (hx21 : x21 ≤ 900) (hx22 : x22 ≤ 4) (hx26 : x26 ≤ 6) (hx29 : x29 ≤ 1) (hx30 : x30 ≤ 1) (hx33 : x33 ≤ 20) (hx46 : x46 ≤ 5) (hx52 : x52 ≤ 2400) (hx53 : x53 ≤ 119) (hx61 : x61 ≤ 119) (hx62 : x62 ≤ 2000) (hx63 : x63 ≤ 1) (hx65 : x65 ≤ 7) (hm12_0 : m12_0 ≤ 3) (hm12_1 : m12_1 ≤ 3) (hm13_0 : m13_0 ≤ 8) (hm13_1 : m13_1 ≤ 8) (hm14_0 : m14_0 ≤ 14) (hm14_1 : m14_1 ≤ 14) (hm15_0 : m15_0 ≤ 8) (hm15_1 : m15_1 ≤ 8) (hm42_0 : m42_0 ≤ 120) (hm42_1 : m42_1 ≤ 400) : Met l yX9_clockCalled vs_EM_clockCalled_0 ({ frames := 0, cells := 0, slots := 0, locals := 0 }) (va_Pc [.ref (ad 0)] (pu_B (dC, dI) (mo_w ad ck x0 (nI x16) (nI x18) (nI x19) x20 (nI x21) (nI x22) x23 x24 x25 (nI x26) x27 0 (nI x29) (nI x30) (nI x33) x45 (nI x46) (nI x52) (nI x53) (nI x61) (nI x62) (nI x63) (nI x65) x66 f1 f2 f3 (bN 3 q4) (bN 7 q5) (bN 7 q6) (bN 4 q7) f8 (bN 2 q9) (bH q10) f11 (b2 m12_0 m12_1) (b2 m13_0 m13_1) (b2 m14_0 m14_1) (b2m m15_0 m15_1) f17 (bA 159 q31) f32 f34 f35 f36 f37 (bN 7 q38) f39 f40 f41 (b2 m42_0 m42_1) f43 f44 f47 f48 f49 f50 f51 (bN 13 q54) (bN 120 q55) (bN 120 q56) f57 (bN 120 q58) f59 f60 f64) (mo_t ck) sz)) (va_Qi (fun (r : Int32) (_ : Unit) => ∃ v : Nat, v ≤ 3 ∧ r = mI v ∧ v = (sp_EM_clockCalled_0 x23 f1 m12_0)) (fun _ _ => True) (va_A [] sz)) 0 0 (va_A [] sz) := by
  refine Met.ofW (cc := cX9_clockCalled) (maxL := 2) (ret := (some .int)) (by decide) rfl ?_
  intro p e s m args below meth c s₁ B hml hv
  obtain ⟨rfl, rfl, hP, hK, hD0⟩ := hv
  have hx := B.exec
  have hb := B.bytes
  have hr := B.returns
  have hts := atoms_spec (ws := vs_EM_clockCalled_0) B.pre
  have v_1 := hts (.fieldLink RX9 43 "ClockReachModel" "clockMany" "[I") (List.mem_cons_of_mem _ vm_3)
  have v_2 := hts (.fieldLink RX9 203 "ClockReachModel" "rb" "I") (List.mem_cons_of_mem _ vm_63)
  have v_3 := hts (.fieldLink RX9 7 "ClockReachModel" "clockName" "[I") (List.mem_cons_of_mem _ vm_64)
  have v_4 := hts (.fieldLink RX9 169 "ClockReachModel" "value" "I") (List.mem_cons_of_mem _ vm_13)
  have hown : s.vm.findClass RX9 = some m.cls := findClass_of_methodNamed B.named
  have hlocks := B.notSynchronized
  have hiX9 : ∀ w ∈ wsX90, w ∈ vs_EM_clockCalled_0 := fun _ h => List.mem_cons_of_mem _ (vmi_L h)
  have hD := hD0
  have hA : ∀ q : Nat, s.heap.size ≤ q → va_A [] s.heap.size q := fun _ h => Or.inr h
  have hS : va_S (va_A [] s.heap.size) s.heap s.heap [] := va_S.rf
  have hl := lv_entry ([.ref (ad 0)]) (n := 2) (Nat.le_of_ble_eq_true rfl)
  rw [lg_entry_eq]
  generalize (lg_sl ([.ref (ad 0)]) ++ List.replicate (2 - (lg_sl ([.ref (ad 0)])).length) Slot.unset).toArray = ls at hl ⊢
  have hl : lv_has ls 2 [(0, .ref (ad 0))] := hl
  obtain ⟨RR, hRR⟩ : ∃ x, x = (sp_EM_clockCalled_0 x23 f1 m12_0) := ⟨_, rfl⟩
  have hsp := hRR
  refine lv_iconst (v := 0) hx hb dX9_clockCalled_0 (by decide) ?_
  refine lv_istore_n (lv' := [(1, .int 0), (0, .ref (ad 0))]) hx hb dX9_clockCalled_1 rfl hl (by decide) rfl (fun ls hl => ?_)
  obtain ⟨lf_4, dlf_4, hlf_4, hsp⟩ := itr_ex hsp
  delta sp_EM_clockCalled_0_L1 at hlf_4
  refine pu_while (fun nn H locs ls => ∃ (g_2 : Nat), nn = 3 - g_2 ∧ g_2 ≤ 3 ∧ RR = itrv dlf_4 lf_4 g_2 ∧ va_P (dC, dI) vwCl (mo_w ad ck x0 (nI x16) (nI x18) (nI x19) x20 (nI x21) (nI x22) x23 x24 x25 (nI x26) x27 0 (nI x29) (nI x30) (nI x33) x45 (nI x46) (nI x52) (nI x53) (nI x61) (nI x62) (nI x63) (nI x65) x66 f1 f2 f3 (bN 3 q4) (bN 7 q5) (bN 7 q6) (bN 4 q7) f8 (bN 2 q9) (bH q10) f11 (b2 m12_0 m12_1) (b2 m13_0 m13_1) (b2 m14_0 m14_1) (b2m m15_0 m15_1) f17 (bA 159 q31) f32 f34 f35 f36 f37 (bN 7 q38) f39 f40 f41 (b2 m42_0 m42_1) f43 f44 f47 f48 f49 f50 f51 (bN 13 q54) (bN 120 q55) (bN 120 q56) f57 (bN 120 q58) f59 f60 f64) H ∧ va_D (fun _ => True) (mo_w ad ck x0 (nI x16) (nI x18) (nI x19) x20 (nI x21) (nI x22) x23 x24 x25 (nI x26) x27 0 (nI x29) (nI x30) (nI x33) x45 (nI x46) (nI x52) (nI x53) (nI x61) (nI x62) (nI x63) (nI x65) x66 f1 f2 f3 (bN 3 q4) (bN 7 q5) (bN 7 q6) (bN 4 q7) f8 (bN 2 q9) (bH q10) f11 (b2 m12_0 m12_1) (b2 m13_0 m13_1) (b2 m14_0 m14_1) (b2m m15_0 m15_1) f17 (bA 159 q31) f32 f34 f35 f36 f37 (bN 7 q38) f39 f40 f41 (b2 m42_0 m42_1) f43 f44 f47 f48 f49 f50 f51 (bN 13 q54) (bN 120 q55) (bN 120 q56) f57 (bN 120 q58) f59 f60 f64) ∧ va_S (va_A [] s.heap.size) s.heap H locs ∧ lv_has ls 2 [(0, .ref (ad 0)), (1, .int (nI g_2))]) 2 ?_ _ _ _ _ ⟨0, rfl, (Nat.le_of_ble_eq_true rfl), hsp, hP, hD, hS, lv_sub hl [1, 0] rfl⟩
  rintro nn ih_3 H locs ls ⟨g_2, rfl, hg_2, he_6, hP, hD, hS, hl⟩
  obtain ⟨S_5, hsp, hin_7, hout_8⟩ := itr_step hlf_4 he_6
  refine lv_iload_n hx hb dX9_clockCalled_2 rfl (lv_at hl 1 rfl) ?_
  refine lv_aload_n hx hb dX9_clockCalled_3 rfl (lv_at hl 0 rfl) ?_
  refine va_get (D := (dC, dI)) (ci := 9) (v := .ref (ad 12)) (C := RX9) (T := TX9) (N := 67) hx hb hts hiX9 hown hK hP 0 rfl rfl 12 (by decide) v_1 (fun _ h9 => h9) rfl dX9_clockCalled_4 ?_
  refine lv_aload_n hx hb dX9_clockCalled_7 rfl (lv_at hl 0 rfl) ?_
  refine va_get (D := (dC, dI)) (ci := 9) (v := .int 0) (C := RX9) (T := TX9) (N := 67) hx hb hts hiX9 hown hK hP 0 rfl rfl 28 (by decide) v_2 (fun _ h9 => h9) rfl dX9_clockCalled_8 ?_
  refine va_iald hx hb hK hP 12 11 rfl rfl (vp_in_nI (n := 0) (Nat.le_of_ble_eq_true rfl) (Nat.le_of_ble_eq_true rfl)) dX9_clockCalled_11 ?_
  refine lv_topi (fun y_9 ey_9 => ?_)
  have qy_9 := ey_9.trans b2_0
  clear ey_9
  obtain rfl : y_9 = nI m12_0 := qy_9
  refine lv_icmp_ge (tgt := 43) hx hb dX9_clockCalled_12 (by decide) (fun c_10 => ?_) (fun c_10 => ?_)
  · have c_10 : m12_0 ≤ g_2 := (nI_leI (a := m12_0) (b := g_2) (Nat.lt_of_le_of_lt hm12_0 (Nat.le_of_ble_eq_true rfl)) (Nat.lt_of_le_of_lt hg_2 (Nat.le_of_ble_eq_true rfl))).mp c_10
    have hsp := hsp.trans (if_pos c_10)
    have hsp := hout_8 _ hsp
    refine lv_iconst (v := (-1)) hx hb dX9_clockCalled_43 (by decide) ?_
    exact W.iret (v := (-1)) hx hb hr (fun t ht hW => ⟨⟨(-1), (), rfl, ⟨0, by omega, rfl, (hsp.symm.trans hRR)⟩, trivial⟩, hS.F ht⟩) hS.2.2 dX9_clockCalled_44
  · have c_10 : ¬ m12_0 ≤ g_2 := fun z => c_10 ((nI_leI (a := m12_0) (b := g_2) (Nat.lt_of_le_of_lt hm12_0 (Nat.le_of_ble_eq_true rfl)) (Nat.lt_of_le_of_lt hg_2 (Nat.le_of_ble_eq_true rfl))).mpr z)
    have hsp := hsp.trans (if_neg c_10)
    refine lv_aload_n hx hb dX9_clockCalled_15 rfl (lv_at hl 0 rfl) ?_
    refine va_get (D := (dC, dI)) (ci := 9) (v := .ref (ad 1)) (C := RX9) (T := TX9) (N := 67) hx hb hts hiX9 hown hK hP 0 rfl rfl 1 (by decide) v_3 (fun _ h9 => h9) rfl dX9_clockCalled_16 ?_
    refine lv_iconst (v := 3) hx hb dX9_clockCalled_19 (by decide) ?_
    refine lv_aload_n hx hb dX9_clockCalled_20 rfl (lv_at hl 0 rfl) ?_
    refine va_get (D := (dC, dI)) (ci := 9) (v := .int 0) (C := RX9) (T := TX9) (N := 67) hx hb hts hiX9 hown hK hP 0 rfl rfl 28 (by decide) v_2 (fun _ h9 => h9) rfl dX9_clockCalled_21 ?_
    refine lv_imul hx hb dX9_clockCalled_24 ?_
    refine lv_topi (fun y_11 ey_11 => ?_)
    obtain rfl : y_11 = 0 := ey_11.trans (by decide)
    refine lv_iload_n hx hb dX9_clockCalled_25 rfl (lv_at hl 1 rfl) ?_
    refine lv_iadd hx hb dX9_clockCalled_26 ?_
    refine lv_topi (fun y_12 ey_12 => ?_)
    obtain rfl : y_12 = (nI (0 + g_2)) := ey_12.trans (nI_add 0 g_2)
    refine va_iald hx hb hK hP 1 0 rfl rfl (vp_in_nI (n := (0 + g_2)) (by omega) (Nat.le_of_ble_eq_true rfl)) dX9_clockCalled_27 ?_
    refine lv_topi (fun y_13 ey_13 => ?_)
    have ey_13 : y_13 = f1 (0 + g_2) := ey_13.trans (congrArg f1 (nI_clamp (n := (0 + g_2)) (by omega)))
    have hsp := hsp.trans (slet_eq ey_13)
    refine lv_aload_n hx hb dX9_clockCalled_28 rfl (lv_at hl 0 rfl) ?_
    refine va_get (D := (dC, dI)) (ci := 9) (v := .int x23) (C := RX9) (T := TX9) (N := 67) hx hb hts hiX9 hown hK hP 0 rfl rfl 23 (by decide) v_4 (fun _ h9 => h9) rfl dX9_clockCalled_29 ?_
    refine lv_icmp_ne (tgt := 37) hx hb dX9_clockCalled_32 (by decide) (fun c_14 => ?_) (fun c_14 => ?_)
    · have hcc_14 := c_14
      have hsp := hsp.trans (if_neg c_14)
      refine lv_iinc (v := (nI (g_2 + 1))) (lv' := [(1, .int (nI (g_2 + 1))), (0, .ref (ad 0))]) hx hb dX9_clockCalled_37 hl (k := 1) rfl (nI_1 _) (by decide) rfl (fun ls hl => ?_)
      refine lv_goto (tgt := 2) hx hb dX9_clockCalled_40 (by decide) ?_
      exact ih_3 (3 - (g_2 + 1)) (by omega) _ _ _ ⟨(g_2 + 1), rfl, (by omega), hin_7 _ hsp, hP, hD, hS, lv_sub hl [1, 0] rfl⟩
    · have hcc_14 := c_14
      have hsp := hsp.trans (if_pos c_14)
      have hsp := hout_8 _ hsp
      refine lv_iload_n hx hb dX9_clockCalled_35 rfl (lv_at hl 1 rfl) ?_
      exact W.iret (v := (nI g_2)) hx hb hr (fun t ht hW => ⟨⟨(nI g_2), (), rfl, ⟨g_2 + 1, by omega, rfl, (hsp.symm.trans hRR)⟩, trivial⟩, hS.F ht⟩) hS.2.2 dX9_clockCalled_36
theorem dX9_placeCalled_0 : decode cX9_placeCalled 0 = .ok (.iconst 0, 1) := by decide +kernel
theorem dX9_placeCalled_1 : decode cX9_placeCalled 1 = .ok (.istore_n 1, 1) := by decide +kernel
theorem dX9_placeCalled_2 : decode cX9_placeCalled 2 = .ok (.iload_n 1, 1) := by decide +kernel
theorem dX9_placeCalled_3 : decode cX9_placeCalled 3 = .ok (.aload_n 0, 1) := by decide +kernel
theorem dX9_placeCalled_4 : decode cX9_placeCalled 4 = .ok (.getfield 46, 3) := by decide +kernel
theorem dX9_placeCalled_7 : decode cX9_placeCalled 7 = .ok (.aload_n 0, 1) := by decide +kernel
theorem dX9_placeCalled_8 : decode cX9_placeCalled 8 = .ok (.getfield 203, 3) := by decide +kernel
theorem dX9_placeCalled_11 : decode cX9_placeCalled 11 = .ok (.iaload, 1) := by decide +kernel
theorem dX9_placeCalled_12 : decode cX9_placeCalled 12 = .ok (.if_icmp .ge 32, 3) := by decide +kernel
theorem dX9_placeCalled_15 : decode cX9_placeCalled 15 = .ok (.aload_n 0, 1) := by decide +kernel
theorem dX9_placeCalled_16 : decode cX9_placeCalled 16 = .ok (.getfield 13, 3) := by decide +kernel
theorem dX9_placeCalled_19 : decode cX9_placeCalled 19 = .ok (.bipush 8, 2) := by decide +kernel
theorem dX9_placeCalled_21 : decode cX9_placeCalled 21 = .ok (.aload_n 0, 1) := by decide +kernel
theorem dX9_placeCalled_22 : decode cX9_placeCalled 22 = .ok (.getfield 203, 3) := by decide +kernel
theorem dX9_placeCalled_25 : decode cX9_placeCalled 25 = .ok (.imul, 1) := by decide +kernel
theorem dX9_placeCalled_26 : decode cX9_placeCalled 26 = .ok (.iload_n 1, 1) := by decide +kernel
theorem dX9_placeCalled_27 : decode cX9_placeCalled 27 = .ok (.iadd, 1) := by decide +kernel
theorem dX9_placeCalled_28 : decode cX9_placeCalled 28 = .ok (.iaload, 1) := by decide +kernel
theorem dX9_placeCalled_29 : decode cX9_placeCalled 29 = .ok (.aload_n 0, 1) := by decide +kernel
theorem dX9_placeCalled_30 : decode cX9_placeCalled 30 = .ok (.getfield 169, 3) := by decide +kernel
theorem dX9_placeCalled_33 : decode cX9_placeCalled 33 = .ok (.if_icmp .ne 5, 3) := by decide +kernel
theorem dX9_placeCalled_36 : decode cX9_placeCalled 36 = .ok (.iload_n 1, 1) := by decide +kernel
theorem dX9_placeCalled_37 : decode cX9_placeCalled 37 = .ok (.ireturn, 1) := by decide +kernel
theorem dX9_placeCalled_38 : decode cX9_placeCalled 38 = .ok (.iinc 1 1, 3) := by decide +kernel
theorem dX9_placeCalled_41 : decode cX9_placeCalled 41 = .ok (.goto (-39), 3) := by decide +kernel
theorem dX9_placeCalled_44 : decode cX9_placeCalled 44 = .ok (.iconst (-1), 1) := by decide +kernel
theorem dX9_placeCalled_45 : decode cX9_placeCalled 45 = .ok (.ireturn, 1) := by decide +kernel
abbrev vs_EM_placeCalled_0 : List Cond := .code yX9_placeCalled cX9_placeCalled 2 (some .int) :: VM
noncomputable def sp_EM_placeCalled_0_L1 (x23 : Int32) (f2 : Nat → Int32) (m13_0 : Nat) : (Nat) → (Nat) ⊕ (Nat) := fun g_2 => (if m13_0 ≤ g_2 then (Sum.inr 0) else (slet (f2 (0 + g_2)) (fun y_13 => (if (y_13 : Int32) = x23 then (Sum.inr (g_2 + 1)) else (Sum.inl (g_2 + 1))))))
noncomputable def sp_EM_placeCalled_0 (x23 : Int32) (f2 : Nat → Int32) (m13_0 : Nat) : Nat := (itrv (α := Nat) (β := (Nat)) default (sp_EM_placeCalled_0_L1 x23 f2 m13_0) 0)
set_option maxHeartbeats 4000000 in
set_option maxRecDepth 100000 in
theorem c_EM_placeCalled_0 (l : Launch) (dC : Nat → ClassId) (dI : Nat → Nat → Nat) (sz : Nat) (ad : Nat → Nat) (ck : Nat → ClassId) (x0 : Int32) (x16 : Nat) (x18 : Nat) (x19 : Nat) (x20 : Int32) (x21 : Nat) (x22 : Nat) (x23 : Int32) (x24 : Int32) (x25 : Int32) (x26 : Nat) (x27 : Int32) (x29 : Nat) (x30 : Nat) (x33 : Nat) (x45 : Int32) (x46 : Nat) (x52 : Nat) (x53 : Nat) (x61 : Nat) (x62 : Nat) (x63 : Nat) (x65 : Nat) (x66 : Int32) (f1 : Nat → Int32) (f2 : Nat → Int32) (f3 : Nat → Int32) (q4 : Nat → Nat) (q5 : Nat → Nat) (q6 : Nat → Nat) (q7 : Nat → Nat) (f8 : Nat → Int32) (q9 : Nat → Nat) (q10 : Nat → Nat) (f11 : Nat → Int32) (m12_0 m12_1 : Nat) (m13_0 m13_1 : Nat) (m14_0 m14_1 : Nat) (m15_0 m15_1 : Nat) (f17 : Nat → Int32) (q31 : Nat → Nat) (f32 : Nat → Int32) (f34 : Nat → Int32) (f35 : Nat → Int32) (f36 : Nat → Int32) (f37 : Nat → Int32) (q38 : Nat → Nat) (f39 : Nat → Int32) (f40 : Nat → Int32) (f41 : Nat → Int32) (m42_0 m42_1 : Nat) (f43 : Nat → Int32) (f44 : Nat → Int32) (f47 : Nat → Int32) (f48 : Nat → Int32) (f49 : Nat → Int32) (f50 : Nat → Int32) (f51 : Nat → Int32) (q54 : Nat → Nat) (q55 : Nat → Nat) (q56 : Nat → Nat) (f57 : Nat → Int32) (q58 : Nat → Nat) (f59 : Nat → Int32) (f60 : Nat → Int32) (f64 : Nat → Int32) (hx16 : x16 ≤ 1) (hx18 : x18 ≤ 900) (hx19 : x19 ≤ 900) (hx21 : x21 ≤ 900) (hx22 : x22 ≤ 4) (hx26 : x26 ≤ 6) (hx29 : x29 ≤ 1) (hx30 : x30 ≤ 1) (hx33 : x33 ≤ 20) (hx46 : x46 ≤ 5) (hx52 : x52 ≤ 2400) (hx53 : x53 ≤ 119) (hx61 : x61 ≤ 119) (hx62 : x62 ≤ 2000) (hx63 : x63 ≤ 1) (hx65 : x65 ≤ 7) (hm12_0 : m12_0 ≤ 3) (hm12_1 : m12_1 ≤ 3) (hm13_0 : m13_0 ≤ 8) (hm13_1 : m13_1 ≤ 8) (hm14_0 : m14_0 ≤ 14) (hm14_1 : m14_1 ≤ 14) (hm15_0 : m15_0 ≤ 8) (hm15_1 : m15_1 ≤ 8) (hm42_0 : m42_0 ≤ 120) (hm42_1 : m42_1 ≤ 400) : Met l yX9_placeCalled vs_EM_placeCalled_0 ({ frames := 0, cells := 0, slots := 0, locals := 0 }) (va_Pc [.ref (ad 0)] (pu_B (dC, dI) (mo_w ad ck x0 (nI x16) (nI x18) (nI x19) x20 (nI x21) (nI x22) x23 x24 x25 (nI x26) x27 0 (nI x29) (nI x30) (nI x33) x45 (nI x46) (nI x52) (nI x53) (nI x61) (nI x62) (nI x63) (nI x65) x66 f1 f2 f3 (bN 3 q4) (bN 7 q5) (bN 7 q6) (bN 4 q7) f8 (bN 2 q9) (bH q10) f11 (b2 m12_0 m12_1) (b2 m13_0 m13_1) (b2 m14_0 m14_1) (b2m m15_0 m15_1) f17 (bA 159 q31) f32 f34 f35 f36 f37 (bN 7 q38) f39 f40 f41 (b2 m42_0 m42_1) f43 f44 f47 f48 f49 f50 f51 (bN 13 q54) (bN 120 q55) (bN 120 q56) f57 (bN 120 q58) f59 f60 f64) (mo_t ck) sz)) (va_Qi (fun (r : Int32) (_ : Unit) => ∃ v : Nat, v ≤ 8 ∧ r = mI v ∧ v = (sp_EM_placeCalled_0 x23 f2 m13_0)) (fun _ _ => True) (va_A [] sz)) 0 0 (va_A [] sz) := by
  refine Met.ofW (cc := cX9_placeCalled) (maxL := 2) (ret := (some .int)) (by decide) rfl ?_
  intro p e s m args below meth c s₁ B hml hv
  obtain ⟨rfl, rfl, hP, hK, hD0⟩ := hv
  have hx := B.exec
  have hb := B.bytes
  have hr := B.returns
  have hts := atoms_spec (ws := vs_EM_placeCalled_0) B.pre
  have v_1 := hts (.fieldLink RX9 46 "ClockReachModel" "placeMany" "[I") (List.mem_cons_of_mem _ vm_65)
  have v_2 := hts (.fieldLink RX9 203 "ClockReachModel" "rb" "I") (List.mem_cons_of_mem _ vm_63)
  have v_3 := hts (.fieldLink RX9 13 "ClockReachModel" "placeName" "[I") (List.mem_cons_of_mem _ vm_66)
  have v_4 := hts (.fieldLink RX9 169 "ClockReachModel" "value" "I") (List.mem_cons_of_mem _ vm_13)
  have hown : s.vm.findClass RX9 = some m.cls := findClass_of_methodNamed B.named
  have hlocks := B.notSynchronized
  have hiX9 : ∀ w ∈ wsX90, w ∈ vs_EM_placeCalled_0 := fun _ h => List.mem_cons_of_mem _ (vmi_L h)
  have hD := hD0
  have hA : ∀ q : Nat, s.heap.size ≤ q → va_A [] s.heap.size q := fun _ h => Or.inr h
  have hS : va_S (va_A [] s.heap.size) s.heap s.heap [] := va_S.rf
  have hl := lv_entry ([.ref (ad 0)]) (n := 2) (Nat.le_of_ble_eq_true rfl)
  rw [lg_entry_eq]
  generalize (lg_sl ([.ref (ad 0)]) ++ List.replicate (2 - (lg_sl ([.ref (ad 0)])).length) Slot.unset).toArray = ls at hl ⊢
  have hl : lv_has ls 2 [(0, .ref (ad 0))] := hl
  obtain ⟨RR, hRR⟩ : ∃ x, x = (sp_EM_placeCalled_0 x23 f2 m13_0) := ⟨_, rfl⟩
  have hsp := hRR
  refine lv_iconst (v := 0) hx hb dX9_placeCalled_0 (by decide) ?_
  refine lv_istore_n (lv' := [(1, .int 0), (0, .ref (ad 0))]) hx hb dX9_placeCalled_1 rfl hl (by decide) rfl (fun ls hl => ?_)
  obtain ⟨lf_4, dlf_4, hlf_4, hsp⟩ := itr_ex hsp
  delta sp_EM_placeCalled_0_L1 at hlf_4
  refine pu_while (fun nn H locs ls => ∃ (g_2 : Nat), nn = 8 - g_2 ∧ g_2 ≤ 8 ∧ RR = itrv dlf_4 lf_4 g_2 ∧ va_P (dC, dI) vwCl (mo_w ad ck x0 (nI x16) (nI x18) (nI x19) x20 (nI x21) (nI x22) x23 x24 x25 (nI x26) x27 0 (nI x29) (nI x30) (nI x33) x45 (nI x46) (nI x52) (nI x53) (nI x61) (nI x62) (nI x63) (nI x65) x66 f1 f2 f3 (bN 3 q4) (bN 7 q5) (bN 7 q6) (bN 4 q7) f8 (bN 2 q9) (bH q10) f11 (b2 m12_0 m12_1) (b2 m13_0 m13_1) (b2 m14_0 m14_1) (b2m m15_0 m15_1) f17 (bA 159 q31) f32 f34 f35 f36 f37 (bN 7 q38) f39 f40 f41 (b2 m42_0 m42_1) f43 f44 f47 f48 f49 f50 f51 (bN 13 q54) (bN 120 q55) (bN 120 q56) f57 (bN 120 q58) f59 f60 f64) H ∧ va_D (fun _ => True) (mo_w ad ck x0 (nI x16) (nI x18) (nI x19) x20 (nI x21) (nI x22) x23 x24 x25 (nI x26) x27 0 (nI x29) (nI x30) (nI x33) x45 (nI x46) (nI x52) (nI x53) (nI x61) (nI x62) (nI x63) (nI x65) x66 f1 f2 f3 (bN 3 q4) (bN 7 q5) (bN 7 q6) (bN 4 q7) f8 (bN 2 q9) (bH q10) f11 (b2 m12_0 m12_1) (b2 m13_0 m13_1) (b2 m14_0 m14_1) (b2m m15_0 m15_1) f17 (bA 159 q31) f32 f34 f35 f36 f37 (bN 7 q38) f39 f40 f41 (b2 m42_0 m42_1) f43 f44 f47 f48 f49 f50 f51 (bN 13 q54) (bN 120 q55) (bN 120 q56) f57 (bN 120 q58) f59 f60 f64) ∧ va_S (va_A [] s.heap.size) s.heap H locs ∧ lv_has ls 2 [(0, .ref (ad 0)), (1, .int (nI g_2))]) 2 ?_ _ _ _ _ ⟨0, rfl, (Nat.le_of_ble_eq_true rfl), hsp, hP, hD, hS, lv_sub hl [1, 0] rfl⟩
  rintro nn ih_3 H locs ls ⟨g_2, rfl, hg_2, he_6, hP, hD, hS, hl⟩
  obtain ⟨S_5, hsp, hin_7, hout_8⟩ := itr_step hlf_4 he_6
  refine lv_iload_n hx hb dX9_placeCalled_2 rfl (lv_at hl 1 rfl) ?_
  refine lv_aload_n hx hb dX9_placeCalled_3 rfl (lv_at hl 0 rfl) ?_
  refine va_get (D := (dC, dI)) (ci := 9) (v := .ref (ad 13)) (C := RX9) (T := TX9) (N := 67) hx hb hts hiX9 hown hK hP 0 rfl rfl 13 (by decide) v_1 (fun _ h9 => h9) rfl dX9_placeCalled_4 ?_
  refine lv_aload_n hx hb dX9_placeCalled_7 rfl (lv_at hl 0 rfl) ?_
  refine va_get (D := (dC, dI)) (ci := 9) (v := .int 0) (C := RX9) (T := TX9) (N := 67) hx hb hts hiX9 hown hK hP 0 rfl rfl 28 (by decide) v_2 (fun _ h9 => h9) rfl dX9_placeCalled_8 ?_
  refine va_iald hx hb hK hP 13 12 rfl rfl (vp_in_nI (n := 0) (Nat.le_of_ble_eq_true rfl) (Nat.le_of_ble_eq_true rfl)) dX9_placeCalled_11 ?_
  refine lv_topi (fun y_9 ey_9 => ?_)
  have qy_9 := ey_9.trans b2_0
  clear ey_9
  obtain rfl : y_9 = nI m13_0 := qy_9
  refine lv_icmp_ge (tgt := 44) hx hb dX9_placeCalled_12 (by decide) (fun c_10 => ?_) (fun c_10 => ?_)
  · have c_10 : m13_0 ≤ g_2 := (nI_leI (a := m13_0) (b := g_2) (Nat.lt_of_le_of_lt hm13_0 (Nat.le_of_ble_eq_true rfl)) (Nat.lt_of_le_of_lt hg_2 (Nat.le_of_ble_eq_true rfl))).mp c_10
    have hsp := hsp.trans (if_pos c_10)
    have hsp := hout_8 _ hsp
    refine lv_iconst (v := (-1)) hx hb dX9_placeCalled_44 (by decide) ?_
    exact W.iret (v := (-1)) hx hb hr (fun t ht hW => ⟨⟨(-1), (), rfl, ⟨0, by omega, rfl, (hsp.symm.trans hRR)⟩, trivial⟩, hS.F ht⟩) hS.2.2 dX9_placeCalled_45
  · have c_10 : ¬ m13_0 ≤ g_2 := fun z => c_10 ((nI_leI (a := m13_0) (b := g_2) (Nat.lt_of_le_of_lt hm13_0 (Nat.le_of_ble_eq_true rfl)) (Nat.lt_of_le_of_lt hg_2 (Nat.le_of_ble_eq_true rfl))).mpr z)
    have hsp := hsp.trans (if_neg c_10)
    refine lv_aload_n hx hb dX9_placeCalled_15 rfl (lv_at hl 0 rfl) ?_
    refine va_get (D := (dC, dI)) (ci := 9) (v := .ref (ad 2)) (C := RX9) (T := TX9) (N := 67) hx hb hts hiX9 hown hK hP 0 rfl rfl 2 (by decide) v_3 (fun _ h9 => h9) rfl dX9_placeCalled_16 ?_
    refine lv_bipush (v := 8) hx hb dX9_placeCalled_19 (by decide) ?_
    refine lv_aload_n hx hb dX9_placeCalled_21 rfl (lv_at hl 0 rfl) ?_
    refine va_get (D := (dC, dI)) (ci := 9) (v := .int 0) (C := RX9) (T := TX9) (N := 67) hx hb hts hiX9 hown hK hP 0 rfl rfl 28 (by decide) v_2 (fun _ h9 => h9) rfl dX9_placeCalled_22 ?_
    refine lv_imul hx hb dX9_placeCalled_25 ?_
    refine lv_topi (fun y_11 ey_11 => ?_)
    obtain rfl : y_11 = 0 := ey_11.trans (by decide)
    refine lv_iload_n hx hb dX9_placeCalled_26 rfl (lv_at hl 1 rfl) ?_
    refine lv_iadd hx hb dX9_placeCalled_27 ?_
    refine lv_topi (fun y_12 ey_12 => ?_)
    obtain rfl : y_12 = (nI (0 + g_2)) := ey_12.trans (nI_add 0 g_2)
    refine va_iald hx hb hK hP 2 1 rfl rfl (vp_in_nI (n := (0 + g_2)) (by omega) (Nat.le_of_ble_eq_true rfl)) dX9_placeCalled_28 ?_
    refine lv_topi (fun y_13 ey_13 => ?_)
    have ey_13 : y_13 = f2 (0 + g_2) := ey_13.trans (congrArg f2 (nI_clamp (n := (0 + g_2)) (by omega)))
    have hsp := hsp.trans (slet_eq ey_13)
    refine lv_aload_n hx hb dX9_placeCalled_29 rfl (lv_at hl 0 rfl) ?_
    refine va_get (D := (dC, dI)) (ci := 9) (v := .int x23) (C := RX9) (T := TX9) (N := 67) hx hb hts hiX9 hown hK hP 0 rfl rfl 23 (by decide) v_4 (fun _ h9 => h9) rfl dX9_placeCalled_30 ?_
    refine lv_icmp_ne (tgt := 38) hx hb dX9_placeCalled_33 (by decide) (fun c_14 => ?_) (fun c_14 => ?_)
    · have hcc_14 := c_14
      have hsp := hsp.trans (if_neg c_14)
      refine lv_iinc (v := (nI (g_2 + 1))) (lv' := [(1, .int (nI (g_2 + 1))), (0, .ref (ad 0))]) hx hb dX9_placeCalled_38 hl (k := 1) rfl (nI_1 _) (by decide) rfl (fun ls hl => ?_)
      refine lv_goto (tgt := 2) hx hb dX9_placeCalled_41 (by decide) ?_
      exact ih_3 (8 - (g_2 + 1)) (by omega) _ _ _ ⟨(g_2 + 1), rfl, (by omega), hin_7 _ hsp, hP, hD, hS, lv_sub hl [1, 0] rfl⟩
    · have hcc_14 := c_14
      have hsp := hsp.trans (if_pos c_14)
      have hsp := hout_8 _ hsp
      refine lv_iload_n hx hb dX9_placeCalled_36 rfl (lv_at hl 1 rfl) ?_
      exact W.iret (v := (nI g_2)) hx hb hr (fun t ht hW => ⟨⟨(nI g_2), (), rfl, ⟨g_2 + 1, by omega, rfl, (hsp.symm.trans hRR)⟩, trivial⟩, hS.F ht⟩) hS.2.2 dX9_placeCalled_37
theorem dX9_freshName_0 : decode cX9_freshName 0 = .ok (.aload_n 0, 1) := by decide +kernel
theorem dX9_freshName_1 : decode cX9_freshName 1 = .ok (.invokevirtual 213, 3) := by decide +kernel
theorem dX9_freshName_4 : decode cX9_freshName 4 = .ok (.aload_n 0, 1) := by decide +kernel
theorem dX9_freshName_5 : decode cX9_freshName 5 = .ok (.invokevirtual 216, 3) := by decide +kernel
theorem dX9_freshName_8 : decode cX9_freshName 8 = .ok (.ifCond .eq 22, 3) := by decide +kernel
theorem dX9_freshName_11 : decode cX9_freshName 11 = .ok (.aload_n 0, 1) := by decide +kernel
theorem dX9_freshName_12 : decode cX9_freshName 12 = .ok (.invokevirtual 219, 3) := by decide +kernel
theorem dX9_freshName_15 : decode cX9_freshName 15 = .ok (.ifCond .ge 10, 3) := by decide +kernel
theorem dX9_freshName_18 : decode cX9_freshName 18 = .ok (.aload_n 0, 1) := by decide +kernel
theorem dX9_freshName_19 : decode cX9_freshName 19 = .ok (.invokevirtual 223, 3) := by decide +kernel
theorem dX9_freshName_22 : decode cX9_freshName 22 = .ok (.ifCond .lt 8, 3) := by decide +kernel
theorem dX9_freshName_25 : decode cX9_freshName 25 = .ok (.aload_n 0, 1) := by decide +kernel
theorem dX9_freshName_26 : decode cX9_freshName 26 = .ok (.iconst 3, 1) := by decide +kernel
theorem dX9_freshName_27 : decode cX9_freshName 27 = .ok (.invokevirtual 210, 3) := by decide +kernel
theorem dX9_freshName_30 : decode cX9_freshName 30 = .ok (.aload_n 0, 1) := by decide +kernel
theorem dX9_freshName_31 : decode cX9_freshName 31 = .ok (.getfield 169, 3) := by decide +kernel
theorem dX9_freshName_34 : decode cX9_freshName 34 = .ok (.istore_n 1, 1) := by decide +kernel
theorem dX9_freshName_35 : decode cX9_freshName 35 = .ok (.aload_n 0, 1) := by decide +kernel
theorem dX9_freshName_36 : decode cX9_freshName 36 = .ok (.invokevirtual 216, 3) := by decide +kernel
theorem dX9_freshName_39 : decode cX9_freshName 39 = .ok (.ifCond .eq 7, 3) := by decide +kernel
theorem dX9_freshName_42 : decode cX9_freshName 42 = .ok (.aload_n 0, 1) := by decide +kernel
theorem dX9_freshName_43 : decode cX9_freshName 43 = .ok (.invokevirtual 226, 3) := by decide +kernel
theorem dX9_freshName_46 : decode cX9_freshName 46 = .ok (.iload_n 1, 1) := by decide +kernel
theorem dX9_freshName_47 : decode cX9_freshName 47 = .ok (.ireturn, 1) := by decide +kernel
abbrev vs_EM_freshName_0 : List Cond := .code yX9_freshName cX9_freshName 2 (some .int) :: VM
theorem g_EM_freshName_0_EM_mustBeName : GoodIn vs_EM_freshName_0 (wsV RX9 213 RX9 yX9_mustBeName vs_EM_mustBeName) := gm_V vm_67 vm_68 vm_69 vm_19 vm_70
theorem g_EM_freshName_0_EM_isGood : GoodIn vs_EM_freshName_0 (wsV RX9 216 RX9 yX9_isGood vs_EM_isGood) := gm_V vm_71 vm_72 vm_73 vm_19 vm_74
theorem g_EM_freshName_0_EM_next : GoodIn vs_EM_freshName_0 (wsV RX9 226 RX9 yX9_next vs_EM_next) := gm_V vm_75 vm_76 vm_77 vm_19 vm_78
theorem g_EM_freshName_0_EM_clockCalled_0 : GoodIn vs_EM_freshName_0 (wsV RX9 219 RX9 yX9_clockCalled vs_EM_clockCalled_0) := gm_V vm_79 vm_80 vm_81 vm_19 vm_82
theorem g_EM_freshName_0_EM_placeCalled_0 : GoodIn vs_EM_freshName_0 (wsV RX9 223 RX9 yX9_placeCalled vs_EM_placeCalled_0) := gm_V vm_83 vm_84 vm_85 vm_19 vm_86
theorem g_EM_freshName_0_EM_fails : GoodIn vs_EM_freshName_0 (wsV RX9 210 RX9 yX9_fails vs_EM_fails) := gm_V vm_29 vm_30 vm_31 vm_19 vm_32
noncomputable def sp_EM_freshName_0 (x19 : Nat) (x20 : Int32) (x21 : Nat) (x22 : Nat) (x23 : Int32) (x26 : Nat) (x27 : Int32) (f1 : Nat → Int32) (f2 : Nat → Int32) (m12_0 : Nat) (m13_0 : Nat) (f17 : Nat → Int32) : Int32 × Int32 × Nat × Nat × Int32 × Nat × Int32 := (slet (sp_EM_mustBeName x20 x22 x23 x26 x27) (fun (z26_2, z27_3) => (slet (sp_EM_isGood z26_2) (fun u_5 => (slet (α := Nat × Int32) (if u_5 = 0 then (z26_2, z27_3) else (slet (sp_EM_clockCalled_0 x23 f1 m12_0) (fun u_22 => (if u_22 = 0 then (slet (sp_EM_placeCalled_0 x23 f2 m13_0) (fun u_25 => (if u_25 = 0 then (z26_2, z27_3) else (slet (u_25 - 1) (fun n_26 => (slet (sp_EM_fails x20 x22 z26_2 z27_3 3) (fun (z26_29, z27_30) => (z26_29, z27_30)))))))) else (slet (u_22 - 1) (fun n_23 => (slet (sp_EM_fails x20 x22 z26_2 z27_3 3) (fun (z26_33, z27_34) => (z26_33, z27_34))))))))) (fun (g_6, g_7) => (slet (sp_EM_isGood g_6) (fun u_13 => (if u_13 = 0 then (x23, x20, x21, x22, x23, g_6, g_7) else (slet (sp_EM_next x19 x21 f17) (fun (z20_16, z21_17, z22_18, z23_19) => (x23, z20_16, z21_17, z22_18, z23_19, g_6, g_7))))))))))))
set_option maxHeartbeats 4000000 in
set_option maxRecDepth 100000 in
theorem c_EM_freshName_0 (l : Launch) (dC : Nat → ClassId) (dI : Nat → Nat → Nat) (sz : Nat) (ad : Nat → Nat) (ck : Nat → ClassId) (x0 : Int32) (x16 : Nat) (x18 : Nat) (x19 : Nat) (x20 : Int32) (x21 : Nat) (x22 : Nat) (x23 : Int32) (x24 : Int32) (x25 : Int32) (x26 : Nat) (x27 : Int32) (x29 : Nat) (x30 : Nat) (x33 : Nat) (x45 : Int32) (x46 : Nat) (x52 : Nat) (x53 : Nat) (x61 : Nat) (x62 : Nat) (x63 : Nat) (x65 : Nat) (x66 : Int32) (f1 : Nat → Int32) (f2 : Nat → Int32) (f3 : Nat → Int32) (q4 : Nat → Nat) (q5 : Nat → Nat) (q6 : Nat → Nat) (q7 : Nat → Nat) (f8 : Nat → Int32) (q9 : Nat → Nat) (q10 : Nat → Nat) (f11 : Nat → Int32) (m12_0 m12_1 : Nat) (m13_0 m13_1 : Nat) (m14_0 m14_1 : Nat) (m15_0 m15_1 : Nat) (f17 : Nat → Int32) (q31 : Nat → Nat) (f32 : Nat → Int32) (f34 : Nat → Int32) (f35 : Nat → Int32) (f36 : Nat → Int32) (f37 : Nat → Int32) (q38 : Nat → Nat) (f39 : Nat → Int32) (f40 : Nat → Int32) (f41 : Nat → Int32) (m42_0 m42_1 : Nat) (f43 : Nat → Int32) (f44 : Nat → Int32) (f47 : Nat → Int32) (f48 : Nat → Int32) (f49 : Nat → Int32) (f50 : Nat → Int32) (f51 : Nat → Int32) (q54 : Nat → Nat) (q55 : Nat → Nat) (q56 : Nat → Nat) (f57 : Nat → Int32) (q58 : Nat → Nat) (f59 : Nat → Int32) (f60 : Nat → Int32) (f64 : Nat → Int32) (hx16 : x16 ≤ 1) (hx18 : x18 ≤ 900) (hx19 : x19 ≤ 900) (hx21 : x21 ≤ 900) (hx22 : x22 ≤ 4) (hx26 : x26 ≤ 6) (hx29 : x29 ≤ 1) (hx30 : x30 ≤ 1) (hx33 : x33 ≤ 20) (hx46 : x46 ≤ 5) (hx52 : x52 ≤ 2400) (hx53 : x53 ≤ 119) (hx61 : x61 ≤ 119) (hx62 : x62 ≤ 2000) (hx63 : x63 ≤ 1) (hx65 : x65 ≤ 7) (hm12_0 : m12_0 ≤ 3) (hm12_1 : m12_1 ≤ 3) (hm13_0 : m13_0 ≤ 8) (hm13_1 : m13_1 ≤ 8) (hm14_0 : m14_0 ≤ 14) (hm14_1 : m14_1 ≤ 14) (hm15_0 : m15_0 ≤ 8) (hm15_1 : m15_1 ≤ 8) (hm42_0 : m42_0 ≤ 120) (hm42_1 : m42_1 ≤ 400) : Met l yX9_freshName vs_EM_freshName_0 ({ frames := 3, cells := 0, slots := 0, locals := 61 }) (va_Pc [.ref (ad 0)] (pu_B (dC, dI) (mo_w ad ck x0 (nI x16) (nI x18) (nI x19) x20 (nI x21) (nI x22) x23 x24 x25 (nI x26) x27 0 (nI x29) (nI x30) (nI x33) x45 (nI x46) (nI x52) (nI x53) (nI x61) (nI x62) (nI x63) (nI x65) x66 f1 f2 f3 (bN 3 q4) (bN 7 q5) (bN 7 q6) (bN 4 q7) f8 (bN 2 q9) (bH q10) f11 (b2 m12_0 m12_1) (b2 m13_0 m13_1) (b2 m14_0 m14_1) (b2m m15_0 m15_1) f17 (bA 159 q31) f32 f34 f35 f36 f37 (bN 7 q38) f39 f40 f41 (b2 m42_0 m42_1) f43 f44 f47 f48 f49 f50 f51 (bN 13 q54) (bN 120 q55) (bN 120 q56) f57 (bN 120 q58) f59 f60 f64) (mo_t ck) sz)) (va_Qi (fun (r : Int32) (_ : Unit) => r = (sp_EM_freshName_0 x19 x20 x21 x22 x23 x26 x27 f1 f2 m12_0 m13_0 f17).1) (fun _ t => ∃ (z20 : Int32) (z21 : Nat) (z22 : Nat) (z23 : Int32) (z26 : Nat) (z27 : Int32), pu_E (dC, dI) (mo_w ad ck x0 (nI x16) (nI x18) (nI x19) z20 (nI z21) (nI z22) z23 x24 x25 (nI z26) z27 0 (nI x29) (nI x30) (nI x33) x45 (nI x46) (nI x52) (nI x53) (nI x61) (nI x62) (nI x63) (nI x65) x66 f1 f2 f3 (bN 3 q4) (bN 7 q5) (bN 7 q6) (bN 4 q7) f8 (bN 2 q9) (bH q10) f11 (b2 m12_0 m12_1) (b2 m13_0 m13_1) (b2 m14_0 m14_1) (b2m m15_0 m15_1) f17 (bA 159 q31) f32 f34 f35 f36 f37 (bN 7 q38) f39 f40 f41 (b2 m42_0 m42_1) f43 f44 f47 f48 f49 f50 f51 (bN 13 q54) (bN 120 q55) (bN 120 q56) f57 (bN 120 q58) f59 f60 f64) (mo_t ck) (va_A ((mo_w ad ck x0 (nI x16) (nI x18) (nI x19) x20 (nI x21) (nI x22) x23 x24 x25 (nI x26) x27 0 (nI x29) (nI x30) (nI x33) x45 (nI x46) (nI x52) (nI x53) (nI x61) (nI x62) (nI x63) (nI x65) x66 f1 f2 f3 (bN 3 q4) (bN 7 q5) (bN 7 q6) (bN 4 q7) f8 (bN 2 q9) (bH q10) f11 (b2 m12_0 m12_1) (b2 m13_0 m13_1) (b2 m14_0 m14_1) (b2m m15_0 m15_1) f17 (bA 159 q31) f32 f34 f35 f36 f37 (bN 7 q38) f39 f40 f41 (b2 m42_0 m42_1) f43 f44 f47 f48 f49 f50 f51 (bN 13 q54) (bN 120 q55) (bN 120 q56) f57 (bN 120 q58) f59 f60 f64)) sz) t ∧ (z21 ≤ 900) ∧ (z22 ≤ 4) ∧ (z26 ≤ 6) ∧ (mu z21 z22 ≤ mu x21 x22) ∧ ((z20, z21, z22, z23, z26, z27) = (sp_EM_freshName_0 x19 x20 x21 x22 x23 x26 x27 f1 f2 m12_0 m13_0 f17).2)) (va_A ((mo_w ad ck x0 (nI x16) (nI x18) (nI x19) x20 (nI x21) (nI x22) x23 x24 x25 (nI x26) x27 0 (nI x29) (nI x30) (nI x33) x45 (nI x46) (nI x52) (nI x53) (nI x61) (nI x62) (nI x63) (nI x65) x66 f1 f2 f3 (bN 3 q4) (bN 7 q5) (bN 7 q6) (bN 4 q7) f8 (bN 2 q9) (bH q10) f11 (b2 m12_0 m12_1) (b2 m13_0 m13_1) (b2 m14_0 m14_1) (b2m m15_0 m15_1) f17 (bA 159 q31) f32 f34 f35 f36 f37 (bN 7 q38) f39 f40 f41 (b2 m42_0 m42_1) f43 f44 f47 f48 f49 f50 f51 (bN 13 q54) (bN 120 q55) (bN 120 q56) f57 (bN 120 q58) f59 f60 f64)) sz)) 0 0 (va_A ((mo_w ad ck x0 (nI x16) (nI x18) (nI x19) x20 (nI x21) (nI x22) x23 x24 x25 (nI x26) x27 0 (nI x29) (nI x30) (nI x33) x45 (nI x46) (nI x52) (nI x53) (nI x61) (nI x62) (nI x63) (nI x65) x66 f1 f2 f3 (bN 3 q4) (bN 7 q5) (bN 7 q6) (bN 4 q7) f8 (bN 2 q9) (bH q10) f11 (b2 m12_0 m12_1) (b2 m13_0 m13_1) (b2 m14_0 m14_1) (b2m m15_0 m15_1) f17 (bA 159 q31) f32 f34 f35 f36 f37 (bN 7 q38) f39 f40 f41 (b2 m42_0 m42_1) f43 f44 f47 f48 f49 f50 f51 (bN 13 q54) (bN 120 q55) (bN 120 q56) f57 (bN 120 q58) f59 f60 f64)) sz) := by
  refine Met.ofW (cc := cX9_freshName) (maxL := 2) (ret := (some .int)) (by decide) rfl ?_
  intro p e s m args below meth c s₁ B hml hv
  obtain ⟨rfl, rfl, hP, hK, hD0⟩ := hv
  have hx := B.exec
  have hb := B.bytes
  have hr := B.returns
  have hts := atoms_spec (ws := vs_EM_freshName_0) B.pre
  have v_22 := hts (.fieldLink RX9 169 "ClockReachModel" "value" "I") (List.mem_cons_of_mem _ vm_13)
  have hown : s.vm.findClass RX9 = some m.cls := findClass_of_methodNamed B.named
  have hlocks := B.notSynchronized
  have hiX9 : ∀ w ∈ wsX90, w ∈ vs_EM_freshName_0 := fun _ h => List.mem_cons_of_mem _ (vmi_L h)
  have hD := hD0.self (sz := s.heap.size)
  generalize hAe : va_A ((mo_w ad ck x0 (nI x16) (nI x18) (nI x19) x20 (nI x21) (nI x22) x23 x24 x25 (nI x26) x27 0 (nI x29) (nI x30) (nI x33) x45 (nI x46) (nI x52) (nI x53) (nI x61) (nI x62) (nI x63) (nI x65) x66 f1 f2 f3 (bN 3 q4) (bN 7 q5) (bN 7 q6) (bN 4 q7) f8 (bN 2 q9) (bH q10) f11 (b2 m12_0 m12_1) (b2 m13_0 m13_1) (b2 m14_0 m14_1) (b2m m15_0 m15_1) f17 (bA 159 q31) f32 f34 f35 f36 f37 (bN 7 q38) f39 f40 f41 (b2 m42_0 m42_1) f43 f44 f47 f48 f49 f50 f51 (bN 13 q54) (bN 120 q55) (bN 120 q56) f57 (bN 120 q58) f59 f60 f64)) s.heap.size = A at hD ⊢
  have hA : ∀ q : Nat, s.heap.size ≤ q → A q := fun q h => by rw [← hAe]; exact Or.inr h
  have hS : va_S A s.heap s.heap [] := va_S.rf
  have hl := lv_entry ([.ref (ad 0)]) (n := 2) (Nat.le_of_ble_eq_true rfl)
  rw [lg_entry_eq]
  generalize (lg_sl ([.ref (ad 0)]) ++ List.replicate (2 - (lg_sl ([.ref (ad 0)])).length) Slot.unset).toArray = ls at hl ⊢
  have hl : lv_has ls 2 [(0, .ref (ad 0))] := hl
  obtain ⟨RR, hRR⟩ : ∃ x, x = (sp_EM_freshName_0 x19 x20 x21 x22 x23 x26 x27 f1 f2 m12_0 m13_0 f17) := ⟨_, rfl⟩
  have hsp := hRR
  refine lv_aload_n hx hb dX9_freshName_0 rfl (lv_at hl 0 rfl) ?_
  have hFc := pu_free hD hS hA
  refine va_callv (va_runV (As := []) (rest := []) ⟨hx, hb, hml, hown, hts⟩ (c_EM_mustBeName l dC dI _ ad ck x0 x16 x18 x19 x20 x21 x22 x23 x24 x25 x26 x27 0 x29 x30 x33 x45 x46 x52 x53 x61 x62 x63 x65 x66 f1 f2 f3 q4 q5 q6 q7 f8 q9 q10 f11 m12_0 m12_1 m13_0 m13_1 m14_0 m14_1 m15_0 m15_1 f17 q31 f32 f34 f35 f36 f37 q38 f39 f40 f41 m42_0 m42_1 f43 f44 f47 f48 f49 f50 f51 q54 q55 q56 f57 q58 f59 f60 f64 hx16 hx18 hx19 hx21 hx22 hx26 (Nat.le_of_ble_eq_true rfl) hx29 hx30 hx33 hx46 hx52 hx53 hx61 hx62 hx63 hx65 hm12_0 hm12_1 hm13_0 hm13_1 hm14_0 hm14_1 hm15_0 hm15_1 hm42_0 hm42_1) (cwV 0 hts g_EM_freshName_0_EM_mustBeName rfl rfl rfl (by decide +kernel) ⟨Nat.le_of_ble_eq_true rfl, Nat.le_of_ble_eq_true rfl⟩) ⟨pu_bl, va_recv hK hP (ci := 9) (q0 := 0) rfl rfl, pu_in hP hK hD⟩ rfl rfl hl.1 rfl (lv_room (Nat.le_of_ble_eq_true rfl)) dX9_freshName_1 ⟨Nat.le_of_ble_eq_true rfl, Nat.le_of_ble_eq_true rfl⟩) hS (fun q _ h => hFc q h) hFc (fun u t H1 locs ht hvm hw hB hz1 hk1 hS => ?_)
  obtain ⟨z26_2, z27_3, ⟨hP1, -, hD1⟩, hz26_2, xr_1_0, xr_1_1⟩ := hB
  rw [ht] at hP1
  have hP := hP1
  have hD := pu_all hFc hD1
  clear hP1 hD1 hFc
  clear hk1 hz1 ht hvm
  generalize H1 = H at hP hS ⊢
  have hsp := hsp.trans (slet_eq xr_1_1)
  refine lv_aload_n hx hb dX9_freshName_4 rfl (lv_at hl 0 rfl) ?_
  refine va_calli (va_runV (As := []) (rest := []) ⟨hx, hb, hml, hown, hts⟩ (c_EM_isGood l dC dI _ ad ck x0 x16 x18 x19 x20 x21 x22 x23 x24 x25 z26_2 z27_3 0 x29 x30 x33 x45 x46 x52 x53 x61 x62 x63 x65 x66 f1 f2 f3 q4 q5 q6 q7 f8 q9 q10 f11 m12_0 m12_1 m13_0 m13_1 m14_0 m14_1 m15_0 m15_1 f17 q31 f32 f34 f35 f36 f37 q38 f39 f40 f41 m42_0 m42_1 f43 f44 f47 f48 f49 f50 f51 q54 q55 q56 f57 q58 f59 f60 f64 hx16 hx18 hx19 hx21 hx22 hz26_2 (Nat.le_of_ble_eq_true rfl) hx29 hx30 hx33 hx46 hx52 hx53 hx61 hx62 hx63 hx65 hm12_0 hm12_1 hm13_0 hm13_1 hm14_0 hm14_1 hm15_0 hm15_1 hm42_0 hm42_1) (cwV 0 hts g_EM_freshName_0_EM_isGood rfl rfl rfl (by decide +kernel) ⟨Nat.le_of_ble_eq_true rfl, Nat.le_of_ble_eq_true rfl⟩) ⟨pu_bl, va_recv hK hP (ci := 9) (q0 := 0) rfl rfl, pu_in hP hK hD⟩ rfl rfl hl.1 rfl (lv_room (Nat.le_of_ble_eq_true rfl)) dX9_freshName_5 ⟨Nat.le_of_ble_eq_true rfl, Nat.le_of_ble_eq_true rfl⟩) hS (fun q _ h => pu_fr hS hA q h) (pu_fr hS hA) (fun r_4 u t H1 locs ht hvm hw hB hz1 hk1 hS => ?_)
  have hP := pu_keep hP hk1
  clear hk1 hz1 ht hvm
  generalize H1 = H at hP hS ⊢
  obtain ⟨u_5, hu_5, rfl, ju_5, iu_5⟩ := hw
  have hsp := hsp.trans (slet_eq iu_5)
  obtain ⟨JR_10, hJR_10, hsp⟩ := slet_ex hsp
  refine pu_join (fun H locs ls st => ∃ (g_6 : Nat) (g_7 : Int32), st = [] ∧ g_6 ≤ 6 ∧ mu x21 x22 ≤ mu x21 x22 ∧ (g_6, g_7) = JR_10 ∧ va_P (dC, dI) vwCl (mo_w ad ck x0 (nI x16) (nI x18) (nI x19) x20 (nI x21) (nI x22) x23 x24 x25 (nI g_6) g_7 0 (nI x29) (nI x30) (nI x33) x45 (nI x46) (nI x52) (nI x53) (nI x61) (nI x62) (nI x63) (nI x65) x66 f1 f2 f3 (bN 3 q4) (bN 7 q5) (bN 7 q6) (bN 4 q7) f8 (bN 2 q9) (bH q10) f11 (b2 m12_0 m12_1) (b2 m13_0 m13_1) (b2 m14_0 m14_1) (b2m m15_0 m15_1) f17 (bA 159 q31) f32 f34 f35 f36 f37 (bN 7 q38) f39 f40 f41 (b2 m42_0 m42_1) f43 f44 f47 f48 f49 f50 f51 (bN 13 q54) (bN 120 q55) (bN 120 q56) f57 (bN 120 q58) f59 f60 f64) H ∧ va_D A (mo_w ad ck x0 (nI x16) (nI x18) (nI x19) x20 (nI x21) (nI x22) x23 x24 x25 (nI g_6) g_7 0 (nI x29) (nI x30) (nI x33) x45 (nI x46) (nI x52) (nI x53) (nI x61) (nI x62) (nI x63) (nI x65) x66 f1 f2 f3 (bN 3 q4) (bN 7 q5) (bN 7 q6) (bN 4 q7) f8 (bN 2 q9) (bH q10) f11 (b2 m12_0 m12_1) (b2 m13_0 m13_1) (b2 m14_0 m14_1) (b2m m15_0 m15_1) f17 (bA 159 q31) f32 f34 f35 f36 f37 (bN 7 q38) f39 f40 f41 (b2 m42_0 m42_1) f43 f44 f47 f48 f49 f50 f51 (bN 13 q54) (bN 120 q55) (bN 120 q56) f57 (bN 120 q58) f59 f60 f64) ∧ va_S A s.heap H locs ∧ lv_has ls 2 [(0, .ref (ad 0))]) 30 ?_ (fun j_9 => ?_)
  · rintro H locs ls st ⟨g_6, g_7, rfl, hg_6, he_8, he_11, hP, hD, hS, hl⟩
    rw [← he_11] at hsp
    refine lv_aload_n hx hb dX9_freshName_30 rfl (lv_at hl 0 rfl) ?_
    refine va_get (D := (dC, dI)) (ci := 9) (v := .int x23) (C := RX9) (T := TX9) (N := 67) hx hb hts hiX9 hown hK hP 0 rfl rfl 23 (by decide) v_22 (fun _ h9 => h9) rfl dX9_freshName_31 ?_
    refine lv_istore_n (lv' := [(1, .int x23), (0, .ref (ad 0))]) hx hb dX9_freshName_34 rfl hl (by decide) rfl (fun ls hl => ?_)
    refine lv_aload_n hx hb dX9_freshName_35 rfl (lv_at hl 1 rfl) ?_
    refine va_calli (va_runV (As := []) (rest := []) ⟨hx, hb, hml, hown, hts⟩ (c_EM_isGood l dC dI _ ad ck x0 x16 x18 x19 x20 x21 x22 x23 x24 x25 g_6 g_7 0 x29 x30 x33 x45 x46 x52 x53 x61 x62 x63 x65 x66 f1 f2 f3 q4 q5 q6 q7 f8 q9 q10 f11 m12_0 m12_1 m13_0 m13_1 m14_0 m14_1 m15_0 m15_1 f17 q31 f32 f34 f35 f36 f37 q38 f39 f40 f41 m42_0 m42_1 f43 f44 f47 f48 f49 f50 f51 q54 q55 q56 f57 q58 f59 f60 f64 hx16 hx18 hx19 hx21 hx22 hg_6 (Nat.le_of_ble_eq_true rfl) hx29 hx30 hx33 hx46 hx52 hx53 hx61 hx62 hx63 hx65 hm12_0 hm12_1 hm13_0 hm13_1 hm14_0 hm14_1 hm15_0 hm15_1 hm42_0 hm42_1) (cwV 0 hts g_EM_freshName_0_EM_isGood rfl rfl rfl (by decide +kernel) ⟨Nat.le_of_ble_eq_true rfl, Nat.le_of_ble_eq_true rfl⟩) ⟨pu_bl, va_recv hK hP (ci := 9) (q0 := 0) rfl rfl, pu_in hP hK hD⟩ rfl rfl hl.1 rfl (lv_room (Nat.le_of_ble_eq_true rfl)) dX9_freshName_36 ⟨Nat.le_of_ble_eq_true rfl, Nat.le_of_ble_eq_true rfl⟩) hS (fun q _ h => pu_fr hS hA q h) (pu_fr hS hA) (fun r_12 u t H1 locs ht hvm hw hB hz1 hk1 hS => ?_)
    have hP := pu_keep hP hk1
    clear hk1 hz1 ht hvm
    generalize H1 = H at hP hS ⊢
    obtain ⟨u_13, hu_13, rfl, ju_13, iu_13⟩ := hw
    have hsp := hsp.trans (slet_eq iu_13)
    refine lv_if_eq (tgt := 46) hx hb dX9_freshName_39 (by decide) (fun c_14 => ?_) (fun c_14 => ?_)
    · have c_14 : u_13 = 0 := (nI_eq (a := u_13) (b := 0) (Nat.lt_of_le_of_lt hu_13 (Nat.le_of_ble_eq_true rfl)) (Nat.le_of_ble_eq_true rfl)).mp c_14
      have hsp := hsp.trans (if_pos c_14)
      refine lv_iload_n hx hb dX9_freshName_46 rfl (lv_at hl 0 rfl) ?_
      exact W.iret (v := x23) hx hb hr (fun t ht hW => ⟨⟨x23, (), rfl, (congrArg Prod.fst (hsp.symm.trans hRR)), ⟨x20, x21, x22, x23, g_6, g_7, ⟨by rw [ht]; exact hP, va_K.moved hW.alike hK, hD⟩, hx21, hx22, hg_6, by omega, (congrArg Prod.snd (hsp.symm.trans hRR))⟩⟩, hS.F ht⟩) hS.2.2 dX9_freshName_47
    · have c_14 : ¬ u_13 = 0 := fun z => c_14 ((nI_eq (a := u_13) (b := 0) (Nat.lt_of_le_of_lt hu_13 (Nat.le_of_ble_eq_true rfl)) (Nat.le_of_ble_eq_true rfl)).mpr z)
      have hsp := hsp.trans (if_neg c_14)
      refine lv_aload_n hx hb dX9_freshName_42 rfl (lv_at hl 1 rfl) ?_
      have hFc := pu_free hD hS hA
      refine va_callv (va_runV (As := []) (rest := []) ⟨hx, hb, hml, hown, hts⟩ (c_EM_next l dC dI _ ad ck x0 x16 x18 x19 x20 x21 x22 x23 x24 x25 g_6 g_7 0 x29 x30 x33 x45 x46 x52 x53 x61 x62 x63 x65 x66 f1 f2 f3 q4 q5 q6 q7 f8 q9 q10 f11 m12_0 m12_1 m13_0 m13_1 m14_0 m14_1 m15_0 m15_1 f17 q31 f32 f34 f35 f36 f37 q38 f39 f40 f41 m42_0 m42_1 f43 f44 f47 f48 f49 f50 f51 q54 q55 q56 f57 q58 f59 f60 f64 hx16 hx18 hx19 hx21 hx22 hg_6 (Nat.le_of_ble_eq_true rfl) hx29 hx30 hx33 hx46 hx52 hx53 hx61 hx62 hx63 hx65 hm12_0 hm12_1 hm13_0 hm13_1 hm14_0 hm14_1 hm15_0 hm15_1 hm42_0 hm42_1) (cwV 0 hts g_EM_freshName_0_EM_next rfl rfl rfl (by decide +kernel) ⟨Nat.le_of_ble_eq_true rfl, Nat.le_of_ble_eq_true rfl⟩) ⟨pu_bl, va_recv hK hP (ci := 9) (q0 := 0) rfl rfl, pu_in hP hK hD⟩ rfl rfl hl.1 rfl (lv_room (Nat.le_of_ble_eq_true rfl)) dX9_freshName_43 ⟨Nat.le_of_ble_eq_true rfl, Nat.le_of_ble_eq_true rfl⟩) hS (fun q _ h => hFc q h) hFc (fun u t H1 locs ht hvm hw hB hz1 hk1 hS => ?_)
      obtain ⟨z20_16, z21_17, z22_18, z23_19, ⟨hP1, -, hD1⟩, hz21_17, hz22_18, xr_15_0, xr_15_1, xr_15_2⟩ := hB
      rw [ht] at hP1
      have hP := hP1
      have hD := pu_all hFc hD1
      clear hP1 hD1 hFc
      clear hk1 hz1 ht hvm
      generalize H1 = H at hP hS ⊢
      have hsp := hsp.trans (slet_eq xr_15_2)
      refine lv_iload_n hx hb dX9_freshName_46 rfl (lv_at hl 0 rfl) ?_
      exact W.iret (v := x23) hx hb hr (fun t ht hW => ⟨⟨x23, (), rfl, (congrArg Prod.fst (hsp.symm.trans hRR)), ⟨z20_16, z21_17, z22_18, z23_19, g_6, g_7, ⟨by rw [ht]; exact hP, va_K.moved hW.alike hK, hD⟩, hz21_17, hz22_18, hg_6, by omega, (congrArg Prod.snd (hsp.symm.trans hRR))⟩⟩, hS.F ht⟩) hS.2.2 dX9_freshName_47
  have hsp := hJR_10
  refine lv_if_eq (tgt := 30) hx hb dX9_freshName_8 (by decide) (fun c_20 => ?_) (fun c_20 => ?_)
  · have c_20 : u_5 = 0 := (nI_eq (a := u_5) (b := 0) (Nat.lt_of_le_of_lt hu_5 (Nat.le_of_ble_eq_true rfl)) (Nat.le_of_ble_eq_true rfl)).mp c_20
    have hsp := hsp.trans (if_pos c_20)
    exact j_9 _ _ _ _ ⟨z26_2, z27_3, rfl, hz26_2, by omega, hsp.symm, hP, hD, hS, lv_sub hl [0] rfl⟩
  · have c_20 : ¬ u_5 = 0 := fun z => c_20 ((nI_eq (a := u_5) (b := 0) (Nat.lt_of_le_of_lt hu_5 (Nat.le_of_ble_eq_true rfl)) (Nat.le_of_ble_eq_true rfl)).mpr z)
    have hsp := hsp.trans (if_neg c_20)
    refine lv_aload_n hx hb dX9_freshName_11 rfl (lv_at hl 0 rfl) ?_
    refine va_calli (va_runV (As := []) (rest := []) ⟨hx, hb, hml, hown, hts⟩ (c_EM_clockCalled_0 l dC dI _ ad ck x0 x16 x18 x19 x20 x21 x22 x23 x24 x25 z26_2 z27_3 x29 x30 x33 x45 x46 x52 x53 x61 x62 x63 x65 x66 f1 f2 f3 q4 q5 q6 q7 f8 q9 q10 f11 m12_0 m12_1 m13_0 m13_1 m14_0 m14_1 m15_0 m15_1 f17 q31 f32 f34 f35 f36 f37 q38 f39 f40 f41 m42_0 m42_1 f43 f44 f47 f48 f49 f50 f51 q54 q55 q56 f57 q58 f59 f60 f64 hx16 hx18 hx19 hx21 hx22 hz26_2 hx29 hx30 hx33 hx46 hx52 hx53 hx61 hx62 hx63 hx65 hm12_0 hm12_1 hm13_0 hm13_1 hm14_0 hm14_1 hm15_0 hm15_1 hm42_0 hm42_1) (cwV 0 hts g_EM_freshName_0_EM_clockCalled_0 rfl rfl rfl (by decide +kernel) ⟨Nat.le_of_ble_eq_true rfl, Nat.le_of_ble_eq_true rfl⟩) ⟨pu_bl, va_recv hK hP (ci := 9) (q0 := 0) rfl rfl, pu_in hP hK hD⟩ rfl rfl hl.1 rfl (lv_room (Nat.le_of_ble_eq_true rfl)) dX9_freshName_12 ⟨Nat.le_of_ble_eq_true rfl, Nat.le_of_ble_eq_true rfl⟩) hS (fun q _ h => pu_fr hS hA q h) (pu_fr hS hA) (fun r_21 u t H1 locs ht hvm hw hB hz1 hk1 hS => ?_)
    have hP := pu_keep hP hk1
    clear hk1 hz1 ht hvm
    generalize H1 = H at hP hS ⊢
    obtain ⟨u_22, hu_22, mu_22, iu_22⟩ := hw
    have hsp := hsp.trans (slet_eq iu_22)
    rcases mI_get u_22 with ⟨zn_23, wn_23⟩ | ⟨n_23, zn_23, wn_23⟩
    · obtain rfl : r_21 = -1 := mu_22.trans wn_23
      have hsp := hsp.trans (if_pos zn_23)
      refine lv_if_ge (tgt := 25) hx hb dX9_freshName_15 (by decide) (fun z => absurd z (by decide)) (fun _ => ?_)
      refine lv_aload_n hx hb dX9_freshName_18 rfl (lv_at hl 0 rfl) ?_
      refine va_calli (va_runV (As := []) (rest := []) ⟨hx, hb, hml, hown, hts⟩ (c_EM_placeCalled_0 l dC dI _ ad ck x0 x16 x18 x19 x20 x21 x22 x23 x24 x25 z26_2 z27_3 x29 x30 x33 x45 x46 x52 x53 x61 x62 x63 x65 x66 f1 f2 f3 q4 q5 q6 q7 f8 q9 q10 f11 m12_0 m12_1 m13_0 m13_1 m14_0 m14_1 m15_0 m15_1 f17 q31 f32 f34 f35 f36 f37 q38 f39 f40 f41 m42_0 m42_1 f43 f44 f47 f48 f49 f50 f51 q54 q55 q56 f57 q58 f59 f60 f64 hx16 hx18 hx19 hx21 hx22 hz26_2 hx29 hx30 hx33 hx46 hx52 hx53 hx61 hx62 hx63 hx65 hm12_0 hm12_1 hm13_0 hm13_1 hm14_0 hm14_1 hm15_0 hm15_1 hm42_0 hm42_1) (cwV 0 hts g_EM_freshName_0_EM_placeCalled_0 rfl rfl rfl (by decide +kernel) ⟨Nat.le_of_ble_eq_true rfl, Nat.le_of_ble_eq_true rfl⟩) ⟨pu_bl, va_recv hK hP (ci := 9) (q0 := 0) rfl rfl, pu_in hP hK hD⟩ rfl rfl hl.1 rfl (lv_room (Nat.le_of_ble_eq_true rfl)) dX9_freshName_19 ⟨Nat.le_of_ble_eq_true rfl, Nat.le_of_ble_eq_true rfl⟩) hS (fun q _ h => pu_fr hS hA q h) (pu_fr hS hA) (fun r_24 u t H1 locs ht hvm hw hB hz1 hk1 hS => ?_)
      have hP := pu_keep hP hk1
      clear hk1 hz1 ht hvm
      generalize H1 = H at hP hS ⊢
      obtain ⟨u_25, hu_25, mu_25, iu_25⟩ := hw
      have hsp := hsp.trans (slet_eq iu_25)
      rcases mI_get u_25 with ⟨zn_26, wn_26⟩ | ⟨n_26, zn_26, wn_26⟩
      · obtain rfl : r_24 = -1 := mu_25.trans wn_26
        have hsp := hsp.trans (if_pos zn_26)
        refine lv_if_lt (tgt := 30) hx hb dX9_freshName_22 (by decide) (fun _ => ?_) (fun z => absurd z (by decide))
        exact j_9 _ _ _ _ ⟨z26_2, z27_3, rfl, hz26_2, by omega, hsp.symm, hP, hD, hS, lv_sub hl [0] rfl⟩
      · obtain rfl : r_24 = nI n_26 := mu_25.trans wn_26
        have hn_26 : n_26 ≤ 7 := by omega
        have hsp := hsp.trans (if_neg (by omega))
        have hsp := hsp.trans (slet_eq (by omega : n_26 = u_25 - 1))
        refine lv_if_lt (tgt := 30) hx hb dX9_freshName_22 (by decide) (fun c_27 => ?_) (fun c_27 => ?_)
        · have c_27 : n_26 < 0 := (nI_ltI (a := n_26) (b := 0) (Nat.lt_of_le_of_lt hn_26 (Nat.le_of_ble_eq_true rfl)) (Nat.le_of_ble_eq_true rfl)).mp c_27
          exfalso
          omega
        · have c_27 : ¬ n_26 < 0 := fun z => c_27 ((nI_ltI (a := n_26) (b := 0) (Nat.lt_of_le_of_lt hn_26 (Nat.le_of_ble_eq_true rfl)) (Nat.le_of_ble_eq_true rfl)).mpr z)
          refine lv_aload_n hx hb dX9_freshName_25 rfl (lv_at hl 0 rfl) ?_
          refine lv_iconst (v := 3) hx hb dX9_freshName_26 (by decide) ?_
          have hFc := pu_free hD hS hA
          refine va_callv (va_runV (As := [.int 3]) (rest := []) ⟨hx, hb, hml, hown, hts⟩ (c_EM_fails l dC dI _ ad ck x0 x16 x18 x19 x20 x21 x22 x23 x24 x25 z26_2 z27_3 0 x29 x30 x33 x45 x46 x52 x53 x61 x62 x63 x65 x66 f1 f2 f3 q4 q5 q6 q7 f8 q9 q10 f11 m12_0 m12_1 m13_0 m13_1 m14_0 m14_1 m15_0 m15_1 f17 q31 f32 f34 f35 f36 f37 q38 f39 f40 f41 m42_0 m42_1 f43 f44 f47 f48 f49 f50 f51 q54 q55 q56 f57 q58 f59 f60 f64 3 hx16 hx18 hx19 hx21 hx22 hz26_2 (Nat.le_of_ble_eq_true rfl) hx29 hx30 hx33 hx46 hx52 hx53 hx61 hx62 hx63 hx65 hm12_0 hm12_1 hm13_0 hm13_1 hm14_0 hm14_1 hm15_0 hm15_1 hm42_0 hm42_1 (Nat.le_of_ble_eq_true rfl) (by omega)) (cwV 1 hts g_EM_freshName_0_EM_fails rfl rfl rfl (by decide +kernel) ⟨Nat.le_of_ble_eq_true rfl, Nat.le_of_ble_eq_true rfl⟩) ⟨pu_bl, va_recv hK hP (ci := 9) (q0 := 0) rfl rfl, pu_in hP hK hD⟩ rfl rfl hl.1 rfl (lv_room (Nat.le_of_ble_eq_true rfl)) dX9_freshName_27 ⟨Nat.le_of_ble_eq_true rfl, Nat.le_of_ble_eq_true rfl⟩) hS (fun q _ h => hFc q h) hFc (fun u t H1 locs ht hvm hw hB hz1 hk1 hS => ?_)
          obtain ⟨z26_29, z27_30, ⟨hP1, -, hD1⟩, hz26_29, xr_28_0, xr_28_1⟩ := hB
          rw [ht] at hP1
          have hP := hP1
          have hD := pu_all hFc hD1
          clear hP1 hD1 hFc
          clear hk1 hz1 ht hvm
          generalize H1 = H at hP hS ⊢
          have hsp := hsp.trans (slet_eq xr_28_1)
          exact j_9 _ _ _ _ ⟨z26_29, z27_30, rfl, hz26_29, by omega, hsp.symm, hP, hD, hS, lv_sub hl [0] rfl⟩
    · obtain rfl : r_21 = nI n_23 := mu_22.trans wn_23
      have hn_23 : n_23 ≤ 2 := by omega
      have hsp := hsp.trans (if_neg (by omega))
      have hsp := hsp.trans (slet_eq (by omega : n_23 = u_22 - 1))
      refine lv_if_ge (tgt := 25) hx hb dX9_freshName_15 (by decide) (fun c_31 => ?_) (fun c_31 => ?_)
      · have c_31 : 0 ≤ n_23 := (nI_leI (a := 0) (b := n_23) (Nat.le_of_ble_eq_true rfl) (Nat.lt_of_le_of_lt hn_23 (Nat.le_of_ble_eq_true rfl))).mp c_31
        refine lv_aload_n hx hb dX9_freshName_25 rfl (lv_at hl 0 rfl) ?_
        refine lv_iconst (v := 3) hx hb dX9_freshName_26 (by decide) ?_
        have hFc := pu_free hD hS hA
        refine va_callv (va_runV (As := [.int 3]) (rest := []) ⟨hx, hb, hml, hown, hts⟩ (c_EM_fails l dC dI _ ad ck x0 x16 x18 x19 x20 x21 x22 x23 x24 x25 z26_2 z27_3 0 x29 x30 x33 x45 x46 x52 x53 x61 x62 x63 x65 x66 f1 f2 f3 q4 q5 q6 q7 f8 q9 q10 f11 m12_0 m12_1 m13_0 m13_1 m14_0 m14_1 m15_0 m15_1 f17 q31 f32 f34 f35 f36 f37 q38 f39 f40 f41 m42_0 m42_1 f43 f44 f47 f48 f49 f50 f51 q54 q55 q56 f57 q58 f59 f60 f64 3 hx16 hx18 hx19 hx21 hx22 hz26_2 (Nat.le_of_ble_eq_true rfl) hx29 hx30 hx33 hx46 hx52 hx53 hx61 hx62 hx63 hx65 hm12_0 hm12_1 hm13_0 hm13_1 hm14_0 hm14_1 hm15_0 hm15_1 hm42_0 hm42_1 (Nat.le_of_ble_eq_true rfl) (by omega)) (cwV 1 hts g_EM_freshName_0_EM_fails rfl rfl rfl (by decide +kernel) ⟨Nat.le_of_ble_eq_true rfl, Nat.le_of_ble_eq_true rfl⟩) ⟨pu_bl, va_recv hK hP (ci := 9) (q0 := 0) rfl rfl, pu_in hP hK hD⟩ rfl rfl hl.1 rfl (lv_room (Nat.le_of_ble_eq_true rfl)) dX9_freshName_27 ⟨Nat.le_of_ble_eq_true rfl, Nat.le_of_ble_eq_true rfl⟩) hS (fun q _ h => hFc q h) hFc (fun u t H1 locs ht hvm hw hB hz1 hk1 hS => ?_)
        obtain ⟨z26_33, z27_34, ⟨hP1, -, hD1⟩, hz26_33, xr_32_0, xr_32_1⟩ := hB
        rw [ht] at hP1
        have hP := hP1
        have hD := pu_all hFc hD1
        clear hP1 hD1 hFc
        clear hk1 hz1 ht hvm
        generalize H1 = H at hP hS ⊢
        have hsp := hsp.trans (slet_eq xr_32_1)
        exact j_9 _ _ _ _ ⟨z26_33, z27_34, rfl, hz26_33, by omega, hsp.symm, hP, hD, hS, lv_sub hl [0] rfl⟩
      · have c_31 : ¬ 0 ≤ n_23 := fun z => c_31 ((nI_leI (a := 0) (b := n_23) (Nat.le_of_ble_eq_true rfl) (Nat.lt_of_le_of_lt hn_23 (Nat.le_of_ble_eq_true rfl))).mpr z)
        exfalso
        omega
theorem dX9_toldClock_0 : decode cX9_toldClock 0 = .ok (.aload_n 0, 1) := by decide +kernel
theorem dX9_toldClock_1 : decode cX9_toldClock 1 = .ok (.invokevirtual 213, 3) := by decide +kernel
theorem dX9_toldClock_4 : decode cX9_toldClock 4 = .ok (.aload_n 0, 1) := by decide +kernel
theorem dX9_toldClock_5 : decode cX9_toldClock 5 = .ok (.invokevirtual 216, 3) := by decide +kernel
theorem dX9_toldClock_8 : decode cX9_toldClock 8 = .ok (.ifCond .eq 10, 3) := by decide +kernel
theorem dX9_toldClock_11 : decode cX9_toldClock 11 = .ok (.aload_n 0, 1) := by decide +kernel
theorem dX9_toldClock_12 : decode cX9_toldClock 12 = .ok (.invokevirtual 219, 3) := by decide +kernel
theorem dX9_toldClock_15 : decode cX9_toldClock 15 = .ok (.goto 4, 3) := by decide +kernel
theorem dX9_toldClock_18 : decode cX9_toldClock 18 = .ok (.iconst 0, 1) := by decide +kernel
theorem dX9_toldClock_19 : decode cX9_toldClock 19 = .ok (.istore_n 1, 1) := by decide +kernel
theorem dX9_toldClock_20 : decode cX9_toldClock 20 = .ok (.iload_n 1, 1) := by decide +kernel
theorem dX9_toldClock_21 : decode cX9_toldClock 21 = .ok (.ifCond .ge 8, 3) := by decide +kernel
theorem dX9_toldClock_24 : decode cX9_toldClock 24 = .ok (.aload_n 0, 1) := by decide +kernel
theorem dX9_toldClock_25 : decode cX9_toldClock 25 = .ok (.iconst 3, 1) := by decide +kernel
theorem dX9_toldClock_26 : decode cX9_toldClock 26 = .ok (.invokevirtual 210, 3) := by decide +kernel
theorem dX9_toldClock_29 : decode cX9_toldClock 29 = .ok (.iconst 0, 1) := by decide +kernel
theorem dX9_toldClock_30 : decode cX9_toldClock 30 = .ok (.iload_n 1, 1) := by decide +kernel
theorem dX9_toldClock_31 : decode cX9_toldClock 31 = .ok (.invokestatic 229, 3) := by decide +kernel
theorem dX9_toldClock_34 : decode cX9_toldClock 34 = .ok (.ireturn, 1) := by decide +kernel
abbrev vs_EM_toldClock_0 : List Cond := .code yX9_toldClock cX9_toldClock 2 (some .int) :: VM
theorem g_EM_toldClock_0_EM_mustBeName : GoodIn vs_EM_toldClock_0 (wsV RX9 213 RX9 yX9_mustBeName vs_EM_mustBeName) := gm_V vm_67 vm_68 vm_69 vm_19 vm_70
theorem g_EM_toldClock_0_EM_isGood : GoodIn vs_EM_toldClock_0 (wsV RX9 216 RX9 yX9_isGood vs_EM_isGood) := gm_V vm_71 vm_72 vm_73 vm_19 vm_74
theorem g_EM_toldClock_0_EM_greater_0 : GoodIn vs_EM_toldClock_0 (va_wsS RX9 229 yX9_greater vs_EM_greater_0) := gm_S vm_87 vm_88 vm_19 vm_89
theorem g_EM_toldClock_0_EM_clockCalled_0 : GoodIn vs_EM_toldClock_0 (wsV RX9 219 RX9 yX9_clockCalled vs_EM_clockCalled_0) := gm_V vm_79 vm_80 vm_81 vm_19 vm_82
theorem g_EM_toldClock_0_EM_fails : GoodIn vs_EM_toldClock_0 (wsV RX9 210 RX9 yX9_fails vs_EM_fails) := gm_V vm_29 vm_30 vm_31 vm_19 vm_32
theorem g_EM_toldClock_0_EM_greater_n : GoodIn vs_EM_toldClock_0 (va_wsS RX9 229 yX9_greater vs_EM_greater_n) := gm_S vm_87 vm_88 vm_19 vm_89
noncomputable def sp_EM_toldClock_0 (x20 : Int32) (x22 : Nat) (x23 : Int32) (x26 : Nat) (x27 : Int32) (f1 : Nat → Int32) (m12_0 : Nat) : Nat × Nat × Int32 := (slet (sp_EM_mustBeName x20 x22 x23 x26 x27) (fun (z26_2, z27_3) => (slet (sp_EM_isGood z26_2) (fun u_5 => (if u_5 = 0 then (0, z26_2, z27_3) else (slet (sp_EM_clockCalled_0 x23 f1 m12_0) (fun u_9 => (if u_9 = 0 then (slet (sp_EM_fails x20 x22 z26_2 z27_3 3) (fun (z26_12, z27_13) => (0, z26_12, z27_13))) else (slet (u_9 - 1) (fun n_10 => (n_10, z26_2, z27_3)))))))))))
set_option maxHeartbeats 4000000 in
set_option maxRecDepth 100000 in
theorem c_EM_toldClock_0 (l : Launch) (dC : Nat → ClassId) (dI : Nat → Nat → Nat) (sz : Nat) (ad : Nat → Nat) (ck : Nat → ClassId) (x0 : Int32) (x16 : Nat) (x18 : Nat) (x19 : Nat) (x20 : Int32) (x21 : Nat) (x22 : Nat) (x23 : Int32) (x24 : Int32) (x25 : Int32) (x26 : Nat) (x27 : Int32) (x29 : Nat) (x30 : Nat) (x33 : Nat) (x45 : Int32) (x46 : Nat) (x52 : Nat) (x53 : Nat) (x61 : Nat) (x62 : Nat) (x63 : Nat) (x65 : Nat) (x66 : Int32) (f1 : Nat → Int32) (f2 : Nat → Int32) (f3 : Nat → Int32) (q4 : Nat → Nat) (q5 : Nat → Nat) (q6 : Nat → Nat) (q7 : Nat → Nat) (f8 : Nat → Int32) (q9 : Nat → Nat) (q10 : Nat → Nat) (f11 : Nat → Int32) (m12_0 m12_1 : Nat) (m13_0 m13_1 : Nat) (m14_0 m14_1 : Nat) (m15_0 m15_1 : Nat) (f17 : Nat → Int32) (q31 : Nat → Nat) (f32 : Nat → Int32) (f34 : Nat → Int32) (f35 : Nat → Int32) (f36 : Nat → Int32) (f37 : Nat → Int32) (q38 : Nat → Nat) (f39 : Nat → Int32) (f40 : Nat → Int32) (f41 : Nat → Int32) (m42_0 m42_1 : Nat) (f43 : Nat → Int32) (f44 : Nat → Int32) (f47 : Nat → Int32) (f48 : Nat → Int32) (f49 : Nat → Int32) (f50 : Nat → Int32) (f51 : Nat → Int32) (q54 : Nat → Nat) (q55 : Nat → Nat) (q56 : Nat → Nat) (f57 : Nat → Int32) (q58 : Nat → Nat) (f59 : Nat → Int32) (f60 : Nat → Int32) (f64 : Nat → Int32) (hx16 : x16 ≤ 1) (hx18 : x18 ≤ 900) (hx19 : x19 ≤ 900) (hx21 : x21 ≤ 900) (hx22 : x22 ≤ 4) (hx26 : x26 ≤ 6) (hx29 : x29 ≤ 1) (hx30 : x30 ≤ 1) (hx33 : x33 ≤ 20) (hx46 : x46 ≤ 5) (hx52 : x52 ≤ 2400) (hx53 : x53 ≤ 119) (hx61 : x61 ≤ 119) (hx62 : x62 ≤ 2000) (hx63 : x63 ≤ 1) (hx65 : x65 ≤ 7) (hm12_0 : m12_0 ≤ 3) (hm12_1 : m12_1 ≤ 3) (hm13_0 : m13_0 ≤ 8) (hm13_1 : m13_1 ≤ 8) (hm14_0 : m14_0 ≤ 14) (hm14_1 : m14_1 ≤ 14) (hm15_0 : m15_0 ≤ 8) (hm15_1 : m15_1 ≤ 8) (hm42_0 : m42_0 ≤ 120) (hm42_1 : m42_1 ≤ 400) : Met l yX9_toldClock vs_EM_toldClock_0 ({ frames := 3, cells := 0, slots := 0, locals := 61 }) (va_Pc [.ref (ad 0)] (pu_B (dC, dI) (mo_w ad ck x0 (nI x16) (nI x18) (nI x19) x20 (nI x21) (nI x22) x23 x24 x25 (nI x26) x27 0 (nI x29) (nI x30) (nI x33) x45 (nI x46) (nI x52) (nI x53) (nI x61) (nI x62) (nI x63) (nI x65) x66 f1 f2 f3 (bN 3 q4) (bN 7 q5) (bN 7 q6) (bN 4 q7) f8 (bN 2 q9) (bH q10) f11 (b2 m12_0 m12_1) (b2 m13_0 m13_1) (b2 m14_0 m14_1) (b2m m15_0 m15_1) f17 (bA 159 q31) f32 f34 f35 f36 f37 (bN 7 q38) f39 f40 f41 (b2 m42_0 m42_1) f43 f44 f47 f48 f49 f50 f51 (bN 13 q54) (bN 120 q55) (bN 120 q56) f57 (bN 120 q58) f59 f60 f64) (mo_t ck) sz)) (va_Qi (fun (r : Int32) (_ : Unit) => ∃ v : Nat, v ≤ 2 ∧ r = nI v ∧ v = (sp_EM_toldClock_0 x20 x22 x23 x26 x27 f1 m12_0).1) (fun _ t => ∃ (z26 : Nat) (z27 : Int32), pu_E (dC, dI) (mo_w ad ck x0 (nI x16) (nI x18) (nI x19) x20 (nI x21) (nI x22) x23 x24 x25 (nI z26) z27 0 (nI x29) (nI x30) (nI x33) x45 (nI x46) (nI x52) (nI x53) (nI x61) (nI x62) (nI x63) (nI x65) x66 f1 f2 f3 (bN 3 q4) (bN 7 q5) (bN 7 q6) (bN 4 q7) f8 (bN 2 q9) (bH q10) f11 (b2 m12_0 m12_1) (b2 m13_0 m13_1) (b2 m14_0 m14_1) (b2m m15_0 m15_1) f17 (bA 159 q31) f32 f34 f35 f36 f37 (bN 7 q38) f39 f40 f41 (b2 m42_0 m42_1) f43 f44 f47 f48 f49 f50 f51 (bN 13 q54) (bN 120 q55) (bN 120 q56) f57 (bN 120 q58) f59 f60 f64) (mo_t ck) (va_A ((mo_w ad ck x0 (nI x16) (nI x18) (nI x19) x20 (nI x21) (nI x22) x23 x24 x25 (nI x26) x27 0 (nI x29) (nI x30) (nI x33) x45 (nI x46) (nI x52) (nI x53) (nI x61) (nI x62) (nI x63) (nI x65) x66 f1 f2 f3 (bN 3 q4) (bN 7 q5) (bN 7 q6) (bN 4 q7) f8 (bN 2 q9) (bH q10) f11 (b2 m12_0 m12_1) (b2 m13_0 m13_1) (b2 m14_0 m14_1) (b2m m15_0 m15_1) f17 (bA 159 q31) f32 f34 f35 f36 f37 (bN 7 q38) f39 f40 f41 (b2 m42_0 m42_1) f43 f44 f47 f48 f49 f50 f51 (bN 13 q54) (bN 120 q55) (bN 120 q56) f57 (bN 120 q58) f59 f60 f64)) sz) t ∧ (z26 ≤ 6) ∧ ((z26, z27) = (sp_EM_toldClock_0 x20 x22 x23 x26 x27 f1 m12_0).2)) (va_A ((mo_w ad ck x0 (nI x16) (nI x18) (nI x19) x20 (nI x21) (nI x22) x23 x24 x25 (nI x26) x27 0 (nI x29) (nI x30) (nI x33) x45 (nI x46) (nI x52) (nI x53) (nI x61) (nI x62) (nI x63) (nI x65) x66 f1 f2 f3 (bN 3 q4) (bN 7 q5) (bN 7 q6) (bN 4 q7) f8 (bN 2 q9) (bH q10) f11 (b2 m12_0 m12_1) (b2 m13_0 m13_1) (b2 m14_0 m14_1) (b2m m15_0 m15_1) f17 (bA 159 q31) f32 f34 f35 f36 f37 (bN 7 q38) f39 f40 f41 (b2 m42_0 m42_1) f43 f44 f47 f48 f49 f50 f51 (bN 13 q54) (bN 120 q55) (bN 120 q56) f57 (bN 120 q58) f59 f60 f64)) sz)) 0 0 (va_A ((mo_w ad ck x0 (nI x16) (nI x18) (nI x19) x20 (nI x21) (nI x22) x23 x24 x25 (nI x26) x27 0 (nI x29) (nI x30) (nI x33) x45 (nI x46) (nI x52) (nI x53) (nI x61) (nI x62) (nI x63) (nI x65) x66 f1 f2 f3 (bN 3 q4) (bN 7 q5) (bN 7 q6) (bN 4 q7) f8 (bN 2 q9) (bH q10) f11 (b2 m12_0 m12_1) (b2 m13_0 m13_1) (b2 m14_0 m14_1) (b2m m15_0 m15_1) f17 (bA 159 q31) f32 f34 f35 f36 f37 (bN 7 q38) f39 f40 f41 (b2 m42_0 m42_1) f43 f44 f47 f48 f49 f50 f51 (bN 13 q54) (bN 120 q55) (bN 120 q56) f57 (bN 120 q58) f59 f60 f64)) sz) := by
  refine Met.ofW (cc := cX9_toldClock) (maxL := 2) (ret := (some .int)) (by decide) rfl ?_
  intro p e s m args below meth c s₁ B hml hv
  obtain ⟨rfl, rfl, hP, hK, hD0⟩ := hv
  have hx := B.exec
  have hb := B.bytes
  have hr := B.returns
  have hts := atoms_spec (ws := vs_EM_toldClock_0) B.pre
  have hown : s.vm.findClass RX9 = some m.cls := findClass_of_methodNamed B.named
  have hlocks := B.notSynchronized
  have hD := hD0.self (sz := s.heap.size)
  generalize hAe : va_A ((mo_w ad ck x0 (nI x16) (nI x18) (nI x19) x20 (nI x21) (nI x22) x23 x24 x25 (nI x26) x27 0 (nI x29) (nI x30) (nI x33) x45 (nI x46) (nI x52) (nI x53) (nI x61) (nI x62) (nI x63) (nI x65) x66 f1 f2 f3 (bN 3 q4) (bN 7 q5) (bN 7 q6) (bN 4 q7) f8 (bN 2 q9) (bH q10) f11 (b2 m12_0 m12_1) (b2 m13_0 m13_1) (b2 m14_0 m14_1) (b2m m15_0 m15_1) f17 (bA 159 q31) f32 f34 f35 f36 f37 (bN 7 q38) f39 f40 f41 (b2 m42_0 m42_1) f43 f44 f47 f48 f49 f50 f51 (bN 13 q54) (bN 120 q55) (bN 120 q56) f57 (bN 120 q58) f59 f60 f64)) s.heap.size = A at hD ⊢
  have hA : ∀ q : Nat, s.heap.size ≤ q → A q := fun q h => by rw [← hAe]; exact Or.inr h
  have hS : va_S A s.heap s.heap [] := va_S.rf
  have hl := lv_entry ([.ref (ad 0)]) (n := 2) (Nat.le_of_ble_eq_true rfl)
  rw [lg_entry_eq]
  generalize (lg_sl ([.ref (ad 0)]) ++ List.replicate (2 - (lg_sl ([.ref (ad 0)])).length) Slot.unset).toArray = ls at hl ⊢
  have hl : lv_has ls 2 [(0, .ref (ad 0))] := hl
  obtain ⟨RR, hRR⟩ : ∃ x, x = (sp_EM_toldClock_0 x20 x22 x23 x26 x27 f1 m12_0) := ⟨_, rfl⟩
  have hsp := hRR
  refine lv_aload_n hx hb dX9_toldClock_0 rfl (lv_at hl 0 rfl) ?_
  have hFc := pu_free hD hS hA
  refine va_callv (va_runV (As := []) (rest := []) ⟨hx, hb, hml, hown, hts⟩ (c_EM_mustBeName l dC dI _ ad ck x0 x16 x18 x19 x20 x21 x22 x23 x24 x25 x26 x27 0 x29 x30 x33 x45 x46 x52 x53 x61 x62 x63 x65 x66 f1 f2 f3 q4 q5 q6 q7 f8 q9 q10 f11 m12_0 m12_1 m13_0 m13_1 m14_0 m14_1 m15_0 m15_1 f17 q31 f32 f34 f35 f36 f37 q38 f39 f40 f41 m42_0 m42_1 f43 f44 f47 f48 f49 f50 f51 q54 q55 q56 f57 q58 f59 f60 f64 hx16 hx18 hx19 hx21 hx22 hx26 (Nat.le_of_ble_eq_true rfl) hx29 hx30 hx33 hx46 hx52 hx53 hx61 hx62 hx63 hx65 hm12_0 hm12_1 hm13_0 hm13_1 hm14_0 hm14_1 hm15_0 hm15_1 hm42_0 hm42_1) (cwV 0 hts g_EM_toldClock_0_EM_mustBeName rfl rfl rfl (by decide +kernel) ⟨Nat.le_of_ble_eq_true rfl, Nat.le_of_ble_eq_true rfl⟩) ⟨pu_bl, va_recv hK hP (ci := 9) (q0 := 0) rfl rfl, pu_in hP hK hD⟩ rfl rfl hl.1 rfl (lv_room (Nat.le_of_ble_eq_true rfl)) dX9_toldClock_1 ⟨Nat.le_of_ble_eq_true rfl, Nat.le_of_ble_eq_true rfl⟩) hS (fun q _ h => hFc q h) hFc (fun u t H1 locs ht hvm hw hB hz1 hk1 hS => ?_)
  obtain ⟨z26_2, z27_3, ⟨hP1, -, hD1⟩, hz26_2, xr_1_0, xr_1_1⟩ := hB
  rw [ht] at hP1
  have hP := hP1
  have hD := pu_all hFc hD1
  clear hP1 hD1 hFc
  clear hk1 hz1 ht hvm
  generalize H1 = H at hP hS ⊢
  have hsp := hsp.trans (slet_eq xr_1_1)
  refine lv_aload_n hx hb dX9_toldClock_4 rfl (lv_at hl 0 rfl) ?_
  refine va_calli (va_runV (As := []) (rest := []) ⟨hx, hb, hml, hown, hts⟩ (c_EM_isGood l dC dI _ ad ck x0 x16 x18 x19 x20 x21 x22 x23 x24 x25 z26_2 z27_3 0 x29 x30 x33 x45 x46 x52 x53 x61 x62 x63 x65 x66 f1 f2 f3 q4 q5 q6 q7 f8 q9 q10 f11 m12_0 m12_1 m13_0 m13_1 m14_0 m14_1 m15_0 m15_1 f17 q31 f32 f34 f35 f36 f37 q38 f39 f40 f41 m42_0 m42_1 f43 f44 f47 f48 f49 f50 f51 q54 q55 q56 f57 q58 f59 f60 f64 hx16 hx18 hx19 hx21 hx22 hz26_2 (Nat.le_of_ble_eq_true rfl) hx29 hx30 hx33 hx46 hx52 hx53 hx61 hx62 hx63 hx65 hm12_0 hm12_1 hm13_0 hm13_1 hm14_0 hm14_1 hm15_0 hm15_1 hm42_0 hm42_1) (cwV 0 hts g_EM_toldClock_0_EM_isGood rfl rfl rfl (by decide +kernel) ⟨Nat.le_of_ble_eq_true rfl, Nat.le_of_ble_eq_true rfl⟩) ⟨pu_bl, va_recv hK hP (ci := 9) (q0 := 0) rfl rfl, pu_in hP hK hD⟩ rfl rfl hl.1 rfl (lv_room (Nat.le_of_ble_eq_true rfl)) dX9_toldClock_5 ⟨Nat.le_of_ble_eq_true rfl, Nat.le_of_ble_eq_true rfl⟩) hS (fun q _ h => pu_fr hS hA q h) (pu_fr hS hA) (fun r_4 u t H1 locs ht hvm hw hB hz1 hk1 hS => ?_)
  have hP := pu_keep hP hk1
  clear hk1 hz1 ht hvm
  generalize H1 = H at hP hS ⊢
  obtain ⟨u_5, hu_5, rfl, ju_5, iu_5⟩ := hw
  have hsp := hsp.trans (slet_eq iu_5)
  refine lv_if_eq (tgt := 18) hx hb dX9_toldClock_8 (by decide) (fun c_6 => ?_) (fun c_6 => ?_)
  · have c_6 : u_5 = 0 := (nI_eq (a := u_5) (b := 0) (Nat.lt_of_le_of_lt hu_5 (Nat.le_of_ble_eq_true rfl)) (Nat.le_of_ble_eq_true rfl)).mp c_6
    have hsp := hsp.trans (if_pos c_6)
    refine lv_iconst (v := 0) hx hb dX9_toldClock_18 (by decide) ?_
    refine lv_istore_n (lv' := [(1, .int 0), (0, .ref (ad 0))]) hx hb dX9_toldClock_19 rfl hl (by decide) rfl (fun ls hl => ?_)
    refine lv_iload_n hx hb dX9_toldClock_20 rfl (lv_at hl 0 rfl) ?_
    refine lv_if_ge (tgt := 29) hx hb dX9_toldClock_21 (by decide) (fun _ => ?_) (fun z => absurd z (by decide))
    refine lv_iconst (v := 0) hx hb dX9_toldClock_29 (by decide) ?_
    refine lv_iload_n hx hb dX9_toldClock_30 rfl (lv_at hl 0 rfl) ?_
    refine va_calli (va_runS (As := [.int 0, .int 0]) (rest := []) ⟨hx, hb, hml, hown, hts⟩ (c_EM_greater_0 l dC dI _ ad ck x0 x16 x18 x19 x20 x21 x22 x23 x24 x25 z26_2 z27_3 0 x29 x30 x33 x45 x46 x52 x53 x61 x62 x63 x65 x66 f1 f2 f3 q4 q5 q6 q7 f8 q9 q10 f11 m12_0 m12_1 m13_0 m13_1 m14_0 m14_1 m15_0 m15_1 f17 q31 f32 f34 f35 f36 f37 q38 f39 f40 f41 m42_0 m42_1 f43 f44 f47 f48 f49 f50 f51 q54 q55 q56 f57 q58 f59 f60 f64 0 hx16 hx18 hx19 hx21 hx22 hz26_2 (Nat.le_of_ble_eq_true rfl) hx29 hx30 hx33 hx46 hx52 hx53 hx61 hx62 hx63 hx65 hm12_0 hm12_1 hm13_0 hm13_1 hm14_0 hm14_1 hm15_0 hm15_1 hm42_0 hm42_1 (Nat.le_of_ble_eq_true rfl)) (va_cwS 2 hts g_EM_toldClock_0_EM_greater_0 rfl rfl rfl (by decide +kernel) ⟨Nat.le_of_ble_eq_true rfl, Nat.le_of_ble_eq_true rfl⟩) ⟨pu_bl, pu_in hP hK hD⟩ rfl rfl hl.1 rfl (lv_room (Nat.le_of_ble_eq_true rfl)) dX9_toldClock_31 ⟨Nat.le_of_ble_eq_true rfl, Nat.le_of_ble_eq_true rfl⟩) hS (fun q _ h => pu_fr hS hA q h) (pu_fr hS hA) (fun r_7 u t H1 locs ht hvm hw hB hz1 hk1 hS => ?_)
    have hP := pu_keep hP hk1
    clear hk1 hz1 ht hvm
    generalize H1 = H at hP hS ⊢
    obtain rfl : r_7 = nI (0) := hw
    exact W.iret (v := (nI 0)) hx hb hr (fun t ht hW => ⟨⟨(nI 0), (), rfl, ⟨0, (Nat.le_of_ble_eq_true rfl), rfl, (congrArg Prod.fst (hsp.symm.trans hRR))⟩, ⟨z26_2, z27_3, ⟨by rw [ht]; exact hP, va_K.moved hW.alike hK, hD⟩, hz26_2, (congrArg Prod.snd (hsp.symm.trans hRR))⟩⟩, hS.F ht⟩) hS.2.2 dX9_toldClock_34
  · have c_6 : ¬ u_5 = 0 := fun z => c_6 ((nI_eq (a := u_5) (b := 0) (Nat.lt_of_le_of_lt hu_5 (Nat.le_of_ble_eq_true rfl)) (Nat.le_of_ble_eq_true rfl)).mpr z)
    have hsp := hsp.trans (if_neg c_6)
    refine lv_aload_n hx hb dX9_toldClock_11 rfl (lv_at hl 0 rfl) ?_
    refine va_calli (va_runV (As := []) (rest := []) ⟨hx, hb, hml, hown, hts⟩ (c_EM_clockCalled_0 l dC dI _ ad ck x0 x16 x18 x19 x20 x21 x22 x23 x24 x25 z26_2 z27_3 x29 x30 x33 x45 x46 x52 x53 x61 x62 x63 x65 x66 f1 f2 f3 q4 q5 q6 q7 f8 q9 q10 f11 m12_0 m12_1 m13_0 m13_1 m14_0 m14_1 m15_0 m15_1 f17 q31 f32 f34 f35 f36 f37 q38 f39 f40 f41 m42_0 m42_1 f43 f44 f47 f48 f49 f50 f51 q54 q55 q56 f57 q58 f59 f60 f64 hx16 hx18 hx19 hx21 hx22 hz26_2 hx29 hx30 hx33 hx46 hx52 hx53 hx61 hx62 hx63 hx65 hm12_0 hm12_1 hm13_0 hm13_1 hm14_0 hm14_1 hm15_0 hm15_1 hm42_0 hm42_1) (cwV 0 hts g_EM_toldClock_0_EM_clockCalled_0 rfl rfl rfl (by decide +kernel) ⟨Nat.le_of_ble_eq_true rfl, Nat.le_of_ble_eq_true rfl⟩) ⟨pu_bl, va_recv hK hP (ci := 9) (q0 := 0) rfl rfl, pu_in hP hK hD⟩ rfl rfl hl.1 rfl (lv_room (Nat.le_of_ble_eq_true rfl)) dX9_toldClock_12 ⟨Nat.le_of_ble_eq_true rfl, Nat.le_of_ble_eq_true rfl⟩) hS (fun q _ h => pu_fr hS hA q h) (pu_fr hS hA) (fun r_8 u t H1 locs ht hvm hw hB hz1 hk1 hS => ?_)
    have hP := pu_keep hP hk1
    clear hk1 hz1 ht hvm
    generalize H1 = H at hP hS ⊢
    obtain ⟨u_9, hu_9, mu_9, iu_9⟩ := hw
    have hsp := hsp.trans (slet_eq iu_9)
    rcases mI_get u_9 with ⟨zn_10, wn_10⟩ | ⟨n_10, zn_10, wn_10⟩
    · obtain rfl : r_8 = -1 := mu_9.trans wn_10
      have hsp := hsp.trans (if_pos zn_10)
      refine lv_goto (tgt := 19) hx hb dX9_toldClock_15 (by decide) ?_
      refine lv_istore_n (lv' := [(1, .int (-1)), (0, .ref (ad 0))]) hx hb dX9_toldClock_19 rfl hl (by decide) rfl (fun ls hl => ?_)
      refine lv_iload_n hx hb dX9_toldClock_20 rfl (lv_at hl 0 rfl) ?_
      refine lv_if_ge (tgt := 29) hx hb dX9_toldClock_21 (by decide) (fun z => absurd z (by decide)) (fun _ => ?_)
      refine lv_aload_n hx hb dX9_toldClock_24 rfl (lv_at hl 1 rfl) ?_
      refine lv_iconst (v := 3) hx hb dX9_toldClock_25 (by decide) ?_
      have hFc := pu_free hD hS hA
      refine va_callv (va_runV (As := [.int 3]) (rest := []) ⟨hx, hb, hml, hown, hts⟩ (c_EM_fails l dC dI _ ad ck x0 x16 x18 x19 x20 x21 x22 x23 x24 x25 z26_2 z27_3 0 x29 x30 x33 x45 x46 x52 x53 x61 x62 x63 x65 x66 f1 f2 f3 q4 q5 q6 q7 f8 q9 q10 f11 m12_0 m12_1 m13_0 m13_1 m14_0 m14_1 m15_0 m15_1 f17 q31 f32 f34 f35 f36 f37 q38 f39 f40 f41 m42_0 m42_1 f43 f44 f47 f48 f49 f50 f51 q54 q55 q56 f57 q58 f59 f60 f64 3 hx16 hx18 hx19 hx21 hx22 hz26_2 (Nat.le_of_ble_eq_true rfl) hx29 hx30 hx33 hx46 hx52 hx53 hx61 hx62 hx63 hx65 hm12_0 hm12_1 hm13_0 hm13_1 hm14_0 hm14_1 hm15_0 hm15_1 hm42_0 hm42_1 (Nat.le_of_ble_eq_true rfl) (by omega)) (cwV 1 hts g_EM_toldClock_0_EM_fails rfl rfl rfl (by decide +kernel) ⟨Nat.le_of_ble_eq_true rfl, Nat.le_of_ble_eq_true rfl⟩) ⟨pu_bl, va_recv hK hP (ci := 9) (q0 := 0) rfl rfl, pu_in hP hK hD⟩ rfl rfl hl.1 rfl (lv_room (Nat.le_of_ble_eq_true rfl)) dX9_toldClock_26 ⟨Nat.le_of_ble_eq_true rfl, Nat.le_of_ble_eq_true rfl⟩) hS (fun q _ h => hFc q h) hFc (fun u t H1 locs ht hvm hw hB hz1 hk1 hS => ?_)
      obtain ⟨z26_12, z27_13, ⟨hP1, -, hD1⟩, hz26_12, xr_11_0, xr_11_1⟩ := hB
      rw [ht] at hP1
      have hP := hP1
      have hD := pu_all hFc hD1
      clear hP1 hD1 hFc
      clear hk1 hz1 ht hvm
      generalize H1 = H at hP hS ⊢
      have hsp := hsp.trans (slet_eq xr_11_1)
      refine lv_iconst (v := 0) hx hb dX9_toldClock_29 (by decide) ?_
      refine lv_iload_n hx hb dX9_toldClock_30 rfl (lv_at hl 0 rfl) ?_
      refine va_calli (va_runS (As := [.int 0, .int (-1)]) (rest := []) ⟨hx, hb, hml, hown, hts⟩ (c_EM_greater_n l dC dI _ ad ck x0 x16 x18 x19 x20 x21 x22 x23 x24 x25 z26_12 z27_13 0 x29 x30 x33 x45 x46 x52 x53 x61 x62 x63 x65 x66 f1 f2 f3 q4 q5 q6 q7 f8 q9 q10 f11 m12_0 m12_1 m13_0 m13_1 m14_0 m14_1 m15_0 m15_1 f17 q31 f32 f34 f35 f36 f37 q38 f39 f40 f41 m42_0 m42_1 f43 f44 f47 f48 f49 f50 f51 q54 q55 q56 f57 q58 f59 f60 f64 hx16 hx18 hx19 hx21 hx22 hz26_12 (Nat.le_of_ble_eq_true rfl) hx29 hx30 hx33 hx46 hx52 hx53 hx61 hx62 hx63 hx65 hm12_0 hm12_1 hm13_0 hm13_1 hm14_0 hm14_1 hm15_0 hm15_1 hm42_0 hm42_1) (va_cwS 2 hts g_EM_toldClock_0_EM_greater_n rfl rfl rfl (by decide +kernel) ⟨Nat.le_of_ble_eq_true rfl, Nat.le_of_ble_eq_true rfl⟩) ⟨pu_bl, pu_in hP hK hD⟩ rfl rfl hl.1 rfl (lv_room (Nat.le_of_ble_eq_true rfl)) dX9_toldClock_31 ⟨Nat.le_of_ble_eq_true rfl, Nat.le_of_ble_eq_true rfl⟩) hS (fun q _ h => pu_fr hS hA q h) (pu_fr hS hA) (fun r_14 u t H1 locs ht hvm hw hB hz1 hk1 hS => ?_)
      have hP := pu_keep hP hk1
      clear hk1 hz1 ht hvm
      generalize H1 = H at hP hS ⊢
      obtain rfl : r_14 = 0 := hw
      exact W.iret (v := 0) hx hb hr (fun t ht hW => ⟨⟨0, (), rfl, ⟨0, (Nat.le_of_ble_eq_true rfl), rfl, (congrArg Prod.fst (hsp.symm.trans hRR))⟩, ⟨z26_12, z27_13, ⟨by rw [ht]; exact hP, va_K.moved hW.alike hK, hD⟩, hz26_12, (congrArg Prod.snd (hsp.symm.trans hRR))⟩⟩, hS.F ht⟩) hS.2.2 dX9_toldClock_34
    · obtain rfl : r_8 = nI n_10 := mu_9.trans wn_10
      have hn_10 : n_10 ≤ 2 := by omega
      have hsp := hsp.trans (if_neg (by omega))
      have hsp := hsp.trans (slet_eq (by omega : n_10 = u_9 - 1))
      refine lv_goto (tgt := 19) hx hb dX9_toldClock_15 (by decide) ?_
      refine lv_istore_n (lv' := [(1, .int (nI n_10)), (0, .ref (ad 0))]) hx hb dX9_toldClock_19 rfl hl (by decide) rfl (fun ls hl => ?_)
      refine lv_iload_n hx hb dX9_toldClock_20 rfl (lv_at hl 0 rfl) ?_
      refine lv_if_ge (tgt := 29) hx hb dX9_toldClock_21 (by decide) (fun c_15 => ?_) (fun c_15 => ?_)
      · have c_15 : 0 ≤ n_10 := (nI_leI (a := 0) (b := n_10) (Nat.le_of_ble_eq_true rfl) (Nat.lt_of_le_of_lt hn_10 (Nat.le_of_ble_eq_true rfl))).mp c_15
        refine lv_iconst (v := 0) hx hb dX9_toldClock_29 (by decide) ?_
        refine lv_iload_n hx hb dX9_toldClock_30 rfl (lv_at hl 0 rfl) ?_
        refine va_calli (va_runS (As := [.int 0, .int (nI n_10)]) (rest := []) ⟨hx, hb, hml, hown, hts⟩ (c_EM_greater_0 l dC dI _ ad ck x0 x16 x18 x19 x20 x21 x22 x23 x24 x25 z26_2 z27_3 0 x29 x30 x33 x45 x46 x52 x53 x61 x62 x63 x65 x66 f1 f2 f3 q4 q5 q6 q7 f8 q9 q10 f11 m12_0 m12_1 m13_0 m13_1 m14_0 m14_1 m15_0 m15_1 f17 q31 f32 f34 f35 f36 f37 q38 f39 f40 f41 m42_0 m42_1 f43 f44 f47 f48 f49 f50 f51 q54 q55 q56 f57 q58 f59 f60 f64 n_10 hx16 hx18 hx19 hx21 hx22 hz26_2 (Nat.le_of_ble_eq_true rfl) hx29 hx30 hx33 hx46 hx52 hx53 hx61 hx62 hx63 hx65 hm12_0 hm12_1 hm13_0 hm13_1 hm14_0 hm14_1 hm15_0 hm15_1 hm42_0 hm42_1 (Nat.le_trans hn_10 (Nat.le_of_ble_eq_true rfl))) (va_cwS 2 hts g_EM_toldClock_0_EM_greater_0 rfl rfl rfl (by decide +kernel) ⟨Nat.le_of_ble_eq_true rfl, Nat.le_of_ble_eq_true rfl⟩) ⟨pu_bl, pu_in hP hK hD⟩ rfl rfl hl.1 rfl (lv_room (Nat.le_of_ble_eq_true rfl)) dX9_toldClock_31 ⟨Nat.le_of_ble_eq_true rfl, Nat.le_of_ble_eq_true rfl⟩) hS (fun q _ h => pu_fr hS hA q h) (pu_fr hS hA) (fun r_16 u t H1 locs ht hvm hw hB hz1 hk1 hS => ?_)
        have hP := pu_keep hP hk1
        clear hk1 hz1 ht hvm
        generalize H1 = H at hP hS ⊢
        obtain rfl : r_16 = nI (n_10) := hw
        exact W.iret (v := (nI n_10)) hx hb hr (fun t ht hW => ⟨⟨(nI n_10), (), rfl, ⟨n_10, hn_10, rfl, (congrArg Prod.fst (hsp.symm.trans hRR))⟩, ⟨z26_2, z27_3, ⟨by rw [ht]; exact hP, va_K.moved hW.alike hK, hD⟩, hz26_2, (congrArg Prod.snd (hsp.symm.trans hRR))⟩⟩, hS.F ht⟩) hS.2.2 dX9_toldClock_34
      · have c_15 : ¬ 0 ≤ n_10 := fun z => c_15 ((nI_leI (a := 0) (b := n_10) (Nat.le_of_ble_eq_true rfl) (Nat.lt_of_le_of_lt hn_10 (Nat.le_of_ble_eq_true rfl))).mpr z)
        exfalso
        omega
theorem dX9_toldPlace_0 : decode cX9_toldPlace 0 = .ok (.aload_n 0, 1) := by decide +kernel
theorem dX9_toldPlace_1 : decode cX9_toldPlace 1 = .ok (.invokevirtual 213, 3) := by decide +kernel
theorem dX9_toldPlace_4 : decode cX9_toldPlace 4 = .ok (.aload_n 0, 1) := by decide +kernel
theorem dX9_toldPlace_5 : decode cX9_toldPlace 5 = .ok (.invokevirtual 216, 3) := by decide +kernel
theorem dX9_toldPlace_8 : decode cX9_toldPlace 8 = .ok (.ifCond .eq 10, 3) := by decide +kernel
theorem dX9_toldPlace_11 : decode cX9_toldPlace 11 = .ok (.aload_n 0, 1) := by decide +kernel
theorem dX9_toldPlace_12 : decode cX9_toldPlace 12 = .ok (.invokevirtual 223, 3) := by decide +kernel
theorem dX9_toldPlace_15 : decode cX9_toldPlace 15 = .ok (.goto 4, 3) := by decide +kernel
theorem dX9_toldPlace_18 : decode cX9_toldPlace 18 = .ok (.iconst 0, 1) := by decide +kernel
theorem dX9_toldPlace_19 : decode cX9_toldPlace 19 = .ok (.istore_n 1, 1) := by decide +kernel
theorem dX9_toldPlace_20 : decode cX9_toldPlace 20 = .ok (.iload_n 1, 1) := by decide +kernel
theorem dX9_toldPlace_21 : decode cX9_toldPlace 21 = .ok (.ifCond .ge 8, 3) := by decide +kernel
theorem dX9_toldPlace_24 : decode cX9_toldPlace 24 = .ok (.aload_n 0, 1) := by decide +kernel
theorem dX9_toldPlace_25 : decode cX9_toldPlace 25 = .ok (.iconst 3, 1) := by decide +kernel
theorem dX9_toldPlace_26 : decode cX9_toldPlace 26 = .ok (.invokevirtual 210, 3) := by decide +kernel
theorem dX9_toldPlace_29 : decode cX9_toldPlace 29 = .ok (.aload_n 0, 1) := by decide +kernel
theorem dX9_toldPlace_30 : decode cX9_toldPlace 30 = .ok (.invokevirtual 216, 3) := by decide +kernel
theorem dX9_toldPlace_33 : decode cX9_toldPlace 33 = .ok (.ifCond .eq 7, 3) := by decide +kernel
theorem dX9_toldPlace_36 : decode cX9_toldPlace 36 = .ok (.aload_n 0, 1) := by decide +kernel
theorem dX9_toldPlace_37 : decode cX9_toldPlace 37 = .ok (.invokevirtual 226, 3) := by decide +kernel
theorem dX9_toldPlace_40 : decode cX9_toldPlace 40 = .ok (.iconst 0, 1) := by decide +kernel
theorem dX9_toldPlace_41 : decode cX9_toldPlace 41 = .ok (.iload_n 1, 1) := by decide +kernel
theorem dX9_toldPlace_42 : decode cX9_toldPlace 42 = .ok (.invokestatic 229, 3) := by decide +kernel
theorem dX9_toldPlace_45 : decode cX9_toldPlace 45 = .ok (.ireturn, 1) := by decide +kernel
abbrev vs_EM_toldPlace_0 : List Cond := .code yX9_toldPlace cX9_toldPlace 2 (some .int) :: VM
theorem g_EM_toldPlace_0_EM_mustBeName : GoodIn vs_EM_toldPlace_0 (wsV RX9 213 RX9 yX9_mustBeName vs_EM_mustBeName) := gm_V vm_67 vm_68 vm_69 vm_19 vm_70
theorem g_EM_toldPlace_0_EM_isGood : GoodIn vs_EM_toldPlace_0 (wsV RX9 216 RX9 yX9_isGood vs_EM_isGood) := gm_V vm_71 vm_72 vm_73 vm_19 vm_74
theorem g_EM_toldPlace_0_EM_greater_0 : GoodIn vs_EM_toldPlace_0 (va_wsS RX9 229 yX9_greater vs_EM_greater_0) := gm_S vm_87 vm_88 vm_19 vm_89
theorem g_EM_toldPlace_0_EM_next : GoodIn vs_EM_toldPlace_0 (wsV RX9 226 RX9 yX9_next vs_EM_next) := gm_V vm_75 vm_76 vm_77 vm_19 vm_78
theorem g_EM_toldPlace_0_EM_placeCalled_0 : GoodIn vs_EM_toldPlace_0 (wsV RX9 223 RX9 yX9_placeCalled vs_EM_placeCalled_0) := gm_V vm_83 vm_84 vm_85 vm_19 vm_86
theorem g_EM_toldPlace_0_EM_fails : GoodIn vs_EM_toldPlace_0 (wsV RX9 210 RX9 yX9_fails vs_EM_fails) := gm_V vm_29 vm_30 vm_31 vm_19 vm_32
theorem g_EM_toldPlace_0_EM_greater_n : GoodIn vs_EM_toldPlace_0 (va_wsS RX9 229 yX9_greater vs_EM_greater_n) := gm_S vm_87 vm_88 vm_19 vm_89
noncomputable def sp_EM_toldPlace_0 (x19 : Nat) (x20 : Int32) (x21 : Nat) (x22 : Nat) (x23 : Int32) (x26 : Nat) (x27 : Int32) (f2 : Nat → Int32) (m13_0 : Nat) (f17 : Nat → Int32) : Nat × Int32 × Nat × Nat × Int32 × Nat × Int32 := (slet (sp_EM_mustBeName x20 x22 x23 x26 x27) (fun (z26_2, z27_3) => (slet (sp_EM_isGood z26_2) (fun u_5 => (if u_5 = 0 then (slet (sp_EM_isGood z26_2) (fun u_8 => (if u_8 = 0 then (0, x20, x21, x22, x23, z26_2, z27_3) else (slet (sp_EM_next x19 x21 f17) (fun (z20_12, z21_13, z22_14, z23_15) => (0, z20_12, z21_13, z22_14, z23_15, z26_2, z27_3)))))) else (slet (sp_EM_placeCalled_0 x23 f2 m13_0) (fun u_18 => (if u_18 = 0 then (slet (sp_EM_fails x20 x22 z26_2 z27_3 3) (fun (z26_21, z27_22) => (slet (sp_EM_isGood z26_21) (fun u_24 => (if u_24 = 0 then (0, x20, x21, x22, x23, z26_21, z27_22) else (slet (sp_EM_next x19 x21 f17) (fun (z20_28, z21_29, z22_30, z23_31) => (0, z20_28, z21_29, z22_30, z23_31, z26_21, z27_22)))))))) else (slet (u_18 - 1) (fun n_19 => (slet (sp_EM_isGood z26_2) (fun u_35 => (if u_35 = 0 then (n_19, x20, x21, x22, x23, z26_2, z27_3) else (slet (sp_EM_next x19 x21 f17) (fun (z20_39, z21_40, z22_41, z23_42) => (n_19, z20_39, z21_40, z22_41, z23_42, z26_2, z27_3))))))))))))))))
set_option maxHeartbeats 4000000 in
set_option maxRecDepth 100000 in
theorem c_EM_toldPlace_0 (l : Launch) (dC : Nat → ClassId) (dI : Nat → Nat → Nat) (sz : Nat) (ad : Nat → Nat) (ck : Nat → ClassId) (x0 : Int32) (x16 : Nat) (x18 : Nat) (x19 : Nat) (x20 : Int32) (x21 : Nat) (x22 : Nat) (x23 : Int32) (x24 : Int32) (x25 : Int32) (x26 : Nat) (x27 : Int32) (x29 : Nat) (x30 : Nat) (x33 : Nat) (x45 : Int32) (x46 : Nat) (x52 : Nat) (x53 : Nat) (x61 : Nat) (x62 : Nat) (x63 : Nat) (x65 : Nat) (x66 : Int32) (f1 : Nat → Int32) (f2 : Nat → Int32) (f3 : Nat → Int32) (q4 : Nat → Nat) (q5 : Nat → Nat) (q6 : Nat → Nat) (q7 : Nat → Nat) (f8 : Nat → Int32) (q9 : Nat → Nat) (q10 : Nat → Nat) (f11 : Nat → Int32) (m12_0 m12_1 : Nat) (m13_0 m13_1 : Nat) (m14_0 m14_1 : Nat) (m15_0 m15_1 : Nat) (f17 : Nat → Int32) (q31 : Nat → Nat) (f32 : Nat → Int32) (f34 : Nat → Int32) (f35 : Nat → Int32) (f36 : Nat → Int32) (f37 : Nat → Int32) (q38 : Nat → Nat) (f39 : Nat → Int32) (f40 : Nat → Int32) (f41 : Nat → Int32) (m42_0 m42_1 : Nat) (f43 : Nat → Int32) (f44 : Nat → Int32) (f47 : Nat → Int32) (f48 : Nat → Int32) (f49 : Nat → Int32) (f50 : Nat → Int32) (f51 : Nat → Int32) (q54 : Nat → Nat) (q55 : Nat → Nat) (q56 : Nat → Nat) (f57 : Nat → Int32) (q58 : Nat → Nat) (f59 : Nat → Int32) (f60 : Nat → Int32) (f64 : Nat → Int32) (hx16 : x16 ≤ 1) (hx18 : x18 ≤ 900) (hx19 : x19 ≤ 900) (hx21 : x21 ≤ 900) (hx22 : x22 ≤ 4) (hx26 : x26 ≤ 6) (hx29 : x29 ≤ 1) (hx30 : x30 ≤ 1) (hx33 : x33 ≤ 20) (hx46 : x46 ≤ 5) (hx52 : x52 ≤ 2400) (hx53 : x53 ≤ 119) (hx61 : x61 ≤ 119) (hx62 : x62 ≤ 2000) (hx63 : x63 ≤ 1) (hx65 : x65 ≤ 7) (hm12_0 : m12_0 ≤ 3) (hm12_1 : m12_1 ≤ 3) (hm13_0 : m13_0 ≤ 8) (hm13_1 : m13_1 ≤ 8) (hm14_0 : m14_0 ≤ 14) (hm14_1 : m14_1 ≤ 14) (hm15_0 : m15_0 ≤ 8) (hm15_1 : m15_1 ≤ 8) (hm42_0 : m42_0 ≤ 120) (hm42_1 : m42_1 ≤ 400) : Met l yX9_toldPlace vs_EM_toldPlace_0 ({ frames := 3, cells := 0, slots := 0, locals := 61 }) (va_Pc [.ref (ad 0)] (pu_B (dC, dI) (mo_w ad ck x0 (nI x16) (nI x18) (nI x19) x20 (nI x21) (nI x22) x23 x24 x25 (nI x26) x27 0 (nI x29) (nI x30) (nI x33) x45 (nI x46) (nI x52) (nI x53) (nI x61) (nI x62) (nI x63) (nI x65) x66 f1 f2 f3 (bN 3 q4) (bN 7 q5) (bN 7 q6) (bN 4 q7) f8 (bN 2 q9) (bH q10) f11 (b2 m12_0 m12_1) (b2 m13_0 m13_1) (b2 m14_0 m14_1) (b2m m15_0 m15_1) f17 (bA 159 q31) f32 f34 f35 f36 f37 (bN 7 q38) f39 f40 f41 (b2 m42_0 m42_1) f43 f44 f47 f48 f49 f50 f51 (bN 13 q54) (bN 120 q55) (bN 120 q56) f57 (bN 120 q58) f59 f60 f64) (mo_t ck) sz)) (va_Qi (fun (r : Int32) (_ : Unit) => ∃ v : Nat, v ≤ 7 ∧ r = nI v ∧ v = (sp_EM_toldPlace_0 x19 x20 x21 x22 x23 x26 x27 f2 m13_0 f17).1) (fun _ t => ∃ (z20 : Int32) (z21 : Nat) (z22 : Nat) (z23 : Int32) (z26 : Nat) (z27 : Int32), pu_E (dC, dI) (mo_w ad ck x0 (nI x16) (nI x18) (nI x19) z20 (nI z21) (nI z22) z23 x24 x25 (nI z26) z27 0 (nI x29) (nI x30) (nI x33) x45 (nI x46) (nI x52) (nI x53) (nI x61) (nI x62) (nI x63) (nI x65) x66 f1 f2 f3 (bN 3 q4) (bN 7 q5) (bN 7 q6) (bN 4 q7) f8 (bN 2 q9) (bH q10) f11 (b2 m12_0 m12_1) (b2 m13_0 m13_1) (b2 m14_0 m14_1) (b2m m15_0 m15_1) f17 (bA 159 q31) f32 f34 f35 f36 f37 (bN 7 q38) f39 f40 f41 (b2 m42_0 m42_1) f43 f44 f47 f48 f49 f50 f51 (bN 13 q54) (bN 120 q55) (bN 120 q56) f57 (bN 120 q58) f59 f60 f64) (mo_t ck) (va_A ((mo_w ad ck x0 (nI x16) (nI x18) (nI x19) x20 (nI x21) (nI x22) x23 x24 x25 (nI x26) x27 0 (nI x29) (nI x30) (nI x33) x45 (nI x46) (nI x52) (nI x53) (nI x61) (nI x62) (nI x63) (nI x65) x66 f1 f2 f3 (bN 3 q4) (bN 7 q5) (bN 7 q6) (bN 4 q7) f8 (bN 2 q9) (bH q10) f11 (b2 m12_0 m12_1) (b2 m13_0 m13_1) (b2 m14_0 m14_1) (b2m m15_0 m15_1) f17 (bA 159 q31) f32 f34 f35 f36 f37 (bN 7 q38) f39 f40 f41 (b2 m42_0 m42_1) f43 f44 f47 f48 f49 f50 f51 (bN 13 q54) (bN 120 q55) (bN 120 q56) f57 (bN 120 q58) f59 f60 f64)) sz) t ∧ (z21 ≤ 900) ∧ (z22 ≤ 4) ∧ (z26 ≤ 6) ∧ (mu z21 z22 ≤ mu x21 x22) ∧ ((z20, z21, z22, z23, z26, z27) = (sp_EM_toldPlace_0 x19 x20 x21 x22 x23 x26 x27 f2 m13_0 f17).2)) (va_A ((mo_w ad ck x0 (nI x16) (nI x18) (nI x19) x20 (nI x21) (nI x22) x23 x24 x25 (nI x26) x27 0 (nI x29) (nI x30) (nI x33) x45 (nI x46) (nI x52) (nI x53) (nI x61) (nI x62) (nI x63) (nI x65) x66 f1 f2 f3 (bN 3 q4) (bN 7 q5) (bN 7 q6) (bN 4 q7) f8 (bN 2 q9) (bH q10) f11 (b2 m12_0 m12_1) (b2 m13_0 m13_1) (b2 m14_0 m14_1) (b2m m15_0 m15_1) f17 (bA 159 q31) f32 f34 f35 f36 f37 (bN 7 q38) f39 f40 f41 (b2 m42_0 m42_1) f43 f44 f47 f48 f49 f50 f51 (bN 13 q54) (bN 120 q55) (bN 120 q56) f57 (bN 120 q58) f59 f60 f64)) sz)) 0 0 (va_A ((mo_w ad ck x0 (nI x16) (nI x18) (nI x19) x20 (nI x21) (nI x22) x23 x24 x25 (nI x26) x27 0 (nI x29) (nI x30) (nI x33) x45 (nI x46) (nI x52) (nI x53) (nI x61) (nI x62) (nI x63) (nI x65) x66 f1 f2 f3 (bN 3 q4) (bN 7 q5) (bN 7 q6) (bN 4 q7) f8 (bN 2 q9) (bH q10) f11 (b2 m12_0 m12_1) (b2 m13_0 m13_1) (b2 m14_0 m14_1) (b2m m15_0 m15_1) f17 (bA 159 q31) f32 f34 f35 f36 f37 (bN 7 q38) f39 f40 f41 (b2 m42_0 m42_1) f43 f44 f47 f48 f49 f50 f51 (bN 13 q54) (bN 120 q55) (bN 120 q56) f57 (bN 120 q58) f59 f60 f64)) sz) := by
  refine Met.ofW (cc := cX9_toldPlace) (maxL := 2) (ret := (some .int)) (by decide) rfl ?_
  intro p e s m args below meth c s₁ B hml hv
  obtain ⟨rfl, rfl, hP, hK, hD0⟩ := hv
  have hx := B.exec
  have hb := B.bytes
  have hr := B.returns
  have hts := atoms_spec (ws := vs_EM_toldPlace_0) B.pre
  have hown : s.vm.findClass RX9 = some m.cls := findClass_of_methodNamed B.named
  have hlocks := B.notSynchronized
  have hD := hD0.self (sz := s.heap.size)
  generalize hAe : va_A ((mo_w ad ck x0 (nI x16) (nI x18) (nI x19) x20 (nI x21) (nI x22) x23 x24 x25 (nI x26) x27 0 (nI x29) (nI x30) (nI x33) x45 (nI x46) (nI x52) (nI x53) (nI x61) (nI x62) (nI x63) (nI x65) x66 f1 f2 f3 (bN 3 q4) (bN 7 q5) (bN 7 q6) (bN 4 q7) f8 (bN 2 q9) (bH q10) f11 (b2 m12_0 m12_1) (b2 m13_0 m13_1) (b2 m14_0 m14_1) (b2m m15_0 m15_1) f17 (bA 159 q31) f32 f34 f35 f36 f37 (bN 7 q38) f39 f40 f41 (b2 m42_0 m42_1) f43 f44 f47 f48 f49 f50 f51 (bN 13 q54) (bN 120 q55) (bN 120 q56) f57 (bN 120 q58) f59 f60 f64)) s.heap.size = A at hD ⊢
  have hA : ∀ q : Nat, s.heap.size ≤ q → A q := fun q h => by rw [← hAe]; exact Or.inr h
  have hS : va_S A s.heap s.heap [] := va_S.rf
  have hl := lv_entry ([.ref (ad 0)]) (n := 2) (Nat.le_of_ble_eq_true rfl)
  rw [lg_entry_eq]
  generalize (lg_sl ([.ref (ad 0)]) ++ List.replicate (2 - (lg_sl ([.ref (ad 0)])).length) Slot.unset).toArray = ls at hl ⊢
  have hl : lv_has ls 2 [(0, .ref (ad 0))] := hl
  obtain ⟨RR, hRR⟩ : ∃ x, x = (sp_EM_toldPlace_0 x19 x20 x21 x22 x23 x26 x27 f2 m13_0 f17) := ⟨_, rfl⟩
  have hsp := hRR
  refine lv_aload_n hx hb dX9_toldPlace_0 rfl (lv_at hl 0 rfl) ?_
  have hFc := pu_free hD hS hA
  refine va_callv (va_runV (As := []) (rest := []) ⟨hx, hb, hml, hown, hts⟩ (c_EM_mustBeName l dC dI _ ad ck x0 x16 x18 x19 x20 x21 x22 x23 x24 x25 x26 x27 0 x29 x30 x33 x45 x46 x52 x53 x61 x62 x63 x65 x66 f1 f2 f3 q4 q5 q6 q7 f8 q9 q10 f11 m12_0 m12_1 m13_0 m13_1 m14_0 m14_1 m15_0 m15_1 f17 q31 f32 f34 f35 f36 f37 q38 f39 f40 f41 m42_0 m42_1 f43 f44 f47 f48 f49 f50 f51 q54 q55 q56 f57 q58 f59 f60 f64 hx16 hx18 hx19 hx21 hx22 hx26 (Nat.le_of_ble_eq_true rfl) hx29 hx30 hx33 hx46 hx52 hx53 hx61 hx62 hx63 hx65 hm12_0 hm12_1 hm13_0 hm13_1 hm14_0 hm14_1 hm15_0 hm15_1 hm42_0 hm42_1) (cwV 0 hts g_EM_toldPlace_0_EM_mustBeName rfl rfl rfl (by decide +kernel) ⟨Nat.le_of_ble_eq_true rfl, Nat.le_of_ble_eq_true rfl⟩) ⟨pu_bl, va_recv hK hP (ci := 9) (q0 := 0) rfl rfl, pu_in hP hK hD⟩ rfl rfl hl.1 rfl (lv_room (Nat.le_of_ble_eq_true rfl)) dX9_toldPlace_1 ⟨Nat.le_of_ble_eq_true rfl, Nat.le_of_ble_eq_true rfl⟩) hS (fun q _ h => hFc q h) hFc (fun u t H1 locs ht hvm hw hB hz1 hk1 hS => ?_)
  obtain ⟨z26_2, z27_3, ⟨hP1, -, hD1⟩, hz26_2, xr_1_0, xr_1_1⟩ := hB
  rw [ht] at hP1
  have hP := hP1
  have hD := pu_all hFc hD1
  clear hP1 hD1 hFc
  clear hk1 hz1 ht hvm
  generalize H1 = H at hP hS ⊢
  have hsp := hsp.trans (slet_eq xr_1_1)
  refine lv_aload_n hx hb dX9_toldPlace_4 rfl (lv_at hl 0 rfl) ?_
  refine va_calli (va_runV (As := []) (rest := []) ⟨hx, hb, hml, hown, hts⟩ (c_EM_isGood l dC dI _ ad ck x0 x16 x18 x19 x20 x21 x22 x23 x24 x25 z26_2 z27_3 0 x29 x30 x33 x45 x46 x52 x53 x61 x62 x63 x65 x66 f1 f2 f3 q4 q5 q6 q7 f8 q9 q10 f11 m12_0 m12_1 m13_0 m13_1 m14_0 m14_1 m15_0 m15_1 f17 q31 f32 f34 f35 f36 f37 q38 f39 f40 f41 m42_0 m42_1 f43 f44 f47 f48 f49 f50 f51 q54 q55 q56 f57 q58 f59 f60 f64 hx16 hx18 hx19 hx21 hx22 hz26_2 (Nat.le_of_ble_eq_true rfl) hx29 hx30 hx33 hx46 hx52 hx53 hx61 hx62 hx63 hx65 hm12_0 hm12_1 hm13_0 hm13_1 hm14_0 hm14_1 hm15_0 hm15_1 hm42_0 hm42_1) (cwV 0 hts g_EM_toldPlace_0_EM_isGood rfl rfl rfl (by decide +kernel) ⟨Nat.le_of_ble_eq_true rfl, Nat.le_of_ble_eq_true rfl⟩) ⟨pu_bl, va_recv hK hP (ci := 9) (q0 := 0) rfl rfl, pu_in hP hK hD⟩ rfl rfl hl.1 rfl (lv_room (Nat.le_of_ble_eq_true rfl)) dX9_toldPlace_5 ⟨Nat.le_of_ble_eq_true rfl, Nat.le_of_ble_eq_true rfl⟩) hS (fun q _ h => pu_fr hS hA q h) (pu_fr hS hA) (fun r_4 u t H1 locs ht hvm hw hB hz1 hk1 hS => ?_)
  have hP := pu_keep hP hk1
  clear hk1 hz1 ht hvm
  generalize H1 = H at hP hS ⊢
  obtain ⟨u_5, hu_5, rfl, ju_5, iu_5⟩ := hw
  have hsp := hsp.trans (slet_eq iu_5)
  refine lv_if_eq (tgt := 18) hx hb dX9_toldPlace_8 (by decide) (fun c_6 => ?_) (fun c_6 => ?_)
  · have c_6 : u_5 = 0 := (nI_eq (a := u_5) (b := 0) (Nat.lt_of_le_of_lt hu_5 (Nat.le_of_ble_eq_true rfl)) (Nat.le_of_ble_eq_true rfl)).mp c_6
    have hsp := hsp.trans (if_pos c_6)
    refine lv_iconst (v := 0) hx hb dX9_toldPlace_18 (by decide) ?_
    refine lv_istore_n (lv' := [(1, .int 0), (0, .ref (ad 0))]) hx hb dX9_toldPlace_19 rfl hl (by decide) rfl (fun ls hl => ?_)
    refine lv_iload_n hx hb dX9_toldPlace_20 rfl (lv_at hl 0 rfl) ?_
    refine lv_if_ge (tgt := 29) hx hb dX9_toldPlace_21 (by decide) (fun _ => ?_) (fun z => absurd z (by decide))
    refine lv_aload_n hx hb dX9_toldPlace_29 rfl (lv_at hl 1 rfl) ?_
    refine va_calli (va_runV (As := []) (rest := []) ⟨hx, hb, hml, hown, hts⟩ (c_EM_isGood l dC dI _ ad ck x0 x16 x18 x19 x20 x21 x22 x23 x24 x25 z26_2 z27_3 0 x29 x30 x33 x45 x46 x52 x53 x61 x62 x63 x65 x66 f1 f2 f3 q4 q5 q6 q7 f8 q9 q10 f11 m12_0 m12_1 m13_0 m13_1 m14_0 m14_1 m15_0 m15_1 f17 q31 f32 f34 f35 f36 f37 q38 f39 f40 f41 m42_0 m42_1 f43 f44 f47 f48 f49 f50 f51 q54 q55 q56 f57 q58 f59 f60 f64 hx16 hx18 hx19 hx21 hx22 hz26_2 (Nat.le_of_ble_eq_true rfl) hx29 hx30 hx33 hx46 hx52 hx53 hx61 hx62 hx63 hx65 hm12_0 hm12_1 hm13_0 hm13_1 hm14_0 hm14_1 hm15_0 hm15_1 hm42_0 hm42_1) (cwV 0 hts g_EM_toldPlace_0_EM_isGood rfl rfl rfl (by decide +kernel) ⟨Nat.le_of_ble_eq_true rfl, Nat.le_of_ble_eq_true rfl⟩) ⟨pu_bl, va_recv hK hP (ci := 9) (q0 := 0) rfl rfl, pu_in hP hK hD⟩ rfl rfl hl.1 rfl (lv_room (Nat.le_of_ble_eq_true rfl)) dX9_toldPlace_30 ⟨Nat.le_of_ble_eq_true rfl, Nat.le_of_ble_eq_true rfl⟩) hS (fun q _ h => pu_fr hS hA q h) (pu_fr hS hA) (fun r_7 u t H1 locs ht hvm hw hB hz1 hk1 hS => ?_)
    have hP := pu_keep hP hk1
    clear hk1 hz1 ht hvm
    generalize H1 = H at hP hS ⊢
    obtain ⟨u_8, hu_8, rfl, ju_8, iu_8⟩ := hw
    have hsp := hsp.trans (slet_eq iu_8)
    refine lv_if_eq (tgt := 40) hx hb dX9_toldPlace_33 (by decide) (fun c_9 => ?_) (fun c_9 => ?_)
    · have c_9 : u_8 = 0 := (nI_eq (a := u_8) (b := 0) (Nat.lt_of_le_of_lt hu_8 (Nat.le_of_ble_eq_true rfl)) (Nat.le_of_ble_eq_true rfl)).mp c_9
      have hsp := hsp.trans (if_pos c_9)
      refine lv_iconst (v := 0) hx hb dX9_toldPlace_40 (by decide) ?_
      refine lv_iload_n hx hb dX9_toldPlace_41 rfl (lv_at hl 0 rfl) ?_
      refine va_calli (va_runS (As := [.int 0, .int 0]) (rest := []) ⟨hx, hb, hml, hown, hts⟩ (c_EM_greater_0 l dC dI _ ad ck x0 x16 x18 x19 x20 x21 x22 x23 x24 x25 z26_2 z27_3 0 x29 x30 x33 x45 x46 x52 x53 x61 x62 x63 x65 x66 f1 f2 f3 q4 q5 q6 q7 f8 q9 q10 f11 m12_0 m12_1 m13_0 m13_1 m14_0 m14_1 m15_0 m15_1 f17 q31 f32 f34 f35 f36 f37 q38 f39 f40 f41 m42_0 m42_1 f43 f44 f47 f48 f49 f50 f51 q54 q55 q56 f57 q58 f59 f60 f64 0 hx16 hx18 hx19 hx21 hx22 hz26_2 (Nat.le_of_ble_eq_true rfl) hx29 hx30 hx33 hx46 hx52 hx53 hx61 hx62 hx63 hx65 hm12_0 hm12_1 hm13_0 hm13_1 hm14_0 hm14_1 hm15_0 hm15_1 hm42_0 hm42_1 (Nat.le_of_ble_eq_true rfl)) (va_cwS 2 hts g_EM_toldPlace_0_EM_greater_0 rfl rfl rfl (by decide +kernel) ⟨Nat.le_of_ble_eq_true rfl, Nat.le_of_ble_eq_true rfl⟩) ⟨pu_bl, pu_in hP hK hD⟩ rfl rfl hl.1 rfl (lv_room (Nat.le_of_ble_eq_true rfl)) dX9_toldPlace_42 ⟨Nat.le_of_ble_eq_true rfl, Nat.le_of_ble_eq_true rfl⟩) hS (fun q _ h => pu_fr hS hA q h) (pu_fr hS hA) (fun r_10 u t H1 locs ht hvm hw hB hz1 hk1 hS => ?_)
      have hP := pu_keep hP hk1
      clear hk1 hz1 ht hvm
      generalize H1 = H at hP hS ⊢
      obtain rfl : r_10 = nI (0) := hw
      exact W.iret (v := (nI 0)) hx hb hr (fun t ht hW => ⟨⟨(nI 0), (), rfl, ⟨0, (Nat.le_of_ble_eq_true rfl), rfl, (congrArg Prod.fst (hsp.symm.trans hRR))⟩, ⟨x20, x21, x22, x23, z26_2, z27_3, ⟨by rw [ht]; exact hP, va_K.moved hW.alike hK, hD⟩, hx21, hx22, hz26_2, by omega, (congrArg Prod.snd (hsp.symm.trans hRR))⟩⟩, hS.F ht⟩) hS.2.2 dX9_toldPlace_45
    · have c_9 : ¬ u_8 = 0 := fun z => c_9 ((nI_eq (a := u_8) (b := 0) (Nat.lt_of_le_of_lt hu_8 (Nat.le_of_ble_eq_true rfl)) (Nat.le_of_ble_eq_true rfl)).mpr z)
      have hsp := hsp.trans (if_neg c_9)
      refine lv_aload_n hx hb dX9_toldPlace_36 rfl (lv_at hl 1 rfl) ?_
      have hFc := pu_free hD hS hA
      refine va_callv (va_runV (As := []) (rest := []) ⟨hx, hb, hml, hown, hts⟩ (c_EM_next l dC dI _ ad ck x0 x16 x18 x19 x20 x21 x22 x23 x24 x25 z26_2 z27_3 0 x29 x30 x33 x45 x46 x52 x53 x61 x62 x63 x65 x66 f1 f2 f3 q4 q5 q6 q7 f8 q9 q10 f11 m12_0 m12_1 m13_0 m13_1 m14_0 m14_1 m15_0 m15_1 f17 q31 f32 f34 f35 f36 f37 q38 f39 f40 f41 m42_0 m42_1 f43 f44 f47 f48 f49 f50 f51 q54 q55 q56 f57 q58 f59 f60 f64 hx16 hx18 hx19 hx21 hx22 hz26_2 (Nat.le_of_ble_eq_true rfl) hx29 hx30 hx33 hx46 hx52 hx53 hx61 hx62 hx63 hx65 hm12_0 hm12_1 hm13_0 hm13_1 hm14_0 hm14_1 hm15_0 hm15_1 hm42_0 hm42_1) (cwV 0 hts g_EM_toldPlace_0_EM_next rfl rfl rfl (by decide +kernel) ⟨Nat.le_of_ble_eq_true rfl, Nat.le_of_ble_eq_true rfl⟩) ⟨pu_bl, va_recv hK hP (ci := 9) (q0 := 0) rfl rfl, pu_in hP hK hD⟩ rfl rfl hl.1 rfl (lv_room (Nat.le_of_ble_eq_true rfl)) dX9_toldPlace_37 ⟨Nat.le_of_ble_eq_true rfl, Nat.le_of_ble_eq_true rfl⟩) hS (fun q _ h => hFc q h) hFc (fun u t H1 locs ht hvm hw hB hz1 hk1 hS => ?_)
      obtain ⟨z20_12, z21_13, z22_14, z23_15, ⟨hP1, -, hD1⟩, hz21_13, hz22_14, xr_11_0, xr_11_1, xr_11_2⟩ := hB
      rw [ht] at hP1
      have hP := hP1
      have hD := pu_all hFc hD1
      clear hP1 hD1 hFc
      clear hk1 hz1 ht hvm
      generalize H1 = H at hP hS ⊢
      have hsp := hsp.trans (slet_eq xr_11_2)
      refine lv_iconst (v := 0) hx hb dX9_toldPlace_40 (by decide) ?_
      refine lv_iload_n hx hb dX9_toldPlace_41 rfl (lv_at hl 0 rfl) ?_
      refine va_calli (va_runS (As := [.int 0, .int 0]) (rest := []) ⟨hx, hb, hml, hown, hts⟩ (c_EM_greater_0 l dC dI _ ad ck x0 x16 x18 x19 z20_12 z21_13 z22_14 z23_15 x24 x25 z26_2 z27_3 0 x29 x30 x33 x45 x46 x52 x53 x61 x62 x63 x65 x66 f1 f2 f3 q4 q5 q6 q7 f8 q9 q10 f11 m12_0 m12_1 m13_0 m13_1 m14_0 m14_1 m15_0 m15_1 f17 q31 f32 f34 f35 f36 f37 q38 f39 f40 f41 m42_0 m42_1 f43 f44 f47 f48 f49 f50 f51 q54 q55 q56 f57 q58 f59 f60 f64 0 hx16 hx18 hx19 hz21_13 hz22_14 hz26_2 (Nat.le_of_ble_eq_true rfl) hx29 hx30 hx33 hx46 hx52 hx53 hx61 hx62 hx63 hx65 hm12_0 hm12_1 hm13_0 hm13_1 hm14_0 hm14_1 hm15_0 hm15_1 hm42_0 hm42_1 (Nat.le_of_ble_eq_true rfl)) (va_cwS 2 hts g_EM_toldPlace_0_EM_greater_0 rfl rfl rfl (by decide +kernel) ⟨Nat.le_of_ble_eq_true rfl, Nat.le_of_ble_eq_true rfl⟩) ⟨pu_bl, pu_in hP hK hD⟩ rfl rfl hl.1 rfl (lv_room (Nat.le_of_ble_eq_true rfl)) dX9_toldPlace_42 ⟨Nat.le_of_ble_eq_true rfl, Nat.le_of_ble_eq_true rfl⟩) hS (fun q _ h => pu_fr hS hA q h) (pu_fr hS hA) (fun r_16 u t H1 locs ht hvm hw hB hz1 hk1 hS => ?_)
      have hP := pu_keep hP hk1
      clear hk1 hz1 ht hvm
      generalize H1 = H at hP hS ⊢
      obtain rfl : r_16 = nI (0) := hw
      exact W.iret (v := (nI 0)) hx hb hr (fun t ht hW => ⟨⟨(nI 0), (), rfl, ⟨0, (Nat.le_of_ble_eq_true rfl), rfl, (congrArg Prod.fst (hsp.symm.trans hRR))⟩, ⟨z20_12, z21_13, z22_14, z23_15, z26_2, z27_3, ⟨by rw [ht]; exact hP, va_K.moved hW.alike hK, hD⟩, hz21_13, hz22_14, hz26_2, by omega, (congrArg Prod.snd (hsp.symm.trans hRR))⟩⟩, hS.F ht⟩) hS.2.2 dX9_toldPlace_45
  · have c_6 : ¬ u_5 = 0 := fun z => c_6 ((nI_eq (a := u_5) (b := 0) (Nat.lt_of_le_of_lt hu_5 (Nat.le_of_ble_eq_true rfl)) (Nat.le_of_ble_eq_true rfl)).mpr z)
    have hsp := hsp.trans (if_neg c_6)
    refine lv_aload_n hx hb dX9_toldPlace_11 rfl (lv_at hl 0 rfl) ?_
    refine va_calli (va_runV (As := []) (rest := []) ⟨hx, hb, hml, hown, hts⟩ (c_EM_placeCalled_0 l dC dI _ ad ck x0 x16 x18 x19 x20 x21 x22 x23 x24 x25 z26_2 z27_3 x29 x30 x33 x45 x46 x52 x53 x61 x62 x63 x65 x66 f1 f2 f3 q4 q5 q6 q7 f8 q9 q10 f11 m12_0 m12_1 m13_0 m13_1 m14_0 m14_1 m15_0 m15_1 f17 q31 f32 f34 f35 f36 f37 q38 f39 f40 f41 m42_0 m42_1 f43 f44 f47 f48 f49 f50 f51 q54 q55 q56 f57 q58 f59 f60 f64 hx16 hx18 hx19 hx21 hx22 hz26_2 hx29 hx30 hx33 hx46 hx52 hx53 hx61 hx62 hx63 hx65 hm12_0 hm12_1 hm13_0 hm13_1 hm14_0 hm14_1 hm15_0 hm15_1 hm42_0 hm42_1) (cwV 0 hts g_EM_toldPlace_0_EM_placeCalled_0 rfl rfl rfl (by decide +kernel) ⟨Nat.le_of_ble_eq_true rfl, Nat.le_of_ble_eq_true rfl⟩) ⟨pu_bl, va_recv hK hP (ci := 9) (q0 := 0) rfl rfl, pu_in hP hK hD⟩ rfl rfl hl.1 rfl (lv_room (Nat.le_of_ble_eq_true rfl)) dX9_toldPlace_12 ⟨Nat.le_of_ble_eq_true rfl, Nat.le_of_ble_eq_true rfl⟩) hS (fun q _ h => pu_fr hS hA q h) (pu_fr hS hA) (fun r_17 u t H1 locs ht hvm hw hB hz1 hk1 hS => ?_)
    have hP := pu_keep hP hk1
    clear hk1 hz1 ht hvm
    generalize H1 = H at hP hS ⊢
    obtain ⟨u_18, hu_18, mu_18, iu_18⟩ := hw
    have hsp := hsp.trans (slet_eq iu_18)
    rcases mI_get u_18 with ⟨zn_19, wn_19⟩ | ⟨n_19, zn_19, wn_19⟩
    · obtain rfl : r_17 = -1 := mu_18.trans wn_19
      have hsp := hsp.trans (if_pos zn_19)
      refine lv_goto (tgt := 19) hx hb dX9_toldPlace_15 (by decide) ?_
      refine lv_istore_n (lv' := [(1, .int (-1)), (0, .ref (ad 0))]) hx hb dX9_toldPlace_19 rfl hl (by decide) rfl (fun ls hl => ?_)
      refine lv_iload_n hx hb dX9_toldPlace_20 rfl (lv_at hl 0 rfl) ?_
      refine lv_if_ge (tgt := 29) hx hb dX9_toldPlace_21 (by decide) (fun z => absurd z (by decide)) (fun _ => ?_)
      refine lv_aload_n hx hb dX9_toldPlace_24 rfl (lv_at hl 1 rfl) ?_
      refine lv_iconst (v := 3) hx hb dX9_toldPlace_25 (by decide) ?_
      have hFc := pu_free hD hS hA
      refine va_callv (va_runV (As := [.int 3]) (rest := []) ⟨hx, hb, hml, hown, hts⟩ (c_EM_fails l dC dI _ ad ck x0 x16 x18 x19 x20 x21 x22 x23 x24 x25 z26_2 z27_3 0 x29 x30 x33 x45 x46 x52 x53 x61 x62 x63 x65 x66 f1 f2 f3 q4 q5 q6 q7 f8 q9 q10 f11 m12_0 m12_1 m13_0 m13_1 m14_0 m14_1 m15_0 m15_1 f17 q31 f32 f34 f35 f36 f37 q38 f39 f40 f41 m42_0 m42_1 f43 f44 f47 f48 f49 f50 f51 q54 q55 q56 f57 q58 f59 f60 f64 3 hx16 hx18 hx19 hx21 hx22 hz26_2 (Nat.le_of_ble_eq_true rfl) hx29 hx30 hx33 hx46 hx52 hx53 hx61 hx62 hx63 hx65 hm12_0 hm12_1 hm13_0 hm13_1 hm14_0 hm14_1 hm15_0 hm15_1 hm42_0 hm42_1 (Nat.le_of_ble_eq_true rfl) (by omega)) (cwV 1 hts g_EM_toldPlace_0_EM_fails rfl rfl rfl (by decide +kernel) ⟨Nat.le_of_ble_eq_true rfl, Nat.le_of_ble_eq_true rfl⟩) ⟨pu_bl, va_recv hK hP (ci := 9) (q0 := 0) rfl rfl, pu_in hP hK hD⟩ rfl rfl hl.1 rfl (lv_room (Nat.le_of_ble_eq_true rfl)) dX9_toldPlace_26 ⟨Nat.le_of_ble_eq_true rfl, Nat.le_of_ble_eq_true rfl⟩) hS (fun q _ h => hFc q h) hFc (fun u t H1 locs ht hvm hw hB hz1 hk1 hS => ?_)
      obtain ⟨z26_21, z27_22, ⟨hP1, -, hD1⟩, hz26_21, xr_20_0, xr_20_1⟩ := hB
      rw [ht] at hP1
      have hP := hP1
      have hD := pu_all hFc hD1
      clear hP1 hD1 hFc
      clear hk1 hz1 ht hvm
      generalize H1 = H at hP hS ⊢
      have hsp := hsp.trans (slet_eq xr_20_1)
      refine lv_aload_n hx hb dX9_toldPlace_29 rfl (lv_at hl 1 rfl) ?_
      refine va_calli (va_runV (As := []) (rest := []) ⟨hx, hb, hml, hown, hts⟩ (c_EM_isGood l dC dI _ ad ck x0 x16 x18 x19 x20 x21 x22 x23 x24 x25 z26_21 z27_22 0 x29 x30 x33 x45 x46 x52 x53 x61 x62 x63 x65 x66 f1 f2 f3 q4 q5 q6 q7 f8 q9 q10 f11 m12_0 m12_1 m13_0 m13_1 m14_0 m14_1 m15_0 m15_1 f17 q31 f32 f34 f35 f36 f37 q38 f39 f40 f41 m42_0 m42_1 f43 f44 f47 f48 f49 f50 f51 q54 q55 q56 f57 q58 f59 f60 f64 hx16 hx18 hx19 hx21 hx22 hz26_21 (Nat.le_of_ble_eq_true rfl) hx29 hx30 hx33 hx46 hx52 hx53 hx61 hx62 hx63 hx65 hm12_0 hm12_1 hm13_0 hm13_1 hm14_0 hm14_1 hm15_0 hm15_1 hm42_0 hm42_1) (cwV 0 hts g_EM_toldPlace_0_EM_isGood rfl rfl rfl (by decide +kernel) ⟨Nat.le_of_ble_eq_true rfl, Nat.le_of_ble_eq_true rfl⟩) ⟨pu_bl, va_recv hK hP (ci := 9) (q0 := 0) rfl rfl, pu_in hP hK hD⟩ rfl rfl hl.1 rfl (lv_room (Nat.le_of_ble_eq_true rfl)) dX9_toldPlace_30 ⟨Nat.le_of_ble_eq_true rfl, Nat.le_of_ble_eq_true rfl⟩) hS (fun q _ h => pu_fr hS hA q h) (pu_fr hS hA) (fun r_23 u t H1 locs ht hvm hw hB hz1 hk1 hS => ?_)
      have hP := pu_keep hP hk1
      clear hk1 hz1 ht hvm
      generalize H1 = H at hP hS ⊢
      obtain ⟨u_24, hu_24, rfl, ju_24, iu_24⟩ := hw
      have hsp := hsp.trans (slet_eq iu_24)
      refine lv_if_eq (tgt := 40) hx hb dX9_toldPlace_33 (by decide) (fun c_25 => ?_) (fun c_25 => ?_)
      · have c_25 : u_24 = 0 := (nI_eq (a := u_24) (b := 0) (Nat.lt_of_le_of_lt hu_24 (Nat.le_of_ble_eq_true rfl)) (Nat.le_of_ble_eq_true rfl)).mp c_25
        have hsp := hsp.trans (if_pos c_25)
        refine lv_iconst (v := 0) hx hb dX9_toldPlace_40 (by decide) ?_
        refine lv_iload_n hx hb dX9_toldPlace_41 rfl (lv_at hl 0 rfl) ?_
        refine va_calli (va_runS (As := [.int 0, .int (-1)]) (rest := []) ⟨hx, hb, hml, hown, hts⟩ (c_EM_greater_n l dC dI _ ad ck x0 x16 x18 x19 x20 x21 x22 x23 x24 x25 z26_21 z27_22 0 x29 x30 x33 x45 x46 x52 x53 x61 x62 x63 x65 x66 f1 f2 f3 q4 q5 q6 q7 f8 q9 q10 f11 m12_0 m12_1 m13_0 m13_1 m14_0 m14_1 m15_0 m15_1 f17 q31 f32 f34 f35 f36 f37 q38 f39 f40 f41 m42_0 m42_1 f43 f44 f47 f48 f49 f50 f51 q54 q55 q56 f57 q58 f59 f60 f64 hx16 hx18 hx19 hx21 hx22 hz26_21 (Nat.le_of_ble_eq_true rfl) hx29 hx30 hx33 hx46 hx52 hx53 hx61 hx62 hx63 hx65 hm12_0 hm12_1 hm13_0 hm13_1 hm14_0 hm14_1 hm15_0 hm15_1 hm42_0 hm42_1) (va_cwS 2 hts g_EM_toldPlace_0_EM_greater_n rfl rfl rfl (by decide +kernel) ⟨Nat.le_of_ble_eq_true rfl, Nat.le_of_ble_eq_true rfl⟩) ⟨pu_bl, pu_in hP hK hD⟩ rfl rfl hl.1 rfl (lv_room (Nat.le_of_ble_eq_true rfl)) dX9_toldPlace_42 ⟨Nat.le_of_ble_eq_true rfl, Nat.le_of_ble_eq_true rfl⟩) hS (fun q _ h => pu_fr hS hA q h) (pu_fr hS hA) (fun r_26 u t H1 locs ht hvm hw hB hz1 hk1 hS => ?_)
        have hP := pu_keep hP hk1
        clear hk1 hz1 ht hvm
        generalize H1 = H at hP hS ⊢
        obtain rfl : r_26 = 0 := hw
        exact W.iret (v := 0) hx hb hr (fun t ht hW => ⟨⟨0, (), rfl, ⟨0, (Nat.le_of_ble_eq_true rfl), rfl, (congrArg Prod.fst (hsp.symm.trans hRR))⟩, ⟨x20, x21, x22, x23, z26_21, z27_22, ⟨by rw [ht]; exact hP, va_K.moved hW.alike hK, hD⟩, hx21, hx22, hz26_21, by omega, (congrArg Prod.snd (hsp.symm.trans hRR))⟩⟩, hS.F ht⟩) hS.2.2 dX9_toldPlace_45
      · have c_25 : ¬ u_24 = 0 := fun z => c_25 ((nI_eq (a := u_24) (b := 0) (Nat.lt_of_le_of_lt hu_24 (Nat.le_of_ble_eq_true rfl)) (Nat.le_of_ble_eq_true rfl)).mpr z)
        have hsp := hsp.trans (if_neg c_25)
        refine lv_aload_n hx hb dX9_toldPlace_36 rfl (lv_at hl 1 rfl) ?_
        have hFc := pu_free hD hS hA
        refine va_callv (va_runV (As := []) (rest := []) ⟨hx, hb, hml, hown, hts⟩ (c_EM_next l dC dI _ ad ck x0 x16 x18 x19 x20 x21 x22 x23 x24 x25 z26_21 z27_22 0 x29 x30 x33 x45 x46 x52 x53 x61 x62 x63 x65 x66 f1 f2 f3 q4 q5 q6 q7 f8 q9 q10 f11 m12_0 m12_1 m13_0 m13_1 m14_0 m14_1 m15_0 m15_1 f17 q31 f32 f34 f35 f36 f37 q38 f39 f40 f41 m42_0 m42_1 f43 f44 f47 f48 f49 f50 f51 q54 q55 q56 f57 q58 f59 f60 f64 hx16 hx18 hx19 hx21 hx22 hz26_21 (Nat.le_of_ble_eq_true rfl) hx29 hx30 hx33 hx46 hx52 hx53 hx61 hx62 hx63 hx65 hm12_0 hm12_1 hm13_0 hm13_1 hm14_0 hm14_1 hm15_0 hm15_1 hm42_0 hm42_1) (cwV 0 hts g_EM_toldPlace_0_EM_next rfl rfl rfl (by decide +kernel) ⟨Nat.le_of_ble_eq_true rfl, Nat.le_of_ble_eq_true rfl⟩) ⟨pu_bl, va_recv hK hP (ci := 9) (q0 := 0) rfl rfl, pu_in hP hK hD⟩ rfl rfl hl.1 rfl (lv_room (Nat.le_of_ble_eq_true rfl)) dX9_toldPlace_37 ⟨Nat.le_of_ble_eq_true rfl, Nat.le_of_ble_eq_true rfl⟩) hS (fun q _ h => hFc q h) hFc (fun u t H1 locs ht hvm hw hB hz1 hk1 hS => ?_)
        obtain ⟨z20_28, z21_29, z22_30, z23_31, ⟨hP1, -, hD1⟩, hz21_29, hz22_30, xr_27_0, xr_27_1, xr_27_2⟩ := hB
        rw [ht] at hP1
        have hP := hP1
        have hD := pu_all hFc hD1
        clear hP1 hD1 hFc
        clear hk1 hz1 ht hvm
        generalize H1 = H at hP hS ⊢
        have hsp := hsp.trans (slet_eq xr_27_2)
        refine lv_iconst (v := 0) hx hb dX9_toldPlace_40 (by decide) ?_
        refine lv_iload_n hx hb dX9_toldPlace_41 rfl (lv_at hl 0 rfl) ?_
        refine va_calli (va_runS (As := [.int 0, .int (-1)]) (rest := []) ⟨hx, hb, hml, hown, hts⟩ (c_EM_greater_n l dC dI _ ad ck x0 x16 x18 x19 z20_28 z21_29 z22_30 z23_31 x24 x25 z26_21 z27_22 0 x29 x30 x33 x45 x46 x52 x53 x61 x62 x63 x65 x66 f1 f2 f3 q4 q5 q6 q7 f8 q9 q10 f11 m12_0 m12_1 m13_0 m13_1 m14_0 m14_1 m15_0 m15_1 f17 q31 f32 f34 f35 f36 f37 q38 f39 f40 f41 m42_0 m42_1 f43 f44 f47 f48 f49 f50 f51 q54 q55 q56 f57 q58 f59 f60 f64 hx16 hx18 hx19 hz21_29 hz22_30 hz26_21 (Nat.le_of_ble_eq_true rfl) hx29 hx30 hx33 hx46 hx52 hx53 hx61 hx62 hx63 hx65 hm12_0 hm12_1 hm13_0 hm13_1 hm14_0 hm14_1 hm15_0 hm15_1 hm42_0 hm42_1) (va_cwS 2 hts g_EM_toldPlace_0_EM_greater_n rfl rfl rfl (by decide +kernel) ⟨Nat.le_of_ble_eq_true rfl, Nat.le_of_ble_eq_true rfl⟩) ⟨pu_bl, pu_in hP hK hD⟩ rfl rfl hl.1 rfl (lv_room (Nat.le_of_ble_eq_true rfl)) dX9_toldPlace_42 ⟨Nat.le_of_ble_eq_true rfl, Nat.le_of_ble_eq_true rfl⟩) hS (fun q _ h => pu_fr hS hA q h) (pu_fr hS hA) (fun r_32 u t H1 locs ht hvm hw hB hz1 hk1 hS => ?_)
        have hP := pu_keep hP hk1
        clear hk1 hz1 ht hvm
        generalize H1 = H at hP hS ⊢
        obtain rfl : r_32 = 0 := hw
        exact W.iret (v := 0) hx hb hr (fun t ht hW => ⟨⟨0, (), rfl, ⟨0, (Nat.le_of_ble_eq_true rfl), rfl, (congrArg Prod.fst (hsp.symm.trans hRR))⟩, ⟨z20_28, z21_29, z22_30, z23_31, z26_21, z27_22, ⟨by rw [ht]; exact hP, va_K.moved hW.alike hK, hD⟩, hz21_29, hz22_30, hz26_21, by omega, (congrArg Prod.snd (hsp.symm.trans hRR))⟩⟩, hS.F ht⟩) hS.2.2 dX9_toldPlace_45
    · obtain rfl : r_17 = nI n_19 := mu_18.trans wn_19
      have hn_19 : n_19 ≤ 7 := by omega
      have hsp := hsp.trans (if_neg (by omega))
      have hsp := hsp.trans (slet_eq (by omega : n_19 = u_18 - 1))
      refine lv_goto (tgt := 19) hx hb dX9_toldPlace_15 (by decide) ?_
      refine lv_istore_n (lv' := [(1, .int (nI n_19)), (0, .ref (ad 0))]) hx hb dX9_toldPlace_19 rfl hl (by decide) rfl (fun ls hl => ?_)
      refine lv_iload_n hx hb dX9_toldPlace_20 rfl (lv_at hl 0 rfl) ?_
      refine lv_if_ge (tgt := 29) hx hb dX9_toldPlace_21 (by decide) (fun c_33 => ?_) (fun c_33 => ?_)
      · have c_33 : 0 ≤ n_19 := (nI_leI (a := 0) (b := n_19) (Nat.le_of_ble_eq_true rfl) (Nat.lt_of_le_of_lt hn_19 (Nat.le_of_ble_eq_true rfl))).mp c_33
        refine lv_aload_n hx hb dX9_toldPlace_29 rfl (lv_at hl 1 rfl) ?_
        refine va_calli (va_runV (As := []) (rest := []) ⟨hx, hb, hml, hown, hts⟩ (c_EM_isGood l dC dI _ ad ck x0 x16 x18 x19 x20 x21 x22 x23 x24 x25 z26_2 z27_3 0 x29 x30 x33 x45 x46 x52 x53 x61 x62 x63 x65 x66 f1 f2 f3 q4 q5 q6 q7 f8 q9 q10 f11 m12_0 m12_1 m13_0 m13_1 m14_0 m14_1 m15_0 m15_1 f17 q31 f32 f34 f35 f36 f37 q38 f39 f40 f41 m42_0 m42_1 f43 f44 f47 f48 f49 f50 f51 q54 q55 q56 f57 q58 f59 f60 f64 hx16 hx18 hx19 hx21 hx22 hz26_2 (Nat.le_of_ble_eq_true rfl) hx29 hx30 hx33 hx46 hx52 hx53 hx61 hx62 hx63 hx65 hm12_0 hm12_1 hm13_0 hm13_1 hm14_0 hm14_1 hm15_0 hm15_1 hm42_0 hm42_1) (cwV 0 hts g_EM_toldPlace_0_EM_isGood rfl rfl rfl (by decide +kernel) ⟨Nat.le_of_ble_eq_true rfl, Nat.le_of_ble_eq_true rfl⟩) ⟨pu_bl, va_recv hK hP (ci := 9) (q0 := 0) rfl rfl, pu_in hP hK hD⟩ rfl rfl hl.1 rfl (lv_room (Nat.le_of_ble_eq_true rfl)) dX9_toldPlace_30 ⟨Nat.le_of_ble_eq_true rfl, Nat.le_of_ble_eq_true rfl⟩) hS (fun q _ h => pu_fr hS hA q h) (pu_fr hS hA) (fun r_34 u t H1 locs ht hvm hw hB hz1 hk1 hS => ?_)
        have hP := pu_keep hP hk1
        clear hk1 hz1 ht hvm
        generalize H1 = H at hP hS ⊢
        obtain ⟨u_35, hu_35, rfl, ju_35, iu_35⟩ := hw
        have hsp := hsp.trans (slet_eq iu_35)
        refine lv_if_eq (tgt := 40) hx hb dX9_toldPlace_33 (by decide) (fun c_36 => ?_) (fun c_36 => ?_)
        · have c_36 : u_35 = 0 := (nI_eq (a := u_35) (b := 0) (Nat.lt_of_le_of_lt hu_35 (Nat.le_of_ble_eq_true rfl)) (Nat.le_of_ble_eq_true rfl)).mp c_36
          have hsp := hsp.trans (if_pos c_36)
          refine lv_iconst (v := 0) hx hb dX9_toldPlace_40 (by decide) ?_
          refine lv_iload_n hx hb dX9_toldPlace_41 rfl (lv_at hl 0 rfl) ?_
          refine va_calli (va_runS (As := [.int 0, .int (nI n_19)]) (rest := []) ⟨hx, hb, hml, hown, hts⟩ (c_EM_greater_0 l dC dI _ ad ck x0 x16 x18 x19 x20 x21 x22 x23 x24 x25 z26_2 z27_3 0 x29 x30 x33 x45 x46 x52 x53 x61 x62 x63 x65 x66 f1 f2 f3 q4 q5 q6 q7 f8 q9 q10 f11 m12_0 m12_1 m13_0 m13_1 m14_0 m14_1 m15_0 m15_1 f17 q31 f32 f34 f35 f36 f37 q38 f39 f40 f41 m42_0 m42_1 f43 f44 f47 f48 f49 f50 f51 q54 q55 q56 f57 q58 f59 f60 f64 n_19 hx16 hx18 hx19 hx21 hx22 hz26_2 (Nat.le_of_ble_eq_true rfl) hx29 hx30 hx33 hx46 hx52 hx53 hx61 hx62 hx63 hx65 hm12_0 hm12_1 hm13_0 hm13_1 hm14_0 hm14_1 hm15_0 hm15_1 hm42_0 hm42_1 hn_19) (va_cwS 2 hts g_EM_toldPlace_0_EM_greater_0 rfl rfl rfl (by decide +kernel) ⟨Nat.le_of_ble_eq_true rfl, Nat.le_of_ble_eq_true rfl⟩) ⟨pu_bl, pu_in hP hK hD⟩ rfl rfl hl.1 rfl (lv_room (Nat.le_of_ble_eq_true rfl)) dX9_toldPlace_42 ⟨Nat.le_of_ble_eq_true rfl, Nat.le_of_ble_eq_true rfl⟩) hS (fun q _ h => pu_fr hS hA q h) (pu_fr hS hA) (fun r_37 u t H1 locs ht hvm hw hB hz1 hk1 hS => ?_)
          have hP := pu_keep hP hk1
          clear hk1 hz1 ht hvm
          generalize H1 = H at hP hS ⊢
          obtain rfl : r_37 = nI (n_19) := hw
          exact W.iret (v := (nI n_19)) hx hb hr (fun t ht hW => ⟨⟨(nI n_19), (), rfl, ⟨n_19, hn_19, rfl, (congrArg Prod.fst (hsp.symm.trans hRR))⟩, ⟨x20, x21, x22, x23, z26_2, z27_3, ⟨by rw [ht]; exact hP, va_K.moved hW.alike hK, hD⟩, hx21, hx22, hz26_2, by omega, (congrArg Prod.snd (hsp.symm.trans hRR))⟩⟩, hS.F ht⟩) hS.2.2 dX9_toldPlace_45
        · have c_36 : ¬ u_35 = 0 := fun z => c_36 ((nI_eq (a := u_35) (b := 0) (Nat.lt_of_le_of_lt hu_35 (Nat.le_of_ble_eq_true rfl)) (Nat.le_of_ble_eq_true rfl)).mpr z)
          have hsp := hsp.trans (if_neg c_36)
          refine lv_aload_n hx hb dX9_toldPlace_36 rfl (lv_at hl 1 rfl) ?_
          have hFc := pu_free hD hS hA
          refine va_callv (va_runV (As := []) (rest := []) ⟨hx, hb, hml, hown, hts⟩ (c_EM_next l dC dI _ ad ck x0 x16 x18 x19 x20 x21 x22 x23 x24 x25 z26_2 z27_3 0 x29 x30 x33 x45 x46 x52 x53 x61 x62 x63 x65 x66 f1 f2 f3 q4 q5 q6 q7 f8 q9 q10 f11 m12_0 m12_1 m13_0 m13_1 m14_0 m14_1 m15_0 m15_1 f17 q31 f32 f34 f35 f36 f37 q38 f39 f40 f41 m42_0 m42_1 f43 f44 f47 f48 f49 f50 f51 q54 q55 q56 f57 q58 f59 f60 f64 hx16 hx18 hx19 hx21 hx22 hz26_2 (Nat.le_of_ble_eq_true rfl) hx29 hx30 hx33 hx46 hx52 hx53 hx61 hx62 hx63 hx65 hm12_0 hm12_1 hm13_0 hm13_1 hm14_0 hm14_1 hm15_0 hm15_1 hm42_0 hm42_1) (cwV 0 hts g_EM_toldPlace_0_EM_next rfl rfl rfl (by decide +kernel) ⟨Nat.le_of_ble_eq_true rfl, Nat.le_of_ble_eq_true rfl⟩) ⟨pu_bl, va_recv hK hP (ci := 9) (q0 := 0) rfl rfl, pu_in hP hK hD⟩ rfl rfl hl.1 rfl (lv_room (Nat.le_of_ble_eq_true rfl)) dX9_toldPlace_37 ⟨Nat.le_of_ble_eq_true rfl, Nat.le_of_ble_eq_true rfl⟩) hS (fun q _ h => hFc q h) hFc (fun u t H1 locs ht hvm hw hB hz1 hk1 hS => ?_)
          obtain ⟨z20_39, z21_40, z22_41, z23_42, ⟨hP1, -, hD1⟩, hz21_40, hz22_41, xr_38_0, xr_38_1, xr_38_2⟩ := hB
          rw [ht] at hP1
          have hP := hP1
          have hD := pu_all hFc hD1
          clear hP1 hD1 hFc
          clear hk1 hz1 ht hvm
          generalize H1 = H at hP hS ⊢
          have hsp := hsp.trans (slet_eq xr_38_2)
          refine lv_iconst (v := 0) hx hb dX9_toldPlace_40 (by decide) ?_
          refine lv_iload_n hx hb dX9_toldPlace_41 rfl (lv_at hl 0 rfl) ?_
          refine va_calli (va_runS (As := [.int 0, .int (nI n_19)]) (rest := []) ⟨hx, hb, hml, hown, hts⟩ (c_EM_greater_0 l dC dI _ ad ck x0 x16 x18 x19 z20_39 z21_40 z22_41 z23_42 x24 x25 z26_2 z27_3 0 x29 x30 x33 x45 x46 x52 x53 x61 x62 x63 x65 x66 f1 f2 f3 q4 q5 q6 q7 f8 q9 q10 f11 m12_0 m12_1 m13_0 m13_1 m14_0 m14_1 m15_0 m15_1 f17 q31 f32 f34 f35 f36 f37 q38 f39 f40 f41 m42_0 m42_1 f43 f44 f47 f48 f49 f50 f51 q54 q55 q56 f57 q58 f59 f60 f64 n_19 hx16 hx18 hx19 hz21_40 hz22_41 hz26_2 (Nat.le_of_ble_eq_true rfl) hx29 hx30 hx33 hx46 hx52 hx53 hx61 hx62 hx63 hx65 hm12_0 hm12_1 hm13_0 hm13_1 hm14_0 hm14_1 hm15_0 hm15_1 hm42_0 hm42_1 hn_19) (va_cwS 2 hts g_EM_toldPlace_0_EM_greater_0 rfl rfl rfl (by decide +kernel) ⟨Nat.le_of_ble_eq_true rfl, Nat.le_of_ble_eq_true rfl⟩) ⟨pu_bl, pu_in hP hK hD⟩ rfl rfl hl.1 rfl (lv_room (Nat.le_of_ble_eq_true rfl)) dX9_toldPlace_42 ⟨Nat.le_of_ble_eq_true rfl, Nat.le_of_ble_eq_true rfl⟩) hS (fun q _ h => pu_fr hS hA q h) (pu_fr hS hA) (fun r_43 u t H1 locs ht hvm hw hB hz1 hk1 hS => ?_)
          have hP := pu_keep hP hk1
          clear hk1 hz1 ht hvm
          generalize H1 = H at hP hS ⊢
          obtain rfl : r_43 = nI (n_19) := hw
          exact W.iret (v := (nI n_19)) hx hb hr (fun t ht hW => ⟨⟨(nI n_19), (), rfl, ⟨n_19, hn_19, rfl, (congrArg Prod.fst (hsp.symm.trans hRR))⟩, ⟨z20_39, z21_40, z22_41, z23_42, z26_2, z27_3, ⟨by rw [ht]; exact hP, va_K.moved hW.alike hK, hD⟩, hz21_40, hz22_41, hz26_2, by omega, (congrArg Prod.snd (hsp.symm.trans hRR))⟩⟩, hS.F ht⟩) hS.2.2 dX9_toldPlace_45
      · have c_33 : ¬ 0 ≤ n_19 := fun z => c_33 ((nI_leI (a := 0) (b := n_19) (Nat.le_of_ble_eq_true rfl) (Nat.lt_of_le_of_lt hn_19 (Nat.le_of_ble_eq_true rfl))).mpr z)
        exfalso
        omega
theorem dX9_readCondition_0 : decode cX9_readCondition 0 = .ok (.aload_n 0, 1) := by decide +kernel
theorem dX9_readCondition_1 : decode cX9_readCondition 1 = .ok (.invokevirtual 226, 3) := by decide +kernel
theorem dX9_readCondition_4 : decode cX9_readCondition 4 = .ok (.aload_n 0, 1) := by decide +kernel
theorem dX9_readCondition_5 : decode cX9_readCondition 5 = .ok (.getfield 34, 3) := by decide +kernel
theorem dX9_readCondition_8 : decode cX9_readCondition 8 = .ok (.iload_n 1, 1) := by decide +kernel
theorem dX9_readCondition_9 : decode cX9_readCondition 9 = .ok (.aload_n 0, 1) := by decide +kernel
theorem dX9_readCondition_10 : decode cX9_readCondition 10 = .ok (.invokevirtual 232, 3) := by decide +kernel
theorem dX9_readCondition_13 : decode cX9_readCondition 13 = .ok (.iastore, 1) := by decide +kernel
theorem dX9_readCondition_14 : decode cX9_readCondition 14 = .ok (.aload_n 0, 1) := by decide +kernel
theorem dX9_readCondition_15 : decode cX9_readCondition 15 = .ok (.invokevirtual 216, 3) := by decide +kernel
theorem dX9_readCondition_18 : decode cX9_readCondition 18 = .ok (.ifCond .eq 7, 3) := by decide +kernel
theorem dX9_readCondition_21 : decode cX9_readCondition 21 = .ok (.aload_n 0, 1) := by decide +kernel
theorem dX9_readCondition_22 : decode cX9_readCondition 22 = .ok (.invokevirtual 226, 3) := by decide +kernel
theorem dX9_readCondition_25 : decode cX9_readCondition 25 = .ok (.aload_n 0, 1) := by decide +kernel
theorem dX9_readCondition_26 : decode cX9_readCondition 26 = .ok (.bipush 60, 2) := by decide +kernel
theorem dX9_readCondition_28 : decode cX9_readCondition 28 = .ok (.invokevirtual 235, 3) := by decide +kernel
theorem dX9_readCondition_31 : decode cX9_readCondition 31 = .ok (.istore_n 3, 1) := by decide +kernel
theorem dX9_readCondition_32 : decode cX9_readCondition 32 = .ok (.aload_n 0, 1) := by decide +kernel
theorem dX9_readCondition_33 : decode cX9_readCondition 33 = .ok (.bipush 62, 2) := by decide +kernel
theorem dX9_readCondition_35 : decode cX9_readCondition 35 = .ok (.invokevirtual 235, 3) := by decide +kernel
theorem dX9_readCondition_38 : decode cX9_readCondition 38 = .ok (.ifCond .eq 11, 3) := by decide +kernel
theorem dX9_readCondition_41 : decode cX9_readCondition 41 = .ok (.iload_n 2, 1) := by decide +kernel
theorem dX9_readCondition_42 : decode cX9_readCondition 42 = .ok (.ifCond .ne 7, 3) := by decide +kernel
theorem dX9_readCondition_45 : decode cX9_readCondition 45 = .ok (.iconst 1, 1) := by decide +kernel
theorem dX9_readCondition_46 : decode cX9_readCondition 46 = .ok (.goto 4, 3) := by decide +kernel
theorem dX9_readCondition_49 : decode cX9_readCondition 49 = .ok (.iconst 0, 1) := by decide +kernel
theorem dX9_readCondition_50 : decode cX9_readCondition 50 = .ok (.istore 4, 2) := by decide +kernel
theorem dX9_readCondition_52 : decode cX9_readCondition 52 = .ok (.aload_n 0, 1) := by decide +kernel
theorem dX9_readCondition_53 : decode cX9_readCondition 53 = .ok (.bipush 61, 2) := by decide +kernel
theorem dX9_readCondition_55 : decode cX9_readCondition 55 = .ok (.invokevirtual 235, 3) := by decide +kernel
theorem dX9_readCondition_58 : decode cX9_readCondition 58 = .ok (.ifCond .eq 11, 3) := by decide +kernel
theorem dX9_readCondition_61 : decode cX9_readCondition 61 = .ok (.iload_n 2, 1) := by decide +kernel
theorem dX9_readCondition_62 : decode cX9_readCondition 62 = .ok (.ifCond .ne 7, 3) := by decide +kernel
theorem dX9_readCondition_65 : decode cX9_readCondition 65 = .ok (.iconst 1, 1) := by decide +kernel
theorem dX9_readCondition_66 : decode cX9_readCondition 66 = .ok (.goto 4, 3) := by decide +kernel
theorem dX9_readCondition_69 : decode cX9_readCondition 69 = .ok (.iconst 0, 1) := by decide +kernel
theorem dX9_readCondition_70 : decode cX9_readCondition 70 = .ok (.istore 5, 2) := by decide +kernel
theorem dX9_readCondition_72 : decode cX9_readCondition 72 = .ok (.aload_n 0, 1) := by decide +kernel
theorem dX9_readCondition_73 : decode cX9_readCondition 73 = .ok (.invokevirtual 216, 3) := by decide +kernel
theorem dX9_readCondition_76 : decode cX9_readCondition 76 = .ok (.ifCond .eq 22, 3) := by decide +kernel
theorem dX9_readCondition_79 : decode cX9_readCondition 79 = .ok (.iload_n 3, 1) := by decide +kernel
theorem dX9_readCondition_80 : decode cX9_readCondition 80 = .ok (.ifCond .ne 18, 3) := by decide +kernel
theorem dX9_readCondition_83 : decode cX9_readCondition 83 = .ok (.iload 4, 2) := by decide +kernel
theorem dX9_readCondition_85 : decode cX9_readCondition 85 = .ok (.ifCond .ne 13, 3) := by decide +kernel
theorem dX9_readCondition_88 : decode cX9_readCondition 88 = .ok (.iload 5, 2) := by decide +kernel
theorem dX9_readCondition_90 : decode cX9_readCondition 90 = .ok (.ifCond .ne 8, 3) := by decide +kernel
theorem dX9_readCondition_93 : decode cX9_readCondition 93 = .ok (.aload_n 0, 1) := by decide +kernel
theorem dX9_readCondition_94 : decode cX9_readCondition 94 = .ok (.iconst 2, 1) := by decide +kernel
theorem dX9_readCondition_95 : decode cX9_readCondition 95 = .ok (.invokevirtual 210, 3) := by decide +kernel
theorem dX9_readCondition_98 : decode cX9_readCondition 98 = .ok (.aload_n 0, 1) := by decide +kernel
theorem dX9_readCondition_99 : decode cX9_readCondition 99 = .ok (.invokevirtual 216, 3) := by decide +kernel
theorem dX9_readCondition_102 : decode cX9_readCondition 102 = .ok (.ifCond .ne 4, 3) := by decide +kernel
theorem dX9_readCondition_105 : decode cX9_readCondition 105 = .ok (.return_, 1) := by decide +kernel
theorem dX9_readCondition_106 : decode cX9_readCondition 106 = .ok (.aload_n 0, 1) := by decide +kernel
theorem dX9_readCondition_107 : decode cX9_readCondition 107 = .ok (.invokevirtual 226, 3) := by decide +kernel
theorem dX9_readCondition_110 : decode cX9_readCondition 110 = .ok (.iload 5, 2) := by decide +kernel
theorem dX9_readCondition_112 : decode cX9_readCondition 112 = .ok (.ifCond .ne 16, 3) := by decide +kernel
theorem dX9_readCondition_115 : decode cX9_readCondition 115 = .ok (.aload_n 0, 1) := by decide +kernel
theorem dX9_readCondition_116 : decode cX9_readCondition 116 = .ok (.bipush 61, 2) := by decide +kernel
theorem dX9_readCondition_118 : decode cX9_readCondition 118 = .ok (.invokevirtual 235, 3) := by decide +kernel
theorem dX9_readCondition_121 : decode cX9_readCondition 121 = .ok (.ifCond .eq 7, 3) := by decide +kernel
theorem dX9_readCondition_124 : decode cX9_readCondition 124 = .ok (.iconst 1, 1) := by decide +kernel
theorem dX9_readCondition_125 : decode cX9_readCondition 125 = .ok (.goto 4, 3) := by decide +kernel
theorem dX9_readCondition_128 : decode cX9_readCondition 128 = .ok (.iconst 0, 1) := by decide +kernel
theorem dX9_readCondition_129 : decode cX9_readCondition 129 = .ok (.istore 6, 2) := by decide +kernel
theorem dX9_readCondition_131 : decode cX9_readCondition 131 = .ok (.iload 6, 2) := by decide +kernel
theorem dX9_readCondition_133 : decode cX9_readCondition 133 = .ok (.ifCond .eq 7, 3) := by decide +kernel
theorem dX9_readCondition_136 : decode cX9_readCondition 136 = .ok (.aload_n 0, 1) := by decide +kernel
theorem dX9_readCondition_137 : decode cX9_readCondition 137 = .ok (.invokevirtual 226, 3) := by decide +kernel
theorem dX9_readCondition_140 : decode cX9_readCondition 140 = .ok (.aload_n 0, 1) := by decide +kernel
theorem dX9_readCondition_141 : decode cX9_readCondition 141 = .ok (.getfield 37, 3) := by decide +kernel
theorem dX9_readCondition_144 : decode cX9_readCondition 144 = .ok (.iload_n 1, 1) := by decide +kernel
theorem dX9_readCondition_145 : decode cX9_readCondition 145 = .ok (.iload 5, 2) := by decide +kernel
theorem dX9_readCondition_147 : decode cX9_readCondition 147 = .ok (.ifCond .eq 7, 3) := by decide +kernel
theorem dX9_readCondition_150 : decode cX9_readCondition 150 = .ok (.iconst 2, 1) := by decide +kernel
theorem dX9_readCondition_151 : decode cX9_readCondition 151 = .ok (.goto 30, 3) := by decide +kernel
theorem dX9_readCondition_154 : decode cX9_readCondition 154 = .ok (.iload_n 3, 1) := by decide +kernel
theorem dX9_readCondition_155 : decode cX9_readCondition 155 = .ok (.ifCond .eq 16, 3) := by decide +kernel
theorem dX9_readCondition_158 : decode cX9_readCondition 158 = .ok (.iload 6, 2) := by decide +kernel
theorem dX9_readCondition_160 : decode cX9_readCondition 160 = .ok (.ifCond .eq 7, 3) := by decide +kernel
theorem dX9_readCondition_163 : decode cX9_readCondition 163 = .ok (.iconst 1, 1) := by decide +kernel
theorem dX9_readCondition_164 : decode cX9_readCondition 164 = .ok (.goto 17, 3) := by decide +kernel
theorem dX9_readCondition_167 : decode cX9_readCondition 167 = .ok (.iconst 0, 1) := by decide +kernel
theorem dX9_readCondition_168 : decode cX9_readCondition 168 = .ok (.goto 13, 3) := by decide +kernel
theorem dX9_readCondition_171 : decode cX9_readCondition 171 = .ok (.iload 6, 2) := by decide +kernel
theorem dX9_readCondition_173 : decode cX9_readCondition 173 = .ok (.ifCond .eq 7, 3) := by decide +kernel
theorem dX9_readCondition_176 : decode cX9_readCondition 176 = .ok (.iconst 3, 1) := by decide +kernel
theorem dX9_readCondition_177 : decode cX9_readCondition 177 = .ok (.goto 4, 3) := by decide +kernel
theorem dX9_readCondition_180 : decode cX9_readCondition 180 = .ok (.iconst 4, 1) := by decide +kernel
theorem dX9_readCondition_181 : decode cX9_readCondition 181 = .ok (.iastore, 1) := by decide +kernel
theorem dX9_readCondition_182 : decode cX9_readCondition 182 = .ok (.aload_n 0, 1) := by decide +kernel
theorem dX9_readCondition_183 : decode cX9_readCondition 183 = .ok (.getfield 172, 3) := by decide +kernel
theorem dX9_readCondition_186 : decode cX9_readCondition 186 = .ok (.iconst 2, 1) := by decide +kernel
theorem dX9_readCondition_187 : decode cX9_readCondition 187 = .ok (.if_icmp .eq 11, 3) := by decide +kernel
theorem dX9_readCondition_190 : decode cX9_readCondition 190 = .ok (.aload_n 0, 1) := by decide +kernel
theorem dX9_readCondition_191 : decode cX9_readCondition 191 = .ok (.iconst 2, 1) := by decide +kernel
theorem dX9_readCondition_192 : decode cX9_readCondition 192 = .ok (.invokevirtual 210, 3) := by decide +kernel
theorem dX9_readCondition_195 : decode cX9_readCondition 195 = .ok (.goto 17, 3) := by decide +kernel
theorem dX9_readCondition_198 : decode cX9_readCondition 198 = .ok (.aload_n 0, 1) := by decide +kernel
theorem dX9_readCondition_199 : decode cX9_readCondition 199 = .ok (.getfield 169, 3) := by decide +kernel
theorem dX9_readCondition_202 : decode cX9_readCondition 202 = .ok (.bipush 20, 2) := by decide +kernel
theorem dX9_readCondition_204 : decode cX9_readCondition 204 = .ok (.if_icmp .le 8, 3) := by decide +kernel
theorem dX9_readCondition_207 : decode cX9_readCondition 207 = .ok (.aload_n 0, 1) := by decide +kernel
theorem dX9_readCondition_208 : decode cX9_readCondition 208 = .ok (.iconst 4, 1) := by decide +kernel
theorem dX9_readCondition_209 : decode cX9_readCondition 209 = .ok (.invokevirtual 210, 3) := by decide +kernel
theorem dX9_readCondition_212 : decode cX9_readCondition 212 = .ok (.aload_n 0, 1) := by decide +kernel
theorem dX9_readCondition_213 : decode cX9_readCondition 213 = .ok (.getfield 40, 3) := by decide +kernel
theorem dX9_readCondition_216 : decode cX9_readCondition 216 = .ok (.iload_n 1, 1) := by decide +kernel
theorem dX9_readCondition_217 : decode cX9_readCondition 217 = .ok (.aload_n 0, 1) := by decide +kernel
theorem dX9_readCondition_218 : decode cX9_readCondition 218 = .ok (.getfield 169, 3) := by decide +kernel
theorem dX9_readCondition_221 : decode cX9_readCondition 221 = .ok (.iastore, 1) := by decide +kernel
theorem dX9_readCondition_222 : decode cX9_readCondition 222 = .ok (.aload_n 0, 1) := by decide +kernel
theorem dX9_readCondition_223 : decode cX9_readCondition 223 = .ok (.invokevirtual 216, 3) := by decide +kernel
theorem dX9_readCondition_226 : decode cX9_readCondition 226 = .ok (.ifCond .eq 7, 3) := by decide +kernel
theorem dX9_readCondition_229 : decode cX9_readCondition 229 = .ok (.aload_n 0, 1) := by decide +kernel
theorem dX9_readCondition_230 : decode cX9_readCondition 230 = .ok (.invokevirtual 226, 3) := by decide +kernel
theorem dX9_readCondition_233 : decode cX9_readCondition 233 = .ok (.return_, 1) := by decide +kernel
abbrev vs_EM_readCondition0_0 : List Cond := .code yX9_readCondition cX9_readCondition 7 none :: VM
theorem g_EM_readCondition0_0_EM_next : GoodIn vs_EM_readCondition0_0 (wsV RX9 226 RX9 yX9_next vs_EM_next) := gm_V vm_75 vm_76 vm_77 vm_19 vm_78
theorem g_EM_readCondition0_0_EM_toldClock_0 : GoodIn vs_EM_readCondition0_0 (wsV RX9 232 RX9 yX9_toldClock vs_EM_toldClock_0) := gm_V vm_90 vm_91 vm_92 vm_19 vm_93
theorem g_EM_readCondition0_0_EM_isGood : GoodIn vs_EM_readCondition0_0 (wsV RX9 216 RX9 yX9_isGood vs_EM_isGood) := gm_V vm_71 vm_72 vm_73 vm_19 vm_74
theorem g_EM_readCondition0_0_EM_isSign : GoodIn vs_EM_readCondition0_0 (wsV RX9 235 RX9 yX9_isSign vs_EM_isSign) := gm_V vm_94 vm_95 vm_96 vm_19 vm_97
theorem g_EM_readCondition0_0_EM_fails : GoodIn vs_EM_readCondition0_0 (wsV RX9 210 RX9 yX9_fails vs_EM_fails) := gm_V vm_29 vm_30 vm_31 vm_19 vm_32
noncomputable def sp_EM_readCondition0_0 (x19 : Nat) (x21 : Nat) (x26 : Nat) (x27 : Int32) (f1 : Nat → Int32) (q9 : Nat → Nat) (q10 : Nat → Nat) (f11 : Nat → Int32) (m12_0 : Nat) (f17 : Nat → Int32) (a0 : Nat) : (Nat → Nat) × (Nat → Int32) × (Nat → Nat) × Int32 × Nat × Nat × Int32 × Nat × Int32 := (slet (sp_EM_next x19 x21 f17) (fun (z20_2, z21_3, z22_4, z23_5) => (slet (sp_EM_toldClock_0 z20_2 z22_4 z23_5 x26 x27 f1 m12_0) (fun (u_9, z26_7, z27_8) => (slet (updN q9 a0 u_9) (fun q_10 => (slet (sp_EM_isGood z26_7) (fun u_12 => (slet (α := Int32 × Nat × Nat × Int32) (if u_12 = 0 then (z20_2, z21_3, z22_4, z23_5) else (slet (sp_EM_next x19 z21_3 f17) (fun (z20_129, z21_130, z22_131, z23_132) => (z20_129, z21_130, z22_131, z23_132)))) (fun (g_13, g_14, g_15, g_16) => (slet (sp_EM_isSign g_15 g_16 60) (fun u_23 => (slet (sp_EM_isSign g_15 g_16 62) (fun u_25 => (slet (α := Nat) (if u_25 = 0 then 0 else 1) (fun g_26 => (slet (sp_EM_isSign g_15 g_16 61) (fun u_33 => (slet (α := Nat) (if u_33 = 0 then 0 else 1) (fun g_34 => (slet (sp_EM_isGood z26_7) (fun u_41 => (slet (α := Nat × Int32) (if u_41 = 0 then (z26_7, z27_8) else (if u_23 = 0 then (if g_26 = 0 then (if g_34 = 0 then (slet (sp_EM_fails g_13 g_15 z26_7 z27_8 2) (fun (z26_123, z27_124) => (z26_123, z27_124))) else (z26_7, z27_8)) else (z26_7, z27_8)) else (z26_7, z27_8))) (fun (g_42, g_43) => (slet (sp_EM_isGood g_42) (fun u_51 => (if u_51 = 0 then (q10, f11, q_10, g_13, g_14, g_15, g_16, g_42, g_43) else (slet (sp_EM_next x19 g_14 f17) (fun (z20_54, z21_55, z22_56, z23_57) => (slet (α := Nat) (if g_34 = 0 then (slet (sp_EM_isSign z22_56 z23_57 61) (fun u_116 => (if u_116 = 0 then 0 else 1))) else 0) (fun g_58 => (slet (α := Int32 × Nat × Nat × Int32) (if g_58 = 0 then (z20_54, z21_55, z22_56, z23_57) else (slet (sp_EM_next x19 z21_55 f17) (fun (z20_110, z21_111, z22_112, z23_113) => (z20_110, z21_111, z22_112, z23_113)))) (fun (g_64, g_65, g_66, g_67) => (slet (α := Nat) (if g_34 = 0 then (if u_23 = 0 then (if g_58 = 0 then 4 else 3) else (if g_58 = 0 then 0 else 1)) else 2) (fun g_73 => (slet (updN q10 a0 g_73) (fun q_79 => (slet (α := Nat × Int32) (if g_66 = 2 then (if (g_67 : Int32) ≤ 20 then (g_42, g_43) else (slet (sp_EM_fails g_64 g_66 g_42 g_43 4) (fun (z26_99, z27_100) => (z26_99, z27_100)))) else (slet (sp_EM_fails g_64 g_66 g_42 g_43 2) (fun (z26_102, z27_103) => (z26_102, z27_103)))) (fun (g_80, g_81) => (slet (upd f11 a0 g_67) (fun f_87 => (slet (sp_EM_isGood g_80) (fun u_89 => (if u_89 = 0 then (q_79, f_87, q_10, g_64, g_65, g_66, g_67, g_80, g_81) else (slet (sp_EM_next x19 g_65 f17) (fun (z20_92, z21_93, z22_94, z23_95) => (q_79, f_87, q_10, z20_92, z21_93, z22_94, z23_95, g_80, g_81)))))))))))))))))))))))))))))))))))))))))))))))
set_option maxHeartbeats 4000000 in
set_option maxRecDepth 100000 in
theorem c_EM_readCondition0_0 (l : Launch) (dC : Nat → ClassId) (dI : Nat → Nat → Nat) (sz : Nat) (ad : Nat → Nat) (ck : Nat → ClassId) (x0 : Int32) (x16 : Nat) (x18 : Nat) (x19 : Nat) (x20 : Int32) (x21 : Nat) (x22 : Nat) (x23 : Int32) (x24 : Int32) (x25 : Int32) (x26 : Nat) (x27 : Int32) (x29 : Nat) (x30 : Nat) (x33 : Nat) (x45 : Int32) (x46 : Nat) (x52 : Nat) (x53 : Nat) (x61 : Nat) (x62 : Nat) (x63 : Nat) (x65 : Nat) (x66 : Int32) (f1 : Nat → Int32) (f2 : Nat → Int32) (f3 : Nat → Int32) (q4 : Nat → Nat) (q5 : Nat → Nat) (q6 : Nat → Nat) (q7 : Nat → Nat) (f8 : Nat → Int32) (q9 : Nat → Nat) (q10 : Nat → Nat) (f11 : Nat → Int32) (m12_0 m12_1 : Nat) (m13_0 m13_1 : Nat) (m14_0 m14_1 : Nat) (m15_0 m15_1 : Nat) (f17 : Nat → Int32) (q31 : Nat → Nat) (f32 : Nat → Int32) (f34 : Nat → Int32) (f35 : Nat → Int32) (f36 : Nat → Int32) (f37 : Nat → Int32) (q38 : Nat → Nat) (f39 : Nat → Int32) (f40 : Nat → Int32) (f41 : Nat → Int32) (m42_0 m42_1 : Nat) (f43 : Nat → Int32) (f44 : Nat → Int32) (f47 : Nat → Int32) (f48 : Nat → Int32) (f49 : Nat → Int32) (f50 : Nat → Int32) (f51 : Nat → Int32) (q54 : Nat → Nat) (q55 : Nat → Nat) (q56 : Nat → Nat) (f57 : Nat → Int32) (q58 : Nat → Nat) (f59 : Nat → Int32) (f60 : Nat → Int32) (f64 : Nat → Int32) (a0 : Nat) (hx16 : x16 ≤ 1) (hx18 : x18 ≤ 900) (hx19 : x19 ≤ 900) (hx21 : x21 ≤ 900) (hx22 : x22 ≤ 4) (hx26 : x26 ≤ 6) (hx29 : x29 ≤ 1) (hx30 : x30 ≤ 1) (hx33 : x33 ≤ 20) (hx46 : x46 ≤ 5) (hx52 : x52 ≤ 2400) (hx53 : x53 ≤ 119) (hx61 : x61 ≤ 119) (hx62 : x62 ≤ 2000) (hx63 : x63 ≤ 1) (hx65 : x65 ≤ 7) (hm12_0 : m12_0 ≤ 3) (hm12_1 : m12_1 ≤ 3) (hm13_0 : m13_0 ≤ 8) (hm13_1 : m13_1 ≤ 8) (hm14_0 : m14_0 ≤ 14) (hm14_1 : m14_1 ≤ 14) (hm15_0 : m15_0 ≤ 8) (hm15_1 : m15_1 ≤ 8) (hm42_0 : m42_0 ≤ 120) (hm42_1 : m42_1 ≤ 400) (ha0 : a0 ≤ 55) : Met l yX9_readCondition vs_EM_readCondition0_0 ({ frames := 4, cells := 0, slots := 0, locals := 82 }) (va_Pc [.ref (ad 0), .int (nI a0), .int 0] (pu_B (dC, dI) (mo_w ad ck x0 (nI x16) (nI x18) (nI x19) x20 (nI x21) (nI x22) x23 x24 x25 (nI x26) x27 0 (nI x29) (nI x30) (nI x33) x45 (nI x46) (nI x52) (nI x53) (nI x61) (nI x62) (nI x63) (nI x65) x66 f1 f2 f3 (bN 3 q4) (bN 7 q5) (bN 7 q6) (bN 4 q7) f8 (bN 2 q9) (bH q10) f11 (b2 m12_0 m12_1) (b2 m13_0 m13_1) (b2 m14_0 m14_1) (b2m m15_0 m15_1) f17 (bA 159 q31) f32 f34 f35 f36 f37 (bN 7 q38) f39 f40 f41 (b2 m42_0 m42_1) f43 f44 f47 f48 f49 f50 f51 (bN 13 q54) (bN 120 q55) (bN 120 q56) f57 (bN 120 q58) f59 f60 f64) (mo_t ck) sz)) (va_Qv (fun (_ : Unit) => True) (fun _ t => ∃ (z10 : Nat → Nat) (z11 : Nat → Int32) (z9 : Nat → Nat) (z20 : Int32) (z21 : Nat) (z22 : Nat) (z23 : Int32) (z26 : Nat) (z27 : Int32), pu_E (dC, dI) (mo_w ad ck x0 (nI x16) (nI x18) (nI x19) z20 (nI z21) (nI z22) z23 x24 x25 (nI z26) z27 0 (nI x29) (nI x30) (nI x33) x45 (nI x46) (nI x52) (nI x53) (nI x61) (nI x62) (nI x63) (nI x65) x66 f1 f2 f3 (bN 3 q4) (bN 7 q5) (bN 7 q6) (bN 4 q7) f8 (bN 2 z9) (bH z10) z11 (b2 m12_0 m12_1) (b2 m13_0 m13_1) (b2 m14_0 m14_1) (b2m m15_0 m15_1) f17 (bA 159 q31) f32 f34 f35 f36 f37 (bN 7 q38) f39 f40 f41 (b2 m42_0 m42_1) f43 f44 f47 f48 f49 f50 f51 (bN 13 q54) (bN 120 q55) (bN 120 q56) f57 (bN 120 q58) f59 f60 f64) (mo_t ck) (va_A ((mo_w ad ck x0 (nI x16) (nI x18) (nI x19) x20 (nI x21) (nI x22) x23 x24 x25 (nI x26) x27 0 (nI x29) (nI x30) (nI x33) x45 (nI x46) (nI x52) (nI x53) (nI x61) (nI x62) (nI x63) (nI x65) x66 f1 f2 f3 (bN 3 q4) (bN 7 q5) (bN 7 q6) (bN 4 q7) f8 (bN 2 q9) (bH q10) f11 (b2 m12_0 m12_1) (b2 m13_0 m13_1) (b2 m14_0 m14_1) (b2m m15_0 m15_1) f17 (bA 159 q31) f32 f34 f35 f36 f37 (bN 7 q38) f39 f40 f41 (b2 m42_0 m42_1) f43 f44 f47 f48 f49 f50 f51 (bN 13 q54) (bN 120 q55) (bN 120 q56) f57 (bN 120 q58) f59 f60 f64)) sz) t ∧ (z21 ≤ 900) ∧ (z22 ≤ 4) ∧ (z26 ≤ 6) ∧ (mu z21 z22 ≤ mu x21 x22) ∧ (x22 = 0 ∨ mu z21 z22 < mu x21 x22) ∧ ((z10, z11, z9, z20, z21, z22, z23, z26, z27) = (sp_EM_readCondition0_0 x19 x21 x26 x27 f1 q9 q10 f11 m12_0 f17 a0))) (va_A ((mo_w ad ck x0 (nI x16) (nI x18) (nI x19) x20 (nI x21) (nI x22) x23 x24 x25 (nI x26) x27 0 (nI x29) (nI x30) (nI x33) x45 (nI x46) (nI x52) (nI x53) (nI x61) (nI x62) (nI x63) (nI x65) x66 f1 f2 f3 (bN 3 q4) (bN 7 q5) (bN 7 q6) (bN 4 q7) f8 (bN 2 q9) (bH q10) f11 (b2 m12_0 m12_1) (b2 m13_0 m13_1) (b2 m14_0 m14_1) (b2m m15_0 m15_1) f17 (bA 159 q31) f32 f34 f35 f36 f37 (bN 7 q38) f39 f40 f41 (b2 m42_0 m42_1) f43 f44 f47 f48 f49 f50 f51 (bN 13 q54) (bN 120 q55) (bN 120 q56) f57 (bN 120 q58) f59 f60 f64)) sz)) 0 0 (va_A ((mo_w ad ck x0 (nI x16) (nI x18) (nI x19) x20 (nI x21) (nI x22) x23 x24 x25 (nI x26) x27 0 (nI x29) (nI x30) (nI x33) x45 (nI x46) (nI x52) (nI x53) (nI x61) (nI x62) (nI x63) (nI x65) x66 f1 f2 f3 (bN 3 q4) (bN 7 q5) (bN 7 q6) (bN 4 q7) f8 (bN 2 q9) (bH q10) f11 (b2 m12_0 m12_1) (b2 m13_0 m13_1) (b2 m14_0 m14_1) (b2m m15_0 m15_1) f17 (bA 159 q31) f32 f34 f35 f36 f37 (bN 7 q38) f39 f40 f41 (b2 m42_0 m42_1) f43 f44 f47 f48 f49 f50 f51 (bN 13 q54) (bN 120 q55) (bN 120 q56) f57 (bN 120 q58) f59 f60 f64)) sz) := by
  refine Met.ofW (cc := cX9_readCondition) (maxL := 7) (ret := none) (by decide) rfl ?_
  intro p e s m args below meth c s₁ B hml hv
  obtain ⟨rfl, rfl, hP, hK, hD0⟩ := hv
  have hx := B.exec
  have hb := B.bytes
  have hr := B.returns
  have hts := atoms_spec (ws := vs_EM_readCondition0_0) B.pre
  have v_6 := hts (.fieldLink RX9 34 "ClockReachModel" "ofClock" "[I") (List.mem_cons_of_mem _ vm_98)
  have v_23 := hts (.fieldLink RX9 37 "ClockReachModel" "how" "[I") (List.mem_cons_of_mem _ vm_99)
  have v_24 := hts (.fieldLink RX9 172 "ClockReachModel" "token" "I") (List.mem_cons_of_mem _ vm_12)
  have v_25 := hts (.fieldLink RX9 169 "ClockReachModel" "value" "I") (List.mem_cons_of_mem _ vm_13)
  have v_26 := hts (.fieldLink RX9 40 "ClockReachModel" "limit" "[I") (List.mem_cons_of_mem _ vm_100)
  have hown : s.vm.findClass RX9 = some m.cls := findClass_of_methodNamed B.named
  have hlocks := B.notSynchronized
  have hiX9 : ∀ w ∈ wsX90, w ∈ vs_EM_readCondition0_0 := fun _ h => List.mem_cons_of_mem _ (vmi_L h)
  have hD := hD0.self (sz := s.heap.size)
  generalize hAe : va_A ((mo_w ad ck x0 (nI x16) (nI x18) (nI x19) x20 (nI x21) (nI x22) x23 x24 x25 (nI x26) x27 0 (nI x29) (nI x30) (nI x33) x45 (nI x46) (nI x52) (nI x53) (nI x61) (nI x62) (nI x63) (nI x65) x66 f1 f2 f3 (bN 3 q4) (bN 7 q5) (bN 7 q6) (bN 4 q7) f8 (bN 2 q9) (bH q10) f11 (b2 m12_0 m12_1) (b2 m13_0 m13_1) (b2 m14_0 m14_1) (b2m m15_0 m15_1) f17 (bA 159 q31) f32 f34 f35 f36 f37 (bN 7 q38) f39 f40 f41 (b2 m42_0 m42_1) f43 f44 f47 f48 f49 f50 f51 (bN 13 q54) (bN 120 q55) (bN 120 q56) f57 (bN 120 q58) f59 f60 f64)) s.heap.size = A at hD ⊢
  have hA : ∀ q : Nat, s.heap.size ≤ q → A q := fun q h => by rw [← hAe]; exact Or.inr h
  have hS : va_S A s.heap s.heap [] := va_S.rf
  have hl := lv_entry ([.ref (ad 0), .int (nI a0), .int 0]) (n := 7) (Nat.le_of_ble_eq_true rfl)
  rw [lg_entry_eq]
  generalize (lg_sl ([.ref (ad 0), .int (nI a0), .int 0]) ++ List.replicate (7 - (lg_sl ([.ref (ad 0), .int (nI a0), .int 0])).length) Slot.unset).toArray = ls at hl ⊢
  have hl : lv_has ls 7 [(0, .ref (ad 0)), (1, .int (nI a0)), (2, .int 0)] := hl
  obtain ⟨RR, hRR⟩ : ∃ x, x = (sp_EM_readCondition0_0 x19 x21 x26 x27 f1 q9 q10 f11 m12_0 f17 a0) := ⟨_, rfl⟩
  have hsp := hRR
  refine lv_aload_n hx hb dX9_readCondition_0 rfl (lv_at hl 0 rfl) ?_
  have hFc := pu_free hD hS hA
  refine va_callv (va_runV (As := []) (rest := []) ⟨hx, hb, hml, hown, hts⟩ (c_EM_next l dC dI _ ad ck x0 x16 x18 x19 x20 x21 x22 x23 x24 x25 x26 x27 0 x29 x30 x33 x45 x46 x52 x53 x61 x62 x63 x65 x66 f1 f2 f3 q4 q5 q6 q7 f8 q9 q10 f11 m12_0 m12_1 m13_0 m13_1 m14_0 m14_1 m15_0 m15_1 f17 q31 f32 f34 f35 f36 f37 q38 f39 f40 f41 m42_0 m42_1 f43 f44 f47 f48 f49 f50 f51 q54 q55 q56 f57 q58 f59 f60 f64 hx16 hx18 hx19 hx21 hx22 hx26 (Nat.le_of_ble_eq_true rfl) hx29 hx30 hx33 hx46 hx52 hx53 hx61 hx62 hx63 hx65 hm12_0 hm12_1 hm13_0 hm13_1 hm14_0 hm14_1 hm15_0 hm15_1 hm42_0 hm42_1) (cwV 0 hts g_EM_readCondition0_0_EM_next rfl rfl rfl (by decide +kernel) ⟨Nat.le_of_ble_eq_true rfl, Nat.le_of_ble_eq_true rfl⟩) ⟨pu_bl, va_recv hK hP (ci := 9) (q0 := 0) rfl rfl, pu_in hP hK hD⟩ rfl rfl hl.1 rfl (lv_room (Nat.le_of_ble_eq_true rfl)) dX9_readCondition_1 ⟨Nat.le_of_ble_eq_true rfl, Nat.le_of_ble_eq_true rfl⟩) hS (fun q _ h => hFc q h) hFc (fun u t H1 locs ht hvm hw hB hz1 hk1 hS => ?_)
  obtain ⟨z20_2, z21_3, z22_4, z23_5, ⟨hP1, -, hD1⟩, hz21_3, hz22_4, xr_1_0, xr_1_1, xr_1_2⟩ := hB
  rw [ht] at hP1
  have hP := hP1
  have hD := pu_all hFc hD1
  clear hP1 hD1 hFc
  clear hk1 hz1 ht hvm
  generalize H1 = H at hP hS ⊢
  have hsp := hsp.trans (slet_eq xr_1_2)
  refine lv_aload_n hx hb dX9_readCondition_4 rfl (lv_at hl 0 rfl) ?_
  refine va_get (D := (dC, dI)) (ci := 9) (v := .ref (ad 9)) (C := RX9) (T := TX9) (N := 67) hx hb hts hiX9 hown hK hP 0 rfl rfl 9 (by decide) v_6 (fun _ h9 => h9) rfl dX9_readCondition_5 ?_
  refine lv_iload_n hx hb dX9_readCondition_8 rfl (lv_at hl 1 rfl) ?_
  refine lv_aload_n hx hb dX9_readCondition_9 rfl (lv_at hl 0 rfl) ?_
  have hFc := pu_free hD hS hA
  refine va_calli (va_runV (As := []) (rest := [.int (nI a0), .ref (ad 9)]) ⟨hx, hb, hml, hown, hts⟩ (c_EM_toldClock_0 l dC dI _ ad ck x0 x16 x18 x19 z20_2 z21_3 z22_4 z23_5 x24 x25 x26 x27 x29 x30 x33 x45 x46 x52 x53 x61 x62 x63 x65 x66 f1 f2 f3 q4 q5 q6 q7 f8 q9 q10 f11 m12_0 m12_1 m13_0 m13_1 m14_0 m14_1 m15_0 m15_1 f17 q31 f32 f34 f35 f36 f37 q38 f39 f40 f41 m42_0 m42_1 f43 f44 f47 f48 f49 f50 f51 q54 q55 q56 f57 q58 f59 f60 f64 hx16 hx18 hx19 hz21_3 hz22_4 hx26 hx29 hx30 hx33 hx46 hx52 hx53 hx61 hx62 hx63 hx65 hm12_0 hm12_1 hm13_0 hm13_1 hm14_0 hm14_1 hm15_0 hm15_1 hm42_0 hm42_1) (cwV 0 hts g_EM_readCondition0_0_EM_toldClock_0 rfl rfl rfl (by decide +kernel) ⟨Nat.le_of_ble_eq_true rfl, Nat.le_of_ble_eq_true rfl⟩) ⟨pu_bl, va_recv hK hP (ci := 9) (q0 := 0) rfl rfl, pu_in hP hK hD⟩ rfl rfl hl.1 rfl (lv_room (Nat.le_of_ble_eq_true rfl)) dX9_readCondition_10 ⟨Nat.le_of_ble_eq_true rfl, Nat.le_of_ble_eq_true rfl⟩) hS (fun q _ h => hFc q h) hFc (fun r_6 u t H1 locs ht hvm hw hB hz1 hk1 hS => ?_)
  obtain ⟨z26_7, z27_8, ⟨hP1, -, hD1⟩, hz26_7, xr_6_0⟩ := hB
  rw [ht] at hP1
  have hP := hP1
  have hD := pu_all hFc hD1
  clear hP1 hD1 hFc
  clear hk1 hz1 ht hvm
  generalize H1 = H at hP hS ⊢
  obtain ⟨u_9, hu_9, rfl, iu_9⟩ := hw
  have iu_9 : (u_9, z26_7, z27_8) = (sp_EM_toldClock_0 z20_2 z22_4 z23_5 x26 x27 f1 m12_0) := Prod.ext iu_9 xr_6_0
  have hsp := hsp.trans (slet_eq iu_9)
  refine va_iast hx hb hK hP hD hS 9 8 rfl rfl (vp_in_nI (n := a0) (Nat.lt_of_le_of_lt ha0 (Nat.le_of_ble_eq_true rfl)) (Nat.le_of_ble_eq_true rfl)) dX9_readCondition_13 (fun H locs hP hD hS => ?_)
  obtain ⟨q_10, eq_10, kq_10, oq_10, xq_10⟩ := bN_upx 2 q9 (n := a0) (v := u_9) (Nat.lt_of_le_of_lt ha0 (Nat.le_of_ble_eq_true rfl)) hu_9
  have hP : va_P (dC, dI) vwCl (mo_w ad ck x0 (nI x16) (nI x18) (nI x19) z20_2 (nI z21_3) (nI z22_4) z23_5 x24 x25 (nI z26_7) z27_8 0 (nI x29) (nI x30) (nI x33) x45 (nI x46) (nI x52) (nI x53) (nI x61) (nI x62) (nI x63) (nI x65) x66 f1 f2 f3 (bN 3 q4) (bN 7 q5) (bN 7 q6) (bN 4 q7) f8 (bN 2 q_10) (bH q10) f11 (b2 m12_0 m12_1) (b2 m13_0 m13_1) (b2 m14_0 m14_1) (b2m m15_0 m15_1) f17 (bA 159 q31) f32 f34 f35 f36 f37 (bN 7 q38) f39 f40 f41 (b2 m42_0 m42_1) f43 f44 f47 f48 f49 f50 f51 (bN 13 q54) (bN 120 q55) (bN 120 q56) f57 (bN 120 q58) f59 f60 f64) H := by rw [← eq_10]; exact hP
  have hD : va_D A (mo_w ad ck x0 (nI x16) (nI x18) (nI x19) z20_2 (nI z21_3) (nI z22_4) z23_5 x24 x25 (nI z26_7) z27_8 0 (nI x29) (nI x30) (nI x33) x45 (nI x46) (nI x52) (nI x53) (nI x61) (nI x62) (nI x63) (nI x65) x66 f1 f2 f3 (bN 3 q4) (bN 7 q5) (bN 7 q6) (bN 4 q7) f8 (bN 2 q_10) (bH q10) f11 (b2 m12_0 m12_1) (b2 m13_0 m13_1) (b2 m14_0 m14_1) (b2m m15_0 m15_1) f17 (bA 159 q31) f32 f34 f35 f36 f37 (bN 7 q38) f39 f40 f41 (b2 m42_0 m42_1) f43 f44 f47 f48 f49 f50 f51 (bN 13 q54) (bN 120 q55) (bN 120 q56) f57 (bN 120 q58) f59 f60 f64) := by rw [← eq_10]; exact hD
  have hsp := hsp.trans (slet_eq xq_10)
  refine lv_aload_n hx hb dX9_readCondition_14 rfl (lv_at hl 0 rfl) ?_
  refine va_calli (va_runV (As := []) (rest := []) ⟨hx, hb, hml, hown, hts⟩ (c_EM_isGood l dC dI _ ad ck x0 x16 x18 x19 z20_2 z21_3 z22_4 z23_5 x24 x25 z26_7 z27_8 0 x29 x30 x33 x45 x46 x52 x53 x61 x62 x63 x65 x66 f1 f2 f3 q4 q5 q6 q7 f8 q_10 q10 f11 m12_0 m12_1 m13_0 m13_1 m14_0 m14_1 m15_0 m15_1 f17 q31 f32 f34 f35 f36 f37 q38 f39 f40 f41 m42_0 m42_1 f43 f44 f47 f48 f49 f50 f51 q54 q55 q56 f57 q58 f59 f60 f64 hx16 hx18 hx19 hz21_3 hz22_4 hz26_7 (Nat.le_of_ble_eq_true rfl) hx29 hx30 hx33 hx46 hx52 hx53 hx61 hx62 hx63 hx65 hm12_0 hm12_1 hm13_0 hm13_1 hm14_0 hm14_1 hm15_0 hm15_1 hm42_0 hm42_1) (cwV 0 hts g_EM_readCondition0_0_EM_isGood rfl rfl rfl (by decide +kernel) ⟨Nat.le_of_ble_eq_true rfl, Nat.le_of_ble_eq_true rfl⟩) ⟨pu_bl, va_recv hK hP (ci := 9) (q0 := 0) rfl rfl, pu_in hP hK hD⟩ rfl rfl hl.1 rfl (lv_room (Nat.le_of_ble_eq_true rfl)) dX9_readCondition_15 ⟨Nat.le_of_ble_eq_true rfl, Nat.le_of_ble_eq_true rfl⟩) hS (fun q _ h => pu_fr hS hA q h) (pu_fr hS hA) (fun r_11 u t H1 locs ht hvm hw hB hz1 hk1 hS => ?_)
  have hP := pu_keep hP hk1
  clear hk1 hz1 ht hvm
  generalize H1 = H at hP hS ⊢
  obtain ⟨u_12, hu_12, rfl, ju_12, iu_12⟩ := hw
  have hsp := hsp.trans (slet_eq iu_12)
  obtain ⟨JR_20, hJR_20, hsp⟩ := slet_ex hsp
  refine pu_join (fun H locs ls st => ∃ (g_13 : Int32) (g_14 : Nat) (g_15 : Nat) (g_16 : Int32), st = [] ∧ g_14 ≤ 900 ∧ g_15 ≤ 4 ∧ mu g_14 g_15 ≤ mu x21 x22 ∧ (x22 = 0 ∨ mu g_14 g_15 < mu x21 x22) ∧ (g_13, g_14, g_15, g_16) = JR_20 ∧ va_P (dC, dI) vwCl (mo_w ad ck x0 (nI x16) (nI x18) (nI x19) g_13 (nI g_14) (nI g_15) g_16 x24 x25 (nI z26_7) z27_8 0 (nI x29) (nI x30) (nI x33) x45 (nI x46) (nI x52) (nI x53) (nI x61) (nI x62) (nI x63) (nI x65) x66 f1 f2 f3 (bN 3 q4) (bN 7 q5) (bN 7 q6) (bN 4 q7) f8 (bN 2 q_10) (bH q10) f11 (b2 m12_0 m12_1) (b2 m13_0 m13_1) (b2 m14_0 m14_1) (b2m m15_0 m15_1) f17 (bA 159 q31) f32 f34 f35 f36 f37 (bN 7 q38) f39 f40 f41 (b2 m42_0 m42_1) f43 f44 f47 f48 f49 f50 f51 (bN 13 q54) (bN 120 q55) (bN 120 q56) f57 (bN 120 q58) f59 f60 f64) H ∧ va_D A (mo_w ad ck x0 (nI x16) (nI x18) (nI x19) g_13 (nI g_14) (nI g_15) g_16 x24 x25 (nI z26_7) z27_8 0 (nI x29) (nI x30) (nI x33) x45 (nI x46) (nI x52) (nI x53) (nI x61) (nI x62) (nI x63) (nI x65) x66 f1 f2 f3 (bN 3 q4) (bN 7 q5) (bN 7 q6) (bN 4 q7) f8 (bN 2 q_10) (bH q10) f11 (b2 m12_0 m12_1) (b2 m13_0 m13_1) (b2 m14_0 m14_1) (b2m m15_0 m15_1) f17 (bA 159 q31) f32 f34 f35 f36 f37 (bN 7 q38) f39 f40 f41 (b2 m42_0 m42_1) f43 f44 f47 f48 f49 f50 f51 (bN 13 q54) (bN 120 q55) (bN 120 q56) f57 (bN 120 q58) f59 f60 f64) ∧ va_S A s.heap H locs ∧ lv_has ls 7 [(0, .ref (ad 0)), (1, .int (nI a0)), (2, .int 0)]) 25 ?_ (fun j_19 => ?_)
  · rintro H locs ls st ⟨g_13, g_14, g_15, g_16, rfl, hg_14, hg_15, he_17, he_18, he_21, hP, hD, hS, hl⟩
    rw [← he_21] at hsp
    refine lv_aload_n hx hb dX9_readCondition_25 rfl (lv_at hl 0 rfl) ?_
    refine lv_bipush (v := 60) hx hb dX9_readCondition_26 (by decide) ?_
    refine va_calli (va_runV (As := [.int 60]) (rest := []) ⟨hx, hb, hml, hown, hts⟩ (c_EM_isSign l dC dI _ ad ck x0 x16 x18 x19 g_13 g_14 g_15 g_16 x24 x25 z26_7 z27_8 0 x29 x30 x33 x45 x46 x52 x53 x61 x62 x63 x65 x66 f1 f2 f3 q4 q5 q6 q7 f8 q_10 q10 f11 m12_0 m12_1 m13_0 m13_1 m14_0 m14_1 m15_0 m15_1 f17 q31 f32 f34 f35 f36 f37 q38 f39 f40 f41 m42_0 m42_1 f43 f44 f47 f48 f49 f50 f51 q54 q55 q56 f57 q58 f59 f60 f64 60 hx16 hx18 hx19 hg_14 hg_15 hz26_7 (Nat.le_of_ble_eq_true rfl) hx29 hx30 hx33 hx46 hx52 hx53 hx61 hx62 hx63 hx65 hm12_0 hm12_1 hm13_0 hm13_1 hm14_0 hm14_1 hm15_0 hm15_1 hm42_0 hm42_1) (cwV 1 hts g_EM_readCondition0_0_EM_isSign rfl rfl rfl (by decide +kernel) ⟨Nat.le_of_ble_eq_true rfl, Nat.le_of_ble_eq_true rfl⟩) ⟨pu_bl, va_recv hK hP (ci := 9) (q0 := 0) rfl rfl, pu_in hP hK hD⟩ rfl rfl hl.1 rfl (lv_room (Nat.le_of_ble_eq_true rfl)) dX9_readCondition_28 ⟨Nat.le_of_ble_eq_true rfl, Nat.le_of_ble_eq_true rfl⟩) hS (fun q _ h => pu_fr hS hA q h) (pu_fr hS hA) (fun r_22 u t H1 locs ht hvm hw hB hz1 hk1 hS => ?_)
    have hP := pu_keep hP hk1
    clear hk1 hz1 ht hvm
    generalize H1 = H at hP hS ⊢
    obtain ⟨u_23, hu_23, rfl, ju_23, iu_23⟩ := hw
    have hsp := hsp.trans (slet_eq iu_23)
    refine lv_istore_n (lv' := [(3, .int (nI u_23)), (0, .ref (ad 0)), (1, .int (nI a0)), (2, .int 0)]) hx hb dX9_readCondition_31 rfl hl (by decide) rfl (fun ls hl => ?_)
    refine lv_aload_n hx hb dX9_readCondition_32 rfl (lv_at hl 1 rfl) ?_
    refine lv_bipush (v := 62) hx hb dX9_readCondition_33 (by decide) ?_
    refine va_calli (va_runV (As := [.int 62]) (rest := []) ⟨hx, hb, hml, hown, hts⟩ (c_EM_isSign l dC dI _ ad ck x0 x16 x18 x19 g_13 g_14 g_15 g_16 x24 x25 z26_7 z27_8 0 x29 x30 x33 x45 x46 x52 x53 x61 x62 x63 x65 x66 f1 f2 f3 q4 q5 q6 q7 f8 q_10 q10 f11 m12_0 m12_1 m13_0 m13_1 m14_0 m14_1 m15_0 m15_1 f17 q31 f32 f34 f35 f36 f37 q38 f39 f40 f41 m42_0 m42_1 f43 f44 f47 f48 f49 f50 f51 q54 q55 q56 f57 q58 f59 f60 f64 62 hx16 hx18 hx19 hg_14 hg_15 hz26_7 (Nat.le_of_ble_eq_true rfl) hx29 hx30 hx33 hx46 hx52 hx53 hx61 hx62 hx63 hx65 hm12_0 hm12_1 hm13_0 hm13_1 hm14_0 hm14_1 hm15_0 hm15_1 hm42_0 hm42_1) (cwV 1 hts g_EM_readCondition0_0_EM_isSign rfl rfl rfl (by decide +kernel) ⟨Nat.le_of_ble_eq_true rfl, Nat.le_of_ble_eq_true rfl⟩) ⟨pu_bl, va_recv hK hP (ci := 9) (q0 := 0) rfl rfl, pu_in hP hK hD⟩ rfl rfl hl.1 rfl (lv_room (Nat.le_of_ble_eq_true rfl)) dX9_readCondition_35 ⟨Nat.le_of_ble_eq_true rfl, Nat.le_of_ble_eq_true rfl⟩) hS (fun q _ h => pu_fr hS hA q h) (pu_fr hS hA) (fun r_24 u t H1 locs ht hvm hw hB hz1 hk1 hS => ?_)
    have hP := pu_keep hP hk1
    clear hk1 hz1 ht hvm
    generalize H1 = H at hP hS ⊢
    obtain ⟨u_25, hu_25, rfl, ju_25, iu_25⟩ := hw
    have hsp := hsp.trans (slet_eq iu_25)
    obtain ⟨JR_30, hJR_30, hsp⟩ := slet_ex hsp
    refine pu_join (fun H locs ls st => ∃ (g_26 : Nat), st = [.int (nI g_26)] ∧ g_26 ≤ 1 ∧ mu g_14 g_15 ≤ mu x21 x22 ∧ (x22 = 0 ∨ mu g_14 g_15 < mu x21 x22) ∧ g_26 = JR_30 ∧ va_P (dC, dI) vwCl (mo_w ad ck x0 (nI x16) (nI x18) (nI x19) g_13 (nI g_14) (nI g_15) g_16 x24 x25 (nI z26_7) z27_8 0 (nI x29) (nI x30) (nI x33) x45 (nI x46) (nI x52) (nI x53) (nI x61) (nI x62) (nI x63) (nI x65) x66 f1 f2 f3 (bN 3 q4) (bN 7 q5) (bN 7 q6) (bN 4 q7) f8 (bN 2 q_10) (bH q10) f11 (b2 m12_0 m12_1) (b2 m13_0 m13_1) (b2 m14_0 m14_1) (b2m m15_0 m15_1) f17 (bA 159 q31) f32 f34 f35 f36 f37 (bN 7 q38) f39 f40 f41 (b2 m42_0 m42_1) f43 f44 f47 f48 f49 f50 f51 (bN 13 q54) (bN 120 q55) (bN 120 q56) f57 (bN 120 q58) f59 f60 f64) H ∧ va_D A (mo_w ad ck x0 (nI x16) (nI x18) (nI x19) g_13 (nI g_14) (nI g_15) g_16 x24 x25 (nI z26_7) z27_8 0 (nI x29) (nI x30) (nI x33) x45 (nI x46) (nI x52) (nI x53) (nI x61) (nI x62) (nI x63) (nI x65) x66 f1 f2 f3 (bN 3 q4) (bN 7 q5) (bN 7 q6) (bN 4 q7) f8 (bN 2 q_10) (bH q10) f11 (b2 m12_0 m12_1) (b2 m13_0 m13_1) (b2 m14_0 m14_1) (b2m m15_0 m15_1) f17 (bA 159 q31) f32 f34 f35 f36 f37 (bN 7 q38) f39 f40 f41 (b2 m42_0 m42_1) f43 f44 f47 f48 f49 f50 f51 (bN 13 q54) (bN 120 q55) (bN 120 q56) f57 (bN 120 q58) f59 f60 f64) ∧ va_S A s.heap H locs ∧ lv_has ls 7 [(0, .ref (ad 0)), (1, .int (nI a0)), (2, .int 0), (3, .int (nI u_23))]) 50 ?_ (fun j_29 => ?_)
    · rintro H locs ls st ⟨g_26, rfl, hg_26, he_27, he_28, he_31, hP, hD, hS, hl⟩
      rw [← he_31] at hsp
      refine lv_istore (lv' := [(4, .int (nI g_26)), (0, .ref (ad 0)), (1, .int (nI a0)), (2, .int 0), (3, .int (nI u_23))]) hx hb dX9_readCondition_50 hl (by decide) rfl (fun ls hl => ?_)
      refine lv_aload_n hx hb dX9_readCondition_52 rfl (lv_at hl 1 rfl) ?_
      refine lv_bipush (v := 61) hx hb dX9_readCondition_53 (by decide) ?_
      refine va_calli (va_runV (As := [.int 61]) (rest := []) ⟨hx, hb, hml, hown, hts⟩ (c_EM_isSign l dC dI _ ad ck x0 x16 x18 x19 g_13 g_14 g_15 g_16 x24 x25 z26_7 z27_8 0 x29 x30 x33 x45 x46 x52 x53 x61 x62 x63 x65 x66 f1 f2 f3 q4 q5 q6 q7 f8 q_10 q10 f11 m12_0 m12_1 m13_0 m13_1 m14_0 m14_1 m15_0 m15_1 f17 q31 f32 f34 f35 f36 f37 q38 f39 f40 f41 m42_0 m42_1 f43 f44 f47 f48 f49 f50 f51 q54 q55 q56 f57 q58 f59 f60 f64 61 hx16 hx18 hx19 hg_14 hg_15 hz26_7 (Nat.le_of_ble_eq_true rfl) hx29 hx30 hx33 hx46 hx52 hx53 hx61 hx62 hx63 hx65 hm12_0 hm12_1 hm13_0 hm13_1 hm14_0 hm14_1 hm15_0 hm15_1 hm42_0 hm42_1) (cwV 1 hts g_EM_readCondition0_0_EM_isSign rfl rfl rfl (by decide +kernel) ⟨Nat.le_of_ble_eq_true rfl, Nat.le_of_ble_eq_true rfl⟩) ⟨pu_bl, va_recv hK hP (ci := 9) (q0 := 0) rfl rfl, pu_in hP hK hD⟩ rfl rfl hl.1 rfl (lv_room (Nat.le_of_ble_eq_true rfl)) dX9_readCondition_55 ⟨Nat.le_of_ble_eq_true rfl, Nat.le_of_ble_eq_true rfl⟩) hS (fun q _ h => pu_fr hS hA q h) (pu_fr hS hA) (fun r_32 u t H1 locs ht hvm hw hB hz1 hk1 hS => ?_)
      have hP := pu_keep hP hk1
      clear hk1 hz1 ht hvm
      generalize H1 = H at hP hS ⊢
      obtain ⟨u_33, hu_33, rfl, ju_33, iu_33⟩ := hw
      have hsp := hsp.trans (slet_eq iu_33)
      obtain ⟨JR_38, hJR_38, hsp⟩ := slet_ex hsp
      refine pu_join (fun H locs ls st => ∃ (g_34 : Nat), st = [.int (nI g_34)] ∧ g_34 ≤ 1 ∧ mu g_14 g_15 ≤ mu x21 x22 ∧ (x22 = 0 ∨ mu g_14 g_15 < mu x21 x22) ∧ g_34 = JR_38 ∧ va_P (dC, dI) vwCl (mo_w ad ck x0 (nI x16) (nI x18) (nI x19) g_13 (nI g_14) (nI g_15) g_16 x24 x25 (nI z26_7) z27_8 0 (nI x29) (nI x30) (nI x33) x45 (nI x46) (nI x52) (nI x53) (nI x61) (nI x62) (nI x63) (nI x65) x66 f1 f2 f3 (bN 3 q4) (bN 7 q5) (bN 7 q6) (bN 4 q7) f8 (bN 2 q_10) (bH q10) f11 (b2 m12_0 m12_1) (b2 m13_0 m13_1) (b2 m14_0 m14_1) (b2m m15_0 m15_1) f17 (bA 159 q31) f32 f34 f35 f36 f37 (bN 7 q38) f39 f40 f41 (b2 m42_0 m42_1) f43 f44 f47 f48 f49 f50 f51 (bN 13 q54) (bN 120 q55) (bN 120 q56) f57 (bN 120 q58) f59 f60 f64) H ∧ va_D A (mo_w ad ck x0 (nI x16) (nI x18) (nI x19) g_13 (nI g_14) (nI g_15) g_16 x24 x25 (nI z26_7) z27_8 0 (nI x29) (nI x30) (nI x33) x45 (nI x46) (nI x52) (nI x53) (nI x61) (nI x62) (nI x63) (nI x65) x66 f1 f2 f3 (bN 3 q4) (bN 7 q5) (bN 7 q6) (bN 4 q7) f8 (bN 2 q_10) (bH q10) f11 (b2 m12_0 m12_1) (b2 m13_0 m13_1) (b2 m14_0 m14_1) (b2m m15_0 m15_1) f17 (bA 159 q31) f32 f34 f35 f36 f37 (bN 7 q38) f39 f40 f41 (b2 m42_0 m42_1) f43 f44 f47 f48 f49 f50 f51 (bN 13 q54) (bN 120 q55) (bN 120 q56) f57 (bN 120 q58) f59 f60 f64) ∧ va_S A s.heap H locs ∧ lv_has ls 7 [(0, .ref (ad 0)), (1, .int (nI a0)), (2, .int 0), (3, .int (nI u_23)), (4, .int (nI g_26))]) 70 ?_ (fun j_37 => ?_)
      · rintro H locs ls st ⟨g_34, rfl, hg_34, he_35, he_36, he_39, hP, hD, hS, hl⟩
        rw [← he_39] at hsp
        refine lv_istore (lv' := [(5, .int (nI g_34)), (0, .ref (ad 0)), (1, .int (nI a0)), (2, .int 0), (3, .int (nI u_23)), (4, .int (nI g_26))]) hx hb dX9_readCondition_70 hl (by decide) rfl (fun ls hl => ?_)
        refine lv_aload_n hx hb dX9_readCondition_72 rfl (lv_at hl 1 rfl) ?_
        refine va_calli (va_runV (As := []) (rest := []) ⟨hx, hb, hml, hown, hts⟩ (c_EM_isGood l dC dI _ ad ck x0 x16 x18 x19 g_13 g_14 g_15 g_16 x24 x25 z26_7 z27_8 0 x29 x30 x33 x45 x46 x52 x53 x61 x62 x63 x65 x66 f1 f2 f3 q4 q5 q6 q7 f8 q_10 q10 f11 m12_0 m12_1 m13_0 m13_1 m14_0 m14_1 m15_0 m15_1 f17 q31 f32 f34 f35 f36 f37 q38 f39 f40 f41 m42_0 m42_1 f43 f44 f47 f48 f49 f50 f51 q54 q55 q56 f57 q58 f59 f60 f64 hx16 hx18 hx19 hg_14 hg_15 hz26_7 (Nat.le_of_ble_eq_true rfl) hx29 hx30 hx33 hx46 hx52 hx53 hx61 hx62 hx63 hx65 hm12_0 hm12_1 hm13_0 hm13_1 hm14_0 hm14_1 hm15_0 hm15_1 hm42_0 hm42_1) (cwV 0 hts g_EM_readCondition0_0_EM_isGood rfl rfl rfl (by decide +kernel) ⟨Nat.le_of_ble_eq_true rfl, Nat.le_of_ble_eq_true rfl⟩) ⟨pu_bl, va_recv hK hP (ci := 9) (q0 := 0) rfl rfl, pu_in hP hK hD⟩ rfl rfl hl.1 rfl (lv_room (Nat.le_of_ble_eq_true rfl)) dX9_readCondition_73 ⟨Nat.le_of_ble_eq_true rfl, Nat.le_of_ble_eq_true rfl⟩) hS (fun q _ h => pu_fr hS hA q h) (pu_fr hS hA) (fun r_40 u t H1 locs ht hvm hw hB hz1 hk1 hS => ?_)
        have hP := pu_keep hP hk1
        clear hk1 hz1 ht hvm
        generalize H1 = H at hP hS ⊢
        obtain ⟨u_41, hu_41, rfl, ju_41, iu_41⟩ := hw
        have hsp := hsp.trans (slet_eq iu_41)
        obtain ⟨JR_48, hJR_48, hsp⟩ := slet_ex hsp
        refine pu_join (fun H locs ls st => ∃ (g_42 : Nat) (g_43 : Int32), st = [] ∧ g_42 ≤ 6 ∧ mu g_14 g_15 ≤ mu x21 x22 ∧ (x22 = 0 ∨ mu g_14 g_15 < mu x21 x22) ∧ (g_42 ≠ 0 ∨ u_23 = 1 ∨ g_26 = 1 ∨ g_34 = 1) ∧ (g_42, g_43) = JR_48 ∧ va_P (dC, dI) vwCl (mo_w ad ck x0 (nI x16) (nI x18) (nI x19) g_13 (nI g_14) (nI g_15) g_16 x24 x25 (nI g_42) g_43 0 (nI x29) (nI x30) (nI x33) x45 (nI x46) (nI x52) (nI x53) (nI x61) (nI x62) (nI x63) (nI x65) x66 f1 f2 f3 (bN 3 q4) (bN 7 q5) (bN 7 q6) (bN 4 q7) f8 (bN 2 q_10) (bH q10) f11 (b2 m12_0 m12_1) (b2 m13_0 m13_1) (b2 m14_0 m14_1) (b2m m15_0 m15_1) f17 (bA 159 q31) f32 f34 f35 f36 f37 (bN 7 q38) f39 f40 f41 (b2 m42_0 m42_1) f43 f44 f47 f48 f49 f50 f51 (bN 13 q54) (bN 120 q55) (bN 120 q56) f57 (bN 120 q58) f59 f60 f64) H ∧ va_D A (mo_w ad ck x0 (nI x16) (nI x18) (nI x19) g_13 (nI g_14) (nI g_15) g_16 x24 x25 (nI g_42) g_43 0 (nI x29) (nI x30) (nI x33) x45 (nI x46) (nI x52) (nI x53) (nI x61) (nI x62) (nI x63) (nI x65) x66 f1 f2 f3 (bN 3 q4) (bN 7 q5) (bN 7 q6) (bN 4 q7) f8 (bN 2 q_10) (bH q10) f11 (b2 m12_0 m12_1) (b2 m13_0 m13_1) (b2 m14_0 m14_1) (b2m m15_0 m15_1) f17 (bA 159 q31) f32 f34 f35 f36 f37 (bN 7 q38) f39 f40 f41 (b2 m42_0 m42_1) f43 f44 f47 f48 f49 f50 f51 (bN 13 q54) (bN 120 q55) (bN 120 q56) f57 (bN 120 q58) f59 f60 f64) ∧ va_S A s.heap H locs ∧ lv_has ls 7 [(0, .ref (ad 0)), (1, .int (nI a0)), (2, .int 0), (3, .int (nI u_23)), (4, .int (nI g_26)), (5, .int (nI g_34))]) 98 ?_ (fun j_47 => ?_)
        · rintro H locs ls st ⟨g_42, g_43, rfl, hg_42, he_44, he_45, he_46, he_49, hP, hD, hS, hl⟩
          rw [← he_49] at hsp
          refine lv_aload_n hx hb dX9_readCondition_98 rfl (lv_at hl 0 rfl) ?_
          refine va_calli (va_runV (As := []) (rest := []) ⟨hx, hb, hml, hown, hts⟩ (c_EM_isGood l dC dI _ ad ck x0 x16 x18 x19 g_13 g_14 g_15 g_16 x24 x25 g_42 g_43 0 x29 x30 x33 x45 x46 x52 x53 x61 x62 x63 x65 x66 f1 f2 f3 q4 q5 q6 q7 f8 q_10 q10 f11 m12_0 m12_1 m13_0 m13_1 m14_0 m14_1 m15_0 m15_1 f17 q31 f32 f34 f35 f36 f37 q38 f39 f40 f41 m42_0 m42_1 f43 f44 f47 f48 f49 f50 f51 q54 q55 q56 f57 q58 f59 f60 f64 hx16 hx18 hx19 hg_14 hg_15 hg_42 (Nat.le_of_ble_eq_true rfl) hx29 hx30 hx33 hx46 hx52 hx53 hx61 hx62 hx63 hx65 hm12_0 hm12_1 hm13_0 hm13_1 hm14_0 hm14_1 hm15_0 hm15_1 hm42_0 hm42_1) (cwV 0 hts g_EM_readCondition0_0_EM_isGood rfl rfl rfl (by decide +kernel) ⟨Nat.le_of_ble_eq_true rfl, Nat.le_of_ble_eq_true rfl⟩) ⟨pu_bl, va_recv hK hP (ci := 9) (q0 := 0) rfl rfl, pu_in hP hK hD⟩ rfl rfl hl.1 rfl (lv_room (Nat.le_of_ble_eq_true rfl)) dX9_readCondition_99 ⟨Nat.le_of_ble_eq_true rfl, Nat.le_of_ble_eq_true rfl⟩) hS (fun q _ h => pu_fr hS hA q h) (pu_fr hS hA) (fun r_50 u t H1 locs ht hvm hw hB hz1 hk1 hS => ?_)
          have hP := pu_keep hP hk1
          clear hk1 hz1 ht hvm
          generalize H1 = H at hP hS ⊢
          obtain ⟨u_51, hu_51, rfl, ju_51, iu_51⟩ := hw
          have hsp := hsp.trans (slet_eq iu_51)
          refine lv_if_ne (tgt := 106) hx hb dX9_readCondition_102 (by decide) (fun c_52 => ?_) (fun c_52 => ?_)
          · have c_52 : ¬ u_51 = 0 := fun z => c_52 ((nI_eq (a := u_51) (b := 0) (Nat.lt_of_le_of_lt hu_51 (Nat.le_of_ble_eq_true rfl)) (Nat.le_of_ble_eq_true rfl)).mpr z)
            have hsp := hsp.trans (if_neg c_52)
            refine lv_aload_n hx hb dX9_readCondition_106 rfl (lv_at hl 0 rfl) ?_
            have hFc := pu_free hD hS hA
            refine va_callv (va_runV (As := []) (rest := []) ⟨hx, hb, hml, hown, hts⟩ (c_EM_next l dC dI _ ad ck x0 x16 x18 x19 g_13 g_14 g_15 g_16 x24 x25 g_42 g_43 0 x29 x30 x33 x45 x46 x52 x53 x61 x62 x63 x65 x66 f1 f2 f3 q4 q5 q6 q7 f8 q_10 q10 f11 m12_0 m12_1 m13_0 m13_1 m14_0 m14_1 m15_0 m15_1 f17 q31 f32 f34 f35 f36 f37 q38 f39 f40 f41 m42_0 m42_1 f43 f44 f47 f48 f49 f50 f51 q54 q55 q56 f57 q58 f59 f60 f64 hx16 hx18 hx19 hg_14 hg_15 hg_42 (Nat.le_of_ble_eq_true rfl) hx29 hx30 hx33 hx46 hx52 hx53 hx61 hx62 hx63 hx65 hm12_0 hm12_1 hm13_0 hm13_1 hm14_0 hm14_1 hm15_0 hm15_1 hm42_0 hm42_1) (cwV 0 hts g_EM_readCondition0_0_EM_next rfl rfl rfl (by decide +kernel) ⟨Nat.le_of_ble_eq_true rfl, Nat.le_of_ble_eq_true rfl⟩) ⟨pu_bl, va_recv hK hP (ci := 9) (q0 := 0) rfl rfl, pu_in hP hK hD⟩ rfl rfl hl.1 rfl (lv_room (Nat.le_of_ble_eq_true rfl)) dX9_readCondition_107 ⟨Nat.le_of_ble_eq_true rfl, Nat.le_of_ble_eq_true rfl⟩) hS (fun q _ h => hFc q h) hFc (fun u t H1 locs ht hvm hw hB hz1 hk1 hS => ?_)
            obtain ⟨z20_54, z21_55, z22_56, z23_57, ⟨hP1, -, hD1⟩, hz21_55, hz22_56, xr_53_0, xr_53_1, xr_53_2⟩ := hB
            rw [ht] at hP1
            have hP := hP1
            have hD := pu_all hFc hD1
            clear hP1 hD1 hFc
            clear hk1 hz1 ht hvm
            generalize H1 = H at hP hS ⊢
            have hsp := hsp.trans (slet_eq xr_53_2)
            refine lv_iload hx hb dX9_readCondition_110 (lv_at hl 5 rfl) ?_
            obtain ⟨JR_62, hJR_62, hsp⟩ := slet_ex hsp
            refine pu_join (fun H locs ls st => ∃ (g_58 : Nat), st = [.int (nI g_58)] ∧ g_58 ≤ 1 ∧ mu z21_55 z22_56 ≤ mu x21 x22 ∧ (x22 = 0 ∨ mu z21_55 z22_56 < mu x21 x22) ∧ g_58 = JR_62 ∧ va_P (dC, dI) vwCl (mo_w ad ck x0 (nI x16) (nI x18) (nI x19) z20_54 (nI z21_55) (nI z22_56) z23_57 x24 x25 (nI g_42) g_43 0 (nI x29) (nI x30) (nI x33) x45 (nI x46) (nI x52) (nI x53) (nI x61) (nI x62) (nI x63) (nI x65) x66 f1 f2 f3 (bN 3 q4) (bN 7 q5) (bN 7 q6) (bN 4 q7) f8 (bN 2 q_10) (bH q10) f11 (b2 m12_0 m12_1) (b2 m13_0 m13_1) (b2 m14_0 m14_1) (b2m m15_0 m15_1) f17 (bA 159 q31) f32 f34 f35 f36 f37 (bN 7 q38) f39 f40 f41 (b2 m42_0 m42_1) f43 f44 f47 f48 f49 f50 f51 (bN 13 q54) (bN 120 q55) (bN 120 q56) f57 (bN 120 q58) f59 f60 f64) H ∧ va_D A (mo_w ad ck x0 (nI x16) (nI x18) (nI x19) z20_54 (nI z21_55) (nI z22_56) z23_57 x24 x25 (nI g_42) g_43 0 (nI x29) (nI x30) (nI x33) x45 (nI x46) (nI x52) (nI x53) (nI x61) (nI x62) (nI x63) (nI x65) x66 f1 f2 f3 (bN 3 q4) (bN 7 q5) (bN 7 q6) (bN 4 q7) f8 (bN 2 q_10) (bH q10) f11 (b2 m12_0 m12_1) (b2 m13_0 m13_1) (b2 m14_0 m14_1) (b2m m15_0 m15_1) f17 (bA 159 q31) f32 f34 f35 f36 f37 (bN 7 q38) f39 f40 f41 (b2 m42_0 m42_1) f43 f44 f47 f48 f49 f50 f51 (bN 13 q54) (bN 120 q55) (bN 120 q56) f57 (bN 120 q58) f59 f60 f64) ∧ va_S A s.heap H locs ∧ lv_has ls 7 [(0, .ref (ad 0)), (1, .int (nI a0)), (2, .int 0), (3, .int (nI u_23)), (4, .int (nI g_26)), (5, .int (nI g_34))]) 129 ?_ (fun j_61 => ?_)
            · rintro H locs ls st ⟨g_58, rfl, hg_58, he_59, he_60, he_63, hP, hD, hS, hl⟩
              rw [← he_63] at hsp
              refine lv_istore (lv' := [(6, .int (nI g_58)), (0, .ref (ad 0)), (1, .int (nI a0)), (2, .int 0), (3, .int (nI u_23)), (4, .int (nI g_26)), (5, .int (nI g_34))]) hx hb dX9_readCondition_129 hl (by decide) rfl (fun ls hl => ?_)
              refine lv_iload hx hb dX9_readCondition_131 (lv_at hl 0 rfl) ?_
              obtain ⟨JR_71, hJR_71, hsp⟩ := slet_ex hsp
              refine pu_join (fun H locs ls st => ∃ (g_64 : Int32) (g_65 : Nat) (g_66 : Nat) (g_67 : Int32), st = [] ∧ g_65 ≤ 900 ∧ g_66 ≤ 4 ∧ mu g_65 g_66 ≤ mu x21 x22 ∧ (x22 = 0 ∨ mu g_65 g_66 < mu x21 x22) ∧ (g_64, g_65, g_66, g_67) = JR_71 ∧ va_P (dC, dI) vwCl (mo_w ad ck x0 (nI x16) (nI x18) (nI x19) g_64 (nI g_65) (nI g_66) g_67 x24 x25 (nI g_42) g_43 0 (nI x29) (nI x30) (nI x33) x45 (nI x46) (nI x52) (nI x53) (nI x61) (nI x62) (nI x63) (nI x65) x66 f1 f2 f3 (bN 3 q4) (bN 7 q5) (bN 7 q6) (bN 4 q7) f8 (bN 2 q_10) (bH q10) f11 (b2 m12_0 m12_1) (b2 m13_0 m13_1) (b2 m14_0 m14_1) (b2m m15_0 m15_1) f17 (bA 159 q31) f32 f34 f35 f36 f37 (bN 7 q38) f39 f40 f41 (b2 m42_0 m42_1) f43 f44 f47 f48 f49 f50 f51 (bN 13 q54) (bN 120 q55) (bN 120 q56) f57 (bN 120 q58) f59 f60 f64) H ∧ va_D A (mo_w ad ck x0 (nI x16) (nI x18) (nI x19) g_64 (nI g_65) (nI g_66) g_67 x24 x25 (nI g_42) g_43 0 (nI x29) (nI x30) (nI x33) x45 (nI x46) (nI x52) (nI x53) (nI x61) (nI x62) (nI x63) (nI x65) x66 f1 f2 f3 (bN 3 q4) (bN 7 q5) (bN 7 q6) (bN 4 q7) f8 (bN 2 q_10) (bH q10) f11 (b2 m12_0 m12_1) (b2 m13_0 m13_1) (b2 m14_0 m14_1) (b2m m15_0 m15_1) f17 (bA 159 q31) f32 f34 f35 f36 f37 (bN 7 q38) f39 f40 f41 (b2 m42_0 m42_1) f43 f44 f47 f48 f49 f50 f51 (bN 13 q54) (bN 120 q55) (bN 120 q56) f57 (bN 120 q58) f59 f60 f64) ∧ va_S A s.heap H locs ∧ lv_has ls 7 [(0, .ref (ad 0)), (1, .int (nI a0)), (2, .int 0), (3, .int (nI u_23)), (4, .int (nI g_26)), (5, .int (nI g_34)), (6, .int (nI g_58))]) 140 ?_ (fun j_70 => ?_)
              · rintro H locs ls st ⟨g_64, g_65, g_66, g_67, rfl, hg_65, hg_66, he_68, he_69, he_72, hP, hD, hS, hl⟩
                rw [← he_72] at hsp
                refine lv_aload_n hx hb dX9_readCondition_140 rfl (lv_at hl 0 rfl) ?_
                refine va_get (D := (dC, dI)) (ci := 9) (v := .ref (ad 10)) (C := RX9) (T := TX9) (N := 67) hx hb hts hiX9 hown hK hP 0 rfl rfl 10 (by decide) v_23 (fun _ h9 => h9) rfl dX9_readCondition_141 ?_
                refine lv_iload_n hx hb dX9_readCondition_144 rfl (lv_at hl 1 rfl) ?_
                refine lv_iload hx hb dX9_readCondition_145 (lv_at hl 5 rfl) ?_
                obtain ⟨JR_77, hJR_77, hsp⟩ := slet_ex hsp
                refine pu_join (fun H locs ls st => ∃ (g_73 : Nat), st = [.int (nI g_73), .int (nI a0), .ref (ad 10)] ∧ g_73 ≤ 4 ∧ mu g_65 g_66 ≤ mu x21 x22 ∧ (x22 = 0 ∨ mu g_65 g_66 < mu x21 x22) ∧ g_73 = JR_77 ∧ va_P (dC, dI) vwCl (mo_w ad ck x0 (nI x16) (nI x18) (nI x19) g_64 (nI g_65) (nI g_66) g_67 x24 x25 (nI g_42) g_43 0 (nI x29) (nI x30) (nI x33) x45 (nI x46) (nI x52) (nI x53) (nI x61) (nI x62) (nI x63) (nI x65) x66 f1 f2 f3 (bN 3 q4) (bN 7 q5) (bN 7 q6) (bN 4 q7) f8 (bN 2 q_10) (bH q10) f11 (b2 m12_0 m12_1) (b2 m13_0 m13_1) (b2 m14_0 m14_1) (b2m m15_0 m15_1) f17 (bA 159 q31) f32 f34 f35 f36 f37 (bN 7 q38) f39 f40 f41 (b2 m42_0 m42_1) f43 f44 f47 f48 f49 f50 f51 (bN 13 q54) (bN 120 q55) (bN 120 q56) f57 (bN 120 q58) f59 f60 f64) H ∧ va_D A (mo_w ad ck x0 (nI x16) (nI x18) (nI x19) g_64 (nI g_65) (nI g_66) g_67 x24 x25 (nI g_42) g_43 0 (nI x29) (nI x30) (nI x33) x45 (nI x46) (nI x52) (nI x53) (nI x61) (nI x62) (nI x63) (nI x65) x66 f1 f2 f3 (bN 3 q4) (bN 7 q5) (bN 7 q6) (bN 4 q7) f8 (bN 2 q_10) (bH q10) f11 (b2 m12_0 m12_1) (b2 m13_0 m13_1) (b2 m14_0 m14_1) (b2m m15_0 m15_1) f17 (bA 159 q31) f32 f34 f35 f36 f37 (bN 7 q38) f39 f40 f41 (b2 m42_0 m42_1) f43 f44 f47 f48 f49 f50 f51 (bN 13 q54) (bN 120 q55) (bN 120 q56) f57 (bN 120 q58) f59 f60 f64) ∧ va_S A s.heap H locs ∧ lv_has ls 7 [(0, .ref (ad 0)), (1, .int (nI a0)), (2, .int 0), (3, .int (nI u_23)), (4, .int (nI g_26)), (5, .int (nI g_34)), (6, .int (nI g_58))]) 181 ?_ (fun j_76 => ?_)
                · rintro H locs ls st ⟨g_73, rfl, hg_73, he_74, he_75, he_78, hP, hD, hS, hl⟩
                  rw [← he_78] at hsp
                  refine va_iast hx hb hK hP hD hS 10 9 rfl rfl (vp_in_nI (n := a0) (Nat.lt_of_le_of_lt ha0 (Nat.le_of_ble_eq_true rfl)) (Nat.le_of_ble_eq_true rfl)) dX9_readCondition_181 (fun H locs hP hD hS => ?_)
                  obtain ⟨q_79, eq_79, kq_79, xq_79⟩ := bH_upx q10 (i := a0) (v := g_73) (by omega) (by omega)
                  have hP : va_P (dC, dI) vwCl (mo_w ad ck x0 (nI x16) (nI x18) (nI x19) g_64 (nI g_65) (nI g_66) g_67 x24 x25 (nI g_42) g_43 0 (nI x29) (nI x30) (nI x33) x45 (nI x46) (nI x52) (nI x53) (nI x61) (nI x62) (nI x63) (nI x65) x66 f1 f2 f3 (bN 3 q4) (bN 7 q5) (bN 7 q6) (bN 4 q7) f8 (bN 2 q_10) (bH q_79) f11 (b2 m12_0 m12_1) (b2 m13_0 m13_1) (b2 m14_0 m14_1) (b2m m15_0 m15_1) f17 (bA 159 q31) f32 f34 f35 f36 f37 (bN 7 q38) f39 f40 f41 (b2 m42_0 m42_1) f43 f44 f47 f48 f49 f50 f51 (bN 13 q54) (bN 120 q55) (bN 120 q56) f57 (bN 120 q58) f59 f60 f64) H := by rw [← eq_79]; exact hP
                  have hD : va_D A (mo_w ad ck x0 (nI x16) (nI x18) (nI x19) g_64 (nI g_65) (nI g_66) g_67 x24 x25 (nI g_42) g_43 0 (nI x29) (nI x30) (nI x33) x45 (nI x46) (nI x52) (nI x53) (nI x61) (nI x62) (nI x63) (nI x65) x66 f1 f2 f3 (bN 3 q4) (bN 7 q5) (bN 7 q6) (bN 4 q7) f8 (bN 2 q_10) (bH q_79) f11 (b2 m12_0 m12_1) (b2 m13_0 m13_1) (b2 m14_0 m14_1) (b2m m15_0 m15_1) f17 (bA 159 q31) f32 f34 f35 f36 f37 (bN 7 q38) f39 f40 f41 (b2 m42_0 m42_1) f43 f44 f47 f48 f49 f50 f51 (bN 13 q54) (bN 120 q55) (bN 120 q56) f57 (bN 120 q58) f59 f60 f64) := by rw [← eq_79]; exact hD
                  have hsp := hsp.trans (slet_eq xq_79)
                  refine lv_aload_n hx hb dX9_readCondition_182 rfl (lv_at hl 0 rfl) ?_
                  refine va_get (D := (dC, dI)) (ci := 9) (v := .int (nI g_66)) (C := RX9) (T := TX9) (N := 67) hx hb hts hiX9 hown hK hP 0 rfl rfl 22 (by decide) v_24 (fun _ h9 => h9) rfl dX9_readCondition_183 ?_
                  refine lv_iconst (v := 2) hx hb dX9_readCondition_186 (by decide) ?_
                  obtain ⟨JR_85, hJR_85, hsp⟩ := slet_ex hsp
                  refine pu_join (fun H locs ls st => ∃ (g_80 : Nat) (g_81 : Int32), st = [] ∧ g_80 ≤ 6 ∧ mu g_65 g_66 ≤ mu x21 x22 ∧ (x22 = 0 ∨ mu g_65 g_66 < mu x21 x22) ∧ (g_80, g_81) = JR_85 ∧ va_P (dC, dI) vwCl (mo_w ad ck x0 (nI x16) (nI x18) (nI x19) g_64 (nI g_65) (nI g_66) g_67 x24 x25 (nI g_80) g_81 0 (nI x29) (nI x30) (nI x33) x45 (nI x46) (nI x52) (nI x53) (nI x61) (nI x62) (nI x63) (nI x65) x66 f1 f2 f3 (bN 3 q4) (bN 7 q5) (bN 7 q6) (bN 4 q7) f8 (bN 2 q_10) (bH q_79) f11 (b2 m12_0 m12_1) (b2 m13_0 m13_1) (b2 m14_0 m14_1) (b2m m15_0 m15_1) f17 (bA 159 q31) f32 f34 f35 f36 f37 (bN 7 q38) f39 f40 f41 (b2 m42_0 m42_1) f43 f44 f47 f48 f49 f50 f51 (bN 13 q54) (bN 120 q55) (bN 120 q56) f57 (bN 120 q58) f59 f60 f64) H ∧ va_D A (mo_w ad ck x0 (nI x16) (nI x18) (nI x19) g_64 (nI g_65) (nI g_66) g_67 x24 x25 (nI g_80) g_81 0 (nI x29) (nI x30) (nI x33) x45 (nI x46) (nI x52) (nI x53) (nI x61) (nI x62) (nI x63) (nI x65) x66 f1 f2 f3 (bN 3 q4) (bN 7 q5) (bN 7 q6) (bN 4 q7) f8 (bN 2 q_10) (bH q_79) f11 (b2 m12_0 m12_1) (b2 m13_0 m13_1) (b2 m14_0 m14_1) (b2m m15_0 m15_1) f17 (bA 159 q31) f32 f34 f35 f36 f37 (bN 7 q38) f39 f40 f41 (b2 m42_0 m42_1) f43 f44 f47 f48 f49 f50 f51 (bN 13 q54) (bN 120 q55) (bN 120 q56) f57 (bN 120 q58) f59 f60 f64) ∧ va_S A s.heap H locs ∧ lv_has ls 7 [(0, .ref (ad 0)), (1, .int (nI a0)), (2, .int 0), (3, .int (nI u_23)), (4, .int (nI g_26)), (5, .int (nI g_34)), (6, .int (nI g_58))]) 212 ?_ (fun j_84 => ?_)
                  · rintro H locs ls st ⟨g_80, g_81, rfl, hg_80, he_82, he_83, he_86, hP, hD, hS, hl⟩
                    rw [← he_86] at hsp
                    refine lv_aload_n hx hb dX9_readCondition_212 rfl (lv_at hl 0 rfl) ?_
                    refine va_get (D := (dC, dI)) (ci := 9) (v := .ref (ad 11)) (C := RX9) (T := TX9) (N := 67) hx hb hts hiX9 hown hK hP 0 rfl rfl 11 (by decide) v_26 (fun _ h9 => h9) rfl dX9_readCondition_213 ?_
                    refine lv_iload_n hx hb dX9_readCondition_216 rfl (lv_at hl 1 rfl) ?_
                    refine lv_aload_n hx hb dX9_readCondition_217 rfl (lv_at hl 0 rfl) ?_
                    refine va_get (D := (dC, dI)) (ci := 9) (v := .int g_67) (C := RX9) (T := TX9) (N := 67) hx hb hts hiX9 hown hK hP 0 rfl rfl 23 (by decide) v_25 (fun _ h9 => h9) rfl dX9_readCondition_218 ?_
                    refine va_iast hx hb hK hP hD hS 11 10 rfl rfl (vp_in_nI (n := a0) (Nat.lt_of_le_of_lt ha0 (Nat.le_of_ble_eq_true rfl)) (Nat.le_of_ble_eq_true rfl)) dX9_readCondition_221 (fun H locs hP hD hS => ?_)
                    obtain ⟨f_87, ef_87, xf_87⟩ := up_x f11 (n := a0) g_67 (Nat.lt_of_le_of_lt ha0 (Nat.le_of_ble_eq_true rfl))
                    have hP : va_P (dC, dI) vwCl (mo_w ad ck x0 (nI x16) (nI x18) (nI x19) g_64 (nI g_65) (nI g_66) g_67 x24 x25 (nI g_80) g_81 0 (nI x29) (nI x30) (nI x33) x45 (nI x46) (nI x52) (nI x53) (nI x61) (nI x62) (nI x63) (nI x65) x66 f1 f2 f3 (bN 3 q4) (bN 7 q5) (bN 7 q6) (bN 4 q7) f8 (bN 2 q_10) (bH q_79) f_87 (b2 m12_0 m12_1) (b2 m13_0 m13_1) (b2 m14_0 m14_1) (b2m m15_0 m15_1) f17 (bA 159 q31) f32 f34 f35 f36 f37 (bN 7 q38) f39 f40 f41 (b2 m42_0 m42_1) f43 f44 f47 f48 f49 f50 f51 (bN 13 q54) (bN 120 q55) (bN 120 q56) f57 (bN 120 q58) f59 f60 f64) H := by rw [← ef_87]; exact hP
                    have hD : va_D A (mo_w ad ck x0 (nI x16) (nI x18) (nI x19) g_64 (nI g_65) (nI g_66) g_67 x24 x25 (nI g_80) g_81 0 (nI x29) (nI x30) (nI x33) x45 (nI x46) (nI x52) (nI x53) (nI x61) (nI x62) (nI x63) (nI x65) x66 f1 f2 f3 (bN 3 q4) (bN 7 q5) (bN 7 q6) (bN 4 q7) f8 (bN 2 q_10) (bH q_79) f_87 (b2 m12_0 m12_1) (b2 m13_0 m13_1) (b2 m14_0 m14_1) (b2m m15_0 m15_1) f17 (bA 159 q31) f32 f34 f35 f36 f37 (bN 7 q38) f39 f40 f41 (b2 m42_0 m42_1) f43 f44 f47 f48 f49 f50 f51 (bN 13 q54) (bN 120 q55) (bN 120 q56) f57 (bN 120 q58) f59 f60 f64) := by rw [← ef_87]; exact hD
                    have hsp := hsp.trans (slet_eq xf_87)
                    refine lv_aload_n hx hb dX9_readCondition_222 rfl (lv_at hl 0 rfl) ?_
                    refine va_calli (va_runV (As := []) (rest := []) ⟨hx, hb, hml, hown, hts⟩ (c_EM_isGood l dC dI _ ad ck x0 x16 x18 x19 g_64 g_65 g_66 g_67 x24 x25 g_80 g_81 0 x29 x30 x33 x45 x46 x52 x53 x61 x62 x63 x65 x66 f1 f2 f3 q4 q5 q6 q7 f8 q_10 q_79 f_87 m12_0 m12_1 m13_0 m13_1 m14_0 m14_1 m15_0 m15_1 f17 q31 f32 f34 f35 f36 f37 q38 f39 f40 f41 m42_0 m42_1 f43 f44 f47 f48 f49 f50 f51 q54 q55 q56 f57 q58 f59 f60 f64 hx16 hx18 hx19 hg_65 hg_66 hg_80 (Nat.le_of_ble_eq_true rfl) hx29 hx30 hx33 hx46 hx52 hx53 hx61 hx62 hx63 hx65 hm12_0 hm12_1 hm13_0 hm13_1 hm14_0 hm14_1 hm15_0 hm15_1 hm42_0 hm42_1) (cwV 0 hts g_EM_readCondition0_0_EM_isGood rfl rfl rfl (by decide +kernel) ⟨Nat.le_of_ble_eq_true rfl, Nat.le_of_ble_eq_true rfl⟩) ⟨pu_bl, va_recv hK hP (ci := 9) (q0 := 0) rfl rfl, pu_in hP hK hD⟩ rfl rfl hl.1 rfl (lv_room (Nat.le_of_ble_eq_true rfl)) dX9_readCondition_223 ⟨Nat.le_of_ble_eq_true rfl, Nat.le_of_ble_eq_true rfl⟩) hS (fun q _ h => pu_fr hS hA q h) (pu_fr hS hA) (fun r_88 u t H1 locs ht hvm hw hB hz1 hk1 hS => ?_)
                    have hP := pu_keep hP hk1
                    clear hk1 hz1 ht hvm
                    generalize H1 = H at hP hS ⊢
                    obtain ⟨u_89, hu_89, rfl, ju_89, iu_89⟩ := hw
                    have hsp := hsp.trans (slet_eq iu_89)
                    refine lv_if_eq (tgt := 233) hx hb dX9_readCondition_226 (by decide) (fun c_90 => ?_) (fun c_90 => ?_)
                    · have c_90 : u_89 = 0 := (nI_eq (a := u_89) (b := 0) (Nat.lt_of_le_of_lt hu_89 (Nat.le_of_ble_eq_true rfl)) (Nat.le_of_ble_eq_true rfl)).mp c_90
                      have hsp := hsp.trans (if_pos c_90)
                      exact W.vret hx hb hr (fun t ht hW => ⟨⟨(), rfl, trivial, ⟨q_79, f_87, q_10, g_64, g_65, g_66, g_67, g_80, g_81, ⟨by rw [ht]; exact hP, va_K.moved hW.alike hK, hD⟩, hg_65, hg_66, hg_80, by omega, by omega, (hsp.symm.trans hRR)⟩⟩, hS.F ht⟩) hS.2.2 dX9_readCondition_233
                    · have c_90 : ¬ u_89 = 0 := fun z => c_90 ((nI_eq (a := u_89) (b := 0) (Nat.lt_of_le_of_lt hu_89 (Nat.le_of_ble_eq_true rfl)) (Nat.le_of_ble_eq_true rfl)).mpr z)
                      have hsp := hsp.trans (if_neg c_90)
                      refine lv_aload_n hx hb dX9_readCondition_229 rfl (lv_at hl 0 rfl) ?_
                      have hFc := pu_free hD hS hA
                      refine va_callv (va_runV (As := []) (rest := []) ⟨hx, hb, hml, hown, hts⟩ (c_EM_next l dC dI _ ad ck x0 x16 x18 x19 g_64 g_65 g_66 g_67 x24 x25 g_80 g_81 0 x29 x30 x33 x45 x46 x52 x53 x61 x62 x63 x65 x66 f1 f2 f3 q4 q5 q6 q7 f8 q_10 q_79 f_87 m12_0 m12_1 m13_0 m13_1 m14_0 m14_1 m15_0 m15_1 f17 q31 f32 f34 f35 f36 f37 q38 f39 f40 f41 m42_0 m42_1 f43 f44 f47 f48 f49 f50 f51 q54 q55 q56 f57 q58 f59 f60 f64 hx16 hx18 hx19 hg_65 hg_66 hg_80 (Nat.le_of_ble_eq_true rfl) hx29 hx30 hx33 hx46 hx52 hx53 hx61 hx62 hx63 hx65 hm12_0 hm12_1 hm13_0 hm13_1 hm14_0 hm14_1 hm15_0 hm15_1 hm42_0 hm42_1) (cwV 0 hts g_EM_readCondition0_0_EM_next rfl rfl rfl (by decide +kernel) ⟨Nat.le_of_ble_eq_true rfl, Nat.le_of_ble_eq_true rfl⟩) ⟨pu_bl, va_recv hK hP (ci := 9) (q0 := 0) rfl rfl, pu_in hP hK hD⟩ rfl rfl hl.1 rfl (lv_room (Nat.le_of_ble_eq_true rfl)) dX9_readCondition_230 ⟨Nat.le_of_ble_eq_true rfl, Nat.le_of_ble_eq_true rfl⟩) hS (fun q _ h => hFc q h) hFc (fun u t H1 locs ht hvm hw hB hz1 hk1 hS => ?_)
                      obtain ⟨z20_92, z21_93, z22_94, z23_95, ⟨hP1, -, hD1⟩, hz21_93, hz22_94, xr_91_0, xr_91_1, xr_91_2⟩ := hB
                      rw [ht] at hP1
                      have hP := hP1
                      have hD := pu_all hFc hD1
                      clear hP1 hD1 hFc
                      clear hk1 hz1 ht hvm
                      generalize H1 = H at hP hS ⊢
                      have hsp := hsp.trans (slet_eq xr_91_2)
                      exact W.vret hx hb hr (fun t ht hW => ⟨⟨(), rfl, trivial, ⟨q_79, f_87, q_10, z20_92, z21_93, z22_94, z23_95, g_80, g_81, ⟨by rw [ht]; exact hP, va_K.moved hW.alike hK, hD⟩, hz21_93, hz22_94, hg_80, by omega, by omega, (hsp.symm.trans hRR)⟩⟩, hS.F ht⟩) hS.2.2 dX9_readCondition_233
                  have hsp := hJR_85
                  refine lv_icmp_eq (tgt := 198) hx hb dX9_readCondition_187 (by decide) (fun c_96 => ?_) (fun c_96 => ?_)
                  · have c_96 : g_66 = 2 := (nI_eq (a := g_66) (b := 2) (Nat.lt_of_le_of_lt hg_66 (Nat.le_of_ble_eq_true rfl)) (Nat.le_of_ble_eq_true rfl)).mp c_96
                    have hsp := hsp.trans (if_pos c_96)
                    refine lv_aload_n hx hb dX9_readCondition_198 rfl (lv_at hl 0 rfl) ?_
                    refine va_get (D := (dC, dI)) (ci := 9) (v := .int g_67) (C := RX9) (T := TX9) (N := 67) hx hb hts hiX9 hown hK hP 0 rfl rfl 23 (by decide) v_25 (fun _ h9 => h9) rfl dX9_readCondition_199 ?_
                    refine lv_bipush (v := 20) hx hb dX9_readCondition_202 (by decide) ?_
                    refine lv_icmp_le (tgt := 212) hx hb dX9_readCondition_204 (by decide) (fun c_97 => ?_) (fun c_97 => ?_)
                    · have hcc_97 := c_97
                      have hsp := hsp.trans (if_pos c_97)
                      exact j_84 _ _ _ _ ⟨g_42, g_43, rfl, hg_42, by omega, by omega, hsp.symm, hP, hD, hS, lv_sub hl [0, 1, 2, 3, 4, 5, 6] rfl⟩
                    · have hcc_97 := c_97
                      have hsp := hsp.trans (if_neg c_97)
                      refine lv_aload_n hx hb dX9_readCondition_207 rfl (lv_at hl 0 rfl) ?_
                      refine lv_iconst (v := 4) hx hb dX9_readCondition_208 (by decide) ?_
                      have hFc := pu_free hD hS hA
                      refine va_callv (va_runV (As := [.int 4]) (rest := []) ⟨hx, hb, hml, hown, hts⟩ (c_EM_fails l dC dI _ ad ck x0 x16 x18 x19 g_64 g_65 g_66 g_67 x24 x25 g_42 g_43 0 x29 x30 x33 x45 x46 x52 x53 x61 x62 x63 x65 x66 f1 f2 f3 q4 q5 q6 q7 f8 q_10 q_79 f11 m12_0 m12_1 m13_0 m13_1 m14_0 m14_1 m15_0 m15_1 f17 q31 f32 f34 f35 f36 f37 q38 f39 f40 f41 m42_0 m42_1 f43 f44 f47 f48 f49 f50 f51 q54 q55 q56 f57 q58 f59 f60 f64 4 hx16 hx18 hx19 hg_65 hg_66 hg_42 (Nat.le_of_ble_eq_true rfl) hx29 hx30 hx33 hx46 hx52 hx53 hx61 hx62 hx63 hx65 hm12_0 hm12_1 hm13_0 hm13_1 hm14_0 hm14_1 hm15_0 hm15_1 hm42_0 hm42_1 (Nat.le_of_ble_eq_true rfl) (by omega)) (cwV 1 hts g_EM_readCondition0_0_EM_fails rfl rfl rfl (by decide +kernel) ⟨Nat.le_of_ble_eq_true rfl, Nat.le_of_ble_eq_true rfl⟩) ⟨pu_bl, va_recv hK hP (ci := 9) (q0 := 0) rfl rfl, pu_in hP hK hD⟩ rfl rfl hl.1 rfl (lv_room (Nat.le_of_ble_eq_true rfl)) dX9_readCondition_209 ⟨Nat.le_of_ble_eq_true rfl, Nat.le_of_ble_eq_true rfl⟩) hS (fun q _ h => hFc q h) hFc (fun u t H1 locs ht hvm hw hB hz1 hk1 hS => ?_)
                      obtain ⟨z26_99, z27_100, ⟨hP1, -, hD1⟩, hz26_99, xr_98_0, xr_98_1⟩ := hB
                      rw [ht] at hP1
                      have hP := hP1
                      have hD := pu_all hFc hD1
                      clear hP1 hD1 hFc
                      clear hk1 hz1 ht hvm
                      generalize H1 = H at hP hS ⊢
                      have hsp := hsp.trans (slet_eq xr_98_1)
                      exact j_84 _ _ _ _ ⟨z26_99, z27_100, rfl, hz26_99, by omega, by omega, hsp.symm, hP, hD, hS, lv_sub hl [0, 1, 2, 3, 4, 5, 6] rfl⟩
                  · have c_96 : ¬ g_66 = 2 := fun z => c_96 ((nI_eq (a := g_66) (b := 2) (Nat.lt_of_le_of_lt hg_66 (Nat.le_of_ble_eq_true rfl)) (Nat.le_of_ble_eq_true rfl)).mpr z)
                    have hsp := hsp.trans (if_neg c_96)
                    refine lv_aload_n hx hb dX9_readCondition_190 rfl (lv_at hl 0 rfl) ?_
                    refine lv_iconst (v := 2) hx hb dX9_readCondition_191 (by decide) ?_
                    have hFc := pu_free hD hS hA
                    refine va_callv (va_runV (As := [.int 2]) (rest := []) ⟨hx, hb, hml, hown, hts⟩ (c_EM_fails l dC dI _ ad ck x0 x16 x18 x19 g_64 g_65 g_66 g_67 x24 x25 g_42 g_43 0 x29 x30 x33 x45 x46 x52 x53 x61 x62 x63 x65 x66 f1 f2 f3 q4 q5 q6 q7 f8 q_10 q_79 f11 m12_0 m12_1 m13_0 m13_1 m14_0 m14_1 m15_0 m15_1 f17 q31 f32 f34 f35 f36 f37 q38 f39 f40 f41 m42_0 m42_1 f43 f44 f47 f48 f49 f50 f51 q54 q55 q56 f57 q58 f59 f60 f64 2 hx16 hx18 hx19 hg_65 hg_66 hg_42 (Nat.le_of_ble_eq_true rfl) hx29 hx30 hx33 hx46 hx52 hx53 hx61 hx62 hx63 hx65 hm12_0 hm12_1 hm13_0 hm13_1 hm14_0 hm14_1 hm15_0 hm15_1 hm42_0 hm42_1 (Nat.le_of_ble_eq_true rfl) (by omega)) (cwV 1 hts g_EM_readCondition0_0_EM_fails rfl rfl rfl (by decide +kernel) ⟨Nat.le_of_ble_eq_true rfl, Nat.le_of_ble_eq_true rfl⟩) ⟨pu_bl, va_recv hK hP (ci := 9) (q0 := 0) rfl rfl, pu_in hP hK hD⟩ rfl rfl hl.1 rfl (lv_room (Nat.le_of_ble_eq_true rfl)) dX9_readCondition_192 ⟨Nat.le_of_ble_eq_true rfl, Nat.le_of_ble_eq_true rfl⟩) hS (fun q _ h => hFc q h) hFc (fun u t H1 locs ht hvm hw hB hz1 hk1 hS => ?_)
                    obtain ⟨z26_102, z27_103, ⟨hP1, -, hD1⟩, hz26_102, xr_101_0, xr_101_1⟩ := hB
                    rw [ht] at hP1
                    have hP := hP1
                    have hD := pu_all hFc hD1
                    clear hP1 hD1 hFc
                    clear hk1 hz1 ht hvm
                    generalize H1 = H at hP hS ⊢
                    have hsp := hsp.trans (slet_eq xr_101_1)
                    refine lv_goto (tgt := 212) hx hb dX9_readCondition_195 (by decide) ?_
                    exact j_84 _ _ _ _ ⟨z26_102, z27_103, rfl, hz26_102, by omega, by omega, hsp.symm, hP, hD, hS, lv_sub hl [0, 1, 2, 3, 4, 5, 6] rfl⟩
                have hsp := hJR_77
                refine lv_if_eq (tgt := 154) hx hb dX9_readCondition_147 (by decide) (fun c_104 => ?_) (fun c_104 => ?_)
                · have c_104 : g_34 = 0 := (nI_eq (a := g_34) (b := 0) (Nat.lt_of_le_of_lt hg_34 (Nat.le_of_ble_eq_true rfl)) (Nat.le_of_ble_eq_true rfl)).mp c_104
                  have hsp := hsp.trans (if_pos c_104)
                  refine lv_iload_n hx hb dX9_readCondition_154 rfl (lv_at hl 3 rfl) ?_
                  refine lv_if_eq (tgt := 171) hx hb dX9_readCondition_155 (by decide) (fun c_105 => ?_) (fun c_105 => ?_)
                  · have c_105 : u_23 = 0 := (nI_eq (a := u_23) (b := 0) (Nat.lt_of_le_of_lt hu_23 (Nat.le_of_ble_eq_true rfl)) (Nat.le_of_ble_eq_true rfl)).mp c_105
                    have hsp := hsp.trans (if_pos c_105)
                    refine lv_iload hx hb dX9_readCondition_171 (lv_at hl 6 rfl) ?_
                    refine lv_if_eq (tgt := 180) hx hb dX9_readCondition_173 (by decide) (fun c_106 => ?_) (fun c_106 => ?_)
                    · have c_106 : g_58 = 0 := (nI_eq (a := g_58) (b := 0) (Nat.lt_of_le_of_lt hg_58 (Nat.le_of_ble_eq_true rfl)) (Nat.le_of_ble_eq_true rfl)).mp c_106
                      have hsp := hsp.trans (if_pos c_106)
                      refine lv_iconst (v := 4) hx hb dX9_readCondition_180 (by decide) ?_
                      exact j_76 _ _ _ _ ⟨4, rfl, (Nat.le_of_ble_eq_true rfl), by omega, by omega, hsp.symm, hP, hD, hS, lv_sub hl [0, 1, 2, 3, 4, 5, 6] rfl⟩
                    · have c_106 : ¬ g_58 = 0 := fun z => c_106 ((nI_eq (a := g_58) (b := 0) (Nat.lt_of_le_of_lt hg_58 (Nat.le_of_ble_eq_true rfl)) (Nat.le_of_ble_eq_true rfl)).mpr z)
                      have hsp := hsp.trans (if_neg c_106)
                      refine lv_iconst (v := 3) hx hb dX9_readCondition_176 (by decide) ?_
                      refine lv_goto (tgt := 181) hx hb dX9_readCondition_177 (by decide) ?_
                      exact j_76 _ _ _ _ ⟨3, rfl, (Nat.le_of_ble_eq_true rfl), by omega, by omega, hsp.symm, hP, hD, hS, lv_sub hl [0, 1, 2, 3, 4, 5, 6] rfl⟩
                  · have c_105 : ¬ u_23 = 0 := fun z => c_105 ((nI_eq (a := u_23) (b := 0) (Nat.lt_of_le_of_lt hu_23 (Nat.le_of_ble_eq_true rfl)) (Nat.le_of_ble_eq_true rfl)).mpr z)
                    have hsp := hsp.trans (if_neg c_105)
                    refine lv_iload hx hb dX9_readCondition_158 (lv_at hl 6 rfl) ?_
                    refine lv_if_eq (tgt := 167) hx hb dX9_readCondition_160 (by decide) (fun c_107 => ?_) (fun c_107 => ?_)
                    · have c_107 : g_58 = 0 := (nI_eq (a := g_58) (b := 0) (Nat.lt_of_le_of_lt hg_58 (Nat.le_of_ble_eq_true rfl)) (Nat.le_of_ble_eq_true rfl)).mp c_107
                      have hsp := hsp.trans (if_pos c_107)
                      refine lv_iconst (v := 0) hx hb dX9_readCondition_167 (by decide) ?_
                      refine lv_goto (tgt := 181) hx hb dX9_readCondition_168 (by decide) ?_
                      exact j_76 _ _ _ _ ⟨0, rfl, (Nat.le_of_ble_eq_true rfl), by omega, by omega, hsp.symm, hP, hD, hS, lv_sub hl [0, 1, 2, 3, 4, 5, 6] rfl⟩
                    · have c_107 : ¬ g_58 = 0 := fun z => c_107 ((nI_eq (a := g_58) (b := 0) (Nat.lt_of_le_of_lt hg_58 (Nat.le_of_ble_eq_true rfl)) (Nat.le_of_ble_eq_true rfl)).mpr z)
                      have hsp := hsp.trans (if_neg c_107)
                      refine lv_iconst (v := 1) hx hb dX9_readCondition_163 (by decide) ?_
                      refine lv_goto (tgt := 181) hx hb dX9_readCondition_164 (by decide) ?_
                      exact j_76 _ _ _ _ ⟨1, rfl, (Nat.le_of_ble_eq_true rfl), by omega, by omega, hsp.symm, hP, hD, hS, lv_sub hl [0, 1, 2, 3, 4, 5, 6] rfl⟩
                · have c_104 : ¬ g_34 = 0 := fun z => c_104 ((nI_eq (a := g_34) (b := 0) (Nat.lt_of_le_of_lt hg_34 (Nat.le_of_ble_eq_true rfl)) (Nat.le_of_ble_eq_true rfl)).mpr z)
                  have hsp := hsp.trans (if_neg c_104)
                  refine lv_iconst (v := 2) hx hb dX9_readCondition_150 (by decide) ?_
                  refine lv_goto (tgt := 181) hx hb dX9_readCondition_151 (by decide) ?_
                  exact j_76 _ _ _ _ ⟨2, rfl, (Nat.le_of_ble_eq_true rfl), by omega, by omega, hsp.symm, hP, hD, hS, lv_sub hl [0, 1, 2, 3, 4, 5, 6] rfl⟩
              have hsp := hJR_71
              refine lv_if_eq (tgt := 140) hx hb dX9_readCondition_133 (by decide) (fun c_108 => ?_) (fun c_108 => ?_)
              · have c_108 : g_58 = 0 := (nI_eq (a := g_58) (b := 0) (Nat.lt_of_le_of_lt hg_58 (Nat.le_of_ble_eq_true rfl)) (Nat.le_of_ble_eq_true rfl)).mp c_108
                have hsp := hsp.trans (if_pos c_108)
                exact j_70 _ _ _ _ ⟨z20_54, z21_55, z22_56, z23_57, rfl, hz21_55, hz22_56, by omega, by omega, hsp.symm, hP, hD, hS, lv_sub hl [1, 2, 3, 4, 5, 6, 0] rfl⟩
              · have c_108 : ¬ g_58 = 0 := fun z => c_108 ((nI_eq (a := g_58) (b := 0) (Nat.lt_of_le_of_lt hg_58 (Nat.le_of_ble_eq_true rfl)) (Nat.le_of_ble_eq_true rfl)).mpr z)
                have hsp := hsp.trans (if_neg c_108)
                refine lv_aload_n hx hb dX9_readCondition_136 rfl (lv_at hl 1 rfl) ?_
                have hFc := pu_free hD hS hA
                refine va_callv (va_runV (As := []) (rest := []) ⟨hx, hb, hml, hown, hts⟩ (c_EM_next l dC dI _ ad ck x0 x16 x18 x19 z20_54 z21_55 z22_56 z23_57 x24 x25 g_42 g_43 0 x29 x30 x33 x45 x46 x52 x53 x61 x62 x63 x65 x66 f1 f2 f3 q4 q5 q6 q7 f8 q_10 q10 f11 m12_0 m12_1 m13_0 m13_1 m14_0 m14_1 m15_0 m15_1 f17 q31 f32 f34 f35 f36 f37 q38 f39 f40 f41 m42_0 m42_1 f43 f44 f47 f48 f49 f50 f51 q54 q55 q56 f57 q58 f59 f60 f64 hx16 hx18 hx19 hz21_55 hz22_56 hg_42 (Nat.le_of_ble_eq_true rfl) hx29 hx30 hx33 hx46 hx52 hx53 hx61 hx62 hx63 hx65 hm12_0 hm12_1 hm13_0 hm13_1 hm14_0 hm14_1 hm15_0 hm15_1 hm42_0 hm42_1) (cwV 0 hts g_EM_readCondition0_0_EM_next rfl rfl rfl (by decide +kernel) ⟨Nat.le_of_ble_eq_true rfl, Nat.le_of_ble_eq_true rfl⟩) ⟨pu_bl, va_recv hK hP (ci := 9) (q0 := 0) rfl rfl, pu_in hP hK hD⟩ rfl rfl hl.1 rfl (lv_room (Nat.le_of_ble_eq_true rfl)) dX9_readCondition_137 ⟨Nat.le_of_ble_eq_true rfl, Nat.le_of_ble_eq_true rfl⟩) hS (fun q _ h => hFc q h) hFc (fun u t H1 locs ht hvm hw hB hz1 hk1 hS => ?_)
                obtain ⟨z20_110, z21_111, z22_112, z23_113, ⟨hP1, -, hD1⟩, hz21_111, hz22_112, xr_109_0, xr_109_1, xr_109_2⟩ := hB
                rw [ht] at hP1
                have hP := hP1
                have hD := pu_all hFc hD1
                clear hP1 hD1 hFc
                clear hk1 hz1 ht hvm
                generalize H1 = H at hP hS ⊢
                have hsp := hsp.trans (slet_eq xr_109_2)
                exact j_70 _ _ _ _ ⟨z20_110, z21_111, z22_112, z23_113, rfl, hz21_111, hz22_112, by omega, by omega, hsp.symm, hP, hD, hS, lv_sub hl [1, 2, 3, 4, 5, 6, 0] rfl⟩
            have hsp := hJR_62
            refine lv_if_ne (tgt := 128) hx hb dX9_readCondition_112 (by decide) (fun c_114 => ?_) (fun c_114 => ?_)
            · have c_114 : ¬ g_34 = 0 := fun z => c_114 ((nI_eq (a := g_34) (b := 0) (Nat.lt_of_le_of_lt hg_34 (Nat.le_of_ble_eq_true rfl)) (Nat.le_of_ble_eq_true rfl)).mpr z)
              have hsp := hsp.trans (if_neg c_114)
              refine lv_iconst (v := 0) hx hb dX9_readCondition_128 (by decide) ?_
              exact j_61 _ _ _ _ ⟨0, rfl, (Nat.le_of_ble_eq_true rfl), by omega, by omega, hsp.symm, hP, hD, hS, lv_sub hl [0, 1, 2, 3, 4, 5] rfl⟩
            · have c_114 : g_34 = 0 := (nI_eq (a := g_34) (b := 0) (Nat.lt_of_le_of_lt hg_34 (Nat.le_of_ble_eq_true rfl)) (Nat.le_of_ble_eq_true rfl)).mp c_114
              have hsp := hsp.trans (if_pos c_114)
              refine lv_aload_n hx hb dX9_readCondition_115 rfl (lv_at hl 0 rfl) ?_
              refine lv_bipush (v := 61) hx hb dX9_readCondition_116 (by decide) ?_
              refine va_calli (va_runV (As := [.int 61]) (rest := []) ⟨hx, hb, hml, hown, hts⟩ (c_EM_isSign l dC dI _ ad ck x0 x16 x18 x19 z20_54 z21_55 z22_56 z23_57 x24 x25 g_42 g_43 0 x29 x30 x33 x45 x46 x52 x53 x61 x62 x63 x65 x66 f1 f2 f3 q4 q5 q6 q7 f8 q_10 q10 f11 m12_0 m12_1 m13_0 m13_1 m14_0 m14_1 m15_0 m15_1 f17 q31 f32 f34 f35 f36 f37 q38 f39 f40 f41 m42_0 m42_1 f43 f44 f47 f48 f49 f50 f51 q54 q55 q56 f57 q58 f59 f60 f64 61 hx16 hx18 hx19 hz21_55 hz22_56 hg_42 (Nat.le_of_ble_eq_true rfl) hx29 hx30 hx33 hx46 hx52 hx53 hx61 hx62 hx63 hx65 hm12_0 hm12_1 hm13_0 hm13_1 hm14_0 hm14_1 hm15_0 hm15_1 hm42_0 hm42_1) (cwV 1 hts g_EM_readCondition0_0_EM_isSign rfl rfl rfl (by decide +kernel) ⟨Nat.le_of_ble_eq_true rfl, Nat.le_of_ble_eq_true rfl⟩) ⟨pu_bl, va_recv hK hP (ci := 9) (q0 := 0) rfl rfl, pu_in hP hK hD⟩ rfl rfl hl.1 rfl (lv_room (Nat.le_of_ble_eq_true rfl)) dX9_readCondition_118 ⟨Nat.le_of_ble_eq_true rfl, Nat.le_of_ble_eq_true rfl⟩) hS (fun q _ h => pu_fr hS hA q h) (pu_fr hS hA) (fun r_115 u t H1 locs ht hvm hw hB hz1 hk1 hS => ?_)
              have hP := pu_keep hP hk1
              clear hk1 hz1 ht hvm
              generalize H1 = H at hP hS ⊢
              obtain ⟨u_116, hu_116, rfl, ju_116, iu_116⟩ := hw
              have hsp := hsp.trans (slet_eq iu_116)
              refine lv_if_eq (tgt := 128) hx hb dX9_readCondition_121 (by decide) (fun c_117 => ?_) (fun c_117 => ?_)
              · have c_117 : u_116 = 0 := (nI_eq (a := u_116) (b := 0) (Nat.lt_of_le_of_lt hu_116 (Nat.le_of_ble_eq_true rfl)) (Nat.le_of_ble_eq_true rfl)).mp c_117
                have hsp := hsp.trans (if_pos c_117)
                refine lv_iconst (v := 0) hx hb dX9_readCondition_128 (by decide) ?_
                exact j_61 _ _ _ _ ⟨0, rfl, (Nat.le_of_ble_eq_true rfl), by omega, by omega, hsp.symm, hP, hD, hS, lv_sub hl [0, 1, 2, 3, 4, 5] rfl⟩
              · have c_117 : ¬ u_116 = 0 := fun z => c_117 ((nI_eq (a := u_116) (b := 0) (Nat.lt_of_le_of_lt hu_116 (Nat.le_of_ble_eq_true rfl)) (Nat.le_of_ble_eq_true rfl)).mpr z)
                have hsp := hsp.trans (if_neg c_117)
                refine lv_iconst (v := 1) hx hb dX9_readCondition_124 (by decide) ?_
                refine lv_goto (tgt := 129) hx hb dX9_readCondition_125 (by decide) ?_
                exact j_61 _ _ _ _ ⟨1, rfl, (Nat.le_of_ble_eq_true rfl), by omega, by omega, hsp.symm, hP, hD, hS, lv_sub hl [0, 1, 2, 3, 4, 5] rfl⟩
          · have c_52 : u_51 = 0 := (nI_eq (a := u_51) (b := 0) (Nat.lt_of_le_of_lt hu_51 (Nat.le_of_ble_eq_true rfl)) (Nat.le_of_ble_eq_true rfl)).mp c_52
            have hsp := hsp.trans (if_pos c_52)
            exact W.vret hx hb hr (fun t ht hW => ⟨⟨(), rfl, trivial, ⟨q10, f11, q_10, g_13, g_14, g_15, g_16, g_42, g_43, ⟨by rw [ht]; exact hP, va_K.moved hW.alike hK, hD⟩, hg_14, hg_15, hg_42, by omega, by omega, (hsp.symm.trans hRR)⟩⟩, hS.F ht⟩) hS.2.2 dX9_readCondition_105
        have hsp := hJR_48
        refine lv_if_eq (tgt := 98) hx hb dX9_readCondition_76 (by decide) (fun c_118 => ?_) (fun c_118 => ?_)
        · have c_118 : u_41 = 0 := (nI_eq (a := u_41) (b := 0) (Nat.lt_of_le_of_lt hu_41 (Nat.le_of_ble_eq_true rfl)) (Nat.le_of_ble_eq_true rfl)).mp c_118
          have hsp := hsp.trans (if_pos c_118)
          exact j_47 _ _ _ _ ⟨z26_7, z27_8, rfl, hz26_7, by omega, by omega, by omega, hsp.symm, hP, hD, hS, lv_sub hl [1, 2, 3, 4, 5, 0] rfl⟩
        · have c_118 : ¬ u_41 = 0 := fun z => c_118 ((nI_eq (a := u_41) (b := 0) (Nat.lt_of_le_of_lt hu_41 (Nat.le_of_ble_eq_true rfl)) (Nat.le_of_ble_eq_true rfl)).mpr z)
          have hsp := hsp.trans (if_neg c_118)
          refine lv_iload_n hx hb dX9_readCondition_79 rfl (lv_at hl 4 rfl) ?_
          refine lv_if_ne (tgt := 98) hx hb dX9_readCondition_80 (by decide) (fun c_119 => ?_) (fun c_119 => ?_)
          · have c_119 : ¬ u_23 = 0 := fun z => c_119 ((nI_eq (a := u_23) (b := 0) (Nat.lt_of_le_of_lt hu_23 (Nat.le_of_ble_eq_true rfl)) (Nat.le_of_ble_eq_true rfl)).mpr z)
            have hsp := hsp.trans (if_neg c_119)
            exact j_47 _ _ _ _ ⟨z26_7, z27_8, rfl, hz26_7, by omega, by omega, by omega, hsp.symm, hP, hD, hS, lv_sub hl [1, 2, 3, 4, 5, 0] rfl⟩
          · have c_119 : u_23 = 0 := (nI_eq (a := u_23) (b := 0) (Nat.lt_of_le_of_lt hu_23 (Nat.le_of_ble_eq_true rfl)) (Nat.le_of_ble_eq_true rfl)).mp c_119
            have hsp := hsp.trans (if_pos c_119)
            refine lv_iload hx hb dX9_readCondition_83 (lv_at hl 5 rfl) ?_
            refine lv_if_ne (tgt := 98) hx hb dX9_readCondition_85 (by decide) (fun c_120 => ?_) (fun c_120 => ?_)
            · have c_120 : ¬ g_26 = 0 := fun z => c_120 ((nI_eq (a := g_26) (b := 0) (Nat.lt_of_le_of_lt hg_26 (Nat.le_of_ble_eq_true rfl)) (Nat.le_of_ble_eq_true rfl)).mpr z)
              have hsp := hsp.trans (if_neg c_120)
              exact j_47 _ _ _ _ ⟨z26_7, z27_8, rfl, hz26_7, by omega, by omega, by omega, hsp.symm, hP, hD, hS, lv_sub hl [1, 2, 3, 4, 5, 0] rfl⟩
            · have c_120 : g_26 = 0 := (nI_eq (a := g_26) (b := 0) (Nat.lt_of_le_of_lt hg_26 (Nat.le_of_ble_eq_true rfl)) (Nat.le_of_ble_eq_true rfl)).mp c_120
              have hsp := hsp.trans (if_pos c_120)
              refine lv_iload hx hb dX9_readCondition_88 (lv_at hl 0 rfl) ?_
              refine lv_if_ne (tgt := 98) hx hb dX9_readCondition_90 (by decide) (fun c_121 => ?_) (fun c_121 => ?_)
              · have c_121 : ¬ g_34 = 0 := fun z => c_121 ((nI_eq (a := g_34) (b := 0) (Nat.lt_of_le_of_lt hg_34 (Nat.le_of_ble_eq_true rfl)) (Nat.le_of_ble_eq_true rfl)).mpr z)
                have hsp := hsp.trans (if_neg c_121)
                exact j_47 _ _ _ _ ⟨z26_7, z27_8, rfl, hz26_7, by omega, by omega, by omega, hsp.symm, hP, hD, hS, lv_sub hl [1, 2, 3, 4, 5, 0] rfl⟩
              · have c_121 : g_34 = 0 := (nI_eq (a := g_34) (b := 0) (Nat.lt_of_le_of_lt hg_34 (Nat.le_of_ble_eq_true rfl)) (Nat.le_of_ble_eq_true rfl)).mp c_121
                have hsp := hsp.trans (if_pos c_121)
                refine lv_aload_n hx hb dX9_readCondition_93 rfl (lv_at hl 1 rfl) ?_
                refine lv_iconst (v := 2) hx hb dX9_readCondition_94 (by decide) ?_
                have hFc := pu_free hD hS hA
                refine va_callv (va_runV (As := [.int 2]) (rest := []) ⟨hx, hb, hml, hown, hts⟩ (c_EM_fails l dC dI _ ad ck x0 x16 x18 x19 g_13 g_14 g_15 g_16 x24 x25 z26_7 z27_8 0 x29 x30 x33 x45 x46 x52 x53 x61 x62 x63 x65 x66 f1 f2 f3 q4 q5 q6 q7 f8 q_10 q10 f11 m12_0 m12_1 m13_0 m13_1 m14_0 m14_1 m15_0 m15_1 f17 q31 f32 f34 f35 f36 f37 q38 f39 f40 f41 m42_0 m42_1 f43 f44 f47 f48 f49 f50 f51 q54 q55 q56 f57 q58 f59 f60 f64 2 hx16 hx18 hx19 hg_14 hg_15 hz26_7 (Nat.le_of_ble_eq_true rfl) hx29 hx30 hx33 hx46 hx52 hx53 hx61 hx62 hx63 hx65 hm12_0 hm12_1 hm13_0 hm13_1 hm14_0 hm14_1 hm15_0 hm15_1 hm42_0 hm42_1 (Nat.le_of_ble_eq_true rfl) (by omega)) (cwV 1 hts g_EM_readCondition0_0_EM_fails rfl rfl rfl (by decide +kernel) ⟨Nat.le_of_ble_eq_true rfl, Nat.le_of_ble_eq_true rfl⟩) ⟨pu_bl, va_recv hK hP (ci := 9) (q0 := 0) rfl rfl, pu_in hP hK hD⟩ rfl rfl hl.1 rfl (lv_room (Nat.le_of_ble_eq_true rfl)) dX9_readCondition_95 ⟨Nat.le_of_ble_eq_true rfl, Nat.le_of_ble_eq_true rfl⟩) hS (fun q _ h => hFc q h) hFc (fun u t H1 locs ht hvm hw hB hz1 hk1 hS => ?_)
                obtain ⟨z26_123, z27_124, ⟨hP1, -, hD1⟩, hz26_123, xr_122_0, xr_122_1⟩ := hB
                rw [ht] at hP1
                have hP := hP1
                have hD := pu_all hFc hD1
                clear hP1 hD1 hFc
                clear hk1 hz1 ht hvm
                generalize H1 = H at hP hS ⊢
                have hsp := hsp.trans (slet_eq xr_122_1)
                exact j_47 _ _ _ _ ⟨z26_123, z27_124, rfl, hz26_123, by omega, by omega, by omega, hsp.symm, hP, hD, hS, lv_sub hl [1, 2, 3, 4, 5, 0] rfl⟩
      have hsp := hJR_38
      refine lv_if_eq (tgt := 69) hx hb dX9_readCondition_58 (by decide) (fun c_125 => ?_) (fun c_125 => ?_)
      · have c_125 : u_33 = 0 := (nI_eq (a := u_33) (b := 0) (Nat.lt_of_le_of_lt hu_33 (Nat.le_of_ble_eq_true rfl)) (Nat.le_of_ble_eq_true rfl)).mp c_125
        have hsp := hsp.trans (if_pos c_125)
        refine lv_iconst (v := 0) hx hb dX9_readCondition_69 (by decide) ?_
        exact j_37 _ _ _ _ ⟨0, rfl, (Nat.le_of_ble_eq_true rfl), by omega, by omega, hsp.symm, hP, hD, hS, lv_sub hl [1, 2, 3, 4, 0] rfl⟩
      · have c_125 : ¬ u_33 = 0 := fun z => c_125 ((nI_eq (a := u_33) (b := 0) (Nat.lt_of_le_of_lt hu_33 (Nat.le_of_ble_eq_true rfl)) (Nat.le_of_ble_eq_true rfl)).mpr z)
        have hsp := hsp.trans (if_neg c_125)
        refine lv_iload_n hx hb dX9_readCondition_61 rfl (lv_at hl 3 rfl) ?_
        refine lv_if_ne (tgt := 69) hx hb dX9_readCondition_62 (by decide) (fun z => absurd z (by decide)) (fun _ => ?_)
        refine lv_iconst (v := 1) hx hb dX9_readCondition_65 (by decide) ?_
        refine lv_goto (tgt := 70) hx hb dX9_readCondition_66 (by decide) ?_
        exact j_37 _ _ _ _ ⟨1, rfl, (Nat.le_of_ble_eq_true rfl), by omega, by omega, hsp.symm, hP, hD, hS, lv_sub hl [1, 2, 3, 4, 0] rfl⟩
    have hsp := hJR_30
    refine lv_if_eq (tgt := 49) hx hb dX9_readCondition_38 (by decide) (fun c_126 => ?_) (fun c_126 => ?_)
    · have c_126 : u_25 = 0 := (nI_eq (a := u_25) (b := 0) (Nat.lt_of_le_of_lt hu_25 (Nat.le_of_ble_eq_true rfl)) (Nat.le_of_ble_eq_true rfl)).mp c_126
      have hsp := hsp.trans (if_pos c_126)
      refine lv_iconst (v := 0) hx hb dX9_readCondition_49 (by decide) ?_
      exact j_29 _ _ _ _ ⟨0, rfl, (Nat.le_of_ble_eq_true rfl), by omega, by omega, hsp.symm, hP, hD, hS, lv_sub hl [1, 2, 3, 0] rfl⟩
    · have c_126 : ¬ u_25 = 0 := fun z => c_126 ((nI_eq (a := u_25) (b := 0) (Nat.lt_of_le_of_lt hu_25 (Nat.le_of_ble_eq_true rfl)) (Nat.le_of_ble_eq_true rfl)).mpr z)
      have hsp := hsp.trans (if_neg c_126)
      refine lv_iload_n hx hb dX9_readCondition_41 rfl (lv_at hl 3 rfl) ?_
      refine lv_if_ne (tgt := 49) hx hb dX9_readCondition_42 (by decide) (fun z => absurd z (by decide)) (fun _ => ?_)
      refine lv_iconst (v := 1) hx hb dX9_readCondition_45 (by decide) ?_
      refine lv_goto (tgt := 50) hx hb dX9_readCondition_46 (by decide) ?_
      exact j_29 _ _ _ _ ⟨1, rfl, (Nat.le_of_ble_eq_true rfl), by omega, by omega, hsp.symm, hP, hD, hS, lv_sub hl [1, 2, 3, 0] rfl⟩
  have hsp := hJR_20
  refine lv_if_eq (tgt := 25) hx hb dX9_readCondition_18 (by decide) (fun c_127 => ?_) (fun c_127 => ?_)
  · have c_127 : u_12 = 0 := (nI_eq (a := u_12) (b := 0) (Nat.lt_of_le_of_lt hu_12 (Nat.le_of_ble_eq_true rfl)) (Nat.le_of_ble_eq_true rfl)).mp c_127
    have hsp := hsp.trans (if_pos c_127)
    exact j_19 _ _ _ _ ⟨z20_2, z21_3, z22_4, z23_5, rfl, hz21_3, hz22_4, by omega, by omega, hsp.symm, hP, hD, hS, lv_sub hl [0, 1, 2] rfl⟩
  · have c_127 : ¬ u_12 = 0 := fun z => c_127 ((nI_eq (a := u_12) (b := 0) (Nat.lt_of_le_of_lt hu_12 (Nat.le_of_ble_eq_true rfl)) (Nat.le_of_ble_eq_true rfl)).mpr z)
    have hsp := hsp.trans (if_neg c_127)
    refine lv_aload_n hx hb dX9_readCondition_21 rfl (lv_at hl 0 rfl) ?_
    have hFc := pu_free hD hS hA
    refine va_callv (va_runV (As := []) (rest := []) ⟨hx, hb, hml, hown, hts⟩ (c_EM_next l dC dI _ ad ck x0 x16 x18 x19 z20_2 z21_3 z22_4 z23_5 x24 x25 z26_7 z27_8 0 x29 x30 x33 x45 x46 x52 x53 x61 x62 x63 x65 x66 f1 f2 f3 q4 q5 q6 q7 f8 q_10 q10 f11 m12_0 m12_1 m13_0 m13_1 m14_0 m14_1 m15_0 m15_1 f17 q31 f32 f34 f35 f36 f37 q38 f39 f40 f41 m42_0 m42_1 f43 f44 f47 f48 f49 f50 f51 q54 q55 q56 f57 q58 f59 f60 f64 hx16 hx18 hx19 hz21_3 hz22_4 hz26_7 (Nat.le_of_ble_eq_true rfl) hx29 hx30 hx33 hx46 hx52 hx53 hx61 hx62 hx63 hx65 hm12_0 hm12_1 hm13_0 hm13_1 hm14_0 hm14_1 hm15_0 hm15_1 hm42_0 hm42_1) (cwV 0 hts g_EM_readCondition0_0_EM_next rfl rfl rfl (by decide +kernel) ⟨Nat.le_of_ble_eq_true rfl, Nat.le_of_ble_eq_true rfl⟩) ⟨pu_bl, va_recv hK hP (ci := 9) (q0 := 0) rfl rfl, pu_in hP hK hD⟩ rfl rfl hl.1 rfl (lv_room (Nat.le_of_ble_eq_true rfl)) dX9_readCondition_22 ⟨Nat.le_of_ble_eq_true rfl, Nat.le_of_ble_eq_true rfl⟩) hS (fun q _ h => hFc q h) hFc (fun u t H1 locs ht hvm hw hB hz1 hk1 hS => ?_)
    obtain ⟨z20_129, z21_130, z22_131, z23_132, ⟨hP1, -, hD1⟩, hz21_130, hz22_131, xr_128_0, xr_128_1, xr_128_2⟩ := hB
    rw [ht] at hP1
    have hP := hP1
    have hD := pu_all hFc hD1
    clear hP1 hD1 hFc
    clear hk1 hz1 ht hvm
    generalize H1 = H at hP hS ⊢
    have hsp := hsp.trans (slet_eq xr_128_2)
    exact j_19 _ _ _ _ ⟨z20_129, z21_130, z22_131, z23_132, rfl, hz21_130, hz22_131, by omega, by omega, hsp.symm, hP, hD, hS, lv_sub hl [0, 1, 2] rfl⟩
abbrev vs_EM_readCondition1_0 : List Cond := .code yX9_readCondition cX9_readCondition 7 none :: VM
theorem g_EM_readCondition1_0_EM_next : GoodIn vs_EM_readCondition1_0 (wsV RX9 226 RX9 yX9_next vs_EM_next) := gm_V vm_75 vm_76 vm_77 vm_19 vm_78
theorem g_EM_readCondition1_0_EM_toldClock_0 : GoodIn vs_EM_readCondition1_0 (wsV RX9 232 RX9 yX9_toldClock vs_EM_toldClock_0) := gm_V vm_90 vm_91 vm_92 vm_19 vm_93
theorem g_EM_readCondition1_0_EM_isGood : GoodIn vs_EM_readCondition1_0 (wsV RX9 216 RX9 yX9_isGood vs_EM_isGood) := gm_V vm_71 vm_72 vm_73 vm_19 vm_74
theorem g_EM_readCondition1_0_EM_isSign : GoodIn vs_EM_readCondition1_0 (wsV RX9 235 RX9 yX9_isSign vs_EM_isSign) := gm_V vm_94 vm_95 vm_96 vm_19 vm_97
theorem g_EM_readCondition1_0_EM_fails : GoodIn vs_EM_readCondition1_0 (wsV RX9 210 RX9 yX9_fails vs_EM_fails) := gm_V vm_29 vm_30 vm_31 vm_19 vm_32
noncomputable def sp_EM_readCondition1_0 (x19 : Nat) (x21 : Nat) (x26 : Nat) (x27 : Int32) (f1 : Nat → Int32) (q9 : Nat → Nat) (q10 : Nat → Nat) (f11 : Nat → Int32) (m12_0 : Nat) (f17 : Nat → Int32) (a0 : Nat) : (Nat → Nat) × (Nat → Int32) × (Nat → Nat) × Int32 × Nat × Nat × Int32 × Nat × Int32 := (slet (sp_EM_next x19 x21 f17) (fun (z20_2, z21_3, z22_4, z23_5) => (slet (sp_EM_toldClock_0 z20_2 z22_4 z23_5 x26 x27 f1 m12_0) (fun (u_9, z26_7, z27_8) => (slet (updN q9 a0 u_9) (fun q_10 => (slet (sp_EM_isGood z26_7) (fun u_12 => (slet (α := Int32 × Nat × Nat × Int32) (if u_12 = 0 then (z20_2, z21_3, z22_4, z23_5) else (slet (sp_EM_next x19 z21_3 f17) (fun (z20_122, z21_123, z22_124, z23_125) => (z20_122, z21_123, z22_124, z23_125)))) (fun (g_13, g_14, g_15, g_16) => (slet (sp_EM_isSign g_15 g_16 60) (fun u_23 => (slet (sp_EM_isSign g_15 g_16 62) (fun u_25 => (slet (α := Unit) (if u_25 = 0 then () else ()) (fun () => (slet (sp_EM_isSign g_15 g_16 61) (fun u_32 => (slet (α := Unit) (if u_32 = 0 then () else ()) (fun () => (slet (sp_EM_isGood z26_7) (fun u_39 => (slet (α := Nat × Int32) (if u_39 = 0 then (z26_7, z27_8) else (if u_23 = 0 then (slet (sp_EM_fails g_13 g_15 z26_7 z27_8 2) (fun (z26_116, z27_117) => (z26_116, z27_117))) else (z26_7, z27_8))) (fun (g_40, g_41) => (slet (sp_EM_isGood g_40) (fun u_49 => (if u_49 = 0 then (q10, f11, q_10, g_13, g_14, g_15, g_16, g_40, g_41) else (slet (sp_EM_next x19 g_14 f17) (fun (z20_52, z21_53, z22_54, z23_55) => (slet (α := Nat) (slet (sp_EM_isSign z22_54 z23_55 61) (fun u_111 => (if u_111 = 0 then 0 else 1))) (fun g_56 => (slet (α := Int32 × Nat × Nat × Int32) (if g_56 = 0 then (z20_52, z21_53, z22_54, z23_55) else (slet (sp_EM_next x19 z21_53 f17) (fun (z20_106, z21_107, z22_108, z23_109) => (z20_106, z21_107, z22_108, z23_109)))) (fun (g_62, g_63, g_64, g_65) => (slet (α := Nat) (if g_56 = 0 then 0 else 1) (fun g_71 => (slet (updN q10 a0 g_71) (fun q_77 => (slet (α := Nat × Int32) (if g_64 = 2 then (if (g_65 : Int32) ≤ 20 then (g_40, g_41) else (slet (sp_EM_fails g_62 g_64 g_40 g_41 4) (fun (z26_97, z27_98) => (z26_97, z27_98)))) else (slet (sp_EM_fails g_62 g_64 g_40 g_41 2) (fun (z26_100, z27_101) => (z26_100, z27_101)))) (fun (g_78, g_79) => (slet (upd f11 a0 g_65) (fun f_85 => (slet (sp_EM_isGood g_78) (fun u_87 => (if u_87 = 0 then (q_77, f_85, q_10, g_62, g_63, g_64, g_65, g_78, g_79) else (slet (sp_EM_next x19 g_63 f17) (fun (z20_90, z21_91, z22_92, z23_93) => (q_77, f_85, q_10, z20_90, z21_91, z22_92, z23_93, g_78, g_79)))))))))))))))))))))))))))))))))))))))))))))))
set_option maxHeartbeats 4000000 in
set_option maxRecDepth 100000 in
theorem c_EM_readCondition1_0 (l : Launch) (dC : Nat → ClassId) (dI : Nat → Nat → Nat) (sz : Nat) (ad : Nat → Nat) (ck : Nat → ClassId) (x0 : Int32) (x16 : Nat) (x18 : Nat) (x19 : Nat) (x20 : Int32) (x21 : Nat) (x22 : Nat) (x23 : Int32) (x24 : Int32) (x25 : Int32) (x26 : Nat) (x27 : Int32) (x29 : Nat) (x30 : Nat) (x33 : Nat) (x45 : Int32) (x46 : Nat) (x52 : Nat) (x53 : Nat) (x61 : Nat) (x62 : Nat) (x63 : Nat) (x65 : Nat) (x66 : Int32) (f1 : Nat → Int32) (f2 : Nat → Int32) (f3 : Nat → Int32) (q4 : Nat → Nat) (q5 : Nat → Nat) (q6 : Nat → Nat) (q7 : Nat → Nat) (f8 : Nat → Int32) (q9 : Nat → Nat) (q10 : Nat → Nat) (f11 : Nat → Int32) (m12_0 m12_1 : Nat) (m13_0 m13_1 : Nat) (m14_0 m14_1 : Nat) (m15_0 m15_1 : Nat) (f17 : Nat → Int32) (q31 : Nat → Nat) (f32 : Nat → Int32) (f34 : Nat → Int32) (f35 : Nat → Int32) (f36 : Nat → Int32) (f37 : Nat → Int32) (q38 : Nat → Nat) (f39 : Nat → Int32) (f40 : Nat → Int32) (f41 : Nat → Int32) (m42_0 m42_1 : Nat) (f43 : Nat → Int32) (f44 : Nat → Int32) (f47 : Nat → Int32) (f48 : Nat → Int32) (f49 : Nat → Int32) (f50 : Nat → Int32) (f51 : Nat → Int32) (q54 : Nat → Nat) (q55 : Nat → Nat) (q56 : Nat → Nat) (f57 : Nat → Int32) (q58 : Nat → Nat) (f59 : Nat → Int32) (f60 : Nat → Int32) (f64 : Nat → Int32) (a0 : Nat) (hx16 : x16 ≤ 1) (hx18 : x18 ≤ 900) (hx19 : x19 ≤ 900) (hx21 : x21 ≤ 900) (hx22 : x22 ≤ 4) (hx26 : x26 ≤ 6) (hx29 : x29 ≤ 1) (hx30 : x30 ≤ 1) (hx33 : x33 ≤ 20) (hx46 : x46 ≤ 5) (hx52 : x52 ≤ 2400) (hx53 : x53 ≤ 119) (hx61 : x61 ≤ 119) (hx62 : x62 ≤ 2000) (hx63 : x63 ≤ 1) (hx65 : x65 ≤ 7) (hm12_0 : m12_0 ≤ 3) (hm12_1 : m12_1 ≤ 3) (hm13_0 : m13_0 ≤ 8) (hm13_1 : m13_1 ≤ 8) (hm14_0 : m14_0 ≤ 14) (hm14_1 : m14_1 ≤ 14) (hm15_0 : m15_0 ≤ 8) (hm15_1 : m15_1 ≤ 8) (hm42_0 : m42_0 ≤ 120) (hm42_1 : m42_1 ≤ 400) (ha0 : a0 ≤ 79) (hb0 : 56 ≤ a0) : Met l yX9_readCondition vs_EM_readCondition1_0 ({ frames := 4, cells := 0, slots := 0, locals := 82 }) (va_Pc [.ref (ad 0), .int (nI a0), .int 1] (pu_B (dC, dI) (mo_w ad ck x0 (nI x16) (nI x18) (nI x19) x20 (nI x21) (nI x22) x23 x24 x25 (nI x26) x27 0 (nI x29) (nI x30) (nI x33) x45 (nI x46) (nI x52) (nI x53) (nI x61) (nI x62) (nI x63) (nI x65) x66 f1 f2 f3 (bN 3 q4) (bN 7 q5) (bN 7 q6) (bN 4 q7) f8 (bN 2 q9) (bH q10) f11 (b2 m12_0 m12_1) (b2 m13_0 m13_1) (b2 m14_0 m14_1) (b2m m15_0 m15_1) f17 (bA 159 q31) f32 f34 f35 f36 f37 (bN 7 q38) f39 f40 f41 (b2 m42_0 m42_1) f43 f44 f47 f48 f49 f50 f51 (bN 13 q54) (bN 120 q55) (bN 120 q56) f57 (bN 120 q58) f59 f60 f64) (mo_t ck) sz)) (va_Qv (fun (_ : Unit) => True) (fun _ t => ∃ (z10 : Nat → Nat) (z11 : Nat → Int32) (z9 : Nat → Nat) (z20 : Int32) (z21 : Nat) (z22 : Nat) (z23 : Int32) (z26 : Nat) (z27 : Int32), pu_E (dC, dI) (mo_w ad ck x0 (nI x16) (nI x18) (nI x19) z20 (nI z21) (nI z22) z23 x24 x25 (nI z26) z27 0 (nI x29) (nI x30) (nI x33) x45 (nI x46) (nI x52) (nI x53) (nI x61) (nI x62) (nI x63) (nI x65) x66 f1 f2 f3 (bN 3 q4) (bN 7 q5) (bN 7 q6) (bN 4 q7) f8 (bN 2 z9) (bH z10) z11 (b2 m12_0 m12_1) (b2 m13_0 m13_1) (b2 m14_0 m14_1) (b2m m15_0 m15_1) f17 (bA 159 q31) f32 f34 f35 f36 f37 (bN 7 q38) f39 f40 f41 (b2 m42_0 m42_1) f43 f44 f47 f48 f49 f50 f51 (bN 13 q54) (bN 120 q55) (bN 120 q56) f57 (bN 120 q58) f59 f60 f64) (mo_t ck) (va_A ((mo_w ad ck x0 (nI x16) (nI x18) (nI x19) x20 (nI x21) (nI x22) x23 x24 x25 (nI x26) x27 0 (nI x29) (nI x30) (nI x33) x45 (nI x46) (nI x52) (nI x53) (nI x61) (nI x62) (nI x63) (nI x65) x66 f1 f2 f3 (bN 3 q4) (bN 7 q5) (bN 7 q6) (bN 4 q7) f8 (bN 2 q9) (bH q10) f11 (b2 m12_0 m12_1) (b2 m13_0 m13_1) (b2 m14_0 m14_1) (b2m m15_0 m15_1) f17 (bA 159 q31) f32 f34 f35 f36 f37 (bN 7 q38) f39 f40 f41 (b2 m42_0 m42_1) f43 f44 f47 f48 f49 f50 f51 (bN 13 q54) (bN 120 q55) (bN 120 q56) f57 (bN 120 q58) f59 f60 f64)) sz) t ∧ (z21 ≤ 900) ∧ (z22 ≤ 4) ∧ (z26 ≤ 6) ∧ (mu z21 z22 ≤ mu x21 x22) ∧ (x22 = 0 ∨ mu z21 z22 < mu x21 x22) ∧ ((z10, z11, z9, z20, z21, z22, z23, z26, z27) = (sp_EM_readCondition1_0 x19 x21 x26 x27 f1 q9 q10 f11 m12_0 f17 a0))) (va_A ((mo_w ad ck x0 (nI x16) (nI x18) (nI x19) x20 (nI x21) (nI x22) x23 x24 x25 (nI x26) x27 0 (nI x29) (nI x30) (nI x33) x45 (nI x46) (nI x52) (nI x53) (nI x61) (nI x62) (nI x63) (nI x65) x66 f1 f2 f3 (bN 3 q4) (bN 7 q5) (bN 7 q6) (bN 4 q7) f8 (bN 2 q9) (bH q10) f11 (b2 m12_0 m12_1) (b2 m13_0 m13_1) (b2 m14_0 m14_1) (b2m m15_0 m15_1) f17 (bA 159 q31) f32 f34 f35 f36 f37 (bN 7 q38) f39 f40 f41 (b2 m42_0 m42_1) f43 f44 f47 f48 f49 f50 f51 (bN 13 q54) (bN 120 q55) (bN 120 q56) f57 (bN 120 q58) f59 f60 f64)) sz)) 0 0 (va_A ((mo_w ad ck x0 (nI x16) (nI x18) (nI x19) x20 (nI x21) (nI x22) x23 x24 x25 (nI x26) x27 0 (nI x29) (nI x30) (nI x33) x45 (nI x46) (nI x52) (nI x53) (nI x61) (nI x62) (nI x63) (nI x65) x66 f1 f2 f3 (bN 3 q4) (bN 7 q5) (bN 7 q6) (bN 4 q7) f8 (bN 2 q9) (bH q10) f11 (b2 m12_0 m12_1) (b2 m13_0 m13_1) (b2 m14_0 m14_1) (b2m m15_0 m15_1) f17 (bA 159 q31) f32 f34 f35 f36 f37 (bN 7 q38) f39 f40 f41 (b2 m42_0 m42_1) f43 f44 f47 f48 f49 f50 f51 (bN 13 q54) (bN 120 q55) (bN 120 q56) f57 (bN 120 q58) f59 f60 f64)) sz) := by
  refine Met.ofW (cc := cX9_readCondition) (maxL := 7) (ret := none) (by decide) rfl ?_
  intro p e s m args below meth c s₁ B hml hv
  obtain ⟨rfl, rfl, hP, hK, hD0⟩ := hv
  have hx := B.exec
  have hb := B.bytes
  have hr := B.returns
  have hts := atoms_spec (ws := vs_EM_readCondition1_0) B.pre
  have v_6 := hts (.fieldLink RX9 34 "ClockReachModel" "ofClock" "[I") (List.mem_cons_of_mem _ vm_98)
  have v_23 := hts (.fieldLink RX9 37 "ClockReachModel" "how" "[I") (List.mem_cons_of_mem _ vm_99)
  have v_24 := hts (.fieldLink RX9 172 "ClockReachModel" "token" "I") (List.mem_cons_of_mem _ vm_12)
  have v_25 := hts (.fieldLink RX9 169 "ClockReachModel" "value" "I") (List.mem_cons_of_mem _ vm_13)
  have v_26 := hts (.fieldLink RX9 40 "ClockReachModel" "limit" "[I") (List.mem_cons_of_mem _ vm_100)
  have hown : s.vm.findClass RX9 = some m.cls := findClass_of_methodNamed B.named
  have hlocks := B.notSynchronized
  have hiX9 : ∀ w ∈ wsX90, w ∈ vs_EM_readCondition1_0 := fun _ h => List.mem_cons_of_mem _ (vmi_L h)
  have hD := hD0.self (sz := s.heap.size)
  generalize hAe : va_A ((mo_w ad ck x0 (nI x16) (nI x18) (nI x19) x20 (nI x21) (nI x22) x23 x24 x25 (nI x26) x27 0 (nI x29) (nI x30) (nI x33) x45 (nI x46) (nI x52) (nI x53) (nI x61) (nI x62) (nI x63) (nI x65) x66 f1 f2 f3 (bN 3 q4) (bN 7 q5) (bN 7 q6) (bN 4 q7) f8 (bN 2 q9) (bH q10) f11 (b2 m12_0 m12_1) (b2 m13_0 m13_1) (b2 m14_0 m14_1) (b2m m15_0 m15_1) f17 (bA 159 q31) f32 f34 f35 f36 f37 (bN 7 q38) f39 f40 f41 (b2 m42_0 m42_1) f43 f44 f47 f48 f49 f50 f51 (bN 13 q54) (bN 120 q55) (bN 120 q56) f57 (bN 120 q58) f59 f60 f64)) s.heap.size = A at hD ⊢
  have hA : ∀ q : Nat, s.heap.size ≤ q → A q := fun q h => by rw [← hAe]; exact Or.inr h
  have hS : va_S A s.heap s.heap [] := va_S.rf
  have hl := lv_entry ([.ref (ad 0), .int (nI a0), .int 1]) (n := 7) (Nat.le_of_ble_eq_true rfl)
  rw [lg_entry_eq]
  generalize (lg_sl ([.ref (ad 0), .int (nI a0), .int 1]) ++ List.replicate (7 - (lg_sl ([.ref (ad 0), .int (nI a0), .int 1])).length) Slot.unset).toArray = ls at hl ⊢
  have hl : lv_has ls 7 [(0, .ref (ad 0)), (1, .int (nI a0)), (2, .int 1)] := hl
  obtain ⟨RR, hRR⟩ : ∃ x, x = (sp_EM_readCondition1_0 x19 x21 x26 x27 f1 q9 q10 f11 m12_0 f17 a0) := ⟨_, rfl⟩
  have hsp := hRR
  refine lv_aload_n hx hb dX9_readCondition_0 rfl (lv_at hl 0 rfl) ?_
  have hFc := pu_free hD hS hA
  refine va_callv (va_runV (As := []) (rest := []) ⟨hx, hb, hml, hown, hts⟩ (c_EM_next l dC dI _ ad ck x0 x16 x18 x19 x20 x21 x22 x23 x24 x25 x26 x27 0 x29 x30 x33 x45 x46 x52 x53 x61 x62 x63 x65 x66 f1 f2 f3 q4 q5 q6 q7 f8 q9 q10 f11 m12_0 m12_1 m13_0 m13_1 m14_0 m14_1 m15_0 m15_1 f17 q31 f32 f34 f35 f36 f37 q38 f39 f40 f41 m42_0 m42_1 f43 f44 f47 f48 f49 f50 f51 q54 q55 q56 f57 q58 f59 f60 f64 hx16 hx18 hx19 hx21 hx22 hx26 (Nat.le_of_ble_eq_true rfl) hx29 hx30 hx33 hx46 hx52 hx53 hx61 hx62 hx63 hx65 hm12_0 hm12_1 hm13_0 hm13_1 hm14_0 hm14_1 hm15_0 hm15_1 hm42_0 hm42_1) (cwV 0 hts g_EM_readCondition1_0_EM_next rfl rfl rfl (by decide +kernel) ⟨Nat.le_of_ble_eq_true rfl, Nat.le_of_ble_eq_true rfl⟩) ⟨pu_bl, va_recv hK hP (ci := 9) (q0 := 0) rfl rfl, pu_in hP hK hD⟩ rfl rfl hl.1 rfl (lv_room (Nat.le_of_ble_eq_true rfl)) dX9_readCondition_1 ⟨Nat.le_of_ble_eq_true rfl, Nat.le_of_ble_eq_true rfl⟩) hS (fun q _ h => hFc q h) hFc (fun u t H1 locs ht hvm hw hB hz1 hk1 hS => ?_)
  obtain ⟨z20_2, z21_3, z22_4, z23_5, ⟨hP1, -, hD1⟩, hz21_3, hz22_4, xr_1_0, xr_1_1, xr_1_2⟩ := hB
  rw [ht] at hP1
  have hP := hP1
  have hD := pu_all hFc hD1
  clear hP1 hD1 hFc
  clear hk1 hz1 ht hvm
  generalize H1 = H at hP hS ⊢
  have hsp := hsp.trans (slet_eq xr_1_2)
  refine lv_aload_n hx hb dX9_readCondition_4 rfl (lv_at hl 0 rfl) ?_
  refine va_get (D := (dC, dI)) (ci := 9) (v := .ref (ad 9)) (C := RX9) (T := TX9) (N := 67) hx hb hts hiX9 hown hK hP 0 rfl rfl 9 (by decide) v_6 (fun _ h9 => h9) rfl dX9_readCondition_5 ?_
  refine lv_iload_n hx hb dX9_readCondition_8 rfl (lv_at hl 1 rfl) ?_
  refine lv_aload_n hx hb dX9_readCondition_9 rfl (lv_at hl 0 rfl) ?_
  have hFc := pu_free hD hS hA
  refine va_calli (va_runV (As := []) (rest := [.int (nI a0), .ref (ad 9)]) ⟨hx, hb, hml, hown, hts⟩ (c_EM_toldClock_0 l dC dI _ ad ck x0 x16 x18 x19 z20_2 z21_3 z22_4 z23_5 x24 x25 x26 x27 x29 x30 x33 x45 x46 x52 x53 x61 x62 x63 x65 x66 f1 f2 f3 q4 q5 q6 q7 f8 q9 q10 f11 m12_0 m12_1 m13_0 m13_1 m14_0 m14_1 m15_0 m15_1 f17 q31 f32 f34 f35 f36 f37 q38 f39 f40 f41 m42_0 m42_1 f43 f44 f47 f48 f49 f50 f51 q54 q55 q56 f57 q58 f59 f60 f64 hx16 hx18 hx19 hz21_3 hz22_4 hx26 hx29 hx30 hx33 hx46 hx52 hx53 hx61 hx62 hx63 hx65 hm12_0 hm12_1 hm13_0 hm13_1 hm14_0 hm14_1 hm15_0 hm15_1 hm42_0 hm42_1) (cwV 0 hts g_EM_readCondition1_0_EM_toldClock_0 rfl rfl rfl (by decide +kernel) ⟨Nat.le_of_ble_eq_true rfl, Nat.le_of_ble_eq_true rfl⟩) ⟨pu_bl, va_recv hK hP (ci := 9) (q0 := 0) rfl rfl, pu_in hP hK hD⟩ rfl rfl hl.1 rfl (lv_room (Nat.le_of_ble_eq_true rfl)) dX9_readCondition_10 ⟨Nat.le_of_ble_eq_true rfl, Nat.le_of_ble_eq_true rfl⟩) hS (fun q _ h => hFc q h) hFc (fun r_6 u t H1 locs ht hvm hw hB hz1 hk1 hS => ?_)
  obtain ⟨z26_7, z27_8, ⟨hP1, -, hD1⟩, hz26_7, xr_6_0⟩ := hB
  rw [ht] at hP1
  have hP := hP1
  have hD := pu_all hFc hD1
  clear hP1 hD1 hFc
  clear hk1 hz1 ht hvm
  generalize H1 = H at hP hS ⊢
  obtain ⟨u_9, hu_9, rfl, iu_9⟩ := hw
  have iu_9 : (u_9, z26_7, z27_8) = (sp_EM_toldClock_0 z20_2 z22_4 z23_5 x26 x27 f1 m12_0) := Prod.ext iu_9 xr_6_0
  have hsp := hsp.trans (slet_eq iu_9)
  refine va_iast hx hb hK hP hD hS 9 8 rfl rfl (vp_in_nI (n := a0) (Nat.lt_of_le_of_lt ha0 (Nat.le_of_ble_eq_true rfl)) (Nat.le_of_ble_eq_true rfl)) dX9_readCondition_13 (fun H locs hP hD hS => ?_)
  obtain ⟨q_10, eq_10, kq_10, oq_10, xq_10⟩ := bN_upx 2 q9 (n := a0) (v := u_9) (Nat.lt_of_le_of_lt ha0 (Nat.le_of_ble_eq_true rfl)) hu_9
  have hP : va_P (dC, dI) vwCl (mo_w ad ck x0 (nI x16) (nI x18) (nI x19) z20_2 (nI z21_3) (nI z22_4) z23_5 x24 x25 (nI z26_7) z27_8 0 (nI x29) (nI x30) (nI x33) x45 (nI x46) (nI x52) (nI x53) (nI x61) (nI x62) (nI x63) (nI x65) x66 f1 f2 f3 (bN 3 q4) (bN 7 q5) (bN 7 q6) (bN 4 q7) f8 (bN 2 q_10) (bH q10) f11 (b2 m12_0 m12_1) (b2 m13_0 m13_1) (b2 m14_0 m14_1) (b2m m15_0 m15_1) f17 (bA 159 q31) f32 f34 f35 f36 f37 (bN 7 q38) f39 f40 f41 (b2 m42_0 m42_1) f43 f44 f47 f48 f49 f50 f51 (bN 13 q54) (bN 120 q55) (bN 120 q56) f57 (bN 120 q58) f59 f60 f64) H := by rw [← eq_10]; exact hP
  have hD : va_D A (mo_w ad ck x0 (nI x16) (nI x18) (nI x19) z20_2 (nI z21_3) (nI z22_4) z23_5 x24 x25 (nI z26_7) z27_8 0 (nI x29) (nI x30) (nI x33) x45 (nI x46) (nI x52) (nI x53) (nI x61) (nI x62) (nI x63) (nI x65) x66 f1 f2 f3 (bN 3 q4) (bN 7 q5) (bN 7 q6) (bN 4 q7) f8 (bN 2 q_10) (bH q10) f11 (b2 m12_0 m12_1) (b2 m13_0 m13_1) (b2 m14_0 m14_1) (b2m m15_0 m15_1) f17 (bA 159 q31) f32 f34 f35 f36 f37 (bN 7 q38) f39 f40 f41 (b2 m42_0 m42_1) f43 f44 f47 f48 f49 f50 f51 (bN 13 q54) (bN 120 q55) (bN 120 q56) f57 (bN 120 q58) f59 f60 f64) := by rw [← eq_10]; exact hD
  have hsp := hsp.trans (slet_eq xq_10)
  refine lv_aload_n hx hb dX9_readCondition_14 rfl (lv_at hl 0 rfl) ?_
  refine va_calli (va_runV (As := []) (rest := []) ⟨hx, hb, hml, hown, hts⟩ (c_EM_isGood l dC dI _ ad ck x0 x16 x18 x19 z20_2 z21_3 z22_4 z23_5 x24 x25 z26_7 z27_8 0 x29 x30 x33 x45 x46 x52 x53 x61 x62 x63 x65 x66 f1 f2 f3 q4 q5 q6 q7 f8 q_10 q10 f11 m12_0 m12_1 m13_0 m13_1 m14_0 m14_1 m15_0 m15_1 f17 q31 f32 f34 f35 f36 f37 q38 f39 f40 f41 m42_0 m42_1 f43 f44 f47 f48 f49 f50 f51 q54 q55 q56 f57 q58 f59 f60 f64 hx16 hx18 hx19 hz21_3 hz22_4 hz26_7 (Nat.le_of_ble_eq_true rfl) hx29 hx30 hx33 hx46 hx52 hx53 hx61 hx62 hx63 hx65 hm12_0 hm12_1 hm13_0 hm13_1 hm14_0 hm14_1 hm15_0 hm15_1 hm42_0 hm42_1) (cwV 0 hts g_EM_readCondition1_0_EM_isGood rfl rfl rfl (by decide +kernel) ⟨Nat.le_of_ble_eq_true rfl, Nat.le_of_ble_eq_true rfl⟩) ⟨pu_bl, va_recv hK hP (ci := 9) (q0 := 0) rfl rfl, pu_in hP hK hD⟩ rfl rfl hl.1 rfl (lv_room (Nat.le_of_ble_eq_true rfl)) dX9_readCondition_15 ⟨Nat.le_of_ble_eq_true rfl, Nat.le_of_ble_eq_true rfl⟩) hS (fun q _ h => pu_fr hS hA q h) (pu_fr hS hA) (fun r_11 u t H1 locs ht hvm hw hB hz1 hk1 hS => ?_)
  have hP := pu_keep hP hk1
  clear hk1 hz1 ht hvm
  generalize H1 = H at hP hS ⊢
  obtain ⟨u_12, hu_12, rfl, ju_12, iu_12⟩ := hw
  have hsp := hsp.trans (slet_eq iu_12)
  obtain ⟨JR_20, hJR_20, hsp⟩ := slet_ex hsp
  refine pu_join (fun H locs ls st => ∃ (g_13 : Int32) (g_14 : Nat) (g_15 : Nat) (g_16 : Int32), st = [] ∧ g_14 ≤ 900 ∧ g_15 ≤ 4 ∧ mu g_14 g_15 ≤ mu x21 x22 ∧ (x22 = 0 ∨ mu g_14 g_15 < mu x21 x22) ∧ (g_13, g_14, g_15, g_16) = JR_20 ∧ va_P (dC, dI) vwCl (mo_w ad ck x0 (nI x16) (nI x18) (nI x19) g_13 (nI g_14) (nI g_15) g_16 x24 x25 (nI z26_7) z27_8 0 (nI x29) (nI x30) (nI x33) x45 (nI x46) (nI x52) (nI x53) (nI x61) (nI x62) (nI x63) (nI x65) x66 f1 f2 f3 (bN 3 q4) (bN 7 q5) (bN 7 q6) (bN 4 q7) f8 (bN 2 q_10) (bH q10) f11 (b2 m12_0 m12_1) (b2 m13_0 m13_1) (b2 m14_0 m14_1) (b2m m15_0 m15_1) f17 (bA 159 q31) f32 f34 f35 f36 f37 (bN 7 q38) f39 f40 f41 (b2 m42_0 m42_1) f43 f44 f47 f48 f49 f50 f51 (bN 13 q54) (bN 120 q55) (bN 120 q56) f57 (bN 120 q58) f59 f60 f64) H ∧ va_D A (mo_w ad ck x0 (nI x16) (nI x18) (nI x19) g_13 (nI g_14) (nI g_15) g_16 x24 x25 (nI z26_7) z27_8 0 (nI x29) (nI x30) (nI x33) x45 (nI x46) (nI x52) (nI x53) (nI x61) (nI x62) (nI x63) (nI x65) x66 f1 f2 f3 (bN 3 q4) (bN 7 q5) (bN 7 q6) (bN 4 q7) f8 (bN 2 q_10) (bH q10) f11 (b2 m12_0 m12_1) (b2 m13_0 m13_1) (b2 m14_0 m14_1) (b2m m15_0 m15_1) f17 (bA 159 q31) f32 f34 f35 f36 f37 (bN 7 q38) f39 f40 f41 (b2 m42_0 m42_1) f43 f44 f47 f48 f49 f50 f51 (bN 13 q54) (bN 120 q55) (bN 120 q56) f57 (bN 120 q58) f59 f60 f64) ∧ va_S A s.heap H locs ∧ lv_has ls 7 [(0, .ref (ad 0)), (1, .int (nI a0)), (2, .int 1)]) 25 ?_ (fun j_19 => ?_)
  · rintro H locs ls st ⟨g_13, g_14, g_15, g_16, rfl, hg_14, hg_15, he_17, he_18, he_21, hP, hD, hS, hl⟩
    rw [← he_21] at hsp
    refine lv_aload_n hx hb dX9_readCondition_25 rfl (lv_at hl 0 rfl) ?_
    refine lv_bipush (v := 60) hx hb dX9_readCondition_26 (by decide) ?_
    refine va_calli (va_runV (As := [.int 60]) (rest := []) ⟨hx, hb, hml, hown, hts⟩ (c_EM_isSign l dC dI _ ad ck x0 x16 x18 x19 g_13 g_14 g_15 g_16 x24 x25 z26_7 z27_8 0 x29 x30 x33 x45 x46 x52 x53 x61 x62 x63 x65 x66 f1 f2 f3 q4 q5 q6 q7 f8 q_10 q10 f11 m12_0 m12_1 m13_0 m13_1 m14_0 m14_1 m15_0 m15_1 f17 q31 f32 f34 f35 f36 f37 q38 f39 f40 f41 m42_0 m42_1 f43 f44 f47 f48 f49 f50 f51 q54 q55 q56 f57 q58 f59 f60 f64 60 hx16 hx18 hx19 hg_14 hg_15 hz26_7 (Nat.le_of_ble_eq_true rfl) hx29 hx30 hx33 hx46 hx52 hx53 hx61 hx62 hx63 hx65 hm12_0 hm12_1 hm13_0 hm13_1 hm14_0 hm14_1 hm15_0 hm15_1 hm42_0 hm42_1) (cwV 1 hts g_EM_readCondition1_0_EM_isSign rfl rfl rfl (by decide +kernel) ⟨Nat.le_of_ble_eq_true rfl, Nat.le_of_ble_eq_true rfl⟩) ⟨pu_bl, va_recv hK hP (ci := 9) (q0 := 0) rfl rfl, pu_in hP hK hD⟩ rfl rfl hl.1 rfl (lv_room (Nat.le_of_ble_eq_true rfl)) dX9_readCondition_28 ⟨Nat.le_of_ble_eq_true rfl, Nat.le_of_ble_eq_true rfl⟩) hS (fun q _ h => pu_fr hS hA q h) (pu_fr hS hA) (fun r_22 u t H1 locs ht hvm hw hB hz1 hk1 hS => ?_)
    have hP := pu_keep hP hk1
    clear hk1 hz1 ht hvm
    generalize H1 = H at hP hS ⊢
    obtain ⟨u_23, hu_23, rfl, ju_23, iu_23⟩ := hw
    have hsp := hsp.trans (slet_eq iu_23)
    refine lv_istore_n (lv' := [(3, .int (nI u_23)), (0, .ref (ad 0)), (1, .int (nI a0)), (2, .int 1)]) hx hb dX9_readCondition_31 rfl hl (by decide) rfl (fun ls hl => ?_)
    refine lv_aload_n hx hb dX9_readCondition_32 rfl (lv_at hl 1 rfl) ?_
    refine lv_bipush (v := 62) hx hb dX9_readCondition_33 (by decide) ?_
    refine va_calli (va_runV (As := [.int 62]) (rest := []) ⟨hx, hb, hml, hown, hts⟩ (c_EM_isSign l dC dI _ ad ck x0 x16 x18 x19 g_13 g_14 g_15 g_16 x24 x25 z26_7 z27_8 0 x29 x30 x33 x45 x46 x52 x53 x61 x62 x63 x65 x66 f1 f2 f3 q4 q5 q6 q7 f8 q_10 q10 f11 m12_0 m12_1 m13_0 m13_1 m14_0 m14_1 m15_0 m15_1 f17 q31 f32 f34 f35 f36 f37 q38 f39 f40 f41 m42_0 m42_1 f43 f44 f47 f48 f49 f50 f51 q54 q55 q56 f57 q58 f59 f60 f64 62 hx16 hx18 hx19 hg_14 hg_15 hz26_7 (Nat.le_of_ble_eq_true rfl) hx29 hx30 hx33 hx46 hx52 hx53 hx61 hx62 hx63 hx65 hm12_0 hm12_1 hm13_0 hm13_1 hm14_0 hm14_1 hm15_0 hm15_1 hm42_0 hm42_1) (cwV 1 hts g_EM_readCondition1_0_EM_isSign rfl rfl rfl (by decide +kernel) ⟨Nat.le_of_ble_eq_true rfl, Nat.le_of_ble_eq_true rfl⟩) ⟨pu_bl, va_recv hK hP (ci := 9) (q0 := 0) rfl rfl, pu_in hP hK hD⟩ rfl rfl hl.1 rfl (lv_room (Nat.le_of_ble_eq_true rfl)) dX9_readCondition_35 ⟨Nat.le_of_ble_eq_true rfl, Nat.le_of_ble_eq_true rfl⟩) hS (fun q _ h => pu_fr hS hA q h) (pu_fr hS hA) (fun r_24 u t H1 locs ht hvm hw hB hz1 hk1 hS => ?_)
    have hP := pu_keep hP hk1
    clear hk1 hz1 ht hvm
    generalize H1 = H at hP hS ⊢
    obtain ⟨u_25, hu_25, rfl, ju_25, iu_25⟩ := hw
    have hsp := hsp.trans (slet_eq iu_25)
    obtain ⟨JR_29, hJR_29, hsp⟩ := slet_ex hsp
    refine pu_join (fun H locs ls st => st = [.int 0] ∧ mu g_14 g_15 ≤ mu x21 x22 ∧ (x22 = 0 ∨ mu g_14 g_15 < mu x21 x22) ∧ () = JR_29 ∧ va_P (dC, dI) vwCl (mo_w ad ck x0 (nI x16) (nI x18) (nI x19) g_13 (nI g_14) (nI g_15) g_16 x24 x25 (nI z26_7) z27_8 0 (nI x29) (nI x30) (nI x33) x45 (nI x46) (nI x52) (nI x53) (nI x61) (nI x62) (nI x63) (nI x65) x66 f1 f2 f3 (bN 3 q4) (bN 7 q5) (bN 7 q6) (bN 4 q7) f8 (bN 2 q_10) (bH q10) f11 (b2 m12_0 m12_1) (b2 m13_0 m13_1) (b2 m14_0 m14_1) (b2m m15_0 m15_1) f17 (bA 159 q31) f32 f34 f35 f36 f37 (bN 7 q38) f39 f40 f41 (b2 m42_0 m42_1) f43 f44 f47 f48 f49 f50 f51 (bN 13 q54) (bN 120 q55) (bN 120 q56) f57 (bN 120 q58) f59 f60 f64) H ∧ va_D A (mo_w ad ck x0 (nI x16) (nI x18) (nI x19) g_13 (nI g_14) (nI g_15) g_16 x24 x25 (nI z26_7) z27_8 0 (nI x29) (nI x30) (nI x33) x45 (nI x46) (nI x52) (nI x53) (nI x61) (nI x62) (nI x63) (nI x65) x66 f1 f2 f3 (bN 3 q4) (bN 7 q5) (bN 7 q6) (bN 4 q7) f8 (bN 2 q_10) (bH q10) f11 (b2 m12_0 m12_1) (b2 m13_0 m13_1) (b2 m14_0 m14_1) (b2m m15_0 m15_1) f17 (bA 159 q31) f32 f34 f35 f36 f37 (bN 7 q38) f39 f40 f41 (b2 m42_0 m42_1) f43 f44 f47 f48 f49 f50 f51 (bN 13 q54) (bN 120 q55) (bN 120 q56) f57 (bN 120 q58) f59 f60 f64) ∧ va_S A s.heap H locs ∧ lv_has ls 7 [(0, .ref (ad 0)), (1, .int (nI a0)), (2, .int 1), (3, .int (nI u_23))]) 50 ?_ (fun j_28 => ?_)
    · rintro H locs ls st ⟨rfl, he_26, he_27, he_30, hP, hD, hS, hl⟩
      refine lv_istore (lv' := [(4, .int 0), (0, .ref (ad 0)), (1, .int (nI a0)), (2, .int 1), (3, .int (nI u_23))]) hx hb dX9_readCondition_50 hl (by decide) rfl (fun ls hl => ?_)
      refine lv_aload_n hx hb dX9_readCondition_52 rfl (lv_at hl 1 rfl) ?_
      refine lv_bipush (v := 61) hx hb dX9_readCondition_53 (by decide) ?_
      refine va_calli (va_runV (As := [.int 61]) (rest := []) ⟨hx, hb, hml, hown, hts⟩ (c_EM_isSign l dC dI _ ad ck x0 x16 x18 x19 g_13 g_14 g_15 g_16 x24 x25 z26_7 z27_8 0 x29 x30 x33 x45 x46 x52 x53 x61 x62 x63 x65 x66 f1 f2 f3 q4 q5 q6 q7 f8 q_10 q10 f11 m12_0 m12_1 m13_0 m13_1 m14_0 m14_1 m15_0 m15_1 f17 q31 f32 f34 f35 f36 f37 q38 f39 f40 f41 m42_0 m42_1 f43 f44 f47 f48 f49 f50 f51 q54 q55 q56 f57 q58 f59 f60 f64 61 hx16 hx18 hx19 hg_14 hg_15 hz26_7 (Nat.le_of_ble_eq_true rfl) hx29 hx30 hx33 hx46 hx52 hx53 hx61 hx62 hx63 hx65 hm12_0 hm12_1 hm13_0 hm13_1 hm14_0 hm14_1 hm15_0 hm15_1 hm42_0 hm42_1) (cwV 1 hts g_EM_readCondition1_0_EM_isSign rfl rfl rfl (by decide +kernel) ⟨Nat.le_of_ble_eq_true rfl, Nat.le_of_ble_eq_true rfl⟩) ⟨pu_bl, va_recv hK hP (ci := 9) (q0 := 0) rfl rfl, pu_in hP hK hD⟩ rfl rfl hl.1 rfl (lv_room (Nat.le_of_ble_eq_true rfl)) dX9_readCondition_55 ⟨Nat.le_of_ble_eq_true rfl, Nat.le_of_ble_eq_true rfl⟩) hS (fun q _ h => pu_fr hS hA q h) (pu_fr hS hA) (fun r_31 u t H1 locs ht hvm hw hB hz1 hk1 hS => ?_)
      have hP := pu_keep hP hk1
      clear hk1 hz1 ht hvm
      generalize H1 = H at hP hS ⊢
      obtain ⟨u_32, hu_32, rfl, ju_32, iu_32⟩ := hw
      have hsp := hsp.trans (slet_eq iu_32)
      obtain ⟨JR_36, hJR_36, hsp⟩ := slet_ex hsp
      refine pu_join (fun H locs ls st => st = [.int 0] ∧ mu g_14 g_15 ≤ mu x21 x22 ∧ (x22 = 0 ∨ mu g_14 g_15 < mu x21 x22) ∧ () = JR_36 ∧ va_P (dC, dI) vwCl (mo_w ad ck x0 (nI x16) (nI x18) (nI x19) g_13 (nI g_14) (nI g_15) g_16 x24 x25 (nI z26_7) z27_8 0 (nI x29) (nI x30) (nI x33) x45 (nI x46) (nI x52) (nI x53) (nI x61) (nI x62) (nI x63) (nI x65) x66 f1 f2 f3 (bN 3 q4) (bN 7 q5) (bN 7 q6) (bN 4 q7) f8 (bN 2 q_10) (bH q10) f11 (b2 m12_0 m12_1) (b2 m13_0 m13_1) (b2 m14_0 m14_1) (b2m m15_0 m15_1) f17 (bA 159 q31) f32 f34 f35 f36 f37 (bN 7 q38) f39 f40 f41 (b2 m42_0 m42_1) f43 f44 f47 f48 f49 f50 f51 (bN 13 q54) (bN 120 q55) (bN 120 q56) f57 (bN 120 q58) f59 f60 f64) H ∧ va_D A (mo_w ad ck x0 (nI x16) (nI x18) (nI x19) g_13 (nI g_14) (nI g_15) g_16 x24 x25 (nI z26_7) z27_8 0 (nI x29) (nI x30) (nI x33) x45 (nI x46) (nI x52) (nI x53) (nI x61) (nI x62) (nI x63) (nI x65) x66 f1 f2 f3 (bN 3 q4) (bN 7 q5) (bN 7 q6) (bN 4 q7) f8 (bN 2 q_10) (bH q10) f11 (b2 m12_0 m12_1) (b2 m13_0 m13_1) (b2 m14_0 m14_1) (b2m m15_0 m15_1) f17 (bA 159 q31) f32 f34 f35 f36 f37 (bN 7 q38) f39 f40 f41 (b2 m42_0 m42_1) f43 f44 f47 f48 f49 f50 f51 (bN 13 q54) (bN 120 q55) (bN 120 q56) f57 (bN 120 q58) f59 f60 f64) ∧ va_S A s.heap H locs ∧ lv_has ls 7 [(0, .ref (ad 0)), (1, .int (nI a0)), (2, .int 1), (3, .int (nI u_23)), (4, .int 0)]) 70 ?_ (fun j_35 => ?_)
      · rintro H locs ls st ⟨rfl, he_33, he_34, he_37, hP, hD, hS, hl⟩
        refine lv_istore (lv' := [(5, .int 0), (0, .ref (ad 0)), (1, .int (nI a0)), (2, .int 1), (3, .int (nI u_23)), (4, .int 0)]) hx hb dX9_readCondition_70 hl (by decide) rfl (fun ls hl => ?_)
        refine lv_aload_n hx hb dX9_readCondition_72 rfl (lv_at hl 1 rfl) ?_
        refine va_calli (va_runV (As := []) (rest := []) ⟨hx, hb, hml, hown, hts⟩ (c_EM_isGood l dC dI _ ad ck x0 x16 x18 x19 g_13 g_14 g_15 g_16 x24 x25 z26_7 z27_8 0 x29 x30 x33 x45 x46 x52 x53 x61 x62 x63 x65 x66 f1 f2 f3 q4 q5 q6 q7 f8 q_10 q10 f11 m12_0 m12_1 m13_0 m13_1 m14_0 m14_1 m15_0 m15_1 f17 q31 f32 f34 f35 f36 f37 q38 f39 f40 f41 m42_0 m42_1 f43 f44 f47 f48 f49 f50 f51 q54 q55 q56 f57 q58 f59 f60 f64 hx16 hx18 hx19 hg_14 hg_15 hz26_7 (Nat.le_of_ble_eq_true rfl) hx29 hx30 hx33 hx46 hx52 hx53 hx61 hx62 hx63 hx65 hm12_0 hm12_1 hm13_0 hm13_1 hm14_0 hm14_1 hm15_0 hm15_1 hm42_0 hm42_1) (cwV 0 hts g_EM_readCondition1_0_EM_isGood rfl rfl rfl (by decide +kernel) ⟨Nat.le_of_ble_eq_true rfl, Nat.le_of_ble_eq_true rfl⟩) ⟨pu_bl, va_recv hK hP (ci := 9) (q0 := 0) rfl rfl, pu_in hP hK hD⟩ rfl rfl hl.1 rfl (lv_room (Nat.le_of_ble_eq_true rfl)) dX9_readCondition_73 ⟨Nat.le_of_ble_eq_true rfl, Nat.le_of_ble_eq_true rfl⟩) hS (fun q _ h => pu_fr hS hA q h) (pu_fr hS hA) (fun r_38 u t H1 locs ht hvm hw hB hz1 hk1 hS => ?_)
        have hP := pu_keep hP hk1
        clear hk1 hz1 ht hvm
        generalize H1 = H at hP hS ⊢
        obtain ⟨u_39, hu_39, rfl, ju_39, iu_39⟩ := hw
        have hsp := hsp.trans (slet_eq iu_39)
        obtain ⟨JR_46, hJR_46, hsp⟩ := slet_ex hsp
        refine pu_join (fun H locs ls st => ∃ (g_40 : Nat) (g_41 : Int32), st = [] ∧ g_40 ≤ 6 ∧ mu g_14 g_15 ≤ mu x21 x22 ∧ (x22 = 0 ∨ mu g_14 g_15 < mu x21 x22) ∧ (g_40 ≠ 0 ∨ u_23 = 1 ∨ 0 = 1 ∨ 0 = 1) ∧ (g_40, g_41) = JR_46 ∧ va_P (dC, dI) vwCl (mo_w ad ck x0 (nI x16) (nI x18) (nI x19) g_13 (nI g_14) (nI g_15) g_16 x24 x25 (nI g_40) g_41 0 (nI x29) (nI x30) (nI x33) x45 (nI x46) (nI x52) (nI x53) (nI x61) (nI x62) (nI x63) (nI x65) x66 f1 f2 f3 (bN 3 q4) (bN 7 q5) (bN 7 q6) (bN 4 q7) f8 (bN 2 q_10) (bH q10) f11 (b2 m12_0 m12_1) (b2 m13_0 m13_1) (b2 m14_0 m14_1) (b2m m15_0 m15_1) f17 (bA 159 q31) f32 f34 f35 f36 f37 (bN 7 q38) f39 f40 f41 (b2 m42_0 m42_1) f43 f44 f47 f48 f49 f50 f51 (bN 13 q54) (bN 120 q55) (bN 120 q56) f57 (bN 120 q58) f59 f60 f64) H ∧ va_D A (mo_w ad ck x0 (nI x16) (nI x18) (nI x19) g_13 (nI g_14) (nI g_15) g_16 x24 x25 (nI g_40) g_41 0 (nI x29) (nI x30) (nI x33) x45 (nI x46) (nI x52) (nI x53) (nI x61) (nI x62) (nI x63) (nI x65) x66 f1 f2 f3 (bN 3 q4) (bN 7 q5) (bN 7 q6) (bN 4 q7) f8 (bN 2 q_10) (bH q10) f11 (b2 m12_0 m12_1) (b2 m13_0 m13_1) (b2 m14_0 m14_1) (b2m m15_0 m15_1) f17 (bA 159 q31) f32 f34 f35 f36 f37 (bN 7 q38) f39 f40 f41 (b2 m42_0 m42_1) f43 f44 f47 f48 f49 f50 f51 (bN 13 q54) (bN 120 q55) (bN 120 q56) f57 (bN 120 q58) f59 f60 f64) ∧ va_S A s.heap H locs ∧ lv_has ls 7 [(0, .ref (ad 0)), (1, .int (nI a0)), (2, .int 1), (3, .int (nI u_23)), (4, .int 0), (5, .int 0)]) 98 ?_ (fun j_45 => ?_)
        · rintro H locs ls st ⟨g_40, g_41, rfl, hg_40, he_42, he_43, he_44, he_47, hP, hD, hS, hl⟩
          rw [← he_47] at hsp
          refine lv_aload_n hx hb dX9_readCondition_98 rfl (lv_at hl 0 rfl) ?_
          refine va_calli (va_runV (As := []) (rest := []) ⟨hx, hb, hml, hown, hts⟩ (c_EM_isGood l dC dI _ ad ck x0 x16 x18 x19 g_13 g_14 g_15 g_16 x24 x25 g_40 g_41 0 x29 x30 x33 x45 x46 x52 x53 x61 x62 x63 x65 x66 f1 f2 f3 q4 q5 q6 q7 f8 q_10 q10 f11 m12_0 m12_1 m13_0 m13_1 m14_0 m14_1 m15_0 m15_1 f17 q31 f32 f34 f35 f36 f37 q38 f39 f40 f41 m42_0 m42_1 f43 f44 f47 f48 f49 f50 f51 q54 q55 q56 f57 q58 f59 f60 f64 hx16 hx18 hx19 hg_14 hg_15 hg_40 (Nat.le_of_ble_eq_true rfl) hx29 hx30 hx33 hx46 hx52 hx53 hx61 hx62 hx63 hx65 hm12_0 hm12_1 hm13_0 hm13_1 hm14_0 hm14_1 hm15_0 hm15_1 hm42_0 hm42_1) (cwV 0 hts g_EM_readCondition1_0_EM_isGood rfl rfl rfl (by decide +kernel) ⟨Nat.le_of_ble_eq_true rfl, Nat.le_of_ble_eq_true rfl⟩) ⟨pu_bl, va_recv hK hP (ci := 9) (q0 := 0) rfl rfl, pu_in hP hK hD⟩ rfl rfl hl.1 rfl (lv_room (Nat.le_of_ble_eq_true rfl)) dX9_readCondition_99 ⟨Nat.le_of_ble_eq_true rfl, Nat.le_of_ble_eq_true rfl⟩) hS (fun q _ h => pu_fr hS hA q h) (pu_fr hS hA) (fun r_48 u t H1 locs ht hvm hw hB hz1 hk1 hS => ?_)
          have hP := pu_keep hP hk1
          clear hk1 hz1 ht hvm
          generalize H1 = H at hP hS ⊢
          obtain ⟨u_49, hu_49, rfl, ju_49, iu_49⟩ := hw
          have hsp := hsp.trans (slet_eq iu_49)
          refine lv_if_ne (tgt := 106) hx hb dX9_readCondition_102 (by decide) (fun c_50 => ?_) (fun c_50 => ?_)
          · have c_50 : ¬ u_49 = 0 := fun z => c_50 ((nI_eq (a := u_49) (b := 0) (Nat.lt_of_le_of_lt hu_49 (Nat.le_of_ble_eq_true rfl)) (Nat.le_of_ble_eq_true rfl)).mpr z)
            have hsp := hsp.trans (if_neg c_50)
            have hL3 : u_23 = 1 := by omega
            refine lv_aload_n hx hb dX9_readCondition_106 rfl (lv_at hl 0 rfl) ?_
            have hFc := pu_free hD hS hA
            refine va_callv (va_runV (As := []) (rest := []) ⟨hx, hb, hml, hown, hts⟩ (c_EM_next l dC dI _ ad ck x0 x16 x18 x19 g_13 g_14 g_15 g_16 x24 x25 g_40 g_41 0 x29 x30 x33 x45 x46 x52 x53 x61 x62 x63 x65 x66 f1 f2 f3 q4 q5 q6 q7 f8 q_10 q10 f11 m12_0 m12_1 m13_0 m13_1 m14_0 m14_1 m15_0 m15_1 f17 q31 f32 f34 f35 f36 f37 q38 f39 f40 f41 m42_0 m42_1 f43 f44 f47 f48 f49 f50 f51 q54 q55 q56 f57 q58 f59 f60 f64 hx16 hx18 hx19 hg_14 hg_15 hg_40 (Nat.le_of_ble_eq_true rfl) hx29 hx30 hx33 hx46 hx52 hx53 hx61 hx62 hx63 hx65 hm12_0 hm12_1 hm13_0 hm13_1 hm14_0 hm14_1 hm15_0 hm15_1 hm42_0 hm42_1) (cwV 0 hts g_EM_readCondition1_0_EM_next rfl rfl rfl (by decide +kernel) ⟨Nat.le_of_ble_eq_true rfl, Nat.le_of_ble_eq_true rfl⟩) ⟨pu_bl, va_recv hK hP (ci := 9) (q0 := 0) rfl rfl, pu_in hP hK hD⟩ rfl rfl hl.1 rfl (lv_room (Nat.le_of_ble_eq_true rfl)) dX9_readCondition_107 ⟨Nat.le_of_ble_eq_true rfl, Nat.le_of_ble_eq_true rfl⟩) hS (fun q _ h => hFc q h) hFc (fun u t H1 locs ht hvm hw hB hz1 hk1 hS => ?_)
            obtain ⟨z20_52, z21_53, z22_54, z23_55, ⟨hP1, -, hD1⟩, hz21_53, hz22_54, xr_51_0, xr_51_1, xr_51_2⟩ := hB
            rw [ht] at hP1
            have hP := hP1
            have hD := pu_all hFc hD1
            clear hP1 hD1 hFc
            clear hk1 hz1 ht hvm
            generalize H1 = H at hP hS ⊢
            have hsp := hsp.trans (slet_eq xr_51_2)
            refine lv_iload hx hb dX9_readCondition_110 (lv_at hl 5 rfl) ?_
            obtain ⟨JR_60, hJR_60, hsp⟩ := slet_ex hsp
            refine pu_join (fun H locs ls st => ∃ (g_56 : Nat), st = [.int (nI g_56)] ∧ g_56 ≤ 1 ∧ mu z21_53 z22_54 ≤ mu x21 x22 ∧ (x22 = 0 ∨ mu z21_53 z22_54 < mu x21 x22) ∧ g_56 = JR_60 ∧ va_P (dC, dI) vwCl (mo_w ad ck x0 (nI x16) (nI x18) (nI x19) z20_52 (nI z21_53) (nI z22_54) z23_55 x24 x25 (nI g_40) g_41 0 (nI x29) (nI x30) (nI x33) x45 (nI x46) (nI x52) (nI x53) (nI x61) (nI x62) (nI x63) (nI x65) x66 f1 f2 f3 (bN 3 q4) (bN 7 q5) (bN 7 q6) (bN 4 q7) f8 (bN 2 q_10) (bH q10) f11 (b2 m12_0 m12_1) (b2 m13_0 m13_1) (b2 m14_0 m14_1) (b2m m15_0 m15_1) f17 (bA 159 q31) f32 f34 f35 f36 f37 (bN 7 q38) f39 f40 f41 (b2 m42_0 m42_1) f43 f44 f47 f48 f49 f50 f51 (bN 13 q54) (bN 120 q55) (bN 120 q56) f57 (bN 120 q58) f59 f60 f64) H ∧ va_D A (mo_w ad ck x0 (nI x16) (nI x18) (nI x19) z20_52 (nI z21_53) (nI z22_54) z23_55 x24 x25 (nI g_40) g_41 0 (nI x29) (nI x30) (nI x33) x45 (nI x46) (nI x52) (nI x53) (nI x61) (nI x62) (nI x63) (nI x65) x66 f1 f2 f3 (bN 3 q4) (bN 7 q5) (bN 7 q6) (bN 4 q7) f8 (bN 2 q_10) (bH q10) f11 (b2 m12_0 m12_1) (b2 m13_0 m13_1) (b2 m14_0 m14_1) (b2m m15_0 m15_1) f17 (bA 159 q31) f32 f34 f35 f36 f37 (bN 7 q38) f39 f40 f41 (b2 m42_0 m42_1) f43 f44 f47 f48 f49 f50 f51 (bN 13 q54) (bN 120 q55) (bN 120 q56) f57 (bN 120 q58) f59 f60 f64) ∧ va_S A s.heap H locs ∧ lv_has ls 7 [(0, .ref (ad 0)), (1, .int (nI a0)), (2, .int 1), (3, .int (nI u_23)), (4, .int 0), (5, .int 0)]) 129 ?_ (fun j_59 => ?_)
            · rintro H locs ls st ⟨g_56, rfl, hg_56, he_57, he_58, he_61, hP, hD, hS, hl⟩
              rw [← he_61] at hsp
              refine lv_istore (lv' := [(6, .int (nI g_56)), (0, .ref (ad 0)), (1, .int (nI a0)), (2, .int 1), (3, .int (nI u_23)), (4, .int 0), (5, .int 0)]) hx hb dX9_readCondition_129 hl (by decide) rfl (fun ls hl => ?_)
              refine lv_iload hx hb dX9_readCondition_131 (lv_at hl 0 rfl) ?_
              obtain ⟨JR_69, hJR_69, hsp⟩ := slet_ex hsp
              refine pu_join (fun H locs ls st => ∃ (g_62 : Int32) (g_63 : Nat) (g_64 : Nat) (g_65 : Int32), st = [] ∧ g_63 ≤ 900 ∧ g_64 ≤ 4 ∧ mu g_63 g_64 ≤ mu x21 x22 ∧ (x22 = 0 ∨ mu g_63 g_64 < mu x21 x22) ∧ (g_62, g_63, g_64, g_65) = JR_69 ∧ va_P (dC, dI) vwCl (mo_w ad ck x0 (nI x16) (nI x18) (nI x19) g_62 (nI g_63) (nI g_64) g_65 x24 x25 (nI g_40) g_41 0 (nI x29) (nI x30) (nI x33) x45 (nI x46) (nI x52) (nI x53) (nI x61) (nI x62) (nI x63) (nI x65) x66 f1 f2 f3 (bN 3 q4) (bN 7 q5) (bN 7 q6) (bN 4 q7) f8 (bN 2 q_10) (bH q10) f11 (b2 m12_0 m12_1) (b2 m13_0 m13_1) (b2 m14_0 m14_1) (b2m m15_0 m15_1) f17 (bA 159 q31) f32 f34 f35 f36 f37 (bN 7 q38) f39 f40 f41 (b2 m42_0 m42_1) f43 f44 f47 f48 f49 f50 f51 (bN 13 q54) (bN 120 q55) (bN 120 q56) f57 (bN 120 q58) f59 f60 f64) H ∧ va_D A (mo_w ad ck x0 (nI x16) (nI x18) (nI x19) g_62 (nI g_63) (nI g_64) g_65 x24 x25 (nI g_40) g_41 0 (nI x29) (nI x30) (nI x33) x45 (nI x46) (nI x52) (nI x53) (nI x61) (nI x62) (nI x63) (nI x65) x66 f1 f2 f3 (bN 3 q4) (bN 7 q5) (bN 7 q6) (bN 4 q7) f8 (bN 2 q_10) (bH q10) f11 (b2 m12_0 m12_1) (b2 m13_0 m13_1) (b2 m14_0 m14_1) (b2m m15_0 m15_1) f17 (bA 159 q31) f32 f34 f35 f36 f37 (bN 7 q38) f39 f40 f41 (b2 m42_0 m42_1) f43 f44 f47 f48 f49 f50 f51 (bN 13 q54) (bN 120 q55) (bN 120 q56) f57 (bN 120 q58) f59 f60 f64) ∧ va_S A s.heap H locs ∧ lv_has ls 7 [(0, .ref (ad 0)), (1, .int (nI a0)), (2, .int 1), (3, .int (nI u_23)), (4, .int 0), (5, .int 0), (6, .int (nI g_56))]) 140 ?_ (fun j_68 => ?_)
              · rintro H locs ls st ⟨g_62, g_63, g_64, g_65, rfl, hg_63, hg_64, he_66, he_67, he_70, hP, hD, hS, hl⟩
                rw [← he_70] at hsp
                refine lv_aload_n hx hb dX9_readCondition_140 rfl (lv_at hl 0 rfl) ?_
                refine va_get (D := (dC, dI)) (ci := 9) (v := .ref (ad 10)) (C := RX9) (T := TX9) (N := 67) hx hb hts hiX9 hown hK hP 0 rfl rfl 10 (by decide) v_23 (fun _ h9 => h9) rfl dX9_readCondition_141 ?_
                refine lv_iload_n hx hb dX9_readCondition_144 rfl (lv_at hl 1 rfl) ?_
                refine lv_iload hx hb dX9_readCondition_145 (lv_at hl 5 rfl) ?_
                obtain ⟨JR_75, hJR_75, hsp⟩ := slet_ex hsp
                refine pu_join (fun H locs ls st => ∃ (g_71 : Nat), st = [.int (nI g_71), .int (nI a0), .ref (ad 10)] ∧ g_71 ≤ 1 ∧ mu g_63 g_64 ≤ mu x21 x22 ∧ (x22 = 0 ∨ mu g_63 g_64 < mu x21 x22) ∧ g_71 = JR_75 ∧ va_P (dC, dI) vwCl (mo_w ad ck x0 (nI x16) (nI x18) (nI x19) g_62 (nI g_63) (nI g_64) g_65 x24 x25 (nI g_40) g_41 0 (nI x29) (nI x30) (nI x33) x45 (nI x46) (nI x52) (nI x53) (nI x61) (nI x62) (nI x63) (nI x65) x66 f1 f2 f3 (bN 3 q4) (bN 7 q5) (bN 7 q6) (bN 4 q7) f8 (bN 2 q_10) (bH q10) f11 (b2 m12_0 m12_1) (b2 m13_0 m13_1) (b2 m14_0 m14_1) (b2m m15_0 m15_1) f17 (bA 159 q31) f32 f34 f35 f36 f37 (bN 7 q38) f39 f40 f41 (b2 m42_0 m42_1) f43 f44 f47 f48 f49 f50 f51 (bN 13 q54) (bN 120 q55) (bN 120 q56) f57 (bN 120 q58) f59 f60 f64) H ∧ va_D A (mo_w ad ck x0 (nI x16) (nI x18) (nI x19) g_62 (nI g_63) (nI g_64) g_65 x24 x25 (nI g_40) g_41 0 (nI x29) (nI x30) (nI x33) x45 (nI x46) (nI x52) (nI x53) (nI x61) (nI x62) (nI x63) (nI x65) x66 f1 f2 f3 (bN 3 q4) (bN 7 q5) (bN 7 q6) (bN 4 q7) f8 (bN 2 q_10) (bH q10) f11 (b2 m12_0 m12_1) (b2 m13_0 m13_1) (b2 m14_0 m14_1) (b2m m15_0 m15_1) f17 (bA 159 q31) f32 f34 f35 f36 f37 (bN 7 q38) f39 f40 f41 (b2 m42_0 m42_1) f43 f44 f47 f48 f49 f50 f51 (bN 13 q54) (bN 120 q55) (bN 120 q56) f57 (bN 120 q58) f59 f60 f64) ∧ va_S A s.heap H locs ∧ lv_has ls 7 [(0, .ref (ad 0)), (1, .int (nI a0)), (2, .int 1), (3, .int (nI u_23)), (4, .int 0), (5, .int 0), (6, .int (nI g_56))]) 181 ?_ (fun j_74 => ?_)
                · rintro H locs ls st ⟨g_71, rfl, hg_71, he_72, he_73, he_76, hP, hD, hS, hl⟩
                  rw [← he_76] at hsp
                  refine va_iast hx hb hK hP hD hS 10 9 rfl rfl (vp_in_nI (n := a0) (Nat.lt_of_le_of_lt ha0 (Nat.le_of_ble_eq_true rfl)) (Nat.le_of_ble_eq_true rfl)) dX9_readCondition_181 (fun H locs hP hD hS => ?_)
                  obtain ⟨q_77, eq_77, kq_77, xq_77⟩ := bH_upx q10 (i := a0) (v := g_71) (by omega) (by omega)
                  have hP : va_P (dC, dI) vwCl (mo_w ad ck x0 (nI x16) (nI x18) (nI x19) g_62 (nI g_63) (nI g_64) g_65 x24 x25 (nI g_40) g_41 0 (nI x29) (nI x30) (nI x33) x45 (nI x46) (nI x52) (nI x53) (nI x61) (nI x62) (nI x63) (nI x65) x66 f1 f2 f3 (bN 3 q4) (bN 7 q5) (bN 7 q6) (bN 4 q7) f8 (bN 2 q_10) (bH q_77) f11 (b2 m12_0 m12_1) (b2 m13_0 m13_1) (b2 m14_0 m14_1) (b2m m15_0 m15_1) f17 (bA 159 q31) f32 f34 f35 f36 f37 (bN 7 q38) f39 f40 f41 (b2 m42_0 m42_1) f43 f44 f47 f48 f49 f50 f51 (bN 13 q54) (bN 120 q55) (bN 120 q56) f57 (bN 120 q58) f59 f60 f64) H := by rw [← eq_77]; exact hP
                  have hD : va_D A (mo_w ad ck x0 (nI x16) (nI x18) (nI x19) g_62 (nI g_63) (nI g_64) g_65 x24 x25 (nI g_40) g_41 0 (nI x29) (nI x30) (nI x33) x45 (nI x46) (nI x52) (nI x53) (nI x61) (nI x62) (nI x63) (nI x65) x66 f1 f2 f3 (bN 3 q4) (bN 7 q5) (bN 7 q6) (bN 4 q7) f8 (bN 2 q_10) (bH q_77) f11 (b2 m12_0 m12_1) (b2 m13_0 m13_1) (b2 m14_0 m14_1) (b2m m15_0 m15_1) f17 (bA 159 q31) f32 f34 f35 f36 f37 (bN 7 q38) f39 f40 f41 (b2 m42_0 m42_1) f43 f44 f47 f48 f49 f50 f51 (bN 13 q54) (bN 120 q55) (bN 120 q56) f57 (bN 120 q58) f59 f60 f64) := by rw [← eq_77]; exact hD
                  have hsp := hsp.trans (slet_eq xq_77)
                  refine lv_aload_n hx hb dX9_readCondition_182 rfl (lv_at hl 0 rfl) ?_
                  refine va_get (D := (dC, dI)) (ci := 9) (v := .int (nI g_64)) (C := RX9) (T := TX9) (N := 67) hx hb hts hiX9 hown hK hP 0 rfl rfl 22 (by decide) v_24 (fun _ h9 => h9) rfl dX9_readCondition_183 ?_
                  refine lv_iconst (v := 2) hx hb dX9_readCondition_186 (by decide) ?_
                  obtain ⟨JR_83, hJR_83, hsp⟩ := slet_ex hsp
                  refine pu_join (fun H locs ls st => ∃ (g_78 : Nat) (g_79 : Int32), st = [] ∧ g_78 ≤ 6 ∧ mu g_63 g_64 ≤ mu x21 x22 ∧ (x22 = 0 ∨ mu g_63 g_64 < mu x21 x22) ∧ (g_78, g_79) = JR_83 ∧ va_P (dC, dI) vwCl (mo_w ad ck x0 (nI x16) (nI x18) (nI x19) g_62 (nI g_63) (nI g_64) g_65 x24 x25 (nI g_78) g_79 0 (nI x29) (nI x30) (nI x33) x45 (nI x46) (nI x52) (nI x53) (nI x61) (nI x62) (nI x63) (nI x65) x66 f1 f2 f3 (bN 3 q4) (bN 7 q5) (bN 7 q6) (bN 4 q7) f8 (bN 2 q_10) (bH q_77) f11 (b2 m12_0 m12_1) (b2 m13_0 m13_1) (b2 m14_0 m14_1) (b2m m15_0 m15_1) f17 (bA 159 q31) f32 f34 f35 f36 f37 (bN 7 q38) f39 f40 f41 (b2 m42_0 m42_1) f43 f44 f47 f48 f49 f50 f51 (bN 13 q54) (bN 120 q55) (bN 120 q56) f57 (bN 120 q58) f59 f60 f64) H ∧ va_D A (mo_w ad ck x0 (nI x16) (nI x18) (nI x19) g_62 (nI g_63) (nI g_64) g_65 x24 x25 (nI g_78) g_79 0 (nI x29) (nI x30) (nI x33) x45 (nI x46) (nI x52) (nI x53) (nI x61) (nI x62) (nI x63) (nI x65) x66 f1 f2 f3 (bN 3 q4) (bN 7 q5) (bN 7 q6) (bN 4 q7) f8 (bN 2 q_10) (bH q_77) f11 (b2 m12_0 m12_1) (b2 m13_0 m13_1) (b2 m14_0 m14_1) (b2m m15_0 m15_1) f17 (bA 159 q31) f32 f34 f35 f36 f37 (bN 7 q38) f39 f40 f41 (b2 m42_0 m42_1) f43 f44 f47 f48 f49 f50 f51 (bN 13 q54) (bN 120 q55) (bN 120 q56) f57 (bN 120 q58) f59 f60 f64) ∧ va_S A s.heap H locs ∧ lv_has ls 7 [(0, .ref (ad 0)), (1, .int (nI a0)), (2, .int 1), (3, .int (nI u_23)), (4, .int 0), (5, .int 0), (6, .int (nI g_56))]) 212 ?_ (fun j_82 => ?_)
                  · rintro H locs ls st ⟨g_78, g_79, rfl, hg_78, he_80, he_81, he_84, hP, hD, hS, hl⟩
                    rw [← he_84] at hsp
                    refine lv_aload_n hx hb dX9_readCondition_212 rfl (lv_at hl 0 rfl) ?_
                    refine va_get (D := (dC, dI)) (ci := 9) (v := .ref (ad 11)) (C := RX9) (T := TX9) (N := 67) hx hb hts hiX9 hown hK hP 0 rfl rfl 11 (by decide) v_26 (fun _ h9 => h9) rfl dX9_readCondition_213 ?_
                    refine lv_iload_n hx hb dX9_readCondition_216 rfl (lv_at hl 1 rfl) ?_
                    refine lv_aload_n hx hb dX9_readCondition_217 rfl (lv_at hl 0 rfl) ?_
                    refine va_get (D := (dC, dI)) (ci := 9) (v := .int g_65) (C := RX9) (T := TX9) (N := 67) hx hb hts hiX9 hown hK hP 0 rfl rfl 23 (by decide) v_25 (fun _ h9 => h9) rfl dX9_readCondition_218 ?_
                    refine va_iast hx hb hK hP hD hS 11 10 rfl rfl (vp_in_nI (n := a0) (Nat.lt_of_le_of_lt ha0 (Nat.le_of_ble_eq_true rfl)) (Nat.le_of_ble_eq_true rfl)) dX9_readCondition_221 (fun H locs hP hD hS => ?_)
                    obtain ⟨f_85, ef_85, xf_85⟩ := up_x f11 (n := a0) g_65 (Nat.lt_of_le_of_lt ha0 (Nat.le_of_ble_eq_true rfl))
                    have hP : va_P (dC, dI) vwCl (mo_w ad ck x0 (nI x16) (nI x18) (nI x19) g_62 (nI g_63) (nI g_64) g_65 x24 x25 (nI g_78) g_79 0 (nI x29) (nI x30) (nI x33) x45 (nI x46) (nI x52) (nI x53) (nI x61) (nI x62) (nI x63) (nI x65) x66 f1 f2 f3 (bN 3 q4) (bN 7 q5) (bN 7 q6) (bN 4 q7) f8 (bN 2 q_10) (bH q_77) f_85 (b2 m12_0 m12_1) (b2 m13_0 m13_1) (b2 m14_0 m14_1) (b2m m15_0 m15_1) f17 (bA 159 q31) f32 f34 f35 f36 f37 (bN 7 q38) f39 f40 f41 (b2 m42_0 m42_1) f43 f44 f47 f48 f49 f50 f51 (bN 13 q54) (bN 120 q55) (bN 120 q56) f57 (bN 120 q58) f59 f60 f64) H := by rw [← ef_85]; exact hP
                    have hD : va_D A (mo_w ad ck x0 (nI x16) (nI x18) (nI x19) g_62 (nI g_63) (nI g_64) g_65 x24 x25 (nI g_78) g_79 0 (nI x29) (nI x30) (nI x33) x45 (nI x46) (nI x52) (nI x53) (nI x61) (nI x62) (nI x63) (nI x65) x66 f1 f2 f3 (bN 3 q4) (bN 7 q5) (bN 7 q6) (bN 4 q7) f8 (bN 2 q_10) (bH q_77) f_85 (b2 m12_0 m12_1) (b2 m13_0 m13_1) (b2 m14_0 m14_1) (b2m m15_0 m15_1) f17 (bA 159 q31) f32 f34 f35 f36 f37 (bN 7 q38) f39 f40 f41 (b2 m42_0 m42_1) f43 f44 f47 f48 f49 f50 f51 (bN 13 q54) (bN 120 q55) (bN 120 q56) f57 (bN 120 q58) f59 f60 f64) := by rw [← ef_85]; exact hD
                    have hsp := hsp.trans (slet_eq xf_85)
                    refine lv_aload_n hx hb dX9_readCondition_222 rfl (lv_at hl 0 rfl) ?_
                    refine va_calli (va_runV (As := []) (rest := []) ⟨hx, hb, hml, hown, hts⟩ (c_EM_isGood l dC dI _ ad ck x0 x16 x18 x19 g_62 g_63 g_64 g_65 x24 x25 g_78 g_79 0 x29 x30 x33 x45 x46 x52 x53 x61 x62 x63 x65 x66 f1 f2 f3 q4 q5 q6 q7 f8 q_10 q_77 f_85 m12_0 m12_1 m13_0 m13_1 m14_0 m14_1 m15_0 m15_1 f17 q31 f32 f34 f35 f36 f37 q38 f39 f40 f41 m42_0 m42_1 f43 f44 f47 f48 f49 f50 f51 q54 q55 q56 f57 q58 f59 f60 f64 hx16 hx18 hx19 hg_63 hg_64 hg_78 (Nat.le_of_ble_eq_true rfl) hx29 hx30 hx33 hx46 hx52 hx53 hx61 hx62 hx63 hx65 hm12_0 hm12_1 hm13_0 hm13_1 hm14_0 hm14_1 hm15_0 hm15_1 hm42_0 hm42_1) (cwV 0 hts g_EM_readCondition1_0_EM_isGood rfl rfl rfl (by decide +kernel) ⟨Nat.le_of_ble_eq_true rfl, Nat.le_of_ble_eq_true rfl⟩) ⟨pu_bl, va_recv hK hP (ci := 9) (q0 := 0) rfl rfl, pu_in hP hK hD⟩ rfl rfl hl.1 rfl (lv_room (Nat.le_of_ble_eq_true rfl)) dX9_readCondition_223 ⟨Nat.le_of_ble_eq_true rfl, Nat.le_of_ble_eq_true rfl⟩) hS (fun q _ h => pu_fr hS hA q h) (pu_fr hS hA) (fun r_86 u t H1 locs ht hvm hw hB hz1 hk1 hS => ?_)
                    have hP := pu_keep hP hk1
                    clear hk1 hz1 ht hvm
                    generalize H1 = H at hP hS ⊢
                    obtain ⟨u_87, hu_87, rfl, ju_87, iu_87⟩ := hw
                    have hsp := hsp.trans (slet_eq iu_87)
                    refine lv_if_eq (tgt := 233) hx hb dX9_readCondition_226 (by decide) (fun c_88 => ?_) (fun c_88 => ?_)
                    · have c_88 : u_87 = 0 := (nI_eq (a := u_87) (b := 0) (Nat.lt_of_le_of_lt hu_87 (Nat.le_of_ble_eq_true rfl)) (Nat.le_of_ble_eq_true rfl)).mp c_88
                      have hsp := hsp.trans (if_pos c_88)
                      exact W.vret hx hb hr (fun t ht hW => ⟨⟨(), rfl, trivial, ⟨q_77, f_85, q_10, g_62, g_63, g_64, g_65, g_78, g_79, ⟨by rw [ht]; exact hP, va_K.moved hW.alike hK, hD⟩, hg_63, hg_64, hg_78, by omega, by omega, (hsp.symm.trans hRR)⟩⟩, hS.F ht⟩) hS.2.2 dX9_readCondition_233
                    · have c_88 : ¬ u_87 = 0 := fun z => c_88 ((nI_eq (a := u_87) (b := 0) (Nat.lt_of_le_of_lt hu_87 (Nat.le_of_ble_eq_true rfl)) (Nat.le_of_ble_eq_true rfl)).mpr z)
                      have hsp := hsp.trans (if_neg c_88)
                      refine lv_aload_n hx hb dX9_readCondition_229 rfl (lv_at hl 0 rfl) ?_
                      have hFc := pu_free hD hS hA
                      refine va_callv (va_runV (As := []) (rest := []) ⟨hx, hb, hml, hown, hts⟩ (c_EM_next l dC dI _ ad ck x0 x16 x18 x19 g_62 g_63 g_64 g_65 x24 x25 g_78 g_79 0 x29 x30 x33 x45 x46 x52 x53 x61 x62 x63 x65 x66 f1 f2 f3 q4 q5 q6 q7 f8 q_10 q_77 f_85 m12_0 m12_1 m13_0 m13_1 m14_0 m14_1 m15_0 m15_1 f17 q31 f32 f34 f35 f36 f37 q38 f39 f40 f41 m42_0 m42_1 f43 f44 f47 f48 f49 f50 f51 q54 q55 q56 f57 q58 f59 f60 f64 hx16 hx18 hx19 hg_63 hg_64 hg_78 (Nat.le_of_ble_eq_true rfl) hx29 hx30 hx33 hx46 hx52 hx53 hx61 hx62 hx63 hx65 hm12_0 hm12_1 hm13_0 hm13_1 hm14_0 hm14_1 hm15_0 hm15_1 hm42_0 hm42_1) (cwV 0 hts g_EM_readCondition1_0_EM_next rfl rfl rfl (by decide +kernel) ⟨Nat.le_of_ble_eq_true rfl, Nat.le_of_ble_eq_true rfl⟩) ⟨pu_bl, va_recv hK hP (ci := 9) (q0 := 0) rfl rfl, pu_in hP hK hD⟩ rfl rfl hl.1 rfl (lv_room (Nat.le_of_ble_eq_true rfl)) dX9_readCondition_230 ⟨Nat.le_of_ble_eq_true rfl, Nat.le_of_ble_eq_true rfl⟩) hS (fun q _ h => hFc q h) hFc (fun u t H1 locs ht hvm hw hB hz1 hk1 hS => ?_)
                      obtain ⟨z20_90, z21_91, z22_92, z23_93, ⟨hP1, -, hD1⟩, hz21_91, hz22_92, xr_89_0, xr_89_1, xr_89_2⟩ := hB
                      rw [ht] at hP1
                      have hP := hP1
                      have hD := pu_all hFc hD1
                      clear hP1 hD1 hFc
                      clear hk1 hz1 ht hvm
                      generalize H1 = H at hP hS ⊢
                      have hsp := hsp.trans (slet_eq xr_89_2)
                      exact W.vret hx hb hr (fun t ht hW => ⟨⟨(), rfl, trivial, ⟨q_77, f_85, q_10, z20_90, z21_91, z22_92, z23_93, g_78, g_79, ⟨by rw [ht]; exact hP, va_K.moved hW.alike hK, hD⟩, hz21_91, hz22_92, hg_78, by omega, by omega, (hsp.symm.trans hRR)⟩⟩, hS.F ht⟩) hS.2.2 dX9_readCondition_233
                  have hsp := hJR_83
                  refine lv_icmp_eq (tgt := 198) hx hb dX9_readCondition_187 (by decide) (fun c_94 => ?_) (fun c_94 => ?_)
                  · have c_94 : g_64 = 2 := (nI_eq (a := g_64) (b := 2) (Nat.lt_of_le_of_lt hg_64 (Nat.le_of_ble_eq_true rfl)) (Nat.le_of_ble_eq_true rfl)).mp c_94
                    have hsp := hsp.trans (if_pos c_94)
                    refine lv_aload_n hx hb dX9_readCondition_198 rfl (lv_at hl 0 rfl) ?_
                    refine va_get (D := (dC, dI)) (ci := 9) (v := .int g_65) (C := RX9) (T := TX9) (N := 67) hx hb hts hiX9 hown hK hP 0 rfl rfl 23 (by decide) v_25 (fun _ h9 => h9) rfl dX9_readCondition_199 ?_
                    refine lv_bipush (v := 20) hx hb dX9_readCondition_202 (by decide) ?_
                    refine lv_icmp_le (tgt := 212) hx hb dX9_readCondition_204 (by decide) (fun c_95 => ?_) (fun c_95 => ?_)
                    · have hcc_95 := c_95
                      have hsp := hsp.trans (if_pos c_95)
                      exact j_82 _ _ _ _ ⟨g_40, g_41, rfl, hg_40, by omega, by omega, hsp.symm, hP, hD, hS, lv_sub hl [0, 1, 2, 3, 4, 5, 6] rfl⟩
                    · have hcc_95 := c_95
                      have hsp := hsp.trans (if_neg c_95)
                      refine lv_aload_n hx hb dX9_readCondition_207 rfl (lv_at hl 0 rfl) ?_
                      refine lv_iconst (v := 4) hx hb dX9_readCondition_208 (by decide) ?_
                      have hFc := pu_free hD hS hA
                      refine va_callv (va_runV (As := [.int 4]) (rest := []) ⟨hx, hb, hml, hown, hts⟩ (c_EM_fails l dC dI _ ad ck x0 x16 x18 x19 g_62 g_63 g_64 g_65 x24 x25 g_40 g_41 0 x29 x30 x33 x45 x46 x52 x53 x61 x62 x63 x65 x66 f1 f2 f3 q4 q5 q6 q7 f8 q_10 q_77 f11 m12_0 m12_1 m13_0 m13_1 m14_0 m14_1 m15_0 m15_1 f17 q31 f32 f34 f35 f36 f37 q38 f39 f40 f41 m42_0 m42_1 f43 f44 f47 f48 f49 f50 f51 q54 q55 q56 f57 q58 f59 f60 f64 4 hx16 hx18 hx19 hg_63 hg_64 hg_40 (Nat.le_of_ble_eq_true rfl) hx29 hx30 hx33 hx46 hx52 hx53 hx61 hx62 hx63 hx65 hm12_0 hm12_1 hm13_0 hm13_1 hm14_0 hm14_1 hm15_0 hm15_1 hm42_0 hm42_1 (Nat.le_of_ble_eq_true rfl) (by omega)) (cwV 1 hts g_EM_readCondition1_0_EM_fails rfl rfl rfl (by decide +kernel) ⟨Nat.le_of_ble_eq_true rfl, Nat.le_of_ble_eq_true rfl⟩) ⟨pu_bl, va_recv hK hP (ci := 9) (q0 := 0) rfl rfl, pu_in hP hK hD⟩ rfl rfl hl.1 rfl (lv_room (Nat.le_of_ble_eq_true rfl)) dX9_readCondition_209 ⟨Nat.le_of_ble_eq_true rfl, Nat.le_of_ble_eq_true rfl⟩) hS (fun q _ h => hFc q h) hFc (fun u t H1 locs ht hvm hw hB hz1 hk1 hS => ?_)
                      obtain ⟨z26_97, z27_98, ⟨hP1, -, hD1⟩, hz26_97, xr_96_0, xr_96_1⟩ := hB
                      rw [ht] at hP1
                      have hP := hP1
                      have hD := pu_all hFc hD1
                      clear hP1 hD1 hFc
                      clear hk1 hz1 ht hvm
                      generalize H1 = H at hP hS ⊢
                      have hsp := hsp.trans (slet_eq xr_96_1)
                      exact j_82 _ _ _ _ ⟨z26_97, z27_98, rfl, hz26_97, by omega, by omega, hsp.symm, hP, hD, hS, lv_sub hl [0, 1, 2, 3, 4, 5, 6] rfl⟩
                  · have c_94 : ¬ g_64 = 2 := fun z => c_94 ((nI_eq (a := g_64) (b := 2) (Nat.lt_of_le_of_lt hg_64 (Nat.le_of_ble_eq_true rfl)) (Nat.le_of_ble_eq_true rfl)).mpr z)
                    have hsp := hsp.trans (if_neg c_94)
                    refine lv_aload_n hx hb dX9_readCondition_190 rfl (lv_at hl 0 rfl) ?_
                    refine lv_iconst (v := 2) hx hb dX9_readCondition_191 (by decide) ?_
                    have hFc := pu_free hD hS hA
                    refine va_callv (va_runV (As := [.int 2]) (rest := []) ⟨hx, hb, hml, hown, hts⟩ (c_EM_fails l dC dI _ ad ck x0 x16 x18 x19 g_62 g_63 g_64 g_65 x24 x25 g_40 g_41 0 x29 x30 x33 x45 x46 x52 x53 x61 x62 x63 x65 x66 f1 f2 f3 q4 q5 q6 q7 f8 q_10 q_77 f11 m12_0 m12_1 m13_0 m13_1 m14_0 m14_1 m15_0 m15_1 f17 q31 f32 f34 f35 f36 f37 q38 f39 f40 f41 m42_0 m42_1 f43 f44 f47 f48 f49 f50 f51 q54 q55 q56 f57 q58 f59 f60 f64 2 hx16 hx18 hx19 hg_63 hg_64 hg_40 (Nat.le_of_ble_eq_true rfl) hx29 hx30 hx33 hx46 hx52 hx53 hx61 hx62 hx63 hx65 hm12_0 hm12_1 hm13_0 hm13_1 hm14_0 hm14_1 hm15_0 hm15_1 hm42_0 hm42_1 (Nat.le_of_ble_eq_true rfl) (by omega)) (cwV 1 hts g_EM_readCondition1_0_EM_fails rfl rfl rfl (by decide +kernel) ⟨Nat.le_of_ble_eq_true rfl, Nat.le_of_ble_eq_true rfl⟩) ⟨pu_bl, va_recv hK hP (ci := 9) (q0 := 0) rfl rfl, pu_in hP hK hD⟩ rfl rfl hl.1 rfl (lv_room (Nat.le_of_ble_eq_true rfl)) dX9_readCondition_192 ⟨Nat.le_of_ble_eq_true rfl, Nat.le_of_ble_eq_true rfl⟩) hS (fun q _ h => hFc q h) hFc (fun u t H1 locs ht hvm hw hB hz1 hk1 hS => ?_)
                    obtain ⟨z26_100, z27_101, ⟨hP1, -, hD1⟩, hz26_100, xr_99_0, xr_99_1⟩ := hB
                    rw [ht] at hP1
                    have hP := hP1
                    have hD := pu_all hFc hD1
                    clear hP1 hD1 hFc
                    clear hk1 hz1 ht hvm
                    generalize H1 = H at hP hS ⊢
                    have hsp := hsp.trans (slet_eq xr_99_1)
                    refine lv_goto (tgt := 212) hx hb dX9_readCondition_195 (by decide) ?_
                    exact j_82 _ _ _ _ ⟨z26_100, z27_101, rfl, hz26_100, by omega, by omega, hsp.symm, hP, hD, hS, lv_sub hl [0, 1, 2, 3, 4, 5, 6] rfl⟩
                have hsp := hJR_75
                refine lv_if_eq (tgt := 154) hx hb dX9_readCondition_147 (by decide) (fun _ => ?_) (fun z => absurd z (by decide))
                refine lv_iload_n hx hb dX9_readCondition_154 rfl (lv_at hl 3 rfl) ?_
                refine lv_if_eq (tgt := 171) hx hb dX9_readCondition_155 (by decide) (fun c_102 => ?_) (fun c_102 => ?_)
                · have c_102 : u_23 = 0 := (nI_eq (a := u_23) (b := 0) (Nat.lt_of_le_of_lt hu_23 (Nat.le_of_ble_eq_true rfl)) (Nat.le_of_ble_eq_true rfl)).mp c_102
                  exfalso
                  omega
                · have c_102 : ¬ u_23 = 0 := fun z => c_102 ((nI_eq (a := u_23) (b := 0) (Nat.lt_of_le_of_lt hu_23 (Nat.le_of_ble_eq_true rfl)) (Nat.le_of_ble_eq_true rfl)).mpr z)
                  refine lv_iload hx hb dX9_readCondition_158 (lv_at hl 6 rfl) ?_
                  refine lv_if_eq (tgt := 167) hx hb dX9_readCondition_160 (by decide) (fun c_103 => ?_) (fun c_103 => ?_)
                  · have c_103 : g_56 = 0 := (nI_eq (a := g_56) (b := 0) (Nat.lt_of_le_of_lt hg_56 (Nat.le_of_ble_eq_true rfl)) (Nat.le_of_ble_eq_true rfl)).mp c_103
                    have hsp := hsp.trans (if_pos c_103)
                    refine lv_iconst (v := 0) hx hb dX9_readCondition_167 (by decide) ?_
                    refine lv_goto (tgt := 181) hx hb dX9_readCondition_168 (by decide) ?_
                    exact j_74 _ _ _ _ ⟨0, rfl, (Nat.le_of_ble_eq_true rfl), by omega, by omega, hsp.symm, hP, hD, hS, lv_sub hl [0, 1, 2, 3, 4, 5, 6] rfl⟩
                  · have c_103 : ¬ g_56 = 0 := fun z => c_103 ((nI_eq (a := g_56) (b := 0) (Nat.lt_of_le_of_lt hg_56 (Nat.le_of_ble_eq_true rfl)) (Nat.le_of_ble_eq_true rfl)).mpr z)
                    have hsp := hsp.trans (if_neg c_103)
                    refine lv_iconst (v := 1) hx hb dX9_readCondition_163 (by decide) ?_
                    refine lv_goto (tgt := 181) hx hb dX9_readCondition_164 (by decide) ?_
                    exact j_74 _ _ _ _ ⟨1, rfl, (Nat.le_of_ble_eq_true rfl), by omega, by omega, hsp.symm, hP, hD, hS, lv_sub hl [0, 1, 2, 3, 4, 5, 6] rfl⟩
              have hsp := hJR_69
              refine lv_if_eq (tgt := 140) hx hb dX9_readCondition_133 (by decide) (fun c_104 => ?_) (fun c_104 => ?_)
              · have c_104 : g_56 = 0 := (nI_eq (a := g_56) (b := 0) (Nat.lt_of_le_of_lt hg_56 (Nat.le_of_ble_eq_true rfl)) (Nat.le_of_ble_eq_true rfl)).mp c_104
                have hsp := hsp.trans (if_pos c_104)
                exact j_68 _ _ _ _ ⟨z20_52, z21_53, z22_54, z23_55, rfl, hz21_53, hz22_54, by omega, by omega, hsp.symm, hP, hD, hS, lv_sub hl [1, 2, 3, 4, 5, 6, 0] rfl⟩
              · have c_104 : ¬ g_56 = 0 := fun z => c_104 ((nI_eq (a := g_56) (b := 0) (Nat.lt_of_le_of_lt hg_56 (Nat.le_of_ble_eq_true rfl)) (Nat.le_of_ble_eq_true rfl)).mpr z)
                have hsp := hsp.trans (if_neg c_104)
                refine lv_aload_n hx hb dX9_readCondition_136 rfl (lv_at hl 1 rfl) ?_
                have hFc := pu_free hD hS hA
                refine va_callv (va_runV (As := []) (rest := []) ⟨hx, hb, hml, hown, hts⟩ (c_EM_next l dC dI _ ad ck x0 x16 x18 x19 z20_52 z21_53 z22_54 z23_55 x24 x25 g_40 g_41 0 x29 x30 x33 x45 x46 x52 x53 x61 x62 x63 x65 x66 f1 f2 f3 q4 q5 q6 q7 f8 q_10 q10 f11 m12_0 m12_1 m13_0 m13_1 m14_0 m14_1 m15_0 m15_1 f17 q31 f32 f34 f35 f36 f37 q38 f39 f40 f41 m42_0 m42_1 f43 f44 f47 f48 f49 f50 f51 q54 q55 q56 f57 q58 f59 f60 f64 hx16 hx18 hx19 hz21_53 hz22_54 hg_40 (Nat.le_of_ble_eq_true rfl) hx29 hx30 hx33 hx46 hx52 hx53 hx61 hx62 hx63 hx65 hm12_0 hm12_1 hm13_0 hm13_1 hm14_0 hm14_1 hm15_0 hm15_1 hm42_0 hm42_1) (cwV 0 hts g_EM_readCondition1_0_EM_next rfl rfl rfl (by decide +kernel) ⟨Nat.le_of_ble_eq_true rfl, Nat.le_of_ble_eq_true rfl⟩) ⟨pu_bl, va_recv hK hP (ci := 9) (q0 := 0) rfl rfl, pu_in hP hK hD⟩ rfl rfl hl.1 rfl (lv_room (Nat.le_of_ble_eq_true rfl)) dX9_readCondition_137 ⟨Nat.le_of_ble_eq_true rfl, Nat.le_of_ble_eq_true rfl⟩) hS (fun q _ h => hFc q h) hFc (fun u t H1 locs ht hvm hw hB hz1 hk1 hS => ?_)
                obtain ⟨z20_106, z21_107, z22_108, z23_109, ⟨hP1, -, hD1⟩, hz21_107, hz22_108, xr_105_0, xr_105_1, xr_105_2⟩ := hB
                rw [ht] at hP1
                have hP := hP1
                have hD := pu_all hFc hD1
                clear hP1 hD1 hFc
                clear hk1 hz1 ht hvm
                generalize H1 = H at hP hS ⊢
                have hsp := hsp.trans (slet_eq xr_105_2)
                exact j_68 _ _ _ _ ⟨z20_106, z21_107, z22_108, z23_109, rfl, hz21_107, hz22_108, by omega, by omega, hsp.symm, hP, hD, hS, lv_sub hl [1, 2, 3, 4, 5, 6, 0] rfl⟩
            have hsp := hJR_60
            refine lv_if_ne (tgt := 128) hx hb dX9_readCondition_112 (by decide) (fun z => absurd z (by decide)) (fun _ => ?_)
            refine lv_aload_n hx hb dX9_readCondition_115 rfl (lv_at hl 0 rfl) ?_
            refine lv_bipush (v := 61) hx hb dX9_readCondition_116 (by decide) ?_
            refine va_calli (va_runV (As := [.int 61]) (rest := []) ⟨hx, hb, hml, hown, hts⟩ (c_EM_isSign l dC dI _ ad ck x0 x16 x18 x19 z20_52 z21_53 z22_54 z23_55 x24 x25 g_40 g_41 0 x29 x30 x33 x45 x46 x52 x53 x61 x62 x63 x65 x66 f1 f2 f3 q4 q5 q6 q7 f8 q_10 q10 f11 m12_0 m12_1 m13_0 m13_1 m14_0 m14_1 m15_0 m15_1 f17 q31 f32 f34 f35 f36 f37 q38 f39 f40 f41 m42_0 m42_1 f43 f44 f47 f48 f49 f50 f51 q54 q55 q56 f57 q58 f59 f60 f64 61 hx16 hx18 hx19 hz21_53 hz22_54 hg_40 (Nat.le_of_ble_eq_true rfl) hx29 hx30 hx33 hx46 hx52 hx53 hx61 hx62 hx63 hx65 hm12_0 hm12_1 hm13_0 hm13_1 hm14_0 hm14_1 hm15_0 hm15_1 hm42_0 hm42_1) (cwV 1 hts g_EM_readCondition1_0_EM_isSign rfl rfl rfl (by decide +kernel) ⟨Nat.le_of_ble_eq_true rfl, Nat.le_of_ble_eq_true rfl⟩) ⟨pu_bl, va_recv hK hP (ci := 9) (q0 := 0) rfl rfl, pu_in hP hK hD⟩ rfl rfl hl.1 rfl (lv_room (Nat.le_of_ble_eq_true rfl)) dX9_readCondition_118 ⟨Nat.le_of_ble_eq_true rfl, Nat.le_of_ble_eq_true rfl⟩) hS (fun q _ h => pu_fr hS hA q h) (pu_fr hS hA) (fun r_110 u t H1 locs ht hvm hw hB hz1 hk1 hS => ?_)
            have hP := pu_keep hP hk1
            clear hk1 hz1 ht hvm
            generalize H1 = H at hP hS ⊢
            obtain ⟨u_111, hu_111, rfl, ju_111, iu_111⟩ := hw
            have hsp := hsp.trans (slet_eq iu_111)
            refine lv_if_eq (tgt := 128) hx hb dX9_readCondition_121 (by decide) (fun c_112 => ?_) (fun c_112 => ?_)
            · have c_112 : u_111 = 0 := (nI_eq (a := u_111) (b := 0) (Nat.lt_of_le_of_lt hu_111 (Nat.le_of_ble_eq_true rfl)) (Nat.le_of_ble_eq_true rfl)).mp c_112
              have hsp := hsp.trans (if_pos c_112)
              refine lv_iconst (v := 0) hx hb dX9_readCondition_128 (by decide) ?_
              exact j_59 _ _ _ _ ⟨0, rfl, (Nat.le_of_ble_eq_true rfl), by omega, by omega, hsp.symm, hP, hD, hS, lv_sub hl [0, 1, 2, 3, 4, 5] rfl⟩
            · have c_112 : ¬ u_111 = 0 := fun z => c_112 ((nI_eq (a := u_111) (b := 0) (Nat.lt_of_le_of_lt hu_111 (Nat.le_of_ble_eq_true rfl)) (Nat.le_of_ble_eq_true rfl)).mpr z)
              have hsp := hsp.trans (if_neg c_112)
              refine lv_iconst (v := 1) hx hb dX9_readCondition_124 (by decide) ?_
              refine lv_goto (tgt := 129) hx hb dX9_readCondition_125 (by decide) ?_
              exact j_59 _ _ _ _ ⟨1, rfl, (Nat.le_of_ble_eq_true rfl), by omega, by omega, hsp.symm, hP, hD, hS, lv_sub hl [0, 1, 2, 3, 4, 5] rfl⟩
          · have c_50 : u_49 = 0 := (nI_eq (a := u_49) (b := 0) (Nat.lt_of_le_of_lt hu_49 (Nat.le_of_ble_eq_true rfl)) (Nat.le_of_ble_eq_true rfl)).mp c_50
            have hsp := hsp.trans (if_pos c_50)
            exact W.vret hx hb hr (fun t ht hW => ⟨⟨(), rfl, trivial, ⟨q10, f11, q_10, g_13, g_14, g_15, g_16, g_40, g_41, ⟨by rw [ht]; exact hP, va_K.moved hW.alike hK, hD⟩, hg_14, hg_15, hg_40, by omega, by omega, (hsp.symm.trans hRR)⟩⟩, hS.F ht⟩) hS.2.2 dX9_readCondition_105
        have hsp := hJR_46
        refine lv_if_eq (tgt := 98) hx hb dX9_readCondition_76 (by decide) (fun c_113 => ?_) (fun c_113 => ?_)
        · have c_113 : u_39 = 0 := (nI_eq (a := u_39) (b := 0) (Nat.lt_of_le_of_lt hu_39 (Nat.le_of_ble_eq_true rfl)) (Nat.le_of_ble_eq_true rfl)).mp c_113
          have hsp := hsp.trans (if_pos c_113)
          exact j_45 _ _ _ _ ⟨z26_7, z27_8, rfl, hz26_7, by omega, by omega, by omega, hsp.symm, hP, hD, hS, lv_sub hl [1, 2, 3, 4, 5, 0] rfl⟩
        · have c_113 : ¬ u_39 = 0 := fun z => c_113 ((nI_eq (a := u_39) (b := 0) (Nat.lt_of_le_of_lt hu_39 (Nat.le_of_ble_eq_true rfl)) (Nat.le_of_ble_eq_true rfl)).mpr z)
          have hsp := hsp.trans (if_neg c_113)
          refine lv_iload_n hx hb dX9_readCondition_79 rfl (lv_at hl 4 rfl) ?_
          refine lv_if_ne (tgt := 98) hx hb dX9_readCondition_80 (by decide) (fun c_114 => ?_) (fun c_114 => ?_)
          · have c_114 : ¬ u_23 = 0 := fun z => c_114 ((nI_eq (a := u_23) (b := 0) (Nat.lt_of_le_of_lt hu_23 (Nat.le_of_ble_eq_true rfl)) (Nat.le_of_ble_eq_true rfl)).mpr z)
            have hsp := hsp.trans (if_neg c_114)
            exact j_45 _ _ _ _ ⟨z26_7, z27_8, rfl, hz26_7, by omega, by omega, by omega, hsp.symm, hP, hD, hS, lv_sub hl [1, 2, 3, 4, 5, 0] rfl⟩
          · have c_114 : u_23 = 0 := (nI_eq (a := u_23) (b := 0) (Nat.lt_of_le_of_lt hu_23 (Nat.le_of_ble_eq_true rfl)) (Nat.le_of_ble_eq_true rfl)).mp c_114
            have hsp := hsp.trans (if_pos c_114)
            refine lv_iload hx hb dX9_readCondition_83 (lv_at hl 5 rfl) ?_
            refine lv_if_ne (tgt := 98) hx hb dX9_readCondition_85 (by decide) (fun z => absurd z (by decide)) (fun _ => ?_)
            refine lv_iload hx hb dX9_readCondition_88 (lv_at hl 0 rfl) ?_
            refine lv_if_ne (tgt := 98) hx hb dX9_readCondition_90 (by decide) (fun z => absurd z (by decide)) (fun _ => ?_)
            refine lv_aload_n hx hb dX9_readCondition_93 rfl (lv_at hl 1 rfl) ?_
            refine lv_iconst (v := 2) hx hb dX9_readCondition_94 (by decide) ?_
            have hFc := pu_free hD hS hA
            refine va_callv (va_runV (As := [.int 2]) (rest := []) ⟨hx, hb, hml, hown, hts⟩ (c_EM_fails l dC dI _ ad ck x0 x16 x18 x19 g_13 g_14 g_15 g_16 x24 x25 z26_7 z27_8 0 x29 x30 x33 x45 x46 x52 x53 x61 x62 x63 x65 x66 f1 f2 f3 q4 q5 q6 q7 f8 q_10 q10 f11 m12_0 m12_1 m13_0 m13_1 m14_0 m14_1 m15_0 m15_1 f17 q31 f32 f34 f35 f36 f37 q38 f39 f40 f41 m42_0 m42_1 f43 f44 f47 f48 f49 f50 f51 q54 q55 q56 f57 q58 f59 f60 f64 2 hx16 hx18 hx19 hg_14 hg_15 hz26_7 (Nat.le_of_ble_eq_true rfl) hx29 hx30 hx33 hx46 hx52 hx53 hx61 hx62 hx63 hx65 hm12_0 hm12_1 hm13_0 hm13_1 hm14_0 hm14_1 hm15_0 hm15_1 hm42_0 hm42_1 (Nat.le_of_ble_eq_true rfl) (by omega)) (cwV 1 hts g_EM_readCondition1_0_EM_fails rfl rfl rfl (by decide +kernel) ⟨Nat.le_of_ble_eq_true rfl, Nat.le_of_ble_eq_true rfl⟩) ⟨pu_bl, va_recv hK hP (ci := 9) (q0 := 0) rfl rfl, pu_in hP hK hD⟩ rfl rfl hl.1 rfl (lv_room (Nat.le_of_ble_eq_true rfl)) dX9_readCondition_95 ⟨Nat.le_of_ble_eq_true rfl, Nat.le_of_ble_eq_true rfl⟩) hS (fun q _ h => hFc q h) hFc (fun u t H1 locs ht hvm hw hB hz1 hk1 hS => ?_)
            obtain ⟨z26_116, z27_117, ⟨hP1, -, hD1⟩, hz26_116, xr_115_0, xr_115_1⟩ := hB
            rw [ht] at hP1
            have hP := hP1
            have hD := pu_all hFc hD1
            clear hP1 hD1 hFc
            clear hk1 hz1 ht hvm
            generalize H1 = H at hP hS ⊢
            have hsp := hsp.trans (slet_eq xr_115_1)
            exact j_45 _ _ _ _ ⟨z26_116, z27_117, rfl, hz26_116, by omega, by omega, by omega, hsp.symm, hP, hD, hS, lv_sub hl [1, 2, 3, 4, 5, 0] rfl⟩
      have hsp := hJR_36
      refine lv_if_eq (tgt := 69) hx hb dX9_readCondition_58 (by decide) (fun c_118 => ?_) (fun c_118 => ?_)
      · have c_118 : u_32 = 0 := (nI_eq (a := u_32) (b := 0) (Nat.lt_of_le_of_lt hu_32 (Nat.le_of_ble_eq_true rfl)) (Nat.le_of_ble_eq_true rfl)).mp c_118
        have hsp := hsp.trans (if_pos c_118)
        refine lv_iconst (v := 0) hx hb dX9_readCondition_69 (by decide) ?_
        exact j_35 _ _ _ _ ⟨rfl, by omega, by omega, hsp.symm, hP, hD, hS, lv_sub hl [1, 2, 3, 4, 0] rfl⟩
      · have c_118 : ¬ u_32 = 0 := fun z => c_118 ((nI_eq (a := u_32) (b := 0) (Nat.lt_of_le_of_lt hu_32 (Nat.le_of_ble_eq_true rfl)) (Nat.le_of_ble_eq_true rfl)).mpr z)
        have hsp := hsp.trans (if_neg c_118)
        refine lv_iload_n hx hb dX9_readCondition_61 rfl (lv_at hl 3 rfl) ?_
        refine lv_if_ne (tgt := 69) hx hb dX9_readCondition_62 (by decide) (fun _ => ?_) (fun z => absurd z (by decide))
        refine lv_iconst (v := 0) hx hb dX9_readCondition_69 (by decide) ?_
        exact j_35 _ _ _ _ ⟨rfl, by omega, by omega, hsp.symm, hP, hD, hS, lv_sub hl [1, 2, 3, 4, 0] rfl⟩
    have hsp := hJR_29
    refine lv_if_eq (tgt := 49) hx hb dX9_readCondition_38 (by decide) (fun c_119 => ?_) (fun c_119 => ?_)
    · have c_119 : u_25 = 0 := (nI_eq (a := u_25) (b := 0) (Nat.lt_of_le_of_lt hu_25 (Nat.le_of_ble_eq_true rfl)) (Nat.le_of_ble_eq_true rfl)).mp c_119
      have hsp := hsp.trans (if_pos c_119)
      refine lv_iconst (v := 0) hx hb dX9_readCondition_49 (by decide) ?_
      exact j_28 _ _ _ _ ⟨rfl, by omega, by omega, hsp.symm, hP, hD, hS, lv_sub hl [1, 2, 3, 0] rfl⟩
    · have c_119 : ¬ u_25 = 0 := fun z => c_119 ((nI_eq (a := u_25) (b := 0) (Nat.lt_of_le_of_lt hu_25 (Nat.le_of_ble_eq_true rfl)) (Nat.le_of_ble_eq_true rfl)).mpr z)
      have hsp := hsp.trans (if_neg c_119)
      refine lv_iload_n hx hb dX9_readCondition_41 rfl (lv_at hl 3 rfl) ?_
      refine lv_if_ne (tgt := 49) hx hb dX9_readCondition_42 (by decide) (fun _ => ?_) (fun z => absurd z (by decide))
      refine lv_iconst (v := 0) hx hb dX9_readCondition_49 (by decide) ?_
      exact j_28 _ _ _ _ ⟨rfl, by omega, by omega, hsp.symm, hP, hD, hS, lv_sub hl [1, 2, 3, 0] rfl⟩
  have hsp := hJR_20
  refine lv_if_eq (tgt := 25) hx hb dX9_readCondition_18 (by decide) (fun c_120 => ?_) (fun c_120 => ?_)
  · have c_120 : u_12 = 0 := (nI_eq (a := u_12) (b := 0) (Nat.lt_of_le_of_lt hu_12 (Nat.le_of_ble_eq_true rfl)) (Nat.le_of_ble_eq_true rfl)).mp c_120
    have hsp := hsp.trans (if_pos c_120)
    exact j_19 _ _ _ _ ⟨z20_2, z21_3, z22_4, z23_5, rfl, hz21_3, hz22_4, by omega, by omega, hsp.symm, hP, hD, hS, lv_sub hl [0, 1, 2] rfl⟩
  · have c_120 : ¬ u_12 = 0 := fun z => c_120 ((nI_eq (a := u_12) (b := 0) (Nat.lt_of_le_of_lt hu_12 (Nat.le_of_ble_eq_true rfl)) (Nat.le_of_ble_eq_true rfl)).mpr z)
    have hsp := hsp.trans (if_neg c_120)
    refine lv_aload_n hx hb dX9_readCondition_21 rfl (lv_at hl 0 rfl) ?_
    have hFc := pu_free hD hS hA
    refine va_callv (va_runV (As := []) (rest := []) ⟨hx, hb, hml, hown, hts⟩ (c_EM_next l dC dI _ ad ck x0 x16 x18 x19 z20_2 z21_3 z22_4 z23_5 x24 x25 z26_7 z27_8 0 x29 x30 x33 x45 x46 x52 x53 x61 x62 x63 x65 x66 f1 f2 f3 q4 q5 q6 q7 f8 q_10 q10 f11 m12_0 m12_1 m13_0 m13_1 m14_0 m14_1 m15_0 m15_1 f17 q31 f32 f34 f35 f36 f37 q38 f39 f40 f41 m42_0 m42_1 f43 f44 f47 f48 f49 f50 f51 q54 q55 q56 f57 q58 f59 f60 f64 hx16 hx18 hx19 hz21_3 hz22_4 hz26_7 (Nat.le_of_ble_eq_true rfl) hx29 hx30 hx33 hx46 hx52 hx53 hx61 hx62 hx63 hx65 hm12_0 hm12_1 hm13_0 hm13_1 hm14_0 hm14_1 hm15_0 hm15_1 hm42_0 hm42_1) (cwV 0 hts g_EM_readCondition1_0_EM_next rfl rfl rfl (by decide +kernel) ⟨Nat.le_of_ble_eq_true rfl, Nat.le_of_ble_eq_true rfl⟩) ⟨pu_bl, va_recv hK hP (ci := 9) (q0 := 0) rfl rfl, pu_in hP hK hD⟩ rfl rfl hl.1 rfl (lv_room (Nat.le_of_ble_eq_true rfl)) dX9_readCondition_22 ⟨Nat.le_of_ble_eq_true rfl, Nat.le_of_ble_eq_true rfl⟩) hS (fun q _ h => hFc q h) hFc (fun u t H1 locs ht hvm hw hB hz1 hk1 hS => ?_)
    obtain ⟨z20_122, z21_123, z22_124, z23_125, ⟨hP1, -, hD1⟩, hz21_123, hz22_124, xr_121_0, xr_121_1, xr_121_2⟩ := hB
    rw [ht] at hP1
    have hP := hP1
    have hD := pu_all hFc hD1
    clear hP1 hD1 hFc
    clear hk1 hz1 ht hvm
    generalize H1 = H at hP hS ⊢
    have hsp := hsp.trans (slet_eq xr_121_2)
    exact j_19 _ _ _ _ ⟨z20_122, z21_123, z22_124, z23_125, rfl, hz21_123, hz22_124, by omega, by omega, hsp.symm, hP, hD, hS, lv_sub hl [0, 1, 2] rfl⟩
