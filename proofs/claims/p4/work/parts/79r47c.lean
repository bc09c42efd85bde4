theorem dX9_manyOf_0 : decode cX9_manyOf 0 = .ok (.aload_n 0, 1) := by decide +kernel
theorem dX9_manyOf_1 : decode cX9_manyOf 1 = .ok (.iload_n 1, 1) := by decide +kernel
theorem dX9_manyOf_2 : decode cX9_manyOf 2 = .ok (.invokevirtual 283, 3) := by decide +kernel
theorem dX9_manyOf_5 : decode cX9_manyOf 5 = .ok (.ifCond .eq 20, 3) := by decide +kernel
theorem dX9_manyOf_8 : decode cX9_manyOf 8 = .ok (.aload_n 0, 1) := by decide +kernel
theorem dX9_manyOf_9 : decode cX9_manyOf 9 = .ok (.getfield 28, 3) := by decide +kernel
theorem dX9_manyOf_12 : decode cX9_manyOf 12 = .ok (.bipush 14, 2) := by decide +kernel
theorem dX9_manyOf_14 : decode cX9_manyOf 14 = .ok (.aload_n 0, 1) := by decide +kernel
theorem dX9_manyOf_15 : decode cX9_manyOf 15 = .ok (.getfield 258, 3) := by decide +kernel
theorem dX9_manyOf_18 : decode cX9_manyOf 18 = .ok (.imul, 1) := by decide +kernel
theorem dX9_manyOf_19 : decode cX9_manyOf 19 = .ok (.iload_n 1, 1) := by decide +kernel
theorem dX9_manyOf_20 : decode cX9_manyOf 20 = .ok (.iadd, 1) := by decide +kernel
theorem dX9_manyOf_21 : decode cX9_manyOf 21 = .ok (.iaload, 1) := by decide +kernel
theorem dX9_manyOf_22 : decode cX9_manyOf 22 = .ok (.goto 35, 3) := by decide +kernel
theorem dX9_manyOf_25 : decode cX9_manyOf 25 = .ok (.aload_n 0, 1) := by decide +kernel
theorem dX9_manyOf_26 : decode cX9_manyOf 26 = .ok (.iload_n 1, 1) := by decide +kernel
theorem dX9_manyOf_27 : decode cX9_manyOf 27 = .ok (.bipush 100, 2) := by decide +kernel
theorem dX9_manyOf_29 : decode cX9_manyOf 29 = .ok (.isub, 1) := by decide +kernel
theorem dX9_manyOf_30 : decode cX9_manyOf 30 = .ok (.invokevirtual 286, 3) := by decide +kernel
theorem dX9_manyOf_33 : decode cX9_manyOf 33 = .ok (.ifCond .eq 23, 3) := by decide +kernel
theorem dX9_manyOf_56 : decode cX9_manyOf 56 = .ok (.iconst (-1), 1) := by decide +kernel
theorem dX9_manyOf_57 : decode cX9_manyOf 57 = .ok (.ireturn, 1) := by decide +kernel
abbrev vs_M_manyOf_e : List Cond := .code yX9_manyOf cX9_manyOf 2 (some .int) :: VM
theorem g_M_manyOf_e_M_isEdge_k : GoodIn vs_M_manyOf_e (wsV RX9 283 RX9 yX9_isEdge vs_M_isEdge_k) := gm_V vm_158 vm_159 vm_160 vm_12 vm_156
theorem g_M_manyOf_e_M_isPlace : GoodIn vs_M_manyOf_e (wsV RX9 286 RX9 yX9_isPlace vs_M_isPlace) := gm_V vm_161 vm_162 vm_163 vm_12 vm_155
set_option maxHeartbeats 4000000 in
set_option maxRecDepth 100000 in
theorem c_M_manyOf_e (l : Launch) (dC : Nat → ClassId) (dI : Nat → Nat → Nat) (sz : Nat) (ad : Nat → Nat) (ck : Nat → ClassId) (x0 : Int32) (x16 : Nat) (x18 : Nat) (x19 : Nat) (x20 : Int32) (x21 : Nat) (x22 : Nat) (x23 : Int32) (x24 : Int32) (x25 : Int32) (x26 : Nat) (x27 : Int32) (x28 : Nat) (x29 : Nat) (x30 : Nat) (x33 : Nat) (x45 : Int32) (x46 : Nat) (x52 : Nat) (x53 : Nat) (x61 : Nat) (x62 : Nat) (x63 : Nat) (x65 : Nat) (x66 : Int32) (f1 : Nat → Int32) (f2 : Nat → Int32) (f3 : Nat → Int32) (q4 : Nat → Nat) (q5 : Nat → Nat) (q6 : Nat → Nat) (q7 : Nat → Nat) (f8 : Nat → Int32) (q9 : Nat → Nat) (q10 : Nat → Nat) (f11 : Nat → Int32) (m12_0 m12_1 : Nat) (m13_0 m13_1 : Nat) (m14_0 m14_1 : Nat) (m15_0 m15_1 : Nat) (f17 : Nat → Int32) (q31 : Nat → Nat) (f32 : Nat → Int32) (f34 : Nat → Int32) (f35 : Nat → Int32) (f36 : Nat → Int32) (f37 : Nat → Int32) (q38 : Nat → Nat) (f39 : Nat → Int32) (f40 : Nat → Int32) (f41 : Nat → Int32) (m42_0 m42_1 : Nat) (f43 : Nat → Int32) (f44 : Nat → Int32) (f47 : Nat → Int32) (f48 : Nat → Int32) (f49 : Nat → Int32) (f50 : Nat → Int32) (f51 : Nat → Int32) (q54 : Nat → Nat) (q55 : Nat → Nat) (q56 : Nat → Nat) (f57 : Nat → Int32) (q58 : Nat → Nat) (f59 : Nat → Int32) (f60 : Nat → Int32) (f64 : Nat → Int32) (a0 : Nat) (hx16 : x16 ≤ 1) (hx18 : x18 ≤ 900) (hx19 : x19 ≤ 900) (hx21 : x21 ≤ 900) (hx22 : x22 ≤ 4) (hx26 : x26 ≤ 6) (hx28 : x28 ≤ 1) (hx29 : x29 ≤ 1) (hx30 : x30 ≤ 1) (hx33 : x33 ≤ 20) (hx46 : x46 ≤ 5) (hx52 : x52 ≤ 2400) (hx53 : x53 ≤ 119) (hx61 : x61 ≤ 119) (hx62 : x62 ≤ 2000) (hx63 : x63 ≤ 1) (hx65 : x65 ≤ 7) (hm12_0 : m12_0 ≤ 3) (hm12_1 : m12_1 ≤ 3) (hm13_0 : m13_0 ≤ 8) (hm13_1 : m13_1 ≤ 8) (hm14_0 : m14_0 ≤ 14) (hm14_1 : m14_1 ≤ 14) (hm15_0 : m15_0 ≤ 8) (hm15_1 : m15_1 ≤ 8) (hm42_0 : m42_0 ≤ 120) (hm42_1 : m42_1 ≤ 400) (ha0 : a0 ≤ 13) : Met l yX9_manyOf vs_M_manyOf_e ({ frames := 2, cells := 0, slots := 0, locals := 43 }) (va_Pc [.ref (ad 0), .int (nI a0)] (pu_B (dC, dI) (mo_w ad ck x0 (nI x16) (nI x18) (nI x19) x20 (nI x21) (nI x22) x23 x24 x25 (nI x26) x27 (nI x28) (nI x29) (nI x30) (nI x33) x45 (nI x46) (nI x52) (nI x53) (nI x61) (nI x62) (nI x63) (nI x65) x66 f1 f2 f3 (bN 3 q4) (bN 7 q5) (bN 7 q6) (bN 4 q7) f8 (bN 2 q9) (bH q10) f11 (b2 m12_0 m12_1) (b2 m13_0 m13_1) (b2 m14_0 m14_1) (b2m m15_0 m15_1) f17 (bA 159 q31) f32 f34 f35 f36 f37 (bN 7 q38) f39 f40 f41 (b2 m42_0 m42_1) f43 f44 f47 f48 f49 f50 f51 (bN 13 q54) (bN 120 q55) (bN 120 q56) f57 (bN 120 q58) f59 f60 f64) (mo_t ck) sz)) (va_Qi (fun (r : Int32) (_ : Unit) => r = -1 ∨ ∃ v : Nat, v ≤ 4 ∧ r = nI v) (fun _ _ => True) (va_A [] sz)) 0 0 (va_A [] sz) := by
  refine Met.ofW (cc := cX9_manyOf) (maxL := 2) (ret := (some .int)) (by decide) rfl ?_
  intro p e s m args below meth c s₁ B hml hv
  obtain ⟨rfl, rfl, hP, hK, hD0⟩ := hv
  have hx := B.exec
  have hb := B.bytes
  have hr := B.returns
  have hts := atoms_spec (ws := vs_M_manyOf_e) B.pre
  have v_10 := hts (.fieldLink RX9 28 "ClockReachModel" "whens" "[I") (List.mem_cons_of_mem _ vm_129)
  have v_11 := hts (.fieldLink RX9 258 "ClockReachModel" "bank" "I") (List.mem_cons_of_mem _ vm_22)
  have hown : s.vm.findClass RX9 = some m.cls := findClass_of_methodNamed B.named
  have hlocks := B.notSynchronized
  have hiX9 : ∀ w ∈ wsX90, w ∈ vs_M_manyOf_e := fun _ h => List.mem_cons_of_mem _ (List.mem_append_right _ h)
  have hD := hD0
  have hA : ∀ q : Nat, s.heap.size ≤ q → va_A [] s.heap.size q := fun _ h => Or.inr h
  have hS : va_S (va_A [] s.heap.size) s.heap s.heap [] := va_S.rf
  have hl := lv_entry ([.ref (ad 0), .int (nI a0)]) (n := 2) (Nat.le_of_ble_eq_true rfl)
  rw [lg_entry_eq]
  generalize (lg_sl ([.ref (ad 0), .int (nI a0)]) ++ List.replicate (2 - (lg_sl ([.ref (ad 0), .int (nI a0)])).length) Slot.unset).toArray = ls at hl ⊢
  have hl : lv_has ls 2 [(0, .ref (ad 0)), (1, .int (nI a0))] := hl
  refine lv_aload_n hx hb dX9_manyOf_0 rfl (lv_at hl 0 rfl) ?_
  refine lv_iload_n hx hb dX9_manyOf_1 rfl (lv_at hl 1 rfl) ?_
  refine va_calli (va_runV (As := [.int (nI a0)]) (rest := []) ⟨hx, hb, hml, hown, hts⟩ (c_M_isEdge_k l dC dI _ ad ck x0 x16 x18 x19 x20 x21 x22 x23 x24 x25 x26 x27 x28 x29 x30 x33 x45 x46 x52 x53 x61 x62 x63 x65 x66 f1 f2 f3 q4 q5 q6 q7 f8 q9 q10 f11 m12_0 m12_1 m13_0 m13_1 m14_0 m14_1 m15_0 m15_1 f17 q31 f32 f34 f35 f36 f37 q38 f39 f40 f41 m42_0 m42_1 f43 f44 f47 f48 f49 f50 f51 q54 q55 q56 f57 q58 f59 f60 f64 a0 hx16 hx18 hx19 hx21 hx22 hx26 hx28 hx29 hx30 hx33 hx46 hx52 hx53 hx61 hx62 hx63 hx65 hm12_0 hm12_1 hm13_0 hm13_1 hm14_0 hm14_1 hm15_0 hm15_1 hm42_0 hm42_1 ha0) (cwV 1 hts g_M_manyOf_e_M_isEdge_k rfl rfl rfl (by decide +kernel) ⟨Nat.le_of_ble_eq_true rfl, Nat.le_of_ble_eq_true rfl⟩) ⟨pu_bl, va_recv hK hP (ci := 9) (q0 := 0) rfl rfl, pu_in hP hK hD⟩ rfl rfl hl.1 rfl (lv_room (Nat.le_of_ble_eq_true rfl)) dX9_manyOf_2 ⟨Nat.le_of_ble_eq_true rfl, Nat.le_of_ble_eq_true rfl⟩) hS (fun q _ h => pu_fr hS hA q h) (pu_fr hS hA) (fun r_1 u t H1 locs ht hvm hw hB hz1 hk1 hS => ?_)
  have hP := pu_keep hP hk1
  clear hk1 hz1 ht hvm
  generalize H1 = H at hP hS ⊢
  obtain ⟨u_2, hu_2, rfl⟩ := hw
  refine lv_if_eq (tgt := 25) hx hb dX9_manyOf_5 (by decide) (fun c_3 => ?_) (fun c_3 => ?_)
  · have c_3 : u_2 = 0 := (nI_eq (a := u_2) (b := 0) (Nat.lt_of_le_of_lt hu_2 (Nat.le_of_ble_eq_true rfl)) (Nat.le_of_ble_eq_true rfl)).mp c_3
    refine lv_aload_n hx hb dX9_manyOf_25 rfl (lv_at hl 0 rfl) ?_
    refine lv_iload_n hx hb dX9_manyOf_26 rfl (lv_at hl 1 rfl) ?_
    refine lv_bipush (v := 100) hx hb dX9_manyOf_27 (by decide) ?_
    refine lv_isub hx hb dX9_manyOf_29 ?_
    refine lv_topi (fun y_4 ey_4 => ?_)
    refine va_calli (va_runV (As := [.int y_4]) (rest := []) ⟨hx, hb, hml, hown, hts⟩ (c_M_isPlace l dC dI _ ad ck x0 x16 x18 x19 x20 x21 x22 x23 x24 x25 x26 x27 x28 x29 x30 x33 x45 x46 x52 x53 x61 x62 x63 x65 x66 f1 f2 f3 q4 q5 q6 q7 f8 q9 q10 f11 m12_0 m12_1 m13_0 m13_1 m14_0 m14_1 m15_0 m15_1 f17 q31 f32 f34 f35 f36 f37 q38 f39 f40 f41 m42_0 m42_1 f43 f44 f47 f48 f49 f50 f51 q54 q55 q56 f57 q58 f59 f60 f64 y_4 hx16 hx18 hx19 hx21 hx22 hx26 hx28 hx29 hx30 hx33 hx46 hx52 hx53 hx61 hx62 hx63 hx65 hm12_0 hm12_1 hm13_0 hm13_1 hm14_0 hm14_1 hm15_0 hm15_1 hm42_0 hm42_1) (cwV 1 hts g_M_manyOf_e_M_isPlace rfl rfl rfl (by decide +kernel) ⟨Nat.le_of_ble_eq_true rfl, Nat.le_of_ble_eq_true rfl⟩) ⟨pu_bl, va_recv hK hP (ci := 9) (q0 := 0) rfl rfl, pu_in hP hK hD⟩ rfl rfl hl.1 rfl (lv_room (Nat.le_of_ble_eq_true rfl)) dX9_manyOf_30 ⟨Nat.le_of_ble_eq_true rfl, Nat.le_of_ble_eq_true rfl⟩) hS (fun q _ h => pu_fr hS hA q h) (pu_fr hS hA) (fun r_5 u t H1 locs ht hvm hw hB hz1 hk1 hS => ?_)
    have hP := pu_keep hP hk1
    clear hk1 hz1 ht hvm
    generalize H1 = H at hP hS ⊢
    rcases hw with ⟨rfl, hw⟩ | rfl
    · obtain ⟨n_6, hn_6, rfl⟩ := hw
      exfalso
      have hz := (nI_eq (a := a0) (by omega) (by omega)).mp (pu_p100 ey_4)
      omega
    · refine lv_if_eq (tgt := 56) hx hb dX9_manyOf_33 (by decide) (fun _ => ?_) (fun z => absurd z (by decide))
      refine lv_iconst (v := (-1)) hx hb dX9_manyOf_56 (by decide) ?_
      exact W.iret (v := (-1)) hx hb hr (fun t ht hW => ⟨⟨(-1), (), rfl, Or.inl rfl, trivial⟩, hS.F ht⟩) hS.2.2 dX9_manyOf_57
  · have c_3 : ¬ u_2 = 0 := fun z => c_3 ((nI_eq (a := u_2) (b := 0) (Nat.lt_of_le_of_lt hu_2 (Nat.le_of_ble_eq_true rfl)) (Nat.le_of_ble_eq_true rfl)).mpr z)
    refine lv_aload_n hx hb dX9_manyOf_8 rfl (lv_at hl 0 rfl) ?_
    refine va_get (D := (dC, dI)) (ci := 9) (v := .ref (ad 7)) (C := RX9) (T := TX9) (N := 67) hx hb hts hiX9 hown hK hP 0 rfl rfl 7 (by decide) v_10 (fun _ h9 => h9) rfl dX9_manyOf_9 ?_
    refine lv_bipush (v := 14) hx hb dX9_manyOf_12 (by decide) ?_
    refine lv_aload_n hx hb dX9_manyOf_14 rfl (lv_at hl 0 rfl) ?_
    refine va_get (D := (dC, dI)) (ci := 9) (v := .int (nI x16)) (C := RX9) (T := TX9) (N := 67) hx hb hts hiX9 hown hK hP 0 rfl rfl 16 (by decide) v_11 (fun _ h9 => h9) rfl dX9_manyOf_15 ?_
    refine lv_imul hx hb dX9_manyOf_18 ?_
    refine lv_topi (fun y_7 ey_7 => ?_)
    obtain rfl : y_7 = (nI (14 * x16)) := ey_7.trans (pk_mul 14 x16)
    refine lv_iload_n hx hb dX9_manyOf_19 rfl (lv_at hl 1 rfl) ?_
    refine lv_iadd hx hb dX9_manyOf_20 ?_
    refine lv_topi (fun y_8 ey_8 => ?_)
    obtain rfl : y_8 = (nI ((14 * x16) + a0)) := ey_8.trans (nI_add (14 * x16) a0)
    refine va_iald hx hb hK hP 7 6 rfl rfl (vp_in_nI (n := ((14 * x16) + a0)) (by omega) (Nat.le_of_ble_eq_true rfl)) dX9_manyOf_21 ?_
    refine lv_topi (fun y_9 ey_9 => ?_)
    obtain ⟨u_10, hu_10, qu_10⟩ := bN_get 4 q7 (((nI ((14 * x16) + a0)) : Int32).toNatClampNeg)
    obtain rfl : y_9 = nI u_10 := ey_9.trans qu_10
    refine lv_goto (tgt := 57) hx hb dX9_manyOf_22 (by decide) ?_
    exact W.iret (v := (nI u_10)) hx hb hr (fun t ht hW => ⟨⟨(nI u_10), (), rfl, Or.inr ⟨u_10, by omega, rfl⟩, trivial⟩, hS.F ht⟩) hS.2.2 dX9_manyOf_57
theorem dX9_manyOf_36 : decode cX9_manyOf 36 = .ok (.aload_n 0, 1) := by decide +kernel
theorem dX9_manyOf_37 : decode cX9_manyOf 37 = .ok (.getfield 19, 3) := by decide +kernel
theorem dX9_manyOf_40 : decode cX9_manyOf 40 = .ok (.bipush 8, 2) := by decide +kernel
theorem dX9_manyOf_42 : decode cX9_manyOf 42 = .ok (.aload_n 0, 1) := by decide +kernel
theorem dX9_manyOf_43 : decode cX9_manyOf 43 = .ok (.getfield 258, 3) := by decide +kernel
theorem dX9_manyOf_46 : decode cX9_manyOf 46 = .ok (.imul, 1) := by decide +kernel
theorem dX9_manyOf_47 : decode cX9_manyOf 47 = .ok (.iload_n 1, 1) := by decide +kernel
theorem dX9_manyOf_48 : decode cX9_manyOf 48 = .ok (.iadd, 1) := by decide +kernel
theorem dX9_manyOf_49 : decode cX9_manyOf 49 = .ok (.bipush 100, 2) := by decide +kernel
theorem dX9_manyOf_51 : decode cX9_manyOf 51 = .ok (.isub, 1) := by decide +kernel
theorem dX9_manyOf_52 : decode cX9_manyOf 52 = .ok (.iaload, 1) := by decide +kernel
theorem dX9_manyOf_53 : decode cX9_manyOf 53 = .ok (.goto 4, 3) := by decide +kernel
abbrev vs_M_manyOf_p : List Cond := .code yX9_manyOf cX9_manyOf 2 (some .int) :: VM
theorem g_M_manyOf_p_M_isEdge_z : GoodIn vs_M_manyOf_p (wsV RX9 283 RX9 yX9_isEdge vs_M_isEdge_z) := gm_V vm_158 vm_159 vm_160 vm_12 vm_156
theorem g_M_manyOf_p_M_isPlace_k : GoodIn vs_M_manyOf_p (wsV RX9 286 RX9 yX9_isPlace vs_M_isPlace_k) := gm_V vm_161 vm_162 vm_163 vm_12 vm_155
set_option maxHeartbeats 4000000 in
set_option maxRecDepth 100000 in
theorem c_M_manyOf_p (l : Launch) (dC : Nat → ClassId) (dI : Nat → Nat → Nat) (sz : Nat) (ad : Nat → Nat) (ck : Nat → ClassId) (x0 : Int32) (x16 : Nat) (x18 : Nat) (x19 : Nat) (x20 : Int32) (x21 : Nat) (x22 : Nat) (x23 : Int32) (x24 : Int32) (x25 : Int32) (x26 : Nat) (x27 : Int32) (x28 : Nat) (x29 : Nat) (x30 : Nat) (x33 : Nat) (x45 : Int32) (x46 : Nat) (x52 : Nat) (x53 : Nat) (x61 : Nat) (x62 : Nat) (x63 : Nat) (x65 : Nat) (x66 : Int32) (f1 : Nat → Int32) (f2 : Nat → Int32) (f3 : Nat → Int32) (q4 : Nat → Nat) (q5 : Nat → Nat) (q6 : Nat → Nat) (q7 : Nat → Nat) (f8 : Nat → Int32) (q9 : Nat → Nat) (q10 : Nat → Nat) (f11 : Nat → Int32) (m12_0 m12_1 : Nat) (m13_0 m13_1 : Nat) (m14_0 m14_1 : Nat) (m15_0 m15_1 : Nat) (f17 : Nat → Int32) (q31 : Nat → Nat) (f32 : Nat → Int32) (f34 : Nat → Int32) (f35 : Nat → Int32) (f36 : Nat → Int32) (f37 : Nat → Int32) (q38 : Nat → Nat) (f39 : Nat → Int32) (f40 : Nat → Int32) (f41 : Nat → Int32) (m42_0 m42_1 : Nat) (f43 : Nat → Int32) (f44 : Nat → Int32) (f47 : Nat → Int32) (f48 : Nat → Int32) (f49 : Nat → Int32) (f50 : Nat → Int32) (f51 : Nat → Int32) (q54 : Nat → Nat) (q55 : Nat → Nat) (q56 : Nat → Nat) (f57 : Nat → Int32) (q58 : Nat → Nat) (f59 : Nat → Int32) (f60 : Nat → Int32) (f64 : Nat → Int32) (a0 : Nat) (hx16 : x16 ≤ 1) (hx18 : x18 ≤ 900) (hx19 : x19 ≤ 900) (hx21 : x21 ≤ 900) (hx22 : x22 ≤ 4) (hx26 : x26 ≤ 6) (hx28 : x28 ≤ 1) (hx29 : x29 ≤ 1) (hx30 : x30 ≤ 1) (hx33 : x33 ≤ 20) (hx46 : x46 ≤ 5) (hx52 : x52 ≤ 2400) (hx53 : x53 ≤ 119) (hx61 : x61 ≤ 119) (hx62 : x62 ≤ 2000) (hx63 : x63 ≤ 1) (hx65 : x65 ≤ 7) (hm12_0 : m12_0 ≤ 3) (hm12_1 : m12_1 ≤ 3) (hm13_0 : m13_0 ≤ 8) (hm13_1 : m13_1 ≤ 8) (hm14_0 : m14_0 ≤ 14) (hm14_1 : m14_1 ≤ 14) (hm15_0 : m15_0 ≤ 8) (hm15_1 : m15_1 ≤ 8) (hm42_0 : m42_0 ≤ 120) (hm42_1 : m42_1 ≤ 400) (ha0 : a0 ≤ 107) (hb0 : 100 ≤ a0) : Met l yX9_manyOf vs_M_manyOf_p ({ frames := 2, cells := 0, slots := 0, locals := 43 }) (va_Pc [.ref (ad 0), .int (nI a0)] (pu_B (dC, dI) (mo_w ad ck x0 (nI x16) (nI x18) (nI x19) x20 (nI x21) (nI x22) x23 x24 x25 (nI x26) x27 (nI x28) (nI x29) (nI x30) (nI x33) x45 (nI x46) (nI x52) (nI x53) (nI x61) (nI x62) (nI x63) (nI x65) x66 f1 f2 f3 (bN 3 q4) (bN 7 q5) (bN 7 q6) (bN 4 q7) f8 (bN 2 q9) (bH q10) f11 (b2 m12_0 m12_1) (b2 m13_0 m13_1) (b2 m14_0 m14_1) (b2m m15_0 m15_1) f17 (bA 159 q31) f32 f34 f35 f36 f37 (bN 7 q38) f39 f40 f41 (b2 m42_0 m42_1) f43 f44 f47 f48 f49 f50 f51 (bN 13 q54) (bN 120 q55) (bN 120 q56) f57 (bN 120 q58) f59 f60 f64) (mo_t ck) sz)) (va_Qi (fun (r : Int32) (_ : Unit) => r = -1 ∨ ∃ v : Nat, v ≤ 3 ∧ r = nI v) (fun _ _ => True) (va_A [] sz)) 0 0 (va_A [] sz) := by
  refine Met.ofW (cc := cX9_manyOf) (maxL := 2) (ret := (some .int)) (by decide) rfl ?_
  intro p e s m args below meth c s₁ B hml hv
  obtain ⟨rfl, rfl, hP, hK, hD0⟩ := hv
  have hx := B.exec
  have hb := B.bytes
  have hr := B.returns
  have hts := atoms_spec (ws := vs_M_manyOf_p) B.pre
  have v_10 := hts (.fieldLink RX9 19 "ClockReachModel" "untils" "[I") (List.mem_cons_of_mem _ vm_121)
  have v_11 := hts (.fieldLink RX9 258 "ClockReachModel" "bank" "I") (List.mem_cons_of_mem _ vm_22)
  have hown : s.vm.findClass RX9 = some m.cls := findClass_of_methodNamed B.named
  have hlocks := B.notSynchronized
  have hiX9 : ∀ w ∈ wsX90, w ∈ vs_M_manyOf_p := fun _ h => List.mem_cons_of_mem _ (List.mem_append_right _ h)
  have hD := hD0
  have hA : ∀ q : Nat, s.heap.size ≤ q → va_A [] s.heap.size q := fun _ h => Or.inr h
  have hS : va_S (va_A [] s.heap.size) s.heap s.heap [] := va_S.rf
  have hl := lv_entry ([.ref (ad 0), .int (nI a0)]) (n := 2) (Nat.le_of_ble_eq_true rfl)
  rw [lg_entry_eq]
  generalize (lg_sl ([.ref (ad 0), .int (nI a0)]) ++ List.replicate (2 - (lg_sl ([.ref (ad 0), .int (nI a0)])).length) Slot.unset).toArray = ls at hl ⊢
  have hl : lv_has ls 2 [(0, .ref (ad 0)), (1, .int (nI a0))] := hl
  refine lv_aload_n hx hb dX9_manyOf_0 rfl (lv_at hl 0 rfl) ?_
  refine lv_iload_n hx hb dX9_manyOf_1 rfl (lv_at hl 1 rfl) ?_
  refine va_calli (va_runV (As := [.int (nI a0)]) (rest := []) ⟨hx, hb, hml, hown, hts⟩ (c_M_isEdge_z l dC dI _ ad ck x0 x16 x18 x19 x20 x21 x22 x23 x24 x25 x26 x27 x28 x29 x30 x33 x45 x46 x52 x53 x61 x62 x63 x65 x66 f1 f2 f3 q4 q5 q6 q7 f8 q9 q10 f11 m12_0 m12_1 m13_0 m13_1 m14_0 m14_1 m15_0 m15_1 f17 q31 f32 f34 f35 f36 f37 q38 f39 f40 f41 m42_0 m42_1 f43 f44 f47 f48 f49 f50 f51 q54 q55 q56 f57 q58 f59 f60 f64 a0 hx16 hx18 hx19 hx21 hx22 hx26 hx28 hx29 hx30 hx33 hx46 hx52 hx53 hx61 hx62 hx63 hx65 hm12_0 hm12_1 hm13_0 hm13_1 hm14_0 hm14_1 hm15_0 hm15_1 hm42_0 hm42_1 (Nat.le_trans ha0 (Nat.le_of_ble_eq_true rfl)) (by omega)) (cwV 1 hts g_M_manyOf_p_M_isEdge_z rfl rfl rfl (by decide +kernel) ⟨Nat.le_of_ble_eq_true rfl, Nat.le_of_ble_eq_true rfl⟩) ⟨pu_bl, va_recv hK hP (ci := 9) (q0 := 0) rfl rfl, pu_in hP hK hD⟩ rfl rfl hl.1 rfl (lv_room (Nat.le_of_ble_eq_true rfl)) dX9_manyOf_2 ⟨Nat.le_of_ble_eq_true rfl, Nat.le_of_ble_eq_true rfl⟩) hS (fun q _ h => pu_fr hS hA q h) (pu_fr hS hA) (fun r_1 u t H1 locs ht hvm hw hB hz1 hk1 hS => ?_)
  have hP := pu_keep hP hk1
  clear hk1 hz1 ht hvm
  generalize H1 = H at hP hS ⊢
  obtain rfl : r_1 = 0 := hw
  refine lv_if_eq (tgt := 25) hx hb dX9_manyOf_5 (by decide) (fun _ => ?_) (fun z => absurd z (by decide))
  refine lv_aload_n hx hb dX9_manyOf_25 rfl (lv_at hl 0 rfl) ?_
  refine lv_iload_n hx hb dX9_manyOf_26 rfl (lv_at hl 1 rfl) ?_
  refine lv_bipush (v := 100) hx hb dX9_manyOf_27 (by decide) ?_
  refine lv_isub hx hb dX9_manyOf_29 ?_
  refine lv_topi (fun y_2 ey_2 => ?_)
  obtain rfl : y_2 = (nI (a0 - 100)) := ey_2.trans (pk_sub (a := a0) (b := 100) (by omega))
  refine va_calli (va_runV (As := [.int (nI (a0 - 100))]) (rest := []) ⟨hx, hb, hml, hown, hts⟩ (c_M_isPlace_k l dC dI _ ad ck x0 x16 x18 x19 x20 x21 x22 x23 x24 x25 x26 x27 x28 x29 x30 x33 x45 x46 x52 x53 x61 x62 x63 x65 x66 f1 f2 f3 q4 q5 q6 q7 f8 q9 q10 f11 m12_0 m12_1 m13_0 m13_1 m14_0 m14_1 m15_0 m15_1 f17 q31 f32 f34 f35 f36 f37 q38 f39 f40 f41 m42_0 m42_1 f43 f44 f47 f48 f49 f50 f51 q54 q55 q56 f57 q58 f59 f60 f64 (a0 - 100) hx16 hx18 hx19 hx21 hx22 hx26 hx28 hx29 hx30 hx33 hx46 hx52 hx53 hx61 hx62 hx63 hx65 hm12_0 hm12_1 hm13_0 hm13_1 hm14_0 hm14_1 hm15_0 hm15_1 hm42_0 hm42_1 (by omega)) (cwV 1 hts g_M_manyOf_p_M_isPlace_k rfl rfl rfl (by decide +kernel) ⟨Nat.le_of_ble_eq_true rfl, Nat.le_of_ble_eq_true rfl⟩) ⟨pu_bl, va_recv hK hP (ci := 9) (q0 := 0) rfl rfl, pu_in hP hK hD⟩ rfl rfl hl.1 rfl (lv_room (Nat.le_of_ble_eq_true rfl)) dX9_manyOf_30 ⟨Nat.le_of_ble_eq_true rfl, Nat.le_of_ble_eq_true rfl⟩) hS (fun q _ h => pu_fr hS hA q h) (pu_fr hS hA) (fun r_3 u t H1 locs ht hvm hw hB hz1 hk1 hS => ?_)
  have hP := pu_keep hP hk1
  clear hk1 hz1 ht hvm
  generalize H1 = H at hP hS ⊢
  obtain ⟨u_4, hu_4, rfl⟩ := hw
  refine lv_if_eq (tgt := 56) hx hb dX9_manyOf_33 (by decide) (fun c_5 => ?_) (fun c_5 => ?_)
  · have c_5 : u_4 = 0 := (nI_eq (a := u_4) (b := 0) (Nat.lt_of_le_of_lt hu_4 (Nat.le_of_ble_eq_true rfl)) (Nat.le_of_ble_eq_true rfl)).mp c_5
    refine lv_iconst (v := (-1)) hx hb dX9_manyOf_56 (by decide) ?_
    exact W.iret (v := (-1)) hx hb hr (fun t ht hW => ⟨⟨(-1), (), rfl, Or.inl rfl, trivial⟩, hS.F ht⟩) hS.2.2 dX9_manyOf_57
  · have c_5 : ¬ u_4 = 0 := fun z => c_5 ((nI_eq (a := u_4) (b := 0) (Nat.lt_of_le_of_lt hu_4 (Nat.le_of_ble_eq_true rfl)) (Nat.le_of_ble_eq_true rfl)).mpr z)
    refine lv_aload_n hx hb dX9_manyOf_36 rfl (lv_at hl 0 rfl) ?_
    refine va_get (D := (dC, dI)) (ci := 9) (v := .ref (ad 4)) (C := RX9) (T := TX9) (N := 67) hx hb hts hiX9 hown hK hP 0 rfl rfl 4 (by decide) v_10 (fun _ h9 => h9) rfl dX9_manyOf_37 ?_
    refine lv_bipush (v := 8) hx hb dX9_manyOf_40 (by decide) ?_
    refine lv_aload_n hx hb dX9_manyOf_42 rfl (lv_at hl 0 rfl) ?_
    refine va_get (D := (dC, dI)) (ci := 9) (v := .int (nI x16)) (C := RX9) (T := TX9) (N := 67) hx hb hts hiX9 hown hK hP 0 rfl rfl 16 (by decide) v_11 (fun _ h9 => h9) rfl dX9_manyOf_43 ?_
    refine lv_imul hx hb dX9_manyOf_46 ?_
    refine lv_topi (fun y_6 ey_6 => ?_)
    obtain rfl : y_6 = (nI (8 * x16)) := ey_6.trans (pk_mul 8 x16)
    refine lv_iload_n hx hb dX9_manyOf_47 rfl (lv_at hl 1 rfl) ?_
    refine lv_iadd hx hb dX9_manyOf_48 ?_
    refine lv_topi (fun y_7 ey_7 => ?_)
    obtain rfl : y_7 = (nI ((8 * x16) + a0)) := ey_7.trans (nI_add (8 * x16) a0)
    refine lv_bipush (v := 100) hx hb dX9_manyOf_49 (by decide) ?_
    refine lv_isub hx hb dX9_manyOf_51 ?_
    refine lv_topi (fun y_8 ey_8 => ?_)
    obtain rfl : y_8 = (nI (((8 * x16) + a0) - 100)) := ey_8.trans (pk_sub (a := ((8 * x16) + a0)) (b := 100) (by omega))
    refine va_iald hx hb hK hP 4 3 rfl rfl (vp_in_nI (n := (((8 * x16) + a0) - 100)) (by omega) (Nat.le_of_ble_eq_true rfl)) dX9_manyOf_52 ?_
    refine lv_topi (fun y_9 ey_9 => ?_)
    obtain ⟨u_10, hu_10, qu_10⟩ := bN_get 3 q4 (((nI (((8 * x16) + a0) - 100)) : Int32).toNatClampNeg)
    obtain rfl : y_9 = nI u_10 := ey_9.trans qu_10
    refine lv_goto (tgt := 57) hx hb dX9_manyOf_53 (by decide) ?_
    exact W.iret (v := (nI u_10)) hx hb hr (fun t ht hW => ⟨⟨(nI u_10), (), rfl, Or.inr ⟨u_10, by omega, rfl⟩, trivial⟩, hS.F ht⟩) hS.2.2 dX9_manyOf_57
abbrev vs_M_manyOf_z : List Cond := .code yX9_manyOf cX9_manyOf 2 (some .int) :: VM
theorem g_M_manyOf_z_M_isEdge_z : GoodIn vs_M_manyOf_z (wsV RX9 283 RX9 yX9_isEdge vs_M_isEdge_z) := gm_V vm_158 vm_159 vm_160 vm_12 vm_156
theorem g_M_manyOf_z_M_isPlace : GoodIn vs_M_manyOf_z (wsV RX9 286 RX9 yX9_isPlace vs_M_isPlace) := gm_V vm_161 vm_162 vm_163 vm_12 vm_155
set_option maxHeartbeats 4000000 in
set_option maxRecDepth 100000 in
theorem c_M_manyOf_z (l : Launch) (dC : Nat → ClassId) (dI : Nat → Nat → Nat) (sz : Nat) (ad : Nat → Nat) (ck : Nat → ClassId) (x0 : Int32) (x16 : Nat) (x18 : Nat) (x19 : Nat) (x20 : Int32) (x21 : Nat) (x22 : Nat) (x23 : Int32) (x24 : Int32) (x25 : Int32) (x26 : Nat) (x27 : Int32) (x28 : Nat) (x29 : Nat) (x30 : Nat) (x33 : Nat) (x45 : Int32) (x46 : Nat) (x52 : Nat) (x53 : Nat) (x61 : Nat) (x62 : Nat) (x63 : Nat) (x65 : Nat) (x66 : Int32) (f1 : Nat → Int32) (f2 : Nat → Int32) (f3 : Nat → Int32) (q4 : Nat → Nat) (q5 : Nat → Nat) (q6 : Nat → Nat) (q7 : Nat → Nat) (f8 : Nat → Int32) (q9 : Nat → Nat) (q10 : Nat → Nat) (f11 : Nat → Int32) (m12_0 m12_1 : Nat) (m13_0 m13_1 : Nat) (m14_0 m14_1 : Nat) (m15_0 m15_1 : Nat) (f17 : Nat → Int32) (q31 : Nat → Nat) (f32 : Nat → Int32) (f34 : Nat → Int32) (f35 : Nat → Int32) (f36 : Nat → Int32) (f37 : Nat → Int32) (q38 : Nat → Nat) (f39 : Nat → Int32) (f40 : Nat → Int32) (f41 : Nat → Int32) (m42_0 m42_1 : Nat) (f43 : Nat → Int32) (f44 : Nat → Int32) (f47 : Nat → Int32) (f48 : Nat → Int32) (f49 : Nat → Int32) (f50 : Nat → Int32) (f51 : Nat → Int32) (q54 : Nat → Nat) (q55 : Nat → Nat) (q56 : Nat → Nat) (f57 : Nat → Int32) (q58 : Nat → Nat) (f59 : Nat → Int32) (f60 : Nat → Int32) (f64 : Nat → Int32) (a0 : Nat) (hx16 : x16 ≤ 1) (hx18 : x18 ≤ 900) (hx19 : x19 ≤ 900) (hx21 : x21 ≤ 900) (hx22 : x22 ≤ 4) (hx26 : x26 ≤ 6) (hx28 : x28 ≤ 1) (hx29 : x29 ≤ 1) (hx30 : x30 ≤ 1) (hx33 : x33 ≤ 20) (hx46 : x46 ≤ 5) (hx52 : x52 ≤ 2400) (hx53 : x53 ≤ 119) (hx61 : x61 ≤ 119) (hx62 : x62 ≤ 2000) (hx63 : x63 ≤ 1) (hx65 : x65 ≤ 7) (hm12_0 : m12_0 ≤ 3) (hm12_1 : m12_1 ≤ 3) (hm13_0 : m13_0 ≤ 8) (hm13_1 : m13_1 ≤ 8) (hm14_0 : m14_0 ≤ 14) (hm14_1 : m14_1 ≤ 14) (hm15_0 : m15_0 ≤ 8) (hm15_1 : m15_1 ≤ 8) (hm42_0 : m42_0 ≤ 120) (hm42_1 : m42_1 ≤ 400) (ha0 : a0 ≤ 99) (hb0 : 14 ≤ a0) : Met l yX9_manyOf vs_M_manyOf_z ({ frames := 2, cells := 0, slots := 0, locals := 43 }) (va_Pc [.ref (ad 0), .int (nI a0)] (pu_B (dC, dI) (mo_w ad ck x0 (nI x16) (nI x18) (nI x19) x20 (nI x21) (nI x22) x23 x24 x25 (nI x26) x27 (nI x28) (nI x29) (nI x30) (nI x33) x45 (nI x46) (nI x52) (nI x53) (nI x61) (nI x62) (nI x63) (nI x65) x66 f1 f2 f3 (bN 3 q4) (bN 7 q5) (bN 7 q6) (bN 4 q7) f8 (bN 2 q9) (bH q10) f11 (b2 m12_0 m12_1) (b2 m13_0 m13_1) (b2 m14_0 m14_1) (b2m m15_0 m15_1) f17 (bA 159 q31) f32 f34 f35 f36 f37 (bN 7 q38) f39 f40 f41 (b2 m42_0 m42_1) f43 f44 f47 f48 f49 f50 f51 (bN 13 q54) (bN 120 q55) (bN 120 q56) f57 (bN 120 q58) f59 f60 f64) (mo_t ck) sz)) (va_Qi (fun (r : Int32) (_ : Unit) => r = (-1)) (fun _ _ => True) (va_A [] sz)) 0 0 (va_A [] sz) := by
  refine Met.ofW (cc := cX9_manyOf) (maxL := 2) (ret := (some .int)) (by decide) rfl ?_
  intro p e s m args below meth c s₁ B hml hv
  obtain ⟨rfl, rfl, hP, hK, hD0⟩ := hv
  have hx := B.exec
  have hb := B.bytes
  have hr := B.returns
  have hts := atoms_spec (ws := vs_M_manyOf_z) B.pre
  have hown : s.vm.findClass RX9 = some m.cls := findClass_of_methodNamed B.named
  have hlocks := B.notSynchronized
  have hD := hD0
  have hA : ∀ q : Nat, s.heap.size ≤ q → va_A [] s.heap.size q := fun _ h => Or.inr h
  have hS : va_S (va_A [] s.heap.size) s.heap s.heap [] := va_S.rf
  have hl := lv_entry ([.ref (ad 0), .int (nI a0)]) (n := 2) (Nat.le_of_ble_eq_true rfl)
  rw [lg_entry_eq]
  generalize (lg_sl ([.ref (ad 0), .int (nI a0)]) ++ List.replicate (2 - (lg_sl ([.ref (ad 0), .int (nI a0)])).length) Slot.unset).toArray = ls at hl ⊢
  have hl : lv_has ls 2 [(0, .ref (ad 0)), (1, .int (nI a0))] := hl
  refine lv_aload_n hx hb dX9_manyOf_0 rfl (lv_at hl 0 rfl) ?_
  refine lv_iload_n hx hb dX9_manyOf_1 rfl (lv_at hl 1 rfl) ?_
  refine va_calli (va_runV (As := [.int (nI a0)]) (rest := []) ⟨hx, hb, hml, hown, hts⟩ (c_M_isEdge_z l dC dI _ ad ck x0 x16 x18 x19 x20 x21 x22 x23 x24 x25 x26 x27 x28 x29 x30 x33 x45 x46 x52 x53 x61 x62 x63 x65 x66 f1 f2 f3 q4 q5 q6 q7 f8 q9 q10 f11 m12_0 m12_1 m13_0 m13_1 m14_0 m14_1 m15_0 m15_1 f17 q31 f32 f34 f35 f36 f37 q38 f39 f40 f41 m42_0 m42_1 f43 f44 f47 f48 f49 f50 f51 q54 q55 q56 f57 q58 f59 f60 f64 a0 hx16 hx18 hx19 hx21 hx22 hx26 hx28 hx29 hx30 hx33 hx46 hx52 hx53 hx61 hx62 hx63 hx65 hm12_0 hm12_1 hm13_0 hm13_1 hm14_0 hm14_1 hm15_0 hm15_1 hm42_0 hm42_1 (Nat.le_trans ha0 (Nat.le_of_ble_eq_true rfl)) (by omega)) (cwV 1 hts g_M_manyOf_z_M_isEdge_z rfl rfl rfl (by decide +kernel) ⟨Nat.le_of_ble_eq_true rfl, Nat.le_of_ble_eq_true rfl⟩) ⟨pu_bl, va_recv hK hP (ci := 9) (q0 := 0) rfl rfl, pu_in hP hK hD⟩ rfl rfl hl.1 rfl (lv_room (Nat.le_of_ble_eq_true rfl)) dX9_manyOf_2 ⟨Nat.le_of_ble_eq_true rfl, Nat.le_of_ble_eq_true rfl⟩) hS (fun q _ h => pu_fr hS hA q h) (pu_fr hS hA) (fun r_1 u t H1 locs ht hvm hw hB hz1 hk1 hS => ?_)
  have hP := pu_keep hP hk1
  clear hk1 hz1 ht hvm
  generalize H1 = H at hP hS ⊢
  obtain rfl : r_1 = 0 := hw
  refine lv_if_eq (tgt := 25) hx hb dX9_manyOf_5 (by decide) (fun _ => ?_) (fun z => absurd z (by decide))
  refine lv_aload_n hx hb dX9_manyOf_25 rfl (lv_at hl 0 rfl) ?_
  refine lv_iload_n hx hb dX9_manyOf_26 rfl (lv_at hl 1 rfl) ?_
  refine lv_bipush (v := 100) hx hb dX9_manyOf_27 (by decide) ?_
  refine lv_isub hx hb dX9_manyOf_29 ?_
  refine lv_topi (fun y_2 ey_2 => ?_)
  refine va_calli (va_runV (As := [.int y_2]) (rest := []) ⟨hx, hb, hml, hown, hts⟩ (c_M_isPlace l dC dI _ ad ck x0 x16 x18 x19 x20 x21 x22 x23 x24 x25 x26 x27 x28 x29 x30 x33 x45 x46 x52 x53 x61 x62 x63 x65 x66 f1 f2 f3 q4 q5 q6 q7 f8 q9 q10 f11 m12_0 m12_1 m13_0 m13_1 m14_0 m14_1 m15_0 m15_1 f17 q31 f32 f34 f35 f36 f37 q38 f39 f40 f41 m42_0 m42_1 f43 f44 f47 f48 f49 f50 f51 q54 q55 q56 f57 q58 f59 f60 f64 y_2 hx16 hx18 hx19 hx21 hx22 hx26 hx28 hx29 hx30 hx33 hx46 hx52 hx53 hx61 hx62 hx63 hx65 hm12_0 hm12_1 hm13_0 hm13_1 hm14_0 hm14_1 hm15_0 hm15_1 hm42_0 hm42_1) (cwV 1 hts g_M_manyOf_z_M_isPlace rfl rfl rfl (by decide +kernel) ⟨Nat.le_of_ble_eq_true rfl, Nat.le_of_ble_eq_true rfl⟩) ⟨pu_bl, va_recv hK hP (ci := 9) (q0 := 0) rfl rfl, pu_in hP hK hD⟩ rfl rfl hl.1 rfl (lv_room (Nat.le_of_ble_eq_true rfl)) dX9_manyOf_30 ⟨Nat.le_of_ble_eq_true rfl, Nat.le_of_ble_eq_true rfl⟩) hS (fun q _ h => pu_fr hS hA q h) (pu_fr hS hA) (fun r_3 u t H1 locs ht hvm hw hB hz1 hk1 hS => ?_)
  have hP := pu_keep hP hk1
  clear hk1 hz1 ht hvm
  generalize H1 = H at hP hS ⊢
  rcases hw with ⟨rfl, hw⟩ | rfl
  · obtain ⟨n_4, hn_4, rfl⟩ := hw
    exfalso
    have hz := (nI_eq (a := a0) (by omega) (by omega)).mp (pu_p100 ey_2)
    omega
  · refine lv_if_eq (tgt := 56) hx hb dX9_manyOf_33 (by decide) (fun _ => ?_) (fun z => absurd z (by decide))
    refine lv_iconst (v := (-1)) hx hb dX9_manyOf_56 (by decide) ?_
    exact W.iret (v := (-1)) hx hb hr (fun t ht hW => ⟨⟨(-1), (), rfl, rfl, trivial⟩, hS.F ht⟩) hS.2.2 dX9_manyOf_57
abbrev vs_M_manyOf_g : List Cond := .code yX9_manyOf cX9_manyOf 2 (some .int) :: VM
theorem g_M_manyOf_g_M_isEdge : GoodIn vs_M_manyOf_g (wsV RX9 283 RX9 yX9_isEdge vs_M_isEdge) := gm_V vm_158 vm_159 vm_160 vm_12 vm_156
theorem g_M_manyOf_g_M_isPlace_k : GoodIn vs_M_manyOf_g (wsV RX9 286 RX9 yX9_isPlace vs_M_isPlace_k) := gm_V vm_161 vm_162 vm_163 vm_12 vm_155
theorem g_M_manyOf_g_M_isPlace : GoodIn vs_M_manyOf_g (wsV RX9 286 RX9 yX9_isPlace vs_M_isPlace) := gm_V vm_161 vm_162 vm_163 vm_12 vm_155
set_option maxHeartbeats 4000000 in
set_option maxRecDepth 100000 in
theorem c_M_manyOf_g (l : Launch) (dC : Nat → ClassId) (dI : Nat → Nat → Nat) (sz : Nat) (ad : Nat → Nat) (ck : Nat → ClassId) (x0 : Int32) (x16 : Nat) (x18 : Nat) (x19 : Nat) (x20 : Int32) (x21 : Nat) (x22 : Nat) (x23 : Int32) (x24 : Int32) (x25 : Int32) (x26 : Nat) (x27 : Int32) (x28 : Nat) (x29 : Nat) (x30 : Nat) (x33 : Nat) (x45 : Int32) (x46 : Nat) (x52 : Nat) (x53 : Nat) (x61 : Nat) (x62 : Nat) (x63 : Nat) (x65 : Nat) (x66 : Int32) (f1 : Nat → Int32) (f2 : Nat → Int32) (f3 : Nat → Int32) (q4 : Nat → Nat) (q5 : Nat → Nat) (q6 : Nat → Nat) (q7 : Nat → Nat) (f8 : Nat → Int32) (q9 : Nat → Nat) (q10 : Nat → Nat) (f11 : Nat → Int32) (m12_0 m12_1 : Nat) (m13_0 m13_1 : Nat) (m14_0 m14_1 : Nat) (m15_0 m15_1 : Nat) (f17 : Nat → Int32) (q31 : Nat → Nat) (f32 : Nat → Int32) (f34 : Nat → Int32) (f35 : Nat → Int32) (f36 : Nat → Int32) (f37 : Nat → Int32) (q38 : Nat → Nat) (f39 : Nat → Int32) (f40 : Nat → Int32) (f41 : Nat → Int32) (m42_0 m42_1 : Nat) (f43 : Nat → Int32) (f44 : Nat → Int32) (f47 : Nat → Int32) (f48 : Nat → Int32) (f49 : Nat → Int32) (f50 : Nat → Int32) (f51 : Nat → Int32) (q54 : Nat → Nat) (q55 : Nat → Nat) (q56 : Nat → Nat) (f57 : Nat → Int32) (q58 : Nat → Nat) (f59 : Nat → Int32) (f60 : Nat → Int32) (f64 : Nat → Int32) (p0 : Int32) (hx16 : x16 ≤ 1) (hx18 : x18 ≤ 900) (hx19 : x19 ≤ 900) (hx21 : x21 ≤ 900) (hx22 : x22 ≤ 4) (hx26 : x26 ≤ 6) (hx28 : x28 ≤ 1) (hx29 : x29 ≤ 1) (hx30 : x30 ≤ 1) (hx33 : x33 ≤ 20) (hx46 : x46 ≤ 5) (hx52 : x52 ≤ 2400) (hx53 : x53 ≤ 119) (hx61 : x61 ≤ 119) (hx62 : x62 ≤ 2000) (hx63 : x63 ≤ 1) (hx65 : x65 ≤ 7) (hm12_0 : m12_0 ≤ 3) (hm12_1 : m12_1 ≤ 3) (hm13_0 : m13_0 ≤ 8) (hm13_1 : m13_1 ≤ 8) (hm14_0 : m14_0 ≤ 14) (hm14_1 : m14_1 ≤ 14) (hm15_0 : m15_0 ≤ 8) (hm15_1 : m15_1 ≤ 8) (hm42_0 : m42_0 ≤ 120) (hm42_1 : m42_1 ≤ 400) : Met l yX9_manyOf vs_M_manyOf_g ({ frames := 2, cells := 0, slots := 0, locals := 43 }) (va_Pc [.ref (ad 0), .int p0] (pu_B (dC, dI) (mo_w ad ck x0 (nI x16) (nI x18) (nI x19) x20 (nI x21) (nI x22) x23 x24 x25 (nI x26) x27 (nI x28) (nI x29) (nI x30) (nI x33) x45 (nI x46) (nI x52) (nI x53) (nI x61) (nI x62) (nI x63) (nI x65) x66 f1 f2 f3 (bN 3 q4) (bN 7 q5) (bN 7 q6) (bN 4 q7) f8 (bN 2 q9) (bH q10) f11 (b2 m12_0 m12_1) (b2 m13_0 m13_1) (b2 m14_0 m14_1) (b2m m15_0 m15_1) f17 (bA 159 q31) f32 f34 f35 f36 f37 (bN 7 q38) f39 f40 f41 (b2 m42_0 m42_1) f43 f44 f47 f48 f49 f50 f51 (bN 13 q54) (bN 120 q55) (bN 120 q56) f57 (bN 120 q58) f59 f60 f64) (mo_t ck) sz)) (va_Qi (fun (r : Int32) (_ : Unit) => r = -1 ∨ (∃ q v : Nat, q ≤ 13 ∧ v ≤ 4 ∧ p0 = nI q ∧ r = nI v) ∨ (∃ q v : Nat, q ≤ 7 ∧ v ≤ 3 ∧ p0 = nI (100 + q) ∧ r = nI v)) (fun _ _ => True) (va_A [] sz)) 0 0 (va_A [] sz) := by
  refine Met.ofW (cc := cX9_manyOf) (maxL := 2) (ret := (some .int)) (by decide) rfl ?_
  intro p e s m args below meth c s₁ B hml hv
  obtain ⟨rfl, rfl, hP, hK, hD0⟩ := hv
  have hx := B.exec
  have hb := B.bytes
  have hr := B.returns
  have hts := atoms_spec (ws := vs_M_manyOf_g) B.pre
  have v_6 := hts (.fieldLink RX9 28 "ClockReachModel" "whens" "[I") (List.mem_cons_of_mem _ vm_129)
  have v_7 := hts (.fieldLink RX9 258 "ClockReachModel" "bank" "I") (List.mem_cons_of_mem _ vm_22)
  have v_12 := hts (.fieldLink RX9 19 "ClockReachModel" "untils" "[I") (List.mem_cons_of_mem _ vm_121)
  have hown : s.vm.findClass RX9 = some m.cls := findClass_of_methodNamed B.named
  have hlocks := B.notSynchronized
  have hiX9 : ∀ w ∈ wsX90, w ∈ vs_M_manyOf_g := fun _ h => List.mem_cons_of_mem _ (List.mem_append_right _ h)
  have hD := hD0
  have hA : ∀ q : Nat, s.heap.size ≤ q → va_A [] s.heap.size q := fun _ h => Or.inr h
  have hS : va_S (va_A [] s.heap.size) s.heap s.heap [] := va_S.rf
  have hl := lv_entry ([.ref (ad 0), .int p0]) (n := 2) (Nat.le_of_ble_eq_true rfl)
  rw [lg_entry_eq]
  generalize (lg_sl ([.ref (ad 0), .int p0]) ++ List.replicate (2 - (lg_sl ([.ref (ad 0), .int p0])).length) Slot.unset).toArray = ls at hl ⊢
  have hl : lv_has ls 2 [(0, .ref (ad 0)), (1, .int p0)] := hl
  refine lv_aload_n hx hb dX9_manyOf_0 rfl (lv_at hl 0 rfl) ?_
  refine lv_iload_n hx hb dX9_manyOf_1 rfl (lv_at hl 1 rfl) ?_
  refine va_calli (va_runV (As := [.int p0]) (rest := []) ⟨hx, hb, hml, hown, hts⟩ (c_M_isEdge l dC dI _ ad ck x0 x16 x18 x19 x20 x21 x22 x23 x24 x25 x26 x27 x28 x29 x30 x33 x45 x46 x52 x53 x61 x62 x63 x65 x66 f1 f2 f3 q4 q5 q6 q7 f8 q9 q10 f11 m12_0 m12_1 m13_0 m13_1 m14_0 m14_1 m15_0 m15_1 f17 q31 f32 f34 f35 f36 f37 q38 f39 f40 f41 m42_0 m42_1 f43 f44 f47 f48 f49 f50 f51 q54 q55 q56 f57 q58 f59 f60 f64 p0 hx16 hx18 hx19 hx21 hx22 hx26 hx28 hx29 hx30 hx33 hx46 hx52 hx53 hx61 hx62 hx63 hx65 hm12_0 hm12_1 hm13_0 hm13_1 hm14_0 hm14_1 hm15_0 hm15_1 hm42_0 hm42_1) (cwV 1 hts g_M_manyOf_g_M_isEdge rfl rfl rfl (by decide +kernel) ⟨Nat.le_of_ble_eq_true rfl, Nat.le_of_ble_eq_true rfl⟩) ⟨pu_bl, va_recv hK hP (ci := 9) (q0 := 0) rfl rfl, pu_in hP hK hD⟩ rfl rfl hl.1 rfl (lv_room (Nat.le_of_ble_eq_true rfl)) dX9_manyOf_2 ⟨Nat.le_of_ble_eq_true rfl, Nat.le_of_ble_eq_true rfl⟩) hS (fun q _ h => pu_fr hS hA q h) (pu_fr hS hA) (fun r_1 u t H1 locs ht hvm hw hB hz1 hk1 hS => ?_)
  have hP := pu_keep hP hk1
  clear hk1 hz1 ht hvm
  generalize H1 = H at hP hS ⊢
  rcases hw with ⟨rfl, hw⟩ | rfl
  · obtain ⟨n_2, hn_2, rfl⟩ := hw
    refine lv_if_eq (tgt := 25) hx hb dX9_manyOf_5 (by decide) (fun z => absurd z (by decide)) (fun _ => ?_)
    refine lv_aload_n hx hb dX9_manyOf_8 rfl (lv_at hl 0 rfl) ?_
    refine va_get (D := (dC, dI)) (ci := 9) (v := .ref (ad 7)) (C := RX9) (T := TX9) (N := 67) hx hb hts hiX9 hown hK hP 0 rfl rfl 7 (by decide) v_6 (fun _ h9 => h9) rfl dX9_manyOf_9 ?_
    refine lv_bipush (v := 14) hx hb dX9_manyOf_12 (by decide) ?_
    refine lv_aload_n hx hb dX9_manyOf_14 rfl (lv_at hl 0 rfl) ?_
    refine va_get (D := (dC, dI)) (ci := 9) (v := .int (nI x16)) (C := RX9) (T := TX9) (N := 67) hx hb hts hiX9 hown hK hP 0 rfl rfl 16 (by decide) v_7 (fun _ h9 => h9) rfl dX9_manyOf_15 ?_
    refine lv_imul hx hb dX9_manyOf_18 ?_
    refine lv_topi (fun y_3 ey_3 => ?_)
    obtain rfl : y_3 = (nI (14 * x16)) := ey_3.trans (pk_mul 14 x16)
    refine lv_iload_n hx hb dX9_manyOf_19 rfl (lv_at hl 1 rfl) ?_
    refine lv_iadd hx hb dX9_manyOf_20 ?_
    refine lv_topi (fun y_4 ey_4 => ?_)
    obtain rfl : y_4 = (nI ((14 * x16) + n_2)) := ey_4.trans (nI_add (14 * x16) n_2)
    refine va_iald hx hb hK hP 7 6 rfl rfl (vp_in_nI (n := ((14 * x16) + n_2)) (by omega) (Nat.le_of_ble_eq_true rfl)) dX9_manyOf_21 ?_
    refine lv_topi (fun y_5 ey_5 => ?_)
    obtain ⟨u_6, hu_6, qu_6⟩ := bN_get 4 q7 (((nI ((14 * x16) + n_2)) : Int32).toNatClampNeg)
    obtain rfl : y_5 = nI u_6 := ey_5.trans qu_6
    refine lv_goto (tgt := 57) hx hb dX9_manyOf_22 (by decide) ?_
    exact W.iret (v := (nI u_6)) hx hb hr (fun t ht hW => ⟨⟨(nI u_6), (), rfl, Or.inr (Or.inl ⟨n_2, u_6, by omega, by omega, rfl, rfl⟩), trivial⟩, hS.F ht⟩) hS.2.2 dX9_manyOf_57
  · refine lv_if_eq (tgt := 25) hx hb dX9_manyOf_5 (by decide) (fun _ => ?_) (fun z => absurd z (by decide))
    by_cases hn1 : ∃ n : Nat, n ≤ 7 ∧ p0 = nI (100 + n)
    · obtain ⟨n_7, hn_7, rfl⟩ := hn1
      refine lv_aload_n hx hb dX9_manyOf_25 rfl (lv_at hl 0 rfl) ?_
      refine lv_iload_n hx hb dX9_manyOf_26 rfl (lv_at hl 1 rfl) ?_
      refine lv_bipush (v := 100) hx hb dX9_manyOf_27 (by decide) ?_
      refine lv_isub hx hb dX9_manyOf_29 ?_
      refine lv_topi (fun y_8 ey_8 => ?_)
      obtain rfl : y_8 = (nI ((100 + n_7) - 100)) := ey_8.trans (pk_sub (a := (100 + n_7)) (b := 100) (by omega))
      refine va_calli (va_runV (As := [.int (nI ((100 + n_7) - 100))]) (rest := []) ⟨hx, hb, hml, hown, hts⟩ (c_M_isPlace_k l dC dI _ ad ck x0 x16 x18 x19 x20 x21 x22 x23 x24 x25 x26 x27 x28 x29 x30 x33 x45 x46 x52 x53 x61 x62 x63 x65 x66 f1 f2 f3 q4 q5 q6 q7 f8 q9 q10 f11 m12_0 m12_1 m13_0 m13_1 m14_0 m14_1 m15_0 m15_1 f17 q31 f32 f34 f35 f36 f37 q38 f39 f40 f41 m42_0 m42_1 f43 f44 f47 f48 f49 f50 f51 q54 q55 q56 f57 q58 f59 f60 f64 ((100 + n_7) - 100) hx16 hx18 hx19 hx21 hx22 hx26 hx28 hx29 hx30 hx33 hx46 hx52 hx53 hx61 hx62 hx63 hx65 hm12_0 hm12_1 hm13_0 hm13_1 hm14_0 hm14_1 hm15_0 hm15_1 hm42_0 hm42_1 (by omega)) (cwV 1 hts g_M_manyOf_g_M_isPlace_k rfl rfl rfl (by decide +kernel) ⟨Nat.le_of_ble_eq_true rfl, Nat.le_of_ble_eq_true rfl⟩) ⟨pu_bl, va_recv hK hP (ci := 9) (q0 := 0) rfl rfl, pu_in hP hK hD⟩ rfl rfl hl.1 rfl (lv_room (Nat.le_of_ble_eq_true rfl)) dX9_manyOf_30 ⟨Nat.le_of_ble_eq_true rfl, Nat.le_of_ble_eq_true rfl⟩) hS (fun q _ h => pu_fr hS hA q h) (pu_fr hS hA) (fun r_9 u t H1 locs ht hvm hw hB hz1 hk1 hS => ?_)
      have hP := pu_keep hP hk1
      clear hk1 hz1 ht hvm
      generalize H1 = H at hP hS ⊢
      obtain ⟨u_10, hu_10, rfl⟩ := hw
      refine lv_if_eq (tgt := 56) hx hb dX9_manyOf_33 (by decide) (fun c_11 => ?_) (fun c_11 => ?_)
      · have c_11 : u_10 = 0 := (nI_eq (a := u_10) (b := 0) (Nat.lt_of_le_of_lt hu_10 (Nat.le_of_ble_eq_true rfl)) (Nat.le_of_ble_eq_true rfl)).mp c_11
        refine lv_iconst (v := (-1)) hx hb dX9_manyOf_56 (by decide) ?_
        exact W.iret (v := (-1)) hx hb hr (fun t ht hW => ⟨⟨(-1), (), rfl, Or.inl rfl, trivial⟩, hS.F ht⟩) hS.2.2 dX9_manyOf_57
      · have c_11 : ¬ u_10 = 0 := fun z => c_11 ((nI_eq (a := u_10) (b := 0) (Nat.lt_of_le_of_lt hu_10 (Nat.le_of_ble_eq_true rfl)) (Nat.le_of_ble_eq_true rfl)).mpr z)
        refine lv_aload_n hx hb dX9_manyOf_36 rfl (lv_at hl 0 rfl) ?_
        refine va_get (D := (dC, dI)) (ci := 9) (v := .ref (ad 4)) (C := RX9) (T := TX9) (N := 67) hx hb hts hiX9 hown hK hP 0 rfl rfl 4 (by decide) v_12 (fun _ h9 => h9) rfl dX9_manyOf_37 ?_
        refine lv_bipush (v := 8) hx hb dX9_manyOf_40 (by decide) ?_
        refine lv_aload_n hx hb dX9_manyOf_42 rfl (lv_at hl 0 rfl) ?_
        refine va_get (D := (dC, dI)) (ci := 9) (v := .int (nI x16)) (C := RX9) (T := TX9) (N := 67) hx hb hts hiX9 hown hK hP 0 rfl rfl 16 (by decide) v_7 (fun _ h9 => h9) rfl dX9_manyOf_43 ?_
        refine lv_imul hx hb dX9_manyOf_46 ?_
        refine lv_topi (fun y_12 ey_12 => ?_)
        obtain rfl : y_12 = (nI (8 * x16)) := ey_12.trans (pk_mul 8 x16)
        refine lv_iload_n hx hb dX9_manyOf_47 rfl (lv_at hl 1 rfl) ?_
        refine lv_iadd hx hb dX9_manyOf_48 ?_
        refine lv_topi (fun y_13 ey_13 => ?_)
        obtain rfl : y_13 = (nI ((8 * x16) + (100 + n_7))) := ey_13.trans (nI_add (8 * x16) (100 + n_7))
        refine lv_bipush (v := 100) hx hb dX9_manyOf_49 (by decide) ?_
        refine lv_isub hx hb dX9_manyOf_51 ?_
        refine lv_topi (fun y_14 ey_14 => ?_)
        obtain rfl : y_14 = (nI (((8 * x16) + (100 + n_7)) - 100)) := ey_14.trans (pk_sub (a := ((8 * x16) + (100 + n_7))) (b := 100) (by omega))
        refine va_iald hx hb hK hP 4 3 rfl rfl (vp_in_nI (n := (((8 * x16) + (100 + n_7)) - 100)) (by omega) (Nat.le_of_ble_eq_true rfl)) dX9_manyOf_52 ?_
        refine lv_topi (fun y_15 ey_15 => ?_)
        obtain ⟨u_16, hu_16, qu_16⟩ := bN_get 3 q4 (((nI (((8 * x16) + (100 + n_7)) - 100)) : Int32).toNatClampNeg)
        obtain rfl : y_15 = nI u_16 := ey_15.trans qu_16
        refine lv_goto (tgt := 57) hx hb dX9_manyOf_53 (by decide) ?_
        exact W.iret (v := (nI u_16)) hx hb hr (fun t ht hW => ⟨⟨(nI u_16), (), rfl, Or.inr (Or.inr ⟨n_7, u_16, by omega, by omega, rfl, rfl⟩), trivial⟩, hS.F ht⟩) hS.2.2 dX9_manyOf_57
    · refine lv_aload_n hx hb dX9_manyOf_25 rfl (lv_at hl 0 rfl) ?_
      refine lv_iload_n hx hb dX9_manyOf_26 rfl (lv_at hl 1 rfl) ?_
      refine lv_bipush (v := 100) hx hb dX9_manyOf_27 (by decide) ?_
      refine lv_isub hx hb dX9_manyOf_29 ?_
      refine lv_topi (fun y_17 ey_17 => ?_)
      refine va_calli (va_runV (As := [.int y_17]) (rest := []) ⟨hx, hb, hml, hown, hts⟩ (c_M_isPlace l dC dI _ ad ck x0 x16 x18 x19 x20 x21 x22 x23 x24 x25 x26 x27 x28 x29 x30 x33 x45 x46 x52 x53 x61 x62 x63 x65 x66 f1 f2 f3 q4 q5 q6 q7 f8 q9 q10 f11 m12_0 m12_1 m13_0 m13_1 m14_0 m14_1 m15_0 m15_1 f17 q31 f32 f34 f35 f36 f37 q38 f39 f40 f41 m42_0 m42_1 f43 f44 f47 f48 f49 f50 f51 q54 q55 q56 f57 q58 f59 f60 f64 y_17 hx16 hx18 hx19 hx21 hx22 hx26 hx28 hx29 hx30 hx33 hx46 hx52 hx53 hx61 hx62 hx63 hx65 hm12_0 hm12_1 hm13_0 hm13_1 hm14_0 hm14_1 hm15_0 hm15_1 hm42_0 hm42_1) (cwV 1 hts g_M_manyOf_g_M_isPlace rfl rfl rfl (by decide +kernel) ⟨Nat.le_of_ble_eq_true rfl, Nat.le_of_ble_eq_true rfl⟩) ⟨pu_bl, va_recv hK hP (ci := 9) (q0 := 0) rfl rfl, pu_in hP hK hD⟩ rfl rfl hl.1 rfl (lv_room (Nat.le_of_ble_eq_true rfl)) dX9_manyOf_30 ⟨Nat.le_of_ble_eq_true rfl, Nat.le_of_ble_eq_true rfl⟩) hS (fun q _ h => pu_fr hS hA q h) (pu_fr hS hA) (fun r_18 u t H1 locs ht hvm hw hB hz1 hk1 hS => ?_)
      have hP := pu_keep hP hk1
      clear hk1 hz1 ht hvm
      generalize H1 = H at hP hS ⊢
      rcases hw with ⟨rfl, hw⟩ | rfl
      · obtain ⟨n_19, hn_19, rfl⟩ := hw
        exact absurd ⟨n_19, hn_19.1, pu_p100 ey_17⟩ hn1
      · refine lv_if_eq (tgt := 56) hx hb dX9_manyOf_33 (by decide) (fun _ => ?_) (fun z => absurd z (by decide))
        refine lv_iconst (v := (-1)) hx hb dX9_manyOf_56 (by decide) ?_
        exact W.iret (v := (-1)) hx hb hr (fun t ht hW => ⟨⟨(-1), (), rfl, Or.inl rfl, trivial⟩, hS.F ht⟩) hS.2.2 dX9_manyOf_57
theorem dX9_spot_0 : decode cX9_spot 0 = .ok (.bipush 80, 2) := by decide +kernel
theorem dX9_spot_2 : decode cX9_spot 2 = .ok (.aload_n 0, 1) := by decide +kernel
theorem dX9_spot_3 : decode cX9_spot 3 = .ok (.getfield 258, 3) := by decide +kernel
theorem dX9_spot_6 : decode cX9_spot 6 = .ok (.imul, 1) := by decide +kernel
theorem dX9_spot_7 : decode cX9_spot 7 = .ok (.iload_n 1, 1) := by decide +kernel
theorem dX9_spot_8 : decode cX9_spot 8 = .ok (.bipush 100, 2) := by decide +kernel
theorem dX9_spot_10 : decode cX9_spot 10 = .ok (.if_icmp .lt 15, 3) := by decide +kernel
theorem dX9_spot_25 : decode cX9_spot 25 = .ok (.iconst 4, 1) := by decide +kernel
theorem dX9_spot_26 : decode cX9_spot 26 = .ok (.iload_n 1, 1) := by decide +kernel
theorem dX9_spot_27 : decode cX9_spot 27 = .ok (.imul, 1) := by decide +kernel
theorem dX9_spot_28 : decode cX9_spot 28 = .ok (.iadd, 1) := by decide +kernel
theorem dX9_spot_29 : decode cX9_spot 29 = .ok (.iload_n 2, 1) := by decide +kernel
theorem dX9_spot_30 : decode cX9_spot 30 = .ok (.iadd, 1) := by decide +kernel
theorem dX9_spot_31 : decode cX9_spot 31 = .ok (.ireturn, 1) := by decide +kernel
abbrev vs_M_spot_e : List Cond := .code yX9_spot cX9_spot 3 (some .int) :: VM
set_option maxHeartbeats 4000000 in
set_option maxRecDepth 100000 in
theorem c_M_spot_e (l : Launch) (dC : Nat → ClassId) (dI : Nat → Nat → Nat) (sz : Nat) (ad : Nat → Nat) (ck : Nat → ClassId) (x0 : Int32) (x16 : Nat) (x18 : Nat) (x19 : Nat) (x20 : Int32) (x21 : Nat) (x22 : Nat) (x23 : Int32) (x24 : Int32) (x25 : Int32) (x26 : Nat) (x27 : Int32) (x28 : Nat) (x29 : Nat) (x30 : Nat) (x33 : Nat) (x45 : Int32) (x46 : Nat) (x52 : Nat) (x53 : Nat) (x61 : Nat) (x62 : Nat) (x63 : Nat) (x65 : Nat) (x66 : Int32) (f1 : Nat → Int32) (f2 : Nat → Int32) (f3 : Nat → Int32) (q4 : Nat → Nat) (q5 : Nat → Nat) (q6 : Nat → Nat) (q7 : Nat → Nat) (f8 : Nat → Int32) (q9 : Nat → Nat) (q10 : Nat → Nat) (f11 : Nat → Int32) (m12_0 m12_1 : Nat) (m13_0 m13_1 : Nat) (m14_0 m14_1 : Nat) (m15_0 m15_1 : Nat) (f17 : Nat → Int32) (q31 : Nat → Nat) (f32 : Nat → Int32) (f34 : Nat → Int32) (f35 : Nat → Int32) (f36 : Nat → Int32) (f37 : Nat → Int32) (q38 : Nat → Nat) (f39 : Nat → Int32) (f40 : Nat → Int32) (f41 : Nat → Int32) (m42_0 m42_1 : Nat) (f43 : Nat → Int32) (f44 : Nat → Int32) (f47 : Nat → Int32) (f48 : Nat → Int32) (f49 : Nat → Int32) (f50 : Nat → Int32) (f51 : Nat → Int32) (q54 : Nat → Nat) (q55 : Nat → Nat) (q56 : Nat → Nat) (f57 : Nat → Int32) (q58 : Nat → Nat) (f59 : Nat → Int32) (f60 : Nat → Int32) (f64 : Nat → Int32) (a0 : Nat) (a1 : Nat) (hx16 : x16 ≤ 1) (hx18 : x18 ≤ 900) (hx19 : x19 ≤ 900) (hx21 : x21 ≤ 900) (hx22 : x22 ≤ 4) (hx26 : x26 ≤ 6) (hx28 : x28 ≤ 1) (hx29 : x29 ≤ 1) (hx30 : x30 ≤ 1) (hx33 : x33 ≤ 20) (hx46 : x46 ≤ 5) (hx52 : x52 ≤ 2400) (hx53 : x53 ≤ 119) (hx61 : x61 ≤ 119) (hx62 : x62 ≤ 2000) (hx63 : x63 ≤ 1) (hx65 : x65 ≤ 7) (hm12_0 : m12_0 ≤ 3) (hm12_1 : m12_1 ≤ 3) (hm13_0 : m13_0 ≤ 8) (hm13_1 : m13_1 ≤ 8) (hm14_0 : m14_0 ≤ 14) (hm14_1 : m14_1 ≤ 14) (hm15_0 : m15_0 ≤ 8) (hm15_1 : m15_1 ≤ 8) (hm42_0 : m42_0 ≤ 120) (hm42_1 : m42_1 ≤ 400) (ha0 : a0 ≤ 13) (ha1 : a1 ≤ 3) : Met l yX9_spot vs_M_spot_e ({ frames := 0, cells := 0, slots := 0, locals := 0 }) (va_Pc [.ref (ad 0), .int (nI a0), .int (nI a1)] (pu_B (dC, dI) (mo_w ad ck x0 (nI x16) (nI x18) (nI x19) x20 (nI x21) (nI x22) x23 x24 x25 (nI x26) x27 (nI x28) (nI x29) (nI x30) (nI x33) x45 (nI x46) (nI x52) (nI x53) (nI x61) (nI x62) (nI x63) (nI x65) x66 f1 f2 f3 (bN 3 q4) (bN 7 q5) (bN 7 q6) (bN 4 q7) f8 (bN 2 q9) (bH q10) f11 (b2 m12_0 m12_1) (b2 m13_0 m13_1) (b2 m14_0 m14_1) (b2m m15_0 m15_1) f17 (bA 159 q31) f32 f34 f35 f36 f37 (bN 7 q38) f39 f40 f41 (b2 m42_0 m42_1) f43 f44 f47 f48 f49 f50 f51 (bN 13 q54) (bN 120 q55) (bN 120 q56) f57 (bN 120 q58) f59 f60 f64) (mo_t ck) sz)) (va_Qi (fun (r : Int32) (_ : Unit) => r = nI (80 * x16 + 4 * a0 + a1)) (fun _ _ => True) (va_A [] sz)) 0 0 (va_A [] sz) := by
  refine Met.ofW (cc := cX9_spot) (maxL := 3) (ret := (some .int)) (by decide) rfl ?_
  intro p e s m args below meth c s₁ B hml hv
  obtain ⟨rfl, rfl, hP, hK, hD0⟩ := hv
  have hx := B.exec
  have hb := B.bytes
  have hr := B.returns
  have hts := atoms_spec (ws := vs_M_spot_e) B.pre
  have v_1 := hts (.fieldLink RX9 258 "ClockReachModel" "bank" "I") (List.mem_cons_of_mem _ vm_22)
  have hown : s.vm.findClass RX9 = some m.cls := findClass_of_methodNamed B.named
  have hlocks := B.notSynchronized
  have hiX9 : ∀ w ∈ wsX90, w ∈ vs_M_spot_e := fun _ h => List.mem_cons_of_mem _ (List.mem_append_right _ h)
  have hD := hD0
  have hA : ∀ q : Nat, s.heap.size ≤ q → va_A [] s.heap.size q := fun _ h => Or.inr h
  have hS : va_S (va_A [] s.heap.size) s.heap s.heap [] := va_S.rf
  have hl := lv_entry ([.ref (ad 0), .int (nI a0), .int (nI a1)]) (n := 3) (Nat.le_of_ble_eq_true rfl)
  rw [lg_entry_eq]
  generalize (lg_sl ([.ref (ad 0), .int (nI a0), .int (nI a1)]) ++ List.replicate (3 - (lg_sl ([.ref (ad 0), .int (nI a0), .int (nI a1)])).length) Slot.unset).toArray = ls at hl ⊢
  have hl : lv_has ls 3 [(0, .ref (ad 0)), (1, .int (nI a0)), (2, .int (nI a1))] := hl
  refine lv_bipush (v := 80) hx hb dX9_spot_0 (by decide) ?_
  refine lv_aload_n hx hb dX9_spot_2 rfl (lv_at hl 0 rfl) ?_
  refine va_get (D := (dC, dI)) (ci := 9) (v := .int (nI x16)) (C := RX9) (T := TX9) (N := 67) hx hb hts hiX9 hown hK hP 0 rfl rfl 16 (by decide) v_1 (fun _ h9 => h9) rfl dX9_spot_3 ?_
  refine lv_imul hx hb dX9_spot_6 ?_
  refine lv_topi (fun y_1 ey_1 => ?_)
  obtain rfl : y_1 = (nI (80 * x16)) := ey_1.trans (pk_mul 80 x16)
  refine lv_iload_n hx hb dX9_spot_7 rfl (lv_at hl 1 rfl) ?_
  refine lv_bipush (v := 100) hx hb dX9_spot_8 (by decide) ?_
  refine lv_icmp_lt (tgt := 25) hx hb dX9_spot_10 (by decide) (fun c_2 => ?_) (fun c_2 => ?_)
  · have c_2 : a0 < 100 := (nI_ltI (a := a0) (b := 100) (Nat.lt_of_le_of_lt ha0 (Nat.le_of_ble_eq_true rfl)) (Nat.le_of_ble_eq_true rfl)).mp c_2
    refine lv_iconst (v := 4) hx hb dX9_spot_25 (by decide) ?_
    refine lv_iload_n hx hb dX9_spot_26 rfl (lv_at hl 1 rfl) ?_
    refine lv_imul hx hb dX9_spot_27 ?_
    refine lv_topi (fun y_3 ey_3 => ?_)
    obtain rfl : y_3 = (nI (4 * a0)) := ey_3.trans (pk_mul 4 a0)
    refine lv_iadd hx hb dX9_spot_28 ?_
    refine lv_topi (fun y_4 ey_4 => ?_)
    obtain rfl : y_4 = (nI ((80 * x16) + (4 * a0))) := ey_4.trans (nI_add (80 * x16) (4 * a0))
    refine lv_iload_n hx hb dX9_spot_29 rfl (lv_at hl 2 rfl) ?_
    refine lv_iadd hx hb dX9_spot_30 ?_
    refine lv_topi (fun y_5 ey_5 => ?_)
    obtain rfl : y_5 = (nI (((80 * x16) + (4 * a0)) + a1)) := ey_5.trans (nI_add ((80 * x16) + (4 * a0)) a1)
    exact W.iret (v := (nI (((80 * x16) + (4 * a0)) + a1))) hx hb hr (fun t ht hW => ⟨⟨(nI (((80 * x16) + (4 * a0)) + a1)), (), rfl, congrArg nI (by omega), trivial⟩, hS.F ht⟩) hS.2.2 dX9_spot_31
  · have c_2 : ¬ a0 < 100 := fun z => c_2 ((nI_ltI (a := a0) (b := 100) (Nat.lt_of_le_of_lt ha0 (Nat.le_of_ble_eq_true rfl)) (Nat.le_of_ble_eq_true rfl)).mpr z)
    exfalso
    omega
theorem dX9_spot_13 : decode cX9_spot 13 = .ok (.bipush 56, 2) := by decide +kernel
theorem dX9_spot_15 : decode cX9_spot 15 = .ok (.iconst 3, 1) := by decide +kernel
theorem dX9_spot_16 : decode cX9_spot 16 = .ok (.iload_n 1, 1) := by decide +kernel
theorem dX9_spot_17 : decode cX9_spot 17 = .ok (.bipush 100, 2) := by decide +kernel
theorem dX9_spot_19 : decode cX9_spot 19 = .ok (.isub, 1) := by decide +kernel
theorem dX9_spot_20 : decode cX9_spot 20 = .ok (.imul, 1) := by decide +kernel
theorem dX9_spot_21 : decode cX9_spot 21 = .ok (.iadd, 1) := by decide +kernel
theorem dX9_spot_22 : decode cX9_spot 22 = .ok (.goto 6, 3) := by decide +kernel
abbrev vs_M_spot_p : List Cond := .code yX9_spot cX9_spot 3 (some .int) :: VM
set_option maxHeartbeats 4000000 in
set_option maxRecDepth 100000 in
theorem c_M_spot_p (l : Launch) (dC : Nat → ClassId) (dI : Nat → Nat → Nat) (sz : Nat) (ad : Nat → Nat) (ck : Nat → ClassId) (x0 : Int32) (x16 : Nat) (x18 : Nat) (x19 : Nat) (x20 : Int32) (x21 : Nat) (x22 : Nat) (x23 : Int32) (x24 : Int32) (x25 : Int32) (x26 : Nat) (x27 : Int32) (x28 : Nat) (x29 : Nat) (x30 : Nat) (x33 : Nat) (x45 : Int32) (x46 : Nat) (x52 : Nat) (x53 : Nat) (x61 : Nat) (x62 : Nat) (x63 : Nat) (x65 : Nat) (x66 : Int32) (f1 : Nat → Int32) (f2 : Nat → Int32) (f3 : Nat → Int32) (q4 : Nat → Nat) (q5 : Nat → Nat) (q6 : Nat → Nat) (q7 : Nat → Nat) (f8 : Nat → Int32) (q9 : Nat → Nat) (q10 : Nat → Nat) (f11 : Nat → Int32) (m12_0 m12_1 : Nat) (m13_0 m13_1 : Nat) (m14_0 m14_1 : Nat) (m15_0 m15_1 : Nat) (f17 : Nat → Int32) (q31 : Nat → Nat) (f32 : Nat → Int32) (f34 : Nat → Int32) (f35 : Nat → Int32) (f36 : Nat → Int32) (f37 : Nat → Int32) (q38 : Nat → Nat) (f39 : Nat → Int32) (f40 : Nat → Int32) (f41 : Nat → Int32) (m42_0 m42_1 : Nat) (f43 : Nat → Int32) (f44 : Nat → Int32) (f47 : Nat → Int32) (f48 : Nat → Int32) (f49 : Nat → Int32) (f50 : Nat → Int32) (f51 : Nat → Int32) (q54 : Nat → Nat) (q55 : Nat → Nat) (q56 : Nat → Nat) (f57 : Nat → Int32) (q58 : Nat → Nat) (f59 : Nat → Int32) (f60 : Nat → Int32) (f64 : Nat → Int32) (a0 : Nat) (a1 : Nat) (hx16 : x16 ≤ 1) (hx18 : x18 ≤ 900) (hx19 : x19 ≤ 900) (hx21 : x21 ≤ 900) (hx22 : x22 ≤ 4) (hx26 : x26 ≤ 6) (hx28 : x28 ≤ 1) (hx29 : x29 ≤ 1) (hx30 : x30 ≤ 1) (hx33 : x33 ≤ 20) (hx46 : x46 ≤ 5) (hx52 : x52 ≤ 2400) (hx53 : x53 ≤ 119) (hx61 : x61 ≤ 119) (hx62 : x62 ≤ 2000) (hx63 : x63 ≤ 1) (hx65 : x65 ≤ 7) (hm12_0 : m12_0 ≤ 3) (hm12_1 : m12_1 ≤ 3) (hm13_0 : m13_0 ≤ 8) (hm13_1 : m13_1 ≤ 8) (hm14_0 : m14_0 ≤ 14) (hm14_1 : m14_1 ≤ 14) (hm15_0 : m15_0 ≤ 8) (hm15_1 : m15_1 ≤ 8) (hm42_0 : m42_0 ≤ 120) (hm42_1 : m42_1 ≤ 400) (ha0 : a0 ≤ 107) (hb0 : 100 ≤ a0) (ha1 : a1 ≤ 2) : Met l yX9_spot vs_M_spot_p ({ frames := 0, cells := 0, slots := 0, locals := 0 }) (va_Pc [.ref (ad 0), .int (nI a0), .int (nI a1)] (pu_B (dC, dI) (mo_w ad ck x0 (nI x16) (nI x18) (nI x19) x20 (nI x21) (nI x22) x23 x24 x25 (nI x26) x27 (nI x28) (nI x29) (nI x30) (nI x33) x45 (nI x46) (nI x52) (nI x53) (nI x61) (nI x62) (nI x63) (nI x65) x66 f1 f2 f3 (bN 3 q4) (bN 7 q5) (bN 7 q6) (bN 4 q7) f8 (bN 2 q9) (bH q10) f11 (b2 m12_0 m12_1) (b2 m13_0 m13_1) (b2 m14_0 m14_1) (b2m m15_0 m15_1) f17 (bA 159 q31) f32 f34 f35 f36 f37 (bN 7 q38) f39 f40 f41 (b2 m42_0 m42_1) f43 f44 f47 f48 f49 f50 f51 (bN 13 q54) (bN 120 q55) (bN 120 q56) f57 (bN 120 q58) f59 f60 f64) (mo_t ck) sz)) (va_Qi (fun (r : Int32) (_ : Unit) => r = nI (80 * x16 + (56 + 3 * (a0 - 100)) + a1)) (fun _ _ => True) (va_A [] sz)) 0 0 (va_A [] sz) := by
  refine Met.ofW (cc := cX9_spot) (maxL := 3) (ret := (some .int)) (by decide) rfl ?_
  intro p e s m args below meth c s₁ B hml hv
  obtain ⟨rfl, rfl, hP, hK, hD0⟩ := hv
  have hx := B.exec
  have hb := B.bytes
  have hr := B.returns
  have hts := atoms_spec (ws := vs_M_spot_p) B.pre
  have v_1 := hts (.fieldLink RX9 258 "ClockReachModel" "bank" "I") (List.mem_cons_of_mem _ vm_22)
  have hown : s.vm.findClass RX9 = some m.cls := findClass_of_methodNamed B.named
  have hlocks := B.notSynchronized
  have hiX9 : ∀ w ∈ wsX90, w ∈ vs_M_spot_p := fun _ h => List.mem_cons_of_mem _ (List.mem_append_right _ h)
  have hD := hD0
  have hA : ∀ q : Nat, s.heap.size ≤ q → va_A [] s.heap.size q := fun _ h => Or.inr h
  have hS : va_S (va_A [] s.heap.size) s.heap s.heap [] := va_S.rf
  have hl := lv_entry ([.ref (ad 0), .int (nI a0), .int (nI a1)]) (n := 3) (Nat.le_of_ble_eq_true rfl)
  rw [lg_entry_eq]
  generalize (lg_sl ([.ref (ad 0), .int (nI a0), .int (nI a1)]) ++ List.replicate (3 - (lg_sl ([.ref (ad 0), .int (nI a0), .int (nI a1)])).length) Slot.unset).toArray = ls at hl ⊢
  have hl : lv_has ls 3 [(0, .ref (ad 0)), (1, .int (nI a0)), (2, .int (nI a1))] := hl
  refine lv_bipush (v := 80) hx hb dX9_spot_0 (by decide) ?_
  refine lv_aload_n hx hb dX9_spot_2 rfl (lv_at hl 0 rfl) ?_
  refine va_get (D := (dC, dI)) (ci := 9) (v := .int (nI x16)) (C := RX9) (T := TX9) (N := 67) hx hb hts hiX9 hown hK hP 0 rfl rfl 16 (by decide) v_1 (fun _ h9 => h9) rfl dX9_spot_3 ?_
  refine lv_imul hx hb dX9_spot_6 ?_
  refine lv_topi (fun y_1 ey_1 => ?_)
  obtain rfl : y_1 = (nI (80 * x16)) := ey_1.trans (pk_mul 80 x16)
  refine lv_iload_n hx hb dX9_spot_7 rfl (lv_at hl 1 rfl) ?_
  refine lv_bipush (v := 100) hx hb dX9_spot_8 (by decide) ?_
  refine lv_icmp_lt (tgt := 25) hx hb dX9_spot_10 (by decide) (fun c_2 => ?_) (fun c_2 => ?_)
  · have c_2 : a0 < 100 := (nI_ltI (a := a0) (b := 100) (Nat.lt_of_le_of_lt ha0 (Nat.le_of_ble_eq_true rfl)) (Nat.le_of_ble_eq_true rfl)).mp c_2
    exfalso
    omega
  · have c_2 : ¬ a0 < 100 := fun z => c_2 ((nI_ltI (a := a0) (b := 100) (Nat.lt_of_le_of_lt ha0 (Nat.le_of_ble_eq_true rfl)) (Nat.le_of_ble_eq_true rfl)).mpr z)
    refine lv_bipush (v := 56) hx hb dX9_spot_13 (by decide) ?_
    refine lv_iconst (v := 3) hx hb dX9_spot_15 (by decide) ?_
    refine lv_iload_n hx hb dX9_spot_16 rfl (lv_at hl 1 rfl) ?_
    refine lv_bipush (v := 100) hx hb dX9_spot_17 (by decide) ?_
    refine lv_isub hx hb dX9_spot_19 ?_
    refine lv_topi (fun y_3 ey_3 => ?_)
    obtain rfl : y_3 = (nI (a0 - 100)) := ey_3.trans (pk_sub (a := a0) (b := 100) (by omega))
    refine lv_imul hx hb dX9_spot_20 ?_
    refine lv_topi (fun y_4 ey_4 => ?_)
    obtain rfl : y_4 = (nI (3 * (a0 - 100))) := ey_4.trans (pk_mul 3 (a0 - 100))
    refine lv_iadd hx hb dX9_spot_21 ?_
    refine lv_topi (fun y_5 ey_5 => ?_)
    obtain rfl : y_5 = (nI (56 + (3 * (a0 - 100)))) := ey_5.trans (nI_add 56 (3 * (a0 - 100)))
    refine lv_goto (tgt := 28) hx hb dX9_spot_22 (by decide) ?_
    refine lv_iadd hx hb dX9_spot_28 ?_
    refine lv_topi (fun y_6 ey_6 => ?_)
    obtain rfl : y_6 = (nI ((80 * x16) + (56 + (3 * (a0 - 100))))) := ey_6.trans (nI_add (80 * x16) (56 + (3 * (a0 - 100))))
    refine lv_iload_n hx hb dX9_spot_29 rfl (lv_at hl 2 rfl) ?_
    refine lv_iadd hx hb dX9_spot_30 ?_
    refine lv_topi (fun y_7 ey_7 => ?_)
    obtain rfl : y_7 = (nI (((80 * x16) + (56 + (3 * (a0 - 100)))) + a1)) := ey_7.trans (nI_add ((80 * x16) + (56 + (3 * (a0 - 100)))) a1)
    exact W.iret (v := (nI (((80 * x16) + (56 + (3 * (a0 - 100)))) + a1))) hx hb hr (fun t ht hW => ⟨⟨(nI (((80 * x16) + (56 + (3 * (a0 - 100)))) + a1)), (), rfl, congrArg nI (by omega), trivial⟩, hS.F ht⟩) hS.2.2 dX9_spot_31
theorem dX9_isCondition_0 : decode cX9_isCondition 0 = .ok (.iload_n 2, 1) := by decide +kernel
theorem dX9_isCondition_1 : decode cX9_isCondition 1 = .ok (.iconst 0, 1) := by decide +kernel
theorem dX9_isCondition_2 : decode cX9_isCondition 2 = .ok (.aload_n 0, 1) := by decide +kernel
theorem dX9_isCondition_3 : decode cX9_isCondition 3 = .ok (.iload_n 1, 1) := by decide +kernel
theorem dX9_isCondition_4 : decode cX9_isCondition 4 = .ok (.invokevirtual 295, 3) := by decide +kernel
theorem dX9_isCondition_7 : decode cX9_isCondition 7 = .ok (.iconst 1, 1) := by decide +kernel
theorem dX9_isCondition_8 : decode cX9_isCondition 8 = .ok (.isub, 1) := by decide +kernel
theorem dX9_isCondition_9 : decode cX9_isCondition 9 = .ok (.invokestatic 152, 3) := by decide +kernel
theorem dX9_isCondition_12 : decode cX9_isCondition 12 = .ok (.ireturn, 1) := by decide +kernel
abbrev vs_M_isCondition : List Cond := .code yX9_isCondition cX9_isCondition 3 (some .boolean) :: VM
theorem g_M_isCondition_X9_in : GoodIn vs_M_isCondition (va_wsS RX9 152 yX9_in vs_X9_in) := gm_0 (fun w h => by
  rcases List.mem_cons.mp h with rfl | h
  · exact vm_153
  rcases List.mem_cons.mp h with rfl | h
  · exact vm_154
  rcases List.mem_cons.mp h with rfl | h
  · exact vm_12
  rcases List.mem_cons.mp h with rfl | h
  · exact vm_14
  exact absurd h (List.not_mem_nil))
theorem g_M_isCondition_M_manyOf_g : GoodIn vs_M_isCondition (wsV RX9 295 RX9 yX9_manyOf vs_M_manyOf_g) := gm_V vm_166 vm_167 vm_168 vm_12 vm_157
set_option maxHeartbeats 4000000 in
set_option maxRecDepth 100000 in
theorem c_M_isCondition (l : Launch) (dC : Nat → ClassId) (dI : Nat → Nat → Nat) (sz : Nat) (ad : Nat → Nat) (ck : Nat → ClassId) (x0 : Int32) (x16 : Nat) (x18 : Nat) (x19 : Nat) (x20 : Int32) (x21 : Nat) (x22 : Nat) (x23 : Int32) (x24 : Int32) (x25 : Int32) (x26 : Nat) (x27 : Int32) (x28 : Nat) (x29 : Nat) (x30 : Nat) (x33 : Nat) (x45 : Int32) (x46 : Nat) (x52 : Nat) (x53 : Nat) (x61 : Nat) (x62 : Nat) (x63 : Nat) (x65 : Nat) (x66 : Int32) (f1 : Nat → Int32) (f2 : Nat → Int32) (f3 : Nat → Int32) (q4 : Nat → Nat) (q5 : Nat → Nat) (q6 : Nat → Nat) (q7 : Nat → Nat) (f8 : Nat → Int32) (q9 : Nat → Nat) (q10 : Nat → Nat) (f11 : Nat → Int32) (m12_0 m12_1 : Nat) (m13_0 m13_1 : Nat) (m14_0 m14_1 : Nat) (m15_0 m15_1 : Nat) (f17 : Nat → Int32) (q31 : Nat → Nat) (f32 : Nat → Int32) (f34 : Nat → Int32) (f35 : Nat → Int32) (f36 : Nat → Int32) (f37 : Nat → Int32) (q38 : Nat → Nat) (f39 : Nat → Int32) (f40 : Nat → Int32) (f41 : Nat → Int32) (m42_0 m42_1 : Nat) (f43 : Nat → Int32) (f44 : Nat → Int32) (f47 : Nat → Int32) (f48 : Nat → Int32) (f49 : Nat → Int32) (f50 : Nat → Int32) (f51 : Nat → Int32) (q54 : Nat → Nat) (q55 : Nat → Nat) (q56 : Nat → Nat) (f57 : Nat → Int32) (q58 : Nat → Nat) (f59 : Nat → Int32) (f60 : Nat → Int32) (f64 : Nat → Int32) (p0 : Int32) (p1 : Int32) (hx16 : x16 ≤ 1) (hx18 : x18 ≤ 900) (hx19 : x19 ≤ 900) (hx21 : x21 ≤ 900) (hx22 : x22 ≤ 4) (hx26 : x26 ≤ 6) (hx28 : x28 ≤ 1) (hx29 : x29 ≤ 1) (hx30 : x30 ≤ 1) (hx33 : x33 ≤ 20) (hx46 : x46 ≤ 5) (hx52 : x52 ≤ 2400) (hx53 : x53 ≤ 119) (hx61 : x61 ≤ 119) (hx62 : x62 ≤ 2000) (hx63 : x63 ≤ 1) (hx65 : x65 ≤ 7) (hm12_0 : m12_0 ≤ 3) (hm12_1 : m12_1 ≤ 3) (hm13_0 : m13_0 ≤ 8) (hm13_1 : m13_1 ≤ 8) (hm14_0 : m14_0 ≤ 14) (hm14_1 : m14_1 ≤ 14) (hm15_0 : m15_0 ≤ 8) (hm15_1 : m15_1 ≤ 8) (hm42_0 : m42_0 ≤ 120) (hm42_1 : m42_1 ≤ 400) : Met l yX9_isCondition vs_M_isCondition ({ frames := 3, cells := 0, slots := 0, locals := 64 }) (va_Pc [.ref (ad 0), .int p0, .int p1] (pu_B (dC, dI) (mo_w ad ck x0 (nI x16) (nI x18) (nI x19) x20 (nI x21) (nI x22) x23 x24 x25 (nI x26) x27 (nI x28) (nI x29) (nI x30) (nI x33) x45 (nI x46) (nI x52) (nI x53) (nI x61) (nI x62) (nI x63) (nI x65) x66 f1 f2 f3 (bN 3 q4) (bN 7 q5) (bN 7 q6) (bN 4 q7) f8 (bN 2 q9) (bH q10) f11 (b2 m12_0 m12_1) (b2 m13_0 m13_1) (b2 m14_0 m14_1) (b2m m15_0 m15_1) f17 (bA 159 q31) f32 f34 f35 f36 f37 (bN 7 q38) f39 f40 f41 (b2 m42_0 m42_1) f43 f44 f47 f48 f49 f50 f51 (bN 13 q54) (bN 120 q55) (bN 120 q56) f57 (bN 120 q58) f59 f60 f64) (mo_t ck) sz)) (va_Qi (fun (r : Int32) (_ : Unit) => (r = 1 ∧ ((∃ q j : Nat, q ≤ 13 ∧ j ≤ 3 ∧ p0 = nI q ∧ p1 = nI j) ∨ (∃ q j : Nat, q ≤ 7 ∧ j ≤ 2 ∧ p0 = nI (100 + q) ∧ p1 = nI j))) ∨ r = 0) (fun _ _ => True) (va_A [] sz)) 0 0 (va_A [] sz) := by
  refine Met.ofW (cc := cX9_isCondition) (maxL := 3) (ret := (some .boolean)) (by decide) rfl ?_
  intro p e s m args below meth c s₁ B hml hv
  obtain ⟨rfl, rfl, hP, hK, hD0⟩ := hv
  have hx := B.exec
  have hb := B.bytes
  have hr := B.returns
  have hts := atoms_spec (ws := vs_M_isCondition) B.pre
  have hown : s.vm.findClass RX9 = some m.cls := findClass_of_methodNamed B.named
  have hlocks := B.notSynchronized
  have hD := hD0
  have hA : ∀ q : Nat, s.heap.size ≤ q → va_A [] s.heap.size q := fun _ h => Or.inr h
  have hS : va_S (va_A [] s.heap.size) s.heap s.heap [] := va_S.rf
  have hl := lv_entry ([.ref (ad 0), .int p0, .int p1]) (n := 3) (Nat.le_of_ble_eq_true rfl)
  rw [lg_entry_eq]
  generalize (lg_sl ([.ref (ad 0), .int p0, .int p1]) ++ List.replicate (3 - (lg_sl ([.ref (ad 0), .int p0, .int p1])).length) Slot.unset).toArray = ls at hl ⊢
  have hl : lv_has ls 3 [(0, .ref (ad 0)), (1, .int p0), (2, .int p1)] := hl
  refine lv_iload_n hx hb dX9_isCondition_0 rfl (lv_at hl 2 rfl) ?_
  refine lv_iconst (v := 0) hx hb dX9_isCondition_1 (by decide) ?_
  refine lv_aload_n hx hb dX9_isCondition_2 rfl (lv_at hl 0 rfl) ?_
  refine lv_iload_n hx hb dX9_isCondition_3 rfl (lv_at hl 1 rfl) ?_
  refine va_calli (va_runV (As := [.int p0]) (rest := [.int 0, .int p1]) ⟨hx, hb, hml, hown, hts⟩ (c_M_manyOf_g l dC dI _ ad ck x0 x16 x18 x19 x20 x21 x22 x23 x24 x25 x26 x27 x28 x29 x30 x33 x45 x46 x52 x53 x61 x62 x63 x65 x66 f1 f2 f3 q4 q5 q6 q7 f8 q9 q10 f11 m12_0 m12_1 m13_0 m13_1 m14_0 m14_1 m15_0 m15_1 f17 q31 f32 f34 f35 f36 f37 q38 f39 f40 f41 m42_0 m42_1 f43 f44 f47 f48 f49 f50 f51 q54 q55 q56 f57 q58 f59 f60 f64 p0 hx16 hx18 hx19 hx21 hx22 hx26 hx28 hx29 hx30 hx33 hx46 hx52 hx53 hx61 hx62 hx63 hx65 hm12_0 hm12_1 hm13_0 hm13_1 hm14_0 hm14_1 hm15_0 hm15_1 hm42_0 hm42_1) (cwV 1 hts g_M_isCondition_M_manyOf_g rfl rfl rfl (by decide +kernel) ⟨Nat.le_of_ble_eq_true rfl, Nat.le_of_ble_eq_true rfl⟩) ⟨pu_bl, va_recv hK hP (ci := 9) (q0 := 0) rfl rfl, pu_in hP hK hD⟩ rfl rfl hl.1 rfl (lv_room (Nat.le_of_ble_eq_true rfl)) dX9_isCondition_4 ⟨Nat.le_of_ble_eq_true rfl, Nat.le_of_ble_eq_true rfl⟩) hS (fun q _ h => pu_fr hS hA q h) (pu_fr hS hA) (fun r_1 u t H1 locs ht hvm hw hB hz1 hk1 hS => ?_)
  have hP := pu_keep hP hk1
  clear hk1 hz1 ht hvm
  generalize H1 = H at hP hS ⊢
  rcases hw with rfl | ⟨n_2, u_3, hn_2, hu_3, en_2, rfl⟩ | ⟨n_2, u_3, hn_2, hu_3, en_2, rfl⟩
  · refine lv_iconst (v := 1) hx hb dX9_isCondition_7 (by decide) ?_
    refine lv_isub hx hb dX9_isCondition_8 ?_
    refine lv_topi (fun y_4 ey_4 => ?_)
    obtain rfl : y_4 = (-2) := ey_4.trans (by decide)
    refine va_calli (va_runS (As := [.int p1, .int 0, .int (-2)]) (rest := []) ⟨hx, hb, hml, hown, hts⟩ (c_X9_in l dC dI _ p1 0 (-2)) (va_cwS 3 hts g_M_isCondition_X9_in rfl rfl rfl (by decide +kernel) ⟨Nat.le_of_ble_eq_true rfl, Nat.le_of_ble_eq_true rfl⟩) ⟨pu_bl, pu_in (hP.sub [] rfl) (hK.sub [] rfl) (hD.sub [] (by decide) rfl)⟩ rfl rfl hl.1 rfl (lv_room (Nat.le_of_ble_eq_true rfl)) dX9_isCondition_9 ⟨Nat.le_of_ble_eq_true rfl, Nat.le_of_ble_eq_true rfl⟩) hS (fun q _ h => pu_fr hS hA q h) (pu_fr hS hA) (fun r_5 u t H1 locs ht hvm hw hB hz1 hk1 hS => ?_)
    have hP := pu_keep hP hk1
    clear hk1 hz1 ht hvm
    generalize H1 = H at hP hS ⊢
    rcases hw with ⟨rfl, hi1, hi2⟩ | ⟨rfl, hi3⟩
    · exact absurd (Int32.le_trans hi1 hi2) (by decide)
    · exact W.zret (v := 0) (ty := .boolean) hx hb hr (rfl) (fun t ht hW => ⟨⟨0, (), rfl, Or.inr rfl, trivial⟩, hS.F ht⟩) hS.2.2 dX9_isCondition_12
  · subst en_2
    refine lv_iconst (v := 1) hx hb dX9_isCondition_7 (by decide) ?_
    refine lv_isub hx hb dX9_isCondition_8 ?_
    refine va_calli (va_runS (As := [.int p1, .int 0, .int ((nI u_3) - 1)]) (rest := []) ⟨hx, hb, hml, hown, hts⟩ (c_X9_in l dC dI _ p1 0 ((nI u_3) - 1)) (va_cwS 3 hts g_M_isCondition_X9_in rfl rfl rfl (by decide +kernel) ⟨Nat.le_of_ble_eq_true rfl, Nat.le_of_ble_eq_true rfl⟩) ⟨pu_bl, pu_in (hP.sub [] rfl) (hK.sub [] rfl) (hD.sub [] (by decide) rfl)⟩ rfl rfl hl.1 rfl (lv_room (Nat.le_of_ble_eq_true rfl)) dX9_isCondition_9 ⟨Nat.le_of_ble_eq_true rfl, Nat.le_of_ble_eq_true rfl⟩) hS (fun q _ h => pu_fr hS hA q h) (pu_fr hS hA) (fun r_6 u t H1 locs ht hvm hw hB hz1 hk1 hS => ?_)
    have hP := pu_keep hP hk1
    clear hk1 hz1 ht hvm
    generalize H1 = H at hP hS ⊢
    rcases hw with ⟨rfl, hi1, hi2⟩ | ⟨rfl, hi3⟩
    · obtain ⟨n_7, hn_7, rfl⟩ := pu_in1 (n := u_3) (by omega) hi1 hi2
      exact W.zret (v := 1) (ty := .boolean) hx hb hr (rfl) (fun t ht hW => ⟨⟨1, (), rfl, Or.inl ⟨rfl, Or.inl ⟨n_2, n_7, by omega, by omega, rfl, rfl⟩⟩, trivial⟩, hS.F ht⟩) hS.2.2 dX9_isCondition_12
    · exact W.zret (v := 0) (ty := .boolean) hx hb hr (rfl) (fun t ht hW => ⟨⟨0, (), rfl, Or.inr rfl, trivial⟩, hS.F ht⟩) hS.2.2 dX9_isCondition_12
  · subst en_2
    refine lv_iconst (v := 1) hx hb dX9_isCondition_7 (by decide) ?_
    refine lv_isub hx hb dX9_isCondition_8 ?_
    refine va_calli (va_runS (As := [.int p1, .int 0, .int ((nI u_3) - 1)]) (rest := []) ⟨hx, hb, hml, hown, hts⟩ (c_X9_in l dC dI _ p1 0 ((nI u_3) - 1)) (va_cwS 3 hts g_M_isCondition_X9_in rfl rfl rfl (by decide +kernel) ⟨Nat.le_of_ble_eq_true rfl, Nat.le_of_ble_eq_true rfl⟩) ⟨pu_bl, pu_in (hP.sub [] rfl) (hK.sub [] rfl) (hD.sub [] (by decide) rfl)⟩ rfl rfl hl.1 rfl (lv_room (Nat.le_of_ble_eq_true rfl)) dX9_isCondition_9 ⟨Nat.le_of_ble_eq_true rfl, Nat.le_of_ble_eq_true rfl⟩) hS (fun q _ h => pu_fr hS hA q h) (pu_fr hS hA) (fun r_8 u t H1 locs ht hvm hw hB hz1 hk1 hS => ?_)
    have hP := pu_keep hP hk1
    clear hk1 hz1 ht hvm
    generalize H1 = H at hP hS ⊢
    rcases hw with ⟨rfl, hi1, hi2⟩ | ⟨rfl, hi3⟩
    · obtain ⟨n_9, hn_9, rfl⟩ := pu_in1 (n := u_3) (by omega) hi1 hi2
      exact W.zret (v := 1) (ty := .boolean) hx hb hr (rfl) (fun t ht hW => ⟨⟨1, (), rfl, Or.inl ⟨rfl, Or.inr ⟨n_2, n_9, by omega, by omega, rfl, rfl⟩⟩, trivial⟩, hS.F ht⟩) hS.2.2 dX9_isCondition_12
    · exact W.zret (v := 0) (ty := .boolean) hx hb hr (rfl) (fun t ht hW => ⟨⟨0, (), rfl, Or.inr rfl, trivial⟩, hS.F ht⟩) hS.2.2 dX9_isCondition_12
theorem dX9_condition_0 : decode cX9_condition 0 = .ok (.aload_n 0, 1) := by decide +kernel
theorem dX9_condition_1 : decode cX9_condition 1 = .ok (.iconst 0, 1) := by decide +kernel
theorem dX9_condition_2 : decode cX9_condition 2 = .ok (.putfield 142, 3) := by decide +kernel
theorem dX9_condition_5 : decode cX9_condition 5 = .ok (.aload_n 0, 1) := by decide +kernel
theorem dX9_condition_6 : decode cX9_condition 6 = .ok (.iload_n 1, 1) := by decide +kernel
theorem dX9_condition_7 : decode cX9_condition 7 = .ok (.iload_n 2, 1) := by decide +kernel
theorem dX9_condition_8 : decode cX9_condition 8 = .ok (.invokevirtual 308, 3) := by decide +kernel
theorem dX9_condition_11 : decode cX9_condition 11 = .ok (.ifCond .eq 12, 3) := by decide +kernel
theorem dX9_condition_14 : decode cX9_condition 14 = .ok (.iload_n 3, 1) := by decide +kernel
theorem dX9_condition_15 : decode cX9_condition 15 = .ok (.iconst 0, 1) := by decide +kernel
theorem dX9_condition_16 : decode cX9_condition 16 = .ok (.iconst 2, 1) := by decide +kernel
theorem dX9_condition_17 : decode cX9_condition 17 = .ok (.invokestatic 152, 3) := by decide +kernel
theorem dX9_condition_20 : decode cX9_condition 20 = .ok (.ifCond .ne 5, 3) := by decide +kernel
theorem dX9_condition_23 : decode cX9_condition 23 = .ok (.iconst (-1), 1) := by decide +kernel
theorem dX9_condition_24 : decode cX9_condition 24 = .ok (.ireturn, 1) := by decide +kernel
theorem dX9_condition_25 : decode cX9_condition 25 = .ok (.aload_n 0, 1) := by decide +kernel
theorem dX9_condition_26 : decode cX9_condition 26 = .ok (.iload_n 1, 1) := by decide +kernel
theorem dX9_condition_27 : decode cX9_condition 27 = .ok (.iload_n 2, 1) := by decide +kernel
theorem dX9_condition_28 : decode cX9_condition 28 = .ok (.invokevirtual 311, 3) := by decide +kernel
theorem dX9_condition_31 : decode cX9_condition 31 = .ok (.istore 4, 2) := by decide +kernel
theorem dX9_condition_33 : decode cX9_condition 33 = .ok (.iload_n 3, 1) := by decide +kernel
theorem dX9_condition_34 : decode cX9_condition 34 = .ok (.ifCond .ne 13, 3) := by decide +kernel
theorem dX9_condition_37 : decode cX9_condition 37 = .ok (.aload_n 0, 1) := by decide +kernel
theorem dX9_condition_38 : decode cX9_condition 38 = .ok (.getfield 34, 3) := by decide +kernel
theorem dX9_condition_41 : decode cX9_condition 41 = .ok (.iload 4, 2) := by decide +kernel
theorem dX9_condition_43 : decode cX9_condition 43 = .ok (.iaload, 1) := by decide +kernel
theorem dX9_condition_44 : decode cX9_condition 44 = .ok (.goto 25, 3) := by decide +kernel
theorem dX9_condition_47 : decode cX9_condition 47 = .ok (.iload_n 3, 1) := by decide +kernel
theorem dX9_condition_48 : decode cX9_condition 48 = .ok (.iconst 1, 1) := by decide +kernel
theorem dX9_condition_49 : decode cX9_condition 49 = .ok (.if_icmp .ne 13, 3) := by decide +kernel
theorem dX9_condition_52 : decode cX9_condition 52 = .ok (.aload_n 0, 1) := by decide +kernel
theorem dX9_condition_53 : decode cX9_condition 53 = .ok (.getfield 37, 3) := by decide +kernel
theorem dX9_condition_56 : decode cX9_condition 56 = .ok (.iload 4, 2) := by decide +kernel
theorem dX9_condition_58 : decode cX9_condition 58 = .ok (.iaload, 1) := by decide +kernel
theorem dX9_condition_59 : decode cX9_condition 59 = .ok (.goto 10, 3) := by decide +kernel
theorem dX9_condition_62 : decode cX9_condition 62 = .ok (.aload_n 0, 1) := by decide +kernel
theorem dX9_condition_63 : decode cX9_condition 63 = .ok (.getfield 40, 3) := by decide +kernel
theorem dX9_condition_66 : decode cX9_condition 66 = .ok (.iload 4, 2) := by decide +kernel
theorem dX9_condition_68 : decode cX9_condition 68 = .ok (.iaload, 1) := by decide +kernel
theorem dX9_condition_69 : decode cX9_condition 69 = .ok (.ireturn, 1) := by decide +kernel
abbrev vs_M_condition : List Cond := .code yX9_condition cX9_condition 5 (some .int) :: VM
theorem g_M_condition_X9_in : GoodIn vs_M_condition (va_wsS RX9 152 yX9_in vs_X9_in) := gm_0 (fun w h => by
  rcases List.mem_cons.mp h with rfl | h
  · exact vm_153
  rcases List.mem_cons.mp h with rfl | h
  · exact vm_154
  rcases List.mem_cons.mp h with rfl | h
  · exact vm_12
  rcases List.mem_cons.mp h with rfl | h
  · exact vm_14
  exact absurd h (List.not_mem_nil))
theorem g_M_condition_M_isCondition : GoodIn vs_M_condition (wsV RX9 308 RX9 yX9_isCondition vs_M_isCondition) := gm_V vm_170 vm_171 vm_172 vm_12 vm_165
theorem g_M_condition_M_spot_e : GoodIn vs_M_condition (wsV RX9 311 RX9 yX9_spot vs_M_spot_e) := gm_V vm_173 vm_174 vm_175 vm_12 vm_164
theorem g_M_condition_M_spot_p : GoodIn vs_M_condition (wsV RX9 311 RX9 yX9_spot vs_M_spot_p) := gm_V vm_173 vm_174 vm_175 vm_12 vm_164
set_option maxHeartbeats 4000000 in
set_option maxRecDepth 100000 in
theorem c_M_condition (l : Launch) (dC : Nat → ClassId) (dI : Nat → Nat → Nat) (sz : Nat) (ad : Nat → Nat) (ck : Nat → ClassId) (x0 : Int32) (x16 : Nat) (x18 : Nat) (x19 : Nat) (x20 : Int32) (x21 : Nat) (x22 : Nat) (x23 : Int32) (x24 : Int32) (x25 : Int32) (x26 : Nat) (x27 : Int32) (x28 : Nat) (x29 : Nat) (x30 : Nat) (x33 : Nat) (x45 : Int32) (x46 : Nat) (x52 : Nat) (x53 : Nat) (x61 : Nat) (x62 : Nat) (x63 : Nat) (x65 : Nat) (x66 : Int32) (f1 : Nat → Int32) (f2 : Nat → Int32) (f3 : Nat → Int32) (q4 : Nat → Nat) (q5 : Nat → Nat) (q6 : Nat → Nat) (q7 : Nat → Nat) (f8 : Nat → Int32) (q9 : Nat → Nat) (q10 : Nat → Nat) (f11 : Nat → Int32) (m12_0 m12_1 : Nat) (m13_0 m13_1 : Nat) (m14_0 m14_1 : Nat) (m15_0 m15_1 : Nat) (f17 : Nat → Int32) (q31 : Nat → Nat) (f32 : Nat → Int32) (f34 : Nat → Int32) (f35 : Nat → Int32) (f36 : Nat → Int32) (f37 : Nat → Int32) (q38 : Nat → Nat) (f39 : Nat → Int32) (f40 : Nat → Int32) (f41 : Nat → Int32) (m42_0 m42_1 : Nat) (f43 : Nat → Int32) (f44 : Nat → Int32) (f47 : Nat → Int32) (f48 : Nat → Int32) (f49 : Nat → Int32) (f50 : Nat → Int32) (f51 : Nat → Int32) (q54 : Nat → Nat) (q55 : Nat → Nat) (q56 : Nat → Nat) (f57 : Nat → Int32) (q58 : Nat → Nat) (f59 : Nat → Int32) (f60 : Nat → Int32) (f64 : Nat → Int32) (p0 : Int32) (p1 : Int32) (p2 : Int32) (hx16 : x16 ≤ 1) (hx18 : x18 ≤ 900) (hx19 : x19 ≤ 900) (hx21 : x21 ≤ 900) (hx22 : x22 ≤ 4) (hx26 : x26 ≤ 6) (hx28 : x28 ≤ 1) (hx29 : x29 ≤ 1) (hx30 : x30 ≤ 1) (hx33 : x33 ≤ 20) (hx46 : x46 ≤ 5) (hx52 : x52 ≤ 2400) (hx53 : x53 ≤ 119) (hx61 : x61 ≤ 119) (hx62 : x62 ≤ 2000) (hx63 : x63 ≤ 1) (hx65 : x65 ≤ 7) (hm12_0 : m12_0 ≤ 3) (hm12_1 : m12_1 ≤ 3) (hm13_0 : m13_0 ≤ 8) (hm13_1 : m13_1 ≤ 8) (hm14_0 : m14_0 ≤ 14) (hm14_1 : m14_1 ≤ 14) (hm15_0 : m15_0 ≤ 8) (hm15_1 : m15_1 ≤ 8) (hm42_0 : m42_0 ≤ 120) (hm42_1 : m42_1 ≤ 400) : Met l yX9_condition vs_M_condition ({ frames := 4, cells := 0, slots := 0, locals := 86 }) (va_Pc [.ref (ad 0), .int p0, .int p1, .int p2] (pu_B (dC, dI) (mo_w ad ck x0 (nI x16) (nI x18) (nI x19) x20 (nI x21) (nI x22) x23 x24 x25 (nI x26) x27 (nI x28) (nI x29) (nI x30) (nI x33) x45 (nI x46) (nI x52) (nI x53) (nI x61) (nI x62) (nI x63) (nI x65) x66 f1 f2 f3 (bN 3 q4) (bN 7 q5) (bN 7 q6) (bN 4 q7) f8 (bN 2 q9) (bH q10) f11 (b2 m12_0 m12_1) (b2 m13_0 m13_1) (b2 m14_0 m14_1) (b2m m15_0 m15_1) f17 (bA 159 q31) f32 f34 f35 f36 f37 (bN 7 q38) f39 f40 f41 (b2 m42_0 m42_1) f43 f44 f47 f48 f49 f50 f51 (bN 13 q54) (bN 120 q55) (bN 120 q56) f57 (bN 120 q58) f59 f60 f64) (mo_t ck) sz)) (va_Qi (fun (r : Int32) (_ : Unit) => True) (fun _ t => ∃ (z0 : Int32), pu_E (dC, dI) (mo_w ad ck z0 (nI x16) (nI x18) (nI x19) x20 (nI x21) (nI x22) x23 x24 x25 (nI x26) x27 (nI x28) (nI x29) (nI x30) (nI x33) x45 (nI x46) (nI x52) (nI x53) (nI x61) (nI x62) (nI x63) (nI x65) x66 f1 f2 f3 (bN 3 q4) (bN 7 q5) (bN 7 q6) (bN 4 q7) f8 (bN 2 q9) (bH q10) f11 (b2 m12_0 m12_1) (b2 m13_0 m13_1) (b2 m14_0 m14_1) (b2m m15_0 m15_1) f17 (bA 159 q31) f32 f34 f35 f36 f37 (bN 7 q38) f39 f40 f41 (b2 m42_0 m42_1) f43 f44 f47 f48 f49 f50 f51 (bN 13 q54) (bN 120 q55) (bN 120 q56) f57 (bN 120 q58) f59 f60 f64) (mo_t ck) (va_A ((mo_w ad ck x0 (nI x16) (nI x18) (nI x19) x20 (nI x21) (nI x22) x23 x24 x25 (nI x26) x27 (nI x28) (nI x29) (nI x30) (nI x33) x45 (nI x46) (nI x52) (nI x53) (nI x61) (nI x62) (nI x63) (nI x65) x66 f1 f2 f3 (bN 3 q4) (bN 7 q5) (bN 7 q6) (bN 4 q7) f8 (bN 2 q9) (bH q10) f11 (b2 m12_0 m12_1) (b2 m13_0 m13_1) (b2 m14_0 m14_1) (b2m m15_0 m15_1) f17 (bA 159 q31) f32 f34 f35 f36 f37 (bN 7 q38) f39 f40 f41 (b2 m42_0 m42_1) f43 f44 f47 f48 f49 f50 f51 (bN 13 q54) (bN 120 q55) (bN 120 q56) f57 (bN 120 q58) f59 f60 f64)) sz) t) (va_A ((mo_w ad ck x0 (nI x16) (nI x18) (nI x19) x20 (nI x21) (nI x22) x23 x24 x25 (nI x26) x27 (nI x28) (nI x29) (nI x30) (nI x33) x45 (nI x46) (nI x52) (nI x53) (nI x61) (nI x62) (nI x63) (nI x65) x66 f1 f2 f3 (bN 3 q4) (bN 7 q5) (bN 7 q6) (bN 4 q7) f8 (bN 2 q9) (bH q10) f11 (b2 m12_0 m12_1) (b2 m13_0 m13_1) (b2 m14_0 m14_1) (b2m m15_0 m15_1) f17 (bA 159 q31) f32 f34 f35 f36 f37 (bN 7 q38) f39 f40 f41 (b2 m42_0 m42_1) f43 f44 f47 f48 f49 f50 f51 (bN 13 q54) (bN 120 q55) (bN 120 q56) f57 (bN 120 q58) f59 f60 f64)) sz)) 0 0 (va_A ((mo_w ad ck x0 (nI x16) (nI x18) (nI x19) x20 (nI x21) (nI x22) x23 x24 x25 (nI x26) x27 (nI x28) (nI x29) (nI x30) (nI x33) x45 (nI x46) (nI x52) (nI x53) (nI x61) (nI x62) (nI x63) (nI x65) x66 f1 f2 f3 (bN 3 q4) (bN 7 q5) (bN 7 q6) (bN 4 q7) f8 (bN 2 q9) (bH q10) f11 (b2 m12_0 m12_1) (b2 m13_0 m13_1) (b2 m14_0 m14_1) (b2m m15_0 m15_1) f17 (bA 159 q31) f32 f34 f35 f36 f37 (bN 7 q38) f39 f40 f41 (b2 m42_0 m42_1) f43 f44 f47 f48 f49 f50 f51 (bN 13 q54) (bN 120 q55) (bN 120 q56) f57 (bN 120 q58) f59 f60 f64)) sz) := by
  refine Met.ofW (cc := cX9_condition) (maxL := 5) (ret := (some .int)) (by decide) rfl ?_
  intro p e s m args below meth c s₁ B hml hv
  obtain ⟨rfl, rfl, hP, hK, hD0⟩ := hv
  have hx := B.exec
  have hb := B.bytes
  have hr := B.returns
  have hts := atoms_spec (ws := vs_M_condition) B.pre
  have v_1 := hts (.fieldLink RX9 142 "ClockReachModel" "thrown" "I") (List.mem_cons_of_mem _ vm_24)
  have v_14 := hts (.fieldLink RX9 40 "ClockReachModel" "limit" "[I") (List.mem_cons_of_mem _ vm_116)
  have v_15 := hts (.fieldLink RX9 37 "ClockReachModel" "how" "[I") (List.mem_cons_of_mem _ vm_115)
  have v_16 := hts (.fieldLink RX9 34 "ClockReachModel" "ofClock" "[I") (List.mem_cons_of_mem _ vm_108)
  have hown : s.vm.findClass RX9 = some m.cls := findClass_of_methodNamed B.named
  have hlocks := B.notSynchronized
  have hiX9 : ∀ w ∈ wsX90, w ∈ vs_M_condition := fun _ h => List.mem_cons_of_mem _ (List.mem_append_right _ h)
  have hD := hD0.self (sz := s.heap.size)
  generalize hAe : va_A ((mo_w ad ck x0 (nI x16) (nI x18) (nI x19) x20 (nI x21) (nI x22) x23 x24 x25 (nI x26) x27 (nI x28) (nI x29) (nI x30) (nI x33) x45 (nI x46) (nI x52) (nI x53) (nI x61) (nI x62) (nI x63) (nI x65) x66 f1 f2 f3 (bN 3 q4) (bN 7 q5) (bN 7 q6) (bN 4 q7) f8 (bN 2 q9) (bH q10) f11 (b2 m12_0 m12_1) (b2 m13_0 m13_1) (b2 m14_0 m14_1) (b2m m15_0 m15_1) f17 (bA 159 q31) f32 f34 f35 f36 f37 (bN 7 q38) f39 f40 f41 (b2 m42_0 m42_1) f43 f44 f47 f48 f49 f50 f51 (bN 13 q54) (bN 120 q55) (bN 120 q56) f57 (bN 120 q58) f59 f60 f64)) s.heap.size = A at hD ⊢
  have hA : ∀ q : Nat, s.heap.size ≤ q → A q := fun q h => by rw [← hAe]; exact Or.inr h
  have hS : va_S A s.heap s.heap [] := va_S.rf
  have hl := lv_entry ([.ref (ad 0), .int p0, .int p1, .int p2]) (n := 5) (Nat.le_of_ble_eq_true rfl)
  rw [lg_entry_eq]
  generalize (lg_sl ([.ref (ad 0), .int p0, .int p1, .int p2]) ++ List.replicate (5 - (lg_sl ([.ref (ad 0), .int p0, .int p1, .int p2])).length) Slot.unset).toArray = ls at hl ⊢
  have hl : lv_has ls 5 [(0, .ref (ad 0)), (1, .int p0), (2, .int p1), (3, .int p2)] := hl
  refine lv_aload_n hx hb dX9_condition_0 rfl (lv_at hl 0 rfl) ?_
  refine lv_iconst (v := 0) hx hb dX9_condition_1 (by decide) ?_
  refine va_put (D := (dC, dI)) (ci := 9) (v := .int 0) (ty := .int) (C := RX9) (T := TX9) (N := 67) hx hb hts hiX9 tyX9 tyX9_ok nmX9 hown hK hP hD hS 0 rfl rfl 0 (by decide) v_1 (fun _ h9 => h9) rfl (by decide +kernel) rfl rfl (Nat.le_of_ble_eq_true rfl) dX9_condition_2 (fun H locs hP hD hS => ?_)
  have hP : va_P (dC, dI) vwCl (mo_w ad ck 0 (nI x16) (nI x18) (nI x19) x20 (nI x21) (nI x22) x23 x24 x25 (nI x26) x27 (nI x28) (nI x29) (nI x30) (nI x33) x45 (nI x46) (nI x52) (nI x53) (nI x61) (nI x62) (nI x63) (nI x65) x66 f1 f2 f3 (bN 3 q4) (bN 7 q5) (bN 7 q6) (bN 4 q7) f8 (bN 2 q9) (bH q10) f11 (b2 m12_0 m12_1) (b2 m13_0 m13_1) (b2 m14_0 m14_1) (b2m m15_0 m15_1) f17 (bA 159 q31) f32 f34 f35 f36 f37 (bN 7 q38) f39 f40 f41 (b2 m42_0 m42_1) f43 f44 f47 f48 f49 f50 f51 (bN 13 q54) (bN 120 q55) (bN 120 q56) f57 (bN 120 q58) f59 f60 f64) H := hP
  have hD : va_D A (mo_w ad ck 0 (nI x16) (nI x18) (nI x19) x20 (nI x21) (nI x22) x23 x24 x25 (nI x26) x27 (nI x28) (nI x29) (nI x30) (nI x33) x45 (nI x46) (nI x52) (nI x53) (nI x61) (nI x62) (nI x63) (nI x65) x66 f1 f2 f3 (bN 3 q4) (bN 7 q5) (bN 7 q6) (bN 4 q7) f8 (bN 2 q9) (bH q10) f11 (b2 m12_0 m12_1) (b2 m13_0 m13_1) (b2 m14_0 m14_1) (b2m m15_0 m15_1) f17 (bA 159 q31) f32 f34 f35 f36 f37 (bN 7 q38) f39 f40 f41 (b2 m42_0 m42_1) f43 f44 f47 f48 f49 f50 f51 (bN 13 q54) (bN 120 q55) (bN 120 q56) f57 (bN 120 q58) f59 f60 f64) := hD
  refine lv_aload_n hx hb dX9_condition_5 rfl (lv_at hl 0 rfl) ?_
  refine lv_iload_n hx hb dX9_condition_6 rfl (lv_at hl 1 rfl) ?_
  refine lv_iload_n hx hb dX9_condition_7 rfl (lv_at hl 2 rfl) ?_
  refine va_calli (va_runV (As := [.int p0, .int p1]) (rest := []) ⟨hx, hb, hml, hown, hts⟩ (c_M_isCondition l dC dI _ ad ck 0 x16 x18 x19 x20 x21 x22 x23 x24 x25 x26 x27 x28 x29 x30 x33 x45 x46 x52 x53 x61 x62 x63 x65 x66 f1 f2 f3 q4 q5 q6 q7 f8 q9 q10 f11 m12_0 m12_1 m13_0 m13_1 m14_0 m14_1 m15_0 m15_1 f17 q31 f32 f34 f35 f36 f37 q38 f39 f40 f41 m42_0 m42_1 f43 f44 f47 f48 f49 f50 f51 q54 q55 q56 f57 q58 f59 f60 f64 p0 p1 hx16 hx18 hx19 hx21 hx22 hx26 hx28 hx29 hx30 hx33 hx46 hx52 hx53 hx61 hx62 hx63 hx65 hm12_0 hm12_1 hm13_0 hm13_1 hm14_0 hm14_1 hm15_0 hm15_1 hm42_0 hm42_1) (cwV 2 hts g_M_condition_M_isCondition rfl rfl rfl (by decide +kernel) ⟨Nat.le_of_ble_eq_true rfl, Nat.le_of_ble_eq_true rfl⟩) ⟨pu_bl, va_recv hK hP (ci := 9) (q0 := 0) rfl rfl, pu_in hP hK hD⟩ rfl rfl hl.1 rfl (lv_room (Nat.le_of_ble_eq_true rfl)) dX9_condition_8 ⟨Nat.le_of_ble_eq_true rfl, Nat.le_of_ble_eq_true rfl⟩) hS (fun q _ h => pu_fr hS hA q h) (pu_fr hS hA) (fun r_1 u t H1 locs ht hvm hw hB hz1 hk1 hS => ?_)
  have hP := pu_keep hP hk1
  clear hk1 hz1 ht hvm
  generalize H1 = H at hP hS ⊢
  rcases hw with ⟨rfl, ⟨n_2, n_3, hn_2, hn_3, rfl, rfl⟩ | ⟨n_2, n_3, hn_2, hn_3, rfl, rfl⟩⟩ | rfl
  · refine lv_if_eq (tgt := 23) hx hb dX9_condition_11 (by decide) (fun z => absurd z (by decide)) (fun _ => ?_)
    refine lv_iload_n hx hb dX9_condition_14 rfl (lv_at hl 3 rfl) ?_
    refine lv_iconst (v := 0) hx hb dX9_condition_15 (by decide) ?_
    refine lv_iconst (v := 2) hx hb dX9_condition_16 (by decide) ?_
    refine va_calli (va_runS (As := [.int p2, .int 0, .int 2]) (rest := []) ⟨hx, hb, hml, hown, hts⟩ (c_X9_in l dC dI _ p2 0 2) (va_cwS 3 hts g_M_condition_X9_in rfl rfl rfl (by decide +kernel) ⟨Nat.le_of_ble_eq_true rfl, Nat.le_of_ble_eq_true rfl⟩) ⟨pu_bl, pu_in (hP.sub [] rfl) (hK.sub [] rfl) (hD.sub [] (by decide) rfl)⟩ rfl rfl hl.1 rfl (lv_room (Nat.le_of_ble_eq_true rfl)) dX9_condition_17 ⟨Nat.le_of_ble_eq_true rfl, Nat.le_of_ble_eq_true rfl⟩) hS (fun q _ h => pu_fr hS hA q h) (pu_fr hS hA) (fun r_4 u t H1 locs ht hvm hw hB hz1 hk1 hS => ?_)
    have hP := pu_keep hP hk1
    clear hk1 hz1 ht hvm
    generalize H1 = H at hP hS ⊢
    rcases hw with ⟨rfl, hi1, hi2⟩ | ⟨rfl, hi3⟩
    · obtain ⟨n_5, hn_5, rfl⟩ := pu_in0 (n := 2) (by omega) hi1 hi2
      refine lv_if_ne (tgt := 25) hx hb dX9_condition_20 (by decide) (fun _ => ?_) (fun z => absurd z (by decide))
      refine lv_aload_n hx hb dX9_condition_25 rfl (lv_at hl 0 rfl) ?_
      refine lv_iload_n hx hb dX9_condition_26 rfl (lv_at hl 1 rfl) ?_
      refine lv_iload_n hx hb dX9_condition_27 rfl (lv_at hl 2 rfl) ?_
      refine va_calli (va_runV (As := [.int (nI n_2), .int (nI n_3)]) (rest := []) ⟨hx, hb, hml, hown, hts⟩ (c_M_spot_e l dC dI _ ad ck 0 x16 x18 x19 x20 x21 x22 x23 x24 x25 x26 x27 x28 x29 x30 x33 x45 x46 x52 x53 x61 x62 x63 x65 x66 f1 f2 f3 q4 q5 q6 q7 f8 q9 q10 f11 m12_0 m12_1 m13_0 m13_1 m14_0 m14_1 m15_0 m15_1 f17 q31 f32 f34 f35 f36 f37 q38 f39 f40 f41 m42_0 m42_1 f43 f44 f47 f48 f49 f50 f51 q54 q55 q56 f57 q58 f59 f60 f64 n_2 n_3 hx16 hx18 hx19 hx21 hx22 hx26 hx28 hx29 hx30 hx33 hx46 hx52 hx53 hx61 hx62 hx63 hx65 hm12_0 hm12_1 hm13_0 hm13_1 hm14_0 hm14_1 hm15_0 hm15_1 hm42_0 hm42_1 (by omega) (by omega)) (cwV 2 hts g_M_condition_M_spot_e rfl rfl rfl (by decide +kernel) ⟨Nat.le_of_ble_eq_true rfl, Nat.le_of_ble_eq_true rfl⟩) ⟨pu_bl, va_recv hK hP (ci := 9) (q0 := 0) rfl rfl, pu_in hP hK hD⟩ rfl rfl hl.1 rfl (lv_room (Nat.le_of_ble_eq_true rfl)) dX9_condition_28 ⟨Nat.le_of_ble_eq_true rfl, Nat.le_of_ble_eq_true rfl⟩) hS (fun q _ h => pu_fr hS hA q h) (pu_fr hS hA) (fun r_6 u t H1 locs ht hvm hw hB hz1 hk1 hS => ?_)
      have hP := pu_keep hP hk1
      clear hk1 hz1 ht hvm
      generalize H1 = H at hP hS ⊢
      obtain rfl : r_6 = nI (80 * x16 + 4 * n_2 + n_3) := hw
      refine lv_istore (lv' := [(4, .int (nI (80 * x16 + 4 * n_2 + n_3))), (0, .ref (ad 0)), (1, .int (nI n_2)), (2, .int (nI n_3)), (3, .int (nI n_5))]) hx hb dX9_condition_31 hl (by decide) rfl (fun ls hl => ?_)
      refine lv_iload_n hx hb dX9_condition_33 rfl (lv_at hl 4 rfl) ?_
      refine lv_if_ne (tgt := 47) hx hb dX9_condition_34 (by decide) (fun c_7 => ?_) (fun c_7 => ?_)
      · have c_7 : ¬ n_5 = 0 := fun z => c_7 ((nI_eq (a := n_5) (b := 0) (by omega) (Nat.le_of_ble_eq_true rfl)).mpr z)
        refine lv_iload_n hx hb dX9_condition_47 rfl (lv_at hl 4 rfl) ?_
        refine lv_iconst (v := 1) hx hb dX9_condition_48 (by decide) ?_
        refine lv_icmp_ne (tgt := 62) hx hb dX9_condition_49 (by decide) (fun c_8 => ?_) (fun c_8 => ?_)
        · have c_8 : ¬ n_5 = 1 := fun z => c_8 ((nI_eq (a := n_5) (b := 1) (by omega) (Nat.le_of_ble_eq_true rfl)).mpr z)
          refine lv_aload_n hx hb dX9_condition_62 rfl (lv_at hl 1 rfl) ?_
          refine va_get (D := (dC, dI)) (ci := 9) (v := .ref (ad 11)) (C := RX9) (T := TX9) (N := 67) hx hb hts hiX9 hown hK hP 0 rfl rfl 11 (by decide) v_14 (fun _ h9 => h9) rfl dX9_condition_63 ?_
          refine lv_iload hx hb dX9_condition_66 (lv_at hl 0 rfl) ?_
          refine va_iald hx hb hK hP 11 10 rfl rfl (vp_in_nI (n := (80 * x16 + 4 * n_2 + n_3)) (by omega) (Nat.le_of_ble_eq_true rfl)) dX9_condition_68 ?_
          refine lv_topi (fun y_9 ey_9 => ?_)
          exact W.iret (v := y_9) hx hb hr (fun t ht hW => ⟨⟨y_9, (), rfl, trivial, ⟨0, ⟨by rw [ht]; exact hP, va_K.moved hW.alike hK, hD⟩⟩⟩, hS.F ht⟩) hS.2.2 dX9_condition_69
        · have c_8 : n_5 = 1 := (nI_eq (a := n_5) (b := 1) (by omega) (Nat.le_of_ble_eq_true rfl)).mp c_8
          refine lv_aload_n hx hb dX9_condition_52 rfl (lv_at hl 1 rfl) ?_
          refine va_get (D := (dC, dI)) (ci := 9) (v := .ref (ad 10)) (C := RX9) (T := TX9) (N := 67) hx hb hts hiX9 hown hK hP 0 rfl rfl 10 (by decide) v_15 (fun _ h9 => h9) rfl dX9_condition_53 ?_
          refine lv_iload hx hb dX9_condition_56 (lv_at hl 0 rfl) ?_
          refine va_iald hx hb hK hP 10 9 rfl rfl (vp_in_nI (n := (80 * x16 + 4 * n_2 + n_3)) (by omega) (Nat.le_of_ble_eq_true rfl)) dX9_condition_58 ?_
          refine lv_topi (fun y_10 ey_10 => ?_)
          obtain ⟨u_11, hu_11, qu_11⟩ := bH_get q10 (i := (80 * x16 + 4 * n_2 + n_3)) (by omega)
          obtain rfl : y_10 = nI u_11 := ey_10.trans qu_11
          refine lv_goto (tgt := 69) hx hb dX9_condition_59 (by decide) ?_
          exact W.iret (v := (nI u_11)) hx hb hr (fun t ht hW => ⟨⟨(nI u_11), (), rfl, trivial, ⟨0, ⟨by rw [ht]; exact hP, va_K.moved hW.alike hK, hD⟩⟩⟩, hS.F ht⟩) hS.2.2 dX9_condition_69
      · have c_7 : n_5 = 0 := (nI_eq (a := n_5) (b := 0) (by omega) (Nat.le_of_ble_eq_true rfl)).mp c_7
        refine lv_aload_n hx hb dX9_condition_37 rfl (lv_at hl 1 rfl) ?_
        refine va_get (D := (dC, dI)) (ci := 9) (v := .ref (ad 9)) (C := RX9) (T := TX9) (N := 67) hx hb hts hiX9 hown hK hP 0 rfl rfl 9 (by decide) v_16 (fun _ h9 => h9) rfl dX9_condition_38 ?_
        refine lv_iload hx hb dX9_condition_41 (lv_at hl 0 rfl) ?_
        refine va_iald hx hb hK hP 9 8 rfl rfl (vp_in_nI (n := (80 * x16 + 4 * n_2 + n_3)) (by omega) (Nat.le_of_ble_eq_true rfl)) dX9_condition_43 ?_
        refine lv_topi (fun y_12 ey_12 => ?_)
        obtain ⟨u_13, hu_13, qu_13⟩ := bN_get 2 q9 (((nI (80 * x16 + 4 * n_2 + n_3)) : Int32).toNatClampNeg)
        obtain rfl : y_12 = nI u_13 := ey_12.trans qu_13
        refine lv_goto (tgt := 69) hx hb dX9_condition_44 (by decide) ?_
        exact W.iret (v := (nI u_13)) hx hb hr (fun t ht hW => ⟨⟨(nI u_13), (), rfl, trivial, ⟨0, ⟨by rw [ht]; exact hP, va_K.moved hW.alike hK, hD⟩⟩⟩, hS.F ht⟩) hS.2.2 dX9_condition_69
    · refine lv_if_ne (tgt := 25) hx hb dX9_condition_20 (by decide) (fun z => absurd z (by decide)) (fun _ => ?_)
      refine lv_iconst (v := (-1)) hx hb dX9_condition_23 (by decide) ?_
      exact W.iret (v := (-1)) hx hb hr (fun t ht hW => ⟨⟨(-1), (), rfl, trivial, ⟨0, ⟨by rw [ht]; exact hP, va_K.moved hW.alike hK, hD⟩⟩⟩, hS.F ht⟩) hS.2.2 dX9_condition_24
  · refine lv_if_eq (tgt := 23) hx hb dX9_condition_11 (by decide) (fun z => absurd z (by decide)) (fun _ => ?_)
    refine lv_iload_n hx hb dX9_condition_14 rfl (lv_at hl 3 rfl) ?_
    refine lv_iconst (v := 0) hx hb dX9_condition_15 (by decide) ?_
    refine lv_iconst (v := 2) hx hb dX9_condition_16 (by decide) ?_
    refine va_calli (va_runS (As := [.int p2, .int 0, .int 2]) (rest := []) ⟨hx, hb, hml, hown, hts⟩ (c_X9_in l dC dI _ p2 0 2) (va_cwS 3 hts g_M_condition_X9_in rfl rfl rfl (by decide +kernel) ⟨Nat.le_of_ble_eq_true rfl, Nat.le_of_ble_eq_true rfl⟩) ⟨pu_bl, pu_in (hP.sub [] rfl) (hK.sub [] rfl) (hD.sub [] (by decide) rfl)⟩ rfl rfl hl.1 rfl (lv_room (Nat.le_of_ble_eq_true rfl)) dX9_condition_17 ⟨Nat.le_of_ble_eq_true rfl, Nat.le_of_ble_eq_true rfl⟩) hS (fun q _ h => pu_fr hS hA q h) (pu_fr hS hA) (fun r_14 u t H1 locs ht hvm hw hB hz1 hk1 hS => ?_)
    have hP := pu_keep hP hk1
    clear hk1 hz1 ht hvm
    generalize H1 = H at hP hS ⊢
    rcases hw with ⟨rfl, hi1, hi2⟩ | ⟨rfl, hi3⟩
    · obtain ⟨n_15, hn_15, rfl⟩ := pu_in0 (n := 2) (by omega) hi1 hi2
      refine lv_if_ne (tgt := 25) hx hb dX9_condition_20 (by decide) (fun _ => ?_) (fun z => absurd z (by decide))
      refine lv_aload_n hx hb dX9_condition_25 rfl (lv_at hl 0 rfl) ?_
      refine lv_iload_n hx hb dX9_condition_26 rfl (lv_at hl 1 rfl) ?_
      refine lv_iload_n hx hb dX9_condition_27 rfl (lv_at hl 2 rfl) ?_
      refine va_calli (va_runV (As := [.int (nI (100 + n_2)), .int (nI n_3)]) (rest := []) ⟨hx, hb, hml, hown, hts⟩ (c_M_spot_p l dC dI _ ad ck 0 x16 x18 x19 x20 x21 x22 x23 x24 x25 x26 x27 x28 x29 x30 x33 x45 x46 x52 x53 x61 x62 x63 x65 x66 f1 f2 f3 q4 q5 q6 q7 f8 q9 q10 f11 m12_0 m12_1 m13_0 m13_1 m14_0 m14_1 m15_0 m15_1 f17 q31 f32 f34 f35 f36 f37 q38 f39 f40 f41 m42_0 m42_1 f43 f44 f47 f48 f49 f50 f51 q54 q55 q56 f57 q58 f59 f60 f64 (100 + n_2) n_3 hx16 hx18 hx19 hx21 hx22 hx26 hx28 hx29 hx30 hx33 hx46 hx52 hx53 hx61 hx62 hx63 hx65 hm12_0 hm12_1 hm13_0 hm13_1 hm14_0 hm14_1 hm15_0 hm15_1 hm42_0 hm42_1 (by omega) (by omega) (by omega)) (cwV 2 hts g_M_condition_M_spot_p rfl rfl rfl (by decide +kernel) ⟨Nat.le_of_ble_eq_true rfl, Nat.le_of_ble_eq_true rfl⟩) ⟨pu_bl, va_recv hK hP (ci := 9) (q0 := 0) rfl rfl, pu_in hP hK hD⟩ rfl rfl hl.1 rfl (lv_room (Nat.le_of_ble_eq_true rfl)) dX9_condition_28 ⟨Nat.le_of_ble_eq_true rfl, Nat.le_of_ble_eq_true rfl⟩) hS (fun q _ h => pu_fr hS hA q h) (pu_fr hS hA) (fun r_16 u t H1 locs ht hvm hw hB hz1 hk1 hS => ?_)
      have hP := pu_keep hP hk1
      clear hk1 hz1 ht hvm
      generalize H1 = H at hP hS ⊢
      obtain rfl : r_16 = nI (80 * x16 + (56 + 3 * ((100 + n_2) - 100)) + n_3) := hw
      refine lv_istore (lv' := [(4, .int (nI (80 * x16 + (56 + 3 * ((100 + n_2) - 100)) + n_3))), (0, .ref (ad 0)), (1, .int (nI (100 + n_2))), (2, .int (nI n_3)), (3, .int (nI n_15))]) hx hb dX9_condition_31 hl (by decide) rfl (fun ls hl => ?_)
      refine lv_iload_n hx hb dX9_condition_33 rfl (lv_at hl 4 rfl) ?_
      refine lv_if_ne (tgt := 47) hx hb dX9_condition_34 (by decide) (fun c_17 => ?_) (fun c_17 => ?_)
      · have c_17 : ¬ n_15 = 0 := fun z => c_17 ((nI_eq (a := n_15) (b := 0) (by omega) (Nat.le_of_ble_eq_true rfl)).mpr z)
        refine lv_iload_n hx hb dX9_condition_47 rfl (lv_at hl 4 rfl) ?_
        refine lv_iconst (v := 1) hx hb dX9_condition_48 (by decide) ?_
        refine lv_icmp_ne (tgt := 62) hx hb dX9_condition_49 (by decide) (fun c_18 => ?_) (fun c_18 => ?_)
        · have c_18 : ¬ n_15 = 1 := fun z => c_18 ((nI_eq (a := n_15) (b := 1) (by omega) (Nat.le_of_ble_eq_true rfl)).mpr z)
          refine lv_aload_n hx hb dX9_condition_62 rfl (lv_at hl 1 rfl) ?_
          refine va_get (D := (dC, dI)) (ci := 9) (v := .ref (ad 11)) (C := RX9) (T := TX9) (N := 67) hx hb hts hiX9 hown hK hP 0 rfl rfl 11 (by decide) v_14 (fun _ h9 => h9) rfl dX9_condition_63 ?_
          refine lv_iload hx hb dX9_condition_66 (lv_at hl 0 rfl) ?_
          refine va_iald hx hb hK hP 11 10 rfl rfl (vp_in_nI (n := (80 * x16 + (56 + 3 * ((100 + n_2) - 100)) + n_3)) (by omega) (Nat.le_of_ble_eq_true rfl)) dX9_condition_68 ?_
          refine lv_topi (fun y_19 ey_19 => ?_)
          exact W.iret (v := y_19) hx hb hr (fun t ht hW => ⟨⟨y_19, (), rfl, trivial, ⟨0, ⟨by rw [ht]; exact hP, va_K.moved hW.alike hK, hD⟩⟩⟩, hS.F ht⟩) hS.2.2 dX9_condition_69
        · have c_18 : n_15 = 1 := (nI_eq (a := n_15) (b := 1) (by omega) (Nat.le_of_ble_eq_true rfl)).mp c_18
          refine lv_aload_n hx hb dX9_condition_52 rfl (lv_at hl 1 rfl) ?_
          refine va_get (D := (dC, dI)) (ci := 9) (v := .ref (ad 10)) (C := RX9) (T := TX9) (N := 67) hx hb hts hiX9 hown hK hP 0 rfl rfl 10 (by decide) v_15 (fun _ h9 => h9) rfl dX9_condition_53 ?_
          refine lv_iload hx hb dX9_condition_56 (lv_at hl 0 rfl) ?_
          refine va_iald hx hb hK hP 10 9 rfl rfl (vp_in_nI (n := (80 * x16 + (56 + 3 * ((100 + n_2) - 100)) + n_3)) (by omega) (Nat.le_of_ble_eq_true rfl)) dX9_condition_58 ?_
          refine lv_topi (fun y_20 ey_20 => ?_)
          obtain ⟨u_21, hu_21, qu_21⟩ := bH_get q10 (i := (80 * x16 + (56 + 3 * ((100 + n_2) - 100)) + n_3)) (by omega)
          obtain rfl : y_20 = nI u_21 := ey_20.trans qu_21
          refine lv_goto (tgt := 69) hx hb dX9_condition_59 (by decide) ?_
          exact W.iret (v := (nI u_21)) hx hb hr (fun t ht hW => ⟨⟨(nI u_21), (), rfl, trivial, ⟨0, ⟨by rw [ht]; exact hP, va_K.moved hW.alike hK, hD⟩⟩⟩, hS.F ht⟩) hS.2.2 dX9_condition_69
      · have c_17 : n_15 = 0 := (nI_eq (a := n_15) (b := 0) (by omega) (Nat.le_of_ble_eq_true rfl)).mp c_17
        refine lv_aload_n hx hb dX9_condition_37 rfl (lv_at hl 1 rfl) ?_
        refine va_get (D := (dC, dI)) (ci := 9) (v := .ref (ad 9)) (C := RX9) (T := TX9) (N := 67) hx hb hts hiX9 hown hK hP 0 rfl rfl 9 (by decide) v_16 (fun _ h9 => h9) rfl dX9_condition_38 ?_
        refine lv_iload hx hb dX9_condition_41 (lv_at hl 0 rfl) ?_
        refine va_iald hx hb hK hP 9 8 rfl rfl (vp_in_nI (n := (80 * x16 + (56 + 3 * ((100 + n_2) - 100)) + n_3)) (by omega) (Nat.le_of_ble_eq_true rfl)) dX9_condition_43 ?_
        refine lv_topi (fun y_22 ey_22 => ?_)
        obtain ⟨u_23, hu_23, qu_23⟩ := bN_get 2 q9 (((nI (80 * x16 + (56 + 3 * ((100 + n_2) - 100)) + n_3)) : Int32).toNatClampNeg)
        obtain rfl : y_22 = nI u_23 := ey_22.trans qu_23
        refine lv_goto (tgt := 69) hx hb dX9_condition_44 (by decide) ?_
        exact W.iret (v := (nI u_23)) hx hb hr (fun t ht hW => ⟨⟨(nI u_23), (), rfl, trivial, ⟨0, ⟨by rw [ht]; exact hP, va_K.moved hW.alike hK, hD⟩⟩⟩, hS.F ht⟩) hS.2.2 dX9_condition_69
    · refine lv_if_ne (tgt := 25) hx hb dX9_condition_20 (by decide) (fun z => absurd z (by decide)) (fun _ => ?_)
      refine lv_iconst (v := (-1)) hx hb dX9_condition_23 (by decide) ?_
      exact W.iret (v := (-1)) hx hb hr (fun t ht hW => ⟨⟨(-1), (), rfl, trivial, ⟨0, ⟨by rw [ht]; exact hP, va_K.moved hW.alike hK, hD⟩⟩⟩, hS.F ht⟩) hS.2.2 dX9_condition_24
  · refine lv_if_eq (tgt := 23) hx hb dX9_condition_11 (by decide) (fun _ => ?_) (fun z => absurd z (by decide))
    refine lv_iconst (v := (-1)) hx hb dX9_condition_23 (by decide) ?_
    exact W.iret (v := (-1)) hx hb hr (fun t ht hW => ⟨⟨(-1), (), rfl, trivial, ⟨0, ⟨by rw [ht]; exact hP, va_K.moved hW.alike hK, hD⟩⟩⟩, hS.F ht⟩) hS.2.2 dX9_condition_24
abbrev vs_M_manyOf_n : List Cond := .code yX9_manyOf cX9_manyOf 2 (some .int) :: VM
theorem g_M_manyOf_n_M_isEdge : GoodIn vs_M_manyOf_n (wsV RX9 283 RX9 yX9_isEdge vs_M_isEdge) := gm_V vm_158 vm_159 vm_160 vm_12 vm_156
theorem g_M_manyOf_n_M_isPlace : GoodIn vs_M_manyOf_n (wsV RX9 286 RX9 yX9_isPlace vs_M_isPlace) := gm_V vm_161 vm_162 vm_163 vm_12 vm_155
theorem g_M_manyOf_n_M_isPlace_k : GoodIn vs_M_manyOf_n (wsV RX9 286 RX9 yX9_isPlace vs_M_isPlace_k) := gm_V vm_161 vm_162 vm_163 vm_12 vm_155
set_option maxHeartbeats 4000000 in
set_option maxRecDepth 100000 in
theorem c_M_manyOf_n (l : Launch) (dC : Nat → ClassId) (dI : Nat → Nat → Nat) (sz : Nat) (ad : Nat → Nat) (ck : Nat → ClassId) (x0 : Int32) (x16 : Nat) (x18 : Nat) (x19 : Nat) (x20 : Int32) (x21 : Nat) (x22 : Nat) (x23 : Int32) (x24 : Int32) (x25 : Int32) (x26 : Nat) (x27 : Int32) (x28 : Nat) (x29 : Nat) (x30 : Nat) (x33 : Nat) (x45 : Int32) (x46 : Nat) (x52 : Nat) (x53 : Nat) (x61 : Nat) (x62 : Nat) (x63 : Nat) (x65 : Nat) (x66 : Int32) (f1 : Nat → Int32) (f2 : Nat → Int32) (f3 : Nat → Int32) (q4 : Nat → Nat) (q5 : Nat → Nat) (q6 : Nat → Nat) (q7 : Nat → Nat) (f8 : Nat → Int32) (q9 : Nat → Nat) (q10 : Nat → Nat) (f11 : Nat → Int32) (m12_0 m12_1 : Nat) (m13_0 m13_1 : Nat) (m14_0 m14_1 : Nat) (m15_0 m15_1 : Nat) (f17 : Nat → Int32) (q31 : Nat → Nat) (f32 : Nat → Int32) (f34 : Nat → Int32) (f35 : Nat → Int32) (f36 : Nat → Int32) (f37 : Nat → Int32) (q38 : Nat → Nat) (f39 : Nat → Int32) (f40 : Nat → Int32) (f41 : Nat → Int32) (m42_0 m42_1 : Nat) (f43 : Nat → Int32) (f44 : Nat → Int32) (f47 : Nat → Int32) (f48 : Nat → Int32) (f49 : Nat → Int32) (f50 : Nat → Int32) (f51 : Nat → Int32) (q54 : Nat → Nat) (q55 : Nat → Nat) (q56 : Nat → Nat) (f57 : Nat → Int32) (q58 : Nat → Nat) (f59 : Nat → Int32) (f60 : Nat → Int32) (f64 : Nat → Int32) (a0 : Nat) (hx16 : x16 ≤ 1) (hx18 : x18 ≤ 900) (hx19 : x19 ≤ 900) (hx21 : x21 ≤ 900) (hx22 : x22 ≤ 4) (hx26 : x26 ≤ 6) (hx28 : x28 ≤ 1) (hx29 : x29 ≤ 1) (hx30 : x30 ≤ 1) (hx33 : x33 ≤ 20) (hx46 : x46 ≤ 5) (hx52 : x52 ≤ 2400) (hx53 : x53 ≤ 119) (hx61 : x61 ≤ 119) (hx62 : x62 ≤ 2000) (hx63 : x63 ≤ 1) (hx65 : x65 ≤ 7) (hm12_0 : m12_0 ≤ 3) (hm12_1 : m12_1 ≤ 3) (hm13_0 : m13_0 ≤ 8) (hm13_1 : m13_1 ≤ 8) (hm14_0 : m14_0 ≤ 14) (hm14_1 : m14_1 ≤ 14) (hm15_0 : m15_0 ≤ 8) (hm15_1 : m15_1 ≤ 8) (hm42_0 : m42_0 ≤ 120) (hm42_1 : m42_1 ≤ 400) (ha0 : a0 ≤ 107) : Met l yX9_manyOf vs_M_manyOf_n ({ frames := 2, cells := 0, slots := 0, locals := 43 }) (va_Pc [.ref (ad 0), .int (nI a0)] (pu_B (dC, dI) (mo_w ad ck x0 (nI x16) (nI x18) (nI x19) x20 (nI x21) (nI x22) x23 x24 x25 (nI x26) x27 (nI x28) (nI x29) (nI x30) (nI x33) x45 (nI x46) (nI x52) (nI x53) (nI x61) (nI x62) (nI x63) (nI x65) x66 f1 f2 f3 (bN 3 q4) (bN 7 q5) (bN 7 q6) (bN 4 q7) f8 (bN 2 q9) (bH q10) f11 (b2 m12_0 m12_1) (b2 m13_0 m13_1) (b2 m14_0 m14_1) (b2m m15_0 m15_1) f17 (bA 159 q31) f32 f34 f35 f36 f37 (bN 7 q38) f39 f40 f41 (b2 m42_0 m42_1) f43 f44 f47 f48 f49 f50 f51 (bN 13 q54) (bN 120 q55) (bN 120 q56) f57 (bN 120 q58) f59 f60 f64) (mo_t ck) sz)) (va_Qi (fun (r : Int32) (_ : Unit) => r = -1 ∨ (∃ v : Nat, v ≤ 4 ∧ a0 ≤ 13 ∧ r = nI v) ∨ (∃ v : Nat, v ≤ 3 ∧ 100 ≤ a0 ∧ r = nI v)) (fun _ _ => True) (va_A [] sz)) 0 0 (va_A [] sz) := by
  refine Met.ofW (cc := cX9_manyOf) (maxL := 2) (ret := (some .int)) (by decide) rfl ?_
  intro p e s m args below meth c s₁ B hml hv
  obtain ⟨rfl, rfl, hP, hK, hD0⟩ := hv
  have hx := B.exec
  have hb := B.bytes
  have hr := B.returns
  have hts := atoms_spec (ws := vs_M_manyOf_n) B.pre
  have v_6 := hts (.fieldLink RX9 28 "ClockReachModel" "whens" "[I") (List.mem_cons_of_mem _ vm_129)
  have v_7 := hts (.fieldLink RX9 258 "ClockReachModel" "bank" "I") (List.mem_cons_of_mem _ vm_22)
  have v_12 := hts (.fieldLink RX9 19 "ClockReachModel" "untils" "[I") (List.mem_cons_of_mem _ vm_121)
  have hown : s.vm.findClass RX9 = some m.cls := findClass_of_methodNamed B.named
  have hlocks := B.notSynchronized
  have hiX9 : ∀ w ∈ wsX90, w ∈ vs_M_manyOf_n := fun _ h => List.mem_cons_of_mem _ (List.mem_append_right _ h)
  have hD := hD0
  have hA : ∀ q : Nat, s.heap.size ≤ q → va_A [] s.heap.size q := fun _ h => Or.inr h
  have hS : va_S (va_A [] s.heap.size) s.heap s.heap [] := va_S.rf
  have hl := lv_entry ([.ref (ad 0), .int (nI a0)]) (n := 2) (Nat.le_of_ble_eq_true rfl)
  rw [lg_entry_eq]
  generalize (lg_sl ([.ref (ad 0), .int (nI a0)]) ++ List.replicate (2 - (lg_sl ([.ref (ad 0), .int (nI a0)])).length) Slot.unset).toArray = ls at hl ⊢
  have hl : lv_has ls 2 [(0, .ref (ad 0)), (1, .int (nI a0))] := hl
  refine lv_aload_n hx hb dX9_manyOf_0 rfl (lv_at hl 0 rfl) ?_
  refine lv_iload_n hx hb dX9_manyOf_1 rfl (lv_at hl 1 rfl) ?_
  refine va_calli (va_runV (As := [.int (nI a0)]) (rest := []) ⟨hx, hb, hml, hown, hts⟩ (c_M_isEdge l dC dI _ ad ck x0 x16 x18 x19 x20 x21 x22 x23 x24 x25 x26 x27 x28 x29 x30 x33 x45 x46 x52 x53 x61 x62 x63 x65 x66 f1 f2 f3 q4 q5 q6 q7 f8 q9 q10 f11 m12_0 m12_1 m13_0 m13_1 m14_0 m14_1 m15_0 m15_1 f17 q31 f32 f34 f35 f36 f37 q38 f39 f40 f41 m42_0 m42_1 f43 f44 f47 f48 f49 f50 f51 q54 q55 q56 f57 q58 f59 f60 f64 (nI a0) hx16 hx18 hx19 hx21 hx22 hx26 hx28 hx29 hx30 hx33 hx46 hx52 hx53 hx61 hx62 hx63 hx65 hm12_0 hm12_1 hm13_0 hm13_1 hm14_0 hm14_1 hm15_0 hm15_1 hm42_0 hm42_1) (cwV 1 hts g_M_manyOf_n_M_isEdge rfl rfl rfl (by decide +kernel) ⟨Nat.le_of_ble_eq_true rfl, Nat.le_of_ble_eq_true rfl⟩) ⟨pu_bl, va_recv hK hP (ci := 9) (q0 := 0) rfl rfl, pu_in hP hK hD⟩ rfl rfl hl.1 rfl (lv_room (Nat.le_of_ble_eq_true rfl)) dX9_manyOf_2 ⟨Nat.le_of_ble_eq_true rfl, Nat.le_of_ble_eq_true rfl⟩) hS (fun q _ h => pu_fr hS hA q h) (pu_fr hS hA) (fun r_1 u t H1 locs ht hvm hw hB hz1 hk1 hS => ?_)
  have hP := pu_keep hP hk1
  clear hk1 hz1 ht hvm
  generalize H1 = H at hP hS ⊢
  rcases hw with ⟨rfl, hw⟩ | rfl
  · obtain ⟨n_2, hn_2, en_2⟩ := hw
    have en_2 := (nI_eq (a := a0) (b := n_2) (by omega) (by omega)).mp en_2
    refine lv_if_eq (tgt := 25) hx hb dX9_manyOf_5 (by decide) (fun z => absurd z (by decide)) (fun _ => ?_)
    refine lv_aload_n hx hb dX9_manyOf_8 rfl (lv_at hl 0 rfl) ?_
    refine va_get (D := (dC, dI)) (ci := 9) (v := .ref (ad 7)) (C := RX9) (T := TX9) (N := 67) hx hb hts hiX9 hown hK hP 0 rfl rfl 7 (by decide) v_6 (fun _ h9 => h9) rfl dX9_manyOf_9 ?_
    refine lv_bipush (v := 14) hx hb dX9_manyOf_12 (by decide) ?_
    refine lv_aload_n hx hb dX9_manyOf_14 rfl (lv_at hl 0 rfl) ?_
    refine va_get (D := (dC, dI)) (ci := 9) (v := .int (nI x16)) (C := RX9) (T := TX9) (N := 67) hx hb hts hiX9 hown hK hP 0 rfl rfl 16 (by decide) v_7 (fun _ h9 => h9) rfl dX9_manyOf_15 ?_
    refine lv_imul hx hb dX9_manyOf_18 ?_
    refine lv_topi (fun y_3 ey_3 => ?_)
    obtain rfl : y_3 = (nI (14 * x16)) := ey_3.trans (pk_mul 14 x16)
    refine lv_iload_n hx hb dX9_manyOf_19 rfl (lv_at hl 1 rfl) ?_
    refine lv_iadd hx hb dX9_manyOf_20 ?_
    refine lv_topi (fun y_4 ey_4 => ?_)
    obtain rfl : y_4 = (nI ((14 * x16) + a0)) := ey_4.trans (nI_add (14 * x16) a0)
    refine va_iald hx hb hK hP 7 6 rfl rfl (vp_in_nI (n := ((14 * x16) + a0)) (by omega) (Nat.le_of_ble_eq_true rfl)) dX9_manyOf_21 ?_
    refine lv_topi (fun y_5 ey_5 => ?_)
    obtain ⟨u_6, hu_6, qu_6⟩ := bN_get 4 q7 (((nI ((14 * x16) + a0)) : Int32).toNatClampNeg)
    obtain rfl : y_5 = nI u_6 := ey_5.trans qu_6
    refine lv_goto (tgt := 57) hx hb dX9_manyOf_22 (by decide) ?_
    exact W.iret (v := (nI u_6)) hx hb hr (fun t ht hW => ⟨⟨(nI u_6), (), rfl, by first | exact Or.inr (Or.inl ⟨u_6, by omega, by omega, rfl⟩) | exact Or.inr (Or.inr ⟨u_6, by omega, by omega, rfl⟩), trivial⟩, hS.F ht⟩) hS.2.2 dX9_manyOf_57
  · refine lv_if_eq (tgt := 25) hx hb dX9_manyOf_5 (by decide) (fun _ => ?_) (fun z => absurd z (by decide))
    rcases Nat.lt_or_ge a0 100 with hlt | hge
    · refine lv_aload_n hx hb dX9_manyOf_25 rfl (lv_at hl 0 rfl) ?_
      refine lv_iload_n hx hb dX9_manyOf_26 rfl (lv_at hl 1 rfl) ?_
      refine lv_bipush (v := 100) hx hb dX9_manyOf_27 (by decide) ?_
      refine lv_isub hx hb dX9_manyOf_29 ?_
      refine lv_topi (fun y_7 ey_7 => ?_)
      refine va_calli (va_runV (As := [.int y_7]) (rest := []) ⟨hx, hb, hml, hown, hts⟩ (c_M_isPlace l dC dI _ ad ck x0 x16 x18 x19 x20 x21 x22 x23 x24 x25 x26 x27 x28 x29 x30 x33 x45 x46 x52 x53 x61 x62 x63 x65 x66 f1 f2 f3 q4 q5 q6 q7 f8 q9 q10 f11 m12_0 m12_1 m13_0 m13_1 m14_0 m14_1 m15_0 m15_1 f17 q31 f32 f34 f35 f36 f37 q38 f39 f40 f41 m42_0 m42_1 f43 f44 f47 f48 f49 f50 f51 q54 q55 q56 f57 q58 f59 f60 f64 y_7 hx16 hx18 hx19 hx21 hx22 hx26 hx28 hx29 hx30 hx33 hx46 hx52 hx53 hx61 hx62 hx63 hx65 hm12_0 hm12_1 hm13_0 hm13_1 hm14_0 hm14_1 hm15_0 hm15_1 hm42_0 hm42_1) (cwV 1 hts g_M_manyOf_n_M_isPlace rfl rfl rfl (by decide +kernel) ⟨Nat.le_of_ble_eq_true rfl, Nat.le_of_ble_eq_true rfl⟩) ⟨pu_bl, va_recv hK hP (ci := 9) (q0 := 0) rfl rfl, pu_in hP hK hD⟩ rfl rfl hl.1 rfl (lv_room (Nat.le_of_ble_eq_true rfl)) dX9_manyOf_30 ⟨Nat.le_of_ble_eq_true rfl, Nat.le_of_ble_eq_true rfl⟩) hS (fun q _ h => pu_fr hS hA q h) (pu_fr hS hA) (fun r_8 u t H1 locs ht hvm hw hB hz1 hk1 hS => ?_)
      have hP := pu_keep hP hk1
      clear hk1 hz1 ht hvm
      generalize H1 = H at hP hS ⊢
      rcases hw with ⟨rfl, hw⟩ | rfl
      · obtain ⟨n_9, hn_9, rfl⟩ := hw
        exfalso
        have hz := (nI_eq (a := a0) (by omega) (by omega)).mp (pu_p100 ey_7)
        omega
      · refine lv_if_eq (tgt := 56) hx hb dX9_manyOf_33 (by decide) (fun _ => ?_) (fun z => absurd z (by decide))
        refine lv_iconst (v := (-1)) hx hb dX9_manyOf_56 (by decide) ?_
        exact W.iret (v := (-1)) hx hb hr (fun t ht hW => ⟨⟨(-1), (), rfl, Or.inl rfl, trivial⟩, hS.F ht⟩) hS.2.2 dX9_manyOf_57
    · refine lv_aload_n hx hb dX9_manyOf_25 rfl (lv_at hl 0 rfl) ?_
      refine lv_iload_n hx hb dX9_manyOf_26 rfl (lv_at hl 1 rfl) ?_
      refine lv_bipush (v := 100) hx hb dX9_manyOf_27 (by decide) ?_
      refine lv_isub hx hb dX9_manyOf_29 ?_
      refine lv_topi (fun y_10 ey_10 => ?_)
      obtain rfl : y_10 = (nI (a0 - 100)) := ey_10.trans (pk_sub (a := a0) (b := 100) (by omega))
      refine va_calli (va_runV (As := [.int (nI (a0 - 100))]) (rest := []) ⟨hx, hb, hml, hown, hts⟩ (c_M_isPlace_k l dC dI _ ad ck x0 x16 x18 x19 x20 x21 x22 x23 x24 x25 x26 x27 x28 x29 x30 x33 x45 x46 x52 x53 x61 x62 x63 x65 x66 f1 f2 f3 q4 q5 q6 q7 f8 q9 q10 f11 m12_0 m12_1 m13_0 m13_1 m14_0 m14_1 m15_0 m15_1 f17 q31 f32 f34 f35 f36 f37 q38 f39 f40 f41 m42_0 m42_1 f43 f44 f47 f48 f49 f50 f51 q54 q55 q56 f57 q58 f59 f60 f64 (a0 - 100) hx16 hx18 hx19 hx21 hx22 hx26 hx28 hx29 hx30 hx33 hx46 hx52 hx53 hx61 hx62 hx63 hx65 hm12_0 hm12_1 hm13_0 hm13_1 hm14_0 hm14_1 hm15_0 hm15_1 hm42_0 hm42_1 (by omega)) (cwV 1 hts g_M_manyOf_n_M_isPlace_k rfl rfl rfl (by decide +kernel) ⟨Nat.le_of_ble_eq_true rfl, Nat.le_of_ble_eq_true rfl⟩) ⟨pu_bl, va_recv hK hP (ci := 9) (q0 := 0) rfl rfl, pu_in hP hK hD⟩ rfl rfl hl.1 rfl (lv_room (Nat.le_of_ble_eq_true rfl)) dX9_manyOf_30 ⟨Nat.le_of_ble_eq_true rfl, Nat.le_of_ble_eq_true rfl⟩) hS (fun q _ h => pu_fr hS hA q h) (pu_fr hS hA) (fun r_11 u t H1 locs ht hvm hw hB hz1 hk1 hS => ?_)
      have hP := pu_keep hP hk1
      clear hk1 hz1 ht hvm
      generalize H1 = H at hP hS ⊢
      obtain ⟨u_12, hu_12, rfl⟩ := hw
      refine lv_if_eq (tgt := 56) hx hb dX9_manyOf_33 (by decide) (fun c_13 => ?_) (fun c_13 => ?_)
      · have c_13 : u_12 = 0 := (nI_eq (a := u_12) (b := 0) (Nat.lt_of_le_of_lt hu_12 (Nat.le_of_ble_eq_true rfl)) (Nat.le_of_ble_eq_true rfl)).mp c_13
        refine lv_iconst (v := (-1)) hx hb dX9_manyOf_56 (by decide) ?_
        exact W.iret (v := (-1)) hx hb hr (fun t ht hW => ⟨⟨(-1), (), rfl, Or.inl rfl, trivial⟩, hS.F ht⟩) hS.2.2 dX9_manyOf_57
      · have c_13 : ¬ u_12 = 0 := fun z => c_13 ((nI_eq (a := u_12) (b := 0) (Nat.lt_of_le_of_lt hu_12 (Nat.le_of_ble_eq_true rfl)) (Nat.le_of_ble_eq_true rfl)).mpr z)
        refine lv_aload_n hx hb dX9_manyOf_36 rfl (lv_at hl 0 rfl) ?_
        refine va_get (D := (dC, dI)) (ci := 9) (v := .ref (ad 4)) (C := RX9) (T := TX9) (N := 67) hx hb hts hiX9 hown hK hP 0 rfl rfl 4 (by decide) v_12 (fun _ h9 => h9) rfl dX9_manyOf_37 ?_
        refine lv_bipush (v := 8) hx hb dX9_manyOf_40 (by decide) ?_
        refine lv_aload_n hx hb dX9_manyOf_42 rfl (lv_at hl 0 rfl) ?_
        refine va_get (D := (dC, dI)) (ci := 9) (v := .int (nI x16)) (C := RX9) (T := TX9) (N := 67) hx hb hts hiX9 hown hK hP 0 rfl rfl 16 (by decide) v_7 (fun _ h9 => h9) rfl dX9_manyOf_43 ?_
        refine lv_imul hx hb dX9_manyOf_46 ?_
        refine lv_topi (fun y_14 ey_14 => ?_)
        obtain rfl : y_14 = (nI (8 * x16)) := ey_14.trans (pk_mul 8 x16)
        refine lv_iload_n hx hb dX9_manyOf_47 rfl (lv_at hl 1 rfl) ?_
        refine lv_iadd hx hb dX9_manyOf_48 ?_
        refine lv_topi (fun y_15 ey_15 => ?_)
        obtain rfl : y_15 = (nI ((8 * x16) + a0)) := ey_15.trans (nI_add (8 * x16) a0)
        refine lv_bipush (v := 100) hx hb dX9_manyOf_49 (by decide) ?_
        refine lv_isub hx hb dX9_manyOf_51 ?_
        refine lv_topi (fun y_16 ey_16 => ?_)
        obtain rfl : y_16 = (nI (((8 * x16) + a0) - 100)) := ey_16.trans (pk_sub (a := ((8 * x16) + a0)) (b := 100) (by omega))
        refine va_iald hx hb hK hP 4 3 rfl rfl (vp_in_nI (n := (((8 * x16) + a0) - 100)) (by omega) (Nat.le_of_ble_eq_true rfl)) dX9_manyOf_52 ?_
        refine lv_topi (fun y_17 ey_17 => ?_)
        obtain ⟨u_18, hu_18, qu_18⟩ := bN_get 3 q4 (((nI (((8 * x16) + a0) - 100)) : Int32).toNatClampNeg)
        obtain rfl : y_17 = nI u_18 := ey_17.trans qu_18
        refine lv_goto (tgt := 57) hx hb dX9_manyOf_53 (by decide) ?_
        exact W.iret (v := (nI u_18)) hx hb hr (fun t ht hW => ⟨⟨(nI u_18), (), rfl, by first | exact Or.inr (Or.inl ⟨u_18, by omega, by omega, rfl⟩) | exact Or.inr (Or.inr ⟨u_18, by omega, by omega, rfl⟩), trivial⟩, hS.F ht⟩) hS.2.2 dX9_manyOf_57
theorem dX9_about_0 : decode cX9_about 0 = .ok (.aload_n 0, 1) := by decide +kernel
theorem dX9_about_1 : decode cX9_about 1 = .ok (.iconst 0, 1) := by decide +kernel
theorem dX9_about_2 : decode cX9_about 2 = .ok (.putfield 142, 3) := by decide +kernel
theorem dX9_about_5 : decode cX9_about 5 = .ok (.iconst 0, 1) := by decide +kernel
theorem dX9_about_6 : decode cX9_about 6 = .ok (.istore_n 2, 1) := by decide +kernel
theorem dX9_about_7 : decode cX9_about 7 = .ok (.iload_n 1, 1) := by decide +kernel
theorem dX9_about_8 : decode cX9_about 8 = .ok (.tableswitch 224 0 9 #[56, 61, 71, 81, 91, 154, 172, 198, 214, 219], 56) := by decide +kernel
theorem dX9_about_64 : decode cX9_about 64 = .ok (.aload_n 0, 1) := by decide +kernel
theorem dX9_about_65 : decode cX9_about 65 = .ok (.invokevirtual 280, 3) := by decide +kernel
theorem dX9_about_68 : decode cX9_about 68 = .ok (.ireturn, 1) := by decide +kernel
theorem dX9_about_69 : decode cX9_about 69 = .ok (.aload_n 0, 1) := by decide +kernel
theorem dX9_about_70 : decode cX9_about 70 = .ok (.getfield 46, 3) := by decide +kernel
theorem dX9_about_73 : decode cX9_about 73 = .ok (.aload_n 0, 1) := by decide +kernel
theorem dX9_about_74 : decode cX9_about 74 = .ok (.getfield 258, 3) := by decide +kernel
theorem dX9_about_77 : decode cX9_about 77 = .ok (.iaload, 1) := by decide +kernel
theorem dX9_about_78 : decode cX9_about 78 = .ok (.ireturn, 1) := by decide +kernel
theorem dX9_about_79 : decode cX9_about 79 = .ok (.aload_n 0, 1) := by decide +kernel
theorem dX9_about_80 : decode cX9_about 80 = .ok (.getfield 49, 3) := by decide +kernel
theorem dX9_about_83 : decode cX9_about 83 = .ok (.aload_n 0, 1) := by decide +kernel
theorem dX9_about_84 : decode cX9_about 84 = .ok (.getfield 258, 3) := by decide +kernel
theorem dX9_about_87 : decode cX9_about 87 = .ok (.iaload, 1) := by decide +kernel
theorem dX9_about_88 : decode cX9_about 88 = .ok (.ireturn, 1) := by decide +kernel
theorem dX9_about_89 : decode cX9_about 89 = .ok (.aload_n 0, 1) := by decide +kernel
theorem dX9_about_90 : decode cX9_about 90 = .ok (.getfield 52, 3) := by decide +kernel
theorem dX9_about_93 : decode cX9_about 93 = .ok (.aload_n 0, 1) := by decide +kernel
theorem dX9_about_94 : decode cX9_about 94 = .ok (.getfield 258, 3) := by decide +kernel
theorem dX9_about_97 : decode cX9_about 97 = .ok (.iaload, 1) := by decide +kernel
theorem dX9_about_98 : decode cX9_about 98 = .ok (.ireturn, 1) := by decide +kernel
theorem dX9_about_99 : decode cX9_about 99 = .ok (.iconst 0, 1) := by decide +kernel
theorem dX9_about_100 : decode cX9_about 100 = .ok (.istore_n 3, 1) := by decide +kernel
theorem dX9_about_101 : decode cX9_about 101 = .ok (.iload_n 3, 1) := by decide +kernel
theorem dX9_about_102 : decode cX9_about 102 = .ok (.aload_n 0, 1) := by decide +kernel
theorem dX9_about_103 : decode cX9_about 103 = .ok (.getfield 49, 3) := by decide +kernel
theorem dX9_about_106 : decode cX9_about 106 = .ok (.aload_n 0, 1) := by decide +kernel
theorem dX9_about_107 : decode cX9_about 107 = .ok (.getfield 258, 3) := by decide +kernel
theorem dX9_about_110 : decode cX9_about 110 = .ok (.iaload, 1) := by decide +kernel
theorem dX9_about_111 : decode cX9_about 111 = .ok (.if_icmp .ge 17, 3) := by decide +kernel
theorem dX9_about_114 : decode cX9_about 114 = .ok (.iload_n 2, 1) := by decide +kernel
theorem dX9_about_115 : decode cX9_about 115 = .ok (.aload_n 0, 1) := by decide +kernel
theorem dX9_about_116 : decode cX9_about 116 = .ok (.iload_n 3, 1) := by decide +kernel
theorem dX9_about_117 : decode cX9_about 117 = .ok (.invokevirtual 295, 3) := by decide +kernel
theorem dX9_about_120 : decode cX9_about 120 = .ok (.iadd, 1) := by decide +kernel
theorem dX9_about_121 : decode cX9_about 121 = .ok (.istore_n 2, 1) := by decide +kernel
theorem dX9_about_122 : decode cX9_about 122 = .ok (.iinc 3 1, 3) := by decide +kernel
theorem dX9_about_125 : decode cX9_about 125 = .ok (.goto (-24), 3) := by decide +kernel
theorem dX9_about_128 : decode cX9_about 128 = .ok (.iconst 0, 1) := by decide +kernel
theorem dX9_about_129 : decode cX9_about 129 = .ok (.istore_n 3, 1) := by decide +kernel
theorem dX9_about_130 : decode cX9_about 130 = .ok (.iload_n 3, 1) := by decide +kernel
theorem dX9_about_131 : decode cX9_about 131 = .ok (.aload_n 0, 1) := by decide +kernel
theorem dX9_about_132 : decode cX9_about 132 = .ok (.getfield 46, 3) := by decide +kernel
theorem dX9_about_135 : decode cX9_about 135 = .ok (.aload_n 0, 1) := by decide +kernel
theorem dX9_about_136 : decode cX9_about 136 = .ok (.getfield 258, 3) := by decide +kernel
theorem dX9_about_139 : decode cX9_about 139 = .ok (.iaload, 1) := by decide +kernel
theorem dX9_about_140 : decode cX9_about 140 = .ok (.if_icmp .ge 20, 3) := by decide +kernel
theorem dX9_about_143 : decode cX9_about 143 = .ok (.iload_n 2, 1) := by decide +kernel
theorem dX9_about_144 : decode cX9_about 144 = .ok (.aload_n 0, 1) := by decide +kernel
theorem dX9_about_145 : decode cX9_about 145 = .ok (.bipush 100, 2) := by decide +kernel
theorem dX9_about_147 : decode cX9_about 147 = .ok (.iload_n 3, 1) := by decide +kernel
theorem dX9_about_148 : decode cX9_about 148 = .ok (.iadd, 1) := by decide +kernel
theorem dX9_about_149 : decode cX9_about 149 = .ok (.invokevirtual 295, 3) := by decide +kernel
theorem dX9_about_152 : decode cX9_about 152 = .ok (.iadd, 1) := by decide +kernel
theorem dX9_about_153 : decode cX9_about 153 = .ok (.istore_n 2, 1) := by decide +kernel
theorem dX9_about_154 : decode cX9_about 154 = .ok (.iinc 3 1, 3) := by decide +kernel
theorem dX9_about_157 : decode cX9_about 157 = .ok (.goto (-27), 3) := by decide +kernel
theorem dX9_about_160 : decode cX9_about 160 = .ok (.iload_n 2, 1) := by decide +kernel
theorem dX9_about_161 : decode cX9_about 161 = .ok (.ireturn, 1) := by decide +kernel
theorem dX9_about_162 : decode cX9_about 162 = .ok (.aload_n 0, 1) := by decide +kernel
theorem dX9_about_163 : decode cX9_about 163 = .ok (.getfield 273, 3) := by decide +kernel
theorem dX9_about_166 : decode cX9_about 166 = .ok (.ifCond .eq 12, 3) := by decide +kernel
theorem dX9_about_169 : decode cX9_about 169 = .ok (.aload_n 0, 1) := by decide +kernel
theorem dX9_about_170 : decode cX9_about 170 = .ok (.getfield 92, 3) := by decide +kernel
theorem dX9_about_173 : decode cX9_about 173 = .ok (.iconst 0, 1) := by decide +kernel
theorem dX9_about_174 : decode cX9_about 174 = .ok (.iaload, 1) := by decide +kernel
theorem dX9_about_175 : decode cX9_about 175 = .ok (.goto 4, 3) := by decide +kernel
theorem dX9_about_178 : decode cX9_about 178 = .ok (.iconst (-1), 1) := by decide +kernel
theorem dX9_about_179 : decode cX9_about 179 = .ok (.ireturn, 1) := by decide +kernel
theorem dX9_about_180 : decode cX9_about 180 = .ok (.aload_n 0, 1) := by decide +kernel
theorem dX9_about_181 : decode cX9_about 181 = .ok (.getfield 273, 3) := by decide +kernel
theorem dX9_about_184 : decode cX9_about 184 = .ok (.ifCond .eq 20, 3) := by decide +kernel
theorem dX9_about_187 : decode cX9_about 187 = .ok (.aload_n 0, 1) := by decide +kernel
theorem dX9_about_188 : decode cX9_about 188 = .ok (.getfield 98, 3) := by decide +kernel
theorem dX9_about_191 : decode cX9_about 191 = .ok (.iconst 0, 1) := by decide +kernel
theorem dX9_about_192 : decode cX9_about 192 = .ok (.baload, 1) := by decide +kernel
theorem dX9_about_193 : decode cX9_about 193 = .ok (.ifCond .eq 7, 3) := by decide +kernel
theorem dX9_about_196 : decode cX9_about 196 = .ok (.iconst 1, 1) := by decide +kernel
theorem dX9_about_197 : decode cX9_about 197 = .ok (.goto 8, 3) := by decide +kernel
theorem dX9_about_200 : decode cX9_about 200 = .ok (.iconst 0, 1) := by decide +kernel
theorem dX9_about_201 : decode cX9_about 201 = .ok (.goto 4, 3) := by decide +kernel
theorem dX9_about_204 : decode cX9_about 204 = .ok (.iconst (-1), 1) := by decide +kernel
theorem dX9_about_205 : decode cX9_about 205 = .ok (.ireturn, 1) := by decide +kernel
theorem dX9_about_206 : decode cX9_about 206 = .ok (.aload_n 0, 1) := by decide +kernel
theorem dX9_about_207 : decode cX9_about 207 = .ok (.getfield 273, 3) := by decide +kernel
theorem dX9_about_210 : decode cX9_about 210 = .ok (.ifCond .eq 10, 3) := by decide +kernel
theorem dX9_about_213 : decode cX9_about 213 = .ok (.aload_n 0, 1) := by decide +kernel
theorem dX9_about_214 : decode cX9_about 214 = .ok (.getfield 298, 3) := by decide +kernel
theorem dX9_about_217 : decode cX9_about 217 = .ok (.goto 4, 3) := by decide +kernel
theorem dX9_about_220 : decode cX9_about 220 = .ok (.iconst (-1), 1) := by decide +kernel
theorem dX9_about_221 : decode cX9_about 221 = .ok (.ireturn, 1) := by decide +kernel
theorem dX9_about_222 : decode cX9_about 222 = .ok (.aload_n 0, 1) := by decide +kernel
theorem dX9_about_223 : decode cX9_about 223 = .ok (.getfield 267, 3) := by decide +kernel
theorem dX9_about_226 : decode cX9_about 226 = .ok (.ireturn, 1) := by decide +kernel
theorem dX9_about_227 : decode cX9_about 227 = .ok (.aload_n 0, 1) := by decide +kernel
theorem dX9_about_228 : decode cX9_about 228 = .ok (.getfield 145, 3) := by decide +kernel
theorem dX9_about_231 : decode cX9_about 231 = .ok (.ireturn, 1) := by decide +kernel
theorem dX9_about_232 : decode cX9_about 232 = .ok (.iconst (-1), 1) := by decide +kernel
theorem dX9_about_233 : decode cX9_about 233 = .ok (.ireturn, 1) := by decide +kernel
abbrev vs_M_about : List Cond := .code yX9_about cX9_about 4 (some .int) :: VM
theorem g_M_about_M_clocks : GoodIn vs_M_about (wsV RX9 280 RX9 yX9_clocks vs_M_clocks) := gm_V vm_150 vm_151 vm_152 vm_12 vm_20
theorem g_M_about_M_manyOf_p : GoodIn vs_M_about (wsV RX9 295 RX9 yX9_manyOf vs_M_manyOf_p) := gm_V vm_166 vm_167 vm_168 vm_12 vm_157
theorem g_M_about_M_manyOf_e : GoodIn vs_M_about (wsV RX9 295 RX9 yX9_manyOf vs_M_manyOf_e) := gm_V vm_166 vm_167 vm_168 vm_12 vm_157
set_option maxHeartbeats 4000000 in
set_option maxRecDepth 100000 in
theorem c_M_about (l : Launch) (dC : Nat → ClassId) (dI : Nat → Nat → Nat) (sz : Nat) (ad : Nat → Nat) (ck : Nat → ClassId) (x0 : Int32) (x16 : Nat) (x18 : Nat) (x19 : Nat) (x20 : Int32) (x21 : Nat) (x22 : Nat) (x23 : Int32) (x24 : Int32) (x25 : Int32) (x26 : Nat) (x27 : Int32) (x28 : Nat) (x29 : Nat) (x30 : Nat) (x33 : Nat) (x45 : Int32) (x46 : Nat) (x52 : Nat) (x53 : Nat) (x61 : Nat) (x62 : Nat) (x63 : Nat) (x65 : Nat) (x66 : Int32) (f1 : Nat → Int32) (f2 : Nat → Int32) (f3 : Nat → Int32) (q4 : Nat → Nat) (q5 : Nat → Nat) (q6 : Nat → Nat) (q7 : Nat → Nat) (f8 : Nat → Int32) (q9 : Nat → Nat) (q10 : Nat → Nat) (f11 : Nat → Int32) (m12_0 m12_1 : Nat) (m13_0 m13_1 : Nat) (m14_0 m14_1 : Nat) (m15_0 m15_1 : Nat) (f17 : Nat → Int32) (q31 : Nat → Nat) (f32 : Nat → Int32) (f34 : Nat → Int32) (f35 : Nat → Int32) (f36 : Nat → Int32) (f37 : Nat → Int32) (q38 : Nat → Nat) (f39 : Nat → Int32) (f40 : Nat → Int32) (f41 : Nat → Int32) (m42_0 m42_1 : Nat) (f43 : Nat → Int32) (f44 : Nat → Int32) (f47 : Nat → Int32) (f48 : Nat → Int32) (f49 : Nat → Int32) (f50 : Nat → Int32) (f51 : Nat → Int32) (q54 : Nat → Nat) (q55 : Nat → Nat) (q56 : Nat → Nat) (f57 : Nat → Int32) (q58 : Nat → Nat) (f59 : Nat → Int32) (f60 : Nat → Int32) (f64 : Nat → Int32) (p0 : Int32) (hx16 : x16 ≤ 1) (hx18 : x18 ≤ 900) (hx19 : x19 ≤ 900) (hx21 : x21 ≤ 900) (hx22 : x22 ≤ 4) (hx26 : x26 ≤ 6) (hx28 : x28 ≤ 1) (hx29 : x29 ≤ 1) (hx30 : x30 ≤ 1) (hx33 : x33 ≤ 20) (hx46 : x46 ≤ 5) (hx52 : x52 ≤ 2400) (hx53 : x53 ≤ 119) (hx61 : x61 ≤ 119) (hx62 : x62 ≤ 2000) (hx63 : x63 ≤ 1) (hx65 : x65 ≤ 7) (hm12_0 : m12_0 ≤ 3) (hm12_1 : m12_1 ≤ 3) (hm13_0 : m13_0 ≤ 8) (hm13_1 : m13_1 ≤ 8) (hm14_0 : m14_0 ≤ 14) (hm14_1 : m14_1 ≤ 14) (hm15_0 : m15_0 ≤ 8) (hm15_1 : m15_1 ≤ 8) (hm42_0 : m42_0 ≤ 120) (hm42_1 : m42_1 ≤ 400) : Met l yX9_about vs_M_about ({ frames := 3, cells := 0, slots := 0, locals := 64 }) (va_Pc [.ref (ad 0), .int p0] (pu_B (dC, dI) (mo_w ad ck x0 (nI x16) (nI x18) (nI x19) x20 (nI x21) (nI x22) x23 x24 x25 (nI x26) x27 (nI x28) (nI x29) (nI x30) (nI x33) x45 (nI x46) (nI x52) (nI x53) (nI x61) (nI x62) (nI x63) (nI x65) x66 f1 f2 f3 (bN 3 q4) (bN 7 q5) (bN 7 q6) (bN 4 q7) f8 (bN 2 q9) (bH q10) f11 (b2 m12_0 m12_1) (b2 m13_0 m13_1) (b2 m14_0 m14_1) (b2m m15_0 m15_1) f17 (bA 159 q31) f32 f34 f35 f36 f37 (bN 7 q38) f39 f40 f41 (b2 m42_0 m42_1) f43 f44 f47 f48 f49 f50 f51 (bN 13 q54) (bN 120 q55) (bN 120 q56) f57 (bN 120 q58) f59 f60 f64) (mo_t ck) sz)) (va_Qi (fun (r : Int32) (_ : Unit) => True) (fun _ t => ∃ (z0 : Int32), pu_E (dC, dI) (mo_w ad ck z0 (nI x16) (nI x18) (nI x19) x20 (nI x21) (nI x22) x23 x24 x25 (nI x26) x27 (nI x28) (nI x29) (nI x30) (nI x33) x45 (nI x46) (nI x52) (nI x53) (nI x61) (nI x62) (nI x63) (nI x65) x66 f1 f2 f3 (bN 3 q4) (bN 7 q5) (bN 7 q6) (bN 4 q7) f8 (bN 2 q9) (bH q10) f11 (b2 m12_0 m12_1) (b2 m13_0 m13_1) (b2 m14_0 m14_1) (b2m m15_0 m15_1) f17 (bA 159 q31) f32 f34 f35 f36 f37 (bN 7 q38) f39 f40 f41 (b2 m42_0 m42_1) f43 f44 f47 f48 f49 f50 f51 (bN 13 q54) (bN 120 q55) (bN 120 q56) f57 (bN 120 q58) f59 f60 f64) (mo_t ck) (va_A ((mo_w ad ck x0 (nI x16) (nI x18) (nI x19) x20 (nI x21) (nI x22) x23 x24 x25 (nI x26) x27 (nI x28) (nI x29) (nI x30) (nI x33) x45 (nI x46) (nI x52) (nI x53) (nI x61) (nI x62) (nI x63) (nI x65) x66 f1 f2 f3 (bN 3 q4) (bN 7 q5) (bN 7 q6) (bN 4 q7) f8 (bN 2 q9) (bH q10) f11 (b2 m12_0 m12_1) (b2 m13_0 m13_1) (b2 m14_0 m14_1) (b2m m15_0 m15_1) f17 (bA 159 q31) f32 f34 f35 f36 f37 (bN 7 q38) f39 f40 f41 (b2 m42_0 m42_1) f43 f44 f47 f48 f49 f50 f51 (bN 13 q54) (bN 120 q55) (bN 120 q56) f57 (bN 120 q58) f59 f60 f64)) sz) t) (va_A ((mo_w ad ck x0 (nI x16) (nI x18) (nI x19) x20 (nI x21) (nI x22) x23 x24 x25 (nI x26) x27 (nI x28) (nI x29) (nI x30) (nI x33) x45 (nI x46) (nI x52) (nI x53) (nI x61) (nI x62) (nI x63) (nI x65) x66 f1 f2 f3 (bN 3 q4) (bN 7 q5) (bN 7 q6) (bN 4 q7) f8 (bN 2 q9) (bH q10) f11 (b2 m12_0 m12_1) (b2 m13_0 m13_1) (b2 m14_0 m14_1) (b2m m15_0 m15_1) f17 (bA 159 q31) f32 f34 f35 f36 f37 (bN 7 q38) f39 f40 f41 (b2 m42_0 m42_1) f43 f44 f47 f48 f49 f50 f51 (bN 13 q54) (bN 120 q55) (bN 120 q56) f57 (bN 120 q58) f59 f60 f64)) sz)) 0 0 (va_A ((mo_w ad ck x0 (nI x16) (nI x18) (nI x19) x20 (nI x21) (nI x22) x23 x24 x25 (nI x26) x27 (nI x28) (nI x29) (nI x30) (nI x33) x45 (nI x46) (nI x52) (nI x53) (nI x61) (nI x62) (nI x63) (nI x65) x66 f1 f2 f3 (bN 3 q4) (bN 7 q5) (bN 7 q6) (bN 4 q7) f8 (bN 2 q9) (bH q10) f11 (b2 m12_0 m12_1) (b2 m13_0 m13_1) (b2 m14_0 m14_1) (b2m m15_0 m15_1) f17 (bA 159 q31) f32 f34 f35 f36 f37 (bN 7 q38) f39 f40 f41 (b2 m42_0 m42_1) f43 f44 f47 f48 f49 f50 f51 (bN 13 q54) (bN 120 q55) (bN 120 q56) f57 (bN 120 q58) f59 f60 f64)) sz) := by
  refine Met.ofW (cc := cX9_about) (maxL := 4) (ret := (some .int)) (by decide) rfl ?_
  intro p e s m args below meth c s₁ B hml hv
  obtain ⟨rfl, rfl, hP, hK, hD0⟩ := hv
  have hx := B.exec
  have hb := B.bytes
  have hr := B.returns
  have hts := atoms_spec (ws := vs_M_about) B.pre
  have v_1 := hts (.fieldLink RX9 142 "ClockReachModel" "thrown" "I") (List.mem_cons_of_mem _ vm_24)
  have v_7 := hts (.fieldLink RX9 46 "ClockReachModel" "placeMany" "[I") (List.mem_cons_of_mem _ vm_85)
  have v_8 := hts (.fieldLink RX9 258 "ClockReachModel" "bank" "I") (List.mem_cons_of_mem _ vm_22)
  have v_9 := hts (.fieldLink RX9 49 "ClockReachModel" "edgeMany" "[I") (List.mem_cons_of_mem _ vm_62)
  have v_10 := hts (.fieldLink RX9 52 "ClockReachModel" "begins" "[I") (List.mem_cons_of_mem _ vm_133)
  have v_15 := hts (.fieldLink RX9 273 "ClockReachModel" "hasGraph" "Z") (List.mem_cons_of_mem _ vm_18)
  have v_16 := hts (.fieldLink RX9 92 "ClockReachModel" "stateMany" "[I") (List.mem_cons_of_mem _ vm_177)
  have v_17 := hts (.fieldLink RX9 98 "ClockReachModel" "isFull" "[Z") (List.mem_cons_of_mem _ vm_178)
  have v_18 := hts (.fieldLink RX9 298 "ClockReachModel" "graphWay" "I") (List.mem_cons_of_mem _ vm_179)
  have v_19 := hts (.fieldLink RX9 267 "ClockReachModel" "acts" "I") (List.mem_cons_of_mem _ vm_145)
  have v_20 := hts (.fieldLink RX9 145 "ClockReachModel" "taped" "I") (List.mem_cons_of_mem _ vm_141)
  have hown : s.vm.findClass RX9 = some m.cls := findClass_of_methodNamed B.named
  have hlocks := B.notSynchronized
  have hiX9 : ∀ w ∈ wsX90, w ∈ vs_M_about := fun _ h => List.mem_cons_of_mem _ (List.mem_append_right _ h)
  have hD := hD0.self (sz := s.heap.size)
  generalize hAe : va_A ((mo_w ad ck x0 (nI x16) (nI x18) (nI x19) x20 (nI x21) (nI x22) x23 x24 x25 (nI x26) x27 (nI x28) (nI x29) (nI x30) (nI x33) x45 (nI x46) (nI x52) (nI x53) (nI x61) (nI x62) (nI x63) (nI x65) x66 f1 f2 f3 (bN 3 q4) (bN 7 q5) (bN 7 q6) (bN 4 q7) f8 (bN 2 q9) (bH q10) f11 (b2 m12_0 m12_1) (b2 m13_0 m13_1) (b2 m14_0 m14_1) (b2m m15_0 m15_1) f17 (bA 159 q31) f32 f34 f35 f36 f37 (bN 7 q38) f39 f40 f41 (b2 m42_0 m42_1) f43 f44 f47 f48 f49 f50 f51 (bN 13 q54) (bN 120 q55) (bN 120 q56) f57 (bN 120 q58) f59 f60 f64)) s.heap.size = A at hD ⊢
  have hA : ∀ q : Nat, s.heap.size ≤ q → A q := fun q h => by rw [← hAe]; exact Or.inr h
  have hS : va_S A s.heap s.heap [] := va_S.rf
  have hl := lv_entry ([.ref (ad 0), .int p0]) (n := 4) (Nat.le_of_ble_eq_true rfl)
  rw [lg_entry_eq]
  generalize (lg_sl ([.ref (ad 0), .int p0]) ++ List.replicate (4 - (lg_sl ([.ref (ad 0), .int p0])).length) Slot.unset).toArray = ls at hl ⊢
  have hl : lv_has ls 4 [(0, .ref (ad 0)), (1, .int p0)] := hl
  refine lv_aload_n hx hb dX9_about_0 rfl (lv_at hl 0 rfl) ?_
  refine lv_iconst (v := 0) hx hb dX9_about_1 (by decide) ?_
  refine va_put (D := (dC, dI)) (ci := 9) (v := .int 0) (ty := .int) (C := RX9) (T := TX9) (N := 67) hx hb hts hiX9 tyX9 tyX9_ok nmX9 hown hK hP hD hS 0 rfl rfl 0 (by decide) v_1 (fun _ h9 => h9) rfl (by decide +kernel) rfl rfl (Nat.le_of_ble_eq_true rfl) dX9_about_2 (fun H locs hP hD hS => ?_)
  have hP : va_P (dC, dI) vwCl (mo_w ad ck 0 (nI x16) (nI x18) (nI x19) x20 (nI x21) (nI x22) x23 x24 x25 (nI x26) x27 (nI x28) (nI x29) (nI x30) (nI x33) x45 (nI x46) (nI x52) (nI x53) (nI x61) (nI x62) (nI x63) (nI x65) x66 f1 f2 f3 (bN 3 q4) (bN 7 q5) (bN 7 q6) (bN 4 q7) f8 (bN 2 q9) (bH q10) f11 (b2 m12_0 m12_1) (b2 m13_0 m13_1) (b2 m14_0 m14_1) (b2m m15_0 m15_1) f17 (bA 159 q31) f32 f34 f35 f36 f37 (bN 7 q38) f39 f40 f41 (b2 m42_0 m42_1) f43 f44 f47 f48 f49 f50 f51 (bN 13 q54) (bN 120 q55) (bN 120 q56) f57 (bN 120 q58) f59 f60 f64) H := hP
  have hD : va_D A (mo_w ad ck 0 (nI x16) (nI x18) (nI x19) x20 (nI x21) (nI x22) x23 x24 x25 (nI x26) x27 (nI x28) (nI x29) (nI x30) (nI x33) x45 (nI x46) (nI x52) (nI x53) (nI x61) (nI x62) (nI x63) (nI x65) x66 f1 f2 f3 (bN 3 q4) (bN 7 q5) (bN 7 q6) (bN 4 q7) f8 (bN 2 q9) (bH q10) f11 (b2 m12_0 m12_1) (b2 m13_0 m13_1) (b2 m14_0 m14_1) (b2m m15_0 m15_1) f17 (bA 159 q31) f32 f34 f35 f36 f37 (bN 7 q38) f39 f40 f41 (b2 m42_0 m42_1) f43 f44 f47 f48 f49 f50 f51 (bN 13 q54) (bN 120 q55) (bN 120 q56) f57 (bN 120 q58) f59 f60 f64) := hD
  refine lv_iconst (v := 0) hx hb dX9_about_5 (by decide) ?_
  refine lv_istore_n (lv' := [(2, .int 0), (0, .ref (ad 0)), (1, .int p0)]) hx hb dX9_about_6 rfl hl (by decide) rfl (fun ls hl => ?_)
  refine lv_iload_n hx hb dX9_about_7 rfl (lv_at hl 2 rfl) ?_
  by_cases w_1 : p0 = 0
  · subst w_1
    refine lv_tableIn (tgt := 64) (off := 56) hx hb dX9_about_8 (by decide) (by decide) rfl (by decide) ?_
    refine lv_aload_n hx hb dX9_about_64 rfl (lv_at hl 1 rfl) ?_
    refine va_calli (va_runV (As := []) (rest := []) ⟨hx, hb, hml, hown, hts⟩ (c_M_clocks l dC dI _ ad ck 0 x16 x18 x19 x20 x21 x22 x23 x24 x25 x26 x27 x28 x29 x30 x33 x45 x46 x52 x53 x61 x62 x63 x65 x66 f1 f2 f3 q4 q5 q6 q7 f8 q9 q10 f11 m12_0 m12_1 m13_0 m13_1 m14_0 m14_1 m15_0 m15_1 f17 q31 f32 f34 f35 f36 f37 q38 f39 f40 f41 m42_0 m42_1 f43 f44 f47 f48 f49 f50 f51 q54 q55 q56 f57 q58 f59 f60 f64 hx16 hx18 hx19 hx21 hx22 hx26 hx28 hx29 hx30 hx33 hx46 hx52 hx53 hx61 hx62 hx63 hx65 hm12_0 hm12_1 hm13_0 hm13_1 hm14_0 hm14_1 hm15_0 hm15_1 hm42_0 hm42_1) (cwV 0 hts g_M_about_M_clocks rfl rfl rfl (by decide +kernel) ⟨Nat.le_of_ble_eq_true rfl, Nat.le_of_ble_eq_true rfl⟩) ⟨pu_bl, va_recv hK hP (ci := 9) (q0 := 0) rfl rfl, pu_in hP hK hD⟩ rfl rfl hl.1 rfl (lv_room (Nat.le_of_ble_eq_true rfl)) dX9_about_65 ⟨Nat.le_of_ble_eq_true rfl, Nat.le_of_ble_eq_true rfl⟩) hS (fun q _ h => pu_fr hS hA q h) (pu_fr hS hA) (fun r_2 u t H1 locs ht hvm hw hB hz1 hk1 hS => ?_)
    have hP := pu_keep hP hk1
    clear hk1 hz1 ht hvm
    generalize H1 = H at hP hS ⊢
    obtain ⟨u_3, hu_3, rfl⟩ := hw
    exact W.iret (v := (nI u_3)) hx hb hr (fun t ht hW => ⟨⟨(nI u_3), (), rfl, trivial, ⟨0, ⟨by rw [ht]; exact hP, va_K.moved hW.alike hK, hD⟩⟩⟩, hS.F ht⟩) hS.2.2 dX9_about_68
  by_cases w_4 : p0 = 1
  · subst w_4
    refine lv_tableIn (tgt := 69) (off := 61) hx hb dX9_about_8 (by decide) (by decide) rfl (by decide) ?_
    refine lv_aload_n hx hb dX9_about_69 rfl (lv_at hl 1 rfl) ?_
    refine va_get (D := (dC, dI)) (ci := 9) (v := .ref (ad 13)) (C := RX9) (T := TX9) (N := 67) hx hb hts hiX9 hown hK hP 0 rfl rfl 13 (by decide) v_7 (fun _ h9 => h9) rfl dX9_about_70 ?_
    refine lv_aload_n hx hb dX9_about_73 rfl (lv_at hl 1 rfl) ?_
    refine va_get (D := (dC, dI)) (ci := 9) (v := .int (nI x16)) (C := RX9) (T := TX9) (N := 67) hx hb hts hiX9 hown hK hP 0 rfl rfl 16 (by decide) v_8 (fun _ h9 => h9) rfl dX9_about_74 ?_
    refine va_iald hx hb hK hP 13 12 rfl rfl (vp_in_nI (n := x16) (Nat.lt_of_le_of_lt hx16 (Nat.le_of_ble_eq_true rfl)) (Nat.le_of_ble_eq_true rfl)) dX9_about_77 ?_
    refine lv_topi (fun y_5 ey_5 => ?_)
    obtain ⟨u_6, hu_6, fu_6⟩ := b2_get (a := m13_0) (b := m13_1) (i := x16) (by omega)
    have qy_5 := ey_5.trans fu_6
    obtain rfl : y_5 = nI u_6 := qy_5
    exact W.iret (v := (nI u_6)) hx hb hr (fun t ht hW => ⟨⟨(nI u_6), (), rfl, trivial, ⟨0, ⟨by rw [ht]; exact hP, va_K.moved hW.alike hK, hD⟩⟩⟩, hS.F ht⟩) hS.2.2 dX9_about_78
  by_cases w_7 : p0 = 2
  · subst w_7
    refine lv_tableIn (tgt := 79) (off := 71) hx hb dX9_about_8 (by decide) (by decide) rfl (by decide) ?_
    refine lv_aload_n hx hb dX9_about_79 rfl (lv_at hl 1 rfl) ?_
    refine va_get (D := (dC, dI)) (ci := 9) (v := .ref (ad 14)) (C := RX9) (T := TX9) (N := 67) hx hb hts hiX9 hown hK hP 0 rfl rfl 14 (by decide) v_9 (fun _ h9 => h9) rfl dX9_about_80 ?_
    refine lv_aload_n hx hb dX9_about_83 rfl (lv_at hl 1 rfl) ?_
    refine va_get (D := (dC, dI)) (ci := 9) (v := .int (nI x16)) (C := RX9) (T := TX9) (N := 67) hx hb hts hiX9 hown hK hP 0 rfl rfl 16 (by decide) v_8 (fun _ h9 => h9) rfl dX9_about_84 ?_
    refine va_iald hx hb hK hP 14 13 rfl rfl (vp_in_nI (n := x16) (Nat.lt_of_le_of_lt hx16 (Nat.le_of_ble_eq_true rfl)) (Nat.le_of_ble_eq_true rfl)) dX9_about_87 ?_
    refine lv_topi (fun y_8 ey_8 => ?_)
    obtain ⟨u_9, hu_9, fu_9⟩ := b2_get (a := m14_0) (b := m14_1) (i := x16) (by omega)
    have qy_8 := ey_8.trans fu_9
    obtain rfl : y_8 = nI u_9 := qy_8
    exact W.iret (v := (nI u_9)) hx hb hr (fun t ht hW => ⟨⟨(nI u_9), (), rfl, trivial, ⟨0, ⟨by rw [ht]; exact hP, va_K.moved hW.alike hK, hD⟩⟩⟩, hS.F ht⟩) hS.2.2 dX9_about_88
  by_cases w_10 : p0 = 3
  · subst w_10
    refine lv_tableIn (tgt := 89) (off := 81) hx hb dX9_about_8 (by decide) (by decide) rfl (by decide) ?_
    refine lv_aload_n hx hb dX9_about_89 rfl (lv_at hl 1 rfl) ?_
    refine va_get (D := (dC, dI)) (ci := 9) (v := .ref (ad 15)) (C := RX9) (T := TX9) (N := 67) hx hb hts hiX9 hown hK hP 0 rfl rfl 15 (by decide) v_10 (fun _ h9 => h9) rfl dX9_about_90 ?_
    refine lv_aload_n hx hb dX9_about_93 rfl (lv_at hl 1 rfl) ?_
    refine va_get (D := (dC, dI)) (ci := 9) (v := .int (nI x16)) (C := RX9) (T := TX9) (N := 67) hx hb hts hiX9 hown hK hP 0 rfl rfl 16 (by decide) v_8 (fun _ h9 => h9) rfl dX9_about_94 ?_
    refine va_iald hx hb hK hP 15 14 rfl rfl (vp_in_nI (n := x16) (Nat.lt_of_le_of_lt hx16 (Nat.le_of_ble_eq_true rfl)) (Nat.le_of_ble_eq_true rfl)) dX9_about_97 ?_
    refine lv_topi (fun y_11 ey_11 => ?_)
    obtain ⟨u_12, hu_12, fu_12⟩ := b2m_get (a := m15_0) (b := m15_1) (i := x16) (by omega)
    have qy_11 := ey_11.trans fu_12
    rcases mI_get u_12 with ⟨zy_11, wy_11⟩ | ⟨vy_11, zy_11, wy_11⟩
    · obtain rfl : y_11 = -1 := qy_11.trans wy_11
      exact W.iret (v := (-1)) hx hb hr (fun t ht hW => ⟨⟨(-1), (), rfl, trivial, ⟨0, ⟨by rw [ht]; exact hP, va_K.moved hW.alike hK, hD⟩⟩⟩, hS.F ht⟩) hS.2.2 dX9_about_98
    · obtain rfl : y_11 = nI vy_11 := qy_11.trans wy_11
      exact W.iret (v := (nI vy_11)) hx hb hr (fun t ht hW => ⟨⟨(nI vy_11), (), rfl, trivial, ⟨0, ⟨by rw [ht]; exact hP, va_K.moved hW.alike hK, hD⟩⟩⟩, hS.F ht⟩) hS.2.2 dX9_about_98
  by_cases w_13 : p0 = 4
  · subst w_13
    refine lv_tableIn (tgt := 99) (off := 91) hx hb dX9_about_8 (by decide) (by decide) rfl (by decide) ?_
    refine lv_iconst (v := 0) hx hb dX9_about_99 (by decide) ?_
    refine lv_istore_n (lv' := [(3, .int 0), (2, .int 0), (0, .ref (ad 0)), (1, .int 4)]) hx hb dX9_about_100 rfl hl (by decide) rfl (fun ls hl => ?_)
    refine pu_while (fun nn H locs ls => ∃ (g_16 : Int32) (g_17 : Nat), nn = 14 - g_17 ∧ g_17 ≤ 14 ∧ va_P (dC, dI) vwCl (mo_w ad ck 0 (nI x16) (nI x18) (nI x19) x20 (nI x21) (nI x22) x23 x24 x25 (nI x26) x27 (nI x28) (nI x29) (nI x30) (nI x33) x45 (nI x46) (nI x52) (nI x53) (nI x61) (nI x62) (nI x63) (nI x65) x66 f1 f2 f3 (bN 3 q4) (bN 7 q5) (bN 7 q6) (bN 4 q7) f8 (bN 2 q9) (bH q10) f11 (b2 m12_0 m12_1) (b2 m13_0 m13_1) (b2 m14_0 m14_1) (b2m m15_0 m15_1) f17 (bA 159 q31) f32 f34 f35 f36 f37 (bN 7 q38) f39 f40 f41 (b2 m42_0 m42_1) f43 f44 f47 f48 f49 f50 f51 (bN 13 q54) (bN 120 q55) (bN 120 q56) f57 (bN 120 q58) f59 f60 f64) H ∧ va_D A (mo_w ad ck 0 (nI x16) (nI x18) (nI x19) x20 (nI x21) (nI x22) x23 x24 x25 (nI x26) x27 (nI x28) (nI x29) (nI x30) (nI x33) x45 (nI x46) (nI x52) (nI x53) (nI x61) (nI x62) (nI x63) (nI x65) x66 f1 f2 f3 (bN 3 q4) (bN 7 q5) (bN 7 q6) (bN 4 q7) f8 (bN 2 q9) (bH q10) f11 (b2 m12_0 m12_1) (b2 m13_0 m13_1) (b2 m14_0 m14_1) (b2m m15_0 m15_1) f17 (bA 159 q31) f32 f34 f35 f36 f37 (bN 7 q38) f39 f40 f41 (b2 m42_0 m42_1) f43 f44 f47 f48 f49 f50 f51 (bN 13 q54) (bN 120 q55) (bN 120 q56) f57 (bN 120 q58) f59 f60 f64) ∧ va_S A s.heap H locs ∧ lv_has ls 4 [(0, .ref (ad 0)), (1, .int 4), (2, .int g_16), (3, .int (nI g_17))]) 101 ?_ _ _ _ _ ⟨0, 0, rfl, (Nat.le_of_ble_eq_true rfl), hP, hD, hS, lv_sub hl [2, 3, 1, 0] rfl⟩
    rintro nn ih_18 H locs ls ⟨g_16, g_17, rfl, hg_17, hP, hD, hS, hl⟩
    refine lv_iload_n hx hb dX9_about_101 rfl (lv_at hl 3 rfl) ?_
    refine lv_aload_n hx hb dX9_about_102 rfl (lv_at hl 0 rfl) ?_
    refine va_get (D := (dC, dI)) (ci := 9) (v := .ref (ad 14)) (C := RX9) (T := TX9) (N := 67) hx hb hts hiX9 hown hK hP 0 rfl rfl 14 (by decide) v_9 (fun _ h9 => h9) rfl dX9_about_103 ?_
    refine lv_aload_n hx hb dX9_about_106 rfl (lv_at hl 0 rfl) ?_
    refine va_get (D := (dC, dI)) (ci := 9) (v := .int (nI x16)) (C := RX9) (T := TX9) (N := 67) hx hb hts hiX9 hown hK hP 0 rfl rfl 16 (by decide) v_8 (fun _ h9 => h9) rfl dX9_about_107 ?_
    refine va_iald hx hb hK hP 14 13 rfl rfl (vp_in_nI (n := x16) (Nat.lt_of_le_of_lt hx16 (Nat.le_of_ble_eq_true rfl)) (Nat.le_of_ble_eq_true rfl)) dX9_about_110 ?_
    refine lv_topi (fun y_19 ey_19 => ?_)
    obtain ⟨u_20, hu_20, fu_20⟩ := b2_get (a := m14_0) (b := m14_1) (i := x16) (by omega)
    have qy_19 := ey_19.trans fu_20
    obtain rfl : y_19 = nI u_20 := qy_19
    refine lv_icmp_ge (tgt := 128) hx hb dX9_about_111 (by decide) (fun c_21 => ?_) (fun c_21 => ?_)
    · have c_21 : u_20 ≤ g_17 := (nI_leI (a := u_20) (b := g_17) (by omega) (Nat.lt_of_le_of_lt hg_17 (Nat.le_of_ble_eq_true rfl))).mp c_21
      refine lv_iconst (v := 0) hx hb dX9_about_128 (by decide) ?_
      refine lv_istore_n (lv' := [(3, .int 0), (0, .ref (ad 0)), (1, .int 4), (2, .int g_16)]) hx hb dX9_about_129 rfl hl (by decide) rfl (fun ls hl => ?_)
      refine pu_while (fun nn H locs ls => ∃ (g_24 : Int32) (g_25 : Nat), nn = 8 - g_25 ∧ g_25 ≤ 8 ∧ va_P (dC, dI) vwCl (mo_w ad ck 0 (nI x16) (nI x18) (nI x19) x20 (nI x21) (nI x22) x23 x24 x25 (nI x26) x27 (nI x28) (nI x29) (nI x30) (nI x33) x45 (nI x46) (nI x52) (nI x53) (nI x61) (nI x62) (nI x63) (nI x65) x66 f1 f2 f3 (bN 3 q4) (bN 7 q5) (bN 7 q6) (bN 4 q7) f8 (bN 2 q9) (bH q10) f11 (b2 m12_0 m12_1) (b2 m13_0 m13_1) (b2 m14_0 m14_1) (b2m m15_0 m15_1) f17 (bA 159 q31) f32 f34 f35 f36 f37 (bN 7 q38) f39 f40 f41 (b2 m42_0 m42_1) f43 f44 f47 f48 f49 f50 f51 (bN 13 q54) (bN 120 q55) (bN 120 q56) f57 (bN 120 q58) f59 f60 f64) H ∧ va_D A (mo_w ad ck 0 (nI x16) (nI x18) (nI x19) x20 (nI x21) (nI x22) x23 x24 x25 (nI x26) x27 (nI x28) (nI x29) (nI x30) (nI x33) x45 (nI x46) (nI x52) (nI x53) (nI x61) (nI x62) (nI x63) (nI x65) x66 f1 f2 f3 (bN 3 q4) (bN 7 q5) (bN 7 q6) (bN 4 q7) f8 (bN 2 q9) (bH q10) f11 (b2 m12_0 m12_1) (b2 m13_0 m13_1) (b2 m14_0 m14_1) (b2m m15_0 m15_1) f17 (bA 159 q31) f32 f34 f35 f36 f37 (bN 7 q38) f39 f40 f41 (b2 m42_0 m42_1) f43 f44 f47 f48 f49 f50 f51 (bN 13 q54) (bN 120 q55) (bN 120 q56) f57 (bN 120 q58) f59 f60 f64) ∧ va_S A s.heap H locs ∧ lv_has ls 4 [(0, .ref (ad 0)), (1, .int 4), (2, .int g_24), (3, .int (nI g_25))]) 130 ?_ _ _ _ _ ⟨g_16, 0, rfl, (Nat.le_of_ble_eq_true rfl), hP, hD, hS, lv_sub hl [1, 2, 3, 0] rfl⟩
      rintro nn ih_26 H locs ls ⟨g_24, g_25, rfl, hg_25, hP, hD, hS, hl⟩
      refine lv_iload_n hx hb dX9_about_130 rfl (lv_at hl 3 rfl) ?_
      refine lv_aload_n hx hb dX9_about_131 rfl (lv_at hl 0 rfl) ?_
      refine va_get (D := (dC, dI)) (ci := 9) (v := .ref (ad 13)) (C := RX9) (T := TX9) (N := 67) hx hb hts hiX9 hown hK hP 0 rfl rfl 13 (by decide) v_7 (fun _ h9 => h9) rfl dX9_about_132 ?_
      refine lv_aload_n hx hb dX9_about_135 rfl (lv_at hl 0 rfl) ?_
      refine va_get (D := (dC, dI)) (ci := 9) (v := .int (nI x16)) (C := RX9) (T := TX9) (N := 67) hx hb hts hiX9 hown hK hP 0 rfl rfl 16 (by decide) v_8 (fun _ h9 => h9) rfl dX9_about_136 ?_
      refine va_iald hx hb hK hP 13 12 rfl rfl (vp_in_nI (n := x16) (Nat.lt_of_le_of_lt hx16 (Nat.le_of_ble_eq_true rfl)) (Nat.le_of_ble_eq_true rfl)) dX9_about_139 ?_
      refine lv_topi (fun y_27 ey_27 => ?_)
      obtain ⟨u_28, hu_28, fu_28⟩ := b2_get (a := m13_0) (b := m13_1) (i := x16) (by omega)
      have qy_27 := ey_27.trans fu_28
      obtain rfl : y_27 = nI u_28 := qy_27
      refine lv_icmp_ge (tgt := 160) hx hb dX9_about_140 (by decide) (fun c_29 => ?_) (fun c_29 => ?_)
      · have c_29 : u_28 ≤ g_25 := (nI_leI (a := u_28) (b := g_25) (by omega) (Nat.lt_of_le_of_lt hg_25 (Nat.le_of_ble_eq_true rfl))).mp c_29
        refine lv_iload_n hx hb dX9_about_160 rfl (lv_at hl 2 rfl) ?_
        exact W.iret (v := g_24) hx hb hr (fun t ht hW => ⟨⟨g_24, (), rfl, trivial, ⟨0, ⟨by rw [ht]; exact hP, va_K.moved hW.alike hK, hD⟩⟩⟩, hS.F ht⟩) hS.2.2 dX9_about_161
      · have c_29 : ¬ u_28 ≤ g_25 := fun z => c_29 ((nI_leI (a := u_28) (b := g_25) (by omega) (Nat.lt_of_le_of_lt hg_25 (Nat.le_of_ble_eq_true rfl))).mpr z)
        refine lv_iload_n hx hb dX9_about_143 rfl (lv_at hl 2 rfl) ?_
        refine lv_aload_n hx hb dX9_about_144 rfl (lv_at hl 0 rfl) ?_
        refine lv_bipush (v := 100) hx hb dX9_about_145 (by decide) ?_
        refine lv_iload_n hx hb dX9_about_147 rfl (lv_at hl 3 rfl) ?_
        refine lv_iadd hx hb dX9_about_148 ?_
        refine lv_topi (fun y_30 ey_30 => ?_)
        obtain rfl : y_30 = (nI (100 + g_25)) := ey_30.trans (nI_add 100 g_25)
        refine va_calli (va_runV (As := [.int (nI (100 + g_25))]) (rest := [.int g_24]) ⟨hx, hb, hml, hown, hts⟩ (c_M_manyOf_p l dC dI _ ad ck 0 x16 x18 x19 x20 x21 x22 x23 x24 x25 x26 x27 x28 x29 x30 x33 x45 x46 x52 x53 x61 x62 x63 x65 x66 f1 f2 f3 q4 q5 q6 q7 f8 q9 q10 f11 m12_0 m12_1 m13_0 m13_1 m14_0 m14_1 m15_0 m15_1 f17 q31 f32 f34 f35 f36 f37 q38 f39 f40 f41 m42_0 m42_1 f43 f44 f47 f48 f49 f50 f51 q54 q55 q56 f57 q58 f59 f60 f64 (100 + g_25) hx16 hx18 hx19 hx21 hx22 hx26 hx28 hx29 hx30 hx33 hx46 hx52 hx53 hx61 hx62 hx63 hx65 hm12_0 hm12_1 hm13_0 hm13_1 hm14_0 hm14_1 hm15_0 hm15_1 hm42_0 hm42_1 (by omega) (by omega)) (cwV 1 hts g_M_about_M_manyOf_p rfl rfl rfl (by decide +kernel) ⟨Nat.le_of_ble_eq_true rfl, Nat.le_of_ble_eq_true rfl⟩) ⟨pu_bl, va_recv hK hP (ci := 9) (q0 := 0) rfl rfl, pu_in hP hK hD⟩ rfl rfl hl.1 rfl (lv_room (Nat.le_of_ble_eq_true rfl)) dX9_about_149 ⟨Nat.le_of_ble_eq_true rfl, Nat.le_of_ble_eq_true rfl⟩) hS (fun q _ h => pu_fr hS hA q h) (pu_fr hS hA) (fun r_31 u t H1 locs ht hvm hw hB hz1 hk1 hS => ?_)
        have hP := pu_keep hP hk1
        clear hk1 hz1 ht hvm
        generalize H1 = H at hP hS ⊢
        rcases hw with rfl | ⟨u_32, hu_32, rfl⟩
        · refine lv_iadd hx hb dX9_about_152 ?_
          refine lv_topi (fun y_33 ey_33 => ?_)
          refine lv_istore_n (lv' := [(2, .int y_33), (0, .ref (ad 0)), (1, .int 4), (3, .int (nI g_25))]) hx hb dX9_about_153 rfl hl (by decide) rfl (fun ls hl => ?_)
          refine lv_iinc (v := (nI (g_25 + 1))) (lv' := [(3, .int (nI (g_25 + 1))), (2, .int y_33), (0, .ref (ad 0)), (1, .int 4)]) hx hb dX9_about_154 hl (k := 3) rfl (nI_1 _) (by decide) rfl (fun ls hl => ?_)
          refine lv_goto (tgt := 130) hx hb dX9_about_157 (by decide) ?_
          exact ih_26 (8 - (g_25 + 1)) (by omega) _ _ _ ⟨y_33, (g_25 + 1), rfl, (by omega), hP, hD, hS, lv_sub hl [2, 3, 1, 0] rfl⟩
        · refine lv_iadd hx hb dX9_about_152 ?_
          refine lv_topi (fun y_34 ey_34 => ?_)
          refine lv_istore_n (lv' := [(2, .int y_34), (0, .ref (ad 0)), (1, .int 4), (3, .int (nI g_25))]) hx hb dX9_about_153 rfl hl (by decide) rfl (fun ls hl => ?_)
          refine lv_iinc (v := (nI (g_25 + 1))) (lv' := [(3, .int (nI (g_25 + 1))), (2, .int y_34), (0, .ref (ad 0)), (1, .int 4)]) hx hb dX9_about_154 hl (k := 3) rfl (nI_1 _) (by decide) rfl (fun ls hl => ?_)
          refine lv_goto (tgt := 130) hx hb dX9_about_157 (by decide) ?_
          exact ih_26 (8 - (g_25 + 1)) (by omega) _ _ _ ⟨y_34, (g_25 + 1), rfl, (by omega), hP, hD, hS, lv_sub hl [2, 3, 1, 0] rfl⟩
    · have c_21 : ¬ u_20 ≤ g_17 := fun z => c_21 ((nI_leI (a := u_20) (b := g_17) (by omega) (Nat.lt_of_le_of_lt hg_17 (Nat.le_of_ble_eq_true rfl))).mpr z)
      refine lv_iload_n hx hb dX9_about_114 rfl (lv_at hl 2 rfl) ?_
      refine lv_aload_n hx hb dX9_about_115 rfl (lv_at hl 0 rfl) ?_
      refine lv_iload_n hx hb dX9_about_116 rfl (lv_at hl 3 rfl) ?_
      refine va_calli (va_runV (As := [.int (nI g_17)]) (rest := [.int g_16]) ⟨hx, hb, hml, hown, hts⟩ (c_M_manyOf_e l dC dI _ ad ck 0 x16 x18 x19 x20 x21 x22 x23 x24 x25 x26 x27 x28 x29 x30 x33 x45 x46 x52 x53 x61 x62 x63 x65 x66 f1 f2 f3 q4 q5 q6 q7 f8 q9 q10 f11 m12_0 m12_1 m13_0 m13_1 m14_0 m14_1 m15_0 m15_1 f17 q31 f32 f34 f35 f36 f37 q38 f39 f40 f41 m42_0 m42_1 f43 f44 f47 f48 f49 f50 f51 q54 q55 q56 f57 q58 f59 f60 f64 g_17 hx16 hx18 hx19 hx21 hx22 hx26 hx28 hx29 hx30 hx33 hx46 hx52 hx53 hx61 hx62 hx63 hx65 hm12_0 hm12_1 hm13_0 hm13_1 hm14_0 hm14_1 hm15_0 hm15_1 hm42_0 hm42_1 (by omega)) (cwV 1 hts g_M_about_M_manyOf_e rfl rfl rfl (by decide +kernel) ⟨Nat.le_of_ble_eq_true rfl, Nat.le_of_ble_eq_true rfl⟩) ⟨pu_bl, va_recv hK hP (ci := 9) (q0 := 0) rfl rfl, pu_in hP hK hD⟩ rfl rfl hl.1 rfl (lv_room (Nat.le_of_ble_eq_true rfl)) dX9_about_117 ⟨Nat.le_of_ble_eq_true rfl, Nat.le_of_ble_eq_true rfl⟩) hS (fun q _ h => pu_fr hS hA q h) (pu_fr hS hA) (fun r_35 u t H1 locs ht hvm hw hB hz1 hk1 hS => ?_)
      have hP := pu_keep hP hk1
      clear hk1 hz1 ht hvm
      generalize H1 = H at hP hS ⊢
      rcases hw with rfl | ⟨u_36, hu_36, rfl⟩
      · refine lv_iadd hx hb dX9_about_120 ?_
        refine lv_topi (fun y_37 ey_37 => ?_)
        refine lv_istore_n (lv' := [(2, .int y_37), (0, .ref (ad 0)), (1, .int 4), (3, .int (nI g_17))]) hx hb dX9_about_121 rfl hl (by decide) rfl (fun ls hl => ?_)
        refine lv_iinc (v := (nI (g_17 + 1))) (lv' := [(3, .int (nI (g_17 + 1))), (2, .int y_37), (0, .ref (ad 0)), (1, .int 4)]) hx hb dX9_about_122 hl (k := 3) rfl (nI_1 _) (by decide) rfl (fun ls hl => ?_)
        refine lv_goto (tgt := 101) hx hb dX9_about_125 (by decide) ?_
        exact ih_18 (14 - (g_17 + 1)) (by omega) _ _ _ ⟨y_37, (g_17 + 1), rfl, (by omega), hP, hD, hS, lv_sub hl [2, 3, 1, 0] rfl⟩
      · refine lv_iadd hx hb dX9_about_120 ?_
        refine lv_topi (fun y_38 ey_38 => ?_)
        refine lv_istore_n (lv' := [(2, .int y_38), (0, .ref (ad 0)), (1, .int 4), (3, .int (nI g_17))]) hx hb dX9_about_121 rfl hl (by decide) rfl (fun ls hl => ?_)
        refine lv_iinc (v := (nI (g_17 + 1))) (lv' := [(3, .int (nI (g_17 + 1))), (2, .int y_38), (0, .ref (ad 0)), (1, .int 4)]) hx hb dX9_about_122 hl (k := 3) rfl (nI_1 _) (by decide) rfl (fun ls hl => ?_)
        refine lv_goto (tgt := 101) hx hb dX9_about_125 (by decide) ?_
        exact ih_18 (14 - (g_17 + 1)) (by omega) _ _ _ ⟨y_38, (g_17 + 1), rfl, (by omega), hP, hD, hS, lv_sub hl [2, 3, 1, 0] rfl⟩
  by_cases w_39 : p0 = 5
  · subst w_39
    refine lv_tableIn (tgt := 162) (off := 154) hx hb dX9_about_8 (by decide) (by decide) rfl (by decide) ?_
    refine lv_aload_n hx hb dX9_about_162 rfl (lv_at hl 1 rfl) ?_
    refine va_get (D := (dC, dI)) (ci := 9) (v := .int (nI x29)) (C := RX9) (T := TX9) (N := 67) hx hb hts hiX9 hown hK hP 0 rfl rfl 29 (by decide) v_15 (fun _ h9 => h9) rfl dX9_about_163 ?_
    refine lv_if_eq (tgt := 178) hx hb dX9_about_166 (by decide) (fun c_40 => ?_) (fun c_40 => ?_)
    · have c_40 : x29 = 0 := (nI_eq (a := x29) (b := 0) (Nat.lt_of_le_of_lt hx29 (Nat.le_of_ble_eq_true rfl)) (Nat.le_of_ble_eq_true rfl)).mp c_40
      refine lv_iconst (v := (-1)) hx hb dX9_about_178 (by decide) ?_
      exact W.iret (v := (-1)) hx hb hr (fun t ht hW => ⟨⟨(-1), (), rfl, trivial, ⟨0, ⟨by rw [ht]; exact hP, va_K.moved hW.alike hK, hD⟩⟩⟩, hS.F ht⟩) hS.2.2 dX9_about_179
    · have c_40 : ¬ x29 = 0 := fun z => c_40 ((nI_eq (a := x29) (b := 0) (Nat.lt_of_le_of_lt hx29 (Nat.le_of_ble_eq_true rfl)) (Nat.le_of_ble_eq_true rfl)).mpr z)
      refine lv_aload_n hx hb dX9_about_169 rfl (lv_at hl 1 rfl) ?_
      refine va_get (D := (dC, dI)) (ci := 9) (v := .ref (ad 42)) (C := RX9) (T := TX9) (N := 67) hx hb hts hiX9 hown hK hP 0 rfl rfl 42 (by decide) v_16 (fun _ h9 => h9) rfl dX9_about_170 ?_
      refine lv_iconst (v := 0) hx hb dX9_about_173 (by decide) ?_
      refine va_iald hx hb hK hP 27 26 rfl rfl (vp_in_nI (n := 0) (Nat.le_of_ble_eq_true rfl) (Nat.le_of_ble_eq_true rfl)) dX9_about_174 ?_
      refine lv_topi (fun y_41 ey_41 => ?_)
      have qy_41 := ey_41.trans b2_0
      clear ey_41
      obtain rfl : y_41 = nI m42_0 := qy_41
      refine lv_goto (tgt := 179) hx hb dX9_about_175 (by decide) ?_
      exact W.iret (v := (nI m42_0)) hx hb hr (fun t ht hW => ⟨⟨(nI m42_0), (), rfl, trivial, ⟨0, ⟨by rw [ht]; exact hP, va_K.moved hW.alike hK, hD⟩⟩⟩, hS.F ht⟩) hS.2.2 dX9_about_179
  by_cases w_42 : p0 = 6
  · subst w_42
    refine lv_tableIn (tgt := 180) (off := 172) hx hb dX9_about_8 (by decide) (by decide) rfl (by decide) ?_
    refine lv_aload_n hx hb dX9_about_180 rfl (lv_at hl 1 rfl) ?_
    refine va_get (D := (dC, dI)) (ci := 9) (v := .int (nI x29)) (C := RX9) (T := TX9) (N := 67) hx hb hts hiX9 hown hK hP 0 rfl rfl 29 (by decide) v_15 (fun _ h9 => h9) rfl dX9_about_181 ?_
    refine lv_if_eq (tgt := 204) hx hb dX9_about_184 (by decide) (fun c_43 => ?_) (fun c_43 => ?_)
    · have c_43 : x29 = 0 := (nI_eq (a := x29) (b := 0) (Nat.lt_of_le_of_lt hx29 (Nat.le_of_ble_eq_true rfl)) (Nat.le_of_ble_eq_true rfl)).mp c_43
      refine lv_iconst (v := (-1)) hx hb dX9_about_204 (by decide) ?_
      exact W.iret (v := (-1)) hx hb hr (fun t ht hW => ⟨⟨(-1), (), rfl, trivial, ⟨0, ⟨by rw [ht]; exact hP, va_K.moved hW.alike hK, hD⟩⟩⟩, hS.F ht⟩) hS.2.2 dX9_about_205
    · have c_43 : ¬ x29 = 0 := fun z => c_43 ((nI_eq (a := x29) (b := 0) (Nat.lt_of_le_of_lt hx29 (Nat.le_of_ble_eq_true rfl)) (Nat.le_of_ble_eq_true rfl)).mpr z)
      refine lv_aload_n hx hb dX9_about_187 rfl (lv_at hl 1 rfl) ?_
      refine va_get (D := (dC, dI)) (ci := 9) (v := .ref (ad 44)) (C := RX9) (T := TX9) (N := 67) hx hb hts hiX9 hown hK hP 0 rfl rfl 44 (by decide) v_17 (fun _ h9 => h9) rfl dX9_about_188 ?_
      refine lv_iconst (v := 0) hx hb dX9_about_191 (by decide) ?_
      refine va_zald hx hb hK hP 29 28 rfl rfl (vp_in_nI (n := 0) (Nat.le_of_ble_eq_true rfl) (Nat.le_of_ble_eq_true rfl)) dX9_about_192 ?_
      refine lv_topi (fun y_44 ey_44 => ?_)
      refine lv_if_eq (tgt := 200) hx hb dX9_about_193 (by decide) (fun c_45 => ?_) (fun c_45 => ?_)
      · refine lv_iconst (v := 0) hx hb dX9_about_200 (by decide) ?_
        refine lv_goto (tgt := 205) hx hb dX9_about_201 (by decide) ?_
        exact W.iret (v := 0) hx hb hr (fun t ht hW => ⟨⟨0, (), rfl, trivial, ⟨0, ⟨by rw [ht]; exact hP, va_K.moved hW.alike hK, hD⟩⟩⟩, hS.F ht⟩) hS.2.2 dX9_about_205
      · refine lv_iconst (v := 1) hx hb dX9_about_196 (by decide) ?_
        refine lv_goto (tgt := 205) hx hb dX9_about_197 (by decide) ?_
        exact W.iret (v := 1) hx hb hr (fun t ht hW => ⟨⟨1, (), rfl, trivial, ⟨0, ⟨by rw [ht]; exact hP, va_K.moved hW.alike hK, hD⟩⟩⟩, hS.F ht⟩) hS.2.2 dX9_about_205
  by_cases w_46 : p0 = 7
  · subst w_46
    refine lv_tableIn (tgt := 206) (off := 198) hx hb dX9_about_8 (by decide) (by decide) rfl (by decide) ?_
    refine lv_aload_n hx hb dX9_about_206 rfl (lv_at hl 1 rfl) ?_
    refine va_get (D := (dC, dI)) (ci := 9) (v := .int (nI x29)) (C := RX9) (T := TX9) (N := 67) hx hb hts hiX9 hown hK hP 0 rfl rfl 29 (by decide) v_15 (fun _ h9 => h9) rfl dX9_about_207 ?_
    refine lv_if_eq (tgt := 220) hx hb dX9_about_210 (by decide) (fun c_47 => ?_) (fun c_47 => ?_)
    · have c_47 : x29 = 0 := (nI_eq (a := x29) (b := 0) (Nat.lt_of_le_of_lt hx29 (Nat.le_of_ble_eq_true rfl)) (Nat.le_of_ble_eq_true rfl)).mp c_47
      refine lv_iconst (v := (-1)) hx hb dX9_about_220 (by decide) ?_
      exact W.iret (v := (-1)) hx hb hr (fun t ht hW => ⟨⟨(-1), (), rfl, trivial, ⟨0, ⟨by rw [ht]; exact hP, va_K.moved hW.alike hK, hD⟩⟩⟩, hS.F ht⟩) hS.2.2 dX9_about_221
    · have c_47 : ¬ x29 = 0 := fun z => c_47 ((nI_eq (a := x29) (b := 0) (Nat.lt_of_le_of_lt hx29 (Nat.le_of_ble_eq_true rfl)) (Nat.le_of_ble_eq_true rfl)).mpr z)
      refine lv_aload_n hx hb dX9_about_213 rfl (lv_at hl 1 rfl) ?_
      refine va_get (D := (dC, dI)) (ci := 9) (v := .int x45) (C := RX9) (T := TX9) (N := 67) hx hb hts hiX9 hown hK hP 0 rfl rfl 45 (by decide) v_18 (fun _ h9 => h9) rfl dX9_about_214 ?_
      refine lv_goto (tgt := 221) hx hb dX9_about_217 (by decide) ?_
      exact W.iret (v := x45) hx hb hr (fun t ht hW => ⟨⟨x45, (), rfl, trivial, ⟨0, ⟨by rw [ht]; exact hP, va_K.moved hW.alike hK, hD⟩⟩⟩, hS.F ht⟩) hS.2.2 dX9_about_221
  by_cases w_48 : p0 = 8
  · subst w_48
    refine lv_tableIn (tgt := 222) (off := 214) hx hb dX9_about_8 (by decide) (by decide) rfl (by decide) ?_
    refine lv_aload_n hx hb dX9_about_222 rfl (lv_at hl 1 rfl) ?_
    refine va_get (D := (dC, dI)) (ci := 9) (v := .int (nI x33)) (C := RX9) (T := TX9) (N := 67) hx hb hts hiX9 hown hK hP 0 rfl rfl 33 (by decide) v_19 (fun _ h9 => h9) rfl dX9_about_223 ?_
    exact W.iret (v := (nI x33)) hx hb hr (fun t ht hW => ⟨⟨(nI x33), (), rfl, trivial, ⟨0, ⟨by rw [ht]; exact hP, va_K.moved hW.alike hK, hD⟩⟩⟩, hS.F ht⟩) hS.2.2 dX9_about_226
  by_cases w_49 : p0 = 9
  · subst w_49
    refine lv_tableIn (tgt := 227) (off := 219) hx hb dX9_about_8 (by decide) (by decide) rfl (by decide) ?_
    refine lv_aload_n hx hb dX9_about_227 rfl (lv_at hl 1 rfl) ?_
    refine va_get (D := (dC, dI)) (ci := 9) (v := .int (nI x18)) (C := RX9) (T := TX9) (N := 67) hx hb hts hiX9 hown hK hP 0 rfl rfl 18 (by decide) v_20 (fun _ h9 => h9) rfl dX9_about_228 ?_
    exact W.iret (v := (nI x18)) hx hb hr (fun t ht hW => ⟨⟨(nI x18), (), rfl, trivial, ⟨0, ⟨by rw [ht]; exact hP, va_K.moved hW.alike hK, hD⟩⟩⟩, hS.F ht⟩) hS.2.2 dX9_about_231
  refine lv_tableOut (tgt := 232) hx hb dX9_about_8 (by
      have zw_1 : Int32.toInt p0 ≠ 0 := fun g => w_1 ((fa_eq _ _).mpr g)
      have zw_4 : Int32.toInt p0 ≠ 1 := fun g => w_4 ((fa_eq _ _).mpr g)
      have zw_7 : Int32.toInt p0 ≠ 2 := fun g => w_7 ((fa_eq _ _).mpr g)
      have zw_10 : Int32.toInt p0 ≠ 3 := fun g => w_10 ((fa_eq _ _).mpr g)
      have zw_13 : Int32.toInt p0 ≠ 4 := fun g => w_13 ((fa_eq _ _).mpr g)
      have zw_39 : Int32.toInt p0 ≠ 5 := fun g => w_39 ((fa_eq _ _).mpr g)
      have zw_42 : Int32.toInt p0 ≠ 6 := fun g => w_42 ((fa_eq _ _).mpr g)
      have zw_46 : Int32.toInt p0 ≠ 7 := fun g => w_46 ((fa_eq _ _).mpr g)
      have zw_48 : Int32.toInt p0 ≠ 8 := fun g => w_48 ((fa_eq _ _).mpr g)
      have zw_49 : Int32.toInt p0 ≠ 9 := fun g => w_49 ((fa_eq _ _).mpr g)
      omega) (by decide) ?_
  refine lv_iconst (v := (-1)) hx hb dX9_about_232 (by decide) ?_
  exact W.iret (v := (-1)) hx hb hr (fun t ht hW => ⟨⟨(-1), (), rfl, trivial, ⟨0, ⟨by rw [ht]; exact hP, va_K.moved hW.alike hK, hD⟩⟩⟩, hS.F ht⟩) hS.2.2 dX9_about_233
theorem dX9_place_0 : decode cX9_place 0 = .ok (.aload_n 0, 1) := by decide +kernel
theorem dX9_place_1 : decode cX9_place 1 = .ok (.iconst 0, 1) := by decide +kernel
theorem dX9_place_2 : decode cX9_place 2 = .ok (.putfield 142, 3) := by decide +kernel
theorem dX9_place_5 : decode cX9_place 5 = .ok (.aload_n 0, 1) := by decide +kernel
theorem dX9_place_6 : decode cX9_place 6 = .ok (.iload_n 1, 1) := by decide +kernel
theorem dX9_place_7 : decode cX9_place 7 = .ok (.invokevirtual 286, 3) := by decide +kernel
theorem dX9_place_10 : decode cX9_place 10 = .ok (.ifCond .eq 12, 3) := by decide +kernel
theorem dX9_place_13 : decode cX9_place 13 = .ok (.iload_n 2, 1) := by decide +kernel
theorem dX9_place_14 : decode cX9_place 14 = .ok (.iconst 0, 1) := by decide +kernel
theorem dX9_place_15 : decode cX9_place 15 = .ok (.iconst 3, 1) := by decide +kernel
theorem dX9_place_16 : decode cX9_place 16 = .ok (.invokestatic 152, 3) := by decide +kernel
theorem dX9_place_19 : decode cX9_place 19 = .ok (.ifCond .ne 5, 3) := by decide +kernel
theorem dX9_place_22 : decode cX9_place 22 = .ok (.iconst (-1), 1) := by decide +kernel
theorem dX9_place_23 : decode cX9_place 23 = .ok (.ireturn, 1) := by decide +kernel
theorem dX9_place_24 : decode cX9_place 24 = .ok (.iload_n 2, 1) := by decide +kernel
theorem dX9_place_25 : decode cX9_place 25 = .ok (.ifCond .ne 20, 3) := by decide +kernel
theorem dX9_place_28 : decode cX9_place 28 = .ok (.aload_n 0, 1) := by decide +kernel
theorem dX9_place_29 : decode cX9_place 29 = .ok (.getfield 16, 3) := by decide +kernel
theorem dX9_place_32 : decode cX9_place 32 = .ok (.bipush 8, 2) := by decide +kernel
theorem dX9_place_34 : decode cX9_place 34 = .ok (.aload_n 0, 1) := by decide +kernel
theorem dX9_place_35 : decode cX9_place 35 = .ok (.getfield 258, 3) := by decide +kernel
theorem dX9_place_38 : decode cX9_place 38 = .ok (.imul, 1) := by decide +kernel
theorem dX9_place_39 : decode cX9_place 39 = .ok (.iload_n 1, 1) := by decide +kernel
theorem dX9_place_40 : decode cX9_place 40 = .ok (.iadd, 1) := by decide +kernel
theorem dX9_place_41 : decode cX9_place 41 = .ok (.iaload, 1) := by decide +kernel
theorem dX9_place_42 : decode cX9_place 42 = .ok (.goto 34, 3) := by decide +kernel
theorem dX9_place_45 : decode cX9_place 45 = .ok (.iload_n 2, 1) := by decide +kernel
theorem dX9_place_46 : decode cX9_place 46 = .ok (.iconst 1, 1) := by decide +kernel
theorem dX9_place_47 : decode cX9_place 47 = .ok (.if_icmp .ne 14, 3) := by decide +kernel
theorem dX9_place_50 : decode cX9_place 50 = .ok (.aload_n 0, 1) := by decide +kernel
theorem dX9_place_51 : decode cX9_place 51 = .ok (.bipush 100, 2) := by decide +kernel
theorem dX9_place_53 : decode cX9_place 53 = .ok (.iload_n 1, 1) := by decide +kernel
theorem dX9_place_54 : decode cX9_place 54 = .ok (.iadd, 1) := by decide +kernel
theorem dX9_place_55 : decode cX9_place 55 = .ok (.invokevirtual 295, 3) := by decide +kernel
theorem dX9_place_58 : decode cX9_place 58 = .ok (.goto 18, 3) := by decide +kernel
theorem dX9_place_61 : decode cX9_place 61 = .ok (.aload_n 0, 1) := by decide +kernel
theorem dX9_place_62 : decode cX9_place 62 = .ok (.iload_n 1, 1) := by decide +kernel
theorem dX9_place_63 : decode cX9_place 63 = .ok (.iload_n 2, 1) := by decide +kernel
theorem dX9_place_64 : decode cX9_place 64 = .ok (.iconst 2, 1) := by decide +kernel
theorem dX9_place_65 : decode cX9_place 65 = .ok (.if_icmp .ne 7, 3) := by decide +kernel
theorem dX9_place_68 : decode cX9_place 68 = .ok (.iconst 1, 1) := by decide +kernel
theorem dX9_place_69 : decode cX9_place 69 = .ok (.goto 4, 3) := by decide +kernel
theorem dX9_place_72 : decode cX9_place 72 = .ok (.iconst 0, 1) := by decide +kernel
theorem dX9_place_73 : decode cX9_place 73 = .ok (.invokevirtual 301, 3) := by decide +kernel
theorem dX9_place_76 : decode cX9_place 76 = .ok (.ireturn, 1) := by decide +kernel
abbrev vs_M_place : List Cond := .code yX9_place cX9_place 3 (some .int) :: VM
theorem g_M_place_X9_in : GoodIn vs_M_place (va_wsS RX9 152 yX9_in vs_X9_in) := gm_0 (fun w h => by
  rcases List.mem_cons.mp h with rfl | h
  · exact vm_153
  rcases List.mem_cons.mp h with rfl | h
  · exact vm_154
  rcases List.mem_cons.mp h with rfl | h
  · exact vm_12
  rcases List.mem_cons.mp h with rfl | h
  · exact vm_14
  exact absurd h (List.not_mem_nil))
theorem g_M_place_M_isPlace : GoodIn vs_M_place (wsV RX9 286 RX9 yX9_isPlace vs_M_isPlace) := gm_V vm_161 vm_162 vm_163 vm_12 vm_155
theorem g_M_place_M_edgesOf : GoodIn vs_M_place (wsV RX9 301 RX9 yX9_edgesOf vs_M_edgesOf) := gm_V vm_181 vm_182 vm_183 vm_12 vm_61
theorem g_M_place_M_manyOf_p : GoodIn vs_M_place (wsV RX9 295 RX9 yX9_manyOf vs_M_manyOf_p) := gm_V vm_166 vm_167 vm_168 vm_12 vm_157
set_option maxHeartbeats 4000000 in
set_option maxRecDepth 100000 in
theorem c_M_place (l : Launch) (dC : Nat → ClassId) (dI : Nat → Nat → Nat) (sz : Nat) (ad : Nat → Nat) (ck : Nat → ClassId) (x0 : Int32) (x16 : Nat) (x18 : Nat) (x19 : Nat) (x20 : Int32) (x21 : Nat) (x22 : Nat) (x23 : Int32) (x24 : Int32) (x25 : Int32) (x26 : Nat) (x27 : Int32) (x28 : Nat) (x29 : Nat) (x30 : Nat) (x33 : Nat) (x45 : Int32) (x46 : Nat) (x52 : Nat) (x53 : Nat) (x61 : Nat) (x62 : Nat) (x63 : Nat) (x65 : Nat) (x66 : Int32) (f1 : Nat → Int32) (f2 : Nat → Int32) (f3 : Nat → Int32) (q4 : Nat → Nat) (q5 : Nat → Nat) (q6 : Nat → Nat) (q7 : Nat → Nat) (f8 : Nat → Int32) (q9 : Nat → Nat) (q10 : Nat → Nat) (f11 : Nat → Int32) (m12_0 m12_1 : Nat) (m13_0 m13_1 : Nat) (m14_0 m14_1 : Nat) (m15_0 m15_1 : Nat) (f17 : Nat → Int32) (q31 : Nat → Nat) (f32 : Nat → Int32) (f34 : Nat → Int32) (f35 : Nat → Int32) (f36 : Nat → Int32) (f37 : Nat → Int32) (q38 : Nat → Nat) (f39 : Nat → Int32) (f40 : Nat → Int32) (f41 : Nat → Int32) (m42_0 m42_1 : Nat) (f43 : Nat → Int32) (f44 : Nat → Int32) (f47 : Nat → Int32) (f48 : Nat → Int32) (f49 : Nat → Int32) (f50 : Nat → Int32) (f51 : Nat → Int32) (q54 : Nat → Nat) (q55 : Nat → Nat) (q56 : Nat → Nat) (f57 : Nat → Int32) (q58 : Nat → Nat) (f59 : Nat → Int32) (f60 : Nat → Int32) (f64 : Nat → Int32) (p0 : Int32) (p1 : Int32) (hx16 : x16 ≤ 1) (hx18 : x18 ≤ 900) (hx19 : x19 ≤ 900) (hx21 : x21 ≤ 900) (hx22 : x22 ≤ 4) (hx26 : x26 ≤ 6) (hx28 : x28 ≤ 1) (hx29 : x29 ≤ 1) (hx30 : x30 ≤ 1) (hx33 : x33 ≤ 20) (hx46 : x46 ≤ 5) (hx52 : x52 ≤ 2400) (hx53 : x53 ≤ 119) (hx61 : x61 ≤ 119) (hx62 : x62 ≤ 2000) (hx63 : x63 ≤ 1) (hx65 : x65 ≤ 7) (hm12_0 : m12_0 ≤ 3) (hm12_1 : m12_1 ≤ 3) (hm13_0 : m13_0 ≤ 8) (hm13_1 : m13_1 ≤ 8) (hm14_0 : m14_0 ≤ 14) (hm14_1 : m14_1 ≤ 14) (hm15_0 : m15_0 ≤ 8) (hm15_1 : m15_1 ≤ 8) (hm42_0 : m42_0 ≤ 120) (hm42_1 : m42_1 ≤ 400) : Met l yX9_place vs_M_place ({ frames := 3, cells := 0, slots := 0, locals := 64 }) (va_Pc [.ref (ad 0), .int p0, .int p1] (pu_B (dC, dI) (mo_w ad ck x0 (nI x16) (nI x18) (nI x19) x20 (nI x21) (nI x22) x23 x24 x25 (nI x26) x27 (nI x28) (nI x29) (nI x30) (nI x33) x45 (nI x46) (nI x52) (nI x53) (nI x61) (nI x62) (nI x63) (nI x65) x66 f1 f2 f3 (bN 3 q4) (bN 7 q5) (bN 7 q6) (bN 4 q7) f8 (bN 2 q9) (bH q10) f11 (b2 m12_0 m12_1) (b2 m13_0 m13_1) (b2 m14_0 m14_1) (b2m m15_0 m15_1) f17 (bA 159 q31) f32 f34 f35 f36 f37 (bN 7 q38) f39 f40 f41 (b2 m42_0 m42_1) f43 f44 f47 f48 f49 f50 f51 (bN 13 q54) (bN 120 q55) (bN 120 q56) f57 (bN 120 q58) f59 f60 f64) (mo_t ck) sz)) (va_Qi (fun (r : Int32) (_ : Unit) => True) (fun _ t => ∃ (z0 : Int32), pu_E (dC, dI) (mo_w ad ck z0 (nI x16) (nI x18) (nI x19) x20 (nI x21) (nI x22) x23 x24 x25 (nI x26) x27 (nI x28) (nI x29) (nI x30) (nI x33) x45 (nI x46) (nI x52) (nI x53) (nI x61) (nI x62) (nI x63) (nI x65) x66 f1 f2 f3 (bN 3 q4) (bN 7 q5) (bN 7 q6) (bN 4 q7) f8 (bN 2 q9) (bH q10) f11 (b2 m12_0 m12_1) (b2 m13_0 m13_1) (b2 m14_0 m14_1) (b2m m15_0 m15_1) f17 (bA 159 q31) f32 f34 f35 f36 f37 (bN 7 q38) f39 f40 f41 (b2 m42_0 m42_1) f43 f44 f47 f48 f49 f50 f51 (bN 13 q54) (bN 120 q55) (bN 120 q56) f57 (bN 120 q58) f59 f60 f64) (mo_t ck) (va_A ((mo_w ad ck x0 (nI x16) (nI x18) (nI x19) x20 (nI x21) (nI x22) x23 x24 x25 (nI x26) x27 (nI x28) (nI x29) (nI x30) (nI x33) x45 (nI x46) (nI x52) (nI x53) (nI x61) (nI x62) (nI x63) (nI x65) x66 f1 f2 f3 (bN 3 q4) (bN 7 q5) (bN 7 q6) (bN 4 q7) f8 (bN 2 q9) (bH q10) f11 (b2 m12_0 m12_1) (b2 m13_0 m13_1) (b2 m14_0 m14_1) (b2m m15_0 m15_1) f17 (bA 159 q31) f32 f34 f35 f36 f37 (bN 7 q38) f39 f40 f41 (b2 m42_0 m42_1) f43 f44 f47 f48 f49 f50 f51 (bN 13 q54) (bN 120 q55) (bN 120 q56) f57 (bN 120 q58) f59 f60 f64)) sz) t) (va_A ((mo_w ad ck x0 (nI x16) (nI x18) (nI x19) x20 (nI x21) (nI x22) x23 x24 x25 (nI x26) x27 (nI x28) (nI x29) (nI x30) (nI x33) x45 (nI x46) (nI x52) (nI x53) (nI x61) (nI x62) (nI x63) (nI x65) x66 f1 f2 f3 (bN 3 q4) (bN 7 q5) (bN 7 q6) (bN 4 q7) f8 (bN 2 q9) (bH q10) f11 (b2 m12_0 m12_1) (b2 m13_0 m13_1) (b2 m14_0 m14_1) (b2m m15_0 m15_1) f17 (bA 159 q31) f32 f34 f35 f36 f37 (bN 7 q38) f39 f40 f41 (b2 m42_0 m42_1) f43 f44 f47 f48 f49 f50 f51 (bN 13 q54) (bN 120 q55) (bN 120 q56) f57 (bN 120 q58) f59 f60 f64)) sz)) 0 0 (va_A ((mo_w ad ck x0 (nI x16) (nI x18) (nI x19) x20 (nI x21) (nI x22) x23 x24 x25 (nI x26) x27 (nI x28) (nI x29) (nI x30) (nI x33) x45 (nI x46) (nI x52) (nI x53) (nI x61) (nI x62) (nI x63) (nI x65) x66 f1 f2 f3 (bN 3 q4) (bN 7 q5) (bN 7 q6) (bN 4 q7) f8 (bN 2 q9) (bH q10) f11 (b2 m12_0 m12_1) (b2 m13_0 m13_1) (b2 m14_0 m14_1) (b2m m15_0 m15_1) f17 (bA 159 q31) f32 f34 f35 f36 f37 (bN 7 q38) f39 f40 f41 (b2 m42_0 m42_1) f43 f44 f47 f48 f49 f50 f51 (bN 13 q54) (bN 120 q55) (bN 120 q56) f57 (bN 120 q58) f59 f60 f64)) sz) := by
  refine Met.ofW (cc := cX9_place) (maxL := 3) (ret := (some .int)) (by decide) rfl ?_
  intro p e s m args below meth c s₁ B hml hv
  obtain ⟨rfl, rfl, hP, hK, hD0⟩ := hv
  have hx := B.exec
  have hb := B.bytes
  have hr := B.returns
  have hts := atoms_spec (ws := vs_M_place) B.pre
  have v_1 := hts (.fieldLink RX9 142 "ClockReachModel" "thrown" "I") (List.mem_cons_of_mem _ vm_24)
  have v_18 := hts (.fieldLink RX9 16 "ClockReachModel" "urgent" "[I") (List.mem_cons_of_mem _ vm_34)
  have v_19 := hts (.fieldLink RX9 258 "ClockReachModel" "bank" "I") (List.mem_cons_of_mem _ vm_22)
  have hown : s.vm.findClass RX9 = some m.cls := findClass_of_methodNamed B.named
  have hlocks := B.notSynchronized
  have hiX9 : ∀ w ∈ wsX90, w ∈ vs_M_place := fun _ h => List.mem_cons_of_mem _ (List.mem_append_right _ h)
  have hD := hD0.self (sz := s.heap.size)
  generalize hAe : va_A ((mo_w ad ck x0 (nI x16) (nI x18) (nI x19) x20 (nI x21) (nI x22) x23 x24 x25 (nI x26) x27 (nI x28) (nI x29) (nI x30) (nI x33) x45 (nI x46) (nI x52) (nI x53) (nI x61) (nI x62) (nI x63) (nI x65) x66 f1 f2 f3 (bN 3 q4) (bN 7 q5) (bN 7 q6) (bN 4 q7) f8 (bN 2 q9) (bH q10) f11 (b2 m12_0 m12_1) (b2 m13_0 m13_1) (b2 m14_0 m14_1) (b2m m15_0 m15_1) f17 (bA 159 q31) f32 f34 f35 f36 f37 (bN 7 q38) f39 f40 f41 (b2 m42_0 m42_1) f43 f44 f47 f48 f49 f50 f51 (bN 13 q54) (bN 120 q55) (bN 120 q56) f57 (bN 120 q58) f59 f60 f64)) s.heap.size = A at hD ⊢
  have hA : ∀ q : Nat, s.heap.size ≤ q → A q := fun q h => by rw [← hAe]; exact Or.inr h
  have hS : va_S A s.heap s.heap [] := va_S.rf
  have hl := lv_entry ([.ref (ad 0), .int p0, .int p1]) (n := 3) (Nat.le_of_ble_eq_true rfl)
  rw [lg_entry_eq]
  generalize (lg_sl ([.ref (ad 0), .int p0, .int p1]) ++ List.replicate (3 - (lg_sl ([.ref (ad 0), .int p0, .int p1])).length) Slot.unset).toArray = ls at hl ⊢
  have hl : lv_has ls 3 [(0, .ref (ad 0)), (1, .int p0), (2, .int p1)] := hl
  refine lv_aload_n hx hb dX9_place_0 rfl (lv_at hl 0 rfl) ?_
  refine lv_iconst (v := 0) hx hb dX9_place_1 (by decide) ?_
  refine va_put (D := (dC, dI)) (ci := 9) (v := .int 0) (ty := .int) (C := RX9) (T := TX9) (N := 67) hx hb hts hiX9 tyX9 tyX9_ok nmX9 hown hK hP hD hS 0 rfl rfl 0 (by decide) v_1 (fun _ h9 => h9) rfl (by decide +kernel) rfl rfl (Nat.le_of_ble_eq_true rfl) dX9_place_2 (fun H locs hP hD hS => ?_)
  have hP : va_P (dC, dI) vwCl (mo_w ad ck 0 (nI x16) (nI x18) (nI x19) x20 (nI x21) (nI x22) x23 x24 x25 (nI x26) x27 (nI x28) (nI x29) (nI x30) (nI x33) x45 (nI x46) (nI x52) (nI x53) (nI x61) (nI x62) (nI x63) (nI x65) x66 f1 f2 f3 (bN 3 q4) (bN 7 q5) (bN 7 q6) (bN 4 q7) f8 (bN 2 q9) (bH q10) f11 (b2 m12_0 m12_1) (b2 m13_0 m13_1) (b2 m14_0 m14_1) (b2m m15_0 m15_1) f17 (bA 159 q31) f32 f34 f35 f36 f37 (bN 7 q38) f39 f40 f41 (b2 m42_0 m42_1) f43 f44 f47 f48 f49 f50 f51 (bN 13 q54) (bN 120 q55) (bN 120 q56) f57 (bN 120 q58) f59 f60 f64) H := hP
  have hD : va_D A (mo_w ad ck 0 (nI x16) (nI x18) (nI x19) x20 (nI x21) (nI x22) x23 x24 x25 (nI x26) x27 (nI x28) (nI x29) (nI x30) (nI x33) x45 (nI x46) (nI x52) (nI x53) (nI x61) (nI x62) (nI x63) (nI x65) x66 f1 f2 f3 (bN 3 q4) (bN 7 q5) (bN 7 q6) (bN 4 q7) f8 (bN 2 q9) (bH q10) f11 (b2 m12_0 m12_1) (b2 m13_0 m13_1) (b2 m14_0 m14_1) (b2m m15_0 m15_1) f17 (bA 159 q31) f32 f34 f35 f36 f37 (bN 7 q38) f39 f40 f41 (b2 m42_0 m42_1) f43 f44 f47 f48 f49 f50 f51 (bN 13 q54) (bN 120 q55) (bN 120 q56) f57 (bN 120 q58) f59 f60 f64) := hD
  refine lv_aload_n hx hb dX9_place_5 rfl (lv_at hl 0 rfl) ?_
  refine lv_iload_n hx hb dX9_place_6 rfl (lv_at hl 1 rfl) ?_
  refine va_calli (va_runV (As := [.int p0]) (rest := []) ⟨hx, hb, hml, hown, hts⟩ (c_M_isPlace l dC dI _ ad ck 0 x16 x18 x19 x20 x21 x22 x23 x24 x25 x26 x27 x28 x29 x30 x33 x45 x46 x52 x53 x61 x62 x63 x65 x66 f1 f2 f3 q4 q5 q6 q7 f8 q9 q10 f11 m12_0 m12_1 m13_0 m13_1 m14_0 m14_1 m15_0 m15_1 f17 q31 f32 f34 f35 f36 f37 q38 f39 f40 f41 m42_0 m42_1 f43 f44 f47 f48 f49 f50 f51 q54 q55 q56 f57 q58 f59 f60 f64 p0 hx16 hx18 hx19 hx21 hx22 hx26 hx28 hx29 hx30 hx33 hx46 hx52 hx53 hx61 hx62 hx63 hx65 hm12_0 hm12_1 hm13_0 hm13_1 hm14_0 hm14_1 hm15_0 hm15_1 hm42_0 hm42_1) (cwV 1 hts g_M_place_M_isPlace rfl rfl rfl (by decide +kernel) ⟨Nat.le_of_ble_eq_true rfl, Nat.le_of_ble_eq_true rfl⟩) ⟨pu_bl, va_recv hK hP (ci := 9) (q0 := 0) rfl rfl, pu_in hP hK hD⟩ rfl rfl hl.1 rfl (lv_room (Nat.le_of_ble_eq_true rfl)) dX9_place_7 ⟨Nat.le_of_ble_eq_true rfl, Nat.le_of_ble_eq_true rfl⟩) hS (fun q _ h => pu_fr hS hA q h) (pu_fr hS hA) (fun r_1 u t H1 locs ht hvm hw hB hz1 hk1 hS => ?_)
  have hP := pu_keep hP hk1
  clear hk1 hz1 ht hvm
  generalize H1 = H at hP hS ⊢
  rcases hw with ⟨rfl, hw⟩ | rfl
  · obtain ⟨n_2, hn_2, rfl⟩ := hw
    refine lv_if_eq (tgt := 22) hx hb dX9_place_10 (by decide) (fun z => absurd z (by decide)) (fun _ => ?_)
    refine lv_iload_n hx hb dX9_place_13 rfl (lv_at hl 2 rfl) ?_
    refine lv_iconst (v := 0) hx hb dX9_place_14 (by decide) ?_
    refine lv_iconst (v := 3) hx hb dX9_place_15 (by decide) ?_
    refine va_calli (va_runS (As := [.int p1, .int 0, .int 3]) (rest := []) ⟨hx, hb, hml, hown, hts⟩ (c_X9_in l dC dI _ p1 0 3) (va_cwS 3 hts g_M_place_X9_in rfl rfl rfl (by decide +kernel) ⟨Nat.le_of_ble_eq_true rfl, Nat.le_of_ble_eq_true rfl⟩) ⟨pu_bl, pu_in (hP.sub [] rfl) (hK.sub [] rfl) (hD.sub [] (by decide) rfl)⟩ rfl rfl hl.1 rfl (lv_room (Nat.le_of_ble_eq_true rfl)) dX9_place_16 ⟨Nat.le_of_ble_eq_true rfl, Nat.le_of_ble_eq_true rfl⟩) hS (fun q _ h => pu_fr hS hA q h) (pu_fr hS hA) (fun r_3 u t H1 locs ht hvm hw hB hz1 hk1 hS => ?_)
    have hP := pu_keep hP hk1
    clear hk1 hz1 ht hvm
    generalize H1 = H at hP hS ⊢
    rcases hw with ⟨rfl, hi1, hi2⟩ | ⟨rfl, hi3⟩
    · obtain ⟨n_4, hn_4, rfl⟩ := pu_in0 (n := 3) (by omega) hi1 hi2
      refine lv_if_ne (tgt := 24) hx hb dX9_place_19 (by decide) (fun _ => ?_) (fun z => absurd z (by decide))
      refine lv_iload_n hx hb dX9_place_24 rfl (lv_at hl 2 rfl) ?_
      refine lv_if_ne (tgt := 45) hx hb dX9_place_25 (by decide) (fun c_5 => ?_) (fun c_5 => ?_)
      · have c_5 : ¬ n_4 = 0 := fun z => c_5 ((nI_eq (a := n_4) (b := 0) (by omega) (Nat.le_of_ble_eq_true rfl)).mpr z)
        refine lv_iload_n hx hb dX9_place_45 rfl (lv_at hl 2 rfl) ?_
        refine lv_iconst (v := 1) hx hb dX9_place_46 (by decide) ?_
        refine lv_icmp_ne (tgt := 61) hx hb dX9_place_47 (by decide) (fun c_6 => ?_) (fun c_6 => ?_)
        · have c_6 : ¬ n_4 = 1 := fun z => c_6 ((nI_eq (a := n_4) (b := 1) (by omega) (Nat.le_of_ble_eq_true rfl)).mpr z)
          refine lv_aload_n hx hb dX9_place_61 rfl (lv_at hl 0 rfl) ?_
          refine lv_iload_n hx hb dX9_place_62 rfl (lv_at hl 1 rfl) ?_
          refine lv_iload_n hx hb dX9_place_63 rfl (lv_at hl 2 rfl) ?_
          refine lv_iconst (v := 2) hx hb dX9_place_64 (by decide) ?_
          refine pu_join (fun H locs ls st => ∃ (g_7 : Nat), st = [.int (nI g_7), .int (nI n_2), .ref (ad 0)] ∧ g_7 ≤ 1 ∧ va_P (dC, dI) vwCl (mo_w ad ck 0 (nI x16) (nI x18) (nI x19) x20 (nI x21) (nI x22) x23 x24 x25 (nI x26) x27 (nI x28) (nI x29) (nI x30) (nI x33) x45 (nI x46) (nI x52) (nI x53) (nI x61) (nI x62) (nI x63) (nI x65) x66 f1 f2 f3 (bN 3 q4) (bN 7 q5) (bN 7 q6) (bN 4 q7) f8 (bN 2 q9) (bH q10) f11 (b2 m12_0 m12_1) (b2 m13_0 m13_1) (b2 m14_0 m14_1) (b2m m15_0 m15_1) f17 (bA 159 q31) f32 f34 f35 f36 f37 (bN 7 q38) f39 f40 f41 (b2 m42_0 m42_1) f43 f44 f47 f48 f49 f50 f51 (bN 13 q54) (bN 120 q55) (bN 120 q56) f57 (bN 120 q58) f59 f60 f64) H ∧ va_D A (mo_w ad ck 0 (nI x16) (nI x18) (nI x19) x20 (nI x21) (nI x22) x23 x24 x25 (nI x26) x27 (nI x28) (nI x29) (nI x30) (nI x33) x45 (nI x46) (nI x52) (nI x53) (nI x61) (nI x62) (nI x63) (nI x65) x66 f1 f2 f3 (bN 3 q4) (bN 7 q5) (bN 7 q6) (bN 4 q7) f8 (bN 2 q9) (bH q10) f11 (b2 m12_0 m12_1) (b2 m13_0 m13_1) (b2 m14_0 m14_1) (b2m m15_0 m15_1) f17 (bA 159 q31) f32 f34 f35 f36 f37 (bN 7 q38) f39 f40 f41 (b2 m42_0 m42_1) f43 f44 f47 f48 f49 f50 f51 (bN 13 q54) (bN 120 q55) (bN 120 q56) f57 (bN 120 q58) f59 f60 f64) ∧ va_S A s.heap H locs ∧ lv_has ls 3 [(0, .ref (ad 0)), (1, .int (nI n_2)), (2, .int (nI n_4))]) 73 ?_ (fun j_8 => ?_)
          · rintro H locs ls st ⟨g_7, rfl, hg_7, hP, hD, hS, hl⟩
            refine va_calli (va_runV (As := [.int (nI n_2), .int (nI g_7)]) (rest := []) ⟨hx, hb, hml, hown, hts⟩ (c_M_edgesOf l dC dI _ ad ck 0 x16 x18 x19 x20 x21 x22 x23 x24 x25 x26 x27 x28 x29 x30 x33 x45 x46 x52 x53 x61 x62 x63 x65 x66 f1 f2 f3 q4 q5 q6 q7 f8 q9 q10 f11 m12_0 m12_1 m13_0 m13_1 m14_0 m14_1 m15_0 m15_1 f17 q31 f32 f34 f35 f36 f37 q38 f39 f40 f41 m42_0 m42_1 f43 f44 f47 f48 f49 f50 f51 q54 q55 q56 f57 q58 f59 f60 f64 (nI n_2) g_7 hx16 hx18 hx19 hx21 hx22 hx26 hx28 hx29 hx30 hx33 hx46 hx52 hx53 hx61 hx62 hx63 hx65 hm12_0 hm12_1 hm13_0 hm13_1 hm14_0 hm14_1 hm15_0 hm15_1 hm42_0 hm42_1 hg_7) (cwV 2 hts g_M_place_M_edgesOf rfl rfl rfl (by decide +kernel) ⟨Nat.le_of_ble_eq_true rfl, Nat.le_of_ble_eq_true rfl⟩) ⟨pu_bl, va_recv hK hP (ci := 9) (q0 := 0) rfl rfl, pu_in hP hK hD⟩ rfl rfl hl.1 rfl (lv_room (Nat.le_of_ble_eq_true rfl)) dX9_place_73 ⟨Nat.le_of_ble_eq_true rfl, Nat.le_of_ble_eq_true rfl⟩) hS (fun q _ h => pu_fr hS hA q h) (pu_fr hS hA) (fun r_9 u t H1 locs ht hvm hw hB hz1 hk1 hS => ?_)
            have hP := pu_keep hP hk1
            clear hk1 hz1 ht hvm
            generalize H1 = H at hP hS ⊢
            exact W.iret (v := r_9) hx hb hr (fun t ht hW => ⟨⟨r_9, (), rfl, trivial, ⟨0, ⟨by rw [ht]; exact hP, va_K.moved hW.alike hK, hD⟩⟩⟩, hS.F ht⟩) hS.2.2 dX9_place_76
          refine lv_icmp_ne (tgt := 72) hx hb dX9_place_65 (by decide) (fun c_10 => ?_) (fun c_10 => ?_)
          · have c_10 : ¬ n_4 = 2 := fun z => c_10 ((nI_eq (a := n_4) (b := 2) (by omega) (Nat.le_of_ble_eq_true rfl)).mpr z)
            refine lv_iconst (v := 0) hx hb dX9_place_72 (by decide) ?_
            exact j_8 _ _ _ _ ⟨0, rfl, (Nat.le_of_ble_eq_true rfl), hP, hD, hS, lv_sub hl [0, 1, 2] rfl⟩
          · have c_10 : n_4 = 2 := (nI_eq (a := n_4) (b := 2) (by omega) (Nat.le_of_ble_eq_true rfl)).mp c_10
            refine lv_iconst (v := 1) hx hb dX9_place_68 (by decide) ?_
            refine lv_goto (tgt := 73) hx hb dX9_place_69 (by decide) ?_
            exact j_8 _ _ _ _ ⟨1, rfl, (Nat.le_of_ble_eq_true rfl), hP, hD, hS, lv_sub hl [0, 1, 2] rfl⟩
        · have c_6 : n_4 = 1 := (nI_eq (a := n_4) (b := 1) (by omega) (Nat.le_of_ble_eq_true rfl)).mp c_6
          refine lv_aload_n hx hb dX9_place_50 rfl (lv_at hl 0 rfl) ?_
          refine lv_bipush (v := 100) hx hb dX9_place_51 (by decide) ?_
          refine lv_iload_n hx hb dX9_place_53 rfl (lv_at hl 1 rfl) ?_
          refine lv_iadd hx hb dX9_place_54 ?_
          refine lv_topi (fun y_11 ey_11 => ?_)
          obtain rfl : y_11 = (nI (100 + n_2)) := ey_11.trans (nI_add 100 n_2)
          refine va_calli (va_runV (As := [.int (nI (100 + n_2))]) (rest := []) ⟨hx, hb, hml, hown, hts⟩ (c_M_manyOf_p l dC dI _ ad ck 0 x16 x18 x19 x20 x21 x22 x23 x24 x25 x26 x27 x28 x29 x30 x33 x45 x46 x52 x53 x61 x62 x63 x65 x66 f1 f2 f3 q4 q5 q6 q7 f8 q9 q10 f11 m12_0 m12_1 m13_0 m13_1 m14_0 m14_1 m15_0 m15_1 f17 q31 f32 f34 f35 f36 f37 q38 f39 f40 f41 m42_0 m42_1 f43 f44 f47 f48 f49 f50 f51 q54 q55 q56 f57 q58 f59 f60 f64 (100 + n_2) hx16 hx18 hx19 hx21 hx22 hx26 hx28 hx29 hx30 hx33 hx46 hx52 hx53 hx61 hx62 hx63 hx65 hm12_0 hm12_1 hm13_0 hm13_1 hm14_0 hm14_1 hm15_0 hm15_1 hm42_0 hm42_1 (by omega) (by omega)) (cwV 1 hts g_M_place_M_manyOf_p rfl rfl rfl (by decide +kernel) ⟨Nat.le_of_ble_eq_true rfl, Nat.le_of_ble_eq_true rfl⟩) ⟨pu_bl, va_recv hK hP (ci := 9) (q0 := 0) rfl rfl, pu_in hP hK hD⟩ rfl rfl hl.1 rfl (lv_room (Nat.le_of_ble_eq_true rfl)) dX9_place_55 ⟨Nat.le_of_ble_eq_true rfl, Nat.le_of_ble_eq_true rfl⟩) hS (fun q _ h => pu_fr hS hA q h) (pu_fr hS hA) (fun r_12 u t H1 locs ht hvm hw hB hz1 hk1 hS => ?_)
          have hP := pu_keep hP hk1
          clear hk1 hz1 ht hvm
          generalize H1 = H at hP hS ⊢
          rcases hw with rfl | ⟨u_13, hu_13, rfl⟩
          · refine lv_goto (tgt := 76) hx hb dX9_place_58 (by decide) ?_
            exact W.iret (v := (-1)) hx hb hr (fun t ht hW => ⟨⟨(-1), (), rfl, trivial, ⟨0, ⟨by rw [ht]; exact hP, va_K.moved hW.alike hK, hD⟩⟩⟩, hS.F ht⟩) hS.2.2 dX9_place_76
          · refine lv_goto (tgt := 76) hx hb dX9_place_58 (by decide) ?_
            exact W.iret (v := (nI u_13)) hx hb hr (fun t ht hW => ⟨⟨(nI u_13), (), rfl, trivial, ⟨0, ⟨by rw [ht]; exact hP, va_K.moved hW.alike hK, hD⟩⟩⟩, hS.F ht⟩) hS.2.2 dX9_place_76
      · have c_5 : n_4 = 0 := (nI_eq (a := n_4) (b := 0) (by omega) (Nat.le_of_ble_eq_true rfl)).mp c_5
        refine lv_aload_n hx hb dX9_place_28 rfl (lv_at hl 0 rfl) ?_
        refine va_get (D := (dC, dI)) (ci := 9) (v := .ref (ad 3)) (C := RX9) (T := TX9) (N := 67) hx hb hts hiX9 hown hK hP 0 rfl rfl 3 (by decide) v_18 (fun _ h9 => h9) rfl dX9_place_29 ?_
        refine lv_bipush (v := 8) hx hb dX9_place_32 (by decide) ?_
        refine lv_aload_n hx hb dX9_place_34 rfl (lv_at hl 0 rfl) ?_
        refine va_get (D := (dC, dI)) (ci := 9) (v := .int (nI x16)) (C := RX9) (T := TX9) (N := 67) hx hb hts hiX9 hown hK hP 0 rfl rfl 16 (by decide) v_19 (fun _ h9 => h9) rfl dX9_place_35 ?_
        refine lv_imul hx hb dX9_place_38 ?_
        refine lv_topi (fun y_14 ey_14 => ?_)
        obtain rfl : y_14 = (nI (8 * x16)) := ey_14.trans (pk_mul 8 x16)
        refine lv_iload_n hx hb dX9_place_39 rfl (lv_at hl 1 rfl) ?_
        refine lv_iadd hx hb dX9_place_40 ?_
        refine lv_topi (fun y_15 ey_15 => ?_)
        obtain rfl : y_15 = (nI ((8 * x16) + n_2)) := ey_15.trans (nI_add (8 * x16) n_2)
        refine va_iald hx hb hK hP 3 2 rfl rfl (vp_in_nI (n := ((8 * x16) + n_2)) (by omega) (Nat.le_of_ble_eq_true rfl)) dX9_place_41 ?_
        refine lv_topi (fun y_16 ey_16 => ?_)
        refine lv_goto (tgt := 76) hx hb dX9_place_42 (by decide) ?_
        exact W.iret (v := y_16) hx hb hr (fun t ht hW => ⟨⟨y_16, (), rfl, trivial, ⟨0, ⟨by rw [ht]; exact hP, va_K.moved hW.alike hK, hD⟩⟩⟩, hS.F ht⟩) hS.2.2 dX9_place_76
    · refine lv_if_ne (tgt := 24) hx hb dX9_place_19 (by decide) (fun z => absurd z (by decide)) (fun _ => ?_)
      refine lv_iconst (v := (-1)) hx hb dX9_place_22 (by decide) ?_
      exact W.iret (v := (-1)) hx hb hr (fun t ht hW => ⟨⟨(-1), (), rfl, trivial, ⟨0, ⟨by rw [ht]; exact hP, va_K.moved hW.alike hK, hD⟩⟩⟩, hS.F ht⟩) hS.2.2 dX9_place_23
  · refine lv_if_eq (tgt := 22) hx hb dX9_place_10 (by decide) (fun _ => ?_) (fun z => absurd z (by decide))
    refine lv_iconst (v := (-1)) hx hb dX9_place_22 (by decide) ?_
    exact W.iret (v := (-1)) hx hb hr (fun t ht hW => ⟨⟨(-1), (), rfl, trivial, ⟨0, ⟨by rw [ht]; exact hP, va_K.moved hW.alike hK, hD⟩⟩⟩, hS.F ht⟩) hS.2.2 dX9_place_23
theorem dX9_edge_0 : decode cX9_edge 0 = .ok (.aload_n 0, 1) := by decide +kernel
theorem dX9_edge_1 : decode cX9_edge 1 = .ok (.iconst 0, 1) := by decide +kernel
theorem dX9_edge_2 : decode cX9_edge 2 = .ok (.putfield 142, 3) := by decide +kernel
theorem dX9_edge_5 : decode cX9_edge 5 = .ok (.aload_n 0, 1) := by decide +kernel
theorem dX9_edge_6 : decode cX9_edge 6 = .ok (.iload_n 1, 1) := by decide +kernel
theorem dX9_edge_7 : decode cX9_edge 7 = .ok (.invokevirtual 283, 3) := by decide +kernel
theorem dX9_edge_10 : decode cX9_edge 10 = .ok (.ifCond .eq 12, 3) := by decide +kernel
theorem dX9_edge_13 : decode cX9_edge 13 = .ok (.iload_n 2, 1) := by decide +kernel
theorem dX9_edge_14 : decode cX9_edge 14 = .ok (.iconst 0, 1) := by decide +kernel
theorem dX9_edge_15 : decode cX9_edge 15 = .ok (.iconst 3, 1) := by decide +kernel
theorem dX9_edge_16 : decode cX9_edge 16 = .ok (.invokestatic 152, 3) := by decide +kernel
theorem dX9_edge_19 : decode cX9_edge 19 = .ok (.ifCond .ne 5, 3) := by decide +kernel
theorem dX9_edge_22 : decode cX9_edge 22 = .ok (.iconst (-1), 1) := by decide +kernel
theorem dX9_edge_23 : decode cX9_edge 23 = .ok (.ireturn, 1) := by decide +kernel
theorem dX9_edge_24 : decode cX9_edge 24 = .ok (.iload_n 2, 1) := by decide +kernel
theorem dX9_edge_25 : decode cX9_edge 25 = .ok (.ifCond .ne 11, 3) := by decide +kernel
theorem dX9_edge_28 : decode cX9_edge 28 = .ok (.aload_n 0, 1) := by decide +kernel
theorem dX9_edge_29 : decode cX9_edge 29 = .ok (.iload_n 1, 1) := by decide +kernel
theorem dX9_edge_30 : decode cX9_edge 30 = .ok (.invokevirtual 289, 3) := by decide +kernel
theorem dX9_edge_33 : decode cX9_edge 33 = .ok (.goto 34, 3) := by decide +kernel
theorem dX9_edge_36 : decode cX9_edge 36 = .ok (.iload_n 2, 1) := by decide +kernel
theorem dX9_edge_37 : decode cX9_edge 37 = .ok (.iconst 1, 1) := by decide +kernel
theorem dX9_edge_38 : decode cX9_edge 38 = .ok (.if_icmp .ne 11, 3) := by decide +kernel
theorem dX9_edge_41 : decode cX9_edge 41 = .ok (.aload_n 0, 1) := by decide +kernel
theorem dX9_edge_42 : decode cX9_edge 42 = .ok (.iload_n 1, 1) := by decide +kernel
theorem dX9_edge_43 : decode cX9_edge 43 = .ok (.invokevirtual 292, 3) := by decide +kernel
theorem dX9_edge_46 : decode cX9_edge 46 = .ok (.goto 21, 3) := by decide +kernel
theorem dX9_edge_49 : decode cX9_edge 49 = .ok (.iload_n 2, 1) := by decide +kernel
theorem dX9_edge_50 : decode cX9_edge 50 = .ok (.iconst 2, 1) := by decide +kernel
theorem dX9_edge_51 : decode cX9_edge 51 = .ok (.if_icmp .ne 11, 3) := by decide +kernel
theorem dX9_edge_54 : decode cX9_edge 54 = .ok (.aload_n 0, 1) := by decide +kernel
theorem dX9_edge_55 : decode cX9_edge 55 = .ok (.iload_n 1, 1) := by decide +kernel
theorem dX9_edge_56 : decode cX9_edge 56 = .ok (.invokevirtual 295, 3) := by decide +kernel
theorem dX9_edge_59 : decode cX9_edge 59 = .ok (.goto 8, 3) := by decide +kernel
theorem dX9_edge_62 : decode cX9_edge 62 = .ok (.aload_n 0, 1) := by decide +kernel
theorem dX9_edge_63 : decode cX9_edge 63 = .ok (.iload_n 1, 1) := by decide +kernel
theorem dX9_edge_64 : decode cX9_edge 64 = .ok (.invokevirtual 305, 3) := by decide +kernel
theorem dX9_edge_67 : decode cX9_edge 67 = .ok (.ireturn, 1) := by decide +kernel
abbrev vs_M_edge : List Cond := .code yX9_edge cX9_edge 3 (some .int) :: VM
theorem g_M_edge_X9_in : GoodIn vs_M_edge (va_wsS RX9 152 yX9_in vs_X9_in) := gm_0 (fun w h => by
  rcases List.mem_cons.mp h with rfl | h
  · exact vm_153
  rcases List.mem_cons.mp h with rfl | h
  · exact vm_154
  rcases List.mem_cons.mp h with rfl | h
  · exact vm_12
  rcases List.mem_cons.mp h with rfl | h
  · exact vm_14
  exact absurd h (List.not_mem_nil))
theorem g_M_edge_M_isEdge : GoodIn vs_M_edge (wsV RX9 283 RX9 yX9_isEdge vs_M_isEdge) := gm_V vm_158 vm_159 vm_160 vm_12 vm_156
theorem g_M_edge_M_setBy : GoodIn vs_M_edge (wsV RX9 305 RX9 yX9_setBy vs_M_setBy) := gm_V vm_185 vm_186 vm_187 vm_12 vm_31
theorem g_M_edge_M_manyOf_e : GoodIn vs_M_edge (wsV RX9 295 RX9 yX9_manyOf vs_M_manyOf_e) := gm_V vm_166 vm_167 vm_168 vm_12 vm_157
theorem g_M_edge_M_into : GoodIn vs_M_edge (wsV RX9 292 RX9 yX9_into vs_M_into) := gm_V vm_63 vm_64 vm_65 vm_12 vm_29
theorem g_M_edge_M_outOf : GoodIn vs_M_edge (wsV RX9 289 RX9 yX9_outOf vs_M_outOf) := gm_V vm_66 vm_67 vm_68 vm_12 vm_27
set_option maxHeartbeats 4000000 in
set_option maxRecDepth 100000 in
theorem c_M_edge (l : Launch) (dC : Nat → ClassId) (dI : Nat → Nat → Nat) (sz : Nat) (ad : Nat → Nat) (ck : Nat → ClassId) (x0 : Int32) (x16 : Nat) (x18 : Nat) (x19 : Nat) (x20 : Int32) (x21 : Nat) (x22 : Nat) (x23 : Int32) (x24 : Int32) (x25 : Int32) (x26 : Nat) (x27 : Int32) (x28 : Nat) (x29 : Nat) (x30 : Nat) (x33 : Nat) (x45 : Int32) (x46 : Nat) (x52 : Nat) (x53 : Nat) (x61 : Nat) (x62 : Nat) (x63 : Nat) (x65 : Nat) (x66 : Int32) (f1 : Nat → Int32) (f2 : Nat → Int32) (f3 : Nat → Int32) (q4 : Nat → Nat) (q5 : Nat → Nat) (q6 : Nat → Nat) (q7 : Nat → Nat) (f8 : Nat → Int32) (q9 : Nat → Nat) (q10 : Nat → Nat) (f11 : Nat → Int32) (m12_0 m12_1 : Nat) (m13_0 m13_1 : Nat) (m14_0 m14_1 : Nat) (m15_0 m15_1 : Nat) (f17 : Nat → Int32) (q31 : Nat → Nat) (f32 : Nat → Int32) (f34 : Nat → Int32) (f35 : Nat → Int32) (f36 : Nat → Int32) (f37 : Nat → Int32) (q38 : Nat → Nat) (f39 : Nat → Int32) (f40 : Nat → Int32) (f41 : Nat → Int32) (m42_0 m42_1 : Nat) (f43 : Nat → Int32) (f44 : Nat → Int32) (f47 : Nat → Int32) (f48 : Nat → Int32) (f49 : Nat → Int32) (f50 : Nat → Int32) (f51 : Nat → Int32) (q54 : Nat → Nat) (q55 : Nat → Nat) (q56 : Nat → Nat) (f57 : Nat → Int32) (q58 : Nat → Nat) (f59 : Nat → Int32) (f60 : Nat → Int32) (f64 : Nat → Int32) (p0 : Int32) (p1 : Int32) (hx16 : x16 ≤ 1) (hx18 : x18 ≤ 900) (hx19 : x19 ≤ 900) (hx21 : x21 ≤ 900) (hx22 : x22 ≤ 4) (hx26 : x26 ≤ 6) (hx28 : x28 ≤ 1) (hx29 : x29 ≤ 1) (hx30 : x30 ≤ 1) (hx33 : x33 ≤ 20) (hx46 : x46 ≤ 5) (hx52 : x52 ≤ 2400) (hx53 : x53 ≤ 119) (hx61 : x61 ≤ 119) (hx62 : x62 ≤ 2000) (hx63 : x63 ≤ 1) (hx65 : x65 ≤ 7) (hm12_0 : m12_0 ≤ 3) (hm12_1 : m12_1 ≤ 3) (hm13_0 : m13_0 ≤ 8) (hm13_1 : m13_1 ≤ 8) (hm14_0 : m14_0 ≤ 14) (hm14_1 : m14_1 ≤ 14) (hm15_0 : m15_0 ≤ 8) (hm15_1 : m15_1 ≤ 8) (hm42_0 : m42_0 ≤ 120) (hm42_1 : m42_1 ≤ 400) : Met l yX9_edge vs_M_edge ({ frames := 3, cells := 0, slots := 0, locals := 64 }) (va_Pc [.ref (ad 0), .int p0, .int p1] (pu_B (dC, dI) (mo_w ad ck x0 (nI x16) (nI x18) (nI x19) x20 (nI x21) (nI x22) x23 x24 x25 (nI x26) x27 (nI x28) (nI x29) (nI x30) (nI x33) x45 (nI x46) (nI x52) (nI x53) (nI x61) (nI x62) (nI x63) (nI x65) x66 f1 f2 f3 (bN 3 q4) (bN 7 q5) (bN 7 q6) (bN 4 q7) f8 (bN 2 q9) (bH q10) f11 (b2 m12_0 m12_1) (b2 m13_0 m13_1) (b2 m14_0 m14_1) (b2m m15_0 m15_1) f17 (bA 159 q31) f32 f34 f35 f36 f37 (bN 7 q38) f39 f40 f41 (b2 m42_0 m42_1) f43 f44 f47 f48 f49 f50 f51 (bN 13 q54) (bN 120 q55) (bN 120 q56) f57 (bN 120 q58) f59 f60 f64) (mo_t ck) sz)) (va_Qi (fun (r : Int32) (_ : Unit) => True) (fun _ t => ∃ (z0 : Int32), pu_E (dC, dI) (mo_w ad ck z0 (nI x16) (nI x18) (nI x19) x20 (nI x21) (nI x22) x23 x24 x25 (nI x26) x27 (nI x28) (nI x29) (nI x30) (nI x33) x45 (nI x46) (nI x52) (nI x53) (nI x61) (nI x62) (nI x63) (nI x65) x66 f1 f2 f3 (bN 3 q4) (bN 7 q5) (bN 7 q6) (bN 4 q7) f8 (bN 2 q9) (bH q10) f11 (b2 m12_0 m12_1) (b2 m13_0 m13_1) (b2 m14_0 m14_1) (b2m m15_0 m15_1) f17 (bA 159 q31) f32 f34 f35 f36 f37 (bN 7 q38) f39 f40 f41 (b2 m42_0 m42_1) f43 f44 f47 f48 f49 f50 f51 (bN 13 q54) (bN 120 q55) (bN 120 q56) f57 (bN 120 q58) f59 f60 f64) (mo_t ck) (va_A ((mo_w ad ck x0 (nI x16) (nI x18) (nI x19) x20 (nI x21) (nI x22) x23 x24 x25 (nI x26) x27 (nI x28) (nI x29) (nI x30) (nI x33) x45 (nI x46) (nI x52) (nI x53) (nI x61) (nI x62) (nI x63) (nI x65) x66 f1 f2 f3 (bN 3 q4) (bN 7 q5) (bN 7 q6) (bN 4 q7) f8 (bN 2 q9) (bH q10) f11 (b2 m12_0 m12_1) (b2 m13_0 m13_1) (b2 m14_0 m14_1) (b2m m15_0 m15_1) f17 (bA 159 q31) f32 f34 f35 f36 f37 (bN 7 q38) f39 f40 f41 (b2 m42_0 m42_1) f43 f44 f47 f48 f49 f50 f51 (bN 13 q54) (bN 120 q55) (bN 120 q56) f57 (bN 120 q58) f59 f60 f64)) sz) t) (va_A ((mo_w ad ck x0 (nI x16) (nI x18) (nI x19) x20 (nI x21) (nI x22) x23 x24 x25 (nI x26) x27 (nI x28) (nI x29) (nI x30) (nI x33) x45 (nI x46) (nI x52) (nI x53) (nI x61) (nI x62) (nI x63) (nI x65) x66 f1 f2 f3 (bN 3 q4) (bN 7 q5) (bN 7 q6) (bN 4 q7) f8 (bN 2 q9) (bH q10) f11 (b2 m12_0 m12_1) (b2 m13_0 m13_1) (b2 m14_0 m14_1) (b2m m15_0 m15_1) f17 (bA 159 q31) f32 f34 f35 f36 f37 (bN 7 q38) f39 f40 f41 (b2 m42_0 m42_1) f43 f44 f47 f48 f49 f50 f51 (bN 13 q54) (bN 120 q55) (bN 120 q56) f57 (bN 120 q58) f59 f60 f64)) sz)) 0 0 (va_A ((mo_w ad ck x0 (nI x16) (nI x18) (nI x19) x20 (nI x21) (nI x22) x23 x24 x25 (nI x26) x27 (nI x28) (nI x29) (nI x30) (nI x33) x45 (nI x46) (nI x52) (nI x53) (nI x61) (nI x62) (nI x63) (nI x65) x66 f1 f2 f3 (bN 3 q4) (bN 7 q5) (bN 7 q6) (bN 4 q7) f8 (bN 2 q9) (bH q10) f11 (b2 m12_0 m12_1) (b2 m13_0 m13_1) (b2 m14_0 m14_1) (b2m m15_0 m15_1) f17 (bA 159 q31) f32 f34 f35 f36 f37 (bN 7 q38) f39 f40 f41 (b2 m42_0 m42_1) f43 f44 f47 f48 f49 f50 f51 (bN 13 q54) (bN 120 q55) (bN 120 q56) f57 (bN 120 q58) f59 f60 f64)) sz) := by
  refine Met.ofW (cc := cX9_edge) (maxL := 3) (ret := (some .int)) (by decide) rfl ?_
  intro p e s m args below meth c s₁ B hml hv
  obtain ⟨rfl, rfl, hP, hK, hD0⟩ := hv
  have hx := B.exec
  have hb := B.bytes
  have hr := B.returns
  have hts := atoms_spec (ws := vs_M_edge) B.pre
  have v_1 := hts (.fieldLink RX9 142 "ClockReachModel" "thrown" "I") (List.mem_cons_of_mem _ vm_24)
  have hown : s.vm.findClass RX9 = some m.cls := findClass_of_methodNamed B.named
  have hlocks := B.notSynchronized
  have hiX9 : ∀ w ∈ wsX90, w ∈ vs_M_edge := fun _ h => List.mem_cons_of_mem _ (List.mem_append_right _ h)
  have hD := hD0.self (sz := s.heap.size)
  generalize hAe : va_A ((mo_w ad ck x0 (nI x16) (nI x18) (nI x19) x20 (nI x21) (nI x22) x23 x24 x25 (nI x26) x27 (nI x28) (nI x29) (nI x30) (nI x33) x45 (nI x46) (nI x52) (nI x53) (nI x61) (nI x62) (nI x63) (nI x65) x66 f1 f2 f3 (bN 3 q4) (bN 7 q5) (bN 7 q6) (bN 4 q7) f8 (bN 2 q9) (bH q10) f11 (b2 m12_0 m12_1) (b2 m13_0 m13_1) (b2 m14_0 m14_1) (b2m m15_0 m15_1) f17 (bA 159 q31) f32 f34 f35 f36 f37 (bN 7 q38) f39 f40 f41 (b2 m42_0 m42_1) f43 f44 f47 f48 f49 f50 f51 (bN 13 q54) (bN 120 q55) (bN 120 q56) f57 (bN 120 q58) f59 f60 f64)) s.heap.size = A at hD ⊢
  have hA : ∀ q : Nat, s.heap.size ≤ q → A q := fun q h => by rw [← hAe]; exact Or.inr h
  have hS : va_S A s.heap s.heap [] := va_S.rf
  have hl := lv_entry ([.ref (ad 0), .int p0, .int p1]) (n := 3) (Nat.le_of_ble_eq_true rfl)
  rw [lg_entry_eq]
  generalize (lg_sl ([.ref (ad 0), .int p0, .int p1]) ++ List.replicate (3 - (lg_sl ([.ref (ad 0), .int p0, .int p1])).length) Slot.unset).toArray = ls at hl ⊢
  have hl : lv_has ls 3 [(0, .ref (ad 0)), (1, .int p0), (2, .int p1)] := hl
  refine lv_aload_n hx hb dX9_edge_0 rfl (lv_at hl 0 rfl) ?_
  refine lv_iconst (v := 0) hx hb dX9_edge_1 (by decide) ?_
  refine va_put (D := (dC, dI)) (ci := 9) (v := .int 0) (ty := .int) (C := RX9) (T := TX9) (N := 67) hx hb hts hiX9 tyX9 tyX9_ok nmX9 hown hK hP hD hS 0 rfl rfl 0 (by decide) v_1 (fun _ h9 => h9) rfl (by decide +kernel) rfl rfl (Nat.le_of_ble_eq_true rfl) dX9_edge_2 (fun H locs hP hD hS => ?_)
  have hP : va_P (dC, dI) vwCl (mo_w ad ck 0 (nI x16) (nI x18) (nI x19) x20 (nI x21) (nI x22) x23 x24 x25 (nI x26) x27 (nI x28) (nI x29) (nI x30) (nI x33) x45 (nI x46) (nI x52) (nI x53) (nI x61) (nI x62) (nI x63) (nI x65) x66 f1 f2 f3 (bN 3 q4) (bN 7 q5) (bN 7 q6) (bN 4 q7) f8 (bN 2 q9) (bH q10) f11 (b2 m12_0 m12_1) (b2 m13_0 m13_1) (b2 m14_0 m14_1) (b2m m15_0 m15_1) f17 (bA 159 q31) f32 f34 f35 f36 f37 (bN 7 q38) f39 f40 f41 (b2 m42_0 m42_1) f43 f44 f47 f48 f49 f50 f51 (bN 13 q54) (bN 120 q55) (bN 120 q56) f57 (bN 120 q58) f59 f60 f64) H := hP
  have hD : va_D A (mo_w ad ck 0 (nI x16) (nI x18) (nI x19) x20 (nI x21) (nI x22) x23 x24 x25 (nI x26) x27 (nI x28) (nI x29) (nI x30) (nI x33) x45 (nI x46) (nI x52) (nI x53) (nI x61) (nI x62) (nI x63) (nI x65) x66 f1 f2 f3 (bN 3 q4) (bN 7 q5) (bN 7 q6) (bN 4 q7) f8 (bN 2 q9) (bH q10) f11 (b2 m12_0 m12_1) (b2 m13_0 m13_1) (b2 m14_0 m14_1) (b2m m15_0 m15_1) f17 (bA 159 q31) f32 f34 f35 f36 f37 (bN 7 q38) f39 f40 f41 (b2 m42_0 m42_1) f43 f44 f47 f48 f49 f50 f51 (bN 13 q54) (bN 120 q55) (bN 120 q56) f57 (bN 120 q58) f59 f60 f64) := hD
  refine lv_aload_n hx hb dX9_edge_5 rfl (lv_at hl 0 rfl) ?_
  refine lv_iload_n hx hb dX9_edge_6 rfl (lv_at hl 1 rfl) ?_
  refine va_calli (va_runV (As := [.int p0]) (rest := []) ⟨hx, hb, hml, hown, hts⟩ (c_M_isEdge l dC dI _ ad ck 0 x16 x18 x19 x20 x21 x22 x23 x24 x25 x26 x27 x28 x29 x30 x33 x45 x46 x52 x53 x61 x62 x63 x65 x66 f1 f2 f3 q4 q5 q6 q7 f8 q9 q10 f11 m12_0 m12_1 m13_0 m13_1 m14_0 m14_1 m15_0 m15_1 f17 q31 f32 f34 f35 f36 f37 q38 f39 f40 f41 m42_0 m42_1 f43 f44 f47 f48 f49 f50 f51 q54 q55 q56 f57 q58 f59 f60 f64 p0 hx16 hx18 hx19 hx21 hx22 hx26 hx28 hx29 hx30 hx33 hx46 hx52 hx53 hx61 hx62 hx63 hx65 hm12_0 hm12_1 hm13_0 hm13_1 hm14_0 hm14_1 hm15_0 hm15_1 hm42_0 hm42_1) (cwV 1 hts g_M_edge_M_isEdge rfl rfl rfl (by decide +kernel) ⟨Nat.le_of_ble_eq_true rfl, Nat.le_of_ble_eq_true rfl⟩) ⟨pu_bl, va_recv hK hP (ci := 9) (q0 := 0) rfl rfl, pu_in hP hK hD⟩ rfl rfl hl.1 rfl (lv_room (Nat.le_of_ble_eq_true rfl)) dX9_edge_7 ⟨Nat.le_of_ble_eq_true rfl, Nat.le_of_ble_eq_true rfl⟩) hS (fun q _ h => pu_fr hS hA q h) (pu_fr hS hA) (fun r_1 u t H1 locs ht hvm hw hB hz1 hk1 hS => ?_)
  have hP := pu_keep hP hk1
  clear hk1 hz1 ht hvm
  generalize H1 = H at hP hS ⊢
  rcases hw with ⟨rfl, hw⟩ | rfl
  · obtain ⟨n_2, hn_2, rfl⟩ := hw
    refine lv_if_eq (tgt := 22) hx hb dX9_edge_10 (by decide) (fun z => absurd z (by decide)) (fun _ => ?_)
    refine lv_iload_n hx hb dX9_edge_13 rfl (lv_at hl 2 rfl) ?_
    refine lv_iconst (v := 0) hx hb dX9_edge_14 (by decide) ?_
    refine lv_iconst (v := 3) hx hb dX9_edge_15 (by decide) ?_
    refine va_calli (va_runS (As := [.int p1, .int 0, .int 3]) (rest := []) ⟨hx, hb, hml, hown, hts⟩ (c_X9_in l dC dI _ p1 0 3) (va_cwS 3 hts g_M_edge_X9_in rfl rfl rfl (by decide +kernel) ⟨Nat.le_of_ble_eq_true rfl, Nat.le_of_ble_eq_true rfl⟩) ⟨pu_bl, pu_in (hP.sub [] rfl) (hK.sub [] rfl) (hD.sub [] (by decide) rfl)⟩ rfl rfl hl.1 rfl (lv_room (Nat.le_of_ble_eq_true rfl)) dX9_edge_16 ⟨Nat.le_of_ble_eq_true rfl, Nat.le_of_ble_eq_true rfl⟩) hS (fun q _ h => pu_fr hS hA q h) (pu_fr hS hA) (fun r_3 u t H1 locs ht hvm hw hB hz1 hk1 hS => ?_)
    have hP := pu_keep hP hk1
    clear hk1 hz1 ht hvm
    generalize H1 = H at hP hS ⊢
    rcases hw with ⟨rfl, hi1, hi2⟩ | ⟨rfl, hi3⟩
    · obtain ⟨n_4, hn_4, rfl⟩ := pu_in0 (n := 3) (by omega) hi1 hi2
      refine lv_if_ne (tgt := 24) hx hb dX9_edge_19 (by decide) (fun _ => ?_) (fun z => absurd z (by decide))
      refine lv_iload_n hx hb dX9_edge_24 rfl (lv_at hl 2 rfl) ?_
      refine lv_if_ne (tgt := 36) hx hb dX9_edge_25 (by decide) (fun c_5 => ?_) (fun c_5 => ?_)
      · have c_5 : ¬ n_4 = 0 := fun z => c_5 ((nI_eq (a := n_4) (b := 0) (by omega) (Nat.le_of_ble_eq_true rfl)).mpr z)
        refine lv_iload_n hx hb dX9_edge_36 rfl (lv_at hl 2 rfl) ?_
        refine lv_iconst (v := 1) hx hb dX9_edge_37 (by decide) ?_
        refine lv_icmp_ne (tgt := 49) hx hb dX9_edge_38 (by decide) (fun c_6 => ?_) (fun c_6 => ?_)
        · have c_6 : ¬ n_4 = 1 := fun z => c_6 ((nI_eq (a := n_4) (b := 1) (by omega) (Nat.le_of_ble_eq_true rfl)).mpr z)
          refine lv_iload_n hx hb dX9_edge_49 rfl (lv_at hl 2 rfl) ?_
          refine lv_iconst (v := 2) hx hb dX9_edge_50 (by decide) ?_
          refine lv_icmp_ne (tgt := 62) hx hb dX9_edge_51 (by decide) (fun c_7 => ?_) (fun c_7 => ?_)
          · have c_7 : ¬ n_4 = 2 := fun z => c_7 ((nI_eq (a := n_4) (b := 2) (by omega) (Nat.le_of_ble_eq_true rfl)).mpr z)
            refine lv_aload_n hx hb dX9_edge_62 rfl (lv_at hl 0 rfl) ?_
            refine lv_iload_n hx hb dX9_edge_63 rfl (lv_at hl 1 rfl) ?_
            refine va_calli (va_runV (As := [.int (nI n_2)]) (rest := []) ⟨hx, hb, hml, hown, hts⟩ (c_M_setBy l dC dI _ ad ck 0 x16 x18 x19 x20 x21 x22 x23 x24 x25 x26 x27 x28 x29 x30 x33 x45 x46 x52 x53 x61 x62 x63 x65 x66 f1 f2 f3 q4 q5 q6 q7 f8 q9 q10 f11 m12_0 m12_1 m13_0 m13_1 m14_0 m14_1 m15_0 m15_1 f17 q31 f32 f34 f35 f36 f37 q38 f39 f40 f41 m42_0 m42_1 f43 f44 f47 f48 f49 f50 f51 q54 q55 q56 f57 q58 f59 f60 f64 n_2 hx16 hx18 hx19 hx21 hx22 hx26 hx28 hx29 hx30 hx33 hx46 hx52 hx53 hx61 hx62 hx63 hx65 hm12_0 hm12_1 hm13_0 hm13_1 hm14_0 hm14_1 hm15_0 hm15_1 hm42_0 hm42_1 (by omega)) (cwV 1 hts g_M_edge_M_setBy rfl rfl rfl (by decide +kernel) ⟨Nat.le_of_ble_eq_true rfl, Nat.le_of_ble_eq_true rfl⟩) ⟨pu_bl, va_recv hK hP (ci := 9) (q0 := 0) rfl rfl, pu_in hP hK hD⟩ rfl rfl hl.1 rfl (lv_room (Nat.le_of_ble_eq_true rfl)) dX9_edge_64 ⟨Nat.le_of_ble_eq_true rfl, Nat.le_of_ble_eq_true rfl⟩) hS (fun q _ h => pu_fr hS hA q h) (pu_fr hS hA) (fun r_8 u t H1 locs ht hvm hw hB hz1 hk1 hS => ?_)
            have hP := pu_keep hP hk1
            clear hk1 hz1 ht hvm
            generalize H1 = H at hP hS ⊢
            exact W.iret (v := r_8) hx hb hr (fun t ht hW => ⟨⟨r_8, (), rfl, trivial, ⟨0, ⟨by rw [ht]; exact hP, va_K.moved hW.alike hK, hD⟩⟩⟩, hS.F ht⟩) hS.2.2 dX9_edge_67
          · have c_7 : n_4 = 2 := (nI_eq (a := n_4) (b := 2) (by omega) (Nat.le_of_ble_eq_true rfl)).mp c_7
            refine lv_aload_n hx hb dX9_edge_54 rfl (lv_at hl 0 rfl) ?_
            refine lv_iload_n hx hb dX9_edge_55 rfl (lv_at hl 1 rfl) ?_
            refine va_calli (va_runV (As := [.int (nI n_2)]) (rest := []) ⟨hx, hb, hml, hown, hts⟩ (c_M_manyOf_e l dC dI _ ad ck 0 x16 x18 x19 x20 x21 x22 x23 x24 x25 x26 x27 x28 x29 x30 x33 x45 x46 x52 x53 x61 x62 x63 x65 x66 f1 f2 f3 q4 q5 q6 q7 f8 q9 q10 f11 m12_0 m12_1 m13_0 m13_1 m14_0 m14_1 m15_0 m15_1 f17 q31 f32 f34 f35 f36 f37 q38 f39 f40 f41 m42_0 m42_1 f43 f44 f47 f48 f49 f50 f51 q54 q55 q56 f57 q58 f59 f60 f64 n_2 hx16 hx18 hx19 hx21 hx22 hx26 hx28 hx29 hx30 hx33 hx46 hx52 hx53 hx61 hx62 hx63 hx65 hm12_0 hm12_1 hm13_0 hm13_1 hm14_0 hm14_1 hm15_0 hm15_1 hm42_0 hm42_1 (by omega)) (cwV 1 hts g_M_edge_M_manyOf_e rfl rfl rfl (by decide +kernel) ⟨Nat.le_of_ble_eq_true rfl, Nat.le_of_ble_eq_true rfl⟩) ⟨pu_bl, va_recv hK hP (ci := 9) (q0 := 0) rfl rfl, pu_in hP hK hD⟩ rfl rfl hl.1 rfl (lv_room (Nat.le_of_ble_eq_true rfl)) dX9_edge_56 ⟨Nat.le_of_ble_eq_true rfl, Nat.le_of_ble_eq_true rfl⟩) hS (fun q _ h => pu_fr hS hA q h) (pu_fr hS hA) (fun r_9 u t H1 locs ht hvm hw hB hz1 hk1 hS => ?_)
            have hP := pu_keep hP hk1
            clear hk1 hz1 ht hvm
            generalize H1 = H at hP hS ⊢
            rcases hw with rfl | ⟨u_10, hu_10, rfl⟩
            · refine lv_goto (tgt := 67) hx hb dX9_edge_59 (by decide) ?_
              exact W.iret (v := (-1)) hx hb hr (fun t ht hW => ⟨⟨(-1), (), rfl, trivial, ⟨0, ⟨by rw [ht]; exact hP, va_K.moved hW.alike hK, hD⟩⟩⟩, hS.F ht⟩) hS.2.2 dX9_edge_67
            · refine lv_goto (tgt := 67) hx hb dX9_edge_59 (by decide) ?_
              exact W.iret (v := (nI u_10)) hx hb hr (fun t ht hW => ⟨⟨(nI u_10), (), rfl, trivial, ⟨0, ⟨by rw [ht]; exact hP, va_K.moved hW.alike hK, hD⟩⟩⟩, hS.F ht⟩) hS.2.2 dX9_edge_67
        · have c_6 : n_4 = 1 := (nI_eq (a := n_4) (b := 1) (by omega) (Nat.le_of_ble_eq_true rfl)).mp c_6
          refine lv_aload_n hx hb dX9_edge_41 rfl (lv_at hl 0 rfl) ?_
          refine lv_iload_n hx hb dX9_edge_42 rfl (lv_at hl 1 rfl) ?_
          refine va_calli (va_runV (As := [.int (nI n_2)]) (rest := []) ⟨hx, hb, hml, hown, hts⟩ (c_M_into l dC dI _ ad ck 0 x16 x18 x19 x20 x21 x22 x23 x24 x25 x26 x27 x28 x29 x30 x33 x45 x46 x52 x53 x61 x62 x63 x65 x66 f1 f2 f3 q4 q5 q6 q7 f8 q9 q10 f11 m12_0 m12_1 m13_0 m13_1 m14_0 m14_1 m15_0 m15_1 f17 q31 f32 f34 f35 f36 f37 q38 f39 f40 f41 m42_0 m42_1 f43 f44 f47 f48 f49 f50 f51 q54 q55 q56 f57 q58 f59 f60 f64 n_2 hx16 hx18 hx19 hx21 hx22 hx26 hx28 hx29 hx30 hx33 hx46 hx52 hx53 hx61 hx62 hx63 hx65 hm12_0 hm12_1 hm13_0 hm13_1 hm14_0 hm14_1 hm15_0 hm15_1 hm42_0 hm42_1 (by omega)) (cwV 1 hts g_M_edge_M_into rfl rfl rfl (by decide +kernel) ⟨Nat.le_of_ble_eq_true rfl, Nat.le_of_ble_eq_true rfl⟩) ⟨pu_bl, va_recv hK hP (ci := 9) (q0 := 0) rfl rfl, pu_in hP hK hD⟩ rfl rfl hl.1 rfl (lv_room (Nat.le_of_ble_eq_true rfl)) dX9_edge_43 ⟨Nat.le_of_ble_eq_true rfl, Nat.le_of_ble_eq_true rfl⟩) hS (fun q _ h => pu_fr hS hA q h) (pu_fr hS hA) (fun r_11 u t H1 locs ht hvm hw hB hz1 hk1 hS => ?_)
          have hP := pu_keep hP hk1
          clear hk1 hz1 ht hvm
          generalize H1 = H at hP hS ⊢
          obtain ⟨u_12, hu_12, rfl⟩ := hw
          refine lv_goto (tgt := 67) hx hb dX9_edge_46 (by decide) ?_
          exact W.iret (v := (nI u_12)) hx hb hr (fun t ht hW => ⟨⟨(nI u_12), (), rfl, trivial, ⟨0, ⟨by rw [ht]; exact hP, va_K.moved hW.alike hK, hD⟩⟩⟩, hS.F ht⟩) hS.2.2 dX9_edge_67
      · have c_5 : n_4 = 0 := (nI_eq (a := n_4) (b := 0) (by omega) (Nat.le_of_ble_eq_true rfl)).mp c_5
        refine lv_aload_n hx hb dX9_edge_28 rfl (lv_at hl 0 rfl) ?_
        refine lv_iload_n hx hb dX9_edge_29 rfl (lv_at hl 1 rfl) ?_
        refine va_calli (va_runV (As := [.int (nI n_2)]) (rest := []) ⟨hx, hb, hml, hown, hts⟩ (c_M_outOf l dC dI _ ad ck 0 x16 x18 x19 x20 x21 x22 x23 x24 x25 x26 x27 x28 x29 x30 x33 x45 x46 x52 x53 x61 x62 x63 x65 x66 f1 f2 f3 q4 q5 q6 q7 f8 q9 q10 f11 m12_0 m12_1 m13_0 m13_1 m14_0 m14_1 m15_0 m15_1 f17 q31 f32 f34 f35 f36 f37 q38 f39 f40 f41 m42_0 m42_1 f43 f44 f47 f48 f49 f50 f51 q54 q55 q56 f57 q58 f59 f60 f64 n_2 hx16 hx18 hx19 hx21 hx22 hx26 hx28 hx29 hx30 hx33 hx46 hx52 hx53 hx61 hx62 hx63 hx65 hm12_0 hm12_1 hm13_0 hm13_1 hm14_0 hm14_1 hm15_0 hm15_1 hm42_0 hm42_1 (by omega)) (cwV 1 hts g_M_edge_M_outOf rfl rfl rfl (by decide +kernel) ⟨Nat.le_of_ble_eq_true rfl, Nat.le_of_ble_eq_true rfl⟩) ⟨pu_bl, va_recv hK hP (ci := 9) (q0 := 0) rfl rfl, pu_in hP hK hD⟩ rfl rfl hl.1 rfl (lv_room (Nat.le_of_ble_eq_true rfl)) dX9_edge_30 ⟨Nat.le_of_ble_eq_true rfl, Nat.le_of_ble_eq_true rfl⟩) hS (fun q _ h => pu_fr hS hA q h) (pu_fr hS hA) (fun r_13 u t H1 locs ht hvm hw hB hz1 hk1 hS => ?_)
        have hP := pu_keep hP hk1
        clear hk1 hz1 ht hvm
        generalize H1 = H at hP hS ⊢
        obtain ⟨u_14, hu_14, rfl⟩ := hw
        refine lv_goto (tgt := 67) hx hb dX9_edge_33 (by decide) ?_
        exact W.iret (v := (nI u_14)) hx hb hr (fun t ht hW => ⟨⟨(nI u_14), (), rfl, trivial, ⟨0, ⟨by rw [ht]; exact hP, va_K.moved hW.alike hK, hD⟩⟩⟩, hS.F ht⟩) hS.2.2 dX9_edge_67
    · refine lv_if_ne (tgt := 24) hx hb dX9_edge_19 (by decide) (fun z => absurd z (by decide)) (fun _ => ?_)
      refine lv_iconst (v := (-1)) hx hb dX9_edge_22 (by decide) ?_
      exact W.iret (v := (-1)) hx hb hr (fun t ht hW => ⟨⟨(-1), (), rfl, trivial, ⟨0, ⟨by rw [ht]; exact hP, va_K.moved hW.alike hK, hD⟩⟩⟩, hS.F ht⟩) hS.2.2 dX9_edge_23
  · refine lv_if_eq (tgt := 22) hx hb dX9_edge_10 (by decide) (fun _ => ?_) (fun z => absurd z (by decide))
    refine lv_iconst (v := (-1)) hx hb dX9_edge_22 (by decide) ?_
    exact W.iret (v := (-1)) hx hb hr (fun t ht hW => ⟨⟨(-1), (), rfl, trivial, ⟨0, ⟨by rw [ht]; exact hP, va_K.moved hW.alike hK, hD⟩⟩⟩, hS.F ht⟩) hS.2.2 dX9_edge_23
theorem dX9_most_0 : decode cX9_most 0 = .ok (.iconst 0, 1) := by decide +kernel
theorem dX9_most_1 : decode cX9_most 1 = .ok (.istore_n 3, 1) := by decide +kernel
theorem dX9_most_2 : decode cX9_most 2 = .ok (.iconst 0, 1) := by decide +kernel
theorem dX9_most_3 : decode cX9_most 3 = .ok (.istore 4, 2) := by decide +kernel
theorem dX9_most_5 : decode cX9_most 5 = .ok (.iload 4, 2) := by decide +kernel
theorem dX9_most_7 : decode cX9_most 7 = .ok (.bipush 100, 2) := by decide +kernel
theorem dX9_most_9 : decode cX9_most 9 = .ok (.aload_n 0, 1) := by decide +kernel
theorem dX9_most_10 : decode cX9_most 10 = .ok (.getfield 46, 3) := by decide +kernel
theorem dX9_most_13 : decode cX9_most 13 = .ok (.aload_n 0, 1) := by decide +kernel
theorem dX9_most_14 : decode cX9_most 14 = .ok (.getfield 258, 3) := by decide +kernel
theorem dX9_most_17 : decode cX9_most 17 = .ok (.iaload, 1) := by decide +kernel
theorem dX9_most_18 : decode cX9_most 18 = .ok (.iadd, 1) := by decide +kernel
theorem dX9_most_19 : decode cX9_most 19 = .ok (.if_icmp .ge 123, 3) := by decide +kernel
theorem dX9_most_22 : decode cX9_most 22 = .ok (.iconst 0, 1) := by decide +kernel
theorem dX9_most_23 : decode cX9_most 23 = .ok (.istore 5, 2) := by decide +kernel
theorem dX9_most_25 : decode cX9_most 25 = .ok (.iload 5, 2) := by decide +kernel
theorem dX9_most_27 : decode cX9_most 27 = .ok (.aload_n 0, 1) := by decide +kernel
theorem dX9_most_28 : decode cX9_most 28 = .ok (.iload 4, 2) := by decide +kernel
theorem dX9_most_30 : decode cX9_most 30 = .ok (.invokevirtual 295, 3) := by decide +kernel
theorem dX9_most_33 : decode cX9_most 33 = .ok (.if_icmp .ge 103, 3) := by decide +kernel
theorem dX9_most_36 : decode cX9_most 36 = .ok (.aload_n 0, 1) := by decide +kernel
theorem dX9_most_37 : decode cX9_most 37 = .ok (.iload 4, 2) := by decide +kernel
theorem dX9_most_39 : decode cX9_most 39 = .ok (.iload 5, 2) := by decide +kernel
theorem dX9_most_41 : decode cX9_most 41 = .ok (.invokevirtual 311, 3) := by decide +kernel
theorem dX9_most_44 : decode cX9_most 44 = .ok (.istore 6, 2) := by decide +kernel
theorem dX9_most_46 : decode cX9_most 46 = .ok (.iload_n 2, 1) := by decide +kernel
theorem dX9_most_47 : decode cX9_most 47 = .ok (.ifCond .eq 44, 3) := by decide +kernel
theorem dX9_most_50 : decode cX9_most 50 = .ok (.aload_n 0, 1) := by decide +kernel
theorem dX9_most_51 : decode cX9_most 51 = .ok (.getfield 37, 3) := by decide +kernel
theorem dX9_most_54 : decode cX9_most 54 = .ok (.iload 6, 2) := by decide +kernel
theorem dX9_most_56 : decode cX9_most 56 = .ok (.iaload, 1) := by decide +kernel
theorem dX9_most_57 : decode cX9_most 57 = .ok (.iconst 2, 1) := by decide +kernel
theorem dX9_most_58 : decode cX9_most 58 = .ok (.if_icmp .eq 33, 3) := by decide +kernel
theorem dX9_most_61 : decode cX9_most 61 = .ok (.iload_n 2, 1) := by decide +kernel
theorem dX9_most_62 : decode cX9_most 62 = .ok (.iconst 1, 1) := by decide +kernel
theorem dX9_most_63 : decode cX9_most 63 = .ok (.if_icmp .ne 17, 3) := by decide +kernel
theorem dX9_most_66 : decode cX9_most 66 = .ok (.aload_n 0, 1) := by decide +kernel
theorem dX9_most_67 : decode cX9_most 67 = .ok (.getfield 37, 3) := by decide +kernel
theorem dX9_most_70 : decode cX9_most 70 = .ok (.iload 6, 2) := by decide +kernel
theorem dX9_most_72 : decode cX9_most 72 = .ok (.iaload, 1) := by decide +kernel
theorem dX9_most_73 : decode cX9_most 73 = .ok (.iconst 2, 1) := by decide +kernel
theorem dX9_most_74 : decode cX9_most 74 = .ok (.if_icmp .le 21, 3) := by decide +kernel
theorem dX9_most_77 : decode cX9_most 77 = .ok (.goto 14, 3) := by decide +kernel
theorem dX9_most_80 : decode cX9_most 80 = .ok (.aload_n 0, 1) := by decide +kernel
theorem dX9_most_81 : decode cX9_most 81 = .ok (.getfield 37, 3) := by decide +kernel
theorem dX9_most_84 : decode cX9_most 84 = .ok (.iload 6, 2) := by decide +kernel
theorem dX9_most_86 : decode cX9_most 86 = .ok (.iaload, 1) := by decide +kernel
theorem dX9_most_87 : decode cX9_most 87 = .ok (.iconst 2, 1) := by decide +kernel
theorem dX9_most_88 : decode cX9_most 88 = .ok (.if_icmp .ge 7, 3) := by decide +kernel
theorem dX9_most_91 : decode cX9_most 91 = .ok (.iconst 1, 1) := by decide +kernel
theorem dX9_most_92 : decode cX9_most 92 = .ok (.goto 4, 3) := by decide +kernel
theorem dX9_most_95 : decode cX9_most 95 = .ok (.iconst 0, 1) := by decide +kernel
theorem dX9_most_96 : decode cX9_most 96 = .ok (.istore 7, 2) := by decide +kernel
theorem dX9_most_98 : decode cX9_most 98 = .ok (.aload_n 0, 1) := by decide +kernel
theorem dX9_most_99 : decode cX9_most 99 = .ok (.getfield 34, 3) := by decide +kernel
theorem dX9_most_102 : decode cX9_most 102 = .ok (.iload 6, 2) := by decide +kernel
theorem dX9_most_104 : decode cX9_most 104 = .ok (.iaload, 1) := by decide +kernel
theorem dX9_most_105 : decode cX9_most 105 = .ok (.iload_n 1, 1) := by decide +kernel
theorem dX9_most_106 : decode cX9_most 106 = .ok (.if_icmp .ne 22, 3) := by decide +kernel
theorem dX9_most_109 : decode cX9_most 109 = .ok (.iload 7, 2) := by decide +kernel
theorem dX9_most_111 : decode cX9_most 111 = .ok (.ifCond .eq 17, 3) := by decide +kernel
theorem dX9_most_114 : decode cX9_most 114 = .ok (.iload_n 3, 1) := by decide +kernel
theorem dX9_most_115 : decode cX9_most 115 = .ok (.aload_n 0, 1) := by decide +kernel
theorem dX9_most_116 : decode cX9_most 116 = .ok (.getfield 40, 3) := by decide +kernel
theorem dX9_most_119 : decode cX9_most 119 = .ok (.iload 6, 2) := by decide +kernel
theorem dX9_most_121 : decode cX9_most 121 = .ok (.iaload, 1) := by decide +kernel
theorem dX9_most_122 : decode cX9_most 122 = .ok (.invokestatic 229, 3) := by decide +kernel
theorem dX9_most_125 : decode cX9_most 125 = .ok (.goto 4, 3) := by decide +kernel
theorem dX9_most_128 : decode cX9_most 128 = .ok (.iload_n 3, 1) := by decide +kernel
theorem dX9_most_129 : decode cX9_most 129 = .ok (.istore_n 3, 1) := by decide +kernel
theorem dX9_most_130 : decode cX9_most 130 = .ok (.iinc 5 1, 3) := by decide +kernel
theorem dX9_most_133 : decode cX9_most 133 = .ok (.goto (-108), 3) := by decide +kernel
theorem dX9_most_136 : decode cX9_most 136 = .ok (.iinc 4 1, 3) := by decide +kernel
theorem dX9_most_139 : decode cX9_most 139 = .ok (.goto (-134), 3) := by decide +kernel
theorem dX9_most_142 : decode cX9_most 142 = .ok (.iload_n 3, 1) := by decide +kernel
theorem dX9_most_143 : decode cX9_most 143 = .ok (.ireturn, 1) := by decide +kernel
abbrev vs_M_most : List Cond := .code yX9_most cX9_most 8 (some .int) :: VM
theorem g_M_most_X9_greater : GoodIn vs_M_most (va_wsS RX9 229 yX9_greater vs_X9_greater) := gm_0 (fun w h => by
  rcases List.mem_cons.mp h with rfl | h
  · exact vm_104
  rcases List.mem_cons.mp h with rfl | h
  · exact vm_105
  rcases List.mem_cons.mp h with rfl | h
  · exact vm_12
  rcases List.mem_cons.mp h with rfl | h
  · exact vm_4
  exact absurd h (List.not_mem_nil))
theorem g_M_most_M_manyOf_n : GoodIn vs_M_most (wsV RX9 295 RX9 yX9_manyOf vs_M_manyOf_n) := gm_V vm_166 vm_167 vm_168 vm_12 vm_157
theorem g_M_most_M_spot_e : GoodIn vs_M_most (wsV RX9 311 RX9 yX9_spot vs_M_spot_e) := gm_V vm_173 vm_174 vm_175 vm_12 vm_164
theorem g_M_most_M_spot_p : GoodIn vs_M_most (wsV RX9 311 RX9 yX9_spot vs_M_spot_p) := gm_V vm_173 vm_174 vm_175 vm_12 vm_164
set_option maxHeartbeats 4000000 in
set_option maxRecDepth 100000 in
theorem c_M_most (l : Launch) (dC : Nat → ClassId) (dI : Nat → Nat → Nat) (sz : Nat) (ad : Nat → Nat) (ck : Nat → ClassId) (x0 : Int32) (x16 : Nat) (x18 : Nat) (x19 : Nat) (x20 : Int32) (x21 : Nat) (x22 : Nat) (x23 : Int32) (x24 : Int32) (x25 : Int32) (x26 : Nat) (x27 : Int32) (x28 : Nat) (x29 : Nat) (x30 : Nat) (x33 : Nat) (x45 : Int32) (x46 : Nat) (x52 : Nat) (x53 : Nat) (x61 : Nat) (x62 : Nat) (x63 : Nat) (x65 : Nat) (x66 : Int32) (f1 : Nat → Int32) (f2 : Nat → Int32) (f3 : Nat → Int32) (q4 : Nat → Nat) (q5 : Nat → Nat) (q6 : Nat → Nat) (q7 : Nat → Nat) (f8 : Nat → Int32) (q9 : Nat → Nat) (q10 : Nat → Nat) (f11 : Nat → Int32) (m12_0 m12_1 : Nat) (m13_0 m13_1 : Nat) (m14_0 m14_1 : Nat) (m15_0 m15_1 : Nat) (f17 : Nat → Int32) (q31 : Nat → Nat) (f32 : Nat → Int32) (f34 : Nat → Int32) (f35 : Nat → Int32) (f36 : Nat → Int32) (f37 : Nat → Int32) (q38 : Nat → Nat) (f39 : Nat → Int32) (f40 : Nat → Int32) (f41 : Nat → Int32) (m42_0 m42_1 : Nat) (f43 : Nat → Int32) (f44 : Nat → Int32) (f47 : Nat → Int32) (f48 : Nat → Int32) (f49 : Nat → Int32) (f50 : Nat → Int32) (f51 : Nat → Int32) (q54 : Nat → Nat) (q55 : Nat → Nat) (q56 : Nat → Nat) (f57 : Nat → Int32) (q58 : Nat → Nat) (f59 : Nat → Int32) (f60 : Nat → Int32) (f64 : Nat → Int32) (p0 : Int32) (p1 : Int32) (hx16 : x16 ≤ 1) (hx18 : x18 ≤ 900) (hx19 : x19 ≤ 900) (hx21 : x21 ≤ 900) (hx22 : x22 ≤ 4) (hx26 : x26 ≤ 6) (hx28 : x28 ≤ 1) (hx29 : x29 ≤ 1) (hx30 : x30 ≤ 1) (hx33 : x33 ≤ 20) (hx46 : x46 ≤ 5) (hx52 : x52 ≤ 2400) (hx53 : x53 ≤ 119) (hx61 : x61 ≤ 119) (hx62 : x62 ≤ 2000) (hx63 : x63 ≤ 1) (hx65 : x65 ≤ 7) (hm12_0 : m12_0 ≤ 3) (hm12_1 : m12_1 ≤ 3) (hm13_0 : m13_0 ≤ 8) (hm13_1 : m13_1 ≤ 8) (hm14_0 : m14_0 ≤ 14) (hm14_1 : m14_1 ≤ 14) (hm15_0 : m15_0 ≤ 8) (hm15_1 : m15_1 ≤ 8) (hm42_0 : m42_0 ≤ 120) (hm42_1 : m42_1 ≤ 400) : Met l yX9_most vs_M_most ({ frames := 3, cells := 0, slots := 0, locals := 64 }) (va_Pc [.ref (ad 0), .int p0, .int p1] (pu_B (dC, dI) (mo_w ad ck x0 (nI x16) (nI x18) (nI x19) x20 (nI x21) (nI x22) x23 x24 x25 (nI x26) x27 (nI x28) (nI x29) (nI x30) (nI x33) x45 (nI x46) (nI x52) (nI x53) (nI x61) (nI x62) (nI x63) (nI x65) x66 f1 f2 f3 (bN 3 q4) (bN 7 q5) (bN 7 q6) (bN 4 q7) f8 (bN 2 q9) (bH q10) f11 (b2 m12_0 m12_1) (b2 m13_0 m13_1) (b2 m14_0 m14_1) (b2m m15_0 m15_1) f17 (bA 159 q31) f32 f34 f35 f36 f37 (bN 7 q38) f39 f40 f41 (b2 m42_0 m42_1) f43 f44 f47 f48 f49 f50 f51 (bN 13 q54) (bN 120 q55) (bN 120 q56) f57 (bN 120 q58) f59 f60 f64) (mo_t ck) sz)) (va_Qi (fun (r : Int32) (_ : Unit) => True) (fun _ _ => True) (va_A [] sz)) 0 0 (va_A [] sz) := by
  refine Met.ofW (cc := cX9_most) (maxL := 8) (ret := (some .int)) (by decide) rfl ?_
  intro p e s m args below meth c s₁ B hml hv
  obtain ⟨rfl, rfl, hP, hK, hD0⟩ := hv
  have hx := B.exec
  have hb := B.bytes
  have hr := B.returns
  have hts := atoms_spec (ws := vs_M_most) B.pre
  have v_1 := hts (.fieldLink RX9 46 "ClockReachModel" "placeMany" "[I") (List.mem_cons_of_mem _ vm_85)
  have v_2 := hts (.fieldLink RX9 258 "ClockReachModel" "bank" "I") (List.mem_cons_of_mem _ vm_22)
  have v_12 := hts (.fieldLink RX9 37 "ClockReachModel" "how" "[I") (List.mem_cons_of_mem _ vm_115)
  have v_13 := hts (.fieldLink RX9 34 "ClockReachModel" "ofClock" "[I") (List.mem_cons_of_mem _ vm_108)
  have v_14 := hts (.fieldLink RX9 40 "ClockReachModel" "limit" "[I") (List.mem_cons_of_mem _ vm_116)
  have hown : s.vm.findClass RX9 = some m.cls := findClass_of_methodNamed B.named
  have hlocks := B.notSynchronized
  have hiX9 : ∀ w ∈ wsX90, w ∈ vs_M_most := fun _ h => List.mem_cons_of_mem _ (List.mem_append_right _ h)
  have hD := hD0
  have hA : ∀ q : Nat, s.heap.size ≤ q → va_A [] s.heap.size q := fun _ h => Or.inr h
  have hS : va_S (va_A [] s.heap.size) s.heap s.heap [] := va_S.rf
  have hl := lv_entry ([.ref (ad 0), .int p0, .int p1]) (n := 8) (Nat.le_of_ble_eq_true rfl)
  rw [lg_entry_eq]
  generalize (lg_sl ([.ref (ad 0), .int p0, .int p1]) ++ List.replicate (8 - (lg_sl ([.ref (ad 0), .int p0, .int p1])).length) Slot.unset).toArray = ls at hl ⊢
  have hl : lv_has ls 8 [(0, .ref (ad 0)), (1, .int p0), (2, .int p1)] := hl
  refine lv_iconst (v := 0) hx hb dX9_most_0 (by decide) ?_
  refine lv_istore_n (lv' := [(3, .int 0), (0, .ref (ad 0)), (1, .int p0), (2, .int p1)]) hx hb dX9_most_1 rfl hl (by decide) rfl (fun ls hl => ?_)
  refine lv_iconst (v := 0) hx hb dX9_most_2 (by decide) ?_
  refine lv_istore (lv' := [(4, .int 0), (3, .int 0), (0, .ref (ad 0)), (1, .int p0), (2, .int p1)]) hx hb dX9_most_3 hl (by decide) rfl (fun ls hl => ?_)
  refine pu_while (fun nn H locs ls => ∃ (g_3 : Int32) (g_4 : Nat), nn = 108 - g_4 ∧ g_4 ≤ 108 ∧ va_P (dC, dI) vwCl (mo_w ad ck x0 (nI x16) (nI x18) (nI x19) x20 (nI x21) (nI x22) x23 x24 x25 (nI x26) x27 (nI x28) (nI x29) (nI x30) (nI x33) x45 (nI x46) (nI x52) (nI x53) (nI x61) (nI x62) (nI x63) (nI x65) x66 f1 f2 f3 (bN 3 q4) (bN 7 q5) (bN 7 q6) (bN 4 q7) f8 (bN 2 q9) (bH q10) f11 (b2 m12_0 m12_1) (b2 m13_0 m13_1) (b2 m14_0 m14_1) (b2m m15_0 m15_1) f17 (bA 159 q31) f32 f34 f35 f36 f37 (bN 7 q38) f39 f40 f41 (b2 m42_0 m42_1) f43 f44 f47 f48 f49 f50 f51 (bN 13 q54) (bN 120 q55) (bN 120 q56) f57 (bN 120 q58) f59 f60 f64) H ∧ va_D (fun _ => True) (mo_w ad ck x0 (nI x16) (nI x18) (nI x19) x20 (nI x21) (nI x22) x23 x24 x25 (nI x26) x27 (nI x28) (nI x29) (nI x30) (nI x33) x45 (nI x46) (nI x52) (nI x53) (nI x61) (nI x62) (nI x63) (nI x65) x66 f1 f2 f3 (bN 3 q4) (bN 7 q5) (bN 7 q6) (bN 4 q7) f8 (bN 2 q9) (bH q10) f11 (b2 m12_0 m12_1) (b2 m13_0 m13_1) (b2 m14_0 m14_1) (b2m m15_0 m15_1) f17 (bA 159 q31) f32 f34 f35 f36 f37 (bN 7 q38) f39 f40 f41 (b2 m42_0 m42_1) f43 f44 f47 f48 f49 f50 f51 (bN 13 q54) (bN 120 q55) (bN 120 q56) f57 (bN 120 q58) f59 f60 f64) ∧ va_S (va_A [] s.heap.size) s.heap H locs ∧ lv_has ls 8 [(0, .ref (ad 0)), (1, .int p0), (2, .int p1), (3, .int g_3), (4, .int (nI g_4))]) 5 ?_ _ _ _ _ ⟨0, 0, rfl, (Nat.le_of_ble_eq_true rfl), hP, hD, hS, lv_sub hl [2, 3, 4, 1, 0] rfl⟩
  rintro nn ih_5 H locs ls ⟨g_3, g_4, rfl, hg_4, hP, hD, hS, hl⟩
  refine lv_iload hx hb dX9_most_5 (lv_at hl 4 rfl) ?_
  refine lv_bipush (v := 100) hx hb dX9_most_7 (by decide) ?_
  refine lv_aload_n hx hb dX9_most_9 rfl (lv_at hl 0 rfl) ?_
  refine va_get (D := (dC, dI)) (ci := 9) (v := .ref (ad 13)) (C := RX9) (T := TX9) (N := 67) hx hb hts hiX9 hown hK hP 0 rfl rfl 13 (by decide) v_1 (fun _ h9 => h9) rfl dX9_most_10 ?_
  refine lv_aload_n hx hb dX9_most_13 rfl (lv_at hl 0 rfl) ?_
  refine va_get (D := (dC, dI)) (ci := 9) (v := .int (nI x16)) (C := RX9) (T := TX9) (N := 67) hx hb hts hiX9 hown hK hP 0 rfl rfl 16 (by decide) v_2 (fun _ h9 => h9) rfl dX9_most_14 ?_
  refine va_iald hx hb hK hP 13 12 rfl rfl (vp_in_nI (n := x16) (Nat.lt_of_le_of_lt hx16 (Nat.le_of_ble_eq_true rfl)) (Nat.le_of_ble_eq_true rfl)) dX9_most_17 ?_
  refine lv_topi (fun y_6 ey_6 => ?_)
  obtain ⟨u_7, hu_7, fu_7⟩ := b2_get (a := m13_0) (b := m13_1) (i := x16) (by omega)
  have qy_6 := ey_6.trans fu_7
  obtain rfl : y_6 = nI u_7 := qy_6
  refine lv_iadd hx hb dX9_most_18 ?_
  refine lv_topi (fun y_8 ey_8 => ?_)
  obtain rfl : y_8 = (nI (100 + u_7)) := ey_8.trans (nI_add 100 u_7)
  refine lv_icmp_ge (tgt := 142) hx hb dX9_most_19 (by decide) (fun c_9 => ?_) (fun c_9 => ?_)
  · have c_9 : (100 + u_7) ≤ g_4 := (nI_leI (a := (100 + u_7)) (b := g_4) (by omega) (Nat.lt_of_le_of_lt hg_4 (Nat.le_of_ble_eq_true rfl))).mp c_9
    refine lv_iload_n hx hb dX9_most_142 rfl (lv_at hl 3 rfl) ?_
    exact W.iret (v := g_3) hx hb hr (fun t ht hW => ⟨⟨g_3, (), rfl, trivial, trivial⟩, hS.F ht⟩) hS.2.2 dX9_most_143
  · have c_9 : ¬ (100 + u_7) ≤ g_4 := fun z => c_9 ((nI_leI (a := (100 + u_7)) (b := g_4) (by omega) (Nat.lt_of_le_of_lt hg_4 (Nat.le_of_ble_eq_true rfl))).mpr z)
    refine lv_iconst (v := 0) hx hb dX9_most_22 (by decide) ?_
    refine lv_istore (lv' := [(5, .int 0), (0, .ref (ad 0)), (1, .int p0), (2, .int p1), (3, .int g_3), (4, .int (nI g_4))]) hx hb dX9_most_23 hl (by decide) rfl (fun ls hl => ?_)
    refine pu_while (fun nn H locs ls => ∃ (g_12 : Int32) (g_13 : Nat), nn = 4 - g_13 ∧ g_13 ≤ 4 ∧ va_P (dC, dI) vwCl (mo_w ad ck x0 (nI x16) (nI x18) (nI x19) x20 (nI x21) (nI x22) x23 x24 x25 (nI x26) x27 (nI x28) (nI x29) (nI x30) (nI x33) x45 (nI x46) (nI x52) (nI x53) (nI x61) (nI x62) (nI x63) (nI x65) x66 f1 f2 f3 (bN 3 q4) (bN 7 q5) (bN 7 q6) (bN 4 q7) f8 (bN 2 q9) (bH q10) f11 (b2 m12_0 m12_1) (b2 m13_0 m13_1) (b2 m14_0 m14_1) (b2m m15_0 m15_1) f17 (bA 159 q31) f32 f34 f35 f36 f37 (bN 7 q38) f39 f40 f41 (b2 m42_0 m42_1) f43 f44 f47 f48 f49 f50 f51 (bN 13 q54) (bN 120 q55) (bN 120 q56) f57 (bN 120 q58) f59 f60 f64) H ∧ va_D (fun _ => True) (mo_w ad ck x0 (nI x16) (nI x18) (nI x19) x20 (nI x21) (nI x22) x23 x24 x25 (nI x26) x27 (nI x28) (nI x29) (nI x30) (nI x33) x45 (nI x46) (nI x52) (nI x53) (nI x61) (nI x62) (nI x63) (nI x65) x66 f1 f2 f3 (bN 3 q4) (bN 7 q5) (bN 7 q6) (bN 4 q7) f8 (bN 2 q9) (bH q10) f11 (b2 m12_0 m12_1) (b2 m13_0 m13_1) (b2 m14_0 m14_1) (b2m m15_0 m15_1) f17 (bA 159 q31) f32 f34 f35 f36 f37 (bN 7 q38) f39 f40 f41 (b2 m42_0 m42_1) f43 f44 f47 f48 f49 f50 f51 (bN 13 q54) (bN 120 q55) (bN 120 q56) f57 (bN 120 q58) f59 f60 f64) ∧ va_S (va_A [] s.heap.size) s.heap H locs ∧ lv_has ls 8 [(0, .ref (ad 0)), (1, .int p0), (2, .int p1), (3, .int g_12), (4, .int (nI g_4)), (5, .int (nI g_13))]) 25 ?_ _ _ _ _ ⟨g_3, 0, rfl, (Nat.le_of_ble_eq_true rfl), hP, hD, hS, lv_sub hl [1, 2, 3, 4, 5, 0] rfl⟩
    rintro nn ih_14 H locs ls ⟨g_12, g_13, rfl, hg_13, hP, hD, hS, hl⟩
    refine lv_iload hx hb dX9_most_25 (lv_at hl 5 rfl) ?_
    refine lv_aload_n hx hb dX9_most_27 rfl (lv_at hl 0 rfl) ?_
    refine lv_iload hx hb dX9_most_28 (lv_at hl 4 rfl) ?_
    refine pu_join (fun H locs ls st => st = [] ∧ va_P (dC, dI) vwCl (mo_w ad ck x0 (nI x16) (nI x18) (nI x19) x20 (nI x21) (nI x22) x23 x24 x25 (nI x26) x27 (nI x28) (nI x29) (nI x30) (nI x33) x45 (nI x46) (nI x52) (nI x53) (nI x61) (nI x62) (nI x63) (nI x65) x66 f1 f2 f3 (bN 3 q4) (bN 7 q5) (bN 7 q6) (bN 4 q7) f8 (bN 2 q9) (bH q10) f11 (b2 m12_0 m12_1) (b2 m13_0 m13_1) (b2 m14_0 m14_1) (b2m m15_0 m15_1) f17 (bA 159 q31) f32 f34 f35 f36 f37 (bN 7 q38) f39 f40 f41 (b2 m42_0 m42_1) f43 f44 f47 f48 f49 f50 f51 (bN 13 q54) (bN 120 q55) (bN 120 q56) f57 (bN 120 q58) f59 f60 f64) H ∧ va_D (fun _ => True) (mo_w ad ck x0 (nI x16) (nI x18) (nI x19) x20 (nI x21) (nI x22) x23 x24 x25 (nI x26) x27 (nI x28) (nI x29) (nI x30) (nI x33) x45 (nI x46) (nI x52) (nI x53) (nI x61) (nI x62) (nI x63) (nI x65) x66 f1 f2 f3 (bN 3 q4) (bN 7 q5) (bN 7 q6) (bN 4 q7) f8 (bN 2 q9) (bH q10) f11 (b2 m12_0 m12_1) (b2 m13_0 m13_1) (b2 m14_0 m14_1) (b2m m15_0 m15_1) f17 (bA 159 q31) f32 f34 f35 f36 f37 (bN 7 q38) f39 f40 f41 (b2 m42_0 m42_1) f43 f44 f47 f48 f49 f50 f51 (bN 13 q54) (bN 120 q55) (bN 120 q56) f57 (bN 120 q58) f59 f60 f64) ∧ va_S (va_A [] s.heap.size) s.heap H locs ∧ lv_has ls 8 [(0, .ref (ad 0)), (1, .int p0), (2, .int p1), (3, .int g_12), (4, .int (nI g_4)), (5, .int (nI g_13))]) 136 ?_ (fun j_15 => ?_)
    · rintro H locs ls st ⟨rfl, hP, hD, hS, hl⟩
      refine lv_iinc (v := (nI (g_4 + 1))) (lv' := [(4, .int (nI (g_4 + 1))), (0, .ref (ad 0)), (1, .int p0), (2, .int p1), (3, .int g_12), (5, .int (nI g_13))]) hx hb dX9_most_136 hl (k := 4) rfl (nI_1 _) (by decide) rfl (fun ls hl => ?_)
      refine lv_goto (tgt := 5) hx hb dX9_most_139 (by decide) ?_
      exact ih_5 (108 - (g_4 + 1)) (by omega) _ _ _ ⟨g_12, (g_4 + 1), rfl, (by omega), hP, hD, hS, lv_sub hl [1, 2, 3, 4, 0] rfl⟩
    refine va_calli (va_runV (As := [.int (nI g_4)]) (rest := [.int (nI g_13)]) ⟨hx, hb, hml, hown, hts⟩ (c_M_manyOf_n l dC dI _ ad ck x0 x16 x18 x19 x20 x21 x22 x23 x24 x25 x26 x27 x28 x29 x30 x33 x45 x46 x52 x53 x61 x62 x63 x65 x66 f1 f2 f3 q4 q5 q6 q7 f8 q9 q10 f11 m12_0 m12_1 m13_0 m13_1 m14_0 m14_1 m15_0 m15_1 f17 q31 f32 f34 f35 f36 f37 q38 f39 f40 f41 m42_0 m42_1 f43 f44 f47 f48 f49 f50 f51 q54 q55 q56 f57 q58 f59 f60 f64 g_4 hx16 hx18 hx19 hx21 hx22 hx26 hx28 hx29 hx30 hx33 hx46 hx52 hx53 hx61 hx62 hx63 hx65 hm12_0 hm12_1 hm13_0 hm13_1 hm14_0 hm14_1 hm15_0 hm15_1 hm42_0 hm42_1 (by omega)) (cwV 1 hts g_M_most_M_manyOf_n rfl rfl rfl (by decide +kernel) ⟨Nat.le_of_ble_eq_true rfl, Nat.le_of_ble_eq_true rfl⟩) ⟨pu_bl, va_recv hK hP (ci := 9) (q0 := 0) rfl rfl, pu_in hP hK hD⟩ rfl rfl hl.1 rfl (lv_room (Nat.le_of_ble_eq_true rfl)) dX9_most_30 ⟨Nat.le_of_ble_eq_true rfl, Nat.le_of_ble_eq_true rfl⟩) hS (fun q _ h => pu_fr hS hA q h) (pu_fr hS hA) (fun r_16 u t H1 locs ht hvm hw hB hz1 hk1 hS => ?_)
    have hP := pu_keep hP hk1
    clear hk1 hz1 ht hvm
    generalize H1 = H at hP hS ⊢
    rcases hw with rfl | ⟨u_17, hu_17, iu_17, rfl⟩ | ⟨u_17, hu_17, iu_17, rfl⟩
    · refine lv_icmp_ge (tgt := 136) hx hb dX9_most_33 (by decide) (fun _ => ?_) (fun z => absurd (pu_negle (n := g_13) (by omega) (by decide)) z)
      exact j_15 _ _ _ _ ⟨rfl, hP, hD, hS, lv_sub hl [0, 1, 2, 3, 4, 5] rfl⟩
    · refine lv_icmp_ge (tgt := 136) hx hb dX9_most_33 (by decide) (fun c_18 => ?_) (fun c_18 => ?_)
      · have c_18 : u_17 ≤ g_13 := (nI_leI (a := u_17) (b := g_13) (by omega) (Nat.lt_of_le_of_lt hg_13 (Nat.le_of_ble_eq_true rfl))).mp c_18
        exact j_15 _ _ _ _ ⟨rfl, hP, hD, hS, lv_sub hl [0, 1, 2, 3, 4, 5] rfl⟩
      · have c_18 : ¬ u_17 ≤ g_13 := fun z => c_18 ((nI_leI (a := u_17) (b := g_13) (by omega) (Nat.lt_of_le_of_lt hg_13 (Nat.le_of_ble_eq_true rfl))).mpr z)
        refine lv_aload_n hx hb dX9_most_36 rfl (lv_at hl 0 rfl) ?_
        refine lv_iload hx hb dX9_most_37 (lv_at hl 4 rfl) ?_
        refine lv_iload hx hb dX9_most_39 (lv_at hl 5 rfl) ?_
        refine va_calli (va_runV (As := [.int (nI g_4), .int (nI g_13)]) (rest := []) ⟨hx, hb, hml, hown, hts⟩ (c_M_spot_e l dC dI _ ad ck x0 x16 x18 x19 x20 x21 x22 x23 x24 x25 x26 x27 x28 x29 x30 x33 x45 x46 x52 x53 x61 x62 x63 x65 x66 f1 f2 f3 q4 q5 q6 q7 f8 q9 q10 f11 m12_0 m12_1 m13_0 m13_1 m14_0 m14_1 m15_0 m15_1 f17 q31 f32 f34 f35 f36 f37 q38 f39 f40 f41 m42_0 m42_1 f43 f44 f47 f48 f49 f50 f51 q54 q55 q56 f57 q58 f59 f60 f64 g_4 g_13 hx16 hx18 hx19 hx21 hx22 hx26 hx28 hx29 hx30 hx33 hx46 hx52 hx53 hx61 hx62 hx63 hx65 hm12_0 hm12_1 hm13_0 hm13_1 hm14_0 hm14_1 hm15_0 hm15_1 hm42_0 hm42_1 (by omega) (by omega)) (cwV 2 hts g_M_most_M_spot_e rfl rfl rfl (by decide +kernel) ⟨Nat.le_of_ble_eq_true rfl, Nat.le_of_ble_eq_true rfl⟩) ⟨pu_bl, va_recv hK hP (ci := 9) (q0 := 0) rfl rfl, pu_in hP hK hD⟩ rfl rfl hl.1 rfl (lv_room (Nat.le_of_ble_eq_true rfl)) dX9_most_41 ⟨Nat.le_of_ble_eq_true rfl, Nat.le_of_ble_eq_true rfl⟩) hS (fun q _ h => pu_fr hS hA q h) (pu_fr hS hA) (fun r_19 u t H1 locs ht hvm hw hB hz1 hk1 hS => ?_)
        have hP := pu_keep hP hk1
        clear hk1 hz1 ht hvm
        generalize H1 = H at hP hS ⊢
        obtain rfl : r_19 = nI (80 * x16 + 4 * g_4 + g_13) := hw
        refine lv_istore (lv' := [(6, .int (nI (80 * x16 + 4 * g_4 + g_13))), (0, .ref (ad 0)), (1, .int p0), (2, .int p1), (3, .int g_12), (4, .int (nI g_4)), (5, .int (nI g_13))]) hx hb dX9_most_44 hl (by decide) rfl (fun ls hl => ?_)
        refine lv_iload_n hx hb dX9_most_46 rfl (lv_at hl 3 rfl) ?_
        refine pu_join (fun H locs ls st => ∃ (g_20 : Nat), st = [.int (nI g_20)] ∧ g_20 ≤ 1 ∧ va_P (dC, dI) vwCl (mo_w ad ck x0 (nI x16) (nI x18) (nI x19) x20 (nI x21) (nI x22) x23 x24 x25 (nI x26) x27 (nI x28) (nI x29) (nI x30) (nI x33) x45 (nI x46) (nI x52) (nI x53) (nI x61) (nI x62) (nI x63) (nI x65) x66 f1 f2 f3 (bN 3 q4) (bN 7 q5) (bN 7 q6) (bN 4 q7) f8 (bN 2 q9) (bH q10) f11 (b2 m12_0 m12_1) (b2 m13_0 m13_1) (b2 m14_0 m14_1) (b2m m15_0 m15_1) f17 (bA 159 q31) f32 f34 f35 f36 f37 (bN 7 q38) f39 f40 f41 (b2 m42_0 m42_1) f43 f44 f47 f48 f49 f50 f51 (bN 13 q54) (bN 120 q55) (bN 120 q56) f57 (bN 120 q58) f59 f60 f64) H ∧ va_D (fun _ => True) (mo_w ad ck x0 (nI x16) (nI x18) (nI x19) x20 (nI x21) (nI x22) x23 x24 x25 (nI x26) x27 (nI x28) (nI x29) (nI x30) (nI x33) x45 (nI x46) (nI x52) (nI x53) (nI x61) (nI x62) (nI x63) (nI x65) x66 f1 f2 f3 (bN 3 q4) (bN 7 q5) (bN 7 q6) (bN 4 q7) f8 (bN 2 q9) (bH q10) f11 (b2 m12_0 m12_1) (b2 m13_0 m13_1) (b2 m14_0 m14_1) (b2m m15_0 m15_1) f17 (bA 159 q31) f32 f34 f35 f36 f37 (bN 7 q38) f39 f40 f41 (b2 m42_0 m42_1) f43 f44 f47 f48 f49 f50 f51 (bN 13 q54) (bN 120 q55) (bN 120 q56) f57 (bN 120 q58) f59 f60 f64) ∧ va_S (va_A [] s.heap.size) s.heap H locs ∧ lv_has ls 8 [(0, .ref (ad 0)), (1, .int p0), (2, .int p1), (3, .int g_12), (4, .int (nI g_4)), (5, .int (nI g_13)), (6, .int (nI (80 * x16 + 4 * g_4 + g_13)))]) 96 ?_ (fun j_21 => ?_)
        · rintro H locs ls st ⟨g_20, rfl, hg_20, hP, hD, hS, hl⟩
          refine lv_istore (lv' := [(7, .int (nI g_20)), (0, .ref (ad 0)), (1, .int p0), (2, .int p1), (3, .int g_12), (4, .int (nI g_4)), (5, .int (nI g_13)), (6, .int (nI (80 * x16 + 4 * g_4 + g_13)))]) hx hb dX9_most_96 hl (by decide) rfl (fun ls hl => ?_)
          refine lv_aload_n hx hb dX9_most_98 rfl (lv_at hl 1 rfl) ?_
          refine va_get (D := (dC, dI)) (ci := 9) (v := .ref (ad 9)) (C := RX9) (T := TX9) (N := 67) hx hb hts hiX9 hown hK hP 0 rfl rfl 9 (by decide) v_13 (fun _ h9 => h9) rfl dX9_most_99 ?_
          refine lv_iload hx hb dX9_most_102 (lv_at hl 7 rfl) ?_
          refine va_iald hx hb hK hP 9 8 rfl rfl (vp_in_nI (n := (80 * x16 + 4 * g_4 + g_13)) (by omega) (Nat.le_of_ble_eq_true rfl)) dX9_most_104 ?_
          refine lv_topi (fun y_22 ey_22 => ?_)
          obtain ⟨u_23, hu_23, qu_23⟩ := bN_get 2 q9 (((nI (80 * x16 + 4 * g_4 + g_13)) : Int32).toNatClampNeg)
          obtain rfl : y_22 = nI u_23 := ey_22.trans qu_23
          refine lv_iload_n hx hb dX9_most_105 rfl (lv_at hl 2 rfl) ?_
          refine pu_join (fun H locs ls st => ∃ (g_24 : Int32), st = [.int g_24] ∧ va_P (dC, dI) vwCl (mo_w ad ck x0 (nI x16) (nI x18) (nI x19) x20 (nI x21) (nI x22) x23 x24 x25 (nI x26) x27 (nI x28) (nI x29) (nI x30) (nI x33) x45 (nI x46) (nI x52) (nI x53) (nI x61) (nI x62) (nI x63) (nI x65) x66 f1 f2 f3 (bN 3 q4) (bN 7 q5) (bN 7 q6) (bN 4 q7) f8 (bN 2 q9) (bH q10) f11 (b2 m12_0 m12_1) (b2 m13_0 m13_1) (b2 m14_0 m14_1) (b2m m15_0 m15_1) f17 (bA 159 q31) f32 f34 f35 f36 f37 (bN 7 q38) f39 f40 f41 (b2 m42_0 m42_1) f43 f44 f47 f48 f49 f50 f51 (bN 13 q54) (bN 120 q55) (bN 120 q56) f57 (bN 120 q58) f59 f60 f64) H ∧ va_D (fun _ => True) (mo_w ad ck x0 (nI x16) (nI x18) (nI x19) x20 (nI x21) (nI x22) x23 x24 x25 (nI x26) x27 (nI x28) (nI x29) (nI x30) (nI x33) x45 (nI x46) (nI x52) (nI x53) (nI x61) (nI x62) (nI x63) (nI x65) x66 f1 f2 f3 (bN 3 q4) (bN 7 q5) (bN 7 q6) (bN 4 q7) f8 (bN 2 q9) (bH q10) f11 (b2 m12_0 m12_1) (b2 m13_0 m13_1) (b2 m14_0 m14_1) (b2m m15_0 m15_1) f17 (bA 159 q31) f32 f34 f35 f36 f37 (bN 7 q38) f39 f40 f41 (b2 m42_0 m42_1) f43 f44 f47 f48 f49 f50 f51 (bN 13 q54) (bN 120 q55) (bN 120 q56) f57 (bN 120 q58) f59 f60 f64) ∧ va_S (va_A [] s.heap.size) s.heap H locs ∧ lv_has ls 8 [(0, .ref (ad 0)), (1, .int p0), (2, .int p1), (3, .int g_12), (4, .int (nI g_4)), (5, .int (nI g_13)), (6, .int (nI (80 * x16 + 4 * g_4 + g_13))), (7, .int (nI g_20))]) 129 ?_ (fun j_25 => ?_)
          · rintro H locs ls st ⟨g_24, rfl, hP, hD, hS, hl⟩
            refine lv_istore_n (lv' := [(3, .int g_24), (0, .ref (ad 0)), (1, .int p0), (2, .int p1), (4, .int (nI g_4)), (5, .int (nI g_13)), (6, .int (nI (80 * x16 + 4 * g_4 + g_13))), (7, .int (nI g_20))]) hx hb dX9_most_129 rfl hl (by decide) rfl (fun ls hl => ?_)
            refine lv_iinc (v := (nI (g_13 + 1))) (lv' := [(5, .int (nI (g_13 + 1))), (3, .int g_24), (0, .ref (ad 0)), (1, .int p0), (2, .int p1), (4, .int (nI g_4)), (6, .int (nI (80 * x16 + 4 * g_4 + g_13))), (7, .int (nI g_20))]) hx hb dX9_most_130 hl (k := 5) rfl (nI_1 _) (by decide) rfl (fun ls hl => ?_)
            refine lv_goto (tgt := 25) hx hb dX9_most_133 (by decide) ?_
            exact ih_14 (4 - (g_13 + 1)) (by omega) _ _ _ ⟨g_24, (g_13 + 1), rfl, (by omega), hP, hD, hS, lv_sub hl [2, 3, 4, 1, 5, 0] rfl⟩
          refine lv_icmp_ne (tgt := 128) hx hb dX9_most_106 (by decide) (fun c_26 => ?_) (fun c_26 => ?_)
          · refine lv_iload_n hx hb dX9_most_128 rfl (lv_at hl 4 rfl) ?_
            exact j_25 _ _ _ _ ⟨g_12, rfl, hP, hD, hS, lv_sub hl [1, 2, 3, 4, 5, 6, 7, 0] rfl⟩
          · refine lv_iload hx hb dX9_most_109 (lv_at hl 0 rfl) ?_
            refine lv_if_eq (tgt := 128) hx hb dX9_most_111 (by decide) (fun c_27 => ?_) (fun c_27 => ?_)
            · have c_27 : g_20 = 0 := (nI_eq (a := g_20) (b := 0) (Nat.lt_of_le_of_lt hg_20 (Nat.le_of_ble_eq_true rfl)) (Nat.le_of_ble_eq_true rfl)).mp c_27
              refine lv_iload_n hx hb dX9_most_128 rfl (lv_at hl 4 rfl) ?_
              exact j_25 _ _ _ _ ⟨g_12, rfl, hP, hD, hS, lv_sub hl [1, 2, 3, 4, 5, 6, 7, 0] rfl⟩
            · have c_27 : ¬ g_20 = 0 := fun z => c_27 ((nI_eq (a := g_20) (b := 0) (Nat.lt_of_le_of_lt hg_20 (Nat.le_of_ble_eq_true rfl)) (Nat.le_of_ble_eq_true rfl)).mpr z)
              refine lv_iload_n hx hb dX9_most_114 rfl (lv_at hl 4 rfl) ?_
              refine lv_aload_n hx hb dX9_most_115 rfl (lv_at hl 1 rfl) ?_
              refine va_get (D := (dC, dI)) (ci := 9) (v := .ref (ad 11)) (C := RX9) (T := TX9) (N := 67) hx hb hts hiX9 hown hK hP 0 rfl rfl 11 (by decide) v_14 (fun _ h9 => h9) rfl dX9_most_116 ?_
              refine lv_iload hx hb dX9_most_119 (lv_at hl 7 rfl) ?_
              refine va_iald hx hb hK hP 11 10 rfl rfl (vp_in_nI (n := (80 * x16 + 4 * g_4 + g_13)) (by omega) (Nat.le_of_ble_eq_true rfl)) dX9_most_121 ?_
              refine lv_topi (fun y_28 ey_28 => ?_)
              refine va_calli (va_runS (As := [.int g_12, .int y_28]) (rest := []) ⟨hx, hb, hml, hown, hts⟩ (c_X9_greater l dC dI _ g_12 y_28) (va_cwS 2 hts g_M_most_X9_greater rfl rfl rfl (by decide +kernel) ⟨Nat.le_of_ble_eq_true rfl, Nat.le_of_ble_eq_true rfl⟩) ⟨pu_bl, pu_in (hP.sub [] rfl) (hK.sub [] rfl) (hD.sub [] (by decide) rfl)⟩ rfl rfl hl.1 rfl (lv_room (Nat.le_of_ble_eq_true rfl)) dX9_most_122 ⟨Nat.le_of_ble_eq_true rfl, Nat.le_of_ble_eq_true rfl⟩) hS (fun q _ h => pu_fr hS hA q h) (pu_fr hS hA) (fun r_29 u t H1 locs ht hvm hw hB hz1 hk1 hS => ?_)
              have hP := pu_keep hP hk1
              clear hk1 hz1 ht hvm
              generalize H1 = H at hP hS ⊢
              clear hw
              refine lv_goto (tgt := 129) hx hb dX9_most_125 (by decide) ?_
              exact j_25 _ _ _ _ ⟨r_29, rfl, hP, hD, hS, lv_sub hl [1, 2, 3, 4, 5, 6, 7, 0] rfl⟩
        refine lv_if_eq (tgt := 91) hx hb dX9_most_47 (by decide) (fun c_30 => ?_) (fun c_30 => ?_)
        · refine lv_iconst (v := 1) hx hb dX9_most_91 (by decide) ?_
          refine lv_goto (tgt := 96) hx hb dX9_most_92 (by decide) ?_
          exact j_21 _ _ _ _ ⟨1, rfl, (Nat.le_of_ble_eq_true rfl), hP, hD, hS, lv_sub hl [1, 2, 3, 4, 5, 6, 0] rfl⟩
        · refine lv_aload_n hx hb dX9_most_50 rfl (lv_at hl 1 rfl) ?_
          refine va_get (D := (dC, dI)) (ci := 9) (v := .ref (ad 10)) (C := RX9) (T := TX9) (N := 67) hx hb hts hiX9 hown hK hP 0 rfl rfl 10 (by decide) v_12 (fun _ h9 => h9) rfl dX9_most_51 ?_
          refine lv_iload hx hb dX9_most_54 (lv_at hl 0 rfl) ?_
          refine va_iald hx hb hK hP 10 9 rfl rfl (vp_in_nI (n := (80 * x16 + 4 * g_4 + g_13)) (by omega) (Nat.le_of_ble_eq_true rfl)) dX9_most_56 ?_
          refine lv_topi (fun y_31 ey_31 => ?_)
          obtain ⟨u_32, hu_32, qu_32⟩ := bH_get q10 (i := (80 * x16 + 4 * g_4 + g_13)) (by omega)
          obtain rfl : y_31 = nI u_32 := ey_31.trans qu_32
          refine lv_iconst (v := 2) hx hb dX9_most_57 (by decide) ?_
          refine lv_icmp_eq (tgt := 91) hx hb dX9_most_58 (by decide) (fun c_33 => ?_) (fun c_33 => ?_)
          · have c_33 : u_32 = 2 := (nI_eq (a := u_32) (b := 2) (by omega) (Nat.le_of_ble_eq_true rfl)).mp c_33
            refine lv_iconst (v := 1) hx hb dX9_most_91 (by decide) ?_
            refine lv_goto (tgt := 96) hx hb dX9_most_92 (by decide) ?_
            exact j_21 _ _ _ _ ⟨1, rfl, (Nat.le_of_ble_eq_true rfl), hP, hD, hS, lv_sub hl [1, 2, 3, 4, 5, 6, 0] rfl⟩
          · have c_33 : ¬ u_32 = 2 := fun z => c_33 ((nI_eq (a := u_32) (b := 2) (by omega) (Nat.le_of_ble_eq_true rfl)).mpr z)
            refine lv_iload_n hx hb dX9_most_61 rfl (lv_at hl 3 rfl) ?_
            refine lv_iconst (v := 1) hx hb dX9_most_62 (by decide) ?_
            refine lv_icmp_ne (tgt := 80) hx hb dX9_most_63 (by decide) (fun c_34 => ?_) (fun c_34 => ?_)
            · refine lv_aload_n hx hb dX9_most_80 rfl (lv_at hl 1 rfl) ?_
              refine va_get (D := (dC, dI)) (ci := 9) (v := .ref (ad 10)) (C := RX9) (T := TX9) (N := 67) hx hb hts hiX9 hown hK hP 0 rfl rfl 10 (by decide) v_12 (fun _ h9 => h9) rfl dX9_most_81 ?_
              refine lv_iload hx hb dX9_most_84 (lv_at hl 0 rfl) ?_
              refine va_iald hx hb hK hP 10 9 rfl rfl (vp_in_nI (n := (80 * x16 + 4 * g_4 + g_13)) (by omega) (Nat.le_of_ble_eq_true rfl)) dX9_most_86 ?_
              refine lv_topi (fun y_35 ey_35 => ?_)
              obtain rfl : y_35 = nI u_32 := ey_35.trans qu_32
              refine lv_iconst (v := 2) hx hb dX9_most_87 (by decide) ?_
              refine lv_icmp_ge (tgt := 95) hx hb dX9_most_88 (by decide) (fun c_37 => ?_) (fun c_37 => ?_)
              · have c_37 : 2 ≤ u_32 := (nI_leI (a := 2) (b := u_32) (Nat.le_of_ble_eq_true rfl) (by omega)).mp c_37
                refine lv_iconst (v := 0) hx hb dX9_most_95 (by decide) ?_
                exact j_21 _ _ _ _ ⟨0, rfl, (Nat.le_of_ble_eq_true rfl), hP, hD, hS, lv_sub hl [1, 2, 3, 4, 5, 6, 0] rfl⟩
              · have c_37 : ¬ 2 ≤ u_32 := fun z => c_37 ((nI_leI (a := 2) (b := u_32) (Nat.le_of_ble_eq_true rfl) (by omega)).mpr z)
                refine lv_iconst (v := 1) hx hb dX9_most_91 (by decide) ?_
                refine lv_goto (tgt := 96) hx hb dX9_most_92 (by decide) ?_
                exact j_21 _ _ _ _ ⟨1, rfl, (Nat.le_of_ble_eq_true rfl), hP, hD, hS, lv_sub hl [1, 2, 3, 4, 5, 6, 0] rfl⟩
            · refine lv_aload_n hx hb dX9_most_66 rfl (lv_at hl 1 rfl) ?_
              refine va_get (D := (dC, dI)) (ci := 9) (v := .ref (ad 10)) (C := RX9) (T := TX9) (N := 67) hx hb hts hiX9 hown hK hP 0 rfl rfl 10 (by decide) v_12 (fun _ h9 => h9) rfl dX9_most_67 ?_
              refine lv_iload hx hb dX9_most_70 (lv_at hl 0 rfl) ?_
              refine va_iald hx hb hK hP 10 9 rfl rfl (vp_in_nI (n := (80 * x16 + 4 * g_4 + g_13)) (by omega) (Nat.le_of_ble_eq_true rfl)) dX9_most_72 ?_
              refine lv_topi (fun y_38 ey_38 => ?_)
              obtain rfl : y_38 = nI u_32 := ey_38.trans qu_32
              refine lv_iconst (v := 2) hx hb dX9_most_73 (by decide) ?_
              refine lv_icmp_le (tgt := 95) hx hb dX9_most_74 (by decide) (fun c_40 => ?_) (fun c_40 => ?_)
              · have c_40 : u_32 ≤ 2 := (nI_leI (a := u_32) (b := 2) (by omega) (Nat.le_of_ble_eq_true rfl)).mp c_40
                refine lv_iconst (v := 0) hx hb dX9_most_95 (by decide) ?_
                exact j_21 _ _ _ _ ⟨0, rfl, (Nat.le_of_ble_eq_true rfl), hP, hD, hS, lv_sub hl [1, 2, 3, 4, 5, 6, 0] rfl⟩
              · have c_40 : ¬ u_32 ≤ 2 := fun z => c_40 ((nI_leI (a := u_32) (b := 2) (by omega) (Nat.le_of_ble_eq_true rfl)).mpr z)
                refine lv_goto (tgt := 91) hx hb dX9_most_77 (by decide) ?_
                refine lv_iconst (v := 1) hx hb dX9_most_91 (by decide) ?_
                refine lv_goto (tgt := 96) hx hb dX9_most_92 (by decide) ?_
                exact j_21 _ _ _ _ ⟨1, rfl, (Nat.le_of_ble_eq_true rfl), hP, hD, hS, lv_sub hl [1, 2, 3, 4, 5, 6, 0] rfl⟩
    · refine lv_icmp_ge (tgt := 136) hx hb dX9_most_33 (by decide) (fun c_41 => ?_) (fun c_41 => ?_)
      · have c_41 : u_17 ≤ g_13 := (nI_leI (a := u_17) (b := g_13) (by omega) (Nat.lt_of_le_of_lt hg_13 (Nat.le_of_ble_eq_true rfl))).mp c_41
        exact j_15 _ _ _ _ ⟨rfl, hP, hD, hS, lv_sub hl [0, 1, 2, 3, 4, 5] rfl⟩
      · have c_41 : ¬ u_17 ≤ g_13 := fun z => c_41 ((nI_leI (a := u_17) (b := g_13) (by omega) (Nat.lt_of_le_of_lt hg_13 (Nat.le_of_ble_eq_true rfl))).mpr z)
        refine lv_aload_n hx hb dX9_most_36 rfl (lv_at hl 0 rfl) ?_
        refine lv_iload hx hb dX9_most_37 (lv_at hl 4 rfl) ?_
        refine lv_iload hx hb dX9_most_39 (lv_at hl 5 rfl) ?_
        refine va_calli (va_runV (As := [.int (nI g_4), .int (nI g_13)]) (rest := []) ⟨hx, hb, hml, hown, hts⟩ (c_M_spot_p l dC dI _ ad ck x0 x16 x18 x19 x20 x21 x22 x23 x24 x25 x26 x27 x28 x29 x30 x33 x45 x46 x52 x53 x61 x62 x63 x65 x66 f1 f2 f3 q4 q5 q6 q7 f8 q9 q10 f11 m12_0 m12_1 m13_0 m13_1 m14_0 m14_1 m15_0 m15_1 f17 q31 f32 f34 f35 f36 f37 q38 f39 f40 f41 m42_0 m42_1 f43 f44 f47 f48 f49 f50 f51 q54 q55 q56 f57 q58 f59 f60 f64 g_4 g_13 hx16 hx18 hx19 hx21 hx22 hx26 hx28 hx29 hx30 hx33 hx46 hx52 hx53 hx61 hx62 hx63 hx65 hm12_0 hm12_1 hm13_0 hm13_1 hm14_0 hm14_1 hm15_0 hm15_1 hm42_0 hm42_1 (by omega) (by omega) (by omega)) (cwV 2 hts g_M_most_M_spot_p rfl rfl rfl (by decide +kernel) ⟨Nat.le_of_ble_eq_true rfl, Nat.le_of_ble_eq_true rfl⟩) ⟨pu_bl, va_recv hK hP (ci := 9) (q0 := 0) rfl rfl, pu_in hP hK hD⟩ rfl rfl hl.1 rfl (lv_room (Nat.le_of_ble_eq_true rfl)) dX9_most_41 ⟨Nat.le_of_ble_eq_true rfl, Nat.le_of_ble_eq_true rfl⟩) hS (fun q _ h => pu_fr hS hA q h) (pu_fr hS hA) (fun r_42 u t H1 locs ht hvm hw hB hz1 hk1 hS => ?_)
        have hP := pu_keep hP hk1
        clear hk1 hz1 ht hvm
        generalize H1 = H at hP hS ⊢
        obtain rfl : r_42 = nI (80 * x16 + (56 + 3 * (g_4 - 100)) + g_13) := hw
        refine lv_istore (lv' := [(6, .int (nI (80 * x16 + (56 + 3 * (g_4 - 100)) + g_13))), (0, .ref (ad 0)), (1, .int p0), (2, .int p1), (3, .int g_12), (4, .int (nI g_4)), (5, .int (nI g_13))]) hx hb dX9_most_44 hl (by decide) rfl (fun ls hl => ?_)
        refine lv_iload_n hx hb dX9_most_46 rfl (lv_at hl 3 rfl) ?_
        refine pu_join (fun H locs ls st => ∃ (g_43 : Nat), st = [.int (nI g_43)] ∧ g_43 ≤ 1 ∧ va_P (dC, dI) vwCl (mo_w ad ck x0 (nI x16) (nI x18) (nI x19) x20 (nI x21) (nI x22) x23 x24 x25 (nI x26) x27 (nI x28) (nI x29) (nI x30) (nI x33) x45 (nI x46) (nI x52) (nI x53) (nI x61) (nI x62) (nI x63) (nI x65) x66 f1 f2 f3 (bN 3 q4) (bN 7 q5) (bN 7 q6) (bN 4 q7) f8 (bN 2 q9) (bH q10) f11 (b2 m12_0 m12_1) (b2 m13_0 m13_1) (b2 m14_0 m14_1) (b2m m15_0 m15_1) f17 (bA 159 q31) f32 f34 f35 f36 f37 (bN 7 q38) f39 f40 f41 (b2 m42_0 m42_1) f43 f44 f47 f48 f49 f50 f51 (bN 13 q54) (bN 120 q55) (bN 120 q56) f57 (bN 120 q58) f59 f60 f64) H ∧ va_D (fun _ => True) (mo_w ad ck x0 (nI x16) (nI x18) (nI x19) x20 (nI x21) (nI x22) x23 x24 x25 (nI x26) x27 (nI x28) (nI x29) (nI x30) (nI x33) x45 (nI x46) (nI x52) (nI x53) (nI x61) (nI x62) (nI x63) (nI x65) x66 f1 f2 f3 (bN 3 q4) (bN 7 q5) (bN 7 q6) (bN 4 q7) f8 (bN 2 q9) (bH q10) f11 (b2 m12_0 m12_1) (b2 m13_0 m13_1) (b2 m14_0 m14_1) (b2m m15_0 m15_1) f17 (bA 159 q31) f32 f34 f35 f36 f37 (bN 7 q38) f39 f40 f41 (b2 m42_0 m42_1) f43 f44 f47 f48 f49 f50 f51 (bN 13 q54) (bN 120 q55) (bN 120 q56) f57 (bN 120 q58) f59 f60 f64) ∧ va_S (va_A [] s.heap.size) s.heap H locs ∧ lv_has ls 8 [(0, .ref (ad 0)), (1, .int p0), (2, .int p1), (3, .int g_12), (4, .int (nI g_4)), (5, .int (nI g_13)), (6, .int (nI (80 * x16 + (56 + 3 * (g_4 - 100)) + g_13)))]) 96 ?_ (fun j_44 => ?_)
        · rintro H locs ls st ⟨g_43, rfl, hg_43, hP, hD, hS, hl⟩
          refine lv_istore (lv' := [(7, .int (nI g_43)), (0, .ref (ad 0)), (1, .int p0), (2, .int p1), (3, .int g_12), (4, .int (nI g_4)), (5, .int (nI g_13)), (6, .int (nI (80 * x16 + (56 + 3 * (g_4 - 100)) + g_13)))]) hx hb dX9_most_96 hl (by decide) rfl (fun ls hl => ?_)
          refine lv_aload_n hx hb dX9_most_98 rfl (lv_at hl 1 rfl) ?_
          refine va_get (D := (dC, dI)) (ci := 9) (v := .ref (ad 9)) (C := RX9) (T := TX9) (N := 67) hx hb hts hiX9 hown hK hP 0 rfl rfl 9 (by decide) v_13 (fun _ h9 => h9) rfl dX9_most_99 ?_
          refine lv_iload hx hb dX9_most_102 (lv_at hl 7 rfl) ?_
          refine va_iald hx hb hK hP 9 8 rfl rfl (vp_in_nI (n := (80 * x16 + (56 + 3 * (g_4 - 100)) + g_13)) (by omega) (Nat.le_of_ble_eq_true rfl)) dX9_most_104 ?_
          refine lv_topi (fun y_45 ey_45 => ?_)
          obtain ⟨u_46, hu_46, qu_46⟩ := bN_get 2 q9 (((nI (80 * x16 + (56 + 3 * (g_4 - 100)) + g_13)) : Int32).toNatClampNeg)
          obtain rfl : y_45 = nI u_46 := ey_45.trans qu_46
          refine lv_iload_n hx hb dX9_most_105 rfl (lv_at hl 2 rfl) ?_
          refine pu_join (fun H locs ls st => ∃ (g_47 : Int32), st = [.int g_47] ∧ va_P (dC, dI) vwCl (mo_w ad ck x0 (nI x16) (nI x18) (nI x19) x20 (nI x21) (nI x22) x23 x24 x25 (nI x26) x27 (nI x28) (nI x29) (nI x30) (nI x33) x45 (nI x46) (nI x52) (nI x53) (nI x61) (nI x62) (nI x63) (nI x65) x66 f1 f2 f3 (bN 3 q4) (bN 7 q5) (bN 7 q6) (bN 4 q7) f8 (bN 2 q9) (bH q10) f11 (b2 m12_0 m12_1) (b2 m13_0 m13_1) (b2 m14_0 m14_1) (b2m m15_0 m15_1) f17 (bA 159 q31) f32 f34 f35 f36 f37 (bN 7 q38) f39 f40 f41 (b2 m42_0 m42_1) f43 f44 f47 f48 f49 f50 f51 (bN 13 q54) (bN 120 q55) (bN 120 q56) f57 (bN 120 q58) f59 f60 f64) H ∧ va_D (fun _ => True) (mo_w ad ck x0 (nI x16) (nI x18) (nI x19) x20 (nI x21) (nI x22) x23 x24 x25 (nI x26) x27 (nI x28) (nI x29) (nI x30) (nI x33) x45 (nI x46) (nI x52) (nI x53) (nI x61) (nI x62) (nI x63) (nI x65) x66 f1 f2 f3 (bN 3 q4) (bN 7 q5) (bN 7 q6) (bN 4 q7) f8 (bN 2 q9) (bH q10) f11 (b2 m12_0 m12_1) (b2 m13_0 m13_1) (b2 m14_0 m14_1) (b2m m15_0 m15_1) f17 (bA 159 q31) f32 f34 f35 f36 f37 (bN 7 q38) f39 f40 f41 (b2 m42_0 m42_1) f43 f44 f47 f48 f49 f50 f51 (bN 13 q54) (bN 120 q55) (bN 120 q56) f57 (bN 120 q58) f59 f60 f64) ∧ va_S (va_A [] s.heap.size) s.heap H locs ∧ lv_has ls 8 [(0, .ref (ad 0)), (1, .int p0), (2, .int p1), (3, .int g_12), (4, .int (nI g_4)), (5, .int (nI g_13)), (6, .int (nI (80 * x16 + (56 + 3 * (g_4 - 100)) + g_13))), (7, .int (nI g_43))]) 129 ?_ (fun j_48 => ?_)
          · rintro H locs ls st ⟨g_47, rfl, hP, hD, hS, hl⟩
            refine lv_istore_n (lv' := [(3, .int g_47), (0, .ref (ad 0)), (1, .int p0), (2, .int p1), (4, .int (nI g_4)), (5, .int (nI g_13)), (6, .int (nI (80 * x16 + (56 + 3 * (g_4 - 100)) + g_13))), (7, .int (nI g_43))]) hx hb dX9_most_129 rfl hl (by decide) rfl (fun ls hl => ?_)
            refine lv_iinc (v := (nI (g_13 + 1))) (lv' := [(5, .int (nI (g_13 + 1))), (3, .int g_47), (0, .ref (ad 0)), (1, .int p0), (2, .int p1), (4, .int (nI g_4)), (6, .int (nI (80 * x16 + (56 + 3 * (g_4 - 100)) + g_13))), (7, .int (nI g_43))]) hx hb dX9_most_130 hl (k := 5) rfl (nI_1 _) (by decide) rfl (fun ls hl => ?_)
            refine lv_goto (tgt := 25) hx hb dX9_most_133 (by decide) ?_
            exact ih_14 (4 - (g_13 + 1)) (by omega) _ _ _ ⟨g_47, (g_13 + 1), rfl, (by omega), hP, hD, hS, lv_sub hl [2, 3, 4, 1, 5, 0] rfl⟩
          refine lv_icmp_ne (tgt := 128) hx hb dX9_most_106 (by decide) (fun c_49 => ?_) (fun c_49 => ?_)
          · refine lv_iload_n hx hb dX9_most_128 rfl (lv_at hl 4 rfl) ?_
            exact j_48 _ _ _ _ ⟨g_12, rfl, hP, hD, hS, lv_sub hl [1, 2, 3, 4, 5, 6, 7, 0] rfl⟩
          · refine lv_iload hx hb dX9_most_109 (lv_at hl 0 rfl) ?_
            refine lv_if_eq (tgt := 128) hx hb dX9_most_111 (by decide) (fun c_50 => ?_) (fun c_50 => ?_)
            · have c_50 : g_43 = 0 := (nI_eq (a := g_43) (b := 0) (Nat.lt_of_le_of_lt hg_43 (Nat.le_of_ble_eq_true rfl)) (Nat.le_of_ble_eq_true rfl)).mp c_50
              refine lv_iload_n hx hb dX9_most_128 rfl (lv_at hl 4 rfl) ?_
              exact j_48 _ _ _ _ ⟨g_12, rfl, hP, hD, hS, lv_sub hl [1, 2, 3, 4, 5, 6, 7, 0] rfl⟩
            · have c_50 : ¬ g_43 = 0 := fun z => c_50 ((nI_eq (a := g_43) (b := 0) (Nat.lt_of_le_of_lt hg_43 (Nat.le_of_ble_eq_true rfl)) (Nat.le_of_ble_eq_true rfl)).mpr z)
              refine lv_iload_n hx hb dX9_most_114 rfl (lv_at hl 4 rfl) ?_
              refine lv_aload_n hx hb dX9_most_115 rfl (lv_at hl 1 rfl) ?_
              refine va_get (D := (dC, dI)) (ci := 9) (v := .ref (ad 11)) (C := RX9) (T := TX9) (N := 67) hx hb hts hiX9 hown hK hP 0 rfl rfl 11 (by decide) v_14 (fun _ h9 => h9) rfl dX9_most_116 ?_
              refine lv_iload hx hb dX9_most_119 (lv_at hl 7 rfl) ?_
              refine va_iald hx hb hK hP 11 10 rfl rfl (vp_in_nI (n := (80 * x16 + (56 + 3 * (g_4 - 100)) + g_13)) (by omega) (Nat.le_of_ble_eq_true rfl)) dX9_most_121 ?_
              refine lv_topi (fun y_51 ey_51 => ?_)
              refine va_calli (va_runS (As := [.int g_12, .int y_51]) (rest := []) ⟨hx, hb, hml, hown, hts⟩ (c_X9_greater l dC dI _ g_12 y_51) (va_cwS 2 hts g_M_most_X9_greater rfl rfl rfl (by decide +kernel) ⟨Nat.le_of_ble_eq_true rfl, Nat.le_of_ble_eq_true rfl⟩) ⟨pu_bl, pu_in (hP.sub [] rfl) (hK.sub [] rfl) (hD.sub [] (by decide) rfl)⟩ rfl rfl hl.1 rfl (lv_room (Nat.le_of_ble_eq_true rfl)) dX9_most_122 ⟨Nat.le_of_ble_eq_true rfl, Nat.le_of_ble_eq_true rfl⟩) hS (fun q _ h => pu_fr hS hA q h) (pu_fr hS hA) (fun r_52 u t H1 locs ht hvm hw hB hz1 hk1 hS => ?_)
              have hP := pu_keep hP hk1
              clear hk1 hz1 ht hvm
              generalize H1 = H at hP hS ⊢
              clear hw
              refine lv_goto (tgt := 129) hx hb dX9_most_125 (by decide) ?_
              exact j_48 _ _ _ _ ⟨r_52, rfl, hP, hD, hS, lv_sub hl [1, 2, 3, 4, 5, 6, 7, 0] rfl⟩
        refine lv_if_eq (tgt := 91) hx hb dX9_most_47 (by decide) (fun c_53 => ?_) (fun c_53 => ?_)
        · refine lv_iconst (v := 1) hx hb dX9_most_91 (by decide) ?_
          refine lv_goto (tgt := 96) hx hb dX9_most_92 (by decide) ?_
          exact j_44 _ _ _ _ ⟨1, rfl, (Nat.le_of_ble_eq_true rfl), hP, hD, hS, lv_sub hl [1, 2, 3, 4, 5, 6, 0] rfl⟩
        · refine lv_aload_n hx hb dX9_most_50 rfl (lv_at hl 1 rfl) ?_
          refine va_get (D := (dC, dI)) (ci := 9) (v := .ref (ad 10)) (C := RX9) (T := TX9) (N := 67) hx hb hts hiX9 hown hK hP 0 rfl rfl 10 (by decide) v_12 (fun _ h9 => h9) rfl dX9_most_51 ?_
          refine lv_iload hx hb dX9_most_54 (lv_at hl 0 rfl) ?_
          refine va_iald hx hb hK hP 10 9 rfl rfl (vp_in_nI (n := (80 * x16 + (56 + 3 * (g_4 - 100)) + g_13)) (by omega) (Nat.le_of_ble_eq_true rfl)) dX9_most_56 ?_
          refine lv_topi (fun y_54 ey_54 => ?_)
          obtain ⟨u_55, hu_55, qu_55⟩ := bH_get q10 (i := (80 * x16 + (56 + 3 * (g_4 - 100)) + g_13)) (by omega)
          obtain rfl : y_54 = nI u_55 := ey_54.trans qu_55
          refine lv_iconst (v := 2) hx hb dX9_most_57 (by decide) ?_
          refine lv_icmp_eq (tgt := 91) hx hb dX9_most_58 (by decide) (fun c_56 => ?_) (fun c_56 => ?_)
          · have c_56 : u_55 = 2 := (nI_eq (a := u_55) (b := 2) (by omega) (Nat.le_of_ble_eq_true rfl)).mp c_56
            refine lv_iconst (v := 1) hx hb dX9_most_91 (by decide) ?_
            refine lv_goto (tgt := 96) hx hb dX9_most_92 (by decide) ?_
            exact j_44 _ _ _ _ ⟨1, rfl, (Nat.le_of_ble_eq_true rfl), hP, hD, hS, lv_sub hl [1, 2, 3, 4, 5, 6, 0] rfl⟩
          · have c_56 : ¬ u_55 = 2 := fun z => c_56 ((nI_eq (a := u_55) (b := 2) (by omega) (Nat.le_of_ble_eq_true rfl)).mpr z)
            refine lv_iload_n hx hb dX9_most_61 rfl (lv_at hl 3 rfl) ?_
            refine lv_iconst (v := 1) hx hb dX9_most_62 (by decide) ?_
            refine lv_icmp_ne (tgt := 80) hx hb dX9_most_63 (by decide) (fun c_57 => ?_) (fun c_57 => ?_)
            · refine lv_aload_n hx hb dX9_most_80 rfl (lv_at hl 1 rfl) ?_
              refine va_get (D := (dC, dI)) (ci := 9) (v := .ref (ad 10)) (C := RX9) (T := TX9) (N := 67) hx hb hts hiX9 hown hK hP 0 rfl rfl 10 (by decide) v_12 (fun _ h9 => h9) rfl dX9_most_81 ?_
              refine lv_iload hx hb dX9_most_84 (lv_at hl 0 rfl) ?_
              refine va_iald hx hb hK hP 10 9 rfl rfl (vp_in_nI (n := (80 * x16 + (56 + 3 * (g_4 - 100)) + g_13)) (by omega) (Nat.le_of_ble_eq_true rfl)) dX9_most_86 ?_
              refine lv_topi (fun y_58 ey_58 => ?_)
              obtain rfl : y_58 = nI u_55 := ey_58.trans qu_55
              refine lv_iconst (v := 2) hx hb dX9_most_87 (by decide) ?_
              refine lv_icmp_ge (tgt := 95) hx hb dX9_most_88 (by decide) (fun c_60 => ?_) (fun c_60 => ?_)
              · have c_60 : 2 ≤ u_55 := (nI_leI (a := 2) (b := u_55) (Nat.le_of_ble_eq_true rfl) (by omega)).mp c_60
                refine lv_iconst (v := 0) hx hb dX9_most_95 (by decide) ?_
                exact j_44 _ _ _ _ ⟨0, rfl, (Nat.le_of_ble_eq_true rfl), hP, hD, hS, lv_sub hl [1, 2, 3, 4, 5, 6, 0] rfl⟩
              · have c_60 : ¬ 2 ≤ u_55 := fun z => c_60 ((nI_leI (a := 2) (b := u_55) (Nat.le_of_ble_eq_true rfl) (by omega)).mpr z)
                refine lv_iconst (v := 1) hx hb dX9_most_91 (by decide) ?_
                refine lv_goto (tgt := 96) hx hb dX9_most_92 (by decide) ?_
                exact j_44 _ _ _ _ ⟨1, rfl, (Nat.le_of_ble_eq_true rfl), hP, hD, hS, lv_sub hl [1, 2, 3, 4, 5, 6, 0] rfl⟩
            · refine lv_aload_n hx hb dX9_most_66 rfl (lv_at hl 1 rfl) ?_
              refine va_get (D := (dC, dI)) (ci := 9) (v := .ref (ad 10)) (C := RX9) (T := TX9) (N := 67) hx hb hts hiX9 hown hK hP 0 rfl rfl 10 (by decide) v_12 (fun _ h9 => h9) rfl dX9_most_67 ?_
              refine lv_iload hx hb dX9_most_70 (lv_at hl 0 rfl) ?_
              refine va_iald hx hb hK hP 10 9 rfl rfl (vp_in_nI (n := (80 * x16 + (56 + 3 * (g_4 - 100)) + g_13)) (by omega) (Nat.le_of_ble_eq_true rfl)) dX9_most_72 ?_
              refine lv_topi (fun y_61 ey_61 => ?_)
              obtain rfl : y_61 = nI u_55 := ey_61.trans qu_55
              refine lv_iconst (v := 2) hx hb dX9_most_73 (by decide) ?_
              refine lv_icmp_le (tgt := 95) hx hb dX9_most_74 (by decide) (fun c_63 => ?_) (fun c_63 => ?_)
              · have c_63 : u_55 ≤ 2 := (nI_leI (a := u_55) (b := 2) (by omega) (Nat.le_of_ble_eq_true rfl)).mp c_63
                refine lv_iconst (v := 0) hx hb dX9_most_95 (by decide) ?_
                exact j_44 _ _ _ _ ⟨0, rfl, (Nat.le_of_ble_eq_true rfl), hP, hD, hS, lv_sub hl [1, 2, 3, 4, 5, 6, 0] rfl⟩
              · have c_63 : ¬ u_55 ≤ 2 := fun z => c_63 ((nI_leI (a := u_55) (b := 2) (by omega) (Nat.le_of_ble_eq_true rfl)).mpr z)
                refine lv_goto (tgt := 91) hx hb dX9_most_77 (by decide) ?_
                refine lv_iconst (v := 1) hx hb dX9_most_91 (by decide) ?_
                refine lv_goto (tgt := 96) hx hb dX9_most_92 (by decide) ?_
                exact j_44 _ _ _ _ ⟨1, rfl, (Nat.le_of_ble_eq_true rfl), hP, hD, hS, lv_sub hl [1, 2, 3, 4, 5, 6, 0] rfl⟩
theorem dX9_limit_0 : decode cX9_limit 0 = .ok (.aload_n 0, 1) := by decide +kernel
theorem dX9_limit_1 : decode cX9_limit 1 = .ok (.iconst 0, 1) := by decide +kernel
theorem dX9_limit_2 : decode cX9_limit 2 = .ok (.putfield 142, 3) := by decide +kernel
theorem dX9_limit_5 : decode cX9_limit 5 = .ok (.aload_n 0, 1) := by decide +kernel
theorem dX9_limit_6 : decode cX9_limit 6 = .ok (.iload_n 1, 1) := by decide +kernel
theorem dX9_limit_7 : decode cX9_limit 7 = .ok (.invokevirtual 314, 3) := by decide +kernel
theorem dX9_limit_10 : decode cX9_limit 10 = .ok (.ifCond .eq 21, 3) := by decide +kernel
theorem dX9_limit_13 : decode cX9_limit 13 = .ok (.iload_n 2, 1) := by decide +kernel
theorem dX9_limit_14 : decode cX9_limit 14 = .ok (.iconst 0, 1) := by decide +kernel
theorem dX9_limit_15 : decode cX9_limit 15 = .ok (.iconst 2, 1) := by decide +kernel
theorem dX9_limit_16 : decode cX9_limit 16 = .ok (.invokestatic 152, 3) := by decide +kernel
theorem dX9_limit_19 : decode cX9_limit 19 = .ok (.ifCond .eq 12, 3) := by decide +kernel
theorem dX9_limit_22 : decode cX9_limit 22 = .ok (.aload_n 0, 1) := by decide +kernel
theorem dX9_limit_23 : decode cX9_limit 23 = .ok (.iload_n 1, 1) := by decide +kernel
theorem dX9_limit_24 : decode cX9_limit 24 = .ok (.iload_n 2, 1) := by decide +kernel
theorem dX9_limit_25 : decode cX9_limit 25 = .ok (.invokevirtual 317, 3) := by decide +kernel
theorem dX9_limit_28 : decode cX9_limit 28 = .ok (.goto 4, 3) := by decide +kernel
theorem dX9_limit_31 : decode cX9_limit 31 = .ok (.iconst (-1), 1) := by decide +kernel
theorem dX9_limit_32 : decode cX9_limit 32 = .ok (.ireturn, 1) := by decide +kernel
abbrev vs_M_limit : List Cond := .code yX9_limit cX9_limit 3 (some .int) :: VM
theorem g_M_limit_X9_in : GoodIn vs_M_limit (va_wsS RX9 152 yX9_in vs_X9_in) := gm_0 (fun w h => by
  rcases List.mem_cons.mp h with rfl | h
  · exact vm_153
  rcases List.mem_cons.mp h with rfl | h
  · exact vm_154
  rcases List.mem_cons.mp h with rfl | h
  · exact vm_12
  rcases List.mem_cons.mp h with rfl | h
  · exact vm_14
  exact absurd h (List.not_mem_nil))
theorem g_M_limit_M_isClock : GoodIn vs_M_limit (wsV RX9 314 RX9 yX9_isClock vs_M_isClock) := gm_V vm_190 vm_191 vm_192 vm_12 vm_149
theorem g_M_limit_M_most : GoodIn vs_M_limit (wsV RX9 317 RX9 yX9_most vs_M_most) := gm_V vm_193 vm_194 vm_195 vm_12 vm_188
set_option maxHeartbeats 4000000 in
set_option maxRecDepth 100000 in
theorem c_M_limit (l : Launch) (dC : Nat → ClassId) (dI : Nat → Nat → Nat) (sz : Nat) (ad : Nat → Nat) (ck : Nat → ClassId) (x0 : Int32) (x16 : Nat) (x18 : Nat) (x19 : Nat) (x20 : Int32) (x21 : Nat) (x22 : Nat) (x23 : Int32) (x24 : Int32) (x25 : Int32) (x26 : Nat) (x27 : Int32) (x28 : Nat) (x29 : Nat) (x30 : Nat) (x33 : Nat) (x45 : Int32) (x46 : Nat) (x52 : Nat) (x53 : Nat) (x61 : Nat) (x62 : Nat) (x63 : Nat) (x65 : Nat) (x66 : Int32) (f1 : Nat → Int32) (f2 : Nat → Int32) (f3 : Nat → Int32) (q4 : Nat → Nat) (q5 : Nat → Nat) (q6 : Nat → Nat) (q7 : Nat → Nat) (f8 : Nat → Int32) (q9 : Nat → Nat) (q10 : Nat → Nat) (f11 : Nat → Int32) (m12_0 m12_1 : Nat) (m13_0 m13_1 : Nat) (m14_0 m14_1 : Nat) (m15_0 m15_1 : Nat) (f17 : Nat → Int32) (q31 : Nat → Nat) (f32 : Nat → Int32) (f34 : Nat → Int32) (f35 : Nat → Int32) (f36 : Nat → Int32) (f37 : Nat → Int32) (q38 : Nat → Nat) (f39 : Nat → Int32) (f40 : Nat → Int32) (f41 : Nat → Int32) (m42_0 m42_1 : Nat) (f43 : Nat → Int32) (f44 : Nat → Int32) (f47 : Nat → Int32) (f48 : Nat → Int32) (f49 : Nat → Int32) (f50 : Nat → Int32) (f51 : Nat → Int32) (q54 : Nat → Nat) (q55 : Nat → Nat) (q56 : Nat → Nat) (f57 : Nat → Int32) (q58 : Nat → Nat) (f59 : Nat → Int32) (f60 : Nat → Int32) (f64 : Nat → Int32) (p0 : Int32) (p1 : Int32) (hx16 : x16 ≤ 1) (hx18 : x18 ≤ 900) (hx19 : x19 ≤ 900) (hx21 : x21 ≤ 900) (hx22 : x22 ≤ 4) (hx26 : x26 ≤ 6) (hx28 : x28 ≤ 1) (hx29 : x29 ≤ 1) (hx30 : x30 ≤ 1) (hx33 : x33 ≤ 20) (hx46 : x46 ≤ 5) (hx52 : x52 ≤ 2400) (hx53 : x53 ≤ 119) (hx61 : x61 ≤ 119) (hx62 : x62 ≤ 2000) (hx63 : x63 ≤ 1) (hx65 : x65 ≤ 7) (hm12_0 : m12_0 ≤ 3) (hm12_1 : m12_1 ≤ 3) (hm13_0 : m13_0 ≤ 8) (hm13_1 : m13_1 ≤ 8) (hm14_0 : m14_0 ≤ 14) (hm14_1 : m14_1 ≤ 14) (hm15_0 : m15_0 ≤ 8) (hm15_1 : m15_1 ≤ 8) (hm42_0 : m42_0 ≤ 120) (hm42_1 : m42_1 ≤ 400) : Met l yX9_limit vs_M_limit ({ frames := 4, cells := 0, slots := 0, locals := 91 }) (va_Pc [.ref (ad 0), .int p0, .int p1] (pu_B (dC, dI) (mo_w ad ck x0 (nI x16) (nI x18) (nI x19) x20 (nI x21) (nI x22) x23 x24 x25 (nI x26) x27 (nI x28) (nI x29) (nI x30) (nI x33) x45 (nI x46) (nI x52) (nI x53) (nI x61) (nI x62) (nI x63) (nI x65) x66 f1 f2 f3 (bN 3 q4) (bN 7 q5) (bN 7 q6) (bN 4 q7) f8 (bN 2 q9) (bH q10) f11 (b2 m12_0 m12_1) (b2 m13_0 m13_1) (b2 m14_0 m14_1) (b2m m15_0 m15_1) f17 (bA 159 q31) f32 f34 f35 f36 f37 (bN 7 q38) f39 f40 f41 (b2 m42_0 m42_1) f43 f44 f47 f48 f49 f50 f51 (bN 13 q54) (bN 120 q55) (bN 120 q56) f57 (bN 120 q58) f59 f60 f64) (mo_t ck) sz)) (va_Qi (fun (r : Int32) (_ : Unit) => True) (fun _ t => ∃ (z0 : Int32), pu_E (dC, dI) (mo_w ad ck z0 (nI x16) (nI x18) (nI x19) x20 (nI x21) (nI x22) x23 x24 x25 (nI x26) x27 (nI x28) (nI x29) (nI x30) (nI x33) x45 (nI x46) (nI x52) (nI x53) (nI x61) (nI x62) (nI x63) (nI x65) x66 f1 f2 f3 (bN 3 q4) (bN 7 q5) (bN 7 q6) (bN 4 q7) f8 (bN 2 q9) (bH q10) f11 (b2 m12_0 m12_1) (b2 m13_0 m13_1) (b2 m14_0 m14_1) (b2m m15_0 m15_1) f17 (bA 159 q31) f32 f34 f35 f36 f37 (bN 7 q38) f39 f40 f41 (b2 m42_0 m42_1) f43 f44 f47 f48 f49 f50 f51 (bN 13 q54) (bN 120 q55) (bN 120 q56) f57 (bN 120 q58) f59 f60 f64) (mo_t ck) (va_A ((mo_w ad ck x0 (nI x16) (nI x18) (nI x19) x20 (nI x21) (nI x22) x23 x24 x25 (nI x26) x27 (nI x28) (nI x29) (nI x30) (nI x33) x45 (nI x46) (nI x52) (nI x53) (nI x61) (nI x62) (nI x63) (nI x65) x66 f1 f2 f3 (bN 3 q4) (bN 7 q5) (bN 7 q6) (bN 4 q7) f8 (bN 2 q9) (bH q10) f11 (b2 m12_0 m12_1) (b2 m13_0 m13_1) (b2 m14_0 m14_1) (b2m m15_0 m15_1) f17 (bA 159 q31) f32 f34 f35 f36 f37 (bN 7 q38) f39 f40 f41 (b2 m42_0 m42_1) f43 f44 f47 f48 f49 f50 f51 (bN 13 q54) (bN 120 q55) (bN 120 q56) f57 (bN 120 q58) f59 f60 f64)) sz) t) (va_A ((mo_w ad ck x0 (nI x16) (nI x18) (nI x19) x20 (nI x21) (nI x22) x23 x24 x25 (nI x26) x27 (nI x28) (nI x29) (nI x30) (nI x33) x45 (nI x46) (nI x52) (nI x53) (nI x61) (nI x62) (nI x63) (nI x65) x66 f1 f2 f3 (bN 3 q4) (bN 7 q5) (bN 7 q6) (bN 4 q7) f8 (bN 2 q9) (bH q10) f11 (b2 m12_0 m12_1) (b2 m13_0 m13_1) (b2 m14_0 m14_1) (b2m m15_0 m15_1) f17 (bA 159 q31) f32 f34 f35 f36 f37 (bN 7 q38) f39 f40 f41 (b2 m42_0 m42_1) f43 f44 f47 f48 f49 f50 f51 (bN 13 q54) (bN 120 q55) (bN 120 q56) f57 (bN 120 q58) f59 f60 f64)) sz)) 0 0 (va_A ((mo_w ad ck x0 (nI x16) (nI x18) (nI x19) x20 (nI x21) (nI x22) x23 x24 x25 (nI x26) x27 (nI x28) (nI x29) (nI x30) (nI x33) x45 (nI x46) (nI x52) (nI x53) (nI x61) (nI x62) (nI x63) (nI x65) x66 f1 f2 f3 (bN 3 q4) (bN 7 q5) (bN 7 q6) (bN 4 q7) f8 (bN 2 q9) (bH q10) f11 (b2 m12_0 m12_1) (b2 m13_0 m13_1) (b2 m14_0 m14_1) (b2m m15_0 m15_1) f17 (bA 159 q31) f32 f34 f35 f36 f37 (bN 7 q38) f39 f40 f41 (b2 m42_0 m42_1) f43 f44 f47 f48 f49 f50 f51 (bN 13 q54) (bN 120 q55) (bN 120 q56) f57 (bN 120 q58) f59 f60 f64)) sz) := by
  refine Met.ofW (cc := cX9_limit) (maxL := 3) (ret := (some .int)) (by decide) rfl ?_
  intro p e s m args below meth c s₁ B hml hv
  obtain ⟨rfl, rfl, hP, hK, hD0⟩ := hv
  have hx := B.exec
  have hb := B.bytes
  have hr := B.returns
  have hts := atoms_spec (ws := vs_M_limit) B.pre
  have v_1 := hts (.fieldLink RX9 142 "ClockReachModel" "thrown" "I") (List.mem_cons_of_mem _ vm_24)
  have hown : s.vm.findClass RX9 = some m.cls := findClass_of_methodNamed B.named
  have hlocks := B.notSynchronized
  have hiX9 : ∀ w ∈ wsX90, w ∈ vs_M_limit := fun _ h => List.mem_cons_of_mem _ (List.mem_append_right _ h)
  have hD := hD0.self (sz := s.heap.size)
  generalize hAe : va_A ((mo_w ad ck x0 (nI x16) (nI x18) (nI x19) x20 (nI x21) (nI x22) x23 x24 x25 (nI x26) x27 (nI x28) (nI x29) (nI x30) (nI x33) x45 (nI x46) (nI x52) (nI x53) (nI x61) (nI x62) (nI x63) (nI x65) x66 f1 f2 f3 (bN 3 q4) (bN 7 q5) (bN 7 q6) (bN 4 q7) f8 (bN 2 q9) (bH q10) f11 (b2 m12_0 m12_1) (b2 m13_0 m13_1) (b2 m14_0 m14_1) (b2m m15_0 m15_1) f17 (bA 159 q31) f32 f34 f35 f36 f37 (bN 7 q38) f39 f40 f41 (b2 m42_0 m42_1) f43 f44 f47 f48 f49 f50 f51 (bN 13 q54) (bN 120 q55) (bN 120 q56) f57 (bN 120 q58) f59 f60 f64)) s.heap.size = A at hD ⊢
  have hA : ∀ q : Nat, s.heap.size ≤ q → A q := fun q h => by rw [← hAe]; exact Or.inr h
  have hS : va_S A s.heap s.heap [] := va_S.rf
  have hl := lv_entry ([.ref (ad 0), .int p0, .int p1]) (n := 3) (Nat.le_of_ble_eq_true rfl)
  rw [lg_entry_eq]
  generalize (lg_sl ([.ref (ad 0), .int p0, .int p1]) ++ List.replicate (3 - (lg_sl ([.ref (ad 0), .int p0, .int p1])).length) Slot.unset).toArray = ls at hl ⊢
  have hl : lv_has ls 3 [(0, .ref (ad 0)), (1, .int p0), (2, .int p1)] := hl
  refine lv_aload_n hx hb dX9_limit_0 rfl (lv_at hl 0 rfl) ?_
  refine lv_iconst (v := 0) hx hb dX9_limit_1 (by decide) ?_
  refine va_put (D := (dC, dI)) (ci := 9) (v := .int 0) (ty := .int) (C := RX9) (T := TX9) (N := 67) hx hb hts hiX9 tyX9 tyX9_ok nmX9 hown hK hP hD hS 0 rfl rfl 0 (by decide) v_1 (fun _ h9 => h9) rfl (by decide +kernel) rfl rfl (Nat.le_of_ble_eq_true rfl) dX9_limit_2 (fun H locs hP hD hS => ?_)
  have hP : va_P (dC, dI) vwCl (mo_w ad ck 0 (nI x16) (nI x18) (nI x19) x20 (nI x21) (nI x22) x23 x24 x25 (nI x26) x27 (nI x28) (nI x29) (nI x30) (nI x33) x45 (nI x46) (nI x52) (nI x53) (nI x61) (nI x62) (nI x63) (nI x65) x66 f1 f2 f3 (bN 3 q4) (bN 7 q5) (bN 7 q6) (bN 4 q7) f8 (bN 2 q9) (bH q10) f11 (b2 m12_0 m12_1) (b2 m13_0 m13_1) (b2 m14_0 m14_1) (b2m m15_0 m15_1) f17 (bA 159 q31) f32 f34 f35 f36 f37 (bN 7 q38) f39 f40 f41 (b2 m42_0 m42_1) f43 f44 f47 f48 f49 f50 f51 (bN 13 q54) (bN 120 q55) (bN 120 q56) f57 (bN 120 q58) f59 f60 f64) H := hP
  have hD : va_D A (mo_w ad ck 0 (nI x16) (nI x18) (nI x19) x20 (nI x21) (nI x22) x23 x24 x25 (nI x26) x27 (nI x28) (nI x29) (nI x30) (nI x33) x45 (nI x46) (nI x52) (nI x53) (nI x61) (nI x62) (nI x63) (nI x65) x66 f1 f2 f3 (bN 3 q4) (bN 7 q5) (bN 7 q6) (bN 4 q7) f8 (bN 2 q9) (bH q10) f11 (b2 m12_0 m12_1) (b2 m13_0 m13_1) (b2 m14_0 m14_1) (b2m m15_0 m15_1) f17 (bA 159 q31) f32 f34 f35 f36 f37 (bN 7 q38) f39 f40 f41 (b2 m42_0 m42_1) f43 f44 f47 f48 f49 f50 f51 (bN 13 q54) (bN 120 q55) (bN 120 q56) f57 (bN 120 q58) f59 f60 f64) := hD
  refine lv_aload_n hx hb dX9_limit_5 rfl (lv_at hl 0 rfl) ?_
  refine lv_iload_n hx hb dX9_limit_6 rfl (lv_at hl 1 rfl) ?_
  refine va_calli (va_runV (As := [.int p0]) (rest := []) ⟨hx, hb, hml, hown, hts⟩ (c_M_isClock l dC dI _ ad ck 0 x16 x18 x19 x20 x21 x22 x23 x24 x25 x26 x27 x28 x29 x30 x33 x45 x46 x52 x53 x61 x62 x63 x65 x66 f1 f2 f3 q4 q5 q6 q7 f8 q9 q10 f11 m12_0 m12_1 m13_0 m13_1 m14_0 m14_1 m15_0 m15_1 f17 q31 f32 f34 f35 f36 f37 q38 f39 f40 f41 m42_0 m42_1 f43 f44 f47 f48 f49 f50 f51 q54 q55 q56 f57 q58 f59 f60 f64 p0 hx16 hx18 hx19 hx21 hx22 hx26 hx28 hx29 hx30 hx33 hx46 hx52 hx53 hx61 hx62 hx63 hx65 hm12_0 hm12_1 hm13_0 hm13_1 hm14_0 hm14_1 hm15_0 hm15_1 hm42_0 hm42_1) (cwV 1 hts g_M_limit_M_isClock rfl rfl rfl (by decide +kernel) ⟨Nat.le_of_ble_eq_true rfl, Nat.le_of_ble_eq_true rfl⟩) ⟨pu_bl, va_recv hK hP (ci := 9) (q0 := 0) rfl rfl, pu_in hP hK hD⟩ rfl rfl hl.1 rfl (lv_room (Nat.le_of_ble_eq_true rfl)) dX9_limit_7 ⟨Nat.le_of_ble_eq_true rfl, Nat.le_of_ble_eq_true rfl⟩) hS (fun q _ h => pu_fr hS hA q h) (pu_fr hS hA) (fun r_1 u t H1 locs ht hvm hw hB hz1 hk1 hS => ?_)
  have hP := pu_keep hP hk1
  clear hk1 hz1 ht hvm
  generalize H1 = H at hP hS ⊢
  rcases hw with ⟨rfl, hw⟩ | rfl
  · obtain ⟨n_2, hn_2, rfl⟩ := hw
    refine lv_if_eq (tgt := 31) hx hb dX9_limit_10 (by decide) (fun z => absurd z (by decide)) (fun _ => ?_)
    refine lv_iload_n hx hb dX9_limit_13 rfl (lv_at hl 2 rfl) ?_
    refine lv_iconst (v := 0) hx hb dX9_limit_14 (by decide) ?_
    refine lv_iconst (v := 2) hx hb dX9_limit_15 (by decide) ?_
    refine va_calli (va_runS (As := [.int p1, .int 0, .int 2]) (rest := []) ⟨hx, hb, hml, hown, hts⟩ (c_X9_in l dC dI _ p1 0 2) (va_cwS 3 hts g_M_limit_X9_in rfl rfl rfl (by decide +kernel) ⟨Nat.le_of_ble_eq_true rfl, Nat.le_of_ble_eq_true rfl⟩) ⟨pu_bl, pu_in (hP.sub [] rfl) (hK.sub [] rfl) (hD.sub [] (by decide) rfl)⟩ rfl rfl hl.1 rfl (lv_room (Nat.le_of_ble_eq_true rfl)) dX9_limit_16 ⟨Nat.le_of_ble_eq_true rfl, Nat.le_of_ble_eq_true rfl⟩) hS (fun q _ h => pu_fr hS hA q h) (pu_fr hS hA) (fun r_3 u t H1 locs ht hvm hw hB hz1 hk1 hS => ?_)
    have hP := pu_keep hP hk1
    clear hk1 hz1 ht hvm
    generalize H1 = H at hP hS ⊢
    rcases hw with ⟨rfl, hi1, hi2⟩ | ⟨rfl, hi3⟩
    · obtain ⟨n_4, hn_4, rfl⟩ := pu_in0 (n := 2) (by omega) hi1 hi2
      refine lv_if_eq (tgt := 31) hx hb dX9_limit_19 (by decide) (fun z => absurd z (by decide)) (fun _ => ?_)
      refine lv_aload_n hx hb dX9_limit_22 rfl (lv_at hl 0 rfl) ?_
      refine lv_iload_n hx hb dX9_limit_23 rfl (lv_at hl 1 rfl) ?_
      refine lv_iload_n hx hb dX9_limit_24 rfl (lv_at hl 2 rfl) ?_
      refine va_calli (va_runV (As := [.int (nI n_2), .int (nI n_4)]) (rest := []) ⟨hx, hb, hml, hown, hts⟩ (c_M_most l dC dI _ ad ck 0 x16 x18 x19 x20 x21 x22 x23 x24 x25 x26 x27 x28 x29 x30 x33 x45 x46 x52 x53 x61 x62 x63 x65 x66 f1 f2 f3 q4 q5 q6 q7 f8 q9 q10 f11 m12_0 m12_1 m13_0 m13_1 m14_0 m14_1 m15_0 m15_1 f17 q31 f32 f34 f35 f36 f37 q38 f39 f40 f41 m42_0 m42_1 f43 f44 f47 f48 f49 f50 f51 q54 q55 q56 f57 q58 f59 f60 f64 (nI n_2) (nI n_4) hx16 hx18 hx19 hx21 hx22 hx26 hx28 hx29 hx30 hx33 hx46 hx52 hx53 hx61 hx62 hx63 hx65 hm12_0 hm12_1 hm13_0 hm13_1 hm14_0 hm14_1 hm15_0 hm15_1 hm42_0 hm42_1) (cwV 2 hts g_M_limit_M_most rfl rfl rfl (by decide +kernel) ⟨Nat.le_of_ble_eq_true rfl, Nat.le_of_ble_eq_true rfl⟩) ⟨pu_bl, va_recv hK hP (ci := 9) (q0 := 0) rfl rfl, pu_in hP hK hD⟩ rfl rfl hl.1 rfl (lv_room (Nat.le_of_ble_eq_true rfl)) dX9_limit_25 ⟨Nat.le_of_ble_eq_true rfl, Nat.le_of_ble_eq_true rfl⟩) hS (fun q _ h => pu_fr hS hA q h) (pu_fr hS hA) (fun r_5 u t H1 locs ht hvm hw hB hz1 hk1 hS => ?_)
      have hP := pu_keep hP hk1
      clear hk1 hz1 ht hvm
      generalize H1 = H at hP hS ⊢
      refine lv_goto (tgt := 32) hx hb dX9_limit_28 (by decide) ?_
      exact W.iret (v := r_5) hx hb hr (fun t ht hW => ⟨⟨r_5, (), rfl, trivial, ⟨0, ⟨by rw [ht]; exact hP, va_K.moved hW.alike hK, hD⟩⟩⟩, hS.F ht⟩) hS.2.2 dX9_limit_32
    · refine lv_if_eq (tgt := 31) hx hb dX9_limit_19 (by decide) (fun _ => ?_) (fun z => absurd z (by decide))
      refine lv_iconst (v := (-1)) hx hb dX9_limit_31 (by decide) ?_
      exact W.iret (v := (-1)) hx hb hr (fun t ht hW => ⟨⟨(-1), (), rfl, trivial, ⟨0, ⟨by rw [ht]; exact hP, va_K.moved hW.alike hK, hD⟩⟩⟩, hS.F ht⟩) hS.2.2 dX9_limit_32
  · refine lv_if_eq (tgt := 31) hx hb dX9_limit_10 (by decide) (fun _ => ?_) (fun z => absurd z (by decide))
    refine lv_iconst (v := (-1)) hx hb dX9_limit_31 (by decide) ?_
    exact W.iret (v := (-1)) hx hb hr (fun t ht hW => ⟨⟨(-1), (), rfl, trivial, ⟨0, ⟨by rw [ht]; exact hP, va_K.moved hW.alike hK, hD⟩⟩⟩, hS.F ht⟩) hS.2.2 dX9_limit_32
theorem dX9_keepAct_0 : decode cX9_keepAct 0 = .ok (.aload_n 0, 1) := by decide +kernel
theorem dX9_keepAct_1 : decode cX9_keepAct 1 = .ok (.getfield 267, 3) := by decide +kernel
theorem dX9_keepAct_4 : decode cX9_keepAct 4 = .ok (.bipush 20, 2) := by decide +kernel
theorem dX9_keepAct_6 : decode cX9_keepAct 6 = .ok (.if_icmp .ne 55, 3) := by decide +kernel
theorem dX9_keepAct_9 : decode cX9_keepAct 9 = .ok (.iconst 1, 1) := by decide +kernel
theorem dX9_keepAct_10 : decode cX9_keepAct 10 = .ok (.istore_n 3, 1) := by decide +kernel
theorem dX9_keepAct_11 : decode cX9_keepAct 11 = .ok (.iload_n 3, 1) := by decide +kernel
theorem dX9_keepAct_12 : decode cX9_keepAct 12 = .ok (.bipush 20, 2) := by decide +kernel
theorem dX9_keepAct_14 : decode cX9_keepAct 14 = .ok (.if_icmp .ge 37, 3) := by decide +kernel
theorem dX9_keepAct_17 : decode cX9_keepAct 17 = .ok (.aload_n 0, 1) := by decide +kernel
theorem dX9_keepAct_18 : decode cX9_keepAct 18 = .ok (.getfield 62, 3) := by decide +kernel
theorem dX9_keepAct_21 : decode cX9_keepAct 21 = .ok (.iload_n 3, 1) := by decide +kernel
theorem dX9_keepAct_22 : decode cX9_keepAct 22 = .ok (.iconst 1, 1) := by decide +kernel
theorem dX9_keepAct_23 : decode cX9_keepAct 23 = .ok (.isub, 1) := by decide +kernel
theorem dX9_keepAct_24 : decode cX9_keepAct 24 = .ok (.aload_n 0, 1) := by decide +kernel
theorem dX9_keepAct_25 : decode cX9_keepAct 25 = .ok (.getfield 62, 3) := by decide +kernel
theorem dX9_keepAct_28 : decode cX9_keepAct 28 = .ok (.iload_n 3, 1) := by decide +kernel
theorem dX9_keepAct_29 : decode cX9_keepAct 29 = .ok (.iaload, 1) := by decide +kernel
theorem dX9_keepAct_30 : decode cX9_keepAct 30 = .ok (.iastore, 1) := by decide +kernel
theorem dX9_keepAct_31 : decode cX9_keepAct 31 = .ok (.aload_n 0, 1) := by decide +kernel
theorem dX9_keepAct_32 : decode cX9_keepAct 32 = .ok (.getfield 65, 3) := by decide +kernel
theorem dX9_keepAct_35 : decode cX9_keepAct 35 = .ok (.iload_n 3, 1) := by decide +kernel
theorem dX9_keepAct_36 : decode cX9_keepAct 36 = .ok (.iconst 1, 1) := by decide +kernel
theorem dX9_keepAct_37 : decode cX9_keepAct 37 = .ok (.isub, 1) := by decide +kernel
theorem dX9_keepAct_38 : decode cX9_keepAct 38 = .ok (.aload_n 0, 1) := by decide +kernel
theorem dX9_keepAct_39 : decode cX9_keepAct 39 = .ok (.getfield 65, 3) := by decide +kernel
theorem dX9_keepAct_42 : decode cX9_keepAct 42 = .ok (.iload_n 3, 1) := by decide +kernel
theorem dX9_keepAct_43 : decode cX9_keepAct 43 = .ok (.iaload, 1) := by decide +kernel
theorem dX9_keepAct_44 : decode cX9_keepAct 44 = .ok (.iastore, 1) := by decide +kernel
theorem dX9_keepAct_45 : decode cX9_keepAct 45 = .ok (.iinc 3 1, 3) := by decide +kernel
theorem dX9_keepAct_48 : decode cX9_keepAct 48 = .ok (.goto (-37), 3) := by decide +kernel
theorem dX9_keepAct_51 : decode cX9_keepAct 51 = .ok (.aload_n 0, 1) := by decide +kernel
theorem dX9_keepAct_52 : decode cX9_keepAct 52 = .ok (.dup, 1) := by decide +kernel
theorem dX9_keepAct_53 : decode cX9_keepAct 53 = .ok (.getfield 267, 3) := by decide +kernel
theorem dX9_keepAct_56 : decode cX9_keepAct 56 = .ok (.iconst 1, 1) := by decide +kernel
theorem dX9_keepAct_57 : decode cX9_keepAct 57 = .ok (.isub, 1) := by decide +kernel
theorem dX9_keepAct_58 : decode cX9_keepAct 58 = .ok (.putfield 267, 3) := by decide +kernel
theorem dX9_keepAct_61 : decode cX9_keepAct 61 = .ok (.aload_n 0, 1) := by decide +kernel
theorem dX9_keepAct_62 : decode cX9_keepAct 62 = .ok (.getfield 62, 3) := by decide +kernel
theorem dX9_keepAct_65 : decode cX9_keepAct 65 = .ok (.aload_n 0, 1) := by decide +kernel
theorem dX9_keepAct_66 : decode cX9_keepAct 66 = .ok (.getfield 267, 3) := by decide +kernel
theorem dX9_keepAct_69 : decode cX9_keepAct 69 = .ok (.iload_n 1, 1) := by decide +kernel
theorem dX9_keepAct_70 : decode cX9_keepAct 70 = .ok (.iastore, 1) := by decide +kernel
theorem dX9_keepAct_71 : decode cX9_keepAct 71 = .ok (.aload_n 0, 1) := by decide +kernel
theorem dX9_keepAct_72 : decode cX9_keepAct 72 = .ok (.getfield 65, 3) := by decide +kernel
theorem dX9_keepAct_75 : decode cX9_keepAct 75 = .ok (.aload_n 0, 1) := by decide +kernel
theorem dX9_keepAct_76 : decode cX9_keepAct 76 = .ok (.getfield 267, 3) := by decide +kernel
theorem dX9_keepAct_79 : decode cX9_keepAct 79 = .ok (.iload_n 2, 1) := by decide +kernel
theorem dX9_keepAct_80 : decode cX9_keepAct 80 = .ok (.iastore, 1) := by decide +kernel
theorem dX9_keepAct_81 : decode cX9_keepAct 81 = .ok (.aload_n 0, 1) := by decide +kernel
theorem dX9_keepAct_82 : decode cX9_keepAct 82 = .ok (.dup, 1) := by decide +kernel
theorem dX9_keepAct_83 : decode cX9_keepAct 83 = .ok (.getfield 267, 3) := by decide +kernel
theorem dX9_keepAct_86 : decode cX9_keepAct 86 = .ok (.iconst 1, 1) := by decide +kernel
theorem dX9_keepAct_87 : decode cX9_keepAct 87 = .ok (.iadd, 1) := by decide +kernel
theorem dX9_keepAct_88 : decode cX9_keepAct 88 = .ok (.putfield 267, 3) := by decide +kernel
theorem dX9_keepAct_91 : decode cX9_keepAct 91 = .ok (.aload_n 0, 1) := by decide +kernel
theorem dX9_keepAct_92 : decode cX9_keepAct 92 = .ok (.invokevirtual 270, 3) := by decide +kernel
theorem dX9_keepAct_95 : decode cX9_keepAct 95 = .ok (.return_, 1) := by decide +kernel
abbrev vs_M_keepAct : List Cond := .code yX9_keepAct cX9_keepAct 4 none :: VM
theorem g_M_keepAct_M_another : GoodIn vs_M_keepAct (wsV RX9 270 RX9 yX9_another vs_M_another) := gm_V vm_146 vm_147 vm_148 vm_12 vm_17
set_option maxHeartbeats 4000000 in
set_option maxRecDepth 100000 in
theorem c_M_keepAct (l : Launch) (dC : Nat → ClassId) (dI : Nat → Nat → Nat) (sz : Nat) (ad : Nat → Nat) (ck : Nat → ClassId) (x0 : Int32) (x16 : Nat) (x18 : Nat) (x19 : Nat) (x20 : Int32) (x21 : Nat) (x22 : Nat) (x23 : Int32) (x24 : Int32) (x25 : Int32) (x26 : Nat) (x27 : Int32) (x28 : Nat) (x29 : Nat) (x30 : Nat) (x33 : Nat) (x45 : Int32) (x46 : Nat) (x52 : Nat) (x53 : Nat) (x61 : Nat) (x62 : Nat) (x63 : Nat) (x65 : Nat) (x66 : Int32) (f1 : Nat → Int32) (f2 : Nat → Int32) (f3 : Nat → Int32) (q4 : Nat → Nat) (q5 : Nat → Nat) (q6 : Nat → Nat) (q7 : Nat → Nat) (f8 : Nat → Int32) (q9 : Nat → Nat) (q10 : Nat → Nat) (f11 : Nat → Int32) (m12_0 m12_1 : Nat) (m13_0 m13_1 : Nat) (m14_0 m14_1 : Nat) (m15_0 m15_1 : Nat) (f17 : Nat → Int32) (q31 : Nat → Nat) (f32 : Nat → Int32) (f34 : Nat → Int32) (f35 : Nat → Int32) (f36 : Nat → Int32) (f37 : Nat → Int32) (q38 : Nat → Nat) (f39 : Nat → Int32) (f40 : Nat → Int32) (f41 : Nat → Int32) (m42_0 m42_1 : Nat) (f43 : Nat → Int32) (f44 : Nat → Int32) (f47 : Nat → Int32) (f48 : Nat → Int32) (f49 : Nat → Int32) (f50 : Nat → Int32) (f51 : Nat → Int32) (q54 : Nat → Nat) (q55 : Nat → Nat) (q56 : Nat → Nat) (f57 : Nat → Int32) (q58 : Nat → Nat) (f59 : Nat → Int32) (f60 : Nat → Int32) (f64 : Nat → Int32) (a0 : Nat) (p1 : Int32) (hx16 : x16 ≤ 1) (hx18 : x18 ≤ 900) (hx19 : x19 ≤ 900) (hx21 : x21 ≤ 900) (hx22 : x22 ≤ 4) (hx26 : x26 ≤ 6) (hx28 : x28 ≤ 1) (hx29 : x29 ≤ 1) (hx30 : x30 ≤ 1) (hx33 : x33 ≤ 20) (hx46 : x46 ≤ 5) (hx52 : x52 ≤ 2400) (hx53 : x53 ≤ 119) (hx61 : x61 ≤ 119) (hx62 : x62 ≤ 2000) (hx63 : x63 ≤ 1) (hx65 : x65 ≤ 7) (hm12_0 : m12_0 ≤ 3) (hm12_1 : m12_1 ≤ 3) (hm13_0 : m13_0 ≤ 8) (hm13_1 : m13_1 ≤ 8) (hm14_0 : m14_0 ≤ 14) (hm14_1 : m14_1 ≤ 14) (hm15_0 : m15_0 ≤ 8) (hm15_1 : m15_1 ≤ 8) (hm42_0 : m42_0 ≤ 120) (hm42_1 : m42_1 ≤ 400) (ha0 : a0 ≤ 1007) (hq0 : a0 ≤ 159 ∨ 1000 ≤ a0) : Met l yX9_keepAct vs_M_keepAct ({ frames := 1, cells := 0, slots := 0, locals := 20 }) (va_Pc [.ref (ad 0), .int (nI a0), .int p1] (pu_B (dC, dI) (mo_w ad ck x0 (nI x16) (nI x18) (nI x19) x20 (nI x21) (nI x22) x23 x24 x25 (nI x26) x27 (nI x28) (nI x29) (nI x30) (nI x33) x45 (nI x46) (nI x52) (nI x53) (nI x61) (nI x62) (nI x63) (nI x65) x66 f1 f2 f3 (bN 3 q4) (bN 7 q5) (bN 7 q6) (bN 4 q7) f8 (bN 2 q9) (bH q10) f11 (b2 m12_0 m12_1) (b2 m13_0 m13_1) (b2 m14_0 m14_1) (b2m m15_0 m15_1) f17 (bA 159 q31) f32 f34 f35 f36 f37 (bN 7 q38) f39 f40 f41 (b2 m42_0 m42_1) f43 f44 f47 f48 f49 f50 f51 (bN 13 q54) (bN 120 q55) (bN 120 q56) f57 (bN 120 q58) f59 f60 f64) (mo_t ck) sz)) (va_Qv (fun (_ : Unit) => True) (fun _ t => ∃ (z31 : Nat → Nat) (z32 : Nat → Int32) (z29 : Nat) (z30 : Nat) (z33 : Nat), pu_E (dC, dI) (mo_w ad ck x0 (nI x16) (nI x18) (nI x19) x20 (nI x21) (nI x22) x23 x24 x25 (nI x26) x27 (nI x28) (nI z29) (nI z30) (nI z33) x45 (nI x46) (nI x52) (nI x53) (nI x61) (nI x62) (nI x63) (nI x65) x66 f1 f2 f3 (bN 3 q4) (bN 7 q5) (bN 7 q6) (bN 4 q7) f8 (bN 2 q9) (bH q10) f11 (b2 m12_0 m12_1) (b2 m13_0 m13_1) (b2 m14_0 m14_1) (b2m m15_0 m15_1) f17 (bA 159 z31) z32 f34 f35 f36 f37 (bN 7 q38) f39 f40 f41 (b2 m42_0 m42_1) f43 f44 f47 f48 f49 f50 f51 (bN 13 q54) (bN 120 q55) (bN 120 q56) f57 (bN 120 q58) f59 f60 f64) (mo_t ck) (va_A ((mo_w ad ck x0 (nI x16) (nI x18) (nI x19) x20 (nI x21) (nI x22) x23 x24 x25 (nI x26) x27 (nI x28) (nI x29) (nI x30) (nI x33) x45 (nI x46) (nI x52) (nI x53) (nI x61) (nI x62) (nI x63) (nI x65) x66 f1 f2 f3 (bN 3 q4) (bN 7 q5) (bN 7 q6) (bN 4 q7) f8 (bN 2 q9) (bH q10) f11 (b2 m12_0 m12_1) (b2 m13_0 m13_1) (b2 m14_0 m14_1) (b2m m15_0 m15_1) f17 (bA 159 q31) f32 f34 f35 f36 f37 (bN 7 q38) f39 f40 f41 (b2 m42_0 m42_1) f43 f44 f47 f48 f49 f50 f51 (bN 13 q54) (bN 120 q55) (bN 120 q56) f57 (bN 120 q58) f59 f60 f64)) sz) t ∧ (z29 ≤ 1) ∧ (z30 ≤ 1) ∧ (z33 ≤ 20)) (va_A ((mo_w ad ck x0 (nI x16) (nI x18) (nI x19) x20 (nI x21) (nI x22) x23 x24 x25 (nI x26) x27 (nI x28) (nI x29) (nI x30) (nI x33) x45 (nI x46) (nI x52) (nI x53) (nI x61) (nI x62) (nI x63) (nI x65) x66 f1 f2 f3 (bN 3 q4) (bN 7 q5) (bN 7 q6) (bN 4 q7) f8 (bN 2 q9) (bH q10) f11 (b2 m12_0 m12_1) (b2 m13_0 m13_1) (b2 m14_0 m14_1) (b2m m15_0 m15_1) f17 (bA 159 q31) f32 f34 f35 f36 f37 (bN 7 q38) f39 f40 f41 (b2 m42_0 m42_1) f43 f44 f47 f48 f49 f50 f51 (bN 13 q54) (bN 120 q55) (bN 120 q56) f57 (bN 120 q58) f59 f60 f64)) sz)) 0 0 (va_A ((mo_w ad ck x0 (nI x16) (nI x18) (nI x19) x20 (nI x21) (nI x22) x23 x24 x25 (nI x26) x27 (nI x28) (nI x29) (nI x30) (nI x33) x45 (nI x46) (nI x52) (nI x53) (nI x61) (nI x62) (nI x63) (nI x65) x66 f1 f2 f3 (bN 3 q4) (bN 7 q5) (bN 7 q6) (bN 4 q7) f8 (bN 2 q9) (bH q10) f11 (b2 m12_0 m12_1) (b2 m13_0 m13_1) (b2 m14_0 m14_1) (b2m m15_0 m15_1) f17 (bA 159 q31) f32 f34 f35 f36 f37 (bN 7 q38) f39 f40 f41 (b2 m42_0 m42_1) f43 f44 f47 f48 f49 f50 f51 (bN 13 q54) (bN 120 q55) (bN 120 q56) f57 (bN 120 q58) f59 f60 f64)) sz) := by
  refine Met.ofW (cc := cX9_keepAct) (maxL := 4) (ret := none) (by decide) rfl ?_
  intro p e s m args below meth c s₁ B hml hv
  obtain ⟨rfl, rfl, hP, hK, hD0⟩ := hv
  have hx := B.exec
  have hb := B.bytes
  have hr := B.returns
  have hts := atoms_spec (ws := vs_M_keepAct) B.pre
  have v_1 := hts (.fieldLink RX9 267 "ClockReachModel" "acts" "I") (List.mem_cons_of_mem _ vm_145)
  have v_2 := hts (.fieldLink RX9 62 "ClockReachModel" "actOf" "[I") (List.mem_cons_of_mem _ vm_197)
  have v_3 := hts (.fieldLink RX9 65 "ClockReachModel" "actWas" "[I") (List.mem_cons_of_mem _ vm_198)
  have hown : s.vm.findClass RX9 = some m.cls := findClass_of_methodNamed B.named
  have hlocks := B.notSynchronized
  have hiX9 : ∀ w ∈ wsX90, w ∈ vs_M_keepAct := fun _ h => List.mem_cons_of_mem _ (List.mem_append_right _ h)
  have hD := hD0.self (sz := s.heap.size)
  generalize hAe : va_A ((mo_w ad ck x0 (nI x16) (nI x18) (nI x19) x20 (nI x21) (nI x22) x23 x24 x25 (nI x26) x27 (nI x28) (nI x29) (nI x30) (nI x33) x45 (nI x46) (nI x52) (nI x53) (nI x61) (nI x62) (nI x63) (nI x65) x66 f1 f2 f3 (bN 3 q4) (bN 7 q5) (bN 7 q6) (bN 4 q7) f8 (bN 2 q9) (bH q10) f11 (b2 m12_0 m12_1) (b2 m13_0 m13_1) (b2 m14_0 m14_1) (b2m m15_0 m15_1) f17 (bA 159 q31) f32 f34 f35 f36 f37 (bN 7 q38) f39 f40 f41 (b2 m42_0 m42_1) f43 f44 f47 f48 f49 f50 f51 (bN 13 q54) (bN 120 q55) (bN 120 q56) f57 (bN 120 q58) f59 f60 f64)) s.heap.size = A at hD ⊢
  have hA : ∀ q : Nat, s.heap.size ≤ q → A q := fun q h => by rw [← hAe]; exact Or.inr h
  have hS : va_S A s.heap s.heap [] := va_S.rf
  have hl := lv_entry ([.ref (ad 0), .int (nI a0), .int p1]) (n := 4) (Nat.le_of_ble_eq_true rfl)
  rw [lg_entry_eq]
  generalize (lg_sl ([.ref (ad 0), .int (nI a0), .int p1]) ++ List.replicate (4 - (lg_sl ([.ref (ad 0), .int (nI a0), .int p1])).length) Slot.unset).toArray = ls at hl ⊢
  have hl : lv_has ls 4 [(0, .ref (ad 0)), (1, .int (nI a0)), (2, .int p1)] := hl
  refine lv_aload_n hx hb dX9_keepAct_0 rfl (lv_at hl 0 rfl) ?_
  refine va_get (D := (dC, dI)) (ci := 9) (v := .int (nI x33)) (C := RX9) (T := TX9) (N := 67) hx hb hts hiX9 hown hK hP 0 rfl rfl 33 (by decide) v_1 (fun _ h9 => h9) rfl dX9_keepAct_1 ?_
  refine lv_bipush (v := 20) hx hb dX9_keepAct_4 (by decide) ?_
  refine pu_join (fun H locs ls st => ∃ (g_1 : Nat) (g_2 : Nat → Nat) (g_3 : Nat → Int32), st = [] ∧ g_1 ≤ 19 ∧ va_P (dC, dI) vwCl (mo_w ad ck x0 (nI x16) (nI x18) (nI x19) x20 (nI x21) (nI x22) x23 x24 x25 (nI x26) x27 (nI x28) (nI x29) (nI x30) (nI g_1) x45 (nI x46) (nI x52) (nI x53) (nI x61) (nI x62) (nI x63) (nI x65) x66 f1 f2 f3 (bN 3 q4) (bN 7 q5) (bN 7 q6) (bN 4 q7) f8 (bN 2 q9) (bH q10) f11 (b2 m12_0 m12_1) (b2 m13_0 m13_1) (b2 m14_0 m14_1) (b2m m15_0 m15_1) f17 (bA 159 g_2) g_3 f34 f35 f36 f37 (bN 7 q38) f39 f40 f41 (b2 m42_0 m42_1) f43 f44 f47 f48 f49 f50 f51 (bN 13 q54) (bN 120 q55) (bN 120 q56) f57 (bN 120 q58) f59 f60 f64) H ∧ va_D A (mo_w ad ck x0 (nI x16) (nI x18) (nI x19) x20 (nI x21) (nI x22) x23 x24 x25 (nI x26) x27 (nI x28) (nI x29) (nI x30) (nI g_1) x45 (nI x46) (nI x52) (nI x53) (nI x61) (nI x62) (nI x63) (nI x65) x66 f1 f2 f3 (bN 3 q4) (bN 7 q5) (bN 7 q6) (bN 4 q7) f8 (bN 2 q9) (bH q10) f11 (b2 m12_0 m12_1) (b2 m13_0 m13_1) (b2 m14_0 m14_1) (b2m m15_0 m15_1) f17 (bA 159 g_2) g_3 f34 f35 f36 f37 (bN 7 q38) f39 f40 f41 (b2 m42_0 m42_1) f43 f44 f47 f48 f49 f50 f51 (bN 13 q54) (bN 120 q55) (bN 120 q56) f57 (bN 120 q58) f59 f60 f64) ∧ va_S A s.heap H locs ∧ lv_has ls 4 [(0, .ref (ad 0)), (1, .int (nI a0)), (2, .int p1)]) 61 ?_ (fun j_4 => ?_)
  · rintro H locs ls st ⟨g_1, g_2, g_3, rfl, hg_1, hP, hD, hS, hl⟩
    refine lv_aload_n hx hb dX9_keepAct_61 rfl (lv_at hl 0 rfl) ?_
    refine va_get (D := (dC, dI)) (ci := 9) (v := .ref (ad 31)) (C := RX9) (T := TX9) (N := 67) hx hb hts hiX9 hown hK hP 0 rfl rfl 31 (by decide) v_2 (fun _ h9 => h9) rfl dX9_keepAct_62 ?_
    refine lv_aload_n hx hb dX9_keepAct_65 rfl (lv_at hl 0 rfl) ?_
    refine va_get (D := (dC, dI)) (ci := 9) (v := .int (nI g_1)) (C := RX9) (T := TX9) (N := 67) hx hb hts hiX9 hown hK hP 0 rfl rfl 33 (by decide) v_1 (fun _ h9 => h9) rfl dX9_keepAct_66 ?_
    refine lv_iload_n hx hb dX9_keepAct_69 rfl (lv_at hl 1 rfl) ?_
    refine va_iast hx hb hK hP hD hS 17 16 rfl rfl (vp_in_nI (n := g_1) (Nat.lt_of_le_of_lt hg_1 (Nat.le_of_ble_eq_true rfl)) (Nat.le_of_ble_eq_true rfl)) dX9_keepAct_70 (fun H locs hP hD hS => ?_)
    obtain ⟨q_5, eq_5, kq_5⟩ := bA_up 159 g_2 (((nI g_1) : Int32).toNatClampNeg) (v := a0) (by omega)
    have hP : va_P (dC, dI) vwCl (mo_w ad ck x0 (nI x16) (nI x18) (nI x19) x20 (nI x21) (nI x22) x23 x24 x25 (nI x26) x27 (nI x28) (nI x29) (nI x30) (nI g_1) x45 (nI x46) (nI x52) (nI x53) (nI x61) (nI x62) (nI x63) (nI x65) x66 f1 f2 f3 (bN 3 q4) (bN 7 q5) (bN 7 q6) (bN 4 q7) f8 (bN 2 q9) (bH q10) f11 (b2 m12_0 m12_1) (b2 m13_0 m13_1) (b2 m14_0 m14_1) (b2m m15_0 m15_1) f17 (bA 159 q_5) g_3 f34 f35 f36 f37 (bN 7 q38) f39 f40 f41 (b2 m42_0 m42_1) f43 f44 f47 f48 f49 f50 f51 (bN 13 q54) (bN 120 q55) (bN 120 q56) f57 (bN 120 q58) f59 f60 f64) H := by rw [← eq_5]; exact hP
    have hD : va_D A (mo_w ad ck x0 (nI x16) (nI x18) (nI x19) x20 (nI x21) (nI x22) x23 x24 x25 (nI x26) x27 (nI x28) (nI x29) (nI x30) (nI g_1) x45 (nI x46) (nI x52) (nI x53) (nI x61) (nI x62) (nI x63) (nI x65) x66 f1 f2 f3 (bN 3 q4) (bN 7 q5) (bN 7 q6) (bN 4 q7) f8 (bN 2 q9) (bH q10) f11 (b2 m12_0 m12_1) (b2 m13_0 m13_1) (b2 m14_0 m14_1) (b2m m15_0 m15_1) f17 (bA 159 q_5) g_3 f34 f35 f36 f37 (bN 7 q38) f39 f40 f41 (b2 m42_0 m42_1) f43 f44 f47 f48 f49 f50 f51 (bN 13 q54) (bN 120 q55) (bN 120 q56) f57 (bN 120 q58) f59 f60 f64) := by rw [← eq_5]; exact hD
    refine lv_aload_n hx hb dX9_keepAct_71 rfl (lv_at hl 0 rfl) ?_
    refine va_get (D := (dC, dI)) (ci := 9) (v := .ref (ad 32)) (C := RX9) (T := TX9) (N := 67) hx hb hts hiX9 hown hK hP 0 rfl rfl 32 (by decide) v_3 (fun _ h9 => h9) rfl dX9_keepAct_72 ?_
    refine lv_aload_n hx hb dX9_keepAct_75 rfl (lv_at hl 0 rfl) ?_
    refine va_get (D := (dC, dI)) (ci := 9) (v := .int (nI g_1)) (C := RX9) (T := TX9) (N := 67) hx hb hts hiX9 hown hK hP 0 rfl rfl 33 (by decide) v_1 (fun _ h9 => h9) rfl dX9_keepAct_76 ?_
    refine lv_iload_n hx hb dX9_keepAct_79 rfl (lv_at hl 2 rfl) ?_
    refine va_iast hx hb hK hP hD hS 18 17 rfl rfl (vp_in_nI (n := g_1) (Nat.lt_of_le_of_lt hg_1 (Nat.le_of_ble_eq_true rfl)) (Nat.le_of_ble_eq_true rfl)) dX9_keepAct_80 (fun H locs hP hD hS => ?_)
    have hP : va_P (dC, dI) vwCl (mo_w ad ck x0 (nI x16) (nI x18) (nI x19) x20 (nI x21) (nI x22) x23 x24 x25 (nI x26) x27 (nI x28) (nI x29) (nI x30) (nI g_1) x45 (nI x46) (nI x52) (nI x53) (nI x61) (nI x62) (nI x63) (nI x65) x66 f1 f2 f3 (bN 3 q4) (bN 7 q5) (bN 7 q6) (bN 4 q7) f8 (bN 2 q9) (bH q10) f11 (b2 m12_0 m12_1) (b2 m13_0 m13_1) (b2 m14_0 m14_1) (b2m m15_0 m15_1) f17 (bA 159 q_5) (upd g_3 ((nI g_1) : Int32).toNatClampNeg p1) f34 f35 f36 f37 (bN 7 q38) f39 f40 f41 (b2 m42_0 m42_1) f43 f44 f47 f48 f49 f50 f51 (bN 13 q54) (bN 120 q55) (bN 120 q56) f57 (bN 120 q58) f59 f60 f64) H := hP
    have hD : va_D A (mo_w ad ck x0 (nI x16) (nI x18) (nI x19) x20 (nI x21) (nI x22) x23 x24 x25 (nI x26) x27 (nI x28) (nI x29) (nI x30) (nI g_1) x45 (nI x46) (nI x52) (nI x53) (nI x61) (nI x62) (nI x63) (nI x65) x66 f1 f2 f3 (bN 3 q4) (bN 7 q5) (bN 7 q6) (bN 4 q7) f8 (bN 2 q9) (bH q10) f11 (b2 m12_0 m12_1) (b2 m13_0 m13_1) (b2 m14_0 m14_1) (b2m m15_0 m15_1) f17 (bA 159 q_5) (upd g_3 ((nI g_1) : Int32).toNatClampNeg p1) f34 f35 f36 f37 (bN 7 q38) f39 f40 f41 (b2 m42_0 m42_1) f43 f44 f47 f48 f49 f50 f51 (bN 13 q54) (bN 120 q55) (bN 120 q56) f57 (bN 120 q58) f59 f60 f64) := hD
    refine lv_aload_n hx hb dX9_keepAct_81 rfl (lv_at hl 0 rfl) ?_
    refine lv_dup hx hb dX9_keepAct_82 rfl ?_
    refine va_get (D := (dC, dI)) (ci := 9) (v := .int (nI g_1)) (C := RX9) (T := TX9) (N := 67) hx hb hts hiX9 hown hK hP 0 rfl rfl 33 (by decide) v_1 (fun _ h9 => h9) rfl dX9_keepAct_83 ?_
    refine lv_iconst (v := 1) hx hb dX9_keepAct_86 (by decide) ?_
    refine lv_iadd hx hb dX9_keepAct_87 ?_
    refine lv_topi (fun y_6 ey_6 => ?_)
    obtain rfl : y_6 = (nI (g_1 + 1)) := ey_6.trans (nI_add g_1 1)
    refine va_put (D := (dC, dI)) (ci := 9) (v := .int (nI (g_1 + 1))) (ty := .int) (C := RX9) (T := TX9) (N := 67) hx hb hts hiX9 tyX9 tyX9_ok nmX9 hown hK hP hD hS 0 rfl rfl 33 (by decide) v_1 (fun _ h9 => h9) rfl (by decide +kernel) rfl rfl (Nat.le_of_ble_eq_true rfl) dX9_keepAct_88 (fun H locs hP hD hS => ?_)
    have hP : va_P (dC, dI) vwCl (mo_w ad ck x0 (nI x16) (nI x18) (nI x19) x20 (nI x21) (nI x22) x23 x24 x25 (nI x26) x27 (nI x28) (nI x29) (nI x30) (nI (g_1 + 1)) x45 (nI x46) (nI x52) (nI x53) (nI x61) (nI x62) (nI x63) (nI x65) x66 f1 f2 f3 (bN 3 q4) (bN 7 q5) (bN 7 q6) (bN 4 q7) f8 (bN 2 q9) (bH q10) f11 (b2 m12_0 m12_1) (b2 m13_0 m13_1) (b2 m14_0 m14_1) (b2m m15_0 m15_1) f17 (bA 159 q_5) (upd g_3 ((nI g_1) : Int32).toNatClampNeg p1) f34 f35 f36 f37 (bN 7 q38) f39 f40 f41 (b2 m42_0 m42_1) f43 f44 f47 f48 f49 f50 f51 (bN 13 q54) (bN 120 q55) (bN 120 q56) f57 (bN 120 q58) f59 f60 f64) H := hP
    have hD : va_D A (mo_w ad ck x0 (nI x16) (nI x18) (nI x19) x20 (nI x21) (nI x22) x23 x24 x25 (nI x26) x27 (nI x28) (nI x29) (nI x30) (nI (g_1 + 1)) x45 (nI x46) (nI x52) (nI x53) (nI x61) (nI x62) (nI x63) (nI x65) x66 f1 f2 f3 (bN 3 q4) (bN 7 q5) (bN 7 q6) (bN 4 q7) f8 (bN 2 q9) (bH q10) f11 (b2 m12_0 m12_1) (b2 m13_0 m13_1) (b2 m14_0 m14_1) (b2m m15_0 m15_1) f17 (bA 159 q_5) (upd g_3 ((nI g_1) : Int32).toNatClampNeg p1) f34 f35 f36 f37 (bN 7 q38) f39 f40 f41 (b2 m42_0 m42_1) f43 f44 f47 f48 f49 f50 f51 (bN 13 q54) (bN 120 q55) (bN 120 q56) f57 (bN 120 q58) f59 f60 f64) := hD
    refine lv_aload_n hx hb dX9_keepAct_91 rfl (lv_at hl 0 rfl) ?_
    have hFc := pu_free hD hS hA
    refine va_callv (va_runV (As := []) (rest := []) ⟨hx, hb, hml, hown, hts⟩ (c_M_another l dC dI _ ad ck x0 x16 x18 x19 x20 x21 x22 x23 x24 x25 x26 x27 x28 x29 x30 (g_1 + 1) x45 x46 x52 x53 x61 x62 x63 x65 x66 f1 f2 f3 q4 q5 q6 q7 f8 q9 q10 f11 m12_0 m12_1 m13_0 m13_1 m14_0 m14_1 m15_0 m15_1 f17 q_5 (upd g_3 ((nI g_1) : Int32).toNatClampNeg p1) f34 f35 f36 f37 q38 f39 f40 f41 m42_0 m42_1 f43 f44 f47 f48 f49 f50 f51 q54 q55 q56 f57 q58 f59 f60 f64 hx16 hx18 hx19 hx21 hx22 hx26 hx28 hx29 hx30 (by omega) hx46 hx52 hx53 hx61 hx62 hx63 hx65 hm12_0 hm12_1 hm13_0 hm13_1 hm14_0 hm14_1 hm15_0 hm15_1 hm42_0 hm42_1) (cwV 0 hts g_M_keepAct_M_another rfl rfl rfl (by decide +kernel) ⟨Nat.le_of_ble_eq_true rfl, Nat.le_of_ble_eq_true rfl⟩) ⟨pu_bl, va_recv hK hP (ci := 9) (q0 := 0) rfl rfl, pu_in hP hK hD⟩ rfl rfl hl.1 rfl (lv_room (Nat.le_of_ble_eq_true rfl)) dX9_keepAct_92 ⟨Nat.le_of_ble_eq_true rfl, Nat.le_of_ble_eq_true rfl⟩) hS (fun q _ h => hFc q h) hFc (fun u t H1 locs ht hvm hw hB hz1 hk1 hS => ?_)
    obtain ⟨z29_8, z30_9, ⟨hP1, -, hD1⟩, hz29_8, hz30_9⟩ := hB
    rw [ht] at hP1
    have hP := hP1
    have hD := pu_all hFc hD1
    clear hP1 hD1 hFc
    clear hk1 hz1 ht hvm
    generalize H1 = H at hP hS ⊢
    exact W.vret hx hb hr (fun t ht hW => ⟨⟨(), rfl, trivial, ⟨q_5, (upd g_3 ((nI g_1) : Int32).toNatClampNeg p1), z29_8, z30_9, (g_1 + 1), ⟨by rw [ht]; exact hP, va_K.moved hW.alike hK, hD⟩, hz29_8, hz30_9, (by omega)⟩⟩, hS.F ht⟩) hS.2.2 dX9_keepAct_95
  refine lv_icmp_ne (tgt := 61) hx hb dX9_keepAct_6 (by decide) (fun c_10 => ?_) (fun c_10 => ?_)
  · have c_10 : ¬ x33 = 20 := fun z => c_10 ((nI_eq (a := x33) (b := 20) (Nat.lt_of_le_of_lt hx33 (Nat.le_of_ble_eq_true rfl)) (Nat.le_of_ble_eq_true rfl)).mpr z)
    exact j_4 _ _ _ _ ⟨x33, q31, f32, rfl, (by omega), hP, hD, hS, lv_sub hl [0, 1, 2] rfl⟩
  · have c_10 : x33 = 20 := (nI_eq (a := x33) (b := 20) (Nat.lt_of_le_of_lt hx33 (Nat.le_of_ble_eq_true rfl)) (Nat.le_of_ble_eq_true rfl)).mp c_10
    refine lv_iconst (v := 1) hx hb dX9_keepAct_9 (by decide) ?_
    refine lv_istore_n (lv' := [(3, .int 1), (0, .ref (ad 0)), (1, .int (nI a0)), (2, .int p1)]) hx hb dX9_keepAct_10 rfl hl (by decide) rfl (fun ls hl => ?_)
    refine pu_while (fun nn H locs ls => ∃ (g_14 : Nat → Nat) (g_15 : Nat → Int32) (g_16 : Nat), nn = 20 - g_16 ∧ (1 ≤ g_16 ∧ g_16 ≤ 20) ∧ va_P (dC, dI) vwCl (mo_w ad ck x0 (nI x16) (nI x18) (nI x19) x20 (nI x21) (nI x22) x23 x24 x25 (nI x26) x27 (nI x28) (nI x29) (nI x30) (nI x33) x45 (nI x46) (nI x52) (nI x53) (nI x61) (nI x62) (nI x63) (nI x65) x66 f1 f2 f3 (bN 3 q4) (bN 7 q5) (bN 7 q6) (bN 4 q7) f8 (bN 2 q9) (bH q10) f11 (b2 m12_0 m12_1) (b2 m13_0 m13_1) (b2 m14_0 m14_1) (b2m m15_0 m15_1) f17 (bA 159 g_14) g_15 f34 f35 f36 f37 (bN 7 q38) f39 f40 f41 (b2 m42_0 m42_1) f43 f44 f47 f48 f49 f50 f51 (bN 13 q54) (bN 120 q55) (bN 120 q56) f57 (bN 120 q58) f59 f60 f64) H ∧ va_D A (mo_w ad ck x0 (nI x16) (nI x18) (nI x19) x20 (nI x21) (nI x22) x23 x24 x25 (nI x26) x27 (nI x28) (nI x29) (nI x30) (nI x33) x45 (nI x46) (nI x52) (nI x53) (nI x61) (nI x62) (nI x63) (nI x65) x66 f1 f2 f3 (bN 3 q4) (bN 7 q5) (bN 7 q6) (bN 4 q7) f8 (bN 2 q9) (bH q10) f11 (b2 m12_0 m12_1) (b2 m13_0 m13_1) (b2 m14_0 m14_1) (b2m m15_0 m15_1) f17 (bA 159 g_14) g_15 f34 f35 f36 f37 (bN 7 q38) f39 f40 f41 (b2 m42_0 m42_1) f43 f44 f47 f48 f49 f50 f51 (bN 13 q54) (bN 120 q55) (bN 120 q56) f57 (bN 120 q58) f59 f60 f64) ∧ va_S A s.heap H locs ∧ lv_has ls 4 [(0, .ref (ad 0)), (1, .int (nI a0)), (2, .int p1), (3, .int (nI g_16))]) 11 ?_ _ _ _ _ ⟨q31, f32, 1, rfl, ⟨by omega, by omega⟩, hP, hD, hS, lv_sub hl [1, 2, 3, 0] rfl⟩
    rintro nn ih_17 H locs ls ⟨g_14, g_15, g_16, rfl, hg_16, hP, hD, hS, hl⟩
    refine lv_iload_n hx hb dX9_keepAct_11 rfl (lv_at hl 3 rfl) ?_
    refine lv_bipush (v := 20) hx hb dX9_keepAct_12 (by decide) ?_
    refine lv_icmp_ge (tgt := 51) hx hb dX9_keepAct_14 (by decide) (fun c_18 => ?_) (fun c_18 => ?_)
    · have c_18 : 20 ≤ g_16 := (nI_leI (a := 20) (b := g_16) (Nat.le_of_ble_eq_true rfl) (Nat.lt_of_le_of_lt hg_16.2 (Nat.le_of_ble_eq_true rfl))).mp c_18
      refine lv_aload_n hx hb dX9_keepAct_51 rfl (lv_at hl 0 rfl) ?_
      refine lv_dup hx hb dX9_keepAct_52 rfl ?_
      refine va_get (D := (dC, dI)) (ci := 9) (v := .int (nI x33)) (C := RX9) (T := TX9) (N := 67) hx hb hts hiX9 hown hK hP 0 rfl rfl 33 (by decide) v_1 (fun _ h9 => h9) rfl dX9_keepAct_53 ?_
      refine lv_iconst (v := 1) hx hb dX9_keepAct_56 (by decide) ?_
      refine lv_isub hx hb dX9_keepAct_57 ?_
      refine lv_topi (fun y_19 ey_19 => ?_)
      obtain rfl : y_19 = (nI (x33 - 1)) := ey_19.trans (pk_sub (a := x33) (b := 1) (by omega))
      refine va_put (D := (dC, dI)) (ci := 9) (v := .int (nI (x33 - 1))) (ty := .int) (C := RX9) (T := TX9) (N := 67) hx hb hts hiX9 tyX9 tyX9_ok nmX9 hown hK hP hD hS 0 rfl rfl 33 (by decide) v_1 (fun _ h9 => h9) rfl (by decide +kernel) rfl rfl (Nat.le_of_ble_eq_true rfl) dX9_keepAct_58 (fun H locs hP hD hS => ?_)
      have hP : va_P (dC, dI) vwCl (mo_w ad ck x0 (nI x16) (nI x18) (nI x19) x20 (nI x21) (nI x22) x23 x24 x25 (nI x26) x27 (nI x28) (nI x29) (nI x30) (nI (x33 - 1)) x45 (nI x46) (nI x52) (nI x53) (nI x61) (nI x62) (nI x63) (nI x65) x66 f1 f2 f3 (bN 3 q4) (bN 7 q5) (bN 7 q6) (bN 4 q7) f8 (bN 2 q9) (bH q10) f11 (b2 m12_0 m12_1) (b2 m13_0 m13_1) (b2 m14_0 m14_1) (b2m m15_0 m15_1) f17 (bA 159 g_14) g_15 f34 f35 f36 f37 (bN 7 q38) f39 f40 f41 (b2 m42_0 m42_1) f43 f44 f47 f48 f49 f50 f51 (bN 13 q54) (bN 120 q55) (bN 120 q56) f57 (bN 120 q58) f59 f60 f64) H := hP
      have hD : va_D A (mo_w ad ck x0 (nI x16) (nI x18) (nI x19) x20 (nI x21) (nI x22) x23 x24 x25 (nI x26) x27 (nI x28) (nI x29) (nI x30) (nI (x33 - 1)) x45 (nI x46) (nI x52) (nI x53) (nI x61) (nI x62) (nI x63) (nI x65) x66 f1 f2 f3 (bN 3 q4) (bN 7 q5) (bN 7 q6) (bN 4 q7) f8 (bN 2 q9) (bH q10) f11 (b2 m12_0 m12_1) (b2 m13_0 m13_1) (b2 m14_0 m14_1) (b2m m15_0 m15_1) f17 (bA 159 g_14) g_15 f34 f35 f36 f37 (bN 7 q38) f39 f40 f41 (b2 m42_0 m42_1) f43 f44 f47 f48 f49 f50 f51 (bN 13 q54) (bN 120 q55) (bN 120 q56) f57 (bN 120 q58) f59 f60 f64) := hD
      exact j_4 _ _ _ _ ⟨(x33 - 1), g_14, g_15, rfl, (by omega), hP, hD, hS, lv_sub hl [0, 1, 2] rfl⟩
    · have c_18 : ¬ 20 ≤ g_16 := fun z => c_18 ((nI_leI (a := 20) (b := g_16) (Nat.le_of_ble_eq_true rfl) (Nat.lt_of_le_of_lt hg_16.2 (Nat.le_of_ble_eq_true rfl))).mpr z)
      refine lv_aload_n hx hb dX9_keepAct_17 rfl (lv_at hl 0 rfl) ?_
      refine va_get (D := (dC, dI)) (ci := 9) (v := .ref (ad 31)) (C := RX9) (T := TX9) (N := 67) hx hb hts hiX9 hown hK hP 0 rfl rfl 31 (by decide) v_2 (fun _ h9 => h9) rfl dX9_keepAct_18 ?_
      refine lv_iload_n hx hb dX9_keepAct_21 rfl (lv_at hl 3 rfl) ?_
      refine lv_iconst (v := 1) hx hb dX9_keepAct_22 (by decide) ?_
      refine lv_isub hx hb dX9_keepAct_23 ?_
      refine lv_topi (fun y_20 ey_20 => ?_)
      obtain rfl : y_20 = (nI (g_16 - 1)) := ey_20.trans (pk_sub (a := g_16) (b := 1) (by omega))
      refine lv_aload_n hx hb dX9_keepAct_24 rfl (lv_at hl 0 rfl) ?_
      refine va_get (D := (dC, dI)) (ci := 9) (v := .ref (ad 31)) (C := RX9) (T := TX9) (N := 67) hx hb hts hiX9 hown hK hP 0 rfl rfl 31 (by decide) v_2 (fun _ h9 => h9) rfl dX9_keepAct_25 ?_
      refine lv_iload_n hx hb dX9_keepAct_28 rfl (lv_at hl 3 rfl) ?_
      refine va_iald hx hb hK hP 17 16 rfl rfl (vp_in_nI (n := g_16) (by omega) (Nat.le_of_ble_eq_true rfl)) dX9_keepAct_29 ?_
      refine lv_topi (fun y_21 ey_21 => ?_)
      obtain ⟨u_22, hu_22, qu_22⟩ := bA_get 159 g_14 (((nI g_16) : Int32).toNatClampNeg)
      obtain rfl : y_21 = nI u_22 := ey_21.trans qu_22
      refine va_iast hx hb hK hP hD hS 17 16 rfl rfl (vp_in_nI (n := (g_16 - 1)) (by omega) (Nat.le_of_ble_eq_true rfl)) dX9_keepAct_30 (fun H locs hP hD hS => ?_)
      obtain ⟨q_23, eq_23, kq_23⟩ := bA_up 159 g_14 (((nI (g_16 - 1)) : Int32).toNatClampNeg) (v := u_22) (by omega)
      have hP : va_P (dC, dI) vwCl (mo_w ad ck x0 (nI x16) (nI x18) (nI x19) x20 (nI x21) (nI x22) x23 x24 x25 (nI x26) x27 (nI x28) (nI x29) (nI x30) (nI x33) x45 (nI x46) (nI x52) (nI x53) (nI x61) (nI x62) (nI x63) (nI x65) x66 f1 f2 f3 (bN 3 q4) (bN 7 q5) (bN 7 q6) (bN 4 q7) f8 (bN 2 q9) (bH q10) f11 (b2 m12_0 m12_1) (b2 m13_0 m13_1) (b2 m14_0 m14_1) (b2m m15_0 m15_1) f17 (bA 159 q_23) g_15 f34 f35 f36 f37 (bN 7 q38) f39 f40 f41 (b2 m42_0 m42_1) f43 f44 f47 f48 f49 f50 f51 (bN 13 q54) (bN 120 q55) (bN 120 q56) f57 (bN 120 q58) f59 f60 f64) H := by rw [← eq_23]; exact hP
      have hD : va_D A (mo_w ad ck x0 (nI x16) (nI x18) (nI x19) x20 (nI x21) (nI x22) x23 x24 x25 (nI x26) x27 (nI x28) (nI x29) (nI x30) (nI x33) x45 (nI x46) (nI x52) (nI x53) (nI x61) (nI x62) (nI x63) (nI x65) x66 f1 f2 f3 (bN 3 q4) (bN 7 q5) (bN 7 q6) (bN 4 q7) f8 (bN 2 q9) (bH q10) f11 (b2 m12_0 m12_1) (b2 m13_0 m13_1) (b2 m14_0 m14_1) (b2m m15_0 m15_1) f17 (bA 159 q_23) g_15 f34 f35 f36 f37 (bN 7 q38) f39 f40 f41 (b2 m42_0 m42_1) f43 f44 f47 f48 f49 f50 f51 (bN 13 q54) (bN 120 q55) (bN 120 q56) f57 (bN 120 q58) f59 f60 f64) := by rw [← eq_23]; exact hD
      refine lv_aload_n hx hb dX9_keepAct_31 rfl (lv_at hl 0 rfl) ?_
      refine va_get (D := (dC, dI)) (ci := 9) (v := .ref (ad 32)) (C := RX9) (T := TX9) (N := 67) hx hb hts hiX9 hown hK hP 0 rfl rfl 32 (by decide) v_3 (fun _ h9 => h9) rfl dX9_keepAct_32 ?_
      refine lv_iload_n hx hb dX9_keepAct_35 rfl (lv_at hl 3 rfl) ?_
      refine lv_iconst (v := 1) hx hb dX9_keepAct_36 (by decide) ?_
      refine lv_isub hx hb dX9_keepAct_37 ?_
      refine lv_topi (fun y_24 ey_24 => ?_)
      obtain rfl : y_24 = (nI (g_16 - 1)) := ey_24.trans (pk_sub (a := g_16) (b := 1) (by omega))
      refine lv_aload_n hx hb dX9_keepAct_38 rfl (lv_at hl 0 rfl) ?_
      refine va_get (D := (dC, dI)) (ci := 9) (v := .ref (ad 32)) (C := RX9) (T := TX9) (N := 67) hx hb hts hiX9 hown hK hP 0 rfl rfl 32 (by decide) v_3 (fun _ h9 => h9) rfl dX9_keepAct_39 ?_
      refine lv_iload_n hx hb dX9_keepAct_42 rfl (lv_at hl 3 rfl) ?_
      refine va_iald hx hb hK hP 18 17 rfl rfl (vp_in_nI (n := g_16) (by omega) (Nat.le_of_ble_eq_true rfl)) dX9_keepAct_43 ?_
      refine lv_topi (fun y_25 ey_25 => ?_)
      refine va_iast hx hb hK hP hD hS 18 17 rfl rfl (vp_in_nI (n := (g_16 - 1)) (by omega) (Nat.le_of_ble_eq_true rfl)) dX9_keepAct_44 (fun H locs hP hD hS => ?_)
      have hP : va_P (dC, dI) vwCl (mo_w ad ck x0 (nI x16) (nI x18) (nI x19) x20 (nI x21) (nI x22) x23 x24 x25 (nI x26) x27 (nI x28) (nI x29) (nI x30) (nI x33) x45 (nI x46) (nI x52) (nI x53) (nI x61) (nI x62) (nI x63) (nI x65) x66 f1 f2 f3 (bN 3 q4) (bN 7 q5) (bN 7 q6) (bN 4 q7) f8 (bN 2 q9) (bH q10) f11 (b2 m12_0 m12_1) (b2 m13_0 m13_1) (b2 m14_0 m14_1) (b2m m15_0 m15_1) f17 (bA 159 q_23) (upd g_15 ((nI (g_16 - 1)) : Int32).toNatClampNeg y_25) f34 f35 f36 f37 (bN 7 q38) f39 f40 f41 (b2 m42_0 m42_1) f43 f44 f47 f48 f49 f50 f51 (bN 13 q54) (bN 120 q55) (bN 120 q56) f57 (bN 120 q58) f59 f60 f64) H := hP
      have hD : va_D A (mo_w ad ck x0 (nI x16) (nI x18) (nI x19) x20 (nI x21) (nI x22) x23 x24 x25 (nI x26) x27 (nI x28) (nI x29) (nI x30) (nI x33) x45 (nI x46) (nI x52) (nI x53) (nI x61) (nI x62) (nI x63) (nI x65) x66 f1 f2 f3 (bN 3 q4) (bN 7 q5) (bN 7 q6) (bN 4 q7) f8 (bN 2 q9) (bH q10) f11 (b2 m12_0 m12_1) (b2 m13_0 m13_1) (b2 m14_0 m14_1) (b2m m15_0 m15_1) f17 (bA 159 q_23) (upd g_15 ((nI (g_16 - 1)) : Int32).toNatClampNeg y_25) f34 f35 f36 f37 (bN 7 q38) f39 f40 f41 (b2 m42_0 m42_1) f43 f44 f47 f48 f49 f50 f51 (bN 13 q54) (bN 120 q55) (bN 120 q56) f57 (bN 120 q58) f59 f60 f64) := hD
      refine lv_iinc (v := (nI (g_16 + 1))) (lv' := [(3, .int (nI (g_16 + 1))), (0, .ref (ad 0)), (1, .int (nI a0)), (2, .int p1)]) hx hb dX9_keepAct_45 hl (k := 3) rfl (nI_1 _) (by decide) rfl (fun ls hl => ?_)
      refine lv_goto (tgt := 11) hx hb dX9_keepAct_48 (by decide) ?_
      exact ih_17 (20 - (g_16 + 1)) (by omega) _ _ _ ⟨q_23, (upd g_15 ((nI (g_16 - 1)) : Int32).toNatClampNeg y_25), (g_16 + 1), rfl, ⟨by omega, by omega⟩, hP, hD, hS, lv_sub hl [1, 2, 3, 0] rfl⟩
