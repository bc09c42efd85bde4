theorem dX9_manyOf_0 : decode cX9_manyOf 0 = .ok (.aload_n 0, 1) := by decide +kernel
theorem dX9_manyOf_1 : decode cX9_manyOf 1 = .ok (.iload_n 1, 1) := by decide +kernel
theorem dX9_manyOf_2 : decode cX9_manyOf 2 = .ok (.invokevirtual 283, 3) := by decide +kernel
theorem dX9_manyOf_5 : decode cX9_manyOf 5 = .ok (.ifCond .eq 20, 3) := by decide +kernel
theorem dX9_manyOf_8 : decode cX9_manyOf 8 = .ok (.aload_n 0, 1) := by decide +kernel
theorem dX9_manyOf_9 : decode cX9_manyOf 9 = .ok (.getfield 28, 3) := by decide +kernel
theorem dX9_manyOf_12 : decode cX9_manyOf 12 = .ok (.bipush 14, 2) := by decide +kernel
theorem dX9_manyOf_14 : decode cX9_manyOf 14 = .ok (.aload_n 0, 1) := by decide +kernel
theorem dX9_manyOf_15 : decode cX9_manyOf 15 = .ok (.getfield 258, 3) := by decide +kernel
theorem dX9_manyOf_18 : decode cX9_manyOf 18 = .ok (.imul, 1) := by decide +kernel
theorem dX9_manyOf_19 : decode cX9_manyOf 19 = .ok (.iload_n 1, 1) := by decide +kernel
theorem dX9_manyOf_20 : decode cX9_manyOf 20 = .ok (.iadd, 1) := by decide +kernel
theorem dX9_manyOf_21 : decode cX9_manyOf 21 = .ok (.iaload, 1) := by decide +kernel
theorem dX9_manyOf_22 : decode cX9_manyOf 22 = .ok (.goto 35, 3) := by decide +kernel
theorem dX9_manyOf_25 : decode cX9_manyOf 25 = .ok (.aload_n 0, 1) := by decide +kernel
theorem dX9_manyOf_26 : decode cX9_manyOf 26 = .ok (.iload_n 1, 1) := by decide +kernel
theorem dX9_manyOf_27 : decode cX9_manyOf 27 = .ok (.bipush 100, 2) := by decide +kernel
theorem dX9_manyOf_29 : decode cX9_manyOf 29 = .ok (.isub, 1) := by decide +kernel
theorem dX9_manyOf_30 : decode cX9_manyOf 30 = .ok (.invokevirtual 286, 3) := by decide +kernel
theorem dX9_manyOf_33 : decode cX9_manyOf 33 = .ok (.ifCond .eq 23, 3) := by decide +kernel
theorem dX9_manyOf_56 : decode cX9_manyOf 56 = .ok (.iconst (-1), 1) := by decide +kernel
theorem dX9_manyOf_57 : decode cX9_manyOf 57 = .ok (.ireturn, 1) := by decide +kernel
abbrev vs_EM_manyOf_e : List Cond := .code yX9_manyOf cX9_manyOf 2 (some .int) :: VM
theorem g_EM_manyOf_e_EM_isEdge_k : GoodIn vs_EM_manyOf_e (wsV RX9 283 RX9 yX9_isEdge vs_EM_isEdge_k) := gm_V vm_144 vm_145 vm_146 vm_19 vm_147
theorem g_EM_manyOf_e_EM_isPlace : GoodIn vs_EM_manyOf_e (wsV RX9 286 RX9 yX9_isPlace vs_EM_isPlace) := gm_V vm_148 vm_149 vm_150 vm_19 vm_151
noncomputable def sp_EM_manyOf_e (x16 : Nat) (q7 : Nat → Nat) (m13_0 : Nat) (m13_1 : Nat) (m14_0 : Nat) (m14_1 : Nat) (a0 : Nat) : Nat := (slet (sp_EM_isEdge_k x16 m14_0 m14_1 a0) (fun u_2 => (if u_2 = 0 then (slet (((nI a0) : Int32) - 100) (fun y_4 => (if (0 : Int32) ≤ y_4 ∧ y_4 < nI (bkN x16 m13_0 m13_1) then (slet ((y_4 : Int32).toNatClampNeg) (fun n_6 => default)) else 0))) else (slet (min (q7 ((14 * x16) + a0)) 4) (fun u_10 => (u_10 + 1))))))
set_option maxHeartbeats 4000000 in
set_option maxRecDepth 100000 in
theorem c_EM_manyOf_e (l : Launch) (dC : Nat → ClassId) (dI : Nat → Nat → Nat) (sz : Nat) (ad : Nat → Nat) (ck : Nat → ClassId) (x0 : Int32) (x16 : Nat) (x18 : Nat) (x19 : Nat) (x20 : Int32) (x21 : Nat) (x22 : Nat) (x23 : Int32) (x24 : Int32) (x25 : Int32) (x26 : Nat) (x27 : Int32) (x28 : Nat) (x29 : Nat) (x30 : Nat) (x33 : Nat) (x45 : Int32) (x46 : Nat) (x52 : Nat) (x53 : Nat) (x61 : Nat) (x62 : Nat) (x63 : Nat) (x65 : Nat) (x66 : Int32) (f1 : Nat → Int32) (f2 : Nat → Int32) (f3 : Nat → Int32) (q4 : Nat → Nat) (q5 : Nat → Nat) (q6 : Nat → Nat) (q7 : Nat → Nat) (f8 : Nat → Int32) (q9 : Nat → Nat) (q10 : Nat → Nat) (f11 : Nat → Int32) (m12_0 m12_1 : Nat) (m13_0 m13_1 : Nat) (m14_0 m14_1 : Nat) (m15_0 m15_1 : Nat) (f17 : Nat → Int32) (q31 : Nat → Nat) (f32 : Nat → Int32) (f34 : Nat → Int32) (f35 : Nat → Int32) (f36 : Nat → Int32) (f37 : Nat → Int32) (q38 : Nat → Nat) (f39 : Nat → Int32) (f40 : Nat → Int32) (f41 : Nat → Int32) (m42_0 m42_1 : Nat) (f43 : Nat → Int32) (f44 : Nat → Int32) (f47 : Nat → Int32) (f48 : Nat → Int32) (f49 : Nat → Int32) (f50 : Nat → Int32) (f51 : Nat → Int32) (q54 : Nat → Nat) (q55 : Nat → Nat) (q56 : Nat → Nat) (f57 : Nat → Int32) (q58 : Nat → Nat) (f59 : Nat → Int32) (f60 : Nat → Int32) (f64 : Nat → Int32) (a0 : Nat) (hx16 : x16 ≤ 1) (hx18 : x18 ≤ 900) (hx19 : x19 ≤ 900) (hx21 : x21 ≤ 900) (hx22 : x22 ≤ 4) (hx26 : x26 ≤ 6) (hx28 : x28 ≤ 1) (hx29 : x29 ≤ 1) (hx30 : x30 ≤ 1) (hx33 : x33 ≤ 20) (hx46 : x46 ≤ 5) (hx52 : x52 ≤ 2400) (hx53 : x53 ≤ 119) (hx61 : x61 ≤ 119) (hx62 : x62 ≤ 2000) (hx63 : x63 ≤ 1) (hx65 : x65 ≤ 7) (hm12_0 : m12_0 ≤ 3) (hm12_1 : m12_1 ≤ 3) (hm13_0 : m13_0 ≤ 8) (hm13_1 : m13_1 ≤ 8) (hm14_0 : m14_0 ≤ 14) (hm14_1 : m14_1 ≤ 14) (hm15_0 : m15_0 ≤ 8) (hm15_1 : m15_1 ≤ 8) (hm42_0 : m42_0 ≤ 120) (hm42_1 : m42_1 ≤ 400) (ha0 : a0 ≤ 13) : Met l yX9_manyOf vs_EM_manyOf_e ({ frames := 2, cells := 0, slots := 0, locals := 43 }) (va_Pc [.ref (ad 0), .int (nI a0)] (pu_B (dC, dI) (mo_w ad ck x0 (nI x16) (nI x18) (nI x19) x20 (nI x21) (nI x22) x23 x24 x25 (nI x26) x27 (nI x28) (nI x29) (nI x30) (nI x33) x45 (nI x46) (nI x52) (nI x53) (nI x61) (nI x62) (nI x63) (nI x65) x66 f1 f2 f3 (bN 3 q4) (bN 7 q5) (bN 7 q6) (bN 4 q7) f8 (bN 2 q9) (bH q10) f11 (b2 m12_0 m12_1) (b2 m13_0 m13_1) (b2 m14_0 m14_1) (b2m m15_0 m15_1) f17 (bA 159 q31) f32 f34 f35 f36 f37 (bN 7 q38) f39 f40 f41 (b2 m42_0 m42_1) f43 f44 f47 f48 f49 f50 f51 (bN 13 q54) (bN 120 q55) (bN 120 q56) f57 (bN 120 q58) f59 f60 f64) (mo_t ck) sz)) (va_Qi (fun (r : Int32) (_ : Unit) => ∃ v : Nat, v ≤ 5 ∧ r = mI v ∧ v = (sp_EM_manyOf_e x16 q7 m13_0 m13_1 m14_0 m14_1 a0)) (fun _ _ => True) (va_A [] sz)) 0 0 (va_A [] sz) := by
  refine Met.ofW (cc := cX9_manyOf) (maxL := 2) (ret := (some .int)) (by decide) rfl ?_
  intro p e s m args below meth c s₁ B hml hv
  obtain ⟨rfl, rfl, hP, hK, hD0⟩ := hv
  have hx := B.exec
  have hb := B.bytes
  have hr := B.returns
  have hts := atoms_spec (ws := vs_EM_manyOf_e) B.pre
  have v_10 := hts (.fieldLink RX9 28 "ClockReachModel" "whens" "[I") (List.mem_cons_of_mem _ vm_117)
  have v_11 := hts (.fieldLink RX9 258 "ClockReachModel" "bank" "I") (List.mem_cons_of_mem _ vm_4)
  have hown : s.vm.findClass RX9 = some m.cls := findClass_of_methodNamed B.named
  have hlocks := B.notSynchronized
  have hiX9 : ∀ w ∈ wsX90, w ∈ vs_EM_manyOf_e := fun _ h => List.mem_cons_of_mem _ (vmi_L h)
  have hD := hD0
  have hA : ∀ q : Nat, s.heap.size ≤ q → va_A [] s.heap.size q := fun _ h => Or.inr h
  have hS : va_S (va_A [] s.heap.size) s.heap s.heap [] := va_S.rf
  have hl := lv_entry ([.ref (ad 0), .int (nI a0)]) (n := 2) (Nat.le_of_ble_eq_true rfl)
  rw [lg_entry_eq]
  generalize (lg_sl ([.ref (ad 0), .int (nI a0)]) ++ List.replicate (2 - (lg_sl ([.ref (ad 0), .int (nI a0)])).length) Slot.unset).toArray = ls at hl ⊢
  have hl : lv_has ls 2 [(0, .ref (ad 0)), (1, .int (nI a0))] := hl
  obtain ⟨RR, hRR⟩ : ∃ x, x = (sp_EM_manyOf_e x16 q7 m13_0 m13_1 m14_0 m14_1 a0) := ⟨_, rfl⟩
  have hsp := hRR
  refine lv_aload_n hx hb dX9_manyOf_0 rfl (lv_at hl 0 rfl) ?_
  refine lv_iload_n hx hb dX9_manyOf_1 rfl (lv_at hl 1 rfl) ?_
  refine va_calli (va_runV (As := [.int (nI a0)]) (rest := []) ⟨hx, hb, hml, hown, hts⟩ (c_EM_isEdge_k l dC dI _ ad ck x0 x16 x18 x19 x20 x21 x22 x23 x24 x25 x26 x27 x28 x29 x30 x33 x45 x46 x52 x53 x61 x62 x63 x65 x66 f1 f2 f3 q4 q5 q6 q7 f8 q9 q10 f11 m12_0 m12_1 m13_0 m13_1 m14_0 m14_1 m15_0 m15_1 f17 q31 f32 f34 f35 f36 f37 q38 f39 f40 f41 m42_0 m42_1 f43 f44 f47 f48 f49 f50 f51 q54 q55 q56 f57 q58 f59 f60 f64 a0 hx16 hx18 hx19 hx21 hx22 hx26 hx28 hx29 hx30 hx33 hx46 hx52 hx53 hx61 hx62 hx63 hx65 hm12_0 hm12_1 hm13_0 hm13_1 hm14_0 hm14_1 hm15_0 hm15_1 hm42_0 hm42_1 ha0) (cwV 1 hts g_EM_manyOf_e_EM_isEdge_k rfl rfl rfl (by decide +kernel) ⟨Nat.le_of_ble_eq_true rfl, Nat.le_of_ble_eq_true rfl⟩) ⟨pu_bl, va_recv hK hP (ci := 9) (q0 := 0) rfl rfl, pu_in hP hK hD⟩ rfl rfl hl.1 rfl (lv_room (Nat.le_of_ble_eq_true rfl)) dX9_manyOf_2 ⟨Nat.le_of_ble_eq_true rfl, Nat.le_of_ble_eq_true rfl⟩) hS (fun q _ h => pu_fr hS hA q h) (pu_fr hS hA) (fun r_1 u t H1 locs ht hvm hw hB hz1 hk1 hS => ?_)
  have hP := pu_keep hP hk1
  clear hk1 hz1 ht hvm
  generalize H1 = H at hP hS ⊢
  obtain ⟨u_2, hu_2, rfl, iu_2⟩ := hw
  have hsp := hsp.trans (slet_eq iu_2)
  refine lv_if_eq (tgt := 25) hx hb dX9_manyOf_5 (by decide) (fun c_3 => ?_) (fun c_3 => ?_)
  · have c_3 : u_2 = 0 := (nI_eq (a := u_2) (b := 0) (Nat.lt_of_le_of_lt hu_2 (Nat.le_of_ble_eq_true rfl)) (Nat.le_of_ble_eq_true rfl)).mp c_3
    have hsp := hsp.trans (if_pos c_3)
    refine lv_aload_n hx hb dX9_manyOf_25 rfl (lv_at hl 0 rfl) ?_
    refine lv_iload_n hx hb dX9_manyOf_26 rfl (lv_at hl 1 rfl) ?_
    refine lv_bipush (v := 100) hx hb dX9_manyOf_27 (by decide) ?_
    refine lv_isub hx hb dX9_manyOf_29 ?_
    refine lv_topi (fun y_4 ey_4 => ?_)
    have hsp := hsp.trans (slet_eq ey_4)
    refine va_calli (va_runV (As := [.int y_4]) (rest := []) ⟨hx, hb, hml, hown, hts⟩ (c_EM_isPlace l dC dI _ ad ck x0 x16 x18 x19 x20 x21 x22 x23 x24 x25 x26 x27 x28 x29 x30 x33 x45 x46 x52 x53 x61 x62 x63 x65 x66 f1 f2 f3 q4 q5 q6 q7 f8 q9 q10 f11 m12_0 m12_1 m13_0 m13_1 m14_0 m14_1 m15_0 m15_1 f17 q31 f32 f34 f35 f36 f37 q38 f39 f40 f41 m42_0 m42_1 f43 f44 f47 f48 f49 f50 f51 q54 q55 q56 f57 q58 f59 f60 f64 y_4 hx16 hx18 hx19 hx21 hx22 hx26 hx28 hx29 hx30 hx33 hx46 hx52 hx53 hx61 hx62 hx63 hx65 hm12_0 hm12_1 hm13_0 hm13_1 hm14_0 hm14_1 hm15_0 hm15_1 hm42_0 hm42_1) (cwV 1 hts g_EM_manyOf_e_EM_isPlace rfl rfl rfl (by decide +kernel) ⟨Nat.le_of_ble_eq_true rfl, Nat.le_of_ble_eq_true rfl⟩) ⟨pu_bl, va_recv hK hP (ci := 9) (q0 := 0) rfl rfl, pu_in hP hK hD⟩ rfl rfl hl.1 rfl (lv_room (Nat.le_of_ble_eq_true rfl)) dX9_manyOf_30 ⟨Nat.le_of_ble_eq_true rfl, Nat.le_of_ble_eq_true rfl⟩) hS (fun q _ h => pu_fr hS hA q h) (pu_fr hS hA) (fun r_5 u t H1 locs ht hvm hw hB hz1 hk1 hS => ?_)
    have hP := pu_keep hP hk1
    clear hk1 hz1 ht hvm
    generalize H1 = H at hP hS ⊢
    rcases hw with ⟨rfl, hw⟩ | ⟨rfl, hn⟩
    · obtain ⟨n_6, hn_6, en_6⟩ := hw
      have hsp := hsp.trans (if_pos (in_c hn_6 ⟨by omega, by omega⟩ en_6))
      subst en_6
      have hsp := hsp.trans (slet_eq (nI_cl (n := n_6) (by omega)))
      exfalso
      have hz := (nI_eq (a := a0) (by omega) (by omega)).mp (pu_p100 ey_4)
      omega
    · have hsp := hsp.trans (if_neg hn)
      refine lv_if_eq (tgt := 56) hx hb dX9_manyOf_33 (by decide) (fun _ => ?_) (fun z => absurd z (by decide))
      refine lv_iconst (v := (-1)) hx hb dX9_manyOf_56 (by decide) ?_
      exact W.iret (v := (-1)) hx hb hr (fun t ht hW => ⟨⟨(-1), (), rfl, ⟨0, by omega, rfl, (hsp.symm.trans hRR)⟩, trivial⟩, hS.F ht⟩) hS.2.2 dX9_manyOf_57
  · have c_3 : ¬ u_2 = 0 := fun z => c_3 ((nI_eq (a := u_2) (b := 0) (Nat.lt_of_le_of_lt hu_2 (Nat.le_of_ble_eq_true rfl)) (Nat.le_of_ble_eq_true rfl)).mpr z)
    have hsp := hsp.trans (if_neg c_3)
    refine lv_aload_n hx hb dX9_manyOf_8 rfl (lv_at hl 0 rfl) ?_
    refine va_get (D := (dC, dI)) (ci := 9) (v := .ref (ad 7)) (C := RX9) (T := TX9) (N := 67) hx hb hts hiX9 hown hK hP 0 rfl rfl 7 (by decide) v_10 (fun _ h9 => h9) rfl dX9_manyOf_9 ?_
    refine lv_bipush (v := 14) hx hb dX9_manyOf_12 (by decide) ?_
    refine lv_aload_n hx hb dX9_manyOf_14 rfl (lv_at hl 0 rfl) ?_
    refine va_get (D := (dC, dI)) (ci := 9) (v := .int (nI x16)) (C := RX9) (T := TX9) (N := 67) hx hb hts hiX9 hown hK hP 0 rfl rfl 16 (by decide) v_11 (fun _ h9 => h9) rfl dX9_manyOf_15 ?_
    refine lv_imul hx hb dX9_manyOf_18 ?_
    refine lv_topi (fun y_7 ey_7 => ?_)
    obtain rfl : y_7 = (nI (14 * x16)) := ey_7.trans (pk_mul 14 x16)
    refine lv_iload_n hx hb dX9_manyOf_19 rfl (lv_at hl 1 rfl) ?_
    refine lv_iadd hx hb dX9_manyOf_20 ?_
    refine lv_topi (fun y_8 ey_8 => ?_)
    obtain rfl : y_8 = (nI ((14 * x16) + a0)) := ey_8.trans (nI_add (14 * x16) a0)
    refine va_iald hx hb hK hP 7 6 rfl rfl (vp_in_nI (n := ((14 * x16) + a0)) (by omega) (Nat.le_of_ble_eq_true rfl)) dX9_manyOf_21 ?_
    refine lv_topi (fun y_9 ey_9 => ?_)
    obtain ⟨u_10, hu_10, qu_10, xu_10⟩ := bN_getx 4 q7 (n := ((14 * x16) + a0)) (by first | omega | exact Nat.lt_trans (zx16 (by omega) (by omega) (by omega)) (Nat.le_of_ble_eq_true rfl) | exact Nat.lt_trans (zy16 (by omega) (by omega)) (Nat.le_of_ble_eq_true rfl) | exact Nat.lt_trans (zx25 (by omega) (by omega) (by omega)) (Nat.le_of_ble_eq_true rfl) | exact Nat.lt_trans (zy25 (by omega) (by omega)) (Nat.le_of_ble_eq_true rfl))
    obtain rfl : y_9 = nI u_10 := ey_9.trans qu_10
    have hsp := hsp.trans (slet_eq xu_10)
    refine lv_goto (tgt := 57) hx hb dX9_manyOf_22 (by decide) ?_
    exact W.iret (v := (nI u_10)) hx hb hr (fun t ht hW => ⟨⟨(nI u_10), (), rfl, ⟨u_10 + 1, by omega, rfl, (hsp.symm.trans hRR)⟩, trivial⟩, hS.F ht⟩) hS.2.2 dX9_manyOf_57
