abbrev vs_EM_manyOf_n : List Cond := .code yX9_manyOf cX9_manyOf 2 (some .int) :: VM
theorem g_EM_manyOf_n_EM_isEdge : GoodIn vs_EM_manyOf_n (wsV RX9 283 RX9 yX9_isEdge vs_EM_isEdge) := gm_V vm_144 vm_145 vm_146 vm_19 vm_147
theorem g_EM_manyOf_n_EM_isPlace : GoodIn vs_EM_manyOf_n (wsV RX9 286 RX9 yX9_isPlace vs_EM_isPlace) := gm_V vm_148 vm_149 vm_150 vm_19 vm_151
theorem g_EM_manyOf_n_EM_isPlace_k : GoodIn vs_EM_manyOf_n (wsV RX9 286 RX9 yX9_isPlace vs_EM_isPlace_k) := gm_V vm_148 vm_149 vm_150 vm_19 vm_151
noncomputable def sp_EM_manyOf_n (x16 : Nat) (q4 : Nat → Nat) (q7 : Nat → Nat) (m13_0 : Nat) (m13_1 : Nat) (m14_0 : Nat) (m14_1 : Nat) (a0 : Nat) : Nat := (if (0 : Int32) ≤ (nI a0) ∧ (nI a0) < nI (bkN x16 m14_0 m14_1) then (slet (min (q7 ((14 * x16) + a0)) 4) (fun u_6 => (u_6 + 1))) else (if a0 < 100 then (slet (((nI a0) : Int32) - 100) (fun y_7 => (if (0 : Int32) ≤ y_7 ∧ y_7 < nI (bkN x16 m13_0 m13_1) then (slet ((y_7 : Int32).toNatClampNeg) (fun n_9 => default)) else 0))) else (slet (sp_EM_isPlace_k x16 m13_0 m13_1 (a0 - 100)) (fun u_12 => (if u_12 = 0 then 0 else (slet (min (q4 (((8 * x16) + a0) - 100)) 3) (fun u_18 => (u_18 + 1))))))))
set_option maxHeartbeats 4000000 in
set_option maxRecDepth 100000 in
theorem c_EM_manyOf_n (l : Launch) (dC : Nat → ClassId) (dI : Nat → Nat → Nat) (sz : Nat) (ad : Nat → Nat) (ck : Nat → ClassId) (x0 : Int32) (x16 : Nat) (x18 : Nat) (x19 : Nat) (x20 : Int32) (x21 : Nat) (x22 : Nat) (x23 : Int32) (x24 : Int32) (x25 : Int32) (x26 : Nat) (x27 : Int32) (x28 : Nat) (x29 : Nat) (x30 : Nat) (x33 : Nat) (x45 : Int32) (x46 : Nat) (x52 : Nat) (x53 : Nat) (x61 : Nat) (x62 : Nat) (x63 : Nat) (x65 : Nat) (x66 : Int32) (f1 : Nat → Int32) (f2 : Nat → Int32) (f3 : Nat → Int32) (q4 : Nat → Nat) (q5 : Nat → Nat) (q6 : Nat → Nat) (q7 : Nat → Nat) (f8 : Nat → Int32) (q9 : Nat → Nat) (q10 : Nat → Nat) (f11 : Nat → Int32) (m12_0 m12_1 : Nat) (m13_0 m13_1 : Nat) (m14_0 m14_1 : Nat) (m15_0 m15_1 : Nat) (f17 : Nat → Int32) (q31 : Nat → Nat) (f32 : Nat → Int32) (f34 : Nat → Int32) (f35 : Nat → Int32) (f36 : Nat → Int32) (f37 : Nat → Int32) (q38 : Nat → Nat) (f39 : Nat → Int32) (f40 : Nat → Int32) (f41 : Nat → Int32) (m42_0 m42_1 : Nat) (f43 : Nat → Int32) (f44 : Nat → Int32) (f47 : Nat → Int32) (f48 : Nat → Int32) (f49 : Nat → Int32) (f50 : Nat → Int32) (f51 : Nat → Int32) (q54 : Nat → Nat) (q55 : Nat → Nat) (q56 : Nat → Nat) (f57 : Nat → Int32) (q58 : Nat → Nat) (f59 : Nat → Int32) (f60 : Nat → Int32) (f64 : Nat → Int32) (a0 : Nat) (hx16 : x16 ≤ 1) (hx18 : x18 ≤ 900) (hx19 : x19 ≤ 900) (hx21 : x21 ≤ 900) (hx22 : x22 ≤ 4) (hx26 : x26 ≤ 6) (hx28 : x28 ≤ 1) (hx29 : x29 ≤ 1) (hx30 : x30 ≤ 1) (hx33 : x33 ≤ 20) (hx46 : x46 ≤ 5) (hx52 : x52 ≤ 2400) (hx53 : x53 ≤ 119) (hx61 : x61 ≤ 119) (hx62 : x62 ≤ 2000) (hx63 : x63 ≤ 1) (hx65 : x65 ≤ 7) (hm12_0 : m12_0 ≤ 3) (hm12_1 : m12_1 ≤ 3) (hm13_0 : m13_0 ≤ 8) (hm13_1 : m13_1 ≤ 8) (hm14_0 : m14_0 ≤ 14) (hm14_1 : m14_1 ≤ 14) (hm15_0 : m15_0 ≤ 8) (hm15_1 : m15_1 ≤ 8) (hm42_0 : m42_0 ≤ 120) (hm42_1 : m42_1 ≤ 400) (ha0 : a0 ≤ 107) : Met l yX9_manyOf vs_EM_manyOf_n ({ frames := 2, cells := 0, slots := 0, locals := 43 }) (va_Pc [.ref (ad 0), .int (nI a0)] (pu_B (dC, dI) (mo_w ad ck x0 (nI x16) (nI x18) (nI x19) x20 (nI x21) (nI x22) x23 x24 x25 (nI x26) x27 (nI x28) (nI x29) (nI x30) (nI x33) x45 (nI x46) (nI x52) (nI x53) (nI x61) (nI x62) (nI x63) (nI x65) x66 f1 f2 f3 (bN 3 q4) (bN 7 q5) (bN 7 q6) (bN 4 q7) f8 (bN 2 q9) (bH q10) f11 (b2 m12_0 m12_1) (b2 m13_0 m13_1) (b2 m14_0 m14_1) (b2m m15_0 m15_1) f17 (bA 159 q31) f32 f34 f35 f36 f37 (bN 7 q38) f39 f40 f41 (b2 m42_0 m42_1) f43 f44 f47 f48 f49 f50 f51 (bN 13 q54) (bN 120 q55) (bN 120 q56) f57 (bN 120 q58) f59 f60 f64) (mo_t ck) sz)) (va_Qi (fun (r : Int32) (_ : Unit) => ∃ v : Nat, v ≤ 5 ∧ r = mI v ∧ ((v = 0 ∨ (∃ u : Nat, u ≤ 4 ∧ a0 ≤ 13 ∧ v = u + 1) ∨ (∃ u : Nat, u ≤ 3 ∧ 100 ≤ a0 ∧ v = u + 1)) ∧ v = (sp_EM_manyOf_n x16 q4 q7 m13_0 m13_1 m14_0 m14_1 a0))) (fun _ _ => True) (va_A [] sz)) 0 0 (va_A [] sz) := by
  refine Met.ofW (cc := cX9_manyOf) (maxL := 2) (ret := (some .int)) (by decide) rfl ?_
  intro p e s m args below meth c s₁ B hml hv
  obtain ⟨rfl, rfl, hP, hK, hD0⟩ := hv
  have hx := B.exec
  have hb := B.bytes
  have hr := B.returns
  have hts := atoms_spec (ws := vs_EM_manyOf_n) B.pre
  have v_6 := hts (.fieldLink RX9 28 "ClockReachModel" "whens" "[I") (List.mem_cons_of_mem _ vm_117)
  have v_7 := hts (.fieldLink RX9 258 "ClockReachModel" "bank" "I") (List.mem_cons_of_mem _ vm_4)
  have v_12 := hts (.fieldLink RX9 19 "ClockReachModel" "untils" "[I") (List.mem_cons_of_mem _ vm_109)
  have hown : s.vm.findClass RX9 = some m.cls := findClass_of_methodNamed B.named
  have hlocks := B.notSynchronized
  have hiX9 : ∀ w ∈ wsX90, w ∈ vs_EM_manyOf_n := fun _ h => List.mem_cons_of_mem _ (vmi_L h)
  have hD := hD0
  have hA : ∀ q : Nat, s.heap.size ≤ q → va_A [] s.heap.size q := fun _ h => Or.inr h
  have hS : va_S (va_A [] s.heap.size) s.heap s.heap [] := va_S.rf
  have hl := lv_entry ([.ref (ad 0), .int (nI a0)]) (n := 2) (Nat.le_of_ble_eq_true rfl)
  rw [lg_entry_eq]
  generalize (lg_sl ([.ref (ad 0), .int (nI a0)]) ++ List.replicate (2 - (lg_sl ([.ref (ad 0), .int (nI a0)])).length) Slot.unset).toArray = ls at hl ⊢
  have hl : lv_has ls 2 [(0, .ref (ad 0)), (1, .int (nI a0))] := hl
  obtain ⟨RR, hRR⟩ : ∃ x, x = (sp_EM_manyOf_n x16 q4 q7 m13_0 m13_1 m14_0 m14_1 a0) := ⟨_, rfl⟩
  have hsp := hRR
  refine lv_aload_n hx hb dX9_manyOf_0 rfl (lv_at hl 0 rfl) ?_
  refine lv_iload_n hx hb dX9_manyOf_1 rfl (lv_at hl 1 rfl) ?_
  refine va_calli (va_runV (As := [.int (nI a0)]) (rest := []) ⟨hx, hb, hml, hown, hts⟩ (c_EM_isEdge l dC dI _ ad ck x0 x16 x18 x19 x20 x21 x22 x23 x24 x25 x26 x27 x28 x29 x30 x33 x45 x46 x52 x53 x61 x62 x63 x65 x66 f1 f2 f3 q4 q5 q6 q7 f8 q9 q10 f11 m12_0 m12_1 m13_0 m13_1 m14_0 m14_1 m15_0 m15_1 f17 q31 f32 f34 f35 f36 f37 q38 f39 f40 f41 m42_0 m42_1 f43 f44 f47 f48 f49 f50 f51 q54 q55 q56 f57 q58 f59 f60 f64 (nI a0) hx16 hx18 hx19 hx21 hx22 hx26 hx28 hx29 hx30 hx33 hx46 hx52 hx53 hx61 hx62 hx63 hx65 hm12_0 hm12_1 hm13_0 hm13_1 hm14_0 hm14_1 hm15_0 hm15_1 hm42_0 hm42_1) (cwV 1 hts g_EM_manyOf_n_EM_isEdge rfl rfl rfl (by decide +kernel) ⟨Nat.le_of_ble_eq_true rfl, Nat.le_of_ble_eq_true rfl⟩) ⟨pu_bl, va_recv hK hP (ci := 9) (q0 := 0) rfl rfl, pu_in hP hK hD⟩ rfl rfl hl.1 rfl (lv_room (Nat.le_of_ble_eq_true rfl)) dX9_manyOf_2 ⟨Nat.le_of_ble_eq_true rfl, Nat.le_of_ble_eq_true rfl⟩) hS (fun q _ h => pu_fr hS hA q h) (pu_fr hS hA) (fun r_1 u t H1 locs ht hvm hw hB hz1 hk1 hS => ?_)
  have hP := pu_keep hP hk1
  clear hk1 hz1 ht hvm
  generalize H1 = H at hP hS ⊢
  rcases hw with ⟨rfl, hw⟩ | ⟨rfl, hn⟩
  · obtain ⟨n_2, hn_2, en_2⟩ := hw
    replace hsp := hsp.trans (if_pos (in_c hn_2 ⟨by omega, by omega⟩ en_2))
    have en_2 := (nI_eq (a := a0) (b := n_2) (by omega) (by omega)).mp en_2
    refine lv_if_eq (tgt := 25) hx hb dX9_manyOf_5 (by decide) (fun z => absurd z (by decide)) (fun _ => ?_)
    refine lv_aload_n hx hb dX9_manyOf_8 rfl (lv_at hl 0 rfl) ?_
    refine va_get (D := (dC, dI)) (ci := 9) (v := .ref (ad 7)) (C := RX9) (T := TX9) (N := 67) hx hb hts hiX9 hown hK hP 0 rfl rfl 7 (by decide) v_6 (fun _ h9 => h9) rfl dX9_manyOf_9 ?_
    refine lv_bipush (v := 14) hx hb dX9_manyOf_12 (by decide) ?_
    refine lv_aload_n hx hb dX9_manyOf_14 rfl (lv_at hl 0 rfl) ?_
    refine va_get (D := (dC, dI)) (ci := 9) (v := .int (nI x16)) (C := RX9) (T := TX9) (N := 67) hx hb hts hiX9 hown hK hP 0 rfl rfl 16 (by decide) v_7 (fun _ h9 => h9) rfl dX9_manyOf_15 ?_
    refine lv_imul hx hb dX9_manyOf_18 ?_
    refine lv_topi (fun y_3 ey_3 => ?_)
    obtain rfl : y_3 = (nI (14 * x16)) := ey_3.trans (pk_mul 14 x16)
    refine lv_iload_n hx hb dX9_manyOf_19 rfl (lv_at hl 1 rfl) ?_
    refine lv_iadd hx hb dX9_manyOf_20 ?_
    refine lv_topi (fun y_4 ey_4 => ?_)
    obtain rfl : y_4 = (nI ((14 * x16) + a0)) := ey_4.trans (nI_add (14 * x16) a0)
    refine va_iald hx hb hK hP 7 6 rfl rfl (vp_in_nI (n := ((14 * x16) + a0)) (by omega) (Nat.le_of_ble_eq_true rfl)) dX9_manyOf_21 ?_
    refine lv_topi (fun y_5 ey_5 => ?_)
    obtain ⟨u_6, hu_6, qu_6, xu_6⟩ := bN_getx 4 q7 (n := ((14 * x16) + a0)) (by first | omega | exact Nat.lt_trans (zx16 (by omega) (by omega) (by omega)) (Nat.le_of_ble_eq_true rfl) | exact Nat.lt_trans (zy16 (by omega) (by omega)) (Nat.le_of_ble_eq_true rfl) | exact Nat.lt_trans (zx25 (by omega) (by omega) (by omega)) (Nat.le_of_ble_eq_true rfl) | exact Nat.lt_trans (zy25 (by omega) (by omega)) (Nat.le_of_ble_eq_true rfl))
    obtain rfl : y_5 = nI u_6 := ey_5.trans qu_6
    replace hsp := hsp.trans (slet_eq xu_6)
    refine lv_goto (tgt := 57) hx hb dX9_manyOf_22 (by decide) ?_
    exact W.iret (v := (nI u_6)) hx hb hr (fun t ht hW => ⟨⟨(nI u_6), (), rfl, ⟨u_6 + 1, by omega, rfl, by first | exact Or.inr (Or.inl ⟨u_6, by omega, by omega, rfl⟩) | exact Or.inr (Or.inr ⟨u_6, by omega, by omega, rfl⟩), (hsp.symm.trans hRR)⟩, trivial⟩, hS.F ht⟩) hS.2.2 dX9_manyOf_57
  · replace hsp := hsp.trans (if_neg hn)
    refine lv_if_eq (tgt := 25) hx hb dX9_manyOf_5 (by decide) (fun _ => ?_) (fun z => absurd z (by decide))
    rcases Nat.lt_or_ge a0 100 with hlt | hge
    · replace hsp := hsp.trans (if_pos hlt)
      refine lv_aload_n hx hb dX9_manyOf_25 rfl (lv_at hl 0 rfl) ?_
      refine lv_iload_n hx hb dX9_manyOf_26 rfl (lv_at hl 1 rfl) ?_
      refine lv_bipush (v := 100) hx hb dX9_manyOf_27 (by decide) ?_
      refine lv_isub hx hb dX9_manyOf_29 ?_
      refine lv_topi (fun y_7 ey_7 => ?_)
      replace hsp := hsp.trans (slet_eq ey_7)
      refine va_calli (va_runV (As := [.int y_7]) (rest := []) ⟨hx, hb, hml, hown, hts⟩ (c_EM_isPlace l dC dI _ ad ck x0 x16 x18 x19 x20 x21 x22 x23 x24 x25 x26 x27 x28 x29 x30 x33 x45 x46 x52 x53 x61 x62 x63 x65 x66 f1 f2 f3 q4 q5 q6 q7 f8 q9 q10 f11 m12_0 m12_1 m13_0 m13_1 m14_0 m14_1 m15_0 m15_1 f17 q31 f32 f34 f35 f36 f37 q38 f39 f40 f41 m42_0 m42_1 f43 f44 f47 f48 f49 f50 f51 q54 q55 q56 f57 q58 f59 f60 f64 y_7 hx16 hx18 hx19 hx21 hx22 hx26 hx28 hx29 hx30 hx33 hx46 hx52 hx53 hx61 hx62 hx63 hx65 hm12_0 hm12_1 hm13_0 hm13_1 hm14_0 hm14_1 hm15_0 hm15_1 hm42_0 hm42_1) (cwV 1 hts g_EM_manyOf_n_EM_isPlace rfl rfl rfl (by decide +kernel) ⟨Nat.le_of_ble_eq_true rfl, Nat.le_of_ble_eq_true rfl⟩) ⟨pu_bl, va_recv hK hP (ci := 9) (q0 := 0) rfl rfl, pu_in hP hK hD⟩ rfl rfl hl.1 rfl (lv_room (Nat.le_of_ble_eq_true rfl)) dX9_manyOf_30 ⟨Nat.le_of_ble_eq_true rfl, Nat.le_of_ble_eq_true rfl⟩) hS (fun q _ h => pu_fr hS hA q h) (pu_fr hS hA) (fun r_8 u t H1 locs ht hvm hw hB hz1 hk1 hS => ?_)
      have hP := pu_keep hP hk1
      clear hk1 hz1 ht hvm
      generalize H1 = H at hP hS ⊢
      rcases hw with ⟨rfl, hw⟩ | ⟨rfl, hn⟩
      · obtain ⟨n_9, hn_9, en_9⟩ := hw
        replace hsp := hsp.trans (if_pos (in_c hn_9 ⟨by omega, by omega⟩ en_9))
        subst en_9
        replace hsp := hsp.trans (slet_eq (nI_cl (n := n_9) (by omega)))
        exfalso
        have hz := (nI_eq (a := a0) (by omega) (by omega)).mp (pu_p100 ey_7)
        omega
      · replace hsp := hsp.trans (if_neg hn)
        refine lv_if_eq (tgt := 56) hx hb dX9_manyOf_33 (by decide) (fun _ => ?_) (fun z => absurd z (by decide))
        refine lv_iconst (v := (-1)) hx hb dX9_manyOf_56 (by decide) ?_
        exact W.iret (v := (-1)) hx hb hr (fun t ht hW => ⟨⟨(-1), (), rfl, ⟨0, by omega, rfl, Or.inl rfl, (hsp.symm.trans hRR)⟩, trivial⟩, hS.F ht⟩) hS.2.2 dX9_manyOf_57
    · replace hsp := hsp.trans (if_neg (Nat.not_lt.mpr hge))
      refine lv_aload_n hx hb dX9_manyOf_25 rfl (lv_at hl 0 rfl) ?_
      refine lv_iload_n hx hb dX9_manyOf_26 rfl (lv_at hl 1 rfl) ?_
      refine lv_bipush (v := 100) hx hb dX9_manyOf_27 (by decide) ?_
      refine lv_isub hx hb dX9_manyOf_29 ?_
      refine lv_topi (fun y_10 ey_10 => ?_)
      obtain rfl : y_10 = (nI (a0 - 100)) := ey_10.trans (pk_sub (a := a0) (b := 100) (by omega))
      refine va_calli (va_runV (As := [.int (nI (a0 - 100))]) (rest := []) ⟨hx, hb, hml, hown, hts⟩ (c_EM_isPlace_k l dC dI _ ad ck x0 x16 x18 x19 x20 x21 x22 x23 x24 x25 x26 x27 x28 x29 x30 x33 x45 x46 x52 x53 x61 x62 x63 x65 x66 f1 f2 f3 q4 q5 q6 q7 f8 q9 q10 f11 m12_0 m12_1 m13_0 m13_1 m14_0 m14_1 m15_0 m15_1 f17 q31 f32 f34 f35 f36 f37 q38 f39 f40 f41 m42_0 m42_1 f43 f44 f47 f48 f49 f50 f51 q54 q55 q56 f57 q58 f59 f60 f64 (a0 - 100) hx16 hx18 hx19 hx21 hx22 hx26 hx28 hx29 hx30 hx33 hx46 hx52 hx53 hx61 hx62 hx63 hx65 hm12_0 hm12_1 hm13_0 hm13_1 hm14_0 hm14_1 hm15_0 hm15_1 hm42_0 hm42_1 (by omega)) (cwV 1 hts g_EM_manyOf_n_EM_isPlace_k rfl rfl rfl (by decide +kernel) ⟨Nat.le_of_ble_eq_true rfl, Nat.le_of_ble_eq_true rfl⟩) ⟨pu_bl, va_recv hK hP (ci := 9) (q0 := 0) rfl rfl, pu_in hP hK hD⟩ rfl rfl hl.1 rfl (lv_room (Nat.le_of_ble_eq_true rfl)) dX9_manyOf_30 ⟨Nat.le_of_ble_eq_true rfl, Nat.le_of_ble_eq_true rfl⟩) hS (fun q _ h => pu_fr hS hA q h) (pu_fr hS hA) (fun r_11 u t H1 locs ht hvm hw hB hz1 hk1 hS => ?_)
      have hP := pu_keep hP hk1
      clear hk1 hz1 ht hvm
      generalize H1 = H at hP hS ⊢
      obtain ⟨u_12, hu_12, rfl, iu_12⟩ := hw
      replace hsp := hsp.trans (slet_eq iu_12)
      refine lv_if_eq (tgt := 56) hx hb dX9_manyOf_33 (by decide) (fun c_13 => ?_) (fun c_13 => ?_)
      · have c_13 : u_12 = 0 := (nI_eq (a := u_12) (b := 0) (Nat.lt_of_le_of_lt hu_12 (Nat.le_of_ble_eq_true rfl)) (Nat.le_of_ble_eq_true rfl)).mp c_13
        replace hsp := hsp.trans (if_pos c_13)
        refine lv_iconst (v := (-1)) hx hb dX9_manyOf_56 (by decide) ?_
        exact W.iret (v := (-1)) hx hb hr (fun t ht hW => ⟨⟨(-1), (), rfl, ⟨0, by omega, rfl, Or.inl rfl, (hsp.symm.trans hRR)⟩, trivial⟩, hS.F ht⟩) hS.2.2 dX9_manyOf_57
      · have c_13 : ¬ u_12 = 0 := fun z => c_13 ((nI_eq (a := u_12) (b := 0) (Nat.lt_of_le_of_lt hu_12 (Nat.le_of_ble_eq_true rfl)) (Nat.le_of_ble_eq_true rfl)).mpr z)
        replace hsp := hsp.trans (if_neg c_13)
        refine lv_aload_n hx hb dX9_manyOf_36 rfl (lv_at hl 0 rfl) ?_
        refine va_get (D := (dC, dI)) (ci := 9) (v := .ref (ad 4)) (C := RX9) (T := TX9) (N := 67) hx hb hts hiX9 hown hK hP 0 rfl rfl 4 (by decide) v_12 (fun _ h9 => h9) rfl dX9_manyOf_37 ?_
        refine lv_bipush (v := 8) hx hb dX9_manyOf_40 (by decide) ?_
        refine lv_aload_n hx hb dX9_manyOf_42 rfl (lv_at hl 0 rfl) ?_
        refine va_get (D := (dC, dI)) (ci := 9) (v := .int (nI x16)) (C := RX9) (T := TX9) (N := 67) hx hb hts hiX9 hown hK hP 0 rfl rfl 16 (by decide) v_7 (fun _ h9 => h9) rfl dX9_manyOf_43 ?_
        refine lv_imul hx hb dX9_manyOf_46 ?_
        refine lv_topi (fun y_14 ey_14 => ?_)
        obtain rfl : y_14 = (nI (8 * x16)) := ey_14.trans (pk_mul 8 x16)
        refine lv_iload_n hx hb dX9_manyOf_47 rfl (lv_at hl 1 rfl) ?_
        refine lv_iadd hx hb dX9_manyOf_48 ?_
        refine lv_topi (fun y_15 ey_15 => ?_)
        obtain rfl : y_15 = (nI ((8 * x16) + a0)) := ey_15.trans (nI_add (8 * x16) a0)
        refine lv_bipush (v := 100) hx hb dX9_manyOf_49 (by decide) ?_
        refine lv_isub hx hb dX9_manyOf_51 ?_
        refine lv_topi (fun y_16 ey_16 => ?_)
        obtain rfl : y_16 = (nI (((8 * x16) + a0) - 100)) := ey_16.trans (pk_sub (a := ((8 * x16) + a0)) (b := 100) (by omega))
        refine va_iald hx hb hK hP 4 3 rfl rfl (vp_in_nI (n := (((8 * x16) + a0) - 100)) (by omega) (Nat.le_of_ble_eq_true rfl)) dX9_manyOf_52 ?_
        refine lv_topi (fun y_17 ey_17 => ?_)
        obtain ⟨u_18, hu_18, qu_18, xu_18⟩ := bN_getx 3 q4 (n := (((8 * x16) + a0) - 100)) (by first | omega | exact Nat.lt_trans (zx16 (by omega) (by omega) (by omega)) (Nat.le_of_ble_eq_true rfl) | exact Nat.lt_trans (zy16 (by omega) (by omega)) (Nat.le_of_ble_eq_true rfl) | exact Nat.lt_trans (zx25 (by omega) (by omega) (by omega)) (Nat.le_of_ble_eq_true rfl) | exact Nat.lt_trans (zy25 (by omega) (by omega)) (Nat.le_of_ble_eq_true rfl))
        obtain rfl : y_17 = nI u_18 := ey_17.trans qu_18
        replace hsp := hsp.trans (slet_eq xu_18)
        refine lv_goto (tgt := 57) hx hb dX9_manyOf_53 (by decide) ?_
        exact W.iret (v := (nI u_18)) hx hb hr (fun t ht hW => ⟨⟨(nI u_18), (), rfl, ⟨u_18 + 1, by omega, rfl, by first | exact Or.inr (Or.inl ⟨u_18, by omega, by omega, rfl⟩) | exact Or.inr (Or.inr ⟨u_18, by omega, by omega, rfl⟩), (hsp.symm.trans hRR)⟩, trivial⟩, hS.F ht⟩) hS.2.2 dX9_manyOf_57
