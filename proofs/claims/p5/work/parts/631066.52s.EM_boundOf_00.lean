theorem dX9_boundOf_0 : decode cX9_boundOf 0 = .ok (.aload_n 0, 1) := by decide +kernel
theorem dX9_boundOf_1 : decode cX9_boundOf 1 = .ok (.getfield 68, 3) := by decide +kernel
theorem dX9_boundOf_4 : decode cX9_boundOf 4 = .ok (.bipush 25, 2) := by decide +kernel
theorem dX9_boundOf_6 : decode cX9_boundOf 6 = .ok (.iload_n 1, 1) := by decide +kernel
theorem dX9_boundOf_7 : decode cX9_boundOf 7 = .ok (.imul, 1) := by decide +kernel
theorem dX9_boundOf_8 : decode cX9_boundOf 8 = .ok (.iconst 5, 1) := by decide +kernel
theorem dX9_boundOf_9 : decode cX9_boundOf 9 = .ok (.iload_n 2, 1) := by decide +kernel
theorem dX9_boundOf_10 : decode cX9_boundOf 10 = .ok (.iconst 1, 1) := by decide +kernel
theorem dX9_boundOf_11 : decode cX9_boundOf 11 = .ok (.iadd, 1) := by decide +kernel
theorem dX9_boundOf_12 : decode cX9_boundOf 12 = .ok (.imul, 1) := by decide +kernel
theorem dX9_boundOf_13 : decode cX9_boundOf 13 = .ok (.iadd, 1) := by decide +kernel
theorem dX9_boundOf_14 : decode cX9_boundOf 14 = .ok (.iload_n 3, 1) := by decide +kernel
theorem dX9_boundOf_15 : decode cX9_boundOf 15 = .ok (.iadd, 1) := by decide +kernel
theorem dX9_boundOf_16 : decode cX9_boundOf 16 = .ok (.iconst 1, 1) := by decide +kernel
theorem dX9_boundOf_17 : decode cX9_boundOf 17 = .ok (.iadd, 1) := by decide +kernel
theorem dX9_boundOf_18 : decode cX9_boundOf 18 = .ok (.iaload, 1) := by decide +kernel
theorem dX9_boundOf_19 : decode cX9_boundOf 19 = .ok (.ireturn, 1) := by decide +kernel
abbrev vs_EM_boundOf_00 : List Cond := .code yX9_boundOf cX9_boundOf 4 (some .int) :: VM
noncomputable def sp_EM_boundOf_00 (f34 : Nat → Int32) (a0 : Nat) : Int32 := (slet (f34 ((25 * a0) + 0)) (fun y_6 => y_6))
set_option maxHeartbeats 4000000 in
set_option maxRecDepth 100000 in
theorem c_EM_boundOf_00 (l : Launch) (dC : Nat → ClassId) (dI : Nat → Nat → Nat) (sz : Nat) (ad : Nat → Nat) (ck : Nat → ClassId) (x0 : Int32) (x16 : Nat) (x18 : Nat) (x19 : Nat) (x20 : Int32) (x21 : Nat) (x22 : Nat) (x23 : Int32) (x24 : Int32) (x25 : Int32) (x26 : Nat) (x27 : Int32) (x28 : Nat) (x29 : Nat) (x30 : Nat) (x33 : Nat) (x45 : Int32) (x46 : Nat) (x52 : Nat) (x53 : Nat) (x61 : Nat) (x62 : Nat) (x63 : Nat) (x65 : Nat) (x66 : Int32) (f1 : Nat → Int32) (f2 : Nat → Int32) (f3 : Nat → Int32) (q4 : Nat → Nat) (q5 : Nat → Nat) (q6 : Nat → Nat) (q7 : Nat → Nat) (f8 : Nat → Int32) (q9 : Nat → Nat) (q10 : Nat → Nat) (f11 : Nat → Int32) (m12_0 m12_1 : Nat) (m13_0 m13_1 : Nat) (m14_0 m14_1 : Nat) (m15_0 m15_1 : Nat) (f17 : Nat → Int32) (q31 : Nat → Nat) (f32 : Nat → Int32) (f34 : Nat → Int32) (f35 : Nat → Int32) (f36 : Nat → Int32) (f37 : Nat → Int32) (q38 : Nat → Nat) (f39 : Nat → Int32) (f40 : Nat → Int32) (f41 : Nat → Int32) (m42_0 m42_1 : Nat) (f43 : Nat → Int32) (f44 : Nat → Int32) (f47 : Nat → Int32) (f48 : Nat → Int32) (f49 : Nat → Int32) (f50 : Nat → Int32) (f51 : Nat → Int32) (q54 : Nat → Nat) (q55 : Nat → Nat) (q56 : Nat → Nat) (f57 : Nat → Int32) (q58 : Nat → Nat) (f59 : Nat → Int32) (f60 : Nat → Int32) (f64 : Nat → Int32) (a0 : Nat) (hx16 : x16 ≤ 1) (hx18 : x18 ≤ 900) (hx19 : x19 ≤ 900) (hx21 : x21 ≤ 900) (hx22 : x22 ≤ 4) (hx26 : x26 ≤ 6) (hx28 : x28 ≤ 1) (hx29 : x29 ≤ 1) (hx30 : x30 ≤ 1) (hx33 : x33 ≤ 20) (hx46 : x46 ≤ 5) (hx52 : x52 ≤ 2400) (hx53 : x53 ≤ 119) (hx61 : x61 ≤ 119) (hx62 : x62 ≤ 2000) (hx63 : x63 ≤ 1) (hx65 : x65 ≤ 7) (hm12_0 : m12_0 ≤ 3) (hm12_1 : m12_1 ≤ 3) (hm13_0 : m13_0 ≤ 8) (hm13_1 : m13_1 ≤ 8) (hm14_0 : m14_0 ≤ 14) (hm14_1 : m14_1 ≤ 14) (hm15_0 : m15_0 ≤ 8) (hm15_1 : m15_1 ≤ 8) (hm42_0 : m42_0 ≤ 120) (hm42_1 : m42_1 ≤ 400) (ha0 : a0 ≤ 519) : Met l yX9_boundOf vs_EM_boundOf_00 ({ frames := 0, cells := 0, slots := 0, locals := 0 }) (va_Pc [.ref (ad 0), .int (nI a0), .int (-1), .int (-1)] (pu_B (dC, dI) (mo_w ad ck x0 (nI x16) (nI x18) (nI x19) x20 (nI x21) (nI x22) x23 x24 x25 (nI x26) x27 (nI x28) (nI x29) (nI x30) (nI x33) x45 (nI x46) (nI x52) (nI x53) (nI x61) (nI x62) (nI x63) (nI x65) x66 f1 f2 f3 (bN 3 q4) (bN 7 q5) (bN 7 q6) (bN 4 q7) f8 (bN 2 q9) (bH q10) f11 (b2 m12_0 m12_1) (b2 m13_0 m13_1) (b2 m14_0 m14_1) (b2m m15_0 m15_1) f17 (bA 159 q31) f32 f34 f35 f36 f37 (bN 7 q38) f39 f40 f41 (b2 m42_0 m42_1) f43 f44 f47 f48 f49 f50 f51 (bN 13 q54) (bN 120 q55) (bN 120 q56) f57 (bN 120 q58) f59 f60 f64) (mo_t ck) sz)) (va_Qi (fun (r : Int32) (_ : Unit) => r = (sp_EM_boundOf_00 f34 a0)) (fun _ _ => True) (va_A [] sz)) 0 0 (va_A [] sz) := by
  refine Met.ofW (cc := cX9_boundOf) (maxL := 4) (ret := (some .int)) (by decide) rfl ?_
  intro p e s m args below meth c s₁ B hml hv
  obtain ⟨rfl, rfl, hP, hK, hD0⟩ := hv
  have hx := B.exec
  have hb := B.bytes
  have hr := B.returns
  have hts := atoms_spec (ws := vs_EM_boundOf_00) B.pre
  have v_1 := hts (.fieldLink RX9 68 "ClockReachModel" "zone" "[I") (List.mem_cons_of_mem _ vm_214)
  have hown : s.vm.findClass RX9 = some m.cls := findClass_of_methodNamed B.named
  have hlocks := B.notSynchronized
  have hiX9 : ∀ w ∈ wsX90, w ∈ vs_EM_boundOf_00 := fun _ h => List.mem_cons_of_mem _ (vmi_L h)
  have hD := hD0
  have hA : ∀ q : Nat, s.heap.size ≤ q → va_A [] s.heap.size q := fun _ h => Or.inr h
  have hS : va_S (va_A [] s.heap.size) s.heap s.heap [] := va_S.rf
  have hl := lv_entry ([.ref (ad 0), .int (nI a0), .int (-1), .int (-1)]) (n := 4) (Nat.le_of_ble_eq_true rfl)
  rw [lg_entry_eq]
  generalize (lg_sl ([.ref (ad 0), .int (nI a0), .int (-1), .int (-1)]) ++ List.replicate (4 - (lg_sl ([.ref (ad 0), .int (nI a0), .int (-1), .int (-1)])).length) Slot.unset).toArray = ls at hl ⊢
  have hl : lv_has ls 4 [(0, .ref (ad 0)), (1, .int (nI a0)), (2, .int (-1)), (3, .int (-1))] := hl
  obtain ⟨RR, hRR⟩ : ∃ x, x = (sp_EM_boundOf_00 f34 a0) := ⟨_, rfl⟩
  have hsp := hRR
  refine lv_aload_n hx hb dX9_boundOf_0 rfl (lv_at hl 0 rfl) ?_
  refine va_get (D := (dC, dI)) (ci := 9) (v := .ref (ad 34)) (C := RX9) (T := TX9) (N := 67) hx hb hts hiX9 hown hK hP 0 rfl rfl 34 (by decide) v_1 (fun _ h9 => h9) rfl dX9_boundOf_1 ?_
  refine lv_bipush (v := 25) hx hb dX9_boundOf_4 (by decide) ?_
  refine lv_iload_n hx hb dX9_boundOf_6 rfl (lv_at hl 1 rfl) ?_
  refine lv_imul hx hb dX9_boundOf_7 ?_
  refine lv_topi (fun y_1 ey_1 => ?_)
  obtain rfl : y_1 = (nI (25 * a0)) := ey_1.trans (pk_mul 25 a0)
  refine lv_iconst (v := 5) hx hb dX9_boundOf_8 (by decide) ?_
  refine lv_iload_n hx hb dX9_boundOf_9 rfl (lv_at hl 2 rfl) ?_
  refine lv_iconst (v := 1) hx hb dX9_boundOf_10 (by decide) ?_
  refine lv_iadd hx hb dX9_boundOf_11 ?_
  refine lv_topi (fun y_2 ey_2 => ?_)
  obtain rfl : y_2 = 0 := ey_2.trans (by decide)
  refine lv_imul hx hb dX9_boundOf_12 ?_
  refine lv_topi (fun y_3 ey_3 => ?_)
  obtain rfl : y_3 = 0 := ey_3.trans (by decide)
  refine lv_iadd hx hb dX9_boundOf_13 ?_
  refine lv_topi (fun y_4 ey_4 => ?_)
  obtain rfl : y_4 = (nI ((25 * a0) + 0)) := ey_4.trans (nI_add (25 * a0) 0)
  refine lv_iload_n hx hb dX9_boundOf_14 rfl (lv_at hl 3 rfl) ?_
  refine lv_iadd hx hb dX9_boundOf_15 ?_
  refine lv_iconst (v := 1) hx hb dX9_boundOf_16 (by decide) ?_
  refine lv_iadd hx hb dX9_boundOf_17 ?_
  refine lv_topi (fun y_5 ey_5 => ?_)
  obtain rfl : y_5 = (nI ((25 * a0) + 0)) := ey_5.trans (pu_pm _)
  refine va_iald hx hb hK hP 19 18 rfl rfl (vp_in_nI (n := ((25 * a0) + 0)) (by omega) (Nat.le_of_ble_eq_true rfl)) dX9_boundOf_18 ?_
  refine lv_topi (fun y_6 ey_6 => ?_)
  have ey_6 : y_6 = f34 ((25 * a0) + 0) := ey_6.trans (congrArg f34 (nI_clamp (n := ((25 * a0) + 0)) (by first | omega | exact Nat.lt_trans (zx16 (by omega) (by omega) (by omega)) (Nat.le_of_ble_eq_true rfl) | exact Nat.lt_trans (zy16 (by omega) (by omega)) (Nat.le_of_ble_eq_true rfl) | exact Nat.lt_trans (zx25 (by omega) (by omega) (by omega)) (Nat.le_of_ble_eq_true rfl) | exact Nat.lt_trans (zy25 (by omega) (by omega)) (Nat.le_of_ble_eq_true rfl))))
  replace hsp := hsp.trans (slet_eq ey_6)
  exact W.iret (v := y_6) hx hb hr (fun t ht hW => ⟨⟨y_6, (), rfl, (hsp.symm.trans hRR), trivial⟩, hS.F ht⟩) hS.2.2 dX9_boundOf_19
