theorem dX9_canTake_0 : decode cX9_canTake 0 = .ok (.aload_n 0, 1) := by decide +kernel
theorem dX9_canTake_1 : decode cX9_canTake 1 = .ok (.iload_n 1, 1) := by decide +kernel
theorem dX9_canTake_2 : decode cX9_canTake 2 = .ok (.invokevirtual 289, 3) := by decide +kernel
theorem dX9_canTake_5 : decode cX9_canTake 5 = .ok (.aload_n 0, 1) := by decide +kernel
theorem dX9_canTake_6 : decode cX9_canTake 6 = .ok (.getfield 466, 3) := by decide +kernel
theorem dX9_canTake_9 : decode cX9_canTake 9 = .ok (.if_icmp .ne 36, 3) := by decide +kernel
theorem dX9_canTake_12 : decode cX9_canTake 12 = .ok (.aload_n 0, 1) := by decide +kernel
theorem dX9_canTake_13 : decode cX9_canTake 13 = .ok (.iload_n 1, 1) := by decide +kernel
theorem dX9_canTake_14 : decode cX9_canTake 14 = .ok (.iconst 0, 1) := by decide +kernel
theorem dX9_canTake_15 : decode cX9_canTake 15 = .ok (.invokevirtual 472, 3) := by decide +kernel
theorem dX9_canTake_18 : decode cX9_canTake 18 = .ok (.ifCond .eq 27, 3) := by decide +kernel
theorem dX9_canTake_21 : decode cX9_canTake 21 = .ok (.aload_n 0, 1) := by decide +kernel
theorem dX9_canTake_22 : decode cX9_canTake 22 = .ok (.bipush 100, 2) := by decide +kernel
theorem dX9_canTake_24 : decode cX9_canTake 24 = .ok (.aload_n 0, 1) := by decide +kernel
theorem dX9_canTake_25 : decode cX9_canTake 25 = .ok (.iload_n 1, 1) := by decide +kernel
theorem dX9_canTake_26 : decode cX9_canTake 26 = .ok (.invokevirtual 292, 3) := by decide +kernel
theorem dX9_canTake_29 : decode cX9_canTake 29 = .ok (.iadd, 1) := by decide +kernel
theorem dX9_canTake_30 : decode cX9_canTake 30 = .ok (.aload_n 0, 1) := by decide +kernel
theorem dX9_canTake_31 : decode cX9_canTake 31 = .ok (.iload_n 1, 1) := by decide +kernel
theorem dX9_canTake_32 : decode cX9_canTake 32 = .ok (.invokevirtual 305, 3) := by decide +kernel
theorem dX9_canTake_35 : decode cX9_canTake 35 = .ok (.invokevirtual 472, 3) := by decide +kernel
theorem dX9_canTake_38 : decode cX9_canTake 38 = .ok (.ifCond .eq 7, 3) := by decide +kernel
theorem dX9_canTake_41 : decode cX9_canTake 41 = .ok (.iconst 1, 1) := by decide +kernel
theorem dX9_canTake_42 : decode cX9_canTake 42 = .ok (.goto 4, 3) := by decide +kernel
theorem dX9_canTake_45 : decode cX9_canTake 45 = .ok (.iconst 0, 1) := by decide +kernel
theorem dX9_canTake_46 : decode cX9_canTake 46 = .ok (.ireturn, 1) := by decide +kernel
abbrev vs_EM_canTake : List Cond := .code yX9_canTake cX9_canTake 2 (some .boolean) :: VM
theorem g_EM_canTake_EM_outOf : GoodIn vs_EM_canTake (wsV RX9 289 RX9 yX9_outOf vs_EM_outOf) := gm_V vm_41 vm_42 vm_43 vm_19 vm_44
theorem g_EM_canTake_EM_isHeld_e : GoodIn vs_EM_canTake (wsV RX9 472 RX9 yX9_isHeld vs_EM_isHeld_e) := gm_V vm_359 vm_360 vm_361 vm_19 vm_362
theorem g_EM_canTake_EM_into : GoodIn vs_EM_canTake (wsV RX9 292 RX9 yX9_into vs_EM_into) := gm_V vm_37 vm_38 vm_39 vm_19 vm_40
theorem g_EM_canTake_EM_setBy : GoodIn vs_EM_canTake (wsV RX9 305 RX9 yX9_setBy vs_EM_setBy) := gm_V vm_171 vm_172 vm_173 vm_19 vm_174
theorem g_EM_canTake_EM_isHeld_p : GoodIn vs_EM_canTake (wsV RX9 472 RX9 yX9_isHeld vs_EM_isHeld_p) := gm_V vm_359 vm_360 vm_361 vm_19 vm_362
noncomputable def sp_EM_canTake (x16 : Nat) (x65 : Nat) (q4 : Nat → Nat) (q5 : Nat → Nat) (q6 : Nat → Nat) (q7 : Nat → Nat) (f8 : Nat → Int32) (q9 : Nat → Nat) (q10 : Nat → Nat) (f11 : Nat → Int32) (m13_0 : Nat) (m13_1 : Nat) (m14_0 : Nat) (m14_1 : Nat) (f64 : Nat → Int32) (a0 : Nat) : Nat := (slet (sp_EM_outOf x16 q5 a0) (fun u_2 => (if u_2 = x65 then (slet (sp_EM_isHeld_e x16 q7 q9 q10 f11 m13_0 m13_1 m14_0 m14_1 f64 a0 0) (fun u_5 => (if u_5 = 0 then 0 else (slet (sp_EM_into x16 q6 a0) (fun u_8 => (slet (sp_EM_setBy x16 f8 a0) (fun r_10 => (slet (sp_EM_isHeld_p x16 q4 q9 q10 f11 m13_0 m13_1 f64 (100 + u_8) r_10) (fun u_12 => (if u_12 = 0 then 0 else 1)))))))))) else 0)))
set_option maxHeartbeats 4000000 in
set_option maxRecDepth 100000 in
theorem c_EM_canTake (l : Launch) (dC : Nat → ClassId) (dI : Nat → Nat → Nat) (sz : Nat) (ad : Nat → Nat) (ck : Nat → ClassId) (x0 : Int32) (x16 : Nat) (x18 : Nat) (x19 : Nat) (x20 : Int32) (x21 : Nat) (x22 : Nat) (x23 : Int32) (x24 : Int32) (x25 : Int32) (x26 : Nat) (x27 : Int32) (x28 : Nat) (x29 : Nat) (x30 : Nat) (x33 : Nat) (x45 : Int32) (x46 : Nat) (x52 : Nat) (x53 : Nat) (x61 : Nat) (x62 : Nat) (x63 : Nat) (x65 : Nat) (x66 : Int32) (f1 : Nat → Int32) (f2 : Nat → Int32) (f3 : Nat → Int32) (q4 : Nat → Nat) (q5 : Nat → Nat) (q6 : Nat → Nat) (q7 : Nat → Nat) (f8 : Nat → Int32) (q9 : Nat → Nat) (q10 : Nat → Nat) (f11 : Nat → Int32) (m12_0 m12_1 : Nat) (m13_0 m13_1 : Nat) (m14_0 m14_1 : Nat) (m15_0 m15_1 : Nat) (f17 : Nat → Int32) (q31 : Nat → Nat) (f32 : Nat → Int32) (f34 : Nat → Int32) (f35 : Nat → Int32) (f36 : Nat → Int32) (f37 : Nat → Int32) (q38 : Nat → Nat) (f39 : Nat → Int32) (f40 : Nat → Int32) (f41 : Nat → Int32) (m42_0 m42_1 : Nat) (f43 : Nat → Int32) (f44 : Nat → Int32) (f47 : Nat → Int32) (f48 : Nat → Int32) (f49 : Nat → Int32) (f50 : Nat → Int32) (f51 : Nat → Int32) (q54 : Nat → Nat) (q55 : Nat → Nat) (q56 : Nat → Nat) (f57 : Nat → Int32) (q58 : Nat → Nat) (f59 : Nat → Int32) (f60 : Nat → Int32) (f64 : Nat → Int32) (a0 : Nat) (hx16 : x16 ≤ 1) (hx18 : x18 ≤ 900) (hx19 : x19 ≤ 900) (hx21 : x21 ≤ 900) (hx22 : x22 ≤ 4) (hx26 : x26 ≤ 6) (hx28 : x28 ≤ 1) (hx29 : x29 ≤ 1) (hx30 : x30 ≤ 1) (hx33 : x33 ≤ 20) (hx46 : x46 ≤ 5) (hx52 : x52 ≤ 2400) (hx53 : x53 ≤ 119) (hx61 : x61 ≤ 119) (hx62 : x62 ≤ 2000) (hx63 : x63 ≤ 1) (hx65 : x65 ≤ 7) (hm12_0 : m12_0 ≤ 3) (hm12_1 : m12_1 ≤ 3) (hm13_0 : m13_0 ≤ 8) (hm13_1 : m13_1 ≤ 8) (hm14_0 : m14_0 ≤ 14) (hm14_1 : m14_1 ≤ 14) (hm15_0 : m15_0 ≤ 8) (hm15_1 : m15_1 ≤ 8) (hm42_0 : m42_0 ≤ 120) (hm42_1 : m42_1 ≤ 400) (ha0 : a0 ≤ 13) : Met l yX9_canTake vs_EM_canTake ({ frames := 4, cells := 0, slots := 0, locals := 91 }) (va_Pc [.ref (ad 0), .int (nI a0)] (pu_B (dC, dI) (mo_w ad ck x0 (nI x16) (nI x18) (nI x19) x20 (nI x21) (nI x22) x23 x24 x25 (nI x26) x27 (nI x28) (nI x29) (nI x30) (nI x33) x45 (nI x46) (nI x52) (nI x53) (nI x61) (nI x62) (nI x63) (nI x65) x66 f1 f2 f3 (bN 3 q4) (bN 7 q5) (bN 7 q6) (bN 4 q7) f8 (bN 2 q9) (bH q10) f11 (b2 m12_0 m12_1) (b2 m13_0 m13_1) (b2 m14_0 m14_1) (b2m m15_0 m15_1) f17 (bA 159 q31) f32 f34 f35 f36 f37 (bN 7 q38) f39 f40 f41 (b2 m42_0 m42_1) f43 f44 f47 f48 f49 f50 f51 (bN 13 q54) (bN 120 q55) (bN 120 q56) f57 (bN 120 q58) f59 f60 f64) (mo_t ck) sz)) (va_Qi (fun (r : Int32) (_ : Unit) => ∃ v : Nat, v ≤ 1 ∧ r = nI v ∧ v = (sp_EM_canTake x16 x65 q4 q5 q6 q7 f8 q9 q10 f11 m13_0 m13_1 m14_0 m14_1 f64 a0)) (fun _ _ => True) (va_A [] sz)) 0 0 (va_A [] sz) := by
  refine Met.ofW (cc := cX9_canTake) (maxL := 2) (ret := (some .boolean)) (by decide) rfl ?_
  intro p e s m args below meth c s₁ B hml hv
  obtain ⟨rfl, rfl, hP, hK, hD0⟩ := hv
  have hx := B.exec
  have hb := B.bytes
  have hr := B.returns
  have hts := atoms_spec (ws := vs_EM_canTake) B.pre
  have v_6 := hts (.fieldLink RX9 466 "ClockReachModel" "playPlace" "I") (List.mem_cons_of_mem _ vm_363)
  have hown : s.vm.findClass RX9 = some m.cls := findClass_of_methodNamed B.named
  have hlocks := B.notSynchronized
  have hiX9 : ∀ w ∈ wsX90, w ∈ vs_EM_canTake := fun _ h => List.mem_cons_of_mem _ (vmi_L h)
  have hD := hD0
  have hA : ∀ q : Nat, s.heap.size ≤ q → va_A [] s.heap.size q := fun _ h => Or.inr h
  have hS : va_S (va_A [] s.heap.size) s.heap s.heap [] := va_S.rf
  have hl := lv_entry ([.ref (ad 0), .int (nI a0)]) (n := 2) (Nat.le_of_ble_eq_true rfl)
  rw [lg_entry_eq]
  generalize (lg_sl ([.ref (ad 0), .int (nI a0)]) ++ List.replicate (2 - (lg_sl ([.ref (ad 0), .int (nI a0)])).length) Slot.unset).toArray = ls at hl ⊢
  have hl : lv_has ls 2 [(0, .ref (ad 0)), (1, .int (nI a0))] := hl
  obtain ⟨RR, hRR⟩ : ∃ x, x = (sp_EM_canTake x16 x65 q4 q5 q6 q7 f8 q9 q10 f11 m13_0 m13_1 m14_0 m14_1 f64 a0) := ⟨_, rfl⟩
  have hsp := hRR
  refine lv_aload_n hx hb dX9_canTake_0 rfl (lv_at hl 0 rfl) ?_
  refine lv_iload_n hx hb dX9_canTake_1 rfl (lv_at hl 1 rfl) ?_
  refine va_calli (va_runV (As := [.int (nI a0)]) (rest := []) ⟨hx, hb, hml, hown, hts⟩ (c_EM_outOf l dC dI _ ad ck x0 x16 x18 x19 x20 x21 x22 x23 x24 x25 x26 x27 x28 x29 x30 x33 x45 x46 x52 x53 x61 x62 x63 x65 x66 f1 f2 f3 q4 q5 q6 q7 f8 q9 q10 f11 m12_0 m12_1 m13_0 m13_1 m14_0 m14_1 m15_0 m15_1 f17 q31 f32 f34 f35 f36 f37 q38 f39 f40 f41 m42_0 m42_1 f43 f44 f47 f48 f49 f50 f51 q54 q55 q56 f57 q58 f59 f60 f64 a0 hx16 hx18 hx19 hx21 hx22 hx26 hx28 hx29 hx30 hx33 hx46 hx52 hx53 hx61 hx62 hx63 hx65 hm12_0 hm12_1 hm13_0 hm13_1 hm14_0 hm14_1 hm15_0 hm15_1 hm42_0 hm42_1 ha0) (cwV 1 hts g_EM_canTake_EM_outOf rfl rfl rfl (by decide +kernel) ⟨Nat.le_of_ble_eq_true rfl, Nat.le_of_ble_eq_true rfl⟩) ⟨pu_bl, va_recv hK hP (ci := 9) (q0 := 0) rfl rfl, pu_in hP hK hD⟩ rfl rfl hl.1 rfl (lv_room (Nat.le_of_ble_eq_true rfl)) dX9_canTake_2 ⟨Nat.le_of_ble_eq_true rfl, Nat.le_of_ble_eq_true rfl⟩) hS (fun q _ h => pu_fr hS hA q h) (pu_fr hS hA) (fun r_1 u t H1 locs ht hvm hw hB hz1 hk1 hS => ?_)
  have hP := pu_keep hP hk1
  clear hk1 hz1 ht hvm
  generalize H1 = H at hP hS ⊢
  obtain ⟨u_2, hu_2, rfl, iu_2⟩ := hw
  replace hsp := hsp.trans (slet_eq iu_2)
  refine lv_aload_n hx hb dX9_canTake_5 rfl (lv_at hl 0 rfl) ?_
  refine va_get (D := (dC, dI)) (ci := 9) (v := .int (nI x65)) (C := RX9) (T := TX9) (N := 67) hx hb hts hiX9 hown hK hP 0 rfl rfl 65 (by decide) v_6 (fun _ h9 => h9) rfl dX9_canTake_6 ?_
  refine lv_icmp_ne (tgt := 45) hx hb dX9_canTake_9 (by decide) (fun c_3 => ?_) (fun c_3 => ?_)
  · have c_3 : ¬ u_2 = x65 := fun z => c_3 ((nI_eq (a := u_2) (b := x65) (Nat.lt_of_le_of_lt hu_2 (Nat.le_of_ble_eq_true rfl)) (Nat.lt_of_le_of_lt hx65 (Nat.le_of_ble_eq_true rfl))).mpr z)
    replace hsp := hsp.trans (if_neg c_3)
    refine lv_iconst (v := 0) hx hb dX9_canTake_45 (by decide) ?_
    exact W.zret (v := 0) (ty := .boolean) hx hb hr (rfl) (fun t ht hW => ⟨⟨0, (), rfl, ⟨0, (Nat.le_of_ble_eq_true rfl), rfl, (hsp.symm.trans hRR)⟩, trivial⟩, hS.F ht⟩) hS.2.2 dX9_canTake_46
  · have c_3 : u_2 = x65 := (nI_eq (a := u_2) (b := x65) (Nat.lt_of_le_of_lt hu_2 (Nat.le_of_ble_eq_true rfl)) (Nat.lt_of_le_of_lt hx65 (Nat.le_of_ble_eq_true rfl))).mp c_3
    replace hsp := hsp.trans (if_pos c_3)
    refine lv_aload_n hx hb dX9_canTake_12 rfl (lv_at hl 0 rfl) ?_
    refine lv_iload_n hx hb dX9_canTake_13 rfl (lv_at hl 1 rfl) ?_
    refine lv_iconst (v := 0) hx hb dX9_canTake_14 (by decide) ?_
    refine va_calli (va_runV (As := [.int (nI a0), .int 0]) (rest := []) ⟨hx, hb, hml, hown, hts⟩ (c_EM_isHeld_e l dC dI _ ad ck x0 x16 x18 x19 x20 x21 x22 x23 x24 x25 x26 x27 x28 x29 x30 x33 x45 x46 x52 x53 x61 x62 x63 x65 x66 f1 f2 f3 q4 q5 q6 q7 f8 q9 q10 f11 m12_0 m12_1 m13_0 m13_1 m14_0 m14_1 m15_0 m15_1 f17 q31 f32 f34 f35 f36 f37 q38 f39 f40 f41 m42_0 m42_1 f43 f44 f47 f48 f49 f50 f51 q54 q55 q56 f57 q58 f59 f60 f64 a0 0 hx16 hx18 hx19 hx21 hx22 hx26 hx28 hx29 hx30 hx33 hx46 hx52 hx53 hx61 hx62 hx63 hx65 hm12_0 hm12_1 hm13_0 hm13_1 hm14_0 hm14_1 hm15_0 hm15_1 hm42_0 hm42_1 ha0) (cwV 2 hts g_EM_canTake_EM_isHeld_e rfl rfl rfl (by decide +kernel) ⟨Nat.le_of_ble_eq_true rfl, Nat.le_of_ble_eq_true rfl⟩) ⟨pu_bl, va_recv hK hP (ci := 9) (q0 := 0) rfl rfl, pu_in hP hK hD⟩ rfl rfl hl.1 rfl (lv_room (Nat.le_of_ble_eq_true rfl)) dX9_canTake_15 ⟨Nat.le_of_ble_eq_true rfl, Nat.le_of_ble_eq_true rfl⟩) hS (fun q _ h => pu_fr hS hA q h) (pu_fr hS hA) (fun r_4 u t H1 locs ht hvm hw hB hz1 hk1 hS => ?_)
    have hP := pu_keep hP hk1
    clear hk1 hz1 ht hvm
    generalize H1 = H at hP hS ⊢
    obtain ⟨u_5, hu_5, rfl, iu_5⟩ := hw
    replace hsp := hsp.trans (slet_eq iu_5)
    refine lv_if_eq (tgt := 45) hx hb dX9_canTake_18 (by decide) (fun c_6 => ?_) (fun c_6 => ?_)
    · have c_6 : u_5 = 0 := (nI_eq (a := u_5) (b := 0) (Nat.lt_of_le_of_lt hu_5 (Nat.le_of_ble_eq_true rfl)) (Nat.le_of_ble_eq_true rfl)).mp c_6
      replace hsp := hsp.trans (if_pos c_6)
      refine lv_iconst (v := 0) hx hb dX9_canTake_45 (by decide) ?_
      exact W.zret (v := 0) (ty := .boolean) hx hb hr (rfl) (fun t ht hW => ⟨⟨0, (), rfl, ⟨0, (Nat.le_of_ble_eq_true rfl), rfl, (hsp.symm.trans hRR)⟩, trivial⟩, hS.F ht⟩) hS.2.2 dX9_canTake_46
    · have c_6 : ¬ u_5 = 0 := fun z => c_6 ((nI_eq (a := u_5) (b := 0) (Nat.lt_of_le_of_lt hu_5 (Nat.le_of_ble_eq_true rfl)) (Nat.le_of_ble_eq_true rfl)).mpr z)
      replace hsp := hsp.trans (if_neg c_6)
      refine lv_aload_n hx hb dX9_canTake_21 rfl (lv_at hl 0 rfl) ?_
      refine lv_bipush (v := 100) hx hb dX9_canTake_22 (by decide) ?_
      refine lv_aload_n hx hb dX9_canTake_24 rfl (lv_at hl 0 rfl) ?_
      refine lv_iload_n hx hb dX9_canTake_25 rfl (lv_at hl 1 rfl) ?_
      refine va_calli (va_runV (As := [.int (nI a0)]) (rest := [.int 100, .ref (ad 0)]) ⟨hx, hb, hml, hown, hts⟩ (c_EM_into l dC dI _ ad ck x0 x16 x18 x19 x20 x21 x22 x23 x24 x25 x26 x27 x28 x29 x30 x33 x45 x46 x52 x53 x61 x62 x63 x65 x66 f1 f2 f3 q4 q5 q6 q7 f8 q9 q10 f11 m12_0 m12_1 m13_0 m13_1 m14_0 m14_1 m15_0 m15_1 f17 q31 f32 f34 f35 f36 f37 q38 f39 f40 f41 m42_0 m42_1 f43 f44 f47 f48 f49 f50 f51 q54 q55 q56 f57 q58 f59 f60 f64 a0 hx16 hx18 hx19 hx21 hx22 hx26 hx28 hx29 hx30 hx33 hx46 hx52 hx53 hx61 hx62 hx63 hx65 hm12_0 hm12_1 hm13_0 hm13_1 hm14_0 hm14_1 hm15_0 hm15_1 hm42_0 hm42_1 ha0) (cwV 1 hts g_EM_canTake_EM_into rfl rfl rfl (by decide +kernel) ⟨Nat.le_of_ble_eq_true rfl, Nat.le_of_ble_eq_true rfl⟩) ⟨pu_bl, va_recv hK hP (ci := 9) (q0 := 0) rfl rfl, pu_in hP hK hD⟩ rfl rfl hl.1 rfl (lv_room (Nat.le_of_ble_eq_true rfl)) dX9_canTake_26 ⟨Nat.le_of_ble_eq_true rfl, Nat.le_of_ble_eq_true rfl⟩) hS (fun q _ h => pu_fr hS hA q h) (pu_fr hS hA) (fun r_7 u t H1 locs ht hvm hw hB hz1 hk1 hS => ?_)
      have hP := pu_keep hP hk1
      clear hk1 hz1 ht hvm
      generalize H1 = H at hP hS ⊢
      obtain ⟨u_8, hu_8, rfl, iu_8⟩ := hw
      replace hsp := hsp.trans (slet_eq iu_8)
      refine lv_iadd hx hb dX9_canTake_29 ?_
      refine lv_topi (fun y_9 ey_9 => ?_)
      obtain rfl : y_9 = (nI (100 + u_8)) := ey_9.trans (nI_add 100 u_8)
      refine lv_aload_n hx hb dX9_canTake_30 rfl (lv_at hl 0 rfl) ?_
      refine lv_iload_n hx hb dX9_canTake_31 rfl (lv_at hl 1 rfl) ?_
      refine va_calli (va_runV (As := [.int (nI a0)]) (rest := [.int (nI (100 + u_8)), .ref (ad 0)]) ⟨hx, hb, hml, hown, hts⟩ (c_EM_setBy l dC dI _ ad ck x0 x16 x18 x19 x20 x21 x22 x23 x24 x25 x26 x27 x28 x29 x30 x33 x45 x46 x52 x53 x61 x62 x63 x65 x66 f1 f2 f3 q4 q5 q6 q7 f8 q9 q10 f11 m12_0 m12_1 m13_0 m13_1 m14_0 m14_1 m15_0 m15_1 f17 q31 f32 f34 f35 f36 f37 q38 f39 f40 f41 m42_0 m42_1 f43 f44 f47 f48 f49 f50 f51 q54 q55 q56 f57 q58 f59 f60 f64 a0 hx16 hx18 hx19 hx21 hx22 hx26 hx28 hx29 hx30 hx33 hx46 hx52 hx53 hx61 hx62 hx63 hx65 hm12_0 hm12_1 hm13_0 hm13_1 hm14_0 hm14_1 hm15_0 hm15_1 hm42_0 hm42_1 ha0) (cwV 1 hts g_EM_canTake_EM_setBy rfl rfl rfl (by decide +kernel) ⟨Nat.le_of_ble_eq_true rfl, Nat.le_of_ble_eq_true rfl⟩) ⟨pu_bl, va_recv hK hP (ci := 9) (q0 := 0) rfl rfl, pu_in hP hK hD⟩ rfl rfl hl.1 rfl (lv_room (Nat.le_of_ble_eq_true rfl)) dX9_canTake_32 ⟨Nat.le_of_ble_eq_true rfl, Nat.le_of_ble_eq_true rfl⟩) hS (fun q _ h => pu_fr hS hA q h) (pu_fr hS hA) (fun r_10 u t H1 locs ht hvm hw hB hz1 hk1 hS => ?_)
      have hP := pu_keep hP hk1
      clear hk1 hz1 ht hvm
      generalize H1 = H at hP hS ⊢
      have ir_10 := hw
      replace hsp := hsp.trans (slet_eq ir_10)
      refine va_calli (va_runV (As := [.int (nI (100 + u_8)), .int r_10]) (rest := []) ⟨hx, hb, hml, hown, hts⟩ (c_EM_isHeld_p l dC dI _ ad ck x0 x16 x18 x19 x20 x21 x22 x23 x24 x25 x26 x27 x28 x29 x30 x33 x45 x46 x52 x53 x61 x62 x63 x65 x66 f1 f2 f3 q4 q5 q6 q7 f8 q9 q10 f11 m12_0 m12_1 m13_0 m13_1 m14_0 m14_1 m15_0 m15_1 f17 q31 f32 f34 f35 f36 f37 q38 f39 f40 f41 m42_0 m42_1 f43 f44 f47 f48 f49 f50 f51 q54 q55 q56 f57 q58 f59 f60 f64 (100 + u_8) r_10 hx16 hx18 hx19 hx21 hx22 hx26 hx28 hx29 hx30 hx33 hx46 hx52 hx53 hx61 hx62 hx63 hx65 hm12_0 hm12_1 hm13_0 hm13_1 hm14_0 hm14_1 hm15_0 hm15_1 hm42_0 hm42_1 (by omega) (by omega)) (cwV 2 hts g_EM_canTake_EM_isHeld_p rfl rfl rfl (by decide +kernel) ⟨Nat.le_of_ble_eq_true rfl, Nat.le_of_ble_eq_true rfl⟩) ⟨pu_bl, va_recv hK hP (ci := 9) (q0 := 0) rfl rfl, pu_in hP hK hD⟩ rfl rfl hl.1 rfl (lv_room (Nat.le_of_ble_eq_true rfl)) dX9_canTake_35 ⟨Nat.le_of_ble_eq_true rfl, Nat.le_of_ble_eq_true rfl⟩) hS (fun q _ h => pu_fr hS hA q h) (pu_fr hS hA) (fun r_11 u t H1 locs ht hvm hw hB hz1 hk1 hS => ?_)
      have hP := pu_keep hP hk1
      clear hk1 hz1 ht hvm
      generalize H1 = H at hP hS ⊢
      obtain ⟨u_12, hu_12, rfl, iu_12⟩ := hw
      replace hsp := hsp.trans (slet_eq iu_12)
      refine lv_if_eq (tgt := 45) hx hb dX9_canTake_38 (by decide) (fun c_13 => ?_) (fun c_13 => ?_)
      · have c_13 : u_12 = 0 := (nI_eq (a := u_12) (b := 0) (Nat.lt_of_le_of_lt hu_12 (Nat.le_of_ble_eq_true rfl)) (Nat.le_of_ble_eq_true rfl)).mp c_13
        replace hsp := hsp.trans (if_pos c_13)
        refine lv_iconst (v := 0) hx hb dX9_canTake_45 (by decide) ?_
        exact W.zret (v := 0) (ty := .boolean) hx hb hr (rfl) (fun t ht hW => ⟨⟨0, (), rfl, ⟨0, (Nat.le_of_ble_eq_true rfl), rfl, (hsp.symm.trans hRR)⟩, trivial⟩, hS.F ht⟩) hS.2.2 dX9_canTake_46
      · have c_13 : ¬ u_12 = 0 := fun z => c_13 ((nI_eq (a := u_12) (b := 0) (Nat.lt_of_le_of_lt hu_12 (Nat.le_of_ble_eq_true rfl)) (Nat.le_of_ble_eq_true rfl)).mpr z)
        replace hsp := hsp.trans (if_neg c_13)
        refine lv_iconst (v := 1) hx hb dX9_canTake_41 (by decide) ?_
        refine lv_goto (tgt := 46) hx hb dX9_canTake_42 (by decide) ?_
        exact W.zret (v := 1) (ty := .boolean) hx hb hr (rfl) (fun t ht hW => ⟨⟨1, (), rfl, ⟨1, (Nat.le_of_ble_eq_true rfl), rfl, (hsp.symm.trans hRR)⟩, trivial⟩, hS.F ht⟩) hS.2.2 dX9_canTake_46
