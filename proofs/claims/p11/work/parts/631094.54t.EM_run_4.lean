theorem dX9_run_0 : decode cX9_run 0 = .ok (.aload_n 0, 1) := by decide +kernel
theorem dX9_run_1 : decode cX9_run 1 = .ok (.iconst 0, 1) := by decide +kernel
theorem dX9_run_2 : decode cX9_run 2 = .ok (.putfield 142, 3) := by decide +kernel
theorem dX9_run_5 : decode cX9_run 5 = .ok (.aload_n 0, 1) := by decide +kernel
theorem dX9_run_6 : decode cX9_run 6 = .ok (.iload_n 1, 1) := by decide +kernel
theorem dX9_run_7 : decode cX9_run 7 = .ok (.iload_n 2, 1) := by decide +kernel
theorem dX9_run_8 : decode cX9_run 8 = .ok (.invokevirtual 454, 3) := by decide +kernel
theorem dX9_run_11 : decode cX9_run 11 = .ok (.ifCond .eq 12, 3) := by decide +kernel
theorem dX9_run_14 : decode cX9_run 14 = .ok (.aload_n 0, 1) := by decide +kernel
theorem dX9_run_15 : decode cX9_run 15 = .ok (.getfield 118, 3) := by decide +kernel
theorem dX9_run_18 : decode cX9_run 18 = .ok (.iload_n 2, 1) := by decide +kernel
theorem dX9_run_19 : decode cX9_run 19 = .ok (.iaload, 1) := by decide +kernel
theorem dX9_run_20 : decode cX9_run 20 = .ok (.goto 4, 3) := by decide +kernel
theorem dX9_run_23 : decode cX9_run 23 = .ok (.iconst (-1), 1) := by decide +kernel
theorem dX9_run_24 : decode cX9_run 24 = .ok (.ireturn, 1) := by decide +kernel
abbrev vs_EM_run : List Cond := .code yX9_run cX9_run 3 (some .int) :: VM
theorem g_EM_run_EM_isStep : GoodIn vs_EM_run (wsV RX9 454 RX9 yX9_isStep vs_EM_isStep) := gm_V vm_332 vm_333 vm_334 vm_19 vm_335
noncomputable def sp_EM_run (x16 : Nat) (x29 : Nat) (x61 : Nat) (m12_0 : Nat) (m12_1 : Nat) (f39 : Nat → Int32) (f40 : Nat → Int32) (f41 : Nat → Int32) (m42_0 : Nat) (q54 : Nat → Nat) (p0 : Int32) (p1 : Int32) : Int32 × (Nat → Nat) × Int32 × Nat × Nat := (slet (sp_EM_isStep x16 x29 x61 m12_0 m12_1 f39 f40 f41 m42_0 q54 p0 p1) (fun (z54_2, z46_3, z61_4) => (if isStp x29 m42_0 f41 p0 p1 then (slet ((p1 : Int32).toNatClampNeg) (fun n_5 => (slet (min (z54_2 n_5) 13) (fun u_7 => ((nI u_7), z54_2, 0, z46_3, z61_4))))) else ((-1), z54_2, 0, z46_3, z61_4))))
set_option maxHeartbeats 4000000 in
set_option maxRecDepth 100000 in
theorem c_EM_run (l : Launch) (dC : Nat → ClassId) (dI : Nat → Nat → Nat) (sz : Nat) (ad : Nat → Nat) (ck : Nat → ClassId) (x0 : Int32) (x16 : Nat) (x18 : Nat) (x19 : Nat) (x20 : Int32) (x21 : Nat) (x22 : Nat) (x23 : Int32) (x24 : Int32) (x25 : Int32) (x26 : Nat) (x27 : Int32) (x28 : Nat) (x29 : Nat) (x30 : Nat) (x33 : Nat) (x45 : Int32) (x46 : Nat) (x52 : Nat) (x53 : Nat) (x61 : Nat) (x62 : Nat) (x63 : Nat) (x65 : Nat) (x66 : Int32) (f1 : Nat → Int32) (f2 : Nat → Int32) (f3 : Nat → Int32) (q4 : Nat → Nat) (q5 : Nat → Nat) (q6 : Nat → Nat) (q7 : Nat → Nat) (f8 : Nat → Int32) (q9 : Nat → Nat) (q10 : Nat → Nat) (f11 : Nat → Int32) (m12_0 m12_1 : Nat) (m13_0 m13_1 : Nat) (m14_0 m14_1 : Nat) (m15_0 m15_1 : Nat) (f17 : Nat → Int32) (q31 : Nat → Nat) (f32 : Nat → Int32) (f34 : Nat → Int32) (f35 : Nat → Int32) (f36 : Nat → Int32) (f37 : Nat → Int32) (q38 : Nat → Nat) (f39 : Nat → Int32) (f40 : Nat → Int32) (f41 : Nat → Int32) (m42_0 m42_1 : Nat) (f43 : Nat → Int32) (f44 : Nat → Int32) (f47 : Nat → Int32) (f48 : Nat → Int32) (f49 : Nat → Int32) (f50 : Nat → Int32) (f51 : Nat → Int32) (q54 : Nat → Nat) (q55 : Nat → Nat) (q56 : Nat → Nat) (f57 : Nat → Int32) (q58 : Nat → Nat) (f59 : Nat → Int32) (f60 : Nat → Int32) (f64 : Nat → Int32) (p0 : Int32) (p1 : Int32) (hx16 : x16 ≤ 1) (hx18 : x18 ≤ 900) (hx19 : x19 ≤ 900) (hx21 : x21 ≤ 900) (hx22 : x22 ≤ 4) (hx26 : x26 ≤ 6) (hx28 : x28 ≤ 1) (hx29 : x29 ≤ 1) (hx30 : x30 ≤ 1) (hx33 : x33 ≤ 20) (hx46 : x46 ≤ 5) (hx52 : x52 ≤ 2400) (hx53 : x53 ≤ 119) (hx61 : x61 ≤ 119) (hx62 : x62 ≤ 2000) (hx63 : x63 ≤ 1) (hx65 : x65 ≤ 7) (hm12_0 : m12_0 ≤ 3) (hm12_1 : m12_1 ≤ 3) (hm13_0 : m13_0 ≤ 8) (hm13_1 : m13_1 ≤ 8) (hm14_0 : m14_0 ≤ 14) (hm14_1 : m14_1 ≤ 14) (hm15_0 : m15_0 ≤ 8) (hm15_1 : m15_1 ≤ 8) (hm42_0 : m42_0 ≤ 120) (hm42_1 : m42_1 ≤ 400) (hgr : gz_ok m42_0 f39 f40 f41) : Met l yX9_run vs_EM_run ({ frames := 3, cells := 0, slots := 0, locals := 65 }) (va_Pc [.ref (ad 0), .int p0, .int p1] (pu_B (dC, dI) (mo_w ad ck x0 (nI x16) (nI x18) (nI x19) x20 (nI x21) (nI x22) x23 x24 x25 (nI x26) x27 (nI x28) (nI x29) (nI x30) (nI x33) x45 (nI x46) (nI x52) (nI x53) (nI x61) (nI x62) (nI x63) (nI x65) x66 f1 f2 f3 (bN 3 q4) (bN 7 q5) (bN 7 q6) (bN 4 q7) f8 (bN 2 q9) (bH q10) f11 (b2 m12_0 m12_1) (b2 m13_0 m13_1) (b2 m14_0 m14_1) (b2m m15_0 m15_1) f17 (bA 159 q31) f32 f34 f35 f36 f37 (bN 7 q38) f39 f40 f41 (b2 m42_0 m42_1) f43 f44 f47 f48 f49 f50 f51 (bN 13 q54) (bN 120 q55) (bN 120 q56) f57 (bN 120 q58) f59 f60 f64) (mo_t ck) sz)) (va_Qi (fun (r : Int32) (_ : Unit) => r = (sp_EM_run x16 x29 x61 m12_0 m12_1 f39 f40 f41 m42_0 q54 p0 p1).1) (fun _ t => ∃ (z54 : Nat → Nat) (z0 : Int32) (z46 : Nat) (z61 : Nat), pu_E (dC, dI) (mo_w ad ck z0 (nI x16) (nI x18) (nI x19) x20 (nI x21) (nI x22) x23 x24 x25 (nI x26) x27 (nI x28) (nI x29) (nI x30) (nI x33) x45 (nI z46) (nI x52) (nI x53) (nI z61) (nI x62) (nI x63) (nI x65) x66 f1 f2 f3 (bN 3 q4) (bN 7 q5) (bN 7 q6) (bN 4 q7) f8 (bN 2 q9) (bH q10) f11 (b2 m12_0 m12_1) (b2 m13_0 m13_1) (b2 m14_0 m14_1) (b2m m15_0 m15_1) f17 (bA 159 q31) f32 f34 f35 f36 f37 (bN 7 q38) f39 f40 f41 (b2 m42_0 m42_1) f43 f44 f47 f48 f49 f50 f51 (bN 13 z54) (bN 120 q55) (bN 120 q56) f57 (bN 120 q58) f59 f60 f64) (mo_t ck) (va_A ((mo_w ad ck x0 (nI x16) (nI x18) (nI x19) x20 (nI x21) (nI x22) x23 x24 x25 (nI x26) x27 (nI x28) (nI x29) (nI x30) (nI x33) x45 (nI x46) (nI x52) (nI x53) (nI x61) (nI x62) (nI x63) (nI x65) x66 f1 f2 f3 (bN 3 q4) (bN 7 q5) (bN 7 q6) (bN 4 q7) f8 (bN 2 q9) (bH q10) f11 (b2 m12_0 m12_1) (b2 m13_0 m13_1) (b2 m14_0 m14_1) (b2m m15_0 m15_1) f17 (bA 159 q31) f32 f34 f35 f36 f37 (bN 7 q38) f39 f40 f41 (b2 m42_0 m42_1) f43 f44 f47 f48 f49 f50 f51 (bN 13 q54) (bN 120 q55) (bN 120 q56) f57 (bN 120 q58) f59 f60 f64)) sz) t ∧ (z46 ≤ 5) ∧ (z61 ≤ 119) ∧ ((z54, z0, z46, z61) = (sp_EM_run x16 x29 x61 m12_0 m12_1 f39 f40 f41 m42_0 q54 p0 p1).2)) (va_A ((mo_w ad ck x0 (nI x16) (nI x18) (nI x19) x20 (nI x21) (nI x22) x23 x24 x25 (nI x26) x27 (nI x28) (nI x29) (nI x30) (nI x33) x45 (nI x46) (nI x52) (nI x53) (nI x61) (nI x62) (nI x63) (nI x65) x66 f1 f2 f3 (bN 3 q4) (bN 7 q5) (bN 7 q6) (bN 4 q7) f8 (bN 2 q9) (bH q10) f11 (b2 m12_0 m12_1) (b2 m13_0 m13_1) (b2 m14_0 m14_1) (b2m m15_0 m15_1) f17 (bA 159 q31) f32 f34 f35 f36 f37 (bN 7 q38) f39 f40 f41 (b2 m42_0 m42_1) f43 f44 f47 f48 f49 f50 f51 (bN 13 q54) (bN 120 q55) (bN 120 q56) f57 (bN 120 q58) f59 f60 f64)) sz)) 0 0 (va_A ((mo_w ad ck x0 (nI x16) (nI x18) (nI x19) x20 (nI x21) (nI x22) x23 x24 x25 (nI x26) x27 (nI x28) (nI x29) (nI x30) (nI x33) x45 (nI x46) (nI x52) (nI x53) (nI x61) (nI x62) (nI x63) (nI x65) x66 f1 f2 f3 (bN 3 q4) (bN 7 q5) (bN 7 q6) (bN 4 q7) f8 (bN 2 q9) (bH q10) f11 (b2 m12_0 m12_1) (b2 m13_0 m13_1) (b2 m14_0 m14_1) (b2m m15_0 m15_1) f17 (bA 159 q31) f32 f34 f35 f36 f37 (bN 7 q38) f39 f40 f41 (b2 m42_0 m42_1) f43 f44 f47 f48 f49 f50 f51 (bN 13 q54) (bN 120 q55) (bN 120 q56) f57 (bN 120 q58) f59 f60 f64)) sz) := by
  refine Met.ofW (cc := cX9_run) (maxL := 3) (ret := (some .int)) (by decide) rfl ?_
  intro p e s m args below meth c s₁ B hml hv
  obtain ⟨rfl, rfl, hP, hK, hD0⟩ := hv
  have hx := B.exec
  have hb := B.bytes
  have hr := B.returns
  have hts := atoms_spec (ws := vs_EM_run) B.pre
  have v_1 := hts (.fieldLink RX9 142 "ClockReachModel" "thrown" "I") (List.mem_cons_of_mem _ vm_5)
  have v_7 := hts (.fieldLink RX9 118 "ClockReachModel" "path" "[I") (List.mem_cons_of_mem _ vm_304)
  have hown : s.vm.findClass RX9 = some m.cls := findClass_of_methodNamed B.named
  have hlocks := B.notSynchronized
  have hiX9 : ∀ w ∈ wsX90, w ∈ vs_EM_run := fun _ h => List.mem_cons_of_mem _ (vmi_L h)
  have hD := hD0.self (sz := s.heap.size)
  generalize hAe : va_A ((mo_w ad ck x0 (nI x16) (nI x18) (nI x19) x20 (nI x21) (nI x22) x23 x24 x25 (nI x26) x27 (nI x28) (nI x29) (nI x30) (nI x33) x45 (nI x46) (nI x52) (nI x53) (nI x61) (nI x62) (nI x63) (nI x65) x66 f1 f2 f3 (bN 3 q4) (bN 7 q5) (bN 7 q6) (bN 4 q7) f8 (bN 2 q9) (bH q10) f11 (b2 m12_0 m12_1) (b2 m13_0 m13_1) (b2 m14_0 m14_1) (b2m m15_0 m15_1) f17 (bA 159 q31) f32 f34 f35 f36 f37 (bN 7 q38) f39 f40 f41 (b2 m42_0 m42_1) f43 f44 f47 f48 f49 f50 f51 (bN 13 q54) (bN 120 q55) (bN 120 q56) f57 (bN 120 q58) f59 f60 f64)) s.heap.size = A at hD ⊢
  have hA : ∀ q : Nat, s.heap.size ≤ q → A q := fun q h => by rw [← hAe]; exact Or.inr h
  have hS : va_S A s.heap s.heap [] := va_S.rf
  have hl := lv_entry ([.ref (ad 0), .int p0, .int p1]) (n := 3) (Nat.le_of_ble_eq_true rfl)
  rw [lg_entry_eq]
  generalize (lg_sl ([.ref (ad 0), .int p0, .int p1]) ++ List.replicate (3 - (lg_sl ([.ref (ad 0), .int p0, .int p1])).length) Slot.unset).toArray = ls at hl ⊢
  have hl : lv_has ls 3 [(0, .ref (ad 0)), (1, .int p0), (2, .int p1)] := hl
  obtain ⟨RR, hRR⟩ : ∃ x, x = (sp_EM_run x16 x29 x61 m12_0 m12_1 f39 f40 f41 m42_0 q54 p0 p1) := ⟨_, rfl⟩
  have hsp := hRR
  refine lv_aload_n hx hb dX9_run_0 rfl (lv_at hl 0 rfl) ?_
  refine lv_iconst (v := 0) hx hb dX9_run_1 (by decide) ?_
  refine va_put (D := (dC, dI)) (ci := 9) (v := .int 0) (ty := .int) (C := RX9) (T := TX9) (N := 67) hx hb hts hiX9 tyX9 tyX9_ok nmX9 hown hK hP hD hS 0 rfl rfl 0 (by decide) v_1 (fun _ h9 => h9) rfl (by decide +kernel) rfl rfl (Nat.le_of_ble_eq_true rfl) dX9_run_2 (fun H locs hP hD hS => ?_)
  have hP : va_P (dC, dI) vwCl (mo_w ad ck 0 (nI x16) (nI x18) (nI x19) x20 (nI x21) (nI x22) x23 x24 x25 (nI x26) x27 (nI x28) (nI x29) (nI x30) (nI x33) x45 (nI x46) (nI x52) (nI x53) (nI x61) (nI x62) (nI x63) (nI x65) x66 f1 f2 f3 (bN 3 q4) (bN 7 q5) (bN 7 q6) (bN 4 q7) f8 (bN 2 q9) (bH q10) f11 (b2 m12_0 m12_1) (b2 m13_0 m13_1) (b2 m14_0 m14_1) (b2m m15_0 m15_1) f17 (bA 159 q31) f32 f34 f35 f36 f37 (bN 7 q38) f39 f40 f41 (b2 m42_0 m42_1) f43 f44 f47 f48 f49 f50 f51 (bN 13 q54) (bN 120 q55) (bN 120 q56) f57 (bN 120 q58) f59 f60 f64) H := hP
  have hD : va_D A (mo_w ad ck 0 (nI x16) (nI x18) (nI x19) x20 (nI x21) (nI x22) x23 x24 x25 (nI x26) x27 (nI x28) (nI x29) (nI x30) (nI x33) x45 (nI x46) (nI x52) (nI x53) (nI x61) (nI x62) (nI x63) (nI x65) x66 f1 f2 f3 (bN 3 q4) (bN 7 q5) (bN 7 q6) (bN 4 q7) f8 (bN 2 q9) (bH q10) f11 (b2 m12_0 m12_1) (b2 m13_0 m13_1) (b2 m14_0 m14_1) (b2m m15_0 m15_1) f17 (bA 159 q31) f32 f34 f35 f36 f37 (bN 7 q38) f39 f40 f41 (b2 m42_0 m42_1) f43 f44 f47 f48 f49 f50 f51 (bN 13 q54) (bN 120 q55) (bN 120 q56) f57 (bN 120 q58) f59 f60 f64) := hD
  refine lv_aload_n hx hb dX9_run_5 rfl (lv_at hl 0 rfl) ?_
  refine lv_iload_n hx hb dX9_run_6 rfl (lv_at hl 1 rfl) ?_
  refine lv_iload_n hx hb dX9_run_7 rfl (lv_at hl 2 rfl) ?_
  have hFc := pu_free hD hS hA
  refine va_calli (va_runV (As := [.int p0, .int p1]) (rest := []) ⟨hx, hb, hml, hown, hts⟩ (c_EM_isStep l dC dI _ ad ck 0 x16 x18 x19 x20 x21 x22 x23 x24 x25 x26 x27 x28 x29 x30 x33 x45 x46 x52 x53 x61 x62 x63 x65 x66 f1 f2 f3 q4 q5 q6 q7 f8 q9 q10 f11 m12_0 m12_1 m13_0 m13_1 m14_0 m14_1 m15_0 m15_1 f17 q31 f32 f34 f35 f36 f37 q38 f39 f40 f41 m42_0 m42_1 f43 f44 f47 f48 f49 f50 f51 q54 q55 q56 f57 q58 f59 f60 f64 p0 p1 hx16 hx18 hx19 hx21 hx22 hx26 hx28 hx29 hx30 hx33 hx46 hx52 hx53 hx61 hx62 hx63 hx65 hm12_0 hm12_1 hm13_0 hm13_1 hm14_0 hm14_1 hm15_0 hm15_1 hm42_0 hm42_1 (by first | assumption | exact gz_0)) (cwV 2 hts g_EM_run_EM_isStep rfl rfl rfl (by decide +kernel) ⟨Nat.le_of_ble_eq_true rfl, Nat.le_of_ble_eq_true rfl⟩) ⟨pu_bl, va_recv hK hP (ci := 9) (q0 := 0) rfl rfl, pu_in hP hK hD⟩ rfl rfl hl.1 rfl (lv_room (Nat.le_of_ble_eq_true rfl)) dX9_run_8 ⟨Nat.le_of_ble_eq_true rfl, Nat.le_of_ble_eq_true rfl⟩) hS (fun q _ h => hFc q h) hFc (fun r_1 u t H1 locs ht hvm hw hB hz1 hk1 hS => ?_)
  obtain ⟨z54_2, z46_3, z61_4, ⟨hP1, -, hD1⟩, hz46_3, hz61_4, xr_1_0⟩ := hB
  rw [ht] at hP1
  have hP := hP1
  have hD := pu_all hFc hD1
  clear hP1 hD1 hFc
  clear hk1 hz1 ht hvm
  generalize H1 = H at hP hS ⊢
  replace hsp := hsp.trans (slet_eq xr_1_0)
  rcases hw with ⟨rfl, hw⟩ | ⟨rfl, hn⟩
  · obtain ⟨n_5, hn_5, rfl, hst⟩ := hw
    replace hsp := hsp.trans (if_pos hst)
    replace hsp := hsp.trans (slet_eq (nI_cl (n := n_5) (by omega)))
    refine lv_if_eq (tgt := 23) hx hb dX9_run_11 (by decide) (fun z => absurd z (by decide)) (fun _ => ?_)
    refine lv_aload_n hx hb dX9_run_14 rfl (lv_at hl 0 rfl) ?_
    refine va_get (D := (dC, dI)) (ci := 9) (v := .ref (ad 54)) (C := RX9) (T := TX9) (N := 67) hx hb hts hiX9 hown hK hP 0 rfl rfl 54 (by decide) v_7 (fun _ h9 => h9) rfl dX9_run_15 ?_
    refine lv_iload_n hx hb dX9_run_18 rfl (lv_at hl 2 rfl) ?_
    refine va_iald hx hb hK hP 35 34 rfl rfl (vp_in_nI (n := n_5) (by omega) (Nat.le_of_ble_eq_true rfl)) dX9_run_19 ?_
    refine lv_topi (fun y_6 ey_6 => ?_)
    obtain ⟨u_7, hu_7, qu_7, xu_7⟩ := bN_getx 13 z54_2 (n := n_5) (by omega)
    obtain rfl : y_6 = nI u_7 := ey_6.trans qu_7
    replace hsp := hsp.trans (slet_eq xu_7)
    refine lv_goto (tgt := 24) hx hb dX9_run_20 (by decide) ?_
    exact W.iret (v := (nI u_7)) hx hb hr (fun t ht hW => ⟨⟨(nI u_7), (), rfl, (congrArg Prod.fst (hsp.symm.trans hRR)), ⟨z54_2, 0, z46_3, z61_4, ⟨by rw [ht]; exact hP, va_K.moved hW.alike hK, hD⟩, hz46_3, hz61_4, (congrArg Prod.snd (hsp.symm.trans hRR))⟩⟩, hS.F ht⟩) hS.2.2 dX9_run_24
  · replace hsp := hsp.trans (if_neg hn)
    refine lv_if_eq (tgt := 23) hx hb dX9_run_11 (by decide) (fun _ => ?_) (fun z => absurd z (by decide))
    refine lv_iconst (v := (-1)) hx hb dX9_run_23 (by decide) ?_
    exact W.iret (v := (-1)) hx hb hr (fun t ht hW => ⟨⟨(-1), (), rfl, (congrArg Prod.fst (hsp.symm.trans hRR)), ⟨z54_2, 0, z46_3, z61_4, ⟨by rw [ht]; exact hP, va_K.moved hW.alike hK, hD⟩, hz46_3, hz61_4, (congrArg Prod.snd (hsp.symm.trans hRR))⟩⟩, hS.F ht⟩) hS.2.2 dX9_run_24
theorem dX9_when_0 : decode cX9_when 0 = .ok (.aload_n 0, 1) := by decide +kernel
theorem dX9_when_1 : decode cX9_when 1 = .ok (.iconst 0, 1) := by decide +kernel
theorem dX9_when_2 : decode cX9_when 2 = .ok (.putfield 142, 3) := by decide +kernel
theorem dX9_when_5 : decode cX9_when 5 = .ok (.aload_n 0, 1) := by decide +kernel
theorem dX9_when_6 : decode cX9_when 6 = .ok (.iload_n 1, 1) := by decide +kernel
theorem dX9_when_7 : decode cX9_when 7 = .ok (.iload_n 2, 1) := by decide +kernel
theorem dX9_when_8 : decode cX9_when 8 = .ok (.invokevirtual 454, 3) := by decide +kernel
theorem dX9_when_11 : decode cX9_when 11 = .ok (.ifCond .eq 21, 3) := by decide +kernel
theorem dX9_when_14 : decode cX9_when 14 = .ok (.aload_n 0, 1) := by decide +kernel
theorem dX9_when_15 : decode cX9_when 15 = .ok (.invokevirtual 457, 3) := by decide +kernel
theorem dX9_when_18 : decode cX9_when 18 = .ok (.ifCond .eq 14, 3) := by decide +kernel
theorem dX9_when_21 : decode cX9_when 21 = .ok (.aload_n 0, 1) := by decide +kernel
theorem dX9_when_22 : decode cX9_when 22 = .ok (.getfield 133, 3) := by decide +kernel
theorem dX9_when_25 : decode cX9_when 25 = .ok (.iload_n 2, 1) := by decide +kernel
theorem dX9_when_26 : decode cX9_when 26 = .ok (.iconst 1, 1) := by decide +kernel
theorem dX9_when_27 : decode cX9_when 27 = .ok (.iadd, 1) := by decide +kernel
theorem dX9_when_28 : decode cX9_when 28 = .ok (.iaload, 1) := by decide +kernel
theorem dX9_when_29 : decode cX9_when 29 = .ok (.goto 4, 3) := by decide +kernel
theorem dX9_when_32 : decode cX9_when 32 = .ok (.iconst (-1), 1) := by decide +kernel
theorem dX9_when_33 : decode cX9_when 33 = .ok (.ireturn, 1) := by decide +kernel
abbrev vs_EM_when : List Cond := .code yX9_when cX9_when 3 (some .int) :: VM
theorem g_EM_when_EM_isStep : GoodIn vs_EM_when (wsV RX9 454 RX9 yX9_isStep vs_EM_isStep) := gm_V vm_332 vm_333 vm_334 vm_19 vm_335
theorem g_EM_when_EM_laysLeast : GoodIn vs_EM_when (wsV RX9 457 RX9 yX9_laysLeast vs_EM_laysLeast) := gm_V vm_336 vm_337 vm_338 vm_19 vm_339
noncomputable def sp_EM_when (x16 : Nat) (x29 : Nat) (x61 : Nat) (x62 : Nat) (x63 : Nat) (f3 : Nat → Int32) (q4 : Nat → Nat) (q5 : Nat → Nat) (q6 : Nat → Nat) (q7 : Nat → Nat) (f8 : Nat → Int32) (q9 : Nat → Nat) (q10 : Nat → Nat) (f11 : Nat → Int32) (m12_0 : Nat) (m12_1 : Nat) (m13_0 : Nat) (m13_1 : Nat) (m14_0 : Nat) (m14_1 : Nat) (m15_0 : Nat) (m15_1 : Nat) (f39 : Nat → Int32) (f40 : Nat → Int32) (f41 : Nat → Int32) (m42_0 : Nat) (q54 : Nat → Nat) (q55 : Nat → Nat) (q56 : Nat → Nat) (f57 : Nat → Int32) (q58 : Nat → Nat) (f59 : Nat → Int32) (p0 : Int32) (p1 : Int32) : Int32 × (Nat → Nat) × (Nat → Nat) × (Nat → Nat) × (Nat → Int32) × (Nat → Nat) × (Nat → Int32) × Int32 × Nat × Nat × Nat × Nat := (slet (sp_EM_isStep x16 x29 x61 m12_0 m12_1 f39 f40 f41 m42_0 q54 p0 p1) (fun (z54_2, z46_3, z61_4) => (if isStp x29 m42_0 f41 p0 p1 then (slet ((p1 : Int32).toNatClampNeg) (fun n_5 => (slet (sp_EM_laysLeast x16 z61_4 f3 q4 q5 q6 q7 f8 q9 q10 f11 m12_0 m12_1 m13_0 m13_1 m14_0 m14_1 m15_0 m15_1 z54_2 q55 q56 f57 q58 f59) (fun (u_14, z55_7, z56_8, z57_9, z58_10, z59_11, z62_12, z63_13) => (if u_14 = 0 then ((-1), z54_2, z55_7, z56_8, z57_9, z58_10, z59_11, 0, z46_3, z61_4, z62_12, z63_13) else (slet (z59_11 (n_5 + 1)) (fun y_17 => (y_17, z54_2, z55_7, z56_8, z57_9, z58_10, z59_11, 0, z46_3, z61_4, z62_12, z63_13)))))))) else ((-1), z54_2, q55, q56, f57, q58, f59, 0, z46_3, z61_4, x62, x63))))
set_option maxHeartbeats 4000000 in
set_option maxRecDepth 100000 in
theorem c_EM_when (l : Launch) (dC : Nat → ClassId) (dI : Nat → Nat → Nat) (sz : Nat) (ad : Nat → Nat) (ck : Nat → ClassId) (x0 : Int32) (x16 : Nat) (x18 : Nat) (x19 : Nat) (x20 : Int32) (x21 : Nat) (x22 : Nat) (x23 : Int32) (x24 : Int32) (x25 : Int32) (x26 : Nat) (x27 : Int32) (x28 : Nat) (x29 : Nat) (x30 : Nat) (x33 : Nat) (x45 : Int32) (x46 : Nat) (x52 : Nat) (x53 : Nat) (x61 : Nat) (x62 : Nat) (x63 : Nat) (x65 : Nat) (x66 : Int32) (f1 : Nat → Int32) (f2 : Nat → Int32) (f3 : Nat → Int32) (q4 : Nat → Nat) (q5 : Nat → Nat) (q6 : Nat → Nat) (q7 : Nat → Nat) (f8 : Nat → Int32) (q9 : Nat → Nat) (q10 : Nat → Nat) (f11 : Nat → Int32) (m12_0 m12_1 : Nat) (m13_0 m13_1 : Nat) (m14_0 m14_1 : Nat) (m15_0 m15_1 : Nat) (f17 : Nat → Int32) (q31 : Nat → Nat) (f32 : Nat → Int32) (f34 : Nat → Int32) (f35 : Nat → Int32) (f36 : Nat → Int32) (f37 : Nat → Int32) (q38 : Nat → Nat) (f39 : Nat → Int32) (f40 : Nat → Int32) (f41 : Nat → Int32) (m42_0 m42_1 : Nat) (f43 : Nat → Int32) (f44 : Nat → Int32) (f47 : Nat → Int32) (f48 : Nat → Int32) (f49 : Nat → Int32) (f50 : Nat → Int32) (f51 : Nat → Int32) (q54 : Nat → Nat) (q55 : Nat → Nat) (q56 : Nat → Nat) (f57 : Nat → Int32) (q58 : Nat → Nat) (f59 : Nat → Int32) (f60 : Nat → Int32) (f64 : Nat → Int32) (p0 : Int32) (p1 : Int32) (hx16 : x16 ≤ 1) (hx18 : x18 ≤ 900) (hx19 : x19 ≤ 900) (hx21 : x21 ≤ 900) (hx22 : x22 ≤ 4) (hx26 : x26 ≤ 6) (hx28 : x28 ≤ 1) (hx29 : x29 ≤ 1) (hx30 : x30 ≤ 1) (hx33 : x33 ≤ 20) (hx46 : x46 ≤ 5) (hx52 : x52 ≤ 2400) (hx53 : x53 ≤ 119) (hx61 : x61 ≤ 119) (hx62 : x62 ≤ 2000) (hx63 : x63 ≤ 1) (hx65 : x65 ≤ 7) (hm12_0 : m12_0 ≤ 3) (hm12_1 : m12_1 ≤ 3) (hm13_0 : m13_0 ≤ 8) (hm13_1 : m13_1 ≤ 8) (hm14_0 : m14_0 ≤ 14) (hm14_1 : m14_1 ≤ 14) (hm15_0 : m15_0 ≤ 8) (hm15_1 : m15_1 ≤ 8) (hm42_0 : m42_0 ≤ 120) (hm42_1 : m42_1 ≤ 400) (hbg : (x16 = 0 ∧ (m13_0 = 0 ∨ 1 ≤ m15_0)) ∨ (x16 = 1 ∧ (m13_1 = 0 ∨ 1 ≤ m15_1))) (hgr : gz_ok m42_0 f39 f40 f41) : Met l yX9_when vs_EM_when ({ frames := 6, cells := 0, slots := 0, locals := 136 }) (va_Pc [.ref (ad 0), .int p0, .int p1] (pu_B (dC, dI) (mo_w ad ck x0 (nI x16) (nI x18) (nI x19) x20 (nI x21) (nI x22) x23 x24 x25 (nI x26) x27 (nI x28) (nI x29) (nI x30) (nI x33) x45 (nI x46) (nI x52) (nI x53) (nI x61) (nI x62) (nI x63) (nI x65) x66 f1 f2 f3 (bN 3 q4) (bN 7 q5) (bN 7 q6) (bN 4 q7) f8 (bN 2 q9) (bH q10) f11 (b2 m12_0 m12_1) (b2 m13_0 m13_1) (b2 m14_0 m14_1) (b2m m15_0 m15_1) f17 (bA 159 q31) f32 f34 f35 f36 f37 (bN 7 q38) f39 f40 f41 (b2 m42_0 m42_1) f43 f44 f47 f48 f49 f50 f51 (bN 13 q54) (bN 120 q55) (bN 120 q56) f57 (bN 120 q58) f59 f60 f64) (mo_t ck) sz)) (va_Qi (fun (r : Int32) (_ : Unit) => r = (sp_EM_when x16 x29 x61 x62 x63 f3 q4 q5 q6 q7 f8 q9 q10 f11 m12_0 m12_1 m13_0 m13_1 m14_0 m14_1 m15_0 m15_1 f39 f40 f41 m42_0 q54 q55 q56 f57 q58 f59 p0 p1).1) (fun _ t => ∃ (z54 : Nat → Nat) (z55 : Nat → Nat) (z56 : Nat → Nat) (z57 : Nat → Int32) (z58 : Nat → Nat) (z59 : Nat → Int32) (z0 : Int32) (z46 : Nat) (z61 : Nat) (z62 : Nat) (z63 : Nat), pu_E (dC, dI) (mo_w ad ck z0 (nI x16) (nI x18) (nI x19) x20 (nI x21) (nI x22) x23 x24 x25 (nI x26) x27 (nI x28) (nI x29) (nI x30) (nI x33) x45 (nI z46) (nI x52) (nI x53) (nI z61) (nI z62) (nI z63) (nI x65) x66 f1 f2 f3 (bN 3 q4) (bN 7 q5) (bN 7 q6) (bN 4 q7) f8 (bN 2 q9) (bH q10) f11 (b2 m12_0 m12_1) (b2 m13_0 m13_1) (b2 m14_0 m14_1) (b2m m15_0 m15_1) f17 (bA 159 q31) f32 f34 f35 f36 f37 (bN 7 q38) f39 f40 f41 (b2 m42_0 m42_1) f43 f44 f47 f48 f49 f50 f51 (bN 13 z54) (bN 120 z55) (bN 120 z56) z57 (bN 120 z58) z59 f60 f64) (mo_t ck) (va_A ((mo_w ad ck x0 (nI x16) (nI x18) (nI x19) x20 (nI x21) (nI x22) x23 x24 x25 (nI x26) x27 (nI x28) (nI x29) (nI x30) (nI x33) x45 (nI x46) (nI x52) (nI x53) (nI x61) (nI x62) (nI x63) (nI x65) x66 f1 f2 f3 (bN 3 q4) (bN 7 q5) (bN 7 q6) (bN 4 q7) f8 (bN 2 q9) (bH q10) f11 (b2 m12_0 m12_1) (b2 m13_0 m13_1) (b2 m14_0 m14_1) (b2m m15_0 m15_1) f17 (bA 159 q31) f32 f34 f35 f36 f37 (bN 7 q38) f39 f40 f41 (b2 m42_0 m42_1) f43 f44 f47 f48 f49 f50 f51 (bN 13 q54) (bN 120 q55) (bN 120 q56) f57 (bN 120 q58) f59 f60 f64)) sz) t ∧ (z46 ≤ 5) ∧ (z61 ≤ 119) ∧ (z62 ≤ 2000) ∧ (z63 ≤ 1) ∧ ((z54, z55, z56, z57, z58, z59, z0, z46, z61, z62, z63) = (sp_EM_when x16 x29 x61 x62 x63 f3 q4 q5 q6 q7 f8 q9 q10 f11 m12_0 m12_1 m13_0 m13_1 m14_0 m14_1 m15_0 m15_1 f39 f40 f41 m42_0 q54 q55 q56 f57 q58 f59 p0 p1).2)) (va_A ((mo_w ad ck x0 (nI x16) (nI x18) (nI x19) x20 (nI x21) (nI x22) x23 x24 x25 (nI x26) x27 (nI x28) (nI x29) (nI x30) (nI x33) x45 (nI x46) (nI x52) (nI x53) (nI x61) (nI x62) (nI x63) (nI x65) x66 f1 f2 f3 (bN 3 q4) (bN 7 q5) (bN 7 q6) (bN 4 q7) f8 (bN 2 q9) (bH q10) f11 (b2 m12_0 m12_1) (b2 m13_0 m13_1) (b2 m14_0 m14_1) (b2m m15_0 m15_1) f17 (bA 159 q31) f32 f34 f35 f36 f37 (bN 7 q38) f39 f40 f41 (b2 m42_0 m42_1) f43 f44 f47 f48 f49 f50 f51 (bN 13 q54) (bN 120 q55) (bN 120 q56) f57 (bN 120 q58) f59 f60 f64)) sz)) 0 0 (va_A ((mo_w ad ck x0 (nI x16) (nI x18) (nI x19) x20 (nI x21) (nI x22) x23 x24 x25 (nI x26) x27 (nI x28) (nI x29) (nI x30) (nI x33) x45 (nI x46) (nI x52) (nI x53) (nI x61) (nI x62) (nI x63) (nI x65) x66 f1 f2 f3 (bN 3 q4) (bN 7 q5) (bN 7 q6) (bN 4 q7) f8 (bN 2 q9) (bH q10) f11 (b2 m12_0 m12_1) (b2 m13_0 m13_1) (b2 m14_0 m14_1) (b2m m15_0 m15_1) f17 (bA 159 q31) f32 f34 f35 f36 f37 (bN 7 q38) f39 f40 f41 (b2 m42_0 m42_1) f43 f44 f47 f48 f49 f50 f51 (bN 13 q54) (bN 120 q55) (bN 120 q56) f57 (bN 120 q58) f59 f60 f64)) sz) := by
  refine Met.ofW (cc := cX9_when) (maxL := 3) (ret := (some .int)) (by decide) rfl ?_
  intro p e s m args below meth c s₁ B hml hv
  obtain ⟨rfl, rfl, hP, hK, hD0⟩ := hv
  have hx := B.exec
  have hb := B.bytes
  have hr := B.returns
  have hts := atoms_spec (ws := vs_EM_when) B.pre
  have v_1 := hts (.fieldLink RX9 142 "ClockReachModel" "thrown" "I") (List.mem_cons_of_mem _ vm_5)
  have v_11 := hts (.fieldLink RX9 133 "ClockReachModel" "time" "[I") (List.mem_cons_of_mem _ vm_326)
  have hown : s.vm.findClass RX9 = some m.cls := findClass_of_methodNamed B.named
  have hlocks := B.notSynchronized
  have hiX9 : ∀ w ∈ wsX90, w ∈ vs_EM_when := fun _ h => List.mem_cons_of_mem _ (vmi_L h)
  have hD := hD0.self (sz := s.heap.size)
  generalize hAe : va_A ((mo_w ad ck x0 (nI x16) (nI x18) (nI x19) x20 (nI x21) (nI x22) x23 x24 x25 (nI x26) x27 (nI x28) (nI x29) (nI x30) (nI x33) x45 (nI x46) (nI x52) (nI x53) (nI x61) (nI x62) (nI x63) (nI x65) x66 f1 f2 f3 (bN 3 q4) (bN 7 q5) (bN 7 q6) (bN 4 q7) f8 (bN 2 q9) (bH q10) f11 (b2 m12_0 m12_1) (b2 m13_0 m13_1) (b2 m14_0 m14_1) (b2m m15_0 m15_1) f17 (bA 159 q31) f32 f34 f35 f36 f37 (bN 7 q38) f39 f40 f41 (b2 m42_0 m42_1) f43 f44 f47 f48 f49 f50 f51 (bN 13 q54) (bN 120 q55) (bN 120 q56) f57 (bN 120 q58) f59 f60 f64)) s.heap.size = A at hD ⊢
  have hA : ∀ q : Nat, s.heap.size ≤ q → A q := fun q h => by rw [← hAe]; exact Or.inr h
  have hS : va_S A s.heap s.heap [] := va_S.rf
  have hl := lv_entry ([.ref (ad 0), .int p0, .int p1]) (n := 3) (Nat.le_of_ble_eq_true rfl)
  rw [lg_entry_eq]
  generalize (lg_sl ([.ref (ad 0), .int p0, .int p1]) ++ List.replicate (3 - (lg_sl ([.ref (ad 0), .int p0, .int p1])).length) Slot.unset).toArray = ls at hl ⊢
  have hl : lv_has ls 3 [(0, .ref (ad 0)), (1, .int p0), (2, .int p1)] := hl
  obtain ⟨RR, hRR⟩ : ∃ x, x = (sp_EM_when x16 x29 x61 x62 x63 f3 q4 q5 q6 q7 f8 q9 q10 f11 m12_0 m12_1 m13_0 m13_1 m14_0 m14_1 m15_0 m15_1 f39 f40 f41 m42_0 q54 q55 q56 f57 q58 f59 p0 p1) := ⟨_, rfl⟩
  have hsp := hRR
  refine lv_aload_n hx hb dX9_when_0 rfl (lv_at hl 0 rfl) ?_
  refine lv_iconst (v := 0) hx hb dX9_when_1 (by decide) ?_
  refine va_put (D := (dC, dI)) (ci := 9) (v := .int 0) (ty := .int) (C := RX9) (T := TX9) (N := 67) hx hb hts hiX9 tyX9 tyX9_ok nmX9 hown hK hP hD hS 0 rfl rfl 0 (by decide) v_1 (fun _ h9 => h9) rfl (by decide +kernel) rfl rfl (Nat.le_of_ble_eq_true rfl) dX9_when_2 (fun H locs hP hD hS => ?_)
  have hP : va_P (dC, dI) vwCl (mo_w ad ck 0 (nI x16) (nI x18) (nI x19) x20 (nI x21) (nI x22) x23 x24 x25 (nI x26) x27 (nI x28) (nI x29) (nI x30) (nI x33) x45 (nI x46) (nI x52) (nI x53) (nI x61) (nI x62) (nI x63) (nI x65) x66 f1 f2 f3 (bN 3 q4) (bN 7 q5) (bN 7 q6) (bN 4 q7) f8 (bN 2 q9) (bH q10) f11 (b2 m12_0 m12_1) (b2 m13_0 m13_1) (b2 m14_0 m14_1) (b2m m15_0 m15_1) f17 (bA 159 q31) f32 f34 f35 f36 f37 (bN 7 q38) f39 f40 f41 (b2 m42_0 m42_1) f43 f44 f47 f48 f49 f50 f51 (bN 13 q54) (bN 120 q55) (bN 120 q56) f57 (bN 120 q58) f59 f60 f64) H := hP
  have hD : va_D A (mo_w ad ck 0 (nI x16) (nI x18) (nI x19) x20 (nI x21) (nI x22) x23 x24 x25 (nI x26) x27 (nI x28) (nI x29) (nI x30) (nI x33) x45 (nI x46) (nI x52) (nI x53) (nI x61) (nI x62) (nI x63) (nI x65) x66 f1 f2 f3 (bN 3 q4) (bN 7 q5) (bN 7 q6) (bN 4 q7) f8 (bN 2 q9) (bH q10) f11 (b2 m12_0 m12_1) (b2 m13_0 m13_1) (b2 m14_0 m14_1) (b2m m15_0 m15_1) f17 (bA 159 q31) f32 f34 f35 f36 f37 (bN 7 q38) f39 f40 f41 (b2 m42_0 m42_1) f43 f44 f47 f48 f49 f50 f51 (bN 13 q54) (bN 120 q55) (bN 120 q56) f57 (bN 120 q58) f59 f60 f64) := hD
  refine lv_aload_n hx hb dX9_when_5 rfl (lv_at hl 0 rfl) ?_
  refine lv_iload_n hx hb dX9_when_6 rfl (lv_at hl 1 rfl) ?_
  refine lv_iload_n hx hb dX9_when_7 rfl (lv_at hl 2 rfl) ?_
  have hFc := pu_free hD hS hA
  refine va_calli (va_runV (As := [.int p0, .int p1]) (rest := []) ⟨hx, hb, hml, hown, hts⟩ (c_EM_isStep l dC dI _ ad ck 0 x16 x18 x19 x20 x21 x22 x23 x24 x25 x26 x27 x28 x29 x30 x33 x45 x46 x52 x53 x61 x62 x63 x65 x66 f1 f2 f3 q4 q5 q6 q7 f8 q9 q10 f11 m12_0 m12_1 m13_0 m13_1 m14_0 m14_1 m15_0 m15_1 f17 q31 f32 f34 f35 f36 f37 q38 f39 f40 f41 m42_0 m42_1 f43 f44 f47 f48 f49 f50 f51 q54 q55 q56 f57 q58 f59 f60 f64 p0 p1 hx16 hx18 hx19 hx21 hx22 hx26 hx28 hx29 hx30 hx33 hx46 hx52 hx53 hx61 hx62 hx63 hx65 hm12_0 hm12_1 hm13_0 hm13_1 hm14_0 hm14_1 hm15_0 hm15_1 hm42_0 hm42_1 (by first | assumption | exact gz_0)) (cwV 2 hts g_EM_when_EM_isStep rfl rfl rfl (by decide +kernel) ⟨Nat.le_of_ble_eq_true rfl, Nat.le_of_ble_eq_true rfl⟩) ⟨pu_bl, va_recv hK hP (ci := 9) (q0 := 0) rfl rfl, pu_in hP hK hD⟩ rfl rfl hl.1 rfl (lv_room (Nat.le_of_ble_eq_true rfl)) dX9_when_8 ⟨Nat.le_of_ble_eq_true rfl, Nat.le_of_ble_eq_true rfl⟩) hS (fun q _ h => hFc q h) hFc (fun r_1 u t H1 locs ht hvm hw hB hz1 hk1 hS => ?_)
  obtain ⟨z54_2, z46_3, z61_4, ⟨hP1, -, hD1⟩, hz46_3, hz61_4, xr_1_0⟩ := hB
  rw [ht] at hP1
  have hP := hP1
  have hD := pu_all hFc hD1
  clear hP1 hD1 hFc
  clear hk1 hz1 ht hvm
  generalize H1 = H at hP hS ⊢
  replace hsp := hsp.trans (slet_eq xr_1_0)
  rcases hw with ⟨rfl, hw⟩ | ⟨rfl, hn⟩
  · obtain ⟨n_5, hn_5, rfl, hst⟩ := hw
    replace hsp := hsp.trans (if_pos hst)
    replace hsp := hsp.trans (slet_eq (nI_cl (n := n_5) (by omega)))
    refine lv_if_eq (tgt := 32) hx hb dX9_when_11 (by decide) (fun z => absurd z (by decide)) (fun _ => ?_)
    refine lv_aload_n hx hb dX9_when_14 rfl (lv_at hl 0 rfl) ?_
    have hFc := pu_free hD hS hA
    refine va_calli (va_runV (As := []) (rest := []) ⟨hx, hb, hml, hown, hts⟩ (c_EM_laysLeast l dC dI _ ad ck 0 x16 x18 x19 x20 x21 x22 x23 x24 x25 x26 x27 x28 x29 x30 x33 x45 z46_3 x52 x53 z61_4 x62 x63 x65 x66 f1 f2 f3 q4 q5 q6 q7 f8 q9 q10 f11 m12_0 m12_1 m13_0 m13_1 m14_0 m14_1 m15_0 m15_1 f17 q31 f32 f34 f35 f36 f37 q38 f39 f40 f41 m42_0 m42_1 f43 f44 f47 f48 f49 f50 f51 z54_2 q55 q56 f57 q58 f59 f60 f64 hx16 hx18 hx19 hx21 hx22 hx26 hx28 hx29 hx30 hx33 hz46_3 hx52 hx53 hz61_4 hx62 hx63 hx65 hm12_0 hm12_1 hm13_0 hm13_1 hm14_0 hm14_1 hm15_0 hm15_1 hm42_0 hm42_1 (by first | assumption | omega)) (cwV 0 hts g_EM_when_EM_laysLeast rfl rfl rfl (by decide +kernel) ⟨Nat.le_of_ble_eq_true rfl, Nat.le_of_ble_eq_true rfl⟩) ⟨pu_bl, va_recv hK hP (ci := 9) (q0 := 0) rfl rfl, pu_in hP hK hD⟩ rfl rfl hl.1 rfl (lv_room (Nat.le_of_ble_eq_true rfl)) dX9_when_15 ⟨Nat.le_of_ble_eq_true rfl, Nat.le_of_ble_eq_true rfl⟩) hS (fun q _ h => hFc q h) hFc (fun r_6 u t H1 locs ht hvm hw hB hz1 hk1 hS => ?_)
    obtain ⟨z55_7, z56_8, z57_9, z58_10, z59_11, z62_12, z63_13, ⟨hP1, -, hD1⟩, hz62_12, hz63_13, xr_6_0⟩ := hB
    rw [ht] at hP1
    have hP := hP1
    have hD := pu_all hFc hD1
    clear hP1 hD1 hFc
    clear hk1 hz1 ht hvm
    generalize H1 = H at hP hS ⊢
    obtain ⟨u_14, hu_14, rfl, iu_14⟩ := hw
    have iu_14 : (u_14, z55_7, z56_8, z57_9, z58_10, z59_11, z62_12, z63_13) = (sp_EM_laysLeast x16 z61_4 f3 q4 q5 q6 q7 f8 q9 q10 f11 m12_0 m12_1 m13_0 m13_1 m14_0 m14_1 m15_0 m15_1 z54_2 q55 q56 f57 q58 f59) := Prod.ext iu_14 xr_6_0
    replace hsp := hsp.trans (slet_eq iu_14)
    refine lv_if_eq (tgt := 32) hx hb dX9_when_18 (by decide) (fun c_15 => ?_) (fun c_15 => ?_)
    · have c_15 : u_14 = 0 := (nI_eq (a := u_14) (b := 0) (Nat.lt_of_le_of_lt hu_14 (Nat.le_of_ble_eq_true rfl)) (Nat.le_of_ble_eq_true rfl)).mp c_15
      replace hsp := hsp.trans (if_pos c_15)
      refine lv_iconst (v := (-1)) hx hb dX9_when_32 (by decide) ?_
      exact W.iret (v := (-1)) hx hb hr (fun t ht hW => ⟨⟨(-1), (), rfl, (congrArg Prod.fst (hsp.symm.trans hRR)), ⟨z54_2, z55_7, z56_8, z57_9, z58_10, z59_11, 0, z46_3, z61_4, z62_12, z63_13, ⟨by rw [ht]; exact hP, va_K.moved hW.alike hK, hD⟩, hz46_3, hz61_4, hz62_12, hz63_13, (congrArg Prod.snd (hsp.symm.trans hRR))⟩⟩, hS.F ht⟩) hS.2.2 dX9_when_33
    · have c_15 : ¬ u_14 = 0 := fun z => c_15 ((nI_eq (a := u_14) (b := 0) (Nat.lt_of_le_of_lt hu_14 (Nat.le_of_ble_eq_true rfl)) (Nat.le_of_ble_eq_true rfl)).mpr z)
      replace hsp := hsp.trans (if_neg c_15)
      refine lv_aload_n hx hb dX9_when_21 rfl (lv_at hl 0 rfl) ?_
      refine va_get (D := (dC, dI)) (ci := 9) (v := .ref (ad 59)) (C := RX9) (T := TX9) (N := 67) hx hb hts hiX9 hown hK hP 0 rfl rfl 59 (by decide) v_11 (fun _ h9 => h9) rfl dX9_when_22 ?_
      refine lv_iload_n hx hb dX9_when_25 rfl (lv_at hl 2 rfl) ?_
      refine lv_iconst (v := 1) hx hb dX9_when_26 (by decide) ?_
      refine lv_iadd hx hb dX9_when_27 ?_
      refine lv_topi (fun y_16 ey_16 => ?_)
      obtain rfl : y_16 = (nI (n_5 + 1)) := ey_16.trans (nI_add n_5 1)
      refine va_iald hx hb hK hP 40 39 rfl rfl (vp_in_nI (n := (n_5 + 1)) (by omega) (Nat.le_of_ble_eq_true rfl)) dX9_when_28 ?_
      refine lv_topi (fun y_17 ey_17 => ?_)
      have ey_17 : y_17 = z59_11 (n_5 + 1) := ey_17.trans (congrArg z59_11 (nI_clamp (n := (n_5 + 1)) (by omega)))
      replace hsp := hsp.trans (slet_eq ey_17)
      refine lv_goto (tgt := 33) hx hb dX9_when_29 (by decide) ?_
      exact W.iret (v := y_17) hx hb hr (fun t ht hW => ⟨⟨y_17, (), rfl, (congrArg Prod.fst (hsp.symm.trans hRR)), ⟨z54_2, z55_7, z56_8, z57_9, z58_10, z59_11, 0, z46_3, z61_4, z62_12, z63_13, ⟨by rw [ht]; exact hP, va_K.moved hW.alike hK, hD⟩, hz46_3, hz61_4, hz62_12, hz63_13, (congrArg Prod.snd (hsp.symm.trans hRR))⟩⟩, hS.F ht⟩) hS.2.2 dX9_when_33
  · replace hsp := hsp.trans (if_neg hn)
    refine lv_if_eq (tgt := 32) hx hb dX9_when_11 (by decide) (fun _ => ?_) (fun z => absurd z (by decide))
    refine lv_iconst (v := (-1)) hx hb dX9_when_32 (by decide) ?_
    exact W.iret (v := (-1)) hx hb hr (fun t ht hW => ⟨⟨(-1), (), rfl, (congrArg Prod.fst (hsp.symm.trans hRR)), ⟨z54_2, q55, q56, f57, q58, f59, 0, z46_3, z61_4, x62, x63, ⟨by rw [ht]; exact hP, va_K.moved hW.alike hK, hD⟩, hz46_3, hz61_4, hx62, hx63, (congrArg Prod.snd (hsp.symm.trans hRR))⟩⟩, hS.F ht⟩) hS.2.2 dX9_when_33
theorem dX9_then_0 : decode cX9_then 0 = .ok (.aload_n 0, 1) := by decide +kernel
theorem dX9_then_1 : decode cX9_then 1 = .ok (.iconst 0, 1) := by decide +kernel
theorem dX9_then_2 : decode cX9_then 2 = .ok (.putfield 142, 3) := by decide +kernel
theorem dX9_then_5 : decode cX9_then 5 = .ok (.aload_n 0, 1) := by decide +kernel
theorem dX9_then_6 : decode cX9_then 6 = .ok (.iload_n 1, 1) := by decide +kernel
theorem dX9_then_7 : decode cX9_then 7 = .ok (.iload_n 2, 1) := by decide +kernel
theorem dX9_then_8 : decode cX9_then 8 = .ok (.invokevirtual 454, 3) := by decide +kernel
theorem dX9_then_11 : decode cX9_then 11 = .ok (.ifCond .eq 18, 3) := by decide +kernel
theorem dX9_then_14 : decode cX9_then 14 = .ok (.aload_n 0, 1) := by decide +kernel
theorem dX9_then_15 : decode cX9_then 15 = .ok (.iload_n 3, 1) := by decide +kernel
theorem dX9_then_16 : decode cX9_then 16 = .ok (.invokevirtual 314, 3) := by decide +kernel
theorem dX9_then_19 : decode cX9_then 19 = .ok (.ifCond .eq 10, 3) := by decide +kernel
theorem dX9_then_22 : decode cX9_then 22 = .ok (.aload_n 0, 1) := by decide +kernel
theorem dX9_then_23 : decode cX9_then 23 = .ok (.invokevirtual 457, 3) := by decide +kernel
theorem dX9_then_26 : decode cX9_then 26 = .ok (.ifCond .ne 5, 3) := by decide +kernel
theorem dX9_then_29 : decode cX9_then 29 = .ok (.iconst (-1), 1) := by decide +kernel
theorem dX9_then_30 : decode cX9_then 30 = .ok (.ireturn, 1) := by decide +kernel
theorem dX9_then_31 : decode cX9_then 31 = .ok (.iconst 0, 1) := by decide +kernel
theorem dX9_then_32 : decode cX9_then 32 = .ok (.istore 4, 2) := by decide +kernel
theorem dX9_then_34 : decode cX9_then 34 = .ok (.iconst 0, 1) := by decide +kernel
theorem dX9_then_35 : decode cX9_then 35 = .ok (.istore 5, 2) := by decide +kernel
theorem dX9_then_37 : decode cX9_then 37 = .ok (.iload 5, 2) := by decide +kernel
theorem dX9_then_39 : decode cX9_then 39 = .ok (.iload_n 2, 1) := by decide +kernel
theorem dX9_then_40 : decode cX9_then 40 = .ok (.if_icmp .gt 38, 3) := by decide +kernel
theorem dX9_then_43 : decode cX9_then 43 = .ok (.aload_n 0, 1) := by decide +kernel
theorem dX9_then_44 : decode cX9_then 44 = .ok (.aload_n 0, 1) := by decide +kernel
theorem dX9_then_45 : decode cX9_then 45 = .ok (.getfield 118, 3) := by decide +kernel
theorem dX9_then_48 : decode cX9_then 48 = .ok (.iload 5, 2) := by decide +kernel
theorem dX9_then_50 : decode cX9_then 50 = .ok (.iaload, 1) := by decide +kernel
theorem dX9_then_51 : decode cX9_then 51 = .ok (.invokevirtual 305, 3) := by decide +kernel
theorem dX9_then_54 : decode cX9_then 54 = .ok (.iload_n 3, 1) := by decide +kernel
theorem dX9_then_55 : decode cX9_then 55 = .ok (.invokestatic 248, 3) := by decide +kernel
theorem dX9_then_58 : decode cX9_then 58 = .ok (.ifCond .eq 10, 3) := by decide +kernel
theorem dX9_then_61 : decode cX9_then 61 = .ok (.iload 5, 2) := by decide +kernel
theorem dX9_then_63 : decode cX9_then 63 = .ok (.iconst 1, 1) := by decide +kernel
theorem dX9_then_64 : decode cX9_then 64 = .ok (.iadd, 1) := by decide +kernel
theorem dX9_then_65 : decode cX9_then 65 = .ok (.goto 5, 3) := by decide +kernel
theorem dX9_then_68 : decode cX9_then 68 = .ok (.iload 4, 2) := by decide +kernel
theorem dX9_then_70 : decode cX9_then 70 = .ok (.istore 4, 2) := by decide +kernel
theorem dX9_then_72 : decode cX9_then 72 = .ok (.iinc 5 1, 3) := by decide +kernel
theorem dX9_then_75 : decode cX9_then 75 = .ok (.goto (-38), 3) := by decide +kernel
theorem dX9_then_78 : decode cX9_then 78 = .ok (.aload_n 0, 1) := by decide +kernel
theorem dX9_then_79 : decode cX9_then 79 = .ok (.getfield 133, 3) := by decide +kernel
theorem dX9_then_82 : decode cX9_then 82 = .ok (.iload_n 2, 1) := by decide +kernel
theorem dX9_then_83 : decode cX9_then 83 = .ok (.iconst 1, 1) := by decide +kernel
theorem dX9_then_84 : decode cX9_then 84 = .ok (.iadd, 1) := by decide +kernel
theorem dX9_then_85 : decode cX9_then 85 = .ok (.iaload, 1) := by decide +kernel
theorem dX9_then_86 : decode cX9_then 86 = .ok (.aload_n 0, 1) := by decide +kernel
theorem dX9_then_87 : decode cX9_then 87 = .ok (.getfield 133, 3) := by decide +kernel
theorem dX9_then_90 : decode cX9_then 90 = .ok (.iload 4, 2) := by decide +kernel
theorem dX9_then_92 : decode cX9_then 92 = .ok (.iaload, 1) := by decide +kernel
theorem dX9_then_93 : decode cX9_then 93 = .ok (.isub, 1) := by decide +kernel
theorem dX9_then_94 : decode cX9_then 94 = .ok (.ireturn, 1) := by decide +kernel
abbrev vs_EM_then : List Cond := .code yX9_then cX9_then 6 (some .int) :: VM
theorem g_EM_then_EM_isStep : GoodIn vs_EM_then (wsV RX9 454 RX9 yX9_isStep vs_EM_isStep) := gm_V vm_332 vm_333 vm_334 vm_19 vm_335
theorem g_EM_then_EM_isClock : GoodIn vs_EM_then (wsV RX9 314 RX9 yX9_isClock vs_EM_isClock) := gm_V vm_175 vm_176 vm_177 vm_19 vm_178
theorem g_EM_then_EM_laysLeast : GoodIn vs_EM_then (wsV RX9 457 RX9 yX9_laysLeast vs_EM_laysLeast) := gm_V vm_336 vm_337 vm_338 vm_19 vm_339
theorem g_EM_then_EM_setBy : GoodIn vs_EM_then (wsV RX9 305 RX9 yX9_setBy vs_EM_setBy) := gm_V vm_171 vm_172 vm_173 vm_19 vm_174
theorem g_EM_then_EM_isOf : GoodIn vs_EM_then (va_wsS RX9 248 yX9_isOf vs_EM_isOf) := gm_S vm_114 vm_115 vm_19 vm_116
noncomputable def sp_EM_then_L1 (x16 : Nat) (f8 : Nat → Int32) (z54_2 : Nat → Nat) (z46_3 : Nat) (z61_4 : Nat) (n_5 : Nat) (n_7 : Nat) (z55_9 : Nat → Nat) (z56_10 : Nat → Nat) (z57_11 : Nat → Int32) (z58_12 : Nat → Nat) (z59_13 : Nat → Int32) (z62_14 : Nat) (z63_15 : Nat) : (Nat × Nat) → (Nat × Nat) ⊕ (Int32 × (Nat → Nat) × (Nat → Nat) × (Nat → Nat) × (Nat → Int32) × (Nat → Nat) × (Nat → Int32) × Int32 × Nat × Nat × Nat × Nat) := fun (g_20, g_21) => (if n_5 < g_21 then (Sum.inr (slet (z59_13 (n_5 + 1)) (fun y_30 => (slet (z59_13 g_20) (fun y_31 => (slet ((y_30 : Int32) - y_31) (fun y_32 => (y_32, z54_2, z55_9, z56_10, z57_11, z58_12, z59_13, 0, z46_3, z61_4, z62_14, z63_15)))))))) else (slet (min (z54_2 g_21) 13) (fun u_34 => (slet (sp_EM_setBy x16 f8 u_34) (fun r_35 => (slet (α := Nat) (slet (sp_EM_isOf r_35 (nI n_7)) (fun u_41 => (if u_41 = 0 then g_20 else (g_21 + 1)))) (fun g_36 => (Sum.inl (g_36, (g_21 + 1))))))))))
noncomputable def sp_EM_then (x16 : Nat) (x29 : Nat) (x61 : Nat) (x62 : Nat) (x63 : Nat) (f3 : Nat → Int32) (q4 : Nat → Nat) (q5 : Nat → Nat) (q6 : Nat → Nat) (q7 : Nat → Nat) (f8 : Nat → Int32) (q9 : Nat → Nat) (q10 : Nat → Nat) (f11 : Nat → Int32) (m12_0 : Nat) (m12_1 : Nat) (m13_0 : Nat) (m13_1 : Nat) (m14_0 : Nat) (m14_1 : Nat) (m15_0 : Nat) (m15_1 : Nat) (f39 : Nat → Int32) (f40 : Nat → Int32) (f41 : Nat → Int32) (m42_0 : Nat) (q54 : Nat → Nat) (q55 : Nat → Nat) (q56 : Nat → Nat) (f57 : Nat → Int32) (q58 : Nat → Nat) (f59 : Nat → Int32) (p0 : Int32) (p1 : Int32) (p2 : Int32) : Int32 × (Nat → Nat) × (Nat → Nat) × (Nat → Nat) × (Nat → Int32) × (Nat → Nat) × (Nat → Int32) × Int32 × Nat × Nat × Nat × Nat := (slet (sp_EM_isStep x16 x29 x61 m12_0 m12_1 f39 f40 f41 m42_0 q54 p0 p1) (fun (z54_2, z46_3, z61_4) => (if isStp x29 m42_0 f41 p0 p1 then (slet ((p1 : Int32).toNatClampNeg) (fun n_5 => (if (0 : Int32) ≤ p2 ∧ p2 < nI (bkN x16 m12_0 m12_1) then (slet ((p2 : Int32).toNatClampNeg) (fun n_7 => (slet (sp_EM_laysLeast x16 z61_4 f3 q4 q5 q6 q7 f8 q9 q10 f11 m12_0 m12_1 m13_0 m13_1 m14_0 m14_1 m15_0 m15_1 z54_2 q55 q56 f57 q58 f59) (fun (u_16, z55_9, z56_10, z57_11, z58_12, z59_13, z62_14, z63_15) => (if u_16 = 0 then ((-1), z54_2, z55_9, z56_10, z57_11, z58_12, z59_13, 0, z46_3, z61_4, z62_14, z63_15) else (itrv (α := Nat × Nat) (β := (Int32 × (Nat → Nat) × (Nat → Nat) × (Nat → Nat) × (Nat → Int32) × (Nat → Nat) × (Nat → Int32) × Int32 × Nat × Nat × Nat × Nat)) default (sp_EM_then_L1 x16 f8 z54_2 z46_3 z61_4 n_5 n_7 z55_9 z56_10 z57_11 z58_12 z59_13 z62_14 z63_15) (0, 0))))))) else ((-1), z54_2, q55, q56, f57, q58, f59, 0, z46_3, z61_4, x62, x63)))) else ((-1), z54_2, q55, q56, f57, q58, f59, 0, z46_3, z61_4, x62, x63))))
set_option maxHeartbeats 4000000 in
set_option maxRecDepth 100000 in
theorem c_EM_then (l : Launch) (dC : Nat → ClassId) (dI : Nat → Nat → Nat) (sz : Nat) (ad : Nat → Nat) (ck : Nat → ClassId) (x0 : Int32) (x16 : Nat) (x18 : Nat) (x19 : Nat) (x20 : Int32) (x21 : Nat) (x22 : Nat) (x23 : Int32) (x24 : Int32) (x25 : Int32) (x26 : Nat) (x27 : Int32) (x28 : Nat) (x29 : Nat) (x30 : Nat) (x33 : Nat) (x45 : Int32) (x46 : Nat) (x52 : Nat) (x53 : Nat) (x61 : Nat) (x62 : Nat) (x63 : Nat) (x65 : Nat) (x66 : Int32) (f1 : Nat → Int32) (f2 : Nat → Int32) (f3 : Nat → Int32) (q4 : Nat → Nat) (q5 : Nat → Nat) (q6 : Nat → Nat) (q7 : Nat → Nat) (f8 : Nat → Int32) (q9 : Nat → Nat) (q10 : Nat → Nat) (f11 : Nat → Int32) (m12_0 m12_1 : Nat) (m13_0 m13_1 : Nat) (m14_0 m14_1 : Nat) (m15_0 m15_1 : Nat) (f17 : Nat → Int32) (q31 : Nat → Nat) (f32 : Nat → Int32) (f34 : Nat → Int32) (f35 : Nat → Int32) (f36 : Nat → Int32) (f37 : Nat → Int32) (q38 : Nat → Nat) (f39 : Nat → Int32) (f40 : Nat → Int32) (f41 : Nat → Int32) (m42_0 m42_1 : Nat) (f43 : Nat → Int32) (f44 : Nat → Int32) (f47 : Nat → Int32) (f48 : Nat → Int32) (f49 : Nat → Int32) (f50 : Nat → Int32) (f51 : Nat → Int32) (q54 : Nat → Nat) (q55 : Nat → Nat) (q56 : Nat → Nat) (f57 : Nat → Int32) (q58 : Nat → Nat) (f59 : Nat → Int32) (f60 : Nat → Int32) (f64 : Nat → Int32) (p0 : Int32) (p1 : Int32) (p2 : Int32) (hx16 : x16 ≤ 1) (hx18 : x18 ≤ 900) (hx19 : x19 ≤ 900) (hx21 : x21 ≤ 900) (hx22 : x22 ≤ 4) (hx26 : x26 ≤ 6) (hx28 : x28 ≤ 1) (hx29 : x29 ≤ 1) (hx30 : x30 ≤ 1) (hx33 : x33 ≤ 20) (hx46 : x46 ≤ 5) (hx52 : x52 ≤ 2400) (hx53 : x53 ≤ 119) (hx61 : x61 ≤ 119) (hx62 : x62 ≤ 2000) (hx63 : x63 ≤ 1) (hx65 : x65 ≤ 7) (hm12_0 : m12_0 ≤ 3) (hm12_1 : m12_1 ≤ 3) (hm13_0 : m13_0 ≤ 8) (hm13_1 : m13_1 ≤ 8) (hm14_0 : m14_0 ≤ 14) (hm14_1 : m14_1 ≤ 14) (hm15_0 : m15_0 ≤ 8) (hm15_1 : m15_1 ≤ 8) (hm42_0 : m42_0 ≤ 120) (hm42_1 : m42_1 ≤ 400) (hbg : (x16 = 0 ∧ (m13_0 = 0 ∨ 1 ≤ m15_0)) ∨ (x16 = 1 ∧ (m13_1 = 0 ∨ 1 ≤ m15_1))) (hgr : gz_ok m42_0 f39 f40 f41) : Met l yX9_then vs_EM_then ({ frames := 6, cells := 0, slots := 0, locals := 136 }) (va_Pc [.ref (ad 0), .int p0, .int p1, .int p2] (pu_B (dC, dI) (mo_w ad ck x0 (nI x16) (nI x18) (nI x19) x20 (nI x21) (nI x22) x23 x24 x25 (nI x26) x27 (nI x28) (nI x29) (nI x30) (nI x33) x45 (nI x46) (nI x52) (nI x53) (nI x61) (nI x62) (nI x63) (nI x65) x66 f1 f2 f3 (bN 3 q4) (bN 7 q5) (bN 7 q6) (bN 4 q7) f8 (bN 2 q9) (bH q10) f11 (b2 m12_0 m12_1) (b2 m13_0 m13_1) (b2 m14_0 m14_1) (b2m m15_0 m15_1) f17 (bA 159 q31) f32 f34 f35 f36 f37 (bN 7 q38) f39 f40 f41 (b2 m42_0 m42_1) f43 f44 f47 f48 f49 f50 f51 (bN 13 q54) (bN 120 q55) (bN 120 q56) f57 (bN 120 q58) f59 f60 f64) (mo_t ck) sz)) (va_Qi (fun (r : Int32) (_ : Unit) => r = (sp_EM_then x16 x29 x61 x62 x63 f3 q4 q5 q6 q7 f8 q9 q10 f11 m12_0 m12_1 m13_0 m13_1 m14_0 m14_1 m15_0 m15_1 f39 f40 f41 m42_0 q54 q55 q56 f57 q58 f59 p0 p1 p2).1) (fun _ t => ∃ (z54 : Nat → Nat) (z55 : Nat → Nat) (z56 : Nat → Nat) (z57 : Nat → Int32) (z58 : Nat → Nat) (z59 : Nat → Int32) (z0 : Int32) (z46 : Nat) (z61 : Nat) (z62 : Nat) (z63 : Nat), pu_E (dC, dI) (mo_w ad ck z0 (nI x16) (nI x18) (nI x19) x20 (nI x21) (nI x22) x23 x24 x25 (nI x26) x27 (nI x28) (nI x29) (nI x30) (nI x33) x45 (nI z46) (nI x52) (nI x53) (nI z61) (nI z62) (nI z63) (nI x65) x66 f1 f2 f3 (bN 3 q4) (bN 7 q5) (bN 7 q6) (bN 4 q7) f8 (bN 2 q9) (bH q10) f11 (b2 m12_0 m12_1) (b2 m13_0 m13_1) (b2 m14_0 m14_1) (b2m m15_0 m15_1) f17 (bA 159 q31) f32 f34 f35 f36 f37 (bN 7 q38) f39 f40 f41 (b2 m42_0 m42_1) f43 f44 f47 f48 f49 f50 f51 (bN 13 z54) (bN 120 z55) (bN 120 z56) z57 (bN 120 z58) z59 f60 f64) (mo_t ck) (va_A ((mo_w ad ck x0 (nI x16) (nI x18) (nI x19) x20 (nI x21) (nI x22) x23 x24 x25 (nI x26) x27 (nI x28) (nI x29) (nI x30) (nI x33) x45 (nI x46) (nI x52) (nI x53) (nI x61) (nI x62) (nI x63) (nI x65) x66 f1 f2 f3 (bN 3 q4) (bN 7 q5) (bN 7 q6) (bN 4 q7) f8 (bN 2 q9) (bH q10) f11 (b2 m12_0 m12_1) (b2 m13_0 m13_1) (b2 m14_0 m14_1) (b2m m15_0 m15_1) f17 (bA 159 q31) f32 f34 f35 f36 f37 (bN 7 q38) f39 f40 f41 (b2 m42_0 m42_1) f43 f44 f47 f48 f49 f50 f51 (bN 13 q54) (bN 120 q55) (bN 120 q56) f57 (bN 120 q58) f59 f60 f64)) sz) t ∧ (z46 ≤ 5) ∧ (z61 ≤ 119) ∧ (z62 ≤ 2000) ∧ (z63 ≤ 1) ∧ ((z54, z55, z56, z57, z58, z59, z0, z46, z61, z62, z63) = (sp_EM_then x16 x29 x61 x62 x63 f3 q4 q5 q6 q7 f8 q9 q10 f11 m12_0 m12_1 m13_0 m13_1 m14_0 m14_1 m15_0 m15_1 f39 f40 f41 m42_0 q54 q55 q56 f57 q58 f59 p0 p1 p2).2)) (va_A ((mo_w ad ck x0 (nI x16) (nI x18) (nI x19) x20 (nI x21) (nI x22) x23 x24 x25 (nI x26) x27 (nI x28) (nI x29) (nI x30) (nI x33) x45 (nI x46) (nI x52) (nI x53) (nI x61) (nI x62) (nI x63) (nI x65) x66 f1 f2 f3 (bN 3 q4) (bN 7 q5) (bN 7 q6) (bN 4 q7) f8 (bN 2 q9) (bH q10) f11 (b2 m12_0 m12_1) (b2 m13_0 m13_1) (b2 m14_0 m14_1) (b2m m15_0 m15_1) f17 (bA 159 q31) f32 f34 f35 f36 f37 (bN 7 q38) f39 f40 f41 (b2 m42_0 m42_1) f43 f44 f47 f48 f49 f50 f51 (bN 13 q54) (bN 120 q55) (bN 120 q56) f57 (bN 120 q58) f59 f60 f64)) sz)) 0 0 (va_A ((mo_w ad ck x0 (nI x16) (nI x18) (nI x19) x20 (nI x21) (nI x22) x23 x24 x25 (nI x26) x27 (nI x28) (nI x29) (nI x30) (nI x33) x45 (nI x46) (nI x52) (nI x53) (nI x61) (nI x62) (nI x63) (nI x65) x66 f1 f2 f3 (bN 3 q4) (bN 7 q5) (bN 7 q6) (bN 4 q7) f8 (bN 2 q9) (bH q10) f11 (b2 m12_0 m12_1) (b2 m13_0 m13_1) (b2 m14_0 m14_1) (b2m m15_0 m15_1) f17 (bA 159 q31) f32 f34 f35 f36 f37 (bN 7 q38) f39 f40 f41 (b2 m42_0 m42_1) f43 f44 f47 f48 f49 f50 f51 (bN 13 q54) (bN 120 q55) (bN 120 q56) f57 (bN 120 q58) f59 f60 f64)) sz) := by
  refine Met.ofW (cc := cX9_then) (maxL := 6) (ret := (some .int)) (by decide) rfl ?_
  intro p e s m args below meth c s₁ B hml hv
  obtain ⟨rfl, rfl, hP, hK, hD0⟩ := hv
  have hx := B.exec
  have hb := B.bytes
  have hr := B.returns
  have hts := atoms_spec (ws := vs_EM_then) B.pre
  have v_1 := hts (.fieldLink RX9 142 "ClockReachModel" "thrown" "I") (List.mem_cons_of_mem _ vm_5)
  have v_15 := hts (.fieldLink RX9 118 "ClockReachModel" "path" "[I") (List.mem_cons_of_mem _ vm_304)
  have v_23 := hts (.fieldLink RX9 133 "ClockReachModel" "time" "[I") (List.mem_cons_of_mem _ vm_326)
  have hown : s.vm.findClass RX9 = some m.cls := findClass_of_methodNamed B.named
  have hlocks := B.notSynchronized
  have hiX9 : ∀ w ∈ wsX90, w ∈ vs_EM_then := fun _ h => List.mem_cons_of_mem _ (vmi_L h)
  have hD := hD0.self (sz := s.heap.size)
  generalize hAe : va_A ((mo_w ad ck x0 (nI x16) (nI x18) (nI x19) x20 (nI x21) (nI x22) x23 x24 x25 (nI x26) x27 (nI x28) (nI x29) (nI x30) (nI x33) x45 (nI x46) (nI x52) (nI x53) (nI x61) (nI x62) (nI x63) (nI x65) x66 f1 f2 f3 (bN 3 q4) (bN 7 q5) (bN 7 q6) (bN 4 q7) f8 (bN 2 q9) (bH q10) f11 (b2 m12_0 m12_1) (b2 m13_0 m13_1) (b2 m14_0 m14_1) (b2m m15_0 m15_1) f17 (bA 159 q31) f32 f34 f35 f36 f37 (bN 7 q38) f39 f40 f41 (b2 m42_0 m42_1) f43 f44 f47 f48 f49 f50 f51 (bN 13 q54) (bN 120 q55) (bN 120 q56) f57 (bN 120 q58) f59 f60 f64)) s.heap.size = A at hD ⊢
  have hA : ∀ q : Nat, s.heap.size ≤ q → A q := fun q h => by rw [← hAe]; exact Or.inr h
  have hS : va_S A s.heap s.heap [] := va_S.rf
  have hl := lv_entry ([.ref (ad 0), .int p0, .int p1, .int p2]) (n := 6) (Nat.le_of_ble_eq_true rfl)
  rw [lg_entry_eq]
  generalize (lg_sl ([.ref (ad 0), .int p0, .int p1, .int p2]) ++ List.replicate (6 - (lg_sl ([.ref (ad 0), .int p0, .int p1, .int p2])).length) Slot.unset).toArray = ls at hl ⊢
  have hl : lv_has ls 6 [(0, .ref (ad 0)), (1, .int p0), (2, .int p1), (3, .int p2)] := hl
  obtain ⟨RR, hRR⟩ : ∃ x, x = (sp_EM_then x16 x29 x61 x62 x63 f3 q4 q5 q6 q7 f8 q9 q10 f11 m12_0 m12_1 m13_0 m13_1 m14_0 m14_1 m15_0 m15_1 f39 f40 f41 m42_0 q54 q55 q56 f57 q58 f59 p0 p1 p2) := ⟨_, rfl⟩
  have hsp := hRR
  refine lv_aload_n hx hb dX9_then_0 rfl (lv_at hl 0 rfl) ?_
  refine lv_iconst (v := 0) hx hb dX9_then_1 (by decide) ?_
  refine va_put (D := (dC, dI)) (ci := 9) (v := .int 0) (ty := .int) (C := RX9) (T := TX9) (N := 67) hx hb hts hiX9 tyX9 tyX9_ok nmX9 hown hK hP hD hS 0 rfl rfl 0 (by decide) v_1 (fun _ h9 => h9) rfl (by decide +kernel) rfl rfl (Nat.le_of_ble_eq_true rfl) dX9_then_2 (fun H locs hP hD hS => ?_)
  have hP : va_P (dC, dI) vwCl (mo_w ad ck 0 (nI x16) (nI x18) (nI x19) x20 (nI x21) (nI x22) x23 x24 x25 (nI x26) x27 (nI x28) (nI x29) (nI x30) (nI x33) x45 (nI x46) (nI x52) (nI x53) (nI x61) (nI x62) (nI x63) (nI x65) x66 f1 f2 f3 (bN 3 q4) (bN 7 q5) (bN 7 q6) (bN 4 q7) f8 (bN 2 q9) (bH q10) f11 (b2 m12_0 m12_1) (b2 m13_0 m13_1) (b2 m14_0 m14_1) (b2m m15_0 m15_1) f17 (bA 159 q31) f32 f34 f35 f36 f37 (bN 7 q38) f39 f40 f41 (b2 m42_0 m42_1) f43 f44 f47 f48 f49 f50 f51 (bN 13 q54) (bN 120 q55) (bN 120 q56) f57 (bN 120 q58) f59 f60 f64) H := hP
  have hD : va_D A (mo_w ad ck 0 (nI x16) (nI x18) (nI x19) x20 (nI x21) (nI x22) x23 x24 x25 (nI x26) x27 (nI x28) (nI x29) (nI x30) (nI x33) x45 (nI x46) (nI x52) (nI x53) (nI x61) (nI x62) (nI x63) (nI x65) x66 f1 f2 f3 (bN 3 q4) (bN 7 q5) (bN 7 q6) (bN 4 q7) f8 (bN 2 q9) (bH q10) f11 (b2 m12_0 m12_1) (b2 m13_0 m13_1) (b2 m14_0 m14_1) (b2m m15_0 m15_1) f17 (bA 159 q31) f32 f34 f35 f36 f37 (bN 7 q38) f39 f40 f41 (b2 m42_0 m42_1) f43 f44 f47 f48 f49 f50 f51 (bN 13 q54) (bN 120 q55) (bN 120 q56) f57 (bN 120 q58) f59 f60 f64) := hD
  refine lv_aload_n hx hb dX9_then_5 rfl (lv_at hl 0 rfl) ?_
  refine lv_iload_n hx hb dX9_then_6 rfl (lv_at hl 1 rfl) ?_
  refine lv_iload_n hx hb dX9_then_7 rfl (lv_at hl 2 rfl) ?_
  have hFc := pu_free hD hS hA
  refine va_calli (va_runV (As := [.int p0, .int p1]) (rest := []) ⟨hx, hb, hml, hown, hts⟩ (c_EM_isStep l dC dI _ ad ck 0 x16 x18 x19 x20 x21 x22 x23 x24 x25 x26 x27 x28 x29 x30 x33 x45 x46 x52 x53 x61 x62 x63 x65 x66 f1 f2 f3 q4 q5 q6 q7 f8 q9 q10 f11 m12_0 m12_1 m13_0 m13_1 m14_0 m14_1 m15_0 m15_1 f17 q31 f32 f34 f35 f36 f37 q38 f39 f40 f41 m42_0 m42_1 f43 f44 f47 f48 f49 f50 f51 q54 q55 q56 f57 q58 f59 f60 f64 p0 p1 hx16 hx18 hx19 hx21 hx22 hx26 hx28 hx29 hx30 hx33 hx46 hx52 hx53 hx61 hx62 hx63 hx65 hm12_0 hm12_1 hm13_0 hm13_1 hm14_0 hm14_1 hm15_0 hm15_1 hm42_0 hm42_1 (by first | assumption | exact gz_0)) (cwV 2 hts g_EM_then_EM_isStep rfl rfl rfl (by decide +kernel) ⟨Nat.le_of_ble_eq_true rfl, Nat.le_of_ble_eq_true rfl⟩) ⟨pu_bl, va_recv hK hP (ci := 9) (q0 := 0) rfl rfl, pu_in hP hK hD⟩ rfl rfl hl.1 rfl (lv_room (Nat.le_of_ble_eq_true rfl)) dX9_then_8 ⟨Nat.le_of_ble_eq_true rfl, Nat.le_of_ble_eq_true rfl⟩) hS (fun q _ h => hFc q h) hFc (fun r_1 u t H1 locs ht hvm hw hB hz1 hk1 hS => ?_)
  obtain ⟨z54_2, z46_3, z61_4, ⟨hP1, -, hD1⟩, hz46_3, hz61_4, xr_1_0⟩ := hB
  rw [ht] at hP1
  have hP := hP1
  have hD := pu_all hFc hD1
  clear hP1 hD1 hFc
  clear hk1 hz1 ht hvm
  generalize H1 = H at hP hS ⊢
  replace hsp := hsp.trans (slet_eq xr_1_0)
  rcases hw with ⟨rfl, hw⟩ | ⟨rfl, hn⟩
  · obtain ⟨n_5, hn_5, rfl, hst⟩ := hw
    replace hsp := hsp.trans (if_pos hst)
    replace hsp := hsp.trans (slet_eq (nI_cl (n := n_5) (by omega)))
    refine lv_if_eq (tgt := 29) hx hb dX9_then_11 (by decide) (fun z => absurd z (by decide)) (fun _ => ?_)
    refine lv_aload_n hx hb dX9_then_14 rfl (lv_at hl 0 rfl) ?_
    refine lv_iload_n hx hb dX9_then_15 rfl (lv_at hl 3 rfl) ?_
    refine va_calli (va_runV (As := [.int p2]) (rest := []) ⟨hx, hb, hml, hown, hts⟩ (c_EM_isClock l dC dI _ ad ck 0 x16 x18 x19 x20 x21 x22 x23 x24 x25 x26 x27 x28 x29 x30 x33 x45 z46_3 x52 x53 z61_4 x62 x63 x65 x66 f1 f2 f3 q4 q5 q6 q7 f8 q9 q10 f11 m12_0 m12_1 m13_0 m13_1 m14_0 m14_1 m15_0 m15_1 f17 q31 f32 f34 f35 f36 f37 q38 f39 f40 f41 m42_0 m42_1 f43 f44 f47 f48 f49 f50 f51 z54_2 q55 q56 f57 q58 f59 f60 f64 p2 hx16 hx18 hx19 hx21 hx22 hx26 hx28 hx29 hx30 hx33 hz46_3 hx52 hx53 hz61_4 hx62 hx63 hx65 hm12_0 hm12_1 hm13_0 hm13_1 hm14_0 hm14_1 hm15_0 hm15_1 hm42_0 hm42_1) (cwV 1 hts g_EM_then_EM_isClock rfl rfl rfl (by decide +kernel) ⟨Nat.le_of_ble_eq_true rfl, Nat.le_of_ble_eq_true rfl⟩) ⟨pu_bl, va_recv hK hP (ci := 9) (q0 := 0) rfl rfl, pu_in hP hK hD⟩ rfl rfl hl.1 rfl (lv_room (Nat.le_of_ble_eq_true rfl)) dX9_then_16 ⟨Nat.le_of_ble_eq_true rfl, Nat.le_of_ble_eq_true rfl⟩) hS (fun q _ h => pu_fr hS hA q h) (pu_fr hS hA) (fun r_6 u t H1 locs ht hvm hw hB hz1 hk1 hS => ?_)
    have hP := pu_keep hP hk1
    clear hk1 hz1 ht hvm
    generalize H1 = H at hP hS ⊢
    rcases hw with ⟨rfl, hw⟩ | ⟨rfl, hn⟩
    · obtain ⟨n_7, hn_7, en_7⟩ := hw
      replace hsp := hsp.trans (if_pos (in_c hn_7 ⟨by omega, by omega⟩ en_7))
      subst en_7
      replace hsp := hsp.trans (slet_eq (nI_cl (n := n_7) (by omega)))
      refine lv_if_eq (tgt := 29) hx hb dX9_then_19 (by decide) (fun z => absurd z (by decide)) (fun _ => ?_)
      refine lv_aload_n hx hb dX9_then_22 rfl (lv_at hl 0 rfl) ?_
      have hFc := pu_free hD hS hA
      refine va_calli (va_runV (As := []) (rest := []) ⟨hx, hb, hml, hown, hts⟩ (c_EM_laysLeast l dC dI _ ad ck 0 x16 x18 x19 x20 x21 x22 x23 x24 x25 x26 x27 x28 x29 x30 x33 x45 z46_3 x52 x53 z61_4 x62 x63 x65 x66 f1 f2 f3 q4 q5 q6 q7 f8 q9 q10 f11 m12_0 m12_1 m13_0 m13_1 m14_0 m14_1 m15_0 m15_1 f17 q31 f32 f34 f35 f36 f37 q38 f39 f40 f41 m42_0 m42_1 f43 f44 f47 f48 f49 f50 f51 z54_2 q55 q56 f57 q58 f59 f60 f64 hx16 hx18 hx19 hx21 hx22 hx26 hx28 hx29 hx30 hx33 hz46_3 hx52 hx53 hz61_4 hx62 hx63 hx65 hm12_0 hm12_1 hm13_0 hm13_1 hm14_0 hm14_1 hm15_0 hm15_1 hm42_0 hm42_1 (by first | assumption | omega)) (cwV 0 hts g_EM_then_EM_laysLeast rfl rfl rfl (by decide +kernel) ⟨Nat.le_of_ble_eq_true rfl, Nat.le_of_ble_eq_true rfl⟩) ⟨pu_bl, va_recv hK hP (ci := 9) (q0 := 0) rfl rfl, pu_in hP hK hD⟩ rfl rfl hl.1 rfl (lv_room (Nat.le_of_ble_eq_true rfl)) dX9_then_23 ⟨Nat.le_of_ble_eq_true rfl, Nat.le_of_ble_eq_true rfl⟩) hS (fun q _ h => hFc q h) hFc (fun r_8 u t H1 locs ht hvm hw hB hz1 hk1 hS => ?_)
      obtain ⟨z55_9, z56_10, z57_11, z58_12, z59_13, z62_14, z63_15, ⟨hP1, -, hD1⟩, hz62_14, hz63_15, xr_8_0⟩ := hB
      rw [ht] at hP1
      have hP := hP1
      have hD := pu_all hFc hD1
      clear hP1 hD1 hFc
      clear hk1 hz1 ht hvm
      generalize H1 = H at hP hS ⊢
      obtain ⟨u_16, hu_16, rfl, iu_16⟩ := hw
      have iu_16 : (u_16, z55_9, z56_10, z57_11, z58_12, z59_13, z62_14, z63_15) = (sp_EM_laysLeast x16 z61_4 f3 q4 q5 q6 q7 f8 q9 q10 f11 m12_0 m12_1 m13_0 m13_1 m14_0 m14_1 m15_0 m15_1 z54_2 q55 q56 f57 q58 f59) := Prod.ext iu_16 xr_8_0
      replace hsp := hsp.trans (slet_eq iu_16)
      refine lv_if_ne (tgt := 31) hx hb dX9_then_26 (by decide) (fun c_17 => ?_) (fun c_17 => ?_)
      · have c_17 : ¬ u_16 = 0 := fun z => c_17 ((nI_eq (a := u_16) (b := 0) (Nat.lt_of_le_of_lt hu_16 (Nat.le_of_ble_eq_true rfl)) (Nat.le_of_ble_eq_true rfl)).mpr z)
        replace hsp := hsp.trans (if_neg c_17)
        refine lv_iconst (v := 0) hx hb dX9_then_31 (by decide) ?_
        refine lv_istore (lv' := [(4, .int 0), (0, .ref (ad 0)), (1, .int p0), (2, .int (nI n_5)), (3, .int (nI n_7))]) hx hb dX9_then_32 hl (by decide) rfl (fun ls hl => ?_)
        refine lv_iconst (v := 0) hx hb dX9_then_34 (by decide) ?_
        refine lv_istore (lv' := [(5, .int 0), (4, .int 0), (0, .ref (ad 0)), (1, .int p0), (2, .int (nI n_5)), (3, .int (nI n_7))]) hx hb dX9_then_35 hl (by decide) rfl (fun ls hl => ?_)
        obtain ⟨lf_23, dlf_23, hlf_23, hsp⟩ := itr_ex hsp
        delta sp_EM_then_L1 at hlf_23
        refine pu_while (fun nn H locs ls => ∃ (g_20 : Nat) (g_21 : Nat), nn = 119 - g_21 ∧ g_20 ≤ 119 ∧ g_21 ≤ 119 ∧ RR = itrv dlf_23 lf_23 (g_20, g_21) ∧ va_P (dC, dI) vwCl (mo_w ad ck 0 (nI x16) (nI x18) (nI x19) x20 (nI x21) (nI x22) x23 x24 x25 (nI x26) x27 (nI x28) (nI x29) (nI x30) (nI x33) x45 (nI z46_3) (nI x52) (nI x53) (nI z61_4) (nI z62_14) (nI z63_15) (nI x65) x66 f1 f2 f3 (bN 3 q4) (bN 7 q5) (bN 7 q6) (bN 4 q7) f8 (bN 2 q9) (bH q10) f11 (b2 m12_0 m12_1) (b2 m13_0 m13_1) (b2 m14_0 m14_1) (b2m m15_0 m15_1) f17 (bA 159 q31) f32 f34 f35 f36 f37 (bN 7 q38) f39 f40 f41 (b2 m42_0 m42_1) f43 f44 f47 f48 f49 f50 f51 (bN 13 z54_2) (bN 120 z55_9) (bN 120 z56_10) z57_11 (bN 120 z58_12) z59_13 f60 f64) H ∧ va_D A (mo_w ad ck 0 (nI x16) (nI x18) (nI x19) x20 (nI x21) (nI x22) x23 x24 x25 (nI x26) x27 (nI x28) (nI x29) (nI x30) (nI x33) x45 (nI z46_3) (nI x52) (nI x53) (nI z61_4) (nI z62_14) (nI z63_15) (nI x65) x66 f1 f2 f3 (bN 3 q4) (bN 7 q5) (bN 7 q6) (bN 4 q7) f8 (bN 2 q9) (bH q10) f11 (b2 m12_0 m12_1) (b2 m13_0 m13_1) (b2 m14_0 m14_1) (b2m m15_0 m15_1) f17 (bA 159 q31) f32 f34 f35 f36 f37 (bN 7 q38) f39 f40 f41 (b2 m42_0 m42_1) f43 f44 f47 f48 f49 f50 f51 (bN 13 z54_2) (bN 120 z55_9) (bN 120 z56_10) z57_11 (bN 120 z58_12) z59_13 f60 f64) ∧ va_S A s.heap H locs ∧ lv_has ls 6 [(0, .ref (ad 0)), (1, .int p0), (2, .int (nI n_5)), (3, .int (nI n_7)), (4, .int (nI g_20)), (5, .int (nI g_21))]) 37 ?_ _ _ _ _ ⟨0, 0, rfl, (Nat.le_of_ble_eq_true rfl), (Nat.le_of_ble_eq_true rfl), hsp, hP, hD, hS, lv_sub hl [2, 3, 4, 5, 1, 0] rfl⟩
        rintro nn ih_22 H locs ls ⟨g_20, g_21, rfl, hg_20, hg_21, he_25, hP, hD, hS, hl⟩
        obtain ⟨S_24, hsp, hin_26, hout_27⟩ := itr_step hlf_23 he_25
        refine lv_iload hx hb dX9_then_37 (lv_at hl 5 rfl) ?_
        refine lv_iload_n hx hb dX9_then_39 rfl (lv_at hl 2 rfl) ?_
        refine lv_icmp_gt (tgt := 78) hx hb dX9_then_40 (by decide) (fun c_28 => ?_) (fun c_28 => ?_)
        · have c_28 : n_5 < g_21 := (nI_ltI (a := n_5) (b := g_21) (by omega) (Nat.lt_of_le_of_lt hg_21 (Nat.le_of_ble_eq_true rfl))).mp c_28
          replace hsp := hsp.trans (if_pos c_28)
          have hsp := hout_27 _ hsp
          refine lv_aload_n hx hb dX9_then_78 rfl (lv_at hl 0 rfl) ?_
          refine va_get (D := (dC, dI)) (ci := 9) (v := .ref (ad 59)) (C := RX9) (T := TX9) (N := 67) hx hb hts hiX9 hown hK hP 0 rfl rfl 59 (by decide) v_23 (fun _ h9 => h9) rfl dX9_then_79 ?_
          refine lv_iload_n hx hb dX9_then_82 rfl (lv_at hl 2 rfl) ?_
          refine lv_iconst (v := 1) hx hb dX9_then_83 (by decide) ?_
          refine lv_iadd hx hb dX9_then_84 ?_
          refine lv_topi (fun y_29 ey_29 => ?_)
          obtain rfl : y_29 = (nI (n_5 + 1)) := ey_29.trans (nI_add n_5 1)
          refine va_iald hx hb hK hP 40 39 rfl rfl (vp_in_nI (n := (n_5 + 1)) (by omega) (Nat.le_of_ble_eq_true rfl)) dX9_then_85 ?_
          refine lv_topi (fun y_30 ey_30 => ?_)
          have ey_30 : y_30 = z59_13 (n_5 + 1) := ey_30.trans (congrArg z59_13 (nI_clamp (n := (n_5 + 1)) (by omega)))
          replace hsp := hsp.trans (slet_eq ey_30)
          refine lv_aload_n hx hb dX9_then_86 rfl (lv_at hl 0 rfl) ?_
          refine va_get (D := (dC, dI)) (ci := 9) (v := .ref (ad 59)) (C := RX9) (T := TX9) (N := 67) hx hb hts hiX9 hown hK hP 0 rfl rfl 59 (by decide) v_23 (fun _ h9 => h9) rfl dX9_then_87 ?_
          refine lv_iload hx hb dX9_then_90 (lv_at hl 4 rfl) ?_
          refine va_iald hx hb hK hP 40 39 rfl rfl (vp_in_nI (n := g_20) (Nat.lt_of_le_of_lt hg_20 (Nat.le_of_ble_eq_true rfl)) (Nat.le_of_ble_eq_true rfl)) dX9_then_92 ?_
          refine lv_topi (fun y_31 ey_31 => ?_)
          have ey_31 : y_31 = z59_13 g_20 := ey_31.trans (congrArg z59_13 (nI_clamp (n := g_20) (Nat.lt_of_le_of_lt hg_20 (Nat.le_of_ble_eq_true rfl))))
          replace hsp := hsp.trans (slet_eq ey_31)
          refine lv_isub hx hb dX9_then_93 ?_
          refine lv_topi (fun y_32 ey_32 => ?_)
          replace hsp := hsp.trans (slet_eq ey_32)
          exact W.iret (v := y_32) hx hb hr (fun t ht hW => ⟨⟨y_32, (), rfl, (congrArg Prod.fst (hsp.symm.trans hRR)), ⟨z54_2, z55_9, z56_10, z57_11, z58_12, z59_13, 0, z46_3, z61_4, z62_14, z63_15, ⟨by rw [ht]; exact hP, va_K.moved hW.alike hK, hD⟩, hz46_3, hz61_4, hz62_14, hz63_15, (congrArg Prod.snd (hsp.symm.trans hRR))⟩⟩, hS.F ht⟩) hS.2.2 dX9_then_94
        · have c_28 : ¬ n_5 < g_21 := fun z => c_28 ((nI_ltI (a := n_5) (b := g_21) (by omega) (Nat.lt_of_le_of_lt hg_21 (Nat.le_of_ble_eq_true rfl))).mpr z)
          replace hsp := hsp.trans (if_neg c_28)
          refine lv_aload_n hx hb dX9_then_43 rfl (lv_at hl 0 rfl) ?_
          refine lv_aload_n hx hb dX9_then_44 rfl (lv_at hl 0 rfl) ?_
          refine va_get (D := (dC, dI)) (ci := 9) (v := .ref (ad 54)) (C := RX9) (T := TX9) (N := 67) hx hb hts hiX9 hown hK hP 0 rfl rfl 54 (by decide) v_15 (fun _ h9 => h9) rfl dX9_then_45 ?_
          refine lv_iload hx hb dX9_then_48 (lv_at hl 5 rfl) ?_
          refine va_iald hx hb hK hP 35 34 rfl rfl (vp_in_nI (n := g_21) (Nat.lt_of_le_of_lt hg_21 (Nat.le_of_ble_eq_true rfl)) (Nat.le_of_ble_eq_true rfl)) dX9_then_50 ?_
          refine lv_topi (fun y_33 ey_33 => ?_)
          obtain ⟨u_34, hu_34, qu_34, xu_34⟩ := bN_getx 13 z54_2 (n := g_21) (Nat.lt_of_le_of_lt hg_21 (Nat.le_of_ble_eq_true rfl))
          obtain rfl : y_33 = nI u_34 := ey_33.trans qu_34
          replace hsp := hsp.trans (slet_eq xu_34)
          refine va_calli (va_runV (As := [.int (nI u_34)]) (rest := []) ⟨hx, hb, hml, hown, hts⟩ (c_EM_setBy l dC dI _ ad ck 0 x16 x18 x19 x20 x21 x22 x23 x24 x25 x26 x27 x28 x29 x30 x33 x45 z46_3 x52 x53 z61_4 z62_14 z63_15 x65 x66 f1 f2 f3 q4 q5 q6 q7 f8 q9 q10 f11 m12_0 m12_1 m13_0 m13_1 m14_0 m14_1 m15_0 m15_1 f17 q31 f32 f34 f35 f36 f37 q38 f39 f40 f41 m42_0 m42_1 f43 f44 f47 f48 f49 f50 f51 z54_2 z55_9 z56_10 z57_11 z58_12 z59_13 f60 f64 u_34 hx16 hx18 hx19 hx21 hx22 hx26 hx28 hx29 hx30 hx33 hz46_3 hx52 hx53 hz61_4 hz62_14 hz63_15 hx65 hm12_0 hm12_1 hm13_0 hm13_1 hm14_0 hm14_1 hm15_0 hm15_1 hm42_0 hm42_1 hu_34) (cwV 1 hts g_EM_then_EM_setBy rfl rfl rfl (by decide +kernel) ⟨Nat.le_of_ble_eq_true rfl, Nat.le_of_ble_eq_true rfl⟩) ⟨pu_bl, va_recv hK hP (ci := 9) (q0 := 0) rfl rfl, pu_in hP hK hD⟩ rfl rfl hl.1 rfl (lv_room (Nat.le_of_ble_eq_true rfl)) dX9_then_51 ⟨Nat.le_of_ble_eq_true rfl, Nat.le_of_ble_eq_true rfl⟩) hS (fun q _ h => pu_fr hS hA q h) (pu_fr hS hA) (fun r_35 u t H1 locs ht hvm hw hB hz1 hk1 hS => ?_)
          have hP := pu_keep hP hk1
          clear hk1 hz1 ht hvm
          generalize H1 = H at hP hS ⊢
          have ir_35 := hw
          replace hsp := hsp.trans (slet_eq ir_35)
          refine lv_iload_n hx hb dX9_then_54 rfl (lv_at hl 3 rfl) ?_
          obtain ⟨JR_38, hJR_38, hsp⟩ := slet_ex hsp
          refine pu_join (fun H locs ls st => ∃ (g_36 : Nat), st = [.int (nI g_36)] ∧ g_36 ≤ 119 ∧ g_36 = JR_38 ∧ va_P (dC, dI) vwCl (mo_w ad ck 0 (nI x16) (nI x18) (nI x19) x20 (nI x21) (nI x22) x23 x24 x25 (nI x26) x27 (nI x28) (nI x29) (nI x30) (nI x33) x45 (nI z46_3) (nI x52) (nI x53) (nI z61_4) (nI z62_14) (nI z63_15) (nI x65) x66 f1 f2 f3 (bN 3 q4) (bN 7 q5) (bN 7 q6) (bN 4 q7) f8 (bN 2 q9) (bH q10) f11 (b2 m12_0 m12_1) (b2 m13_0 m13_1) (b2 m14_0 m14_1) (b2m m15_0 m15_1) f17 (bA 159 q31) f32 f34 f35 f36 f37 (bN 7 q38) f39 f40 f41 (b2 m42_0 m42_1) f43 f44 f47 f48 f49 f50 f51 (bN 13 z54_2) (bN 120 z55_9) (bN 120 z56_10) z57_11 (bN 120 z58_12) z59_13 f60 f64) H ∧ va_D A (mo_w ad ck 0 (nI x16) (nI x18) (nI x19) x20 (nI x21) (nI x22) x23 x24 x25 (nI x26) x27 (nI x28) (nI x29) (nI x30) (nI x33) x45 (nI z46_3) (nI x52) (nI x53) (nI z61_4) (nI z62_14) (nI z63_15) (nI x65) x66 f1 f2 f3 (bN 3 q4) (bN 7 q5) (bN 7 q6) (bN 4 q7) f8 (bN 2 q9) (bH q10) f11 (b2 m12_0 m12_1) (b2 m13_0 m13_1) (b2 m14_0 m14_1) (b2m m15_0 m15_1) f17 (bA 159 q31) f32 f34 f35 f36 f37 (bN 7 q38) f39 f40 f41 (b2 m42_0 m42_1) f43 f44 f47 f48 f49 f50 f51 (bN 13 z54_2) (bN 120 z55_9) (bN 120 z56_10) z57_11 (bN 120 z58_12) z59_13 f60 f64) ∧ va_S A s.heap H locs ∧ lv_has ls 6 [(0, .ref (ad 0)), (1, .int p0), (2, .int (nI n_5)), (3, .int (nI n_7)), (4, .int (nI g_20)), (5, .int (nI g_21))]) 70 ?_ (fun j_37 => ?_)
          · rintro H locs ls st ⟨g_36, rfl, hg_36, he_39, hP, hD, hS, hl⟩
            rw [← he_39] at hsp
            refine lv_istore (lv' := [(4, .int (nI g_36)), (0, .ref (ad 0)), (1, .int p0), (2, .int (nI n_5)), (3, .int (nI n_7)), (5, .int (nI g_21))]) hx hb dX9_then_70 hl (by decide) rfl (fun ls hl => ?_)
            refine lv_iinc (v := (nI (g_21 + 1))) (lv' := [(5, .int (nI (g_21 + 1))), (4, .int (nI g_36)), (0, .ref (ad 0)), (1, .int p0), (2, .int (nI n_5)), (3, .int (nI n_7))]) hx hb dX9_then_72 hl (k := 5) rfl (nI_1 _) (by decide) rfl (fun ls hl => ?_)
            refine lv_goto (tgt := 37) hx hb dX9_then_75 (by decide) ?_
            exact ih_22 (119 - (g_21 + 1)) (by omega) _ _ _ ⟨g_36, (g_21 + 1), rfl, hg_36, (by omega), hin_26 _ hsp, hP, hD, hS, lv_sub hl [2, 3, 4, 5, 1, 0] rfl⟩
          have hsp := hJR_38
          refine va_calli (va_runS (As := [.int r_35, .int (nI n_7)]) (rest := []) ⟨hx, hb, hml, hown, hts⟩ (c_EM_isOf l dC dI _ ad ck 0 x16 x18 x19 x20 x21 x22 x23 x24 x25 x26 x27 x28 x29 x30 x33 x45 z46_3 x52 x53 z61_4 z62_14 z63_15 x65 x66 f1 f2 f3 q4 q5 q6 q7 f8 q9 q10 f11 m12_0 m12_1 m13_0 m13_1 m14_0 m14_1 m15_0 m15_1 f17 q31 f32 f34 f35 f36 f37 q38 f39 f40 f41 m42_0 m42_1 f43 f44 f47 f48 f49 f50 f51 z54_2 z55_9 z56_10 z57_11 z58_12 z59_13 f60 f64 r_35 (nI n_7) hx16 hx18 hx19 hx21 hx22 hx26 hx28 hx29 hx30 hx33 hz46_3 hx52 hx53 hz61_4 hz62_14 hz63_15 hx65 hm12_0 hm12_1 hm13_0 hm13_1 hm14_0 hm14_1 hm15_0 hm15_1 hm42_0 hm42_1) (va_cwS 2 hts g_EM_then_EM_isOf rfl rfl rfl (by decide +kernel) ⟨Nat.le_of_ble_eq_true rfl, Nat.le_of_ble_eq_true rfl⟩) ⟨pu_bl, pu_in hP hK hD⟩ rfl rfl hl.1 rfl (lv_room (Nat.le_of_ble_eq_true rfl)) dX9_then_55 ⟨Nat.le_of_ble_eq_true rfl, Nat.le_of_ble_eq_true rfl⟩) hS (fun q _ h => pu_fr hS hA q h) (pu_fr hS hA) (fun r_40 u t H1 locs ht hvm hw hB hz1 hk1 hS => ?_)
          have hP := pu_keep hP hk1
          clear hk1 hz1 ht hvm
          generalize H1 = H at hP hS ⊢
          obtain ⟨u_41, hu_41, rfl, iu_41⟩ := hw
          replace hsp := hsp.trans (slet_eq iu_41)
          refine lv_if_eq (tgt := 68) hx hb dX9_then_58 (by decide) (fun c_42 => ?_) (fun c_42 => ?_)
          · have c_42 : u_41 = 0 := (nI_eq (a := u_41) (b := 0) (Nat.lt_of_le_of_lt hu_41 (Nat.le_of_ble_eq_true rfl)) (Nat.le_of_ble_eq_true rfl)).mp c_42
            replace hsp := hsp.trans (if_pos c_42)
            refine lv_iload hx hb dX9_then_68 (lv_at hl 4 rfl) ?_
            exact j_37 _ _ _ _ ⟨g_20, rfl, hg_20, hsp.symm, hP, hD, hS, lv_sub hl [0, 1, 2, 3, 4, 5] rfl⟩
          · have c_42 : ¬ u_41 = 0 := fun z => c_42 ((nI_eq (a := u_41) (b := 0) (Nat.lt_of_le_of_lt hu_41 (Nat.le_of_ble_eq_true rfl)) (Nat.le_of_ble_eq_true rfl)).mpr z)
            replace hsp := hsp.trans (if_neg c_42)
            refine lv_iload hx hb dX9_then_61 (lv_at hl 5 rfl) ?_
            refine lv_iconst (v := 1) hx hb dX9_then_63 (by decide) ?_
            refine lv_iadd hx hb dX9_then_64 ?_
            refine lv_topi (fun y_43 ey_43 => ?_)
            obtain rfl : y_43 = (nI (g_21 + 1)) := ey_43.trans (nI_add g_21 1)
            refine lv_goto (tgt := 70) hx hb dX9_then_65 (by decide) ?_
            exact j_37 _ _ _ _ ⟨(g_21 + 1), rfl, (by omega), hsp.symm, hP, hD, hS, lv_sub hl [0, 1, 2, 3, 4, 5] rfl⟩
      · have c_17 : u_16 = 0 := (nI_eq (a := u_16) (b := 0) (Nat.lt_of_le_of_lt hu_16 (Nat.le_of_ble_eq_true rfl)) (Nat.le_of_ble_eq_true rfl)).mp c_17
        replace hsp := hsp.trans (if_pos c_17)
        refine lv_iconst (v := (-1)) hx hb dX9_then_29 (by decide) ?_
        exact W.iret (v := (-1)) hx hb hr (fun t ht hW => ⟨⟨(-1), (), rfl, (congrArg Prod.fst (hsp.symm.trans hRR)), ⟨z54_2, z55_9, z56_10, z57_11, z58_12, z59_13, 0, z46_3, z61_4, z62_14, z63_15, ⟨by rw [ht]; exact hP, va_K.moved hW.alike hK, hD⟩, hz46_3, hz61_4, hz62_14, hz63_15, (congrArg Prod.snd (hsp.symm.trans hRR))⟩⟩, hS.F ht⟩) hS.2.2 dX9_then_30
    · replace hsp := hsp.trans (if_neg hn)
      refine lv_if_eq (tgt := 29) hx hb dX9_then_19 (by decide) (fun _ => ?_) (fun z => absurd z (by decide))
      refine lv_iconst (v := (-1)) hx hb dX9_then_29 (by decide) ?_
      exact W.iret (v := (-1)) hx hb hr (fun t ht hW => ⟨⟨(-1), (), rfl, (congrArg Prod.fst (hsp.symm.trans hRR)), ⟨z54_2, q55, q56, f57, q58, f59, 0, z46_3, z61_4, x62, x63, ⟨by rw [ht]; exact hP, va_K.moved hW.alike hK, hD⟩, hz46_3, hz61_4, hx62, hx63, (congrArg Prod.snd (hsp.symm.trans hRR))⟩⟩, hS.F ht⟩) hS.2.2 dX9_then_30
  · replace hsp := hsp.trans (if_neg hn)
    refine lv_if_eq (tgt := 29) hx hb dX9_then_11 (by decide) (fun _ => ?_) (fun z => absurd z (by decide))
    refine lv_iconst (v := (-1)) hx hb dX9_then_29 (by decide) ?_
    exact W.iret (v := (-1)) hx hb hr (fun t ht hW => ⟨⟨(-1), (), rfl, (congrArg Prod.fst (hsp.symm.trans hRR)), ⟨z54_2, q55, q56, f57, q58, f59, 0, z46_3, z61_4, x62, x63, ⟨by rw [ht]; exact hP, va_K.moved hW.alike hK, hD⟩, hz46_3, hz61_4, hx62, hx63, (congrArg Prod.snd (hsp.symm.trans hRR))⟩⟩, hS.F ht⟩) hS.2.2 dX9_then_30
theorem dX9_latest_0 : decode cX9_latest 0 = .ok (.aload_n 0, 1) := by decide +kernel
theorem dX9_latest_1 : decode cX9_latest 1 = .ok (.iconst 0, 1) := by decide +kernel
theorem dX9_latest_2 : decode cX9_latest 2 = .ok (.putfield 142, 3) := by decide +kernel
theorem dX9_latest_5 : decode cX9_latest 5 = .ok (.iload_n 3, 1) := by decide +kernel
theorem dX9_latest_6 : decode cX9_latest 6 = .ok (.iconst 0, 1) := by decide +kernel
theorem dX9_latest_7 : decode cX9_latest 7 = .ok (.sipush 1000, 3) := by decide +kernel
theorem dX9_latest_10 : decode cX9_latest 10 = .ok (.invokestatic 152, 3) := by decide +kernel
theorem dX9_latest_13 : decode cX9_latest 13 = .ok (.ifCond .eq 35, 3) := by decide +kernel
theorem dX9_latest_16 : decode cX9_latest 16 = .ok (.aload_n 0, 1) := by decide +kernel
theorem dX9_latest_17 : decode cX9_latest 17 = .ok (.iload_n 1, 1) := by decide +kernel
theorem dX9_latest_18 : decode cX9_latest 18 = .ok (.iload_n 2, 1) := by decide +kernel
theorem dX9_latest_19 : decode cX9_latest 19 = .ok (.invokevirtual 454, 3) := by decide +kernel
theorem dX9_latest_22 : decode cX9_latest 22 = .ok (.ifCond .eq 26, 3) := by decide +kernel
theorem dX9_latest_25 : decode cX9_latest 25 = .ok (.aload_n 0, 1) := by decide +kernel
theorem dX9_latest_26 : decode cX9_latest 26 = .ok (.sipush 256, 3) := by decide +kernel
theorem dX9_latest_29 : decode cX9_latest 29 = .ok (.iload_n 3, 1) := by decide +kernel
theorem dX9_latest_30 : decode cX9_latest 30 = .ok (.imul, 1) := by decide +kernel
theorem dX9_latest_31 : decode cX9_latest 31 = .ok (.invokevirtual 460, 3) := by decide +kernel
theorem dX9_latest_34 : decode cX9_latest 34 = .ok (.ifCond .eq 14, 3) := by decide +kernel
theorem dX9_latest_37 : decode cX9_latest 37 = .ok (.aload_n 0, 1) := by decide +kernel
theorem dX9_latest_38 : decode cX9_latest 38 = .ok (.getfield 133, 3) := by decide +kernel
theorem dX9_latest_41 : decode cX9_latest 41 = .ok (.iload_n 2, 1) := by decide +kernel
theorem dX9_latest_42 : decode cX9_latest 42 = .ok (.iconst 1, 1) := by decide +kernel
theorem dX9_latest_43 : decode cX9_latest 43 = .ok (.iadd, 1) := by decide +kernel
theorem dX9_latest_44 : decode cX9_latest 44 = .ok (.iaload, 1) := by decide +kernel
theorem dX9_latest_45 : decode cX9_latest 45 = .ok (.goto 4, 3) := by decide +kernel
theorem dX9_latest_48 : decode cX9_latest 48 = .ok (.iconst (-1), 1) := by decide +kernel
theorem dX9_latest_49 : decode cX9_latest 49 = .ok (.ireturn, 1) := by decide +kernel
abbrev vs_EM_latest : List Cond := .code yX9_latest cX9_latest 4 (some .int) :: VM
theorem g_EM_latest_X9_in : GoodIn vs_EM_latest (va_wsS RX9 152 yX9_in vs_X9_in) := gm_0 (fun w h => by
  rcases List.mem_cons.mp h with rfl | h
  · exact vm_137
  rcases List.mem_cons.mp h with rfl | h
  · exact vm_138
  rcases List.mem_cons.mp h with rfl | h
  · exact vm_19
  rcases List.mem_cons.mp h with rfl | h
  · exact vm_139
  exact absurd h (List.not_mem_nil))
theorem g_EM_latest_EM_isStep : GoodIn vs_EM_latest (wsV RX9 454 RX9 yX9_isStep vs_EM_isStep) := gm_V vm_332 vm_333 vm_334 vm_19 vm_335
theorem g_EM_latest_EM_laysGreatest : GoodIn vs_EM_latest (wsV RX9 460 RX9 yX9_laysGreatest vs_EM_laysGreatest) := gm_V vm_340 vm_341 vm_342 vm_19 vm_343
noncomputable def sp_EM_latest (x16 : Nat) (x29 : Nat) (x46 : Nat) (x61 : Nat) (x62 : Nat) (x63 : Nat) (f3 : Nat → Int32) (q4 : Nat → Nat) (q5 : Nat → Nat) (q6 : Nat → Nat) (q7 : Nat → Nat) (f8 : Nat → Int32) (q9 : Nat → Nat) (q10 : Nat → Nat) (f11 : Nat → Int32) (m12_0 : Nat) (m12_1 : Nat) (m13_0 : Nat) (m13_1 : Nat) (m14_0 : Nat) (m14_1 : Nat) (m15_0 : Nat) (m15_1 : Nat) (f39 : Nat → Int32) (f40 : Nat → Int32) (f41 : Nat → Int32) (m42_0 : Nat) (q54 : Nat → Nat) (q55 : Nat → Nat) (q56 : Nat → Nat) (f57 : Nat → Int32) (q58 : Nat → Nat) (f59 : Nat → Int32) (p0 : Int32) (p1 : Int32) (p2 : Int32) : Int32 × (Nat → Nat) × (Nat → Nat) × (Nat → Nat) × (Nat → Int32) × (Nat → Nat) × (Nat → Int32) × Int32 × Nat × Nat × Nat × Nat := (if (0 : Int32) ≤ p2 ∧ p2 ≤ 1000 then (slet ((p2 : Int32).toNatClampNeg) (fun n_2 => (slet (sp_EM_isStep x16 x29 x61 m12_0 m12_1 f39 f40 f41 m42_0 q54 p0 p1) (fun (z54_4, z46_5, z61_6) => (if isStp x29 m42_0 f41 p0 p1 then (slet ((p1 : Int32).toNatClampNeg) (fun n_7 => (slet (sp_EM_laysGreatest x16 z61_6 f3 q4 q5 q6 q7 f8 q9 q10 f11 m12_0 m12_1 m13_0 m13_1 m14_0 m14_1 m15_0 m15_1 z54_4 q55 q56 f57 q58 f59 (nI (256 * n_2))) (fun (u_17, z55_10, z56_11, z57_12, z58_13, z59_14, z62_15, z63_16) => (if u_17 = 0 then ((-1), z54_4, z55_10, z56_11, z57_12, z58_13, z59_14, 0, z46_5, z61_6, z62_15, z63_16) else (slet (z59_14 (n_7 + 1)) (fun y_20 => (y_20, z54_4, z55_10, z56_11, z57_12, z58_13, z59_14, 0, z46_5, z61_6, z62_15, z63_16)))))))) else ((-1), z54_4, q55, q56, f57, q58, f59, 0, z46_5, z61_6, x62, x63)))))) else ((-1), q54, q55, q56, f57, q58, f59, 0, x46, x61, x62, x63))
set_option maxHeartbeats 4000000 in
set_option maxRecDepth 100000 in
theorem c_EM_latest (l : Launch) (dC : Nat → ClassId) (dI : Nat → Nat → Nat) (sz : Nat) (ad : Nat → Nat) (ck : Nat → ClassId) (x0 : Int32) (x16 : Nat) (x18 : Nat) (x19 : Nat) (x20 : Int32) (x21 : Nat) (x22 : Nat) (x23 : Int32) (x24 : Int32) (x25 : Int32) (x26 : Nat) (x27 : Int32) (x28 : Nat) (x29 : Nat) (x30 : Nat) (x33 : Nat) (x45 : Int32) (x46 : Nat) (x52 : Nat) (x53 : Nat) (x61 : Nat) (x62 : Nat) (x63 : Nat) (x65 : Nat) (x66 : Int32) (f1 : Nat → Int32) (f2 : Nat → Int32) (f3 : Nat → Int32) (q4 : Nat → Nat) (q5 : Nat → Nat) (q6 : Nat → Nat) (q7 : Nat → Nat) (f8 : Nat → Int32) (q9 : Nat → Nat) (q10 : Nat → Nat) (f11 : Nat → Int32) (m12_0 m12_1 : Nat) (m13_0 m13_1 : Nat) (m14_0 m14_1 : Nat) (m15_0 m15_1 : Nat) (f17 : Nat → Int32) (q31 : Nat → Nat) (f32 : Nat → Int32) (f34 : Nat → Int32) (f35 : Nat → Int32) (f36 : Nat → Int32) (f37 : Nat → Int32) (q38 : Nat → Nat) (f39 : Nat → Int32) (f40 : Nat → Int32) (f41 : Nat → Int32) (m42_0 m42_1 : Nat) (f43 : Nat → Int32) (f44 : Nat → Int32) (f47 : Nat → Int32) (f48 : Nat → Int32) (f49 : Nat → Int32) (f50 : Nat → Int32) (f51 : Nat → Int32) (q54 : Nat → Nat) (q55 : Nat → Nat) (q56 : Nat → Nat) (f57 : Nat → Int32) (q58 : Nat → Nat) (f59 : Nat → Int32) (f60 : Nat → Int32) (f64 : Nat → Int32) (p0 : Int32) (p1 : Int32) (p2 : Int32) (hx16 : x16 ≤ 1) (hx18 : x18 ≤ 900) (hx19 : x19 ≤ 900) (hx21 : x21 ≤ 900) (hx22 : x22 ≤ 4) (hx26 : x26 ≤ 6) (hx28 : x28 ≤ 1) (hx29 : x29 ≤ 1) (hx30 : x30 ≤ 1) (hx33 : x33 ≤ 20) (hx46 : x46 ≤ 5) (hx52 : x52 ≤ 2400) (hx53 : x53 ≤ 119) (hx61 : x61 ≤ 119) (hx62 : x62 ≤ 2000) (hx63 : x63 ≤ 1) (hx65 : x65 ≤ 7) (hm12_0 : m12_0 ≤ 3) (hm12_1 : m12_1 ≤ 3) (hm13_0 : m13_0 ≤ 8) (hm13_1 : m13_1 ≤ 8) (hm14_0 : m14_0 ≤ 14) (hm14_1 : m14_1 ≤ 14) (hm15_0 : m15_0 ≤ 8) (hm15_1 : m15_1 ≤ 8) (hm42_0 : m42_0 ≤ 120) (hm42_1 : m42_1 ≤ 400) (hbg : (x16 = 0 ∧ (m13_0 = 0 ∨ 1 ≤ m15_0)) ∨ (x16 = 1 ∧ (m13_1 = 0 ∨ 1 ≤ m15_1))) (hgr : gz_ok m42_0 f39 f40 f41) : Met l yX9_latest vs_EM_latest ({ frames := 6, cells := 0, slots := 0, locals := 138 }) (va_Pc [.ref (ad 0), .int p0, .int p1, .int p2] (pu_B (dC, dI) (mo_w ad ck x0 (nI x16) (nI x18) (nI x19) x20 (nI x21) (nI x22) x23 x24 x25 (nI x26) x27 (nI x28) (nI x29) (nI x30) (nI x33) x45 (nI x46) (nI x52) (nI x53) (nI x61) (nI x62) (nI x63) (nI x65) x66 f1 f2 f3 (bN 3 q4) (bN 7 q5) (bN 7 q6) (bN 4 q7) f8 (bN 2 q9) (bH q10) f11 (b2 m12_0 m12_1) (b2 m13_0 m13_1) (b2 m14_0 m14_1) (b2m m15_0 m15_1) f17 (bA 159 q31) f32 f34 f35 f36 f37 (bN 7 q38) f39 f40 f41 (b2 m42_0 m42_1) f43 f44 f47 f48 f49 f50 f51 (bN 13 q54) (bN 120 q55) (bN 120 q56) f57 (bN 120 q58) f59 f60 f64) (mo_t ck) sz)) (va_Qi (fun (r : Int32) (_ : Unit) => r = (sp_EM_latest x16 x29 x46 x61 x62 x63 f3 q4 q5 q6 q7 f8 q9 q10 f11 m12_0 m12_1 m13_0 m13_1 m14_0 m14_1 m15_0 m15_1 f39 f40 f41 m42_0 q54 q55 q56 f57 q58 f59 p0 p1 p2).1) (fun _ t => ∃ (z54 : Nat → Nat) (z55 : Nat → Nat) (z56 : Nat → Nat) (z57 : Nat → Int32) (z58 : Nat → Nat) (z59 : Nat → Int32) (z0 : Int32) (z46 : Nat) (z61 : Nat) (z62 : Nat) (z63 : Nat), pu_E (dC, dI) (mo_w ad ck z0 (nI x16) (nI x18) (nI x19) x20 (nI x21) (nI x22) x23 x24 x25 (nI x26) x27 (nI x28) (nI x29) (nI x30) (nI x33) x45 (nI z46) (nI x52) (nI x53) (nI z61) (nI z62) (nI z63) (nI x65) x66 f1 f2 f3 (bN 3 q4) (bN 7 q5) (bN 7 q6) (bN 4 q7) f8 (bN 2 q9) (bH q10) f11 (b2 m12_0 m12_1) (b2 m13_0 m13_1) (b2 m14_0 m14_1) (b2m m15_0 m15_1) f17 (bA 159 q31) f32 f34 f35 f36 f37 (bN 7 q38) f39 f40 f41 (b2 m42_0 m42_1) f43 f44 f47 f48 f49 f50 f51 (bN 13 z54) (bN 120 z55) (bN 120 z56) z57 (bN 120 z58) z59 f60 f64) (mo_t ck) (va_A ((mo_w ad ck x0 (nI x16) (nI x18) (nI x19) x20 (nI x21) (nI x22) x23 x24 x25 (nI x26) x27 (nI x28) (nI x29) (nI x30) (nI x33) x45 (nI x46) (nI x52) (nI x53) (nI x61) (nI x62) (nI x63) (nI x65) x66 f1 f2 f3 (bN 3 q4) (bN 7 q5) (bN 7 q6) (bN 4 q7) f8 (bN 2 q9) (bH q10) f11 (b2 m12_0 m12_1) (b2 m13_0 m13_1) (b2 m14_0 m14_1) (b2m m15_0 m15_1) f17 (bA 159 q31) f32 f34 f35 f36 f37 (bN 7 q38) f39 f40 f41 (b2 m42_0 m42_1) f43 f44 f47 f48 f49 f50 f51 (bN 13 q54) (bN 120 q55) (bN 120 q56) f57 (bN 120 q58) f59 f60 f64)) sz) t ∧ (z46 ≤ 5) ∧ (z61 ≤ 119) ∧ (z62 ≤ 2000) ∧ (z63 ≤ 1) ∧ ((z54, z55, z56, z57, z58, z59, z0, z46, z61, z62, z63) = (sp_EM_latest x16 x29 x46 x61 x62 x63 f3 q4 q5 q6 q7 f8 q9 q10 f11 m12_0 m12_1 m13_0 m13_1 m14_0 m14_1 m15_0 m15_1 f39 f40 f41 m42_0 q54 q55 q56 f57 q58 f59 p0 p1 p2).2)) (va_A ((mo_w ad ck x0 (nI x16) (nI x18) (nI x19) x20 (nI x21) (nI x22) x23 x24 x25 (nI x26) x27 (nI x28) (nI x29) (nI x30) (nI x33) x45 (nI x46) (nI x52) (nI x53) (nI x61) (nI x62) (nI x63) (nI x65) x66 f1 f2 f3 (bN 3 q4) (bN 7 q5) (bN 7 q6) (bN 4 q7) f8 (bN 2 q9) (bH q10) f11 (b2 m12_0 m12_1) (b2 m13_0 m13_1) (b2 m14_0 m14_1) (b2m m15_0 m15_1) f17 (bA 159 q31) f32 f34 f35 f36 f37 (bN 7 q38) f39 f40 f41 (b2 m42_0 m42_1) f43 f44 f47 f48 f49 f50 f51 (bN 13 q54) (bN 120 q55) (bN 120 q56) f57 (bN 120 q58) f59 f60 f64)) sz)) 0 0 (va_A ((mo_w ad ck x0 (nI x16) (nI x18) (nI x19) x20 (nI x21) (nI x22) x23 x24 x25 (nI x26) x27 (nI x28) (nI x29) (nI x30) (nI x33) x45 (nI x46) (nI x52) (nI x53) (nI x61) (nI x62) (nI x63) (nI x65) x66 f1 f2 f3 (bN 3 q4) (bN 7 q5) (bN 7 q6) (bN 4 q7) f8 (bN 2 q9) (bH q10) f11 (b2 m12_0 m12_1) (b2 m13_0 m13_1) (b2 m14_0 m14_1) (b2m m15_0 m15_1) f17 (bA 159 q31) f32 f34 f35 f36 f37 (bN 7 q38) f39 f40 f41 (b2 m42_0 m42_1) f43 f44 f47 f48 f49 f50 f51 (bN 13 q54) (bN 120 q55) (bN 120 q56) f57 (bN 120 q58) f59 f60 f64)) sz) := by
  refine Met.ofW (cc := cX9_latest) (maxL := 4) (ret := (some .int)) (by decide) rfl ?_
  intro p e s m args below meth c s₁ B hml hv
  obtain ⟨rfl, rfl, hP, hK, hD0⟩ := hv
  have hx := B.exec
  have hb := B.bytes
  have hr := B.returns
  have hts := atoms_spec (ws := vs_EM_latest) B.pre
  have v_1 := hts (.fieldLink RX9 142 "ClockReachModel" "thrown" "I") (List.mem_cons_of_mem _ vm_5)
  have v_14 := hts (.fieldLink RX9 133 "ClockReachModel" "time" "[I") (List.mem_cons_of_mem _ vm_326)
  have hown : s.vm.findClass RX9 = some m.cls := findClass_of_methodNamed B.named
  have hlocks := B.notSynchronized
  have hiX9 : ∀ w ∈ wsX90, w ∈ vs_EM_latest := fun _ h => List.mem_cons_of_mem _ (vmi_L h)
  have hD := hD0.self (sz := s.heap.size)
  generalize hAe : va_A ((mo_w ad ck x0 (nI x16) (nI x18) (nI x19) x20 (nI x21) (nI x22) x23 x24 x25 (nI x26) x27 (nI x28) (nI x29) (nI x30) (nI x33) x45 (nI x46) (nI x52) (nI x53) (nI x61) (nI x62) (nI x63) (nI x65) x66 f1 f2 f3 (bN 3 q4) (bN 7 q5) (bN 7 q6) (bN 4 q7) f8 (bN 2 q9) (bH q10) f11 (b2 m12_0 m12_1) (b2 m13_0 m13_1) (b2 m14_0 m14_1) (b2m m15_0 m15_1) f17 (bA 159 q31) f32 f34 f35 f36 f37 (bN 7 q38) f39 f40 f41 (b2 m42_0 m42_1) f43 f44 f47 f48 f49 f50 f51 (bN 13 q54) (bN 120 q55) (bN 120 q56) f57 (bN 120 q58) f59 f60 f64)) s.heap.size = A at hD ⊢
  have hA : ∀ q : Nat, s.heap.size ≤ q → A q := fun q h => by rw [← hAe]; exact Or.inr h
  have hS : va_S A s.heap s.heap [] := va_S.rf
  have hl := lv_entry ([.ref (ad 0), .int p0, .int p1, .int p2]) (n := 4) (Nat.le_of_ble_eq_true rfl)
  rw [lg_entry_eq]
  generalize (lg_sl ([.ref (ad 0), .int p0, .int p1, .int p2]) ++ List.replicate (4 - (lg_sl ([.ref (ad 0), .int p0, .int p1, .int p2])).length) Slot.unset).toArray = ls at hl ⊢
  have hl : lv_has ls 4 [(0, .ref (ad 0)), (1, .int p0), (2, .int p1), (3, .int p2)] := hl
  obtain ⟨RR, hRR⟩ : ∃ x, x = (sp_EM_latest x16 x29 x46 x61 x62 x63 f3 q4 q5 q6 q7 f8 q9 q10 f11 m12_0 m12_1 m13_0 m13_1 m14_0 m14_1 m15_0 m15_1 f39 f40 f41 m42_0 q54 q55 q56 f57 q58 f59 p0 p1 p2) := ⟨_, rfl⟩
  have hsp := hRR
  refine lv_aload_n hx hb dX9_latest_0 rfl (lv_at hl 0 rfl) ?_
  refine lv_iconst (v := 0) hx hb dX9_latest_1 (by decide) ?_
  refine va_put (D := (dC, dI)) (ci := 9) (v := .int 0) (ty := .int) (C := RX9) (T := TX9) (N := 67) hx hb hts hiX9 tyX9 tyX9_ok nmX9 hown hK hP hD hS 0 rfl rfl 0 (by decide) v_1 (fun _ h9 => h9) rfl (by decide +kernel) rfl rfl (Nat.le_of_ble_eq_true rfl) dX9_latest_2 (fun H locs hP hD hS => ?_)
  have hP : va_P (dC, dI) vwCl (mo_w ad ck 0 (nI x16) (nI x18) (nI x19) x20 (nI x21) (nI x22) x23 x24 x25 (nI x26) x27 (nI x28) (nI x29) (nI x30) (nI x33) x45 (nI x46) (nI x52) (nI x53) (nI x61) (nI x62) (nI x63) (nI x65) x66 f1 f2 f3 (bN 3 q4) (bN 7 q5) (bN 7 q6) (bN 4 q7) f8 (bN 2 q9) (bH q10) f11 (b2 m12_0 m12_1) (b2 m13_0 m13_1) (b2 m14_0 m14_1) (b2m m15_0 m15_1) f17 (bA 159 q31) f32 f34 f35 f36 f37 (bN 7 q38) f39 f40 f41 (b2 m42_0 m42_1) f43 f44 f47 f48 f49 f50 f51 (bN 13 q54) (bN 120 q55) (bN 120 q56) f57 (bN 120 q58) f59 f60 f64) H := hP
  have hD : va_D A (mo_w ad ck 0 (nI x16) (nI x18) (nI x19) x20 (nI x21) (nI x22) x23 x24 x25 (nI x26) x27 (nI x28) (nI x29) (nI x30) (nI x33) x45 (nI x46) (nI x52) (nI x53) (nI x61) (nI x62) (nI x63) (nI x65) x66 f1 f2 f3 (bN 3 q4) (bN 7 q5) (bN 7 q6) (bN 4 q7) f8 (bN 2 q9) (bH q10) f11 (b2 m12_0 m12_1) (b2 m13_0 m13_1) (b2 m14_0 m14_1) (b2m m15_0 m15_1) f17 (bA 159 q31) f32 f34 f35 f36 f37 (bN 7 q38) f39 f40 f41 (b2 m42_0 m42_1) f43 f44 f47 f48 f49 f50 f51 (bN 13 q54) (bN 120 q55) (bN 120 q56) f57 (bN 120 q58) f59 f60 f64) := hD
  refine lv_iload_n hx hb dX9_latest_5 rfl (lv_at hl 3 rfl) ?_
  refine lv_iconst (v := 0) hx hb dX9_latest_6 (by decide) ?_
  refine lv_sipush (v := 1000) hx hb dX9_latest_7 (by decide) ?_
  refine va_calli (va_runS (As := [.int p2, .int 0, .int 1000]) (rest := []) ⟨hx, hb, hml, hown, hts⟩ (c_X9_in l dC dI _ p2 0 1000) (va_cwS 3 hts g_EM_latest_X9_in rfl rfl rfl (by decide +kernel) ⟨Nat.le_of_ble_eq_true rfl, Nat.le_of_ble_eq_true rfl⟩) ⟨pu_bl, pu_in (hP.sub [] rfl) (hK.sub [] rfl) (hD.sub [] (by decide) rfl)⟩ rfl rfl hl.1 rfl (lv_room (Nat.le_of_ble_eq_true rfl)) dX9_latest_10 ⟨Nat.le_of_ble_eq_true rfl, Nat.le_of_ble_eq_true rfl⟩) hS (fun q _ h => pu_fr hS hA q h) (pu_fr hS hA) (fun r_1 u t H1 locs ht hvm hw hB hz1 hk1 hS => ?_)
  have hP := pu_keep hP hk1
  clear hk1 hz1 ht hvm
  generalize H1 = H at hP hS ⊢
  rcases hw with ⟨rfl, hi1, hi2⟩ | ⟨rfl, hi3⟩
  · replace hsp := hsp.trans (if_pos ⟨hi1, hi2⟩)
    obtain ⟨n_2, hn_2, rfl⟩ := pu_in0 (n := 1000) (by omega) hi1 hi2
    replace hsp := hsp.trans (slet_eq (nI_cl (n := n_2) (by omega)))
    refine lv_if_eq (tgt := 48) hx hb dX9_latest_13 (by decide) (fun z => absurd z (by decide)) (fun _ => ?_)
    refine lv_aload_n hx hb dX9_latest_16 rfl (lv_at hl 0 rfl) ?_
    refine lv_iload_n hx hb dX9_latest_17 rfl (lv_at hl 1 rfl) ?_
    refine lv_iload_n hx hb dX9_latest_18 rfl (lv_at hl 2 rfl) ?_
    have hFc := pu_free hD hS hA
    refine va_calli (va_runV (As := [.int p0, .int p1]) (rest := []) ⟨hx, hb, hml, hown, hts⟩ (c_EM_isStep l dC dI _ ad ck 0 x16 x18 x19 x20 x21 x22 x23 x24 x25 x26 x27 x28 x29 x30 x33 x45 x46 x52 x53 x61 x62 x63 x65 x66 f1 f2 f3 q4 q5 q6 q7 f8 q9 q10 f11 m12_0 m12_1 m13_0 m13_1 m14_0 m14_1 m15_0 m15_1 f17 q31 f32 f34 f35 f36 f37 q38 f39 f40 f41 m42_0 m42_1 f43 f44 f47 f48 f49 f50 f51 q54 q55 q56 f57 q58 f59 f60 f64 p0 p1 hx16 hx18 hx19 hx21 hx22 hx26 hx28 hx29 hx30 hx33 hx46 hx52 hx53 hx61 hx62 hx63 hx65 hm12_0 hm12_1 hm13_0 hm13_1 hm14_0 hm14_1 hm15_0 hm15_1 hm42_0 hm42_1 (by first | assumption | exact gz_0)) (cwV 2 hts g_EM_latest_EM_isStep rfl rfl rfl (by decide +kernel) ⟨Nat.le_of_ble_eq_true rfl, Nat.le_of_ble_eq_true rfl⟩) ⟨pu_bl, va_recv hK hP (ci := 9) (q0 := 0) rfl rfl, pu_in hP hK hD⟩ rfl rfl hl.1 rfl (lv_room (Nat.le_of_ble_eq_true rfl)) dX9_latest_19 ⟨Nat.le_of_ble_eq_true rfl, Nat.le_of_ble_eq_true rfl⟩) hS (fun q _ h => hFc q h) hFc (fun r_3 u t H1 locs ht hvm hw hB hz1 hk1 hS => ?_)
    obtain ⟨z54_4, z46_5, z61_6, ⟨hP1, -, hD1⟩, hz46_5, hz61_6, xr_3_0⟩ := hB
    rw [ht] at hP1
    have hP := hP1
    have hD := pu_all hFc hD1
    clear hP1 hD1 hFc
    clear hk1 hz1 ht hvm
    generalize H1 = H at hP hS ⊢
    replace hsp := hsp.trans (slet_eq xr_3_0)
    rcases hw with ⟨rfl, hw⟩ | ⟨rfl, hn⟩
    · obtain ⟨n_7, hn_7, rfl, hst⟩ := hw
      replace hsp := hsp.trans (if_pos hst)
      replace hsp := hsp.trans (slet_eq (nI_cl (n := n_7) (by omega)))
      refine lv_if_eq (tgt := 48) hx hb dX9_latest_22 (by decide) (fun z => absurd z (by decide)) (fun _ => ?_)
      refine lv_aload_n hx hb dX9_latest_25 rfl (lv_at hl 0 rfl) ?_
      refine lv_sipush (v := 256) hx hb dX9_latest_26 (by decide) ?_
      refine lv_iload_n hx hb dX9_latest_29 rfl (lv_at hl 3 rfl) ?_
      refine lv_imul hx hb dX9_latest_30 ?_
      refine lv_topi (fun y_8 ey_8 => ?_)
      obtain rfl : y_8 = (nI (256 * n_2)) := ey_8.trans (pk_mul 256 n_2)
      have hFc := pu_free hD hS hA
      refine va_calli (va_runV (As := [.int (nI (256 * n_2))]) (rest := []) ⟨hx, hb, hml, hown, hts⟩ (c_EM_laysGreatest l dC dI _ ad ck 0 x16 x18 x19 x20 x21 x22 x23 x24 x25 x26 x27 x28 x29 x30 x33 x45 z46_5 x52 x53 z61_6 x62 x63 x65 x66 f1 f2 f3 q4 q5 q6 q7 f8 q9 q10 f11 m12_0 m12_1 m13_0 m13_1 m14_0 m14_1 m15_0 m15_1 f17 q31 f32 f34 f35 f36 f37 q38 f39 f40 f41 m42_0 m42_1 f43 f44 f47 f48 f49 f50 f51 z54_4 q55 q56 f57 q58 f59 f60 f64 (nI (256 * n_2)) hx16 hx18 hx19 hx21 hx22 hx26 hx28 hx29 hx30 hx33 hz46_5 hx52 hx53 hz61_6 hx62 hx63 hx65 hm12_0 hm12_1 hm13_0 hm13_1 hm14_0 hm14_1 hm15_0 hm15_1 hm42_0 hm42_1 (by first | assumption | omega)) (cwV 1 hts g_EM_latest_EM_laysGreatest rfl rfl rfl (by decide +kernel) ⟨Nat.le_of_ble_eq_true rfl, Nat.le_of_ble_eq_true rfl⟩) ⟨pu_bl, va_recv hK hP (ci := 9) (q0 := 0) rfl rfl, pu_in hP hK hD⟩ rfl rfl hl.1 rfl (lv_room (Nat.le_of_ble_eq_true rfl)) dX9_latest_31 ⟨Nat.le_of_ble_eq_true rfl, Nat.le_of_ble_eq_true rfl⟩) hS (fun q _ h => hFc q h) hFc (fun r_9 u t H1 locs ht hvm hw hB hz1 hk1 hS => ?_)
      obtain ⟨z55_10, z56_11, z57_12, z58_13, z59_14, z62_15, z63_16, ⟨hP1, -, hD1⟩, hz62_15, hz63_16, xr_9_0⟩ := hB
      rw [ht] at hP1
      have hP := hP1
      have hD := pu_all hFc hD1
      clear hP1 hD1 hFc
      clear hk1 hz1 ht hvm
      generalize H1 = H at hP hS ⊢
      obtain ⟨u_17, hu_17, rfl, iu_17⟩ := hw
      have iu_17 : (u_17, z55_10, z56_11, z57_12, z58_13, z59_14, z62_15, z63_16) = (sp_EM_laysGreatest x16 z61_6 f3 q4 q5 q6 q7 f8 q9 q10 f11 m12_0 m12_1 m13_0 m13_1 m14_0 m14_1 m15_0 m15_1 z54_4 q55 q56 f57 q58 f59 (nI (256 * n_2))) := Prod.ext iu_17 xr_9_0
      replace hsp := hsp.trans (slet_eq iu_17)
      refine lv_if_eq (tgt := 48) hx hb dX9_latest_34 (by decide) (fun c_18 => ?_) (fun c_18 => ?_)
      · have c_18 : u_17 = 0 := (nI_eq (a := u_17) (b := 0) (Nat.lt_of_le_of_lt hu_17 (Nat.le_of_ble_eq_true rfl)) (Nat.le_of_ble_eq_true rfl)).mp c_18
        replace hsp := hsp.trans (if_pos c_18)
        refine lv_iconst (v := (-1)) hx hb dX9_latest_48 (by decide) ?_
        exact W.iret (v := (-1)) hx hb hr (fun t ht hW => ⟨⟨(-1), (), rfl, (congrArg Prod.fst (hsp.symm.trans hRR)), ⟨z54_4, z55_10, z56_11, z57_12, z58_13, z59_14, 0, z46_5, z61_6, z62_15, z63_16, ⟨by rw [ht]; exact hP, va_K.moved hW.alike hK, hD⟩, hz46_5, hz61_6, hz62_15, hz63_16, (congrArg Prod.snd (hsp.symm.trans hRR))⟩⟩, hS.F ht⟩) hS.2.2 dX9_latest_49
      · have c_18 : ¬ u_17 = 0 := fun z => c_18 ((nI_eq (a := u_17) (b := 0) (Nat.lt_of_le_of_lt hu_17 (Nat.le_of_ble_eq_true rfl)) (Nat.le_of_ble_eq_true rfl)).mpr z)
        replace hsp := hsp.trans (if_neg c_18)
        refine lv_aload_n hx hb dX9_latest_37 rfl (lv_at hl 0 rfl) ?_
        refine va_get (D := (dC, dI)) (ci := 9) (v := .ref (ad 59)) (C := RX9) (T := TX9) (N := 67) hx hb hts hiX9 hown hK hP 0 rfl rfl 59 (by decide) v_14 (fun _ h9 => h9) rfl dX9_latest_38 ?_
        refine lv_iload_n hx hb dX9_latest_41 rfl (lv_at hl 2 rfl) ?_
        refine lv_iconst (v := 1) hx hb dX9_latest_42 (by decide) ?_
        refine lv_iadd hx hb dX9_latest_43 ?_
        refine lv_topi (fun y_19 ey_19 => ?_)
        obtain rfl : y_19 = (nI (n_7 + 1)) := ey_19.trans (nI_add n_7 1)
        refine va_iald hx hb hK hP 40 39 rfl rfl (vp_in_nI (n := (n_7 + 1)) (by omega) (Nat.le_of_ble_eq_true rfl)) dX9_latest_44 ?_
        refine lv_topi (fun y_20 ey_20 => ?_)
        have ey_20 : y_20 = z59_14 (n_7 + 1) := ey_20.trans (congrArg z59_14 (nI_clamp (n := (n_7 + 1)) (by omega)))
        replace hsp := hsp.trans (slet_eq ey_20)
        refine lv_goto (tgt := 49) hx hb dX9_latest_45 (by decide) ?_
        exact W.iret (v := y_20) hx hb hr (fun t ht hW => ⟨⟨y_20, (), rfl, (congrArg Prod.fst (hsp.symm.trans hRR)), ⟨z54_4, z55_10, z56_11, z57_12, z58_13, z59_14, 0, z46_5, z61_6, z62_15, z63_16, ⟨by rw [ht]; exact hP, va_K.moved hW.alike hK, hD⟩, hz46_5, hz61_6, hz62_15, hz63_16, (congrArg Prod.snd (hsp.symm.trans hRR))⟩⟩, hS.F ht⟩) hS.2.2 dX9_latest_49
    · replace hsp := hsp.trans (if_neg hn)
      refine lv_if_eq (tgt := 48) hx hb dX9_latest_22 (by decide) (fun _ => ?_) (fun z => absurd z (by decide))
      refine lv_iconst (v := (-1)) hx hb dX9_latest_48 (by decide) ?_
      exact W.iret (v := (-1)) hx hb hr (fun t ht hW => ⟨⟨(-1), (), rfl, (congrArg Prod.fst (hsp.symm.trans hRR)), ⟨z54_4, q55, q56, f57, q58, f59, 0, z46_5, z61_6, x62, x63, ⟨by rw [ht]; exact hP, va_K.moved hW.alike hK, hD⟩, hz46_5, hz61_6, hx62, hx63, (congrArg Prod.snd (hsp.symm.trans hRR))⟩⟩, hS.F ht⟩) hS.2.2 dX9_latest_49
  · replace hsp := hsp.trans (if_neg hi3)
    refine lv_if_eq (tgt := 48) hx hb dX9_latest_13 (by decide) (fun _ => ?_) (fun z => absurd z (by decide))
    refine lv_iconst (v := (-1)) hx hb dX9_latest_48 (by decide) ?_
    exact W.iret (v := (-1)) hx hb hr (fun t ht hW => ⟨⟨(-1), (), rfl, (congrArg Prod.fst (hsp.symm.trans hRR)), ⟨q54, q55, q56, f57, q58, f59, 0, x46, x61, x62, x63, ⟨by rw [ht]; exact hP, va_K.moved hW.alike hK, hD⟩, hx46, hx61, hx62, hx63, (congrArg Prod.snd (hsp.symm.trans hRR))⟩⟩, hS.F ht⟩) hS.2.2 dX9_latest_49
