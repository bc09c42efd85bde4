theorem dX9_run_0 : decode cX9_run 0 = .ok (.aload_n 0, 1) := by decide +kernel
theorem dX9_run_1 : decode cX9_run 1 = .ok (.iconst 0, 1) := by decide +kernel
theorem dX9_run_2 : decode cX9_run 2 = .ok (.putfield 142, 3) := by decide +kernel
theorem dX9_run_5 : decode cX9_run 5 = .ok (.aload_n 0, 1) := by decide +kernel
theorem dX9_run_6 : decode cX9_run 6 = .ok (.iload_n 1, 1) := by decide +kernel
theorem dX9_run_7 : decode cX9_run 7 = .ok (.iload_n 2, 1) := by decide +kernel
theorem dX9_run_8 : decode cX9_run 8 = .ok (.invokevirtual 454, 3) := by decide +kernel
theorem dX9_run_11 : decode cX9_run 11 = .ok (.ifCond .eq 12, 3) := by decide +kernel
theorem dX9_run_14 : decode cX9_run 14 = .ok (.aload_n 0, 1) := by decide +kernel
theorem dX9_run_15 : decode cX9_run 15 = .ok (.getfield 118, 3) := by decide +kernel
theorem dX9_run_18 : decode cX9_run 18 = .ok (.iload_n 2, 1) := by decide +kernel
theorem dX9_run_19 : decode cX9_run 19 = .ok (.iaload, 1) := by decide +kernel
theorem dX9_run_20 : decode cX9_run 20 = .ok (.goto 4, 3) := by decide +kernel
theorem dX9_run_23 : decode cX9_run 23 = .ok (.iconst (-1), 1) := by decide +kernel
theorem dX9_run_24 : decode cX9_run 24 = .ok (.ireturn, 1) := by decide +kernel
abbrev vs_EM_run : List Cond := .code yX9_run cX9_run 3 (some .int) :: VM
theorem g_EM_run_EM_isStep : GoodIn vs_EM_run (wsV RX9 454 RX9 yX9_isStep vs_EM_isStep) := gm_V vm_332 vm_333 vm_334 vm_19 vm_335
noncomputable def sp_EM_run (x16 : Nat) (x29 : Nat) (x61 : Nat) (m12_0 : Nat) (m12_1 : Nat) (f39 : Nat → Int32) (f40 : Nat → Int32) (f41 : Nat → Int32) (m42_0 : Nat) (q54 : Nat → Nat) (p0 : Int32) (p1 : Int32) : Int32 × (Nat → Nat) × Int32 × Nat × Nat := (slet (sp_EM_isStep x16 x29 x61 m12_0 m12_1 f39 f40 f41 m42_0 q54 p0 p1) (fun (z54_2, z46_3, z61_4) => (if isStp x29 m42_0 f41 p0 p1 then (slet ((p1 : Int32).toNatClampNeg) (fun n_5 => (slet (min (z54_2 n_5) 13) (fun u_7 => ((nI u_7), z54_2, 0, z46_3, z61_4))))) else ((-1), z54_2, 0, z46_3, z61_4))))
set_option maxHeartbeats 4000000 in
set_option maxRecDepth 100000 in
theorem c_EM_run (l : Launch) (dC : Nat → ClassId) (dI : Nat → Nat → Nat) (sz : Nat) (ad : Nat → Nat) (ck : Nat → ClassId) (x0 : Int32) (x16 : Nat) (x18 : Nat) (x19 : Nat) (x20 : Int32) (x21 : Nat) (x22 : Nat) (x23 : Int32) (x24 : Int32) (x25 : Int32) (x26 : Nat) (x27 : Int32) (x28 : Nat) (x29 : Nat) (x30 : Nat) (x33 : Nat) (x45 : Int32) (x46 : Nat) (x52 : Nat) (x53 : Nat) (x61 : Nat) (x62 : Nat) (x63 : Nat) (x65 : Nat) (x66 : Int32) (f1 : Nat → Int32) (f2 : Nat → Int32) (f3 : Nat → Int32) (q4 : Nat → Nat) (q5 : Nat → Nat) (q6 : Nat → Nat) (q7 : Nat → Nat) (f8 : Nat → Int32) (q9 : Nat → Nat) (q10 : Nat → Nat) (f11 : Nat → Int32) (m12_0 m12_1 : Nat) (m13_0 m13_1 : Nat) (m14_0 m14_1 : Nat) (m15_0 m15_1 : Nat) (f17 : Nat → Int32) (q31 : Nat → Nat) (f32 : Nat → Int32) (f34 : Nat → Int32) (f35 : Nat → Int32) (f36 : Nat → Int32) (f37 : Nat → Int32) (q38 : Nat → Nat) (f39 : Nat → Int32) (f40 : Nat → Int32) (f41 : Nat → Int32) (m42_0 m42_1 : Nat) (f43 : Nat → Int32) (f44 : Nat → Int32) (f47 : Nat → Int32) (f48 : Nat → Int32) (f49 : Nat → Int32) (f50 : Nat → Int32) (f51 : Nat → Int32) (q54 : Nat → Nat) (q55 : Nat → Nat) (q56 : Nat → Nat) (f57 : Nat → Int32) (q58 : Nat → Nat) (f59 : Nat → Int32) (f60 : Nat → Int32) (f64 : Nat → Int32) (p0 : Int32) (p1 : Int32) (hx16 : x16 ≤ 1) (hx18 : x18 ≤ 900) (hx19 : x19 ≤ 900) (hx21 : x21 ≤ 900) (hx22 : x22 ≤ 4) (hx26 : x26 ≤ 6) (hx28 : x28 ≤ 1) (hx29 : x29 ≤ 1) (hx30 : x30 ≤ 1) (hx33 : x33 ≤ 20) (hx46 : x46 ≤ 5) (hx52 : x52 ≤ 2400) (hx53 : x53 ≤ 119) (hx61 : x61 ≤ 119) (hx62 : x62 ≤ 2000) (hx63 : x63 ≤ 1) (hx65 : x65 ≤ 7) (hm12_0 : m12_0 ≤ 3) (hm12_1 : m12_1 ≤ 3) (hm13_0 : m13_0 ≤ 8) (hm13_1 : m13_1 ≤ 8) (hm14_0 : m14_0 ≤ 14) (hm14_1 : m14_1 ≤ 14) (hm15_0 : m15_0 ≤ 8) (hm15_1 : m15_1 ≤ 8) (hm42_0 : m42_0 ≤ 120) (hm42_1 : m42_1 ≤ 400) (hgr : gz_ok m42_0 f39 f40 f41) : Met l yX9_run vs_EM_run ({ frames := 3, cells := 0, slots := 0, locals := 65 }) (va_Pc [.ref (ad 0), .int p0, .int p1] (pu_B (dC, dI) (mo_w ad ck x0 (nI x16) (nI x18) (nI x19) x20 (nI x21) (nI x22) x23 x24 x25 (nI x26) x27 (nI x28) (nI x29) (nI x30) (nI x33) x45 (nI x46) (nI x52) (nI x53) (nI x61) (nI x62) (nI x63) (nI x65) x66 f1 f2 f3 (bN 3 q4) (bN 7 q5) (bN 7 q6) (bN 4 q7) f8 (bN 2 q9) (bH q10) f11 (b2 m12_0 m12_1) (b2 m13_0 m13_1) (b2 m14_0 m14_1) (b2m m15_0 m15_1) f17 (bA 159 q31) f32 f34 f35 f36 f37 (bN 7 q38) f39 f40 f41 (b2 m42_0 m42_1) f43 f44 f47 f48 f49 f50 f51 (bN 13 q54) (bN 120 q55) (bN 120 q56) f57 (bN 120 q58) f59 f60 f64) (mo_t ck) sz)) (va_Qi (fun (r : Int32) (_ : Unit) => r = (sp_EM_run x16 x29 x61 m12_0 m12_1 f39 f40 f41 m42_0 q54 p0 p1).1) (fun _ t => ∃ (z54 : Nat → Nat) (z0 : Int32) (z46 : Nat) (z61 : Nat), pu_E (dC, dI) (mo_w ad ck z0 (nI x16) (nI x18) (nI x19) x20 (nI x21) (nI x22) x23 x24 x25 (nI x26) x27 (nI x28) (nI x29) (nI x30) (nI x33) x45 (nI z46) (nI x52) (nI x53) (nI z61) (nI x62) (nI x63) (nI x65) x66 f1 f2 f3 (bN 3 q4) (bN 7 q5) (bN 7 q6) (bN 4 q7) f8 (bN 2 q9) (bH q10) f11 (b2 m12_0 m12_1) (b2 m13_0 m13_1) (b2 m14_0 m14_1) (b2m m15_0 m15_1) f17 (bA 159 q31) f32 f34 f35 f36 f37 (bN 7 q38) f39 f40 f41 (b2 m42_0 m42_1) f43 f44 f47 f48 f49 f50 f51 (bN 13 z54) (bN 120 q55) (bN 120 q56) f57 (bN 120 q58) f59 f60 f64) (mo_t ck) (va_A ((mo_w ad ck x0 (nI x16) (nI x18) (nI x19) x20 (nI x21) (nI x22) x23 x24 x25 (nI x26) x27 (nI x28) (nI x29) (nI x30) (nI x33) x45 (nI x46) (nI x52) (nI x53) (nI x61) (nI x62) (nI x63) (nI x65) x66 f1 f2 f3 (bN 3 q4) (bN 7 q5) (bN 7 q6) (bN 4 q7) f8 (bN 2 q9) (bH q10) f11 (b2 m12_0 m12_1) (b2 m13_0 m13_1) (b2 m14_0 m14_1) (b2m m15_0 m15_1) f17 (bA 159 q31) f32 f34 f35 f36 f37 (bN 7 q38) f39 f40 f41 (b2 m42_0 m42_1) f43 f44 f47 f48 f49 f50 f51 (bN 13 q54) (bN 120 q55) (bN 120 q56) f57 (bN 120 q58) f59 f60 f64)) sz) t ∧ (z46 ≤ 5) ∧ (z61 ≤ 119) ∧ ((z54, z0, z46, z61) = (sp_EM_run x16 x29 x61 m12_0 m12_1 f39 f40 f41 m42_0 q54 p0 p1).2)) (va_A ((mo_w ad ck x0 (nI x16) (nI x18) (nI x19) x20 (nI x21) (nI x22) x23 x24 x25 (nI x26) x27 (nI x28) (nI x29) (nI x30) (nI x33) x45 (nI x46) (nI x52) (nI x53) (nI x61) (nI x62) (nI x63) (nI x65) x66 f1 f2 f3 (bN 3 q4) (bN 7 q5) (bN 7 q6) (bN 4 q7) f8 (bN 2 q9) (bH q10) f11 (b2 m12_0 m12_1) (b2 m13_0 m13_1) (b2 m14_0 m14_1) (b2m m15_0 m15_1) f17 (bA 159 q31) f32 f34 f35 f36 f37 (bN 7 q38) f39 f40 f41 (b2 m42_0 m42_1) f43 f44 f47 f48 f49 f50 f51 (bN 13 q54) (bN 120 q55) (bN 120 q56) f57 (bN 120 q58) f59 f60 f64)) sz)) 0 0 (va_A ((mo_w ad ck x0 (nI x16) (nI x18) (nI x19) x20 (nI x21) (nI x22) x23 x24 x25 (nI x26) x27 (nI x28) (nI x29) (nI x30) (nI x33) x45 (nI x46) (nI x52) (nI x53) (nI x61) (nI x62) (nI x63) (nI x65) x66 f1 f2 f3 (bN 3 q4) (bN 7 q5) (bN 7 q6) (bN 4 q7) f8 (bN 2 q9) (bH q10) f11 (b2 m12_0 m12_1) (b2 m13_0 m13_1) (b2 m14_0 m14_1) (b2m m15_0 m15_1) f17 (bA 159 q31) f32 f34 f35 f36 f37 (bN 7 q38) f39 f40 f41 (b2 m42_0 m42_1) f43 f44 f47 f48 f49 f50 f51 (bN 13 q54) (bN 120 q55) (bN 120 q56) f57 (bN 120 q58) f59 f60 f64)) sz) := by
  refine Met.ofW (cc := cX9_run) (maxL := 3) (ret := (some .int)) (by decide) rfl ?_
  intro p e s m args below meth c s₁ B hml hv
  obtain ⟨rfl, rfl, hP, hK, hD0⟩ := hv
  have hx := B.exec
  have hb := B.bytes
  have hr := B.returns
  have hts := atoms_spec (ws := vs_EM_run) B.pre
  have v_1 := hts (.fieldLink RX9 142 "ClockReachModel" "thrown" "I") (List.mem_cons_of_mem _ vm_5)
  have v_7 := hts (.fieldLink RX9 118 "ClockReachModel" "path" "[I") (List.mem_cons_of_mem _ vm_304)
  have hown : s.vm.findClass RX9 = some m.cls := findClass_of_methodNamed B.named
  have hlocks := B.notSynchronized
  have hiX9 : ∀ w ∈ wsX90, w ∈ vs_EM_run := fun _ h => List.mem_cons_of_mem _ (vmi_L h)
  have hD := hD0.self (sz := s.heap.size)
  generalize hAe : va_A ((mo_w ad ck x0 (nI x16) (nI x18) (nI x19) x20 (nI x21) (nI x22) x23 x24 x25 (nI x26) x27 (nI x28) (nI x29) (nI x30) (nI x33) x45 (nI x46) (nI x52) (nI x53) (nI x61) (nI x62) (nI x63) (nI x65) x66 f1 f2 f3 (bN 3 q4) (bN 7 q5) (bN 7 q6) (bN 4 q7) f8 (bN 2 q9) (bH q10) f11 (b2 m12_0 m12_1) (b2 m13_0 m13_1) (b2 m14_0 m14_1) (b2m m15_0 m15_1) f17 (bA 159 q31) f32 f34 f35 f36 f37 (bN 7 q38) f39 f40 f41 (b2 m42_0 m42_1) f43 f44 f47 f48 f49 f50 f51 (bN 13 q54) (bN 120 q55) (bN 120 q56) f57 (bN 120 q58) f59 f60 f64)) s.heap.size = A at hD ⊢
  have hA : ∀ q : Nat, s.heap.size ≤ q → A q := fun q h => by rw [← hAe]; exact Or.inr h
  have hS : va_S A s.heap s.heap [] := va_S.rf
  have hl := lv_entry ([.ref (ad 0), .int p0, .int p1]) (n := 3) (Nat.le_of_ble_eq_true rfl)
  rw [lg_entry_eq]
  generalize (lg_sl ([.ref (ad 0), .int p0, .int p1]) ++ List.replicate (3 - (lg_sl ([.ref (ad 0), .int p0, .int p1])).length) Slot.unset).toArray = ls at hl ⊢
  have hl : lv_has ls 3 [(0, .ref (ad 0)), (1, .int p0), (2, .int p1)] := hl
  obtain ⟨RR, hRR⟩ : ∃ x, x = (sp_EM_run x16 x29 x61 m12_0 m12_1 f39 f40 f41 m42_0 q54 p0 p1) := ⟨_, rfl⟩
  have hsp := hRR
  refine lv_aload_n hx hb dX9_run_0 rfl (lv_at hl 0 rfl) ?_
  refine lv_iconst (v := 0) hx hb dX9_run_1 (by decide) ?_
  refine va_put (D := (dC, dI)) (ci := 9) (v := .int 0) (ty := .int) (C := RX9) (T := TX9) (N := 67) hx hb hts hiX9 tyX9 tyX9_ok nmX9 hown hK hP hD hS 0 rfl rfl 0 (by decide) v_1 (fun _ h9 => h9) rfl (by decide +kernel) rfl rfl (Nat.le_of_ble_eq_true rfl) dX9_run_2 (fun H locs hP hD hS => ?_)
  have hP : va_P (dC, dI) vwCl (mo_w ad ck 0 (nI x16) (nI x18) (nI x19) x20 (nI x21) (nI x22) x23 x24 x25 (nI x26) x27 (nI x28) (nI x29) (nI x30) (nI x33) x45 (nI x46) (nI x52) (nI x53) (nI x61) (nI x62) (nI x63) (nI x65) x66 f1 f2 f3 (bN 3 q4) (bN 7 q5) (bN 7 q6) (bN 4 q7) f8 (bN 2 q9) (bH q10) f11 (b2 m12_0 m12_1) (b2 m13_0 m13_1) (b2 m14_0 m14_1) (b2m m15_0 m15_1) f17 (bA 159 q31) f32 f34 f35 f36 f37 (bN 7 q38) f39 f40 f41 (b2 m42_0 m42_1) f43 f44 f47 f48 f49 f50 f51 (bN 13 q54) (bN 120 q55) (bN 120 q56) f57 (bN 120 q58) f59 f60 f64) H := hP
  have hD : va_D A (mo_w ad ck 0 (nI x16) (nI x18) (nI x19) x20 (nI x21) (nI x22) x23 x24 x25 (nI x26) x27 (nI x28) (nI x29) (nI x30) (nI x33) x45 (nI x46) (nI x52) (nI x53) (nI x61) (nI x62) (nI x63) (nI x65) x66 f1 f2 f3 (bN 3 q4) (bN 7 q5) (bN 7 q6) (bN 4 q7) f8 (bN 2 q9) (bH q10) f11 (b2 m12_0 m12_1) (b2 m13_0 m13_1) (b2 m14_0 m14_1) (b2m m15_0 m15_1) f17 (bA 159 q31) f32 f34 f35 f36 f37 (bN 7 q38) f39 f40 f41 (b2 m42_0 m42_1) f43 f44 f47 f48 f49 f50 f51 (bN 13 q54) (bN 120 q55) (bN 120 q56) f57 (bN 120 q58) f59 f60 f64) := hD
  refine lv_aload_n hx hb dX9_run_5 rfl (lv_at hl 0 rfl) ?_
  refine lv_iload_n hx hb dX9_run_6 rfl (lv_at hl 1 rfl) ?_
  refine lv_iload_n hx hb dX9_run_7 rfl (lv_at hl 2 rfl) ?_
  have hFc := pu_free hD hS hA
  refine va_calli (va_runV (As := [.int p0, .int p1]) (rest := []) ⟨hx, hb, hml, hown, hts⟩ (c_EM_isStep l dC dI _ ad ck 0 x16 x18 x19 x20 x21 x22 x23 x24 x25 x26 x27 x28 x29 x30 x33 x45 x46 x52 x53 x61 x62 x63 x65 x66 f1 f2 f3 q4 q5 q6 q7 f8 q9 q10 f11 m12_0 m12_1 m13_0 m13_1 m14_0 m14_1 m15_0 m15_1 f17 q31 f32 f34 f35 f36 f37 q38 f39 f40 f41 m42_0 m42_1 f43 f44 f47 f48 f49 f50 f51 q54 q55 q56 f57 q58 f59 f60 f64 p0 p1 hx16 hx18 hx19 hx21 hx22 hx26 hx28 hx29 hx30 hx33 hx46 hx52 hx53 hx61 hx62 hx63 hx65 hm12_0 hm12_1 hm13_0 hm13_1 hm14_0 hm14_1 hm15_0 hm15_1 hm42_0 hm42_1 (by first | assumption | exact gz_0)) (cwV 2 hts g_EM_run_EM_isStep rfl rfl rfl (by decide +kernel) ⟨Nat.le_of_ble_eq_true rfl, Nat.le_of_ble_eq_true rfl⟩) ⟨pu_bl, va_recv hK hP (ci := 9) (q0 := 0) rfl rfl, pu_in hP hK hD⟩ rfl rfl hl.1 rfl (lv_room (Nat.le_of_ble_eq_true rfl)) dX9_run_8 ⟨Nat.le_of_ble_eq_true rfl, Nat.le_of_ble_eq_true rfl⟩) hS (fun q _ h => hFc q h) hFc (fun r_1 u t H1 locs ht hvm hw hB hz1 hk1 hS => ?_)
  obtain ⟨z54_2, z46_3, z61_4, ⟨hP1, -, hD1⟩, hz46_3, hz61_4, xr_1_0⟩ := hB
  rw [ht] at hP1
  have hP := hP1
  have hD := pu_all hFc hD1
  clear hP1 hD1 hFc
  clear hk1 hz1 ht hvm
  generalize H1 = H at hP hS ⊢
  replace hsp := hsp.trans (slet_eq xr_1_0)
  rcases hw with ⟨rfl, hw⟩ | ⟨rfl, hn⟩
  · obtain ⟨n_5, hn_5, rfl, hst⟩ := hw
    replace hsp := hsp.trans (if_pos hst)
    replace hsp := hsp.trans (slet_eq (nI_cl (n := n_5) (by omega)))
    refine lv_if_eq (tgt := 23) hx hb dX9_run_11 (by decide) (fun z => absurd z (by decide)) (fun _ => ?_)
    refine lv_aload_n hx hb dX9_run_14 rfl (lv_at hl 0 rfl) ?_
    refine va_get (D := (dC, dI)) (ci := 9) (v := .ref (ad 54)) (C := RX9) (T := TX9) (N := 67) hx hb hts hiX9 hown hK hP 0 rfl rfl 54 (by decide) v_7 (fun _ h9 => h9) rfl dX9_run_15 ?_
    refine lv_iload_n hx hb dX9_run_18 rfl (lv_at hl 2 rfl) ?_
    refine va_iald hx hb hK hP 35 34 rfl rfl (vp_in_nI (n := n_5) (by omega) (Nat.le_of_ble_eq_true rfl)) dX9_run_19 ?_
    refine lv_topi (fun y_6 ey_6 => ?_)
    obtain ⟨u_7, hu_7, qu_7, xu_7⟩ := bN_getx 13 z54_2 (n := n_5) (by omega)
    obtain rfl : y_6 = nI u_7 := ey_6.trans qu_7
    replace hsp := hsp.trans (slet_eq xu_7)
    refine lv_goto (tgt := 24) hx hb dX9_run_20 (by decide) ?_
    exact W.iret (v := (nI u_7)) hx hb hr (fun t ht hW => ⟨⟨(nI u_7), (), rfl, (congrArg Prod.fst (hsp.symm.trans hRR)), ⟨z54_2, 0, z46_3, z61_4, ⟨by rw [ht]; exact hP, va_K.moved hW.alike hK, hD⟩, hz46_3, hz61_4, (congrArg Prod.snd (hsp.symm.trans hRR))⟩⟩, hS.F ht⟩) hS.2.2 dX9_run_24
  · replace hsp := hsp.trans (if_neg hn)
    refine lv_if_eq (tgt := 23) hx hb dX9_run_11 (by decide) (fun _ => ?_) (fun z => absurd z (by decide))
    refine lv_iconst (v := (-1)) hx hb dX9_run_23 (by decide) ?_
    exact W.iret (v := (-1)) hx hb hr (fun t ht hW => ⟨⟨(-1), (), rfl, (congrArg Prod.fst (hsp.symm.trans hRR)), ⟨z54_2, 0, z46_3, z61_4, ⟨by rw [ht]; exact hP, va_K.moved hW.alike hK, hD⟩, hz46_3, hz61_4, (congrArg Prod.snd (hsp.symm.trans hRR))⟩⟩, hS.F ht⟩) hS.2.2 dX9_run_24
