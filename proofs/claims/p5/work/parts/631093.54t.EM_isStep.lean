theorem dX9_isStep_0 : decode cX9_isStep 0 = .ok (.aload_n 0, 1) := by decide +kernel
theorem dX9_isStep_1 : decode cX9_isStep 1 = .ok (.iload_n 1, 1) := by decide +kernel
theorem dX9_isStep_2 : decode cX9_isStep 2 = .ok (.invokevirtual 387, 3) := by decide +kernel
theorem dX9_isStep_5 : decode cX9_isStep 5 = .ok (.ifCond .ne 5, 3) := by decide +kernel
theorem dX9_isStep_8 : decode cX9_isStep 8 = .ok (.iconst 0, 1) := by decide +kernel
theorem dX9_isStep_9 : decode cX9_isStep 9 = .ok (.ireturn, 1) := by decide +kernel
theorem dX9_isStep_10 : decode cX9_isStep 10 = .ok (.aload_n 0, 1) := by decide +kernel
theorem dX9_isStep_11 : decode cX9_isStep 11 = .ok (.iload_n 1, 1) := by decide +kernel
theorem dX9_isStep_12 : decode cX9_isStep 12 = .ok (.invokevirtual 451, 3) := by decide +kernel
theorem dX9_isStep_15 : decode cX9_isStep 15 = .ok (.iload_n 2, 1) := by decide +kernel
theorem dX9_isStep_16 : decode cX9_isStep 16 = .ok (.iconst 0, 1) := by decide +kernel
theorem dX9_isStep_17 : decode cX9_isStep 17 = .ok (.aload_n 0, 1) := by decide +kernel
theorem dX9_isStep_18 : decode cX9_isStep 18 = .ok (.getfield 429, 3) := by decide +kernel
theorem dX9_isStep_21 : decode cX9_isStep 21 = .ok (.iconst 1, 1) := by decide +kernel
theorem dX9_isStep_22 : decode cX9_isStep 22 = .ok (.isub, 1) := by decide +kernel
theorem dX9_isStep_23 : decode cX9_isStep 23 = .ok (.invokestatic 152, 3) := by decide +kernel
theorem dX9_isStep_26 : decode cX9_isStep 26 = .ok (.ireturn, 1) := by decide +kernel
abbrev vs_EM_isStep : List Cond := .code yX9_isStep cX9_isStep 3 (some .boolean) :: VM
theorem g_EM_isStep_X9_in : GoodIn vs_EM_isStep (va_wsS RX9 152 yX9_in vs_X9_in) := gm_0 (fun w h => by
  rcases List.mem_cons.mp h with rfl | h
  · exact vm_137
  rcases List.mem_cons.mp h with rfl | h
  · exact vm_138
  rcases List.mem_cons.mp h with rfl | h
  · exact vm_19
  rcases List.mem_cons.mp h with rfl | h
  · exact vm_139
  exact absurd h (List.not_mem_nil))
theorem g_EM_isStep_EM_isState : GoodIn vs_EM_isStep (wsV RX9 387 RX9 yX9_isState vs_EM_isState) := gm_V vm_263 vm_264 vm_265 vm_19 vm_266
theorem g_EM_isStep_EM_layPath : GoodIn vs_EM_isStep (wsV RX9 451 RX9 yX9_layPath vs_EM_layPath) := gm_V vm_328 vm_329 vm_330 vm_19 vm_331
noncomputable def sp_EM_isStep (x16 : Nat) (x29 : Nat) (x61 : Nat) (m12_0 : Nat) (m12_1 : Nat) (f39 : Nat → Int32) (f40 : Nat → Int32) (f41 : Nat → Int32) (m42_0 : Nat) (q54 : Nat → Nat) (p0 : Int32) (p1 : Int32) : (Nat → Nat) × Nat × Nat := (slet (sp_EM_isState x16 x29 m12_0 m12_1 m42_0 p0) (fun z46_2 => (if x29 = 1 ∧ (0 : Int32) ≤ p0 ∧ p0 < nI m42_0 then (slet ((p0 : Int32).toNatClampNeg) (fun n_3 => (slet (sp_EM_layPath f39 f40 f41 q54 n_3) (fun (z54_5, z61_6) => (if (0 : Int32) ≤ p1 ∧ p1 ≤ ((nI z61_6) - 1) then (slet ((p1 : Int32).toNatClampNeg) (fun n_8 => (z54_5, z46_2, z61_6))) else (z54_5, z46_2, z61_6)))))) else (q54, z46_2, x61))))
set_option maxHeartbeats 4000000 in
set_option maxRecDepth 100000 in
theorem c_EM_isStep (l : Launch) (dC : Nat → ClassId) (dI : Nat → Nat → Nat) (sz : Nat) (ad : Nat → Nat) (ck : Nat → ClassId) (x0 : Int32) (x16 : Nat) (x18 : Nat) (x19 : Nat) (x20 : Int32) (x21 : Nat) (x22 : Nat) (x23 : Int32) (x24 : Int32) (x25 : Int32) (x26 : Nat) (x27 : Int32) (x28 : Nat) (x29 : Nat) (x30 : Nat) (x33 : Nat) (x45 : Int32) (x46 : Nat) (x52 : Nat) (x53 : Nat) (x61 : Nat) (x62 : Nat) (x63 : Nat) (x65 : Nat) (x66 : Int32) (f1 : Nat → Int32) (f2 : Nat → Int32) (f3 : Nat → Int32) (q4 : Nat → Nat) (q5 : Nat → Nat) (q6 : Nat → Nat) (q7 : Nat → Nat) (f8 : Nat → Int32) (q9 : Nat → Nat) (q10 : Nat → Nat) (f11 : Nat → Int32) (m12_0 m12_1 : Nat) (m13_0 m13_1 : Nat) (m14_0 m14_1 : Nat) (m15_0 m15_1 : Nat) (f17 : Nat → Int32) (q31 : Nat → Nat) (f32 : Nat → Int32) (f34 : Nat → Int32) (f35 : Nat → Int32) (f36 : Nat → Int32) (f37 : Nat → Int32) (q38 : Nat → Nat) (f39 : Nat → Int32) (f40 : Nat → Int32) (f41 : Nat → Int32) (m42_0 m42_1 : Nat) (f43 : Nat → Int32) (f44 : Nat → Int32) (f47 : Nat → Int32) (f48 : Nat → Int32) (f49 : Nat → Int32) (f50 : Nat → Int32) (f51 : Nat → Int32) (q54 : Nat → Nat) (q55 : Nat → Nat) (q56 : Nat → Nat) (f57 : Nat → Int32) (q58 : Nat → Nat) (f59 : Nat → Int32) (f60 : Nat → Int32) (f64 : Nat → Int32) (p0 : Int32) (p1 : Int32) (hx16 : x16 ≤ 1) (hx18 : x18 ≤ 900) (hx19 : x19 ≤ 900) (hx21 : x21 ≤ 900) (hx22 : x22 ≤ 4) (hx26 : x26 ≤ 6) (hx28 : x28 ≤ 1) (hx29 : x29 ≤ 1) (hx30 : x30 ≤ 1) (hx33 : x33 ≤ 20) (hx46 : x46 ≤ 5) (hx52 : x52 ≤ 2400) (hx53 : x53 ≤ 119) (hx61 : x61 ≤ 119) (hx62 : x62 ≤ 2000) (hx63 : x63 ≤ 1) (hx65 : x65 ≤ 7) (hm12_0 : m12_0 ≤ 3) (hm12_1 : m12_1 ≤ 3) (hm13_0 : m13_0 ≤ 8) (hm13_1 : m13_1 ≤ 8) (hm14_0 : m14_0 ≤ 14) (hm14_1 : m14_1 ≤ 14) (hm15_0 : m15_0 ≤ 8) (hm15_1 : m15_1 ≤ 8) (hm42_0 : m42_0 ≤ 120) (hm42_1 : m42_1 ≤ 400) (hgr : gz_ok m42_0 f39 f40 f41) : Met l yX9_isStep vs_EM_isStep ({ frames := 2, cells := 0, slots := 0, locals := 43 }) (va_Pc [.ref (ad 0), .int p0, .int p1] (pu_B (dC, dI) (mo_w ad ck x0 (nI x16) (nI x18) (nI x19) x20 (nI x21) (nI x22) x23 x24 x25 (nI x26) x27 (nI x28) (nI x29) (nI x30) (nI x33) x45 (nI x46) (nI x52) (nI x53) (nI x61) (nI x62) (nI x63) (nI x65) x66 f1 f2 f3 (bN 3 q4) (bN 7 q5) (bN 7 q6) (bN 4 q7) f8 (bN 2 q9) (bH q10) f11 (b2 m12_0 m12_1) (b2 m13_0 m13_1) (b2 m14_0 m14_1) (b2m m15_0 m15_1) f17 (bA 159 q31) f32 f34 f35 f36 f37 (bN 7 q38) f39 f40 f41 (b2 m42_0 m42_1) f43 f44 f47 f48 f49 f50 f51 (bN 13 q54) (bN 120 q55) (bN 120 q56) f57 (bN 120 q58) f59 f60 f64) (mo_t ck) sz)) (va_Qi (fun (r : Int32) (_ : Unit) => (r = 1 ∧ ∃ q : Nat, q ≤ 118 ∧ p1 = nI q ∧ isStp x29 m42_0 f41 p0 p1) ∨ (r = 0 ∧ ¬ isStp x29 m42_0 f41 p0 p1)) (fun _ t => ∃ (z54 : Nat → Nat) (z46 : Nat) (z61 : Nat), pu_E (dC, dI) (mo_w ad ck x0 (nI x16) (nI x18) (nI x19) x20 (nI x21) (nI x22) x23 x24 x25 (nI x26) x27 (nI x28) (nI x29) (nI x30) (nI x33) x45 (nI z46) (nI x52) (nI x53) (nI z61) (nI x62) (nI x63) (nI x65) x66 f1 f2 f3 (bN 3 q4) (bN 7 q5) (bN 7 q6) (bN 4 q7) f8 (bN 2 q9) (bH q10) f11 (b2 m12_0 m12_1) (b2 m13_0 m13_1) (b2 m14_0 m14_1) (b2m m15_0 m15_1) f17 (bA 159 q31) f32 f34 f35 f36 f37 (bN 7 q38) f39 f40 f41 (b2 m42_0 m42_1) f43 f44 f47 f48 f49 f50 f51 (bN 13 z54) (bN 120 q55) (bN 120 q56) f57 (bN 120 q58) f59 f60 f64) (mo_t ck) (va_A ((mo_w ad ck x0 (nI x16) (nI x18) (nI x19) x20 (nI x21) (nI x22) x23 x24 x25 (nI x26) x27 (nI x28) (nI x29) (nI x30) (nI x33) x45 (nI x46) (nI x52) (nI x53) (nI x61) (nI x62) (nI x63) (nI x65) x66 f1 f2 f3 (bN 3 q4) (bN 7 q5) (bN 7 q6) (bN 4 q7) f8 (bN 2 q9) (bH q10) f11 (b2 m12_0 m12_1) (b2 m13_0 m13_1) (b2 m14_0 m14_1) (b2m m15_0 m15_1) f17 (bA 159 q31) f32 f34 f35 f36 f37 (bN 7 q38) f39 f40 f41 (b2 m42_0 m42_1) f43 f44 f47 f48 f49 f50 f51 (bN 13 q54) (bN 120 q55) (bN 120 q56) f57 (bN 120 q58) f59 f60 f64)) sz) t ∧ (z46 ≤ 5) ∧ (z61 ≤ 119) ∧ ((z54, z46, z61) = (sp_EM_isStep x16 x29 x61 m12_0 m12_1 f39 f40 f41 m42_0 q54 p0 p1))) (va_A ((mo_w ad ck x0 (nI x16) (nI x18) (nI x19) x20 (nI x21) (nI x22) x23 x24 x25 (nI x26) x27 (nI x28) (nI x29) (nI x30) (nI x33) x45 (nI x46) (nI x52) (nI x53) (nI x61) (nI x62) (nI x63) (nI x65) x66 f1 f2 f3 (bN 3 q4) (bN 7 q5) (bN 7 q6) (bN 4 q7) f8 (bN 2 q9) (bH q10) f11 (b2 m12_0 m12_1) (b2 m13_0 m13_1) (b2 m14_0 m14_1) (b2m m15_0 m15_1) f17 (bA 159 q31) f32 f34 f35 f36 f37 (bN 7 q38) f39 f40 f41 (b2 m42_0 m42_1) f43 f44 f47 f48 f49 f50 f51 (bN 13 q54) (bN 120 q55) (bN 120 q56) f57 (bN 120 q58) f59 f60 f64)) sz)) 0 0 (va_A ((mo_w ad ck x0 (nI x16) (nI x18) (nI x19) x20 (nI x21) (nI x22) x23 x24 x25 (nI x26) x27 (nI x28) (nI x29) (nI x30) (nI x33) x45 (nI x46) (nI x52) (nI x53) (nI x61) (nI x62) (nI x63) (nI x65) x66 f1 f2 f3 (bN 3 q4) (bN 7 q5) (bN 7 q6) (bN 4 q7) f8 (bN 2 q9) (bH q10) f11 (b2 m12_0 m12_1) (b2 m13_0 m13_1) (b2 m14_0 m14_1) (b2m m15_0 m15_1) f17 (bA 159 q31) f32 f34 f35 f36 f37 (bN 7 q38) f39 f40 f41 (b2 m42_0 m42_1) f43 f44 f47 f48 f49 f50 f51 (bN 13 q54) (bN 120 q55) (bN 120 q56) f57 (bN 120 q58) f59 f60 f64)) sz) := by
  refine Met.ofW (cc := cX9_isStep) (maxL := 3) (ret := (some .boolean)) (by decide) rfl ?_
  intro p e s m args below meth c s₁ B hml hv
  obtain ⟨rfl, rfl, hP, hK, hD0⟩ := hv
  have hx := B.exec
  have hb := B.bytes
  have hr := B.returns
  have hts := atoms_spec (ws := vs_EM_isStep) B.pre
  have v_10 := hts (.fieldLink RX9 429 "ClockReachModel" "pathMany" "I") (List.mem_cons_of_mem _ vm_303)
  have hown : s.vm.findClass RX9 = some m.cls := findClass_of_methodNamed B.named
  have hlocks := B.notSynchronized
  have hiX9 : ∀ w ∈ wsX90, w ∈ vs_EM_isStep := fun _ h => List.mem_cons_of_mem _ (vmi_L h)
  have hD := hD0.self (sz := s.heap.size)
  generalize hAe : va_A ((mo_w ad ck x0 (nI x16) (nI x18) (nI x19) x20 (nI x21) (nI x22) x23 x24 x25 (nI x26) x27 (nI x28) (nI x29) (nI x30) (nI x33) x45 (nI x46) (nI x52) (nI x53) (nI x61) (nI x62) (nI x63) (nI x65) x66 f1 f2 f3 (bN 3 q4) (bN 7 q5) (bN 7 q6) (bN 4 q7) f8 (bN 2 q9) (bH q10) f11 (b2 m12_0 m12_1) (b2 m13_0 m13_1) (b2 m14_0 m14_1) (b2m m15_0 m15_1) f17 (bA 159 q31) f32 f34 f35 f36 f37 (bN 7 q38) f39 f40 f41 (b2 m42_0 m42_1) f43 f44 f47 f48 f49 f50 f51 (bN 13 q54) (bN 120 q55) (bN 120 q56) f57 (bN 120 q58) f59 f60 f64)) s.heap.size = A at hD ⊢
  have hA : ∀ q : Nat, s.heap.size ≤ q → A q := fun q h => by rw [← hAe]; exact Or.inr h
  have hS : va_S A s.heap s.heap [] := va_S.rf
  have hl := lv_entry ([.ref (ad 0), .int p0, .int p1]) (n := 3) (Nat.le_of_ble_eq_true rfl)
  rw [lg_entry_eq]
  generalize (lg_sl ([.ref (ad 0), .int p0, .int p1]) ++ List.replicate (3 - (lg_sl ([.ref (ad 0), .int p0, .int p1])).length) Slot.unset).toArray = ls at hl ⊢
  have hl : lv_has ls 3 [(0, .ref (ad 0)), (1, .int p0), (2, .int p1)] := hl
  obtain ⟨RR, hRR⟩ : ∃ x, x = (sp_EM_isStep x16 x29 x61 m12_0 m12_1 f39 f40 f41 m42_0 q54 p0 p1) := ⟨_, rfl⟩
  have hsp := hRR
  refine lv_aload_n hx hb dX9_isStep_0 rfl (lv_at hl 0 rfl) ?_
  refine lv_iload_n hx hb dX9_isStep_1 rfl (lv_at hl 1 rfl) ?_
  have hFc := pu_free hD hS hA
  refine va_calli (va_runV (As := [.int p0]) (rest := []) ⟨hx, hb, hml, hown, hts⟩ (c_EM_isState l dC dI _ ad ck x0 x16 x18 x19 x20 x21 x22 x23 x24 x25 x26 x27 x28 x29 x30 x33 x45 x46 x52 x53 x61 x62 x63 x65 x66 f1 f2 f3 q4 q5 q6 q7 f8 q9 q10 f11 m12_0 m12_1 m13_0 m13_1 m14_0 m14_1 m15_0 m15_1 f17 q31 f32 f34 f35 f36 f37 q38 f39 f40 f41 m42_0 m42_1 f43 f44 f47 f48 f49 f50 f51 q54 q55 q56 f57 q58 f59 f60 f64 p0 hx16 hx18 hx19 hx21 hx22 hx26 hx28 hx29 hx30 hx33 hx46 hx52 hx53 hx61 hx62 hx63 hx65 hm12_0 hm12_1 hm13_0 hm13_1 hm14_0 hm14_1 hm15_0 hm15_1 hm42_0 hm42_1) (cwV 1 hts g_EM_isStep_EM_isState rfl rfl rfl (by decide +kernel) ⟨Nat.le_of_ble_eq_true rfl, Nat.le_of_ble_eq_true rfl⟩) ⟨pu_bl, va_recv hK hP (ci := 9) (q0 := 0) rfl rfl, pu_in hP hK hD⟩ rfl rfl hl.1 rfl (lv_room (Nat.le_of_ble_eq_true rfl)) dX9_isStep_2 ⟨Nat.le_of_ble_eq_true rfl, Nat.le_of_ble_eq_true rfl⟩) hS (fun q _ h => hFc q h) hFc (fun r_1 u t H1 locs ht hvm hw hB hz1 hk1 hS => ?_)
  obtain ⟨z46_2, ⟨hP1, -, hD1⟩, hz46_2, xr_1_0⟩ := hB
  rw [ht] at hP1
  have hP := hP1
  have hD := pu_all hFc hD1
  clear hP1 hD1 hFc
  clear hk1 hz1 ht hvm
  generalize H1 = H at hP hS ⊢
  replace hsp := hsp.trans (slet_eq xr_1_0)
  rcases hw with ⟨rfl, hw⟩ | ⟨rfl, hn⟩
  · obtain ⟨hs1, n_3, hn_3, rfl⟩ := hw
    replace hsp := hsp.trans (if_pos ⟨hs1, in_q hn_3 (by omega)⟩)
    replace hsp := hsp.trans (slet_eq (nI_cl (n := n_3) (by omega)))
    refine lv_if_ne (tgt := 10) hx hb dX9_isStep_5 (by decide) (fun _ => ?_) (fun z => absurd z (by decide))
    refine lv_aload_n hx hb dX9_isStep_10 rfl (lv_at hl 0 rfl) ?_
    refine lv_iload_n hx hb dX9_isStep_11 rfl (lv_at hl 1 rfl) ?_
    have hFc := pu_free hD hS hA
    refine va_callv (va_runV (As := [.int (nI n_3)]) (rest := []) ⟨hx, hb, hml, hown, hts⟩ (c_EM_layPath l dC dI _ ad ck x0 x16 x18 x19 x20 x21 x22 x23 x24 x25 x26 x27 x28 x29 x30 x33 x45 z46_2 x52 x53 x61 x62 x63 x65 x66 f1 f2 f3 q4 q5 q6 q7 f8 q9 q10 f11 m12_0 m12_1 m13_0 m13_1 m14_0 m14_1 m15_0 m15_1 f17 q31 f32 f34 f35 f36 f37 q38 f39 f40 f41 m42_0 m42_1 f43 f44 f47 f48 f49 f50 f51 q54 q55 q56 f57 q58 f59 f60 f64 n_3 hx16 hx18 hx19 hx21 hx22 hx26 hx28 hx29 hx30 hx33 (Nat.le_trans hz46_2 (Nat.le_of_ble_eq_true rfl)) hx52 hx53 hx61 hx62 hx63 hx65 hm12_0 hm12_1 hm13_0 hm13_1 hm14_0 hm14_1 hm15_0 hm15_1 hm42_0 hm42_1 (by omega) (by first | assumption | exact gz_0) (by omega)) (cwV 1 hts g_EM_isStep_EM_layPath rfl rfl rfl (by decide +kernel) ⟨Nat.le_of_ble_eq_true rfl, Nat.le_of_ble_eq_true rfl⟩) ⟨pu_bl, va_recv hK hP (ci := 9) (q0 := 0) rfl rfl, pu_in hP hK hD⟩ rfl rfl hl.1 rfl (lv_room (Nat.le_of_ble_eq_true rfl)) dX9_isStep_12 ⟨Nat.le_of_ble_eq_true rfl, Nat.le_of_ble_eq_true rfl⟩) hS (fun q _ h => hFc q h) hFc (fun u t H1 locs ht hvm hw hB hz1 hk1 hS => ?_)
    obtain ⟨z54_5, z61_6, ⟨hP1, -, hD1⟩, hz61_6, xr_4_0, xr_4_1⟩ := hB
    rw [ht] at hP1
    have hP := hP1
    have hD := pu_all hFc hD1
    clear hP1 hD1 hFc
    clear hk1 hz1 ht hvm
    generalize H1 = H at hP hS ⊢
    replace hsp := hsp.trans (slet_eq xr_4_1)
    refine lv_iload_n hx hb dX9_isStep_15 rfl (lv_at hl 2 rfl) ?_
    refine lv_iconst (v := 0) hx hb dX9_isStep_16 (by decide) ?_
    refine lv_aload_n hx hb dX9_isStep_17 rfl (lv_at hl 0 rfl) ?_
    refine va_get (D := (dC, dI)) (ci := 9) (v := .int (nI z61_6)) (C := RX9) (T := TX9) (N := 67) hx hb hts hiX9 hown hK hP 0 rfl rfl 61 (by decide) v_10 (fun _ h9 => h9) rfl dX9_isStep_18 ?_
    refine lv_iconst (v := 1) hx hb dX9_isStep_21 (by decide) ?_
    refine lv_isub hx hb dX9_isStep_22 ?_
    refine va_calli (va_runS (As := [.int p1, .int 0, .int ((nI z61_6) - 1)]) (rest := []) ⟨hx, hb, hml, hown, hts⟩ (c_X9_in l dC dI _ p1 0 ((nI z61_6) - 1)) (va_cwS 3 hts g_EM_isStep_X9_in rfl rfl rfl (by decide +kernel) ⟨Nat.le_of_ble_eq_true rfl, Nat.le_of_ble_eq_true rfl⟩) ⟨pu_bl, pu_in (hP.sub [] rfl) (hK.sub [] rfl) (hD.sub [] (by decide) rfl)⟩ rfl rfl hl.1 rfl (lv_room (Nat.le_of_ble_eq_true rfl)) dX9_isStep_23 ⟨Nat.le_of_ble_eq_true rfl, Nat.le_of_ble_eq_true rfl⟩) hS (fun q _ h => pu_fr hS hA q h) (pu_fr hS hA) (fun r_7 u t H1 locs ht hvm hw hB hz1 hk1 hS => ?_)
    have hP := pu_keep hP hk1
    clear hk1 hz1 ht hvm
    generalize H1 = H at hP hS ⊢
    rcases hw with ⟨rfl, hi1, hi2⟩ | ⟨rfl, hi3⟩
    · replace hsp := hsp.trans (if_pos ⟨hi1, hi2⟩)
      obtain ⟨n_8, hn_8, rfl⟩ := pu_in1 (n := z61_6) (by omega) hi1 hi2
      replace hsp := hsp.trans (slet_eq (nI_cl (n := n_8) (by omega)))
      exact W.zret (v := 1) (ty := .boolean) hx hb hr (rfl) (fun t ht hW => ⟨⟨1, (), rfl, Or.inl ⟨rfl, n_8, by omega, rfl, stp_y (by assumption) (by assumption) (by omega) (by assumption) (by omega) (by omega)⟩, ⟨z54_5, z46_2, z61_6, ⟨by rw [ht]; exact hP, va_K.moved hW.alike hK, hD⟩, (Nat.le_trans hz46_2 (Nat.le_of_ble_eq_true rfl)), hz61_6, (hsp.symm.trans hRR)⟩⟩, hS.F ht⟩) hS.2.2 dX9_isStep_26
    · replace hsp := hsp.trans (if_neg hi3)
      exact W.zret (v := 0) (ty := .boolean) hx hb hr (rfl) (fun t ht hW => ⟨⟨0, (), rfl, Or.inr ⟨rfl, by first | exact stp_n0 hn | exact stp_n1 (by omega) (by assumption) (by omega) hi3⟩, ⟨z54_5, z46_2, z61_6, ⟨by rw [ht]; exact hP, va_K.moved hW.alike hK, hD⟩, (Nat.le_trans hz46_2 (Nat.le_of_ble_eq_true rfl)), hz61_6, (hsp.symm.trans hRR)⟩⟩, hS.F ht⟩) hS.2.2 dX9_isStep_26
  · replace hsp := hsp.trans (if_neg hn)
    refine lv_if_ne (tgt := 10) hx hb dX9_isStep_5 (by decide) (fun z => absurd z (by decide)) (fun _ => ?_)
    refine lv_iconst (v := 0) hx hb dX9_isStep_8 (by decide) ?_
    exact W.zret (v := 0) (ty := .boolean) hx hb hr (rfl) (fun t ht hW => ⟨⟨0, (), rfl, Or.inr ⟨rfl, by first | exact stp_n0 hn | exact stp_n1 (by omega) (by assumption) (by omega) hi3⟩, ⟨q54, z46_2, x61, ⟨by rw [ht]; exact hP, va_K.moved hW.alike hK, hD⟩, (Nat.le_trans hz46_2 (Nat.le_of_ble_eq_true rfl)), hx61, (hsp.symm.trans hRR)⟩⟩, hS.F ht⟩) hS.2.2 dX9_isStep_9
