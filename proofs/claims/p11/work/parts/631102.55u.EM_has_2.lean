theorem dX9_has_0 : decode cX9_has 0 = .ok (.aload_n 0, 1) := by decide +kernel
theorem dX9_has_1 : decode cX9_has 1 = .ok (.iconst 0, 1) := by decide +kernel
theorem dX9_has_2 : decode cX9_has 2 = .ok (.putfield 142, 3) := by decide +kernel
theorem dX9_has_5 : decode cX9_has 5 = .ok (.aload_n 0, 1) := by decide +kernel
theorem dX9_has_6 : decode cX9_has 6 = .ok (.iload_n 1, 1) := by decide +kernel
theorem dX9_has_7 : decode cX9_has 7 = .ok (.invokevirtual 387, 3) := by decide +kernel
theorem dX9_has_10 : decode cX9_has 10 = .ok (.ifCond .ne 5, 3) := by decide +kernel
theorem dX9_has_13 : decode cX9_has 13 = .ok (.iconst (-1), 1) := by decide +kernel
theorem dX9_has_14 : decode cX9_has 14 = .ok (.ireturn, 1) := by decide +kernel
theorem dX9_has_15 : decode cX9_has 15 = .ok (.aload_n 0, 1) := by decide +kernel
theorem dX9_has_16 : decode cX9_has 16 = .ok (.iload_n 1, 1) := by decide +kernel
theorem dX9_has_17 : decode cX9_has 17 = .ok (.iload_n 2, 1) := by decide +kernel
theorem dX9_has_18 : decode cX9_has 18 = .ok (.iload_n 3, 1) := by decide +kernel
theorem dX9_has_19 : decode cX9_has 19 = .ok (.iload 4, 2) := by decide +kernel
theorem dX9_has_21 : decode cX9_has 21 = .ok (.invokevirtual 401, 3) := by decide +kernel
theorem dX9_has_24 : decode cX9_has 24 = .ok (.ifCond .eq 7, 3) := by decide +kernel
theorem dX9_has_27 : decode cX9_has 27 = .ok (.iconst 1, 1) := by decide +kernel
theorem dX9_has_28 : decode cX9_has 28 = .ok (.goto 4, 3) := by decide +kernel
theorem dX9_has_31 : decode cX9_has 31 = .ok (.iconst 0, 1) := by decide +kernel
theorem dX9_has_32 : decode cX9_has 32 = .ok (.ireturn, 1) := by decide +kernel
abbrev vs_EM_has : List Cond := .code yX9_has cX9_has 5 (some .int) :: VM
theorem g_EM_has_EM_isState : GoodIn vs_EM_has (wsV RX9 387 RX9 yX9_isState vs_EM_isState) := gm_V vm_263 vm_264 vm_265 vm_19 vm_266
theorem g_EM_has_EM_hasTimes : GoodIn vs_EM_has (wsV RX9 401 RX9 yX9_hasTimes vs_EM_hasTimes) := gm_V vm_350 vm_351 vm_352 vm_19 vm_353
noncomputable def sp_EM_has (x16 : Nat) (x29 : Nat) (m12_0 : Nat) (m12_1 : Nat) (f34 : Nat → Int32) (m42_0 : Nat) (p0 : Int32) (p1 : Int32) (p2 : Int32) (p3 : Int32) : Int32 × Int32 × Nat := (slet (sp_EM_isState x16 x29 m12_0 m12_1 m42_0 p0) (fun z46_2 => (if x29 = 1 ∧ (0 : Int32) ≤ p0 ∧ p0 < nI m42_0 then (slet ((p0 : Int32).toNatClampNeg) (fun n_3 => (slet (sp_EM_hasTimes x16 m12_0 m12_1 f34 n_3 p1 p2 p3) (fun u_5 => (if u_5 = 0 then (0, 0, z46_2) else (1, 0, z46_2)))))) else ((-1), 0, z46_2))))
set_option maxHeartbeats 4000000 in
set_option maxRecDepth 100000 in
theorem c_EM_has (l : Launch) (dC : Nat → ClassId) (dI : Nat → Nat → Nat) (sz : Nat) (ad : Nat → Nat) (ck : Nat → ClassId) (x0 : Int32) (x16 : Nat) (x18 : Nat) (x19 : Nat) (x20 : Int32) (x21 : Nat) (x22 : Nat) (x23 : Int32) (x24 : Int32) (x25 : Int32) (x26 : Nat) (x27 : Int32) (x28 : Nat) (x29 : Nat) (x30 : Nat) (x33 : Nat) (x45 : Int32) (x46 : Nat) (x52 : Nat) (x53 : Nat) (x61 : Nat) (x62 : Nat) (x63 : Nat) (x65 : Nat) (x66 : Int32) (f1 : Nat → Int32) (f2 : Nat → Int32) (f3 : Nat → Int32) (q4 : Nat → Nat) (q5 : Nat → Nat) (q6 : Nat → Nat) (q7 : Nat → Nat) (f8 : Nat → Int32) (q9 : Nat → Nat) (q10 : Nat → Nat) (f11 : Nat → Int32) (m12_0 m12_1 : Nat) (m13_0 m13_1 : Nat) (m14_0 m14_1 : Nat) (m15_0 m15_1 : Nat) (f17 : Nat → Int32) (q31 : Nat → Nat) (f32 : Nat → Int32) (f34 : Nat → Int32) (f35 : Nat → Int32) (f36 : Nat → Int32) (f37 : Nat → Int32) (q38 : Nat → Nat) (f39 : Nat → Int32) (f40 : Nat → Int32) (f41 : Nat → Int32) (m42_0 m42_1 : Nat) (f43 : Nat → Int32) (f44 : Nat → Int32) (f47 : Nat → Int32) (f48 : Nat → Int32) (f49 : Nat → Int32) (f50 : Nat → Int32) (f51 : Nat → Int32) (q54 : Nat → Nat) (q55 : Nat → Nat) (q56 : Nat → Nat) (f57 : Nat → Int32) (q58 : Nat → Nat) (f59 : Nat → Int32) (f60 : Nat → Int32) (f64 : Nat → Int32) (p0 : Int32) (p1 : Int32) (p2 : Int32) (p3 : Int32) (hx16 : x16 ≤ 1) (hx18 : x18 ≤ 900) (hx19 : x19 ≤ 900) (hx21 : x21 ≤ 900) (hx22 : x22 ≤ 4) (hx26 : x26 ≤ 6) (hx28 : x28 ≤ 1) (hx29 : x29 ≤ 1) (hx30 : x30 ≤ 1) (hx33 : x33 ≤ 20) (hx46 : x46 ≤ 5) (hx52 : x52 ≤ 2400) (hx53 : x53 ≤ 119) (hx61 : x61 ≤ 119) (hx62 : x62 ≤ 2000) (hx63 : x63 ≤ 1) (hx65 : x65 ≤ 7) (hm12_0 : m12_0 ≤ 3) (hm12_1 : m12_1 ≤ 3) (hm13_0 : m13_0 ≤ 8) (hm13_1 : m13_1 ≤ 8) (hm14_0 : m14_0 ≤ 14) (hm14_1 : m14_1 ≤ 14) (hm15_0 : m15_0 ≤ 8) (hm15_1 : m15_1 ≤ 8) (hm42_0 : m42_0 ≤ 120) (hm42_1 : m42_1 ≤ 400) : Met l yX9_has vs_EM_has ({ frames := 2, cells := 0, slots := 0, locals := 54 }) (va_Pc [.ref (ad 0), .int p0, .int p1, .int p2, .int p3] (pu_B (dC, dI) (mo_w ad ck x0 (nI x16) (nI x18) (nI x19) x20 (nI x21) (nI x22) x23 x24 x25 (nI x26) x27 (nI x28) (nI x29) (nI x30) (nI x33) x45 (nI x46) (nI x52) (nI x53) (nI x61) (nI x62) (nI x63) (nI x65) x66 f1 f2 f3 (bN 3 q4) (bN 7 q5) (bN 7 q6) (bN 4 q7) f8 (bN 2 q9) (bH q10) f11 (b2 m12_0 m12_1) (b2 m13_0 m13_1) (b2 m14_0 m14_1) (b2m m15_0 m15_1) f17 (bA 159 q31) f32 f34 f35 f36 f37 (bN 7 q38) f39 f40 f41 (b2 m42_0 m42_1) f43 f44 f47 f48 f49 f50 f51 (bN 13 q54) (bN 120 q55) (bN 120 q56) f57 (bN 120 q58) f59 f60 f64) (mo_t ck) sz)) (va_Qi (fun (r : Int32) (_ : Unit) => r = (sp_EM_has x16 x29 m12_0 m12_1 f34 m42_0 p0 p1 p2 p3).1) (fun _ t => ∃ (z0 : Int32) (z46 : Nat), pu_E (dC, dI) (mo_w ad ck z0 (nI x16) (nI x18) (nI x19) x20 (nI x21) (nI x22) x23 x24 x25 (nI x26) x27 (nI x28) (nI x29) (nI x30) (nI x33) x45 (nI z46) (nI x52) (nI x53) (nI x61) (nI x62) (nI x63) (nI x65) x66 f1 f2 f3 (bN 3 q4) (bN 7 q5) (bN 7 q6) (bN 4 q7) f8 (bN 2 q9) (bH q10) f11 (b2 m12_0 m12_1) (b2 m13_0 m13_1) (b2 m14_0 m14_1) (b2m m15_0 m15_1) f17 (bA 159 q31) f32 f34 f35 f36 f37 (bN 7 q38) f39 f40 f41 (b2 m42_0 m42_1) f43 f44 f47 f48 f49 f50 f51 (bN 13 q54) (bN 120 q55) (bN 120 q56) f57 (bN 120 q58) f59 f60 f64) (mo_t ck) (va_A ((mo_w ad ck x0 (nI x16) (nI x18) (nI x19) x20 (nI x21) (nI x22) x23 x24 x25 (nI x26) x27 (nI x28) (nI x29) (nI x30) (nI x33) x45 (nI x46) (nI x52) (nI x53) (nI x61) (nI x62) (nI x63) (nI x65) x66 f1 f2 f3 (bN 3 q4) (bN 7 q5) (bN 7 q6) (bN 4 q7) f8 (bN 2 q9) (bH q10) f11 (b2 m12_0 m12_1) (b2 m13_0 m13_1) (b2 m14_0 m14_1) (b2m m15_0 m15_1) f17 (bA 159 q31) f32 f34 f35 f36 f37 (bN 7 q38) f39 f40 f41 (b2 m42_0 m42_1) f43 f44 f47 f48 f49 f50 f51 (bN 13 q54) (bN 120 q55) (bN 120 q56) f57 (bN 120 q58) f59 f60 f64)) sz) t ∧ (z46 ≤ 5) ∧ ((z0, z46) = (sp_EM_has x16 x29 m12_0 m12_1 f34 m42_0 p0 p1 p2 p3).2)) (va_A ((mo_w ad ck x0 (nI x16) (nI x18) (nI x19) x20 (nI x21) (nI x22) x23 x24 x25 (nI x26) x27 (nI x28) (nI x29) (nI x30) (nI x33) x45 (nI x46) (nI x52) (nI x53) (nI x61) (nI x62) (nI x63) (nI x65) x66 f1 f2 f3 (bN 3 q4) (bN 7 q5) (bN 7 q6) (bN 4 q7) f8 (bN 2 q9) (bH q10) f11 (b2 m12_0 m12_1) (b2 m13_0 m13_1) (b2 m14_0 m14_1) (b2m m15_0 m15_1) f17 (bA 159 q31) f32 f34 f35 f36 f37 (bN 7 q38) f39 f40 f41 (b2 m42_0 m42_1) f43 f44 f47 f48 f49 f50 f51 (bN 13 q54) (bN 120 q55) (bN 120 q56) f57 (bN 120 q58) f59 f60 f64)) sz)) 0 0 (va_A ((mo_w ad ck x0 (nI x16) (nI x18) (nI x19) x20 (nI x21) (nI x22) x23 x24 x25 (nI x26) x27 (nI x28) (nI x29) (nI x30) (nI x33) x45 (nI x46) (nI x52) (nI x53) (nI x61) (nI x62) (nI x63) (nI x65) x66 f1 f2 f3 (bN 3 q4) (bN 7 q5) (bN 7 q6) (bN 4 q7) f8 (bN 2 q9) (bH q10) f11 (b2 m12_0 m12_1) (b2 m13_0 m13_1) (b2 m14_0 m14_1) (b2m m15_0 m15_1) f17 (bA 159 q31) f32 f34 f35 f36 f37 (bN 7 q38) f39 f40 f41 (b2 m42_0 m42_1) f43 f44 f47 f48 f49 f50 f51 (bN 13 q54) (bN 120 q55) (bN 120 q56) f57 (bN 120 q58) f59 f60 f64)) sz) := by
  refine Met.ofW (cc := cX9_has) (maxL := 5) (ret := (some .int)) (by decide) rfl ?_
  intro p e s m args below meth c s₁ B hml hv
  obtain ⟨rfl, rfl, hP, hK, hD0⟩ := hv
  have hx := B.exec
  have hb := B.bytes
  have hr := B.returns
  have hts := atoms_spec (ws := vs_EM_has) B.pre
  have v_1 := hts (.fieldLink RX9 142 "ClockReachModel" "thrown" "I") (List.mem_cons_of_mem _ vm_5)
  have hown : s.vm.findClass RX9 = some m.cls := findClass_of_methodNamed B.named
  have hlocks := B.notSynchronized
  have hiX9 : ∀ w ∈ wsX90, w ∈ vs_EM_has := fun _ h => List.mem_cons_of_mem _ (vmi_L h)
  have hD := hD0.self (sz := s.heap.size)
  generalize hAe : va_A ((mo_w ad ck x0 (nI x16) (nI x18) (nI x19) x20 (nI x21) (nI x22) x23 x24 x25 (nI x26) x27 (nI x28) (nI x29) (nI x30) (nI x33) x45 (nI x46) (nI x52) (nI x53) (nI x61) (nI x62) (nI x63) (nI x65) x66 f1 f2 f3 (bN 3 q4) (bN 7 q5) (bN 7 q6) (bN 4 q7) f8 (bN 2 q9) (bH q10) f11 (b2 m12_0 m12_1) (b2 m13_0 m13_1) (b2 m14_0 m14_1) (b2m m15_0 m15_1) f17 (bA 159 q31) f32 f34 f35 f36 f37 (bN 7 q38) f39 f40 f41 (b2 m42_0 m42_1) f43 f44 f47 f48 f49 f50 f51 (bN 13 q54) (bN 120 q55) (bN 120 q56) f57 (bN 120 q58) f59 f60 f64)) s.heap.size = A at hD ⊢
  have hA : ∀ q : Nat, s.heap.size ≤ q → A q := fun q h => by rw [← hAe]; exact Or.inr h
  have hS : va_S A s.heap s.heap [] := va_S.rf
  have hl := lv_entry ([.ref (ad 0), .int p0, .int p1, .int p2, .int p3]) (n := 5) (Nat.le_of_ble_eq_true rfl)
  rw [lg_entry_eq]
  generalize (lg_sl ([.ref (ad 0), .int p0, .int p1, .int p2, .int p3]) ++ List.replicate (5 - (lg_sl ([.ref (ad 0), .int p0, .int p1, .int p2, .int p3])).length) Slot.unset).toArray = ls at hl ⊢
  have hl : lv_has ls 5 [(0, .ref (ad 0)), (1, .int p0), (2, .int p1), (3, .int p2), (4, .int p3)] := hl
  obtain ⟨RR, hRR⟩ : ∃ x, x = (sp_EM_has x16 x29 m12_0 m12_1 f34 m42_0 p0 p1 p2 p3) := ⟨_, rfl⟩
  have hsp := hRR
  refine lv_aload_n hx hb dX9_has_0 rfl (lv_at hl 0 rfl) ?_
  refine lv_iconst (v := 0) hx hb dX9_has_1 (by decide) ?_
  refine va_put (D := (dC, dI)) (ci := 9) (v := .int 0) (ty := .int) (C := RX9) (T := TX9) (N := 67) hx hb hts hiX9 tyX9 tyX9_ok nmX9 hown hK hP hD hS 0 rfl rfl 0 (by decide) v_1 (fun _ h9 => h9) rfl (by decide +kernel) rfl rfl (Nat.le_of_ble_eq_true rfl) dX9_has_2 (fun H locs hP hD hS => ?_)
  have hP : va_P (dC, dI) vwCl (mo_w ad ck 0 (nI x16) (nI x18) (nI x19) x20 (nI x21) (nI x22) x23 x24 x25 (nI x26) x27 (nI x28) (nI x29) (nI x30) (nI x33) x45 (nI x46) (nI x52) (nI x53) (nI x61) (nI x62) (nI x63) (nI x65) x66 f1 f2 f3 (bN 3 q4) (bN 7 q5) (bN 7 q6) (bN 4 q7) f8 (bN 2 q9) (bH q10) f11 (b2 m12_0 m12_1) (b2 m13_0 m13_1) (b2 m14_0 m14_1) (b2m m15_0 m15_1) f17 (bA 159 q31) f32 f34 f35 f36 f37 (bN 7 q38) f39 f40 f41 (b2 m42_0 m42_1) f43 f44 f47 f48 f49 f50 f51 (bN 13 q54) (bN 120 q55) (bN 120 q56) f57 (bN 120 q58) f59 f60 f64) H := hP
  have hD : va_D A (mo_w ad ck 0 (nI x16) (nI x18) (nI x19) x20 (nI x21) (nI x22) x23 x24 x25 (nI x26) x27 (nI x28) (nI x29) (nI x30) (nI x33) x45 (nI x46) (nI x52) (nI x53) (nI x61) (nI x62) (nI x63) (nI x65) x66 f1 f2 f3 (bN 3 q4) (bN 7 q5) (bN 7 q6) (bN 4 q7) f8 (bN 2 q9) (bH q10) f11 (b2 m12_0 m12_1) (b2 m13_0 m13_1) (b2 m14_0 m14_1) (b2m m15_0 m15_1) f17 (bA 159 q31) f32 f34 f35 f36 f37 (bN 7 q38) f39 f40 f41 (b2 m42_0 m42_1) f43 f44 f47 f48 f49 f50 f51 (bN 13 q54) (bN 120 q55) (bN 120 q56) f57 (bN 120 q58) f59 f60 f64) := hD
  refine lv_aload_n hx hb dX9_has_5 rfl (lv_at hl 0 rfl) ?_
  refine lv_iload_n hx hb dX9_has_6 rfl (lv_at hl 1 rfl) ?_
  have hFc := pu_free hD hS hA
  refine va_calli (va_runV (As := [.int p0]) (rest := []) ⟨hx, hb, hml, hown, hts⟩ (c_EM_isState l dC dI _ ad ck 0 x16 x18 x19 x20 x21 x22 x23 x24 x25 x26 x27 x28 x29 x30 x33 x45 x46 x52 x53 x61 x62 x63 x65 x66 f1 f2 f3 q4 q5 q6 q7 f8 q9 q10 f11 m12_0 m12_1 m13_0 m13_1 m14_0 m14_1 m15_0 m15_1 f17 q31 f32 f34 f35 f36 f37 q38 f39 f40 f41 m42_0 m42_1 f43 f44 f47 f48 f49 f50 f51 q54 q55 q56 f57 q58 f59 f60 f64 p0 hx16 hx18 hx19 hx21 hx22 hx26 hx28 hx29 hx30 hx33 hx46 hx52 hx53 hx61 hx62 hx63 hx65 hm12_0 hm12_1 hm13_0 hm13_1 hm14_0 hm14_1 hm15_0 hm15_1 hm42_0 hm42_1) (cwV 1 hts g_EM_has_EM_isState rfl rfl rfl (by decide +kernel) ⟨Nat.le_of_ble_eq_true rfl, Nat.le_of_ble_eq_true rfl⟩) ⟨pu_bl, va_recv hK hP (ci := 9) (q0 := 0) rfl rfl, pu_in hP hK hD⟩ rfl rfl hl.1 rfl (lv_room (Nat.le_of_ble_eq_true rfl)) dX9_has_7 ⟨Nat.le_of_ble_eq_true rfl, Nat.le_of_ble_eq_true rfl⟩) hS (fun q _ h => hFc q h) hFc (fun r_1 u t H1 locs ht hvm hw hB hz1 hk1 hS => ?_)
  obtain ⟨z46_2, ⟨hP1, -, hD1⟩, hz46_2, xr_1_0⟩ := hB
  rw [ht] at hP1
  have hP := hP1
  have hD := pu_all hFc hD1
  clear hP1 hD1 hFc
  clear hk1 hz1 ht hvm
  generalize H1 = H at hP hS ⊢
  replace hsp := hsp.trans (slet_eq xr_1_0)
  rcases hw with ⟨rfl, hw⟩ | ⟨rfl, hn⟩
  · obtain ⟨hs1, n_3, hn_3, rfl⟩ := hw
    replace hsp := hsp.trans (if_pos ⟨hs1, in_q hn_3 (by omega)⟩)
    replace hsp := hsp.trans (slet_eq (nI_cl (n := n_3) (by omega)))
    refine lv_if_ne (tgt := 15) hx hb dX9_has_10 (by decide) (fun _ => ?_) (fun z => absurd z (by decide))
    refine lv_aload_n hx hb dX9_has_15 rfl (lv_at hl 0 rfl) ?_
    refine lv_iload_n hx hb dX9_has_16 rfl (lv_at hl 1 rfl) ?_
    refine lv_iload_n hx hb dX9_has_17 rfl (lv_at hl 2 rfl) ?_
    refine lv_iload_n hx hb dX9_has_18 rfl (lv_at hl 3 rfl) ?_
    refine lv_iload hx hb dX9_has_19 (lv_at hl 4 rfl) ?_
    refine va_calli (va_runV (As := [.int (nI n_3), .int p1, .int p2, .int p3]) (rest := []) ⟨hx, hb, hml, hown, hts⟩ (c_EM_hasTimes l dC dI _ ad ck 0 x16 x18 x19 x20 x21 x22 x23 x24 x25 x26 x27 x28 x29 x30 x33 x45 z46_2 x52 x53 x61 x62 x63 x65 x66 f1 f2 f3 q4 q5 q6 q7 f8 q9 q10 f11 m12_0 m12_1 m13_0 m13_1 m14_0 m14_1 m15_0 m15_1 f17 q31 f32 f34 f35 f36 f37 q38 f39 f40 f41 m42_0 m42_1 f43 f44 f47 f48 f49 f50 f51 q54 q55 q56 f57 q58 f59 f60 f64 n_3 p1 p2 p3 hx16 hx18 hx19 hx21 hx22 hx26 hx28 hx29 hx30 hx33 (Nat.le_trans hz46_2 (Nat.le_of_ble_eq_true rfl)) hx52 hx53 hx61 hx62 hx63 hx65 hm12_0 hm12_1 hm13_0 hm13_1 hm14_0 hm14_1 hm15_0 hm15_1 hm42_0 hm42_1 (by omega)) (cwV 4 hts g_EM_has_EM_hasTimes rfl rfl rfl (by decide +kernel) ⟨Nat.le_of_ble_eq_true rfl, Nat.le_of_ble_eq_true rfl⟩) ⟨pu_bl, va_recv hK hP (ci := 9) (q0 := 0) rfl rfl, pu_in hP hK hD⟩ rfl rfl hl.1 rfl (lv_room (Nat.le_of_ble_eq_true rfl)) dX9_has_21 ⟨Nat.le_of_ble_eq_true rfl, Nat.le_of_ble_eq_true rfl⟩) hS (fun q _ h => pu_fr hS hA q h) (pu_fr hS hA) (fun r_4 u t H1 locs ht hvm hw hB hz1 hk1 hS => ?_)
    have hP := pu_keep hP hk1
    clear hk1 hz1 ht hvm
    generalize H1 = H at hP hS ⊢
    obtain ⟨u_5, hu_5, rfl, iu_5⟩ := hw
    replace hsp := hsp.trans (slet_eq iu_5)
    refine lv_if_eq (tgt := 31) hx hb dX9_has_24 (by decide) (fun c_6 => ?_) (fun c_6 => ?_)
    · have c_6 : u_5 = 0 := (nI_eq (a := u_5) (b := 0) (Nat.lt_of_le_of_lt hu_5 (Nat.le_of_ble_eq_true rfl)) (Nat.le_of_ble_eq_true rfl)).mp c_6
      replace hsp := hsp.trans (if_pos c_6)
      refine lv_iconst (v := 0) hx hb dX9_has_31 (by decide) ?_
      exact W.iret (v := 0) hx hb hr (fun t ht hW => ⟨⟨0, (), rfl, (congrArg Prod.fst (hsp.symm.trans hRR)), ⟨0, z46_2, ⟨by rw [ht]; exact hP, va_K.moved hW.alike hK, hD⟩, (Nat.le_trans hz46_2 (Nat.le_of_ble_eq_true rfl)), (congrArg Prod.snd (hsp.symm.trans hRR))⟩⟩, hS.F ht⟩) hS.2.2 dX9_has_32
    · have c_6 : ¬ u_5 = 0 := fun z => c_6 ((nI_eq (a := u_5) (b := 0) (Nat.lt_of_le_of_lt hu_5 (Nat.le_of_ble_eq_true rfl)) (Nat.le_of_ble_eq_true rfl)).mpr z)
      replace hsp := hsp.trans (if_neg c_6)
      refine lv_iconst (v := 1) hx hb dX9_has_27 (by decide) ?_
      refine lv_goto (tgt := 32) hx hb dX9_has_28 (by decide) ?_
      exact W.iret (v := 1) hx hb hr (fun t ht hW => ⟨⟨1, (), rfl, (congrArg Prod.fst (hsp.symm.trans hRR)), ⟨0, z46_2, ⟨by rw [ht]; exact hP, va_K.moved hW.alike hK, hD⟩, (Nat.le_trans hz46_2 (Nat.le_of_ble_eq_true rfl)), (congrArg Prod.snd (hsp.symm.trans hRR))⟩⟩, hS.F ht⟩) hS.2.2 dX9_has_32
  · replace hsp := hsp.trans (if_neg hn)
    refine lv_if_ne (tgt := 15) hx hb dX9_has_10 (by decide) (fun z => absurd z (by decide)) (fun _ => ?_)
    refine lv_iconst (v := (-1)) hx hb dX9_has_13 (by decide) ?_
    exact W.iret (v := (-1)) hx hb hr (fun t ht hW => ⟨⟨(-1), (), rfl, (congrArg Prod.fst (hsp.symm.trans hRR)), ⟨0, z46_2, ⟨by rw [ht]; exact hP, va_K.moved hW.alike hK, hD⟩, (Nat.le_trans hz46_2 (Nat.le_of_ble_eq_true rfl)), (congrArg Prod.snd (hsp.symm.trans hRR))⟩⟩, hS.F ht⟩) hS.2.2 dX9_has_14
theorem dX9_points_0 : decode cX9_points 0 = .ok (.aload_n 0, 1) := by decide +kernel
theorem dX9_points_1 : decode cX9_points 1 = .ok (.iconst 0, 1) := by decide +kernel
theorem dX9_points_2 : decode cX9_points 2 = .ok (.putfield 142, 3) := by decide +kernel
theorem dX9_points_5 : decode cX9_points 5 = .ok (.aload_n 0, 1) := by decide +kernel
theorem dX9_points_6 : decode cX9_points 6 = .ok (.iload_n 1, 1) := by decide +kernel
theorem dX9_points_7 : decode cX9_points 7 = .ok (.invokevirtual 387, 3) := by decide +kernel
theorem dX9_points_10 : decode cX9_points 10 = .ok (.ifCond .ne 5, 3) := by decide +kernel
theorem dX9_points_13 : decode cX9_points 13 = .ok (.iconst (-1), 1) := by decide +kernel
theorem dX9_points_14 : decode cX9_points 14 = .ok (.ireturn, 1) := by decide +kernel
theorem dX9_points_15 : decode cX9_points 15 = .ok (.iconst 0, 1) := by decide +kernel
theorem dX9_points_16 : decode cX9_points 16 = .ok (.istore_n 2, 1) := by decide +kernel
theorem dX9_points_17 : decode cX9_points 17 = .ok (.iconst 0, 1) := by decide +kernel
theorem dX9_points_18 : decode cX9_points 18 = .ok (.istore_n 3, 1) := by decide +kernel
theorem dX9_points_19 : decode cX9_points 19 = .ok (.iload_n 3, 1) := by decide +kernel
theorem dX9_points_20 : decode cX9_points 20 = .ok (.aload_n 0, 1) := by decide +kernel
theorem dX9_points_21 : decode cX9_points 21 = .ok (.invokevirtual 280, 3) := by decide +kernel
theorem dX9_points_24 : decode cX9_points 24 = .ok (.ifCond .le 8, 3) := by decide +kernel
theorem dX9_points_27 : decode cX9_points 27 = .ok (.bipush 22, 2) := by decide +kernel
theorem dX9_points_29 : decode cX9_points 29 = .ok (.goto 4, 3) := by decide +kernel
theorem dX9_points_32 : decode cX9_points 32 = .ok (.iconst 1, 1) := by decide +kernel
theorem dX9_points_33 : decode cX9_points 33 = .ok (.if_icmp .ge 98, 3) := by decide +kernel
theorem dX9_points_36 : decode cX9_points 36 = .ok (.iconst 0, 1) := by decide +kernel
theorem dX9_points_37 : decode cX9_points 37 = .ok (.istore 4, 2) := by decide +kernel
theorem dX9_points_39 : decode cX9_points 39 = .ok (.iload 4, 2) := by decide +kernel
theorem dX9_points_41 : decode cX9_points 41 = .ok (.aload_n 0, 1) := by decide +kernel
theorem dX9_points_42 : decode cX9_points 42 = .ok (.invokevirtual 280, 3) := by decide +kernel
theorem dX9_points_45 : decode cX9_points 45 = .ok (.iconst 1, 1) := by decide +kernel
theorem dX9_points_46 : decode cX9_points 46 = .ok (.if_icmp .le 8, 3) := by decide +kernel
theorem dX9_points_49 : decode cX9_points 49 = .ok (.bipush 22, 2) := by decide +kernel
theorem dX9_points_51 : decode cX9_points 51 = .ok (.goto 4, 3) := by decide +kernel
theorem dX9_points_54 : decode cX9_points 54 = .ok (.iconst 1, 1) := by decide +kernel
theorem dX9_points_55 : decode cX9_points 55 = .ok (.if_icmp .ge 70, 3) := by decide +kernel
theorem dX9_points_58 : decode cX9_points 58 = .ok (.iconst 0, 1) := by decide +kernel
theorem dX9_points_59 : decode cX9_points 59 = .ok (.istore 5, 2) := by decide +kernel
theorem dX9_points_61 : decode cX9_points 61 = .ok (.iload 5, 2) := by decide +kernel
theorem dX9_points_63 : decode cX9_points 63 = .ok (.aload_n 0, 1) := by decide +kernel
theorem dX9_points_64 : decode cX9_points 64 = .ok (.invokevirtual 280, 3) := by decide +kernel
theorem dX9_points_67 : decode cX9_points 67 = .ok (.iconst 2, 1) := by decide +kernel
theorem dX9_points_68 : decode cX9_points 68 = .ok (.if_icmp .le 8, 3) := by decide +kernel
theorem dX9_points_71 : decode cX9_points 71 = .ok (.bipush 22, 2) := by decide +kernel
theorem dX9_points_73 : decode cX9_points 73 = .ok (.goto 4, 3) := by decide +kernel
theorem dX9_points_76 : decode cX9_points 76 = .ok (.iconst 1, 1) := by decide +kernel
theorem dX9_points_77 : decode cX9_points 77 = .ok (.if_icmp .ge 42, 3) := by decide +kernel
theorem dX9_points_80 : decode cX9_points 80 = .ok (.iload_n 2, 1) := by decide +kernel
theorem dX9_points_81 : decode cX9_points 81 = .ok (.aload_n 0, 1) := by decide +kernel
theorem dX9_points_82 : decode cX9_points 82 = .ok (.iload_n 1, 1) := by decide +kernel
theorem dX9_points_83 : decode cX9_points 83 = .ok (.sipush 256, 3) := by decide +kernel
theorem dX9_points_86 : decode cX9_points 86 = .ok (.iload_n 3, 1) := by decide +kernel
theorem dX9_points_87 : decode cX9_points 87 = .ok (.imul, 1) := by decide +kernel
theorem dX9_points_88 : decode cX9_points 88 = .ok (.sipush 256, 3) := by decide +kernel
theorem dX9_points_91 : decode cX9_points 91 = .ok (.iload 4, 2) := by decide +kernel
theorem dX9_points_93 : decode cX9_points 93 = .ok (.imul, 1) := by decide +kernel
theorem dX9_points_94 : decode cX9_points 94 = .ok (.sipush 256, 3) := by decide +kernel
theorem dX9_points_97 : decode cX9_points 97 = .ok (.iload 5, 2) := by decide +kernel
theorem dX9_points_99 : decode cX9_points 99 = .ok (.imul, 1) := by decide +kernel
theorem dX9_points_100 : decode cX9_points 100 = .ok (.invokevirtual 401, 3) := by decide +kernel
theorem dX9_points_103 : decode cX9_points 103 = .ok (.ifCond .eq 7, 3) := by decide +kernel
theorem dX9_points_106 : decode cX9_points 106 = .ok (.iconst 1, 1) := by decide +kernel
theorem dX9_points_107 : decode cX9_points 107 = .ok (.goto 4, 3) := by decide +kernel
theorem dX9_points_110 : decode cX9_points 110 = .ok (.iconst 0, 1) := by decide +kernel
theorem dX9_points_111 : decode cX9_points 111 = .ok (.iadd, 1) := by decide +kernel
theorem dX9_points_112 : decode cX9_points 112 = .ok (.istore_n 2, 1) := by decide +kernel
theorem dX9_points_113 : decode cX9_points 113 = .ok (.iinc 5 1, 3) := by decide +kernel
theorem dX9_points_116 : decode cX9_points 116 = .ok (.goto (-55), 3) := by decide +kernel
theorem dX9_points_119 : decode cX9_points 119 = .ok (.iinc 4 1, 3) := by decide +kernel
theorem dX9_points_122 : decode cX9_points 122 = .ok (.goto (-83), 3) := by decide +kernel
theorem dX9_points_125 : decode cX9_points 125 = .ok (.iinc 3 1, 3) := by decide +kernel
theorem dX9_points_128 : decode cX9_points 128 = .ok (.goto (-109), 3) := by decide +kernel
theorem dX9_points_131 : decode cX9_points 131 = .ok (.iload_n 2, 1) := by decide +kernel
theorem dX9_points_132 : decode cX9_points 132 = .ok (.ireturn, 1) := by decide +kernel
abbrev vs_EM_points : List Cond := .code yX9_points cX9_points 6 (some .int) :: VM
theorem g_EM_points_EM_isState : GoodIn vs_EM_points (wsV RX9 387 RX9 yX9_isState vs_EM_isState) := gm_V vm_263 vm_264 vm_265 vm_19 vm_266
theorem g_EM_points_EM_clocks : GoodIn vs_EM_points (wsV RX9 280 RX9 yX9_clocks vs_EM_clocks) := gm_V vm_140 vm_141 vm_142 vm_19 vm_143
theorem g_EM_points_EM_hasTimes : GoodIn vs_EM_points (wsV RX9 401 RX9 yX9_hasTimes vs_EM_hasTimes) := gm_V vm_350 vm_351 vm_352 vm_19 vm_353
noncomputable def sp_EM_points_L1 (x16 : Nat) (m12_0 : Nat) (m12_1 : Nat) (f34 : Nat → Int32) (n_3 : Nat) (g_24 : Nat) (g_7 : Nat) : (Int32 × Nat) → (Int32 × Nat) ⊕ ((Int32 × Nat) ⊕ ((Int32 × Nat) ⊕ (Int32 × Int32 × Nat))) := fun (g_40, g_41) => (slet (sp_EM_clocks x16 m12_0 m12_1) (fun u_49 => (slet (α := Nat) (if u_49 ≤ 2 then 1 else 22) (fun g_50 => (if g_50 ≤ g_41 then (Sum.inr (Sum.inl (g_40, (g_24 + 1)))) else (slet (sp_EM_hasTimes x16 m12_0 m12_1 f34 n_3 (nI (256 * g_7)) (nI (256 * g_24)) (nI (256 * g_41))) (fun u_59 => (slet (α := Nat) (if u_59 = 0 then 0 else 1) (fun g_60 => (slet ((g_40 : Int32) + (nI g_60)) (fun y_64 => (Sum.inl (y_64, (g_41 + 1))))))))))))))
noncomputable def sp_EM_points_L2 (x16 : Nat) (m12_0 : Nat) (m12_1 : Nat) (f34 : Nat → Int32) (n_3 : Nat) (g_7 : Nat) : (Int32 × Nat) → (Int32 × Nat) ⊕ ((Int32 × Nat) ⊕ (Int32 × Int32 × Nat)) := fun (g_23, g_24) => (slet (sp_EM_clocks x16 m12_0 m12_1) (fun u_32 => (slet (α := Nat) (if u_32 ≤ 1 then 1 else 22) (fun g_33 => (if g_33 ≤ g_24 then (Sum.inr (Sum.inl (g_23, (g_7 + 1)))) else (itrv (α := Int32 × Nat) (β := ((Int32 × Nat) ⊕ ((Int32 × Nat) ⊕ (Int32 × Int32 × Nat)))) (Sum.inr (Sum.inr default)) (sp_EM_points_L1 x16 m12_0 m12_1 f34 n_3 g_24 g_7) (g_23, 0)))))))
noncomputable def sp_EM_points_L3 (x16 : Nat) (m12_0 : Nat) (m12_1 : Nat) (f34 : Nat → Int32) (z46_2 : Nat) (n_3 : Nat) : (Int32 × Nat) → (Int32 × Nat) ⊕ (Int32 × Int32 × Nat) := fun (g_6, g_7) => (slet (sp_EM_clocks x16 m12_0 m12_1) (fun u_15 => (slet (α := Nat) (if u_15 ≤ 0 then 1 else 22) (fun g_16 => (if g_16 ≤ g_7 then (Sum.inr (g_6, 0, z46_2)) else (itrv (α := Int32 × Nat) (β := ((Int32 × Nat) ⊕ (Int32 × Int32 × Nat))) (Sum.inr default) (sp_EM_points_L2 x16 m12_0 m12_1 f34 n_3 g_7) (g_6, 0)))))))
noncomputable def sp_EM_points (x16 : Nat) (x29 : Nat) (m12_0 : Nat) (m12_1 : Nat) (f34 : Nat → Int32) (m42_0 : Nat) (p0 : Int32) : Int32 × Int32 × Nat := (slet (sp_EM_isState x16 x29 m12_0 m12_1 m42_0 p0) (fun z46_2 => (if x29 = 1 ∧ (0 : Int32) ≤ p0 ∧ p0 < nI m42_0 then (slet ((p0 : Int32).toNatClampNeg) (fun n_3 => (itrv (α := Int32 × Nat) (β := (Int32 × Int32 × Nat)) default (sp_EM_points_L3 x16 m12_0 m12_1 f34 z46_2 n_3) (0, 0)))) else ((-1), 0, z46_2))))
set_option maxHeartbeats 4000000 in
set_option maxRecDepth 100000 in
theorem c_EM_points (l : Launch) (dC : Nat → ClassId) (dI : Nat → Nat → Nat) (sz : Nat) (ad : Nat → Nat) (ck : Nat → ClassId) (x0 : Int32) (x16 : Nat) (x18 : Nat) (x19 : Nat) (x20 : Int32) (x21 : Nat) (x22 : Nat) (x23 : Int32) (x24 : Int32) (x25 : Int32) (x26 : Nat) (x27 : Int32) (x28 : Nat) (x29 : Nat) (x30 : Nat) (x33 : Nat) (x45 : Int32) (x46 : Nat) (x52 : Nat) (x53 : Nat) (x61 : Nat) (x62 : Nat) (x63 : Nat) (x65 : Nat) (x66 : Int32) (f1 : Nat → Int32) (f2 : Nat → Int32) (f3 : Nat → Int32) (q4 : Nat → Nat) (q5 : Nat → Nat) (q6 : Nat → Nat) (q7 : Nat → Nat) (f8 : Nat → Int32) (q9 : Nat → Nat) (q10 : Nat → Nat) (f11 : Nat → Int32) (m12_0 m12_1 : Nat) (m13_0 m13_1 : Nat) (m14_0 m14_1 : Nat) (m15_0 m15_1 : Nat) (f17 : Nat → Int32) (q31 : Nat → Nat) (f32 : Nat → Int32) (f34 : Nat → Int32) (f35 : Nat → Int32) (f36 : Nat → Int32) (f37 : Nat → Int32) (q38 : Nat → Nat) (f39 : Nat → Int32) (f40 : Nat → Int32) (f41 : Nat → Int32) (m42_0 m42_1 : Nat) (f43 : Nat → Int32) (f44 : Nat → Int32) (f47 : Nat → Int32) (f48 : Nat → Int32) (f49 : Nat → Int32) (f50 : Nat → Int32) (f51 : Nat → Int32) (q54 : Nat → Nat) (q55 : Nat → Nat) (q56 : Nat → Nat) (f57 : Nat → Int32) (q58 : Nat → Nat) (f59 : Nat → Int32) (f60 : Nat → Int32) (f64 : Nat → Int32) (p0 : Int32) (hx16 : x16 ≤ 1) (hx18 : x18 ≤ 900) (hx19 : x19 ≤ 900) (hx21 : x21 ≤ 900) (hx22 : x22 ≤ 4) (hx26 : x26 ≤ 6) (hx28 : x28 ≤ 1) (hx29 : x29 ≤ 1) (hx30 : x30 ≤ 1) (hx33 : x33 ≤ 20) (hx46 : x46 ≤ 5) (hx52 : x52 ≤ 2400) (hx53 : x53 ≤ 119) (hx61 : x61 ≤ 119) (hx62 : x62 ≤ 2000) (hx63 : x63 ≤ 1) (hx65 : x65 ≤ 7) (hm12_0 : m12_0 ≤ 3) (hm12_1 : m12_1 ≤ 3) (hm13_0 : m13_0 ≤ 8) (hm13_1 : m13_1 ≤ 8) (hm14_0 : m14_0 ≤ 14) (hm14_1 : m14_1 ≤ 14) (hm15_0 : m15_0 ≤ 8) (hm15_1 : m15_1 ≤ 8) (hm42_0 : m42_0 ≤ 120) (hm42_1 : m42_1 ≤ 400) : Met l yX9_points vs_EM_points ({ frames := 2, cells := 0, slots := 0, locals := 54 }) (va_Pc [.ref (ad 0), .int p0] (pu_B (dC, dI) (mo_w ad ck x0 (nI x16) (nI x18) (nI x19) x20 (nI x21) (nI x22) x23 x24 x25 (nI x26) x27 (nI x28) (nI x29) (nI x30) (nI x33) x45 (nI x46) (nI x52) (nI x53) (nI x61) (nI x62) (nI x63) (nI x65) x66 f1 f2 f3 (bN 3 q4) (bN 7 q5) (bN 7 q6) (bN 4 q7) f8 (bN 2 q9) (bH q10) f11 (b2 m12_0 m12_1) (b2 m13_0 m13_1) (b2 m14_0 m14_1) (b2m m15_0 m15_1) f17 (bA 159 q31) f32 f34 f35 f36 f37 (bN 7 q38) f39 f40 f41 (b2 m42_0 m42_1) f43 f44 f47 f48 f49 f50 f51 (bN 13 q54) (bN 120 q55) (bN 120 q56) f57 (bN 120 q58) f59 f60 f64) (mo_t ck) sz)) (va_Qi (fun (r : Int32) (_ : Unit) => r = (sp_EM_points x16 x29 m12_0 m12_1 f34 m42_0 p0).1) (fun _ t => ∃ (z0 : Int32) (z46 : Nat), pu_E (dC, dI) (mo_w ad ck z0 (nI x16) (nI x18) (nI x19) x20 (nI x21) (nI x22) x23 x24 x25 (nI x26) x27 (nI x28) (nI x29) (nI x30) (nI x33) x45 (nI z46) (nI x52) (nI x53) (nI x61) (nI x62) (nI x63) (nI x65) x66 f1 f2 f3 (bN 3 q4) (bN 7 q5) (bN 7 q6) (bN 4 q7) f8 (bN 2 q9) (bH q10) f11 (b2 m12_0 m12_1) (b2 m13_0 m13_1) (b2 m14_0 m14_1) (b2m m15_0 m15_1) f17 (bA 159 q31) f32 f34 f35 f36 f37 (bN 7 q38) f39 f40 f41 (b2 m42_0 m42_1) f43 f44 f47 f48 f49 f50 f51 (bN 13 q54) (bN 120 q55) (bN 120 q56) f57 (bN 120 q58) f59 f60 f64) (mo_t ck) (va_A ((mo_w ad ck x0 (nI x16) (nI x18) (nI x19) x20 (nI x21) (nI x22) x23 x24 x25 (nI x26) x27 (nI x28) (nI x29) (nI x30) (nI x33) x45 (nI x46) (nI x52) (nI x53) (nI x61) (nI x62) (nI x63) (nI x65) x66 f1 f2 f3 (bN 3 q4) (bN 7 q5) (bN 7 q6) (bN 4 q7) f8 (bN 2 q9) (bH q10) f11 (b2 m12_0 m12_1) (b2 m13_0 m13_1) (b2 m14_0 m14_1) (b2m m15_0 m15_1) f17 (bA 159 q31) f32 f34 f35 f36 f37 (bN 7 q38) f39 f40 f41 (b2 m42_0 m42_1) f43 f44 f47 f48 f49 f50 f51 (bN 13 q54) (bN 120 q55) (bN 120 q56) f57 (bN 120 q58) f59 f60 f64)) sz) t ∧ (z46 ≤ 5) ∧ ((z0, z46) = (sp_EM_points x16 x29 m12_0 m12_1 f34 m42_0 p0).2)) (va_A ((mo_w ad ck x0 (nI x16) (nI x18) (nI x19) x20 (nI x21) (nI x22) x23 x24 x25 (nI x26) x27 (nI x28) (nI x29) (nI x30) (nI x33) x45 (nI x46) (nI x52) (nI x53) (nI x61) (nI x62) (nI x63) (nI x65) x66 f1 f2 f3 (bN 3 q4) (bN 7 q5) (bN 7 q6) (bN 4 q7) f8 (bN 2 q9) (bH q10) f11 (b2 m12_0 m12_1) (b2 m13_0 m13_1) (b2 m14_0 m14_1) (b2m m15_0 m15_1) f17 (bA 159 q31) f32 f34 f35 f36 f37 (bN 7 q38) f39 f40 f41 (b2 m42_0 m42_1) f43 f44 f47 f48 f49 f50 f51 (bN 13 q54) (bN 120 q55) (bN 120 q56) f57 (bN 120 q58) f59 f60 f64)) sz)) 0 0 (va_A ((mo_w ad ck x0 (nI x16) (nI x18) (nI x19) x20 (nI x21) (nI x22) x23 x24 x25 (nI x26) x27 (nI x28) (nI x29) (nI x30) (nI x33) x45 (nI x46) (nI x52) (nI x53) (nI x61) (nI x62) (nI x63) (nI x65) x66 f1 f2 f3 (bN 3 q4) (bN 7 q5) (bN 7 q6) (bN 4 q7) f8 (bN 2 q9) (bH q10) f11 (b2 m12_0 m12_1) (b2 m13_0 m13_1) (b2 m14_0 m14_1) (b2m m15_0 m15_1) f17 (bA 159 q31) f32 f34 f35 f36 f37 (bN 7 q38) f39 f40 f41 (b2 m42_0 m42_1) f43 f44 f47 f48 f49 f50 f51 (bN 13 q54) (bN 120 q55) (bN 120 q56) f57 (bN 120 q58) f59 f60 f64)) sz) := by
  refine Met.ofW (cc := cX9_points) (maxL := 6) (ret := (some .int)) (by decide) rfl ?_
  intro p e s m args below meth c s₁ B hml hv
  obtain ⟨rfl, rfl, hP, hK, hD0⟩ := hv
  have hx := B.exec
  have hb := B.bytes
  have hr := B.returns
  have hts := atoms_spec (ws := vs_EM_points) B.pre
  have v_1 := hts (.fieldLink RX9 142 "ClockReachModel" "thrown" "I") (List.mem_cons_of_mem _ vm_5)
  have hown : s.vm.findClass RX9 = some m.cls := findClass_of_methodNamed B.named
  have hlocks := B.notSynchronized
  have hiX9 : ∀ w ∈ wsX90, w ∈ vs_EM_points := fun _ h => List.mem_cons_of_mem _ (vmi_L h)
  have hD := hD0.self (sz := s.heap.size)
  generalize hAe : va_A ((mo_w ad ck x0 (nI x16) (nI x18) (nI x19) x20 (nI x21) (nI x22) x23 x24 x25 (nI x26) x27 (nI x28) (nI x29) (nI x30) (nI x33) x45 (nI x46) (nI x52) (nI x53) (nI x61) (nI x62) (nI x63) (nI x65) x66 f1 f2 f3 (bN 3 q4) (bN 7 q5) (bN 7 q6) (bN 4 q7) f8 (bN 2 q9) (bH q10) f11 (b2 m12_0 m12_1) (b2 m13_0 m13_1) (b2 m14_0 m14_1) (b2m m15_0 m15_1) f17 (bA 159 q31) f32 f34 f35 f36 f37 (bN 7 q38) f39 f40 f41 (b2 m42_0 m42_1) f43 f44 f47 f48 f49 f50 f51 (bN 13 q54) (bN 120 q55) (bN 120 q56) f57 (bN 120 q58) f59 f60 f64)) s.heap.size = A at hD ⊢
  have hA : ∀ q : Nat, s.heap.size ≤ q → A q := fun q h => by rw [← hAe]; exact Or.inr h
  have hS : va_S A s.heap s.heap [] := va_S.rf
  have hl := lv_entry ([.ref (ad 0), .int p0]) (n := 6) (Nat.le_of_ble_eq_true rfl)
  rw [lg_entry_eq]
  generalize (lg_sl ([.ref (ad 0), .int p0]) ++ List.replicate (6 - (lg_sl ([.ref (ad 0), .int p0])).length) Slot.unset).toArray = ls at hl ⊢
  have hl : lv_has ls 6 [(0, .ref (ad 0)), (1, .int p0)] := hl
  obtain ⟨RR, hRR⟩ : ∃ x, x = (sp_EM_points x16 x29 m12_0 m12_1 f34 m42_0 p0) := ⟨_, rfl⟩
  have hsp := hRR
  refine lv_aload_n hx hb dX9_points_0 rfl (lv_at hl 0 rfl) ?_
  refine lv_iconst (v := 0) hx hb dX9_points_1 (by decide) ?_
  refine va_put (D := (dC, dI)) (ci := 9) (v := .int 0) (ty := .int) (C := RX9) (T := TX9) (N := 67) hx hb hts hiX9 tyX9 tyX9_ok nmX9 hown hK hP hD hS 0 rfl rfl 0 (by decide) v_1 (fun _ h9 => h9) rfl (by decide +kernel) rfl rfl (Nat.le_of_ble_eq_true rfl) dX9_points_2 (fun H locs hP hD hS => ?_)
  have hP : va_P (dC, dI) vwCl (mo_w ad ck 0 (nI x16) (nI x18) (nI x19) x20 (nI x21) (nI x22) x23 x24 x25 (nI x26) x27 (nI x28) (nI x29) (nI x30) (nI x33) x45 (nI x46) (nI x52) (nI x53) (nI x61) (nI x62) (nI x63) (nI x65) x66 f1 f2 f3 (bN 3 q4) (bN 7 q5) (bN 7 q6) (bN 4 q7) f8 (bN 2 q9) (bH q10) f11 (b2 m12_0 m12_1) (b2 m13_0 m13_1) (b2 m14_0 m14_1) (b2m m15_0 m15_1) f17 (bA 159 q31) f32 f34 f35 f36 f37 (bN 7 q38) f39 f40 f41 (b2 m42_0 m42_1) f43 f44 f47 f48 f49 f50 f51 (bN 13 q54) (bN 120 q55) (bN 120 q56) f57 (bN 120 q58) f59 f60 f64) H := hP
  have hD : va_D A (mo_w ad ck 0 (nI x16) (nI x18) (nI x19) x20 (nI x21) (nI x22) x23 x24 x25 (nI x26) x27 (nI x28) (nI x29) (nI x30) (nI x33) x45 (nI x46) (nI x52) (nI x53) (nI x61) (nI x62) (nI x63) (nI x65) x66 f1 f2 f3 (bN 3 q4) (bN 7 q5) (bN 7 q6) (bN 4 q7) f8 (bN 2 q9) (bH q10) f11 (b2 m12_0 m12_1) (b2 m13_0 m13_1) (b2 m14_0 m14_1) (b2m m15_0 m15_1) f17 (bA 159 q31) f32 f34 f35 f36 f37 (bN 7 q38) f39 f40 f41 (b2 m42_0 m42_1) f43 f44 f47 f48 f49 f50 f51 (bN 13 q54) (bN 120 q55) (bN 120 q56) f57 (bN 120 q58) f59 f60 f64) := hD
  refine lv_aload_n hx hb dX9_points_5 rfl (lv_at hl 0 rfl) ?_
  refine lv_iload_n hx hb dX9_points_6 rfl (lv_at hl 1 rfl) ?_
  have hFc := pu_free hD hS hA
  refine va_calli (va_runV (As := [.int p0]) (rest := []) ⟨hx, hb, hml, hown, hts⟩ (c_EM_isState l dC dI _ ad ck 0 x16 x18 x19 x20 x21 x22 x23 x24 x25 x26 x27 x28 x29 x30 x33 x45 x46 x52 x53 x61 x62 x63 x65 x66 f1 f2 f3 q4 q5 q6 q7 f8 q9 q10 f11 m12_0 m12_1 m13_0 m13_1 m14_0 m14_1 m15_0 m15_1 f17 q31 f32 f34 f35 f36 f37 q38 f39 f40 f41 m42_0 m42_1 f43 f44 f47 f48 f49 f50 f51 q54 q55 q56 f57 q58 f59 f60 f64 p0 hx16 hx18 hx19 hx21 hx22 hx26 hx28 hx29 hx30 hx33 hx46 hx52 hx53 hx61 hx62 hx63 hx65 hm12_0 hm12_1 hm13_0 hm13_1 hm14_0 hm14_1 hm15_0 hm15_1 hm42_0 hm42_1) (cwV 1 hts g_EM_points_EM_isState rfl rfl rfl (by decide +kernel) ⟨Nat.le_of_ble_eq_true rfl, Nat.le_of_ble_eq_true rfl⟩) ⟨pu_bl, va_recv hK hP (ci := 9) (q0 := 0) rfl rfl, pu_in hP hK hD⟩ rfl rfl hl.1 rfl (lv_room (Nat.le_of_ble_eq_true rfl)) dX9_points_7 ⟨Nat.le_of_ble_eq_true rfl, Nat.le_of_ble_eq_true rfl⟩) hS (fun q _ h => hFc q h) hFc (fun r_1 u t H1 locs ht hvm hw hB hz1 hk1 hS => ?_)
  obtain ⟨z46_2, ⟨hP1, -, hD1⟩, hz46_2, xr_1_0⟩ := hB
  rw [ht] at hP1
  have hP := hP1
  have hD := pu_all hFc hD1
  clear hP1 hD1 hFc
  clear hk1 hz1 ht hvm
  generalize H1 = H at hP hS ⊢
  replace hsp := hsp.trans (slet_eq xr_1_0)
  rcases hw with ⟨rfl, hw⟩ | ⟨rfl, hn⟩
  · obtain ⟨hs1, n_3, hn_3, rfl⟩ := hw
    replace hsp := hsp.trans (if_pos ⟨hs1, in_q hn_3 (by omega)⟩)
    replace hsp := hsp.trans (slet_eq (nI_cl (n := n_3) (by omega)))
    refine lv_if_ne (tgt := 15) hx hb dX9_points_10 (by decide) (fun _ => ?_) (fun z => absurd z (by decide))
    refine lv_iconst (v := 0) hx hb dX9_points_15 (by decide) ?_
    refine lv_istore_n (lv' := [(2, .int 0), (0, .ref (ad 0)), (1, .int (nI n_3))]) hx hb dX9_points_16 rfl hl (by decide) rfl (fun ls hl => ?_)
    refine lv_iconst (v := 0) hx hb dX9_points_17 (by decide) ?_
    refine lv_istore_n (lv' := [(3, .int 0), (2, .int 0), (0, .ref (ad 0)), (1, .int (nI n_3))]) hx hb dX9_points_18 rfl hl (by decide) rfl (fun ls hl => ?_)
    obtain ⟨lf_9, dlf_9, hlf_9, hsp⟩ := itr_ex hsp
    delta sp_EM_points_L3 at hlf_9
    refine pu_while (fun nn H locs ls => ∃ (g_6 : Int32) (g_7 : Nat), nn = 22 - g_7 ∧ g_7 ≤ 22 ∧ RR = itrv dlf_9 lf_9 (g_6, g_7) ∧ va_P (dC, dI) vwCl (mo_w ad ck 0 (nI x16) (nI x18) (nI x19) x20 (nI x21) (nI x22) x23 x24 x25 (nI x26) x27 (nI x28) (nI x29) (nI x30) (nI x33) x45 (nI z46_2) (nI x52) (nI x53) (nI x61) (nI x62) (nI x63) (nI x65) x66 f1 f2 f3 (bN 3 q4) (bN 7 q5) (bN 7 q6) (bN 4 q7) f8 (bN 2 q9) (bH q10) f11 (b2 m12_0 m12_1) (b2 m13_0 m13_1) (b2 m14_0 m14_1) (b2m m15_0 m15_1) f17 (bA 159 q31) f32 f34 f35 f36 f37 (bN 7 q38) f39 f40 f41 (b2 m42_0 m42_1) f43 f44 f47 f48 f49 f50 f51 (bN 13 q54) (bN 120 q55) (bN 120 q56) f57 (bN 120 q58) f59 f60 f64) H ∧ va_D A (mo_w ad ck 0 (nI x16) (nI x18) (nI x19) x20 (nI x21) (nI x22) x23 x24 x25 (nI x26) x27 (nI x28) (nI x29) (nI x30) (nI x33) x45 (nI z46_2) (nI x52) (nI x53) (nI x61) (nI x62) (nI x63) (nI x65) x66 f1 f2 f3 (bN 3 q4) (bN 7 q5) (bN 7 q6) (bN 4 q7) f8 (bN 2 q9) (bH q10) f11 (b2 m12_0 m12_1) (b2 m13_0 m13_1) (b2 m14_0 m14_1) (b2m m15_0 m15_1) f17 (bA 159 q31) f32 f34 f35 f36 f37 (bN 7 q38) f39 f40 f41 (b2 m42_0 m42_1) f43 f44 f47 f48 f49 f50 f51 (bN 13 q54) (bN 120 q55) (bN 120 q56) f57 (bN 120 q58) f59 f60 f64) ∧ va_S A s.heap H locs ∧ lv_has ls 6 [(0, .ref (ad 0)), (1, .int (nI n_3)), (2, .int g_6), (3, .int (nI g_7))]) 19 ?_ _ _ _ _ ⟨0, 0, rfl, (Nat.le_of_ble_eq_true rfl), hsp, hP, hD, hS, lv_sub hl [2, 3, 1, 0] rfl⟩
    rintro nn ih_8 H locs ls ⟨g_6, g_7, rfl, hg_7, he_11, hP, hD, hS, hl⟩
    obtain ⟨S_10, hsp, hin_12, hout_13⟩ := itr_step hlf_9 he_11
    refine lv_iload_n hx hb dX9_points_19 rfl (lv_at hl 3 rfl) ?_
    refine lv_aload_n hx hb dX9_points_20 rfl (lv_at hl 0 rfl) ?_
    refine va_calli (va_runV (As := []) (rest := [.int (nI g_7)]) ⟨hx, hb, hml, hown, hts⟩ (c_EM_clocks l dC dI _ ad ck 0 x16 x18 x19 x20 x21 x22 x23 x24 x25 x26 x27 x28 x29 x30 x33 x45 z46_2 x52 x53 x61 x62 x63 x65 x66 f1 f2 f3 q4 q5 q6 q7 f8 q9 q10 f11 m12_0 m12_1 m13_0 m13_1 m14_0 m14_1 m15_0 m15_1 f17 q31 f32 f34 f35 f36 f37 q38 f39 f40 f41 m42_0 m42_1 f43 f44 f47 f48 f49 f50 f51 q54 q55 q56 f57 q58 f59 f60 f64 hx16 hx18 hx19 hx21 hx22 hx26 hx28 hx29 hx30 hx33 (Nat.le_trans hz46_2 (Nat.le_of_ble_eq_true rfl)) hx52 hx53 hx61 hx62 hx63 hx65 hm12_0 hm12_1 hm13_0 hm13_1 hm14_0 hm14_1 hm15_0 hm15_1 hm42_0 hm42_1) (cwV 0 hts g_EM_points_EM_clocks rfl rfl rfl (by decide +kernel) ⟨Nat.le_of_ble_eq_true rfl, Nat.le_of_ble_eq_true rfl⟩) ⟨pu_bl, va_recv hK hP (ci := 9) (q0 := 0) rfl rfl, pu_in hP hK hD⟩ rfl rfl hl.1 rfl (lv_room (Nat.le_of_ble_eq_true rfl)) dX9_points_21 ⟨Nat.le_of_ble_eq_true rfl, Nat.le_of_ble_eq_true rfl⟩) hS (fun q _ h => pu_fr hS hA q h) (pu_fr hS hA) (fun r_14 u t H1 locs ht hvm hw hB hz1 hk1 hS => ?_)
    have hP := pu_keep hP hk1
    clear hk1 hz1 ht hvm
    generalize H1 = H at hP hS ⊢
    obtain ⟨u_15, hu_15, rfl, iu_15⟩ := hw
    replace hsp := hsp.trans (slet_eq iu_15)
    obtain ⟨JR_18, hJR_18, hsp⟩ := slet_ex hsp
    refine pu_join (fun H locs ls st => ∃ (g_16 : Nat), st = [.int (nI g_16), .int (nI g_7)] ∧ (1 ≤ g_16 ∧ g_16 ≤ 22) ∧ g_16 = JR_18 ∧ va_P (dC, dI) vwCl (mo_w ad ck 0 (nI x16) (nI x18) (nI x19) x20 (nI x21) (nI x22) x23 x24 x25 (nI x26) x27 (nI x28) (nI x29) (nI x30) (nI x33) x45 (nI z46_2) (nI x52) (nI x53) (nI x61) (nI x62) (nI x63) (nI x65) x66 f1 f2 f3 (bN 3 q4) (bN 7 q5) (bN 7 q6) (bN 4 q7) f8 (bN 2 q9) (bH q10) f11 (b2 m12_0 m12_1) (b2 m13_0 m13_1) (b2 m14_0 m14_1) (b2m m15_0 m15_1) f17 (bA 159 q31) f32 f34 f35 f36 f37 (bN 7 q38) f39 f40 f41 (b2 m42_0 m42_1) f43 f44 f47 f48 f49 f50 f51 (bN 13 q54) (bN 120 q55) (bN 120 q56) f57 (bN 120 q58) f59 f60 f64) H ∧ va_D A (mo_w ad ck 0 (nI x16) (nI x18) (nI x19) x20 (nI x21) (nI x22) x23 x24 x25 (nI x26) x27 (nI x28) (nI x29) (nI x30) (nI x33) x45 (nI z46_2) (nI x52) (nI x53) (nI x61) (nI x62) (nI x63) (nI x65) x66 f1 f2 f3 (bN 3 q4) (bN 7 q5) (bN 7 q6) (bN 4 q7) f8 (bN 2 q9) (bH q10) f11 (b2 m12_0 m12_1) (b2 m13_0 m13_1) (b2 m14_0 m14_1) (b2m m15_0 m15_1) f17 (bA 159 q31) f32 f34 f35 f36 f37 (bN 7 q38) f39 f40 f41 (b2 m42_0 m42_1) f43 f44 f47 f48 f49 f50 f51 (bN 13 q54) (bN 120 q55) (bN 120 q56) f57 (bN 120 q58) f59 f60 f64) ∧ va_S A s.heap H locs ∧ lv_has ls 6 [(0, .ref (ad 0)), (1, .int (nI n_3)), (2, .int g_6), (3, .int (nI g_7))]) 33 ?_ (fun j_17 => ?_)
    · rintro H locs ls st ⟨g_16, rfl, hg_16, he_19, hP, hD, hS, hl⟩
      rw [← he_19] at hsp
      refine lv_icmp_ge (tgt := 131) hx hb dX9_points_33 (by decide) (fun c_20 => ?_) (fun c_20 => ?_)
      · have c_20 : g_16 ≤ g_7 := (nI_leI (a := g_16) (b := g_7) (Nat.lt_of_le_of_lt hg_16.2 (Nat.le_of_ble_eq_true rfl)) (Nat.lt_of_le_of_lt hg_7 (Nat.le_of_ble_eq_true rfl))).mp c_20
        replace hsp := hsp.trans (if_pos c_20)
        replace hsp := hout_13 _ hsp
        refine lv_iload_n hx hb dX9_points_131 rfl (lv_at hl 2 rfl) ?_
        exact W.iret (v := g_6) hx hb hr (fun t ht hW => ⟨⟨g_6, (), rfl, (congrArg Prod.fst (hsp.symm.trans hRR)), ⟨0, z46_2, ⟨by rw [ht]; exact hP, va_K.moved hW.alike hK, hD⟩, (Nat.le_trans hz46_2 (Nat.le_of_ble_eq_true rfl)), (congrArg Prod.snd (hsp.symm.trans hRR))⟩⟩, hS.F ht⟩) hS.2.2 dX9_points_132
      · have c_20 : ¬ g_16 ≤ g_7 := fun z => c_20 ((nI_leI (a := g_16) (b := g_7) (Nat.lt_of_le_of_lt hg_16.2 (Nat.le_of_ble_eq_true rfl)) (Nat.lt_of_le_of_lt hg_7 (Nat.le_of_ble_eq_true rfl))).mpr z)
        replace hsp := hsp.trans (if_neg c_20)
        refine lv_iconst (v := 0) hx hb dX9_points_36 (by decide) ?_
        refine lv_istore (lv' := [(4, .int 0), (0, .ref (ad 0)), (1, .int (nI n_3)), (2, .int g_6), (3, .int (nI g_7))]) hx hb dX9_points_37 hl (by decide) rfl (fun ls hl => ?_)
        obtain ⟨lf_26, dlf_26, hlf_26, hsp⟩ := itr_ex hsp
        delta sp_EM_points_L2 at hlf_26
        refine pu_while (fun nn H locs ls => ∃ (g_23 : Int32) (g_24 : Nat), nn = 22 - g_24 ∧ g_24 ≤ 22 ∧ S_10 = itrv dlf_26 lf_26 (g_23, g_24) ∧ va_P (dC, dI) vwCl (mo_w ad ck 0 (nI x16) (nI x18) (nI x19) x20 (nI x21) (nI x22) x23 x24 x25 (nI x26) x27 (nI x28) (nI x29) (nI x30) (nI x33) x45 (nI z46_2) (nI x52) (nI x53) (nI x61) (nI x62) (nI x63) (nI x65) x66 f1 f2 f3 (bN 3 q4) (bN 7 q5) (bN 7 q6) (bN 4 q7) f8 (bN 2 q9) (bH q10) f11 (b2 m12_0 m12_1) (b2 m13_0 m13_1) (b2 m14_0 m14_1) (b2m m15_0 m15_1) f17 (bA 159 q31) f32 f34 f35 f36 f37 (bN 7 q38) f39 f40 f41 (b2 m42_0 m42_1) f43 f44 f47 f48 f49 f50 f51 (bN 13 q54) (bN 120 q55) (bN 120 q56) f57 (bN 120 q58) f59 f60 f64) H ∧ va_D A (mo_w ad ck 0 (nI x16) (nI x18) (nI x19) x20 (nI x21) (nI x22) x23 x24 x25 (nI x26) x27 (nI x28) (nI x29) (nI x30) (nI x33) x45 (nI z46_2) (nI x52) (nI x53) (nI x61) (nI x62) (nI x63) (nI x65) x66 f1 f2 f3 (bN 3 q4) (bN 7 q5) (bN 7 q6) (bN 4 q7) f8 (bN 2 q9) (bH q10) f11 (b2 m12_0 m12_1) (b2 m13_0 m13_1) (b2 m14_0 m14_1) (b2m m15_0 m15_1) f17 (bA 159 q31) f32 f34 f35 f36 f37 (bN 7 q38) f39 f40 f41 (b2 m42_0 m42_1) f43 f44 f47 f48 f49 f50 f51 (bN 13 q54) (bN 120 q55) (bN 120 q56) f57 (bN 120 q58) f59 f60 f64) ∧ va_S A s.heap H locs ∧ lv_has ls 6 [(0, .ref (ad 0)), (1, .int (nI n_3)), (2, .int g_23), (3, .int (nI g_7)), (4, .int (nI g_24))]) 39 ?_ _ _ _ _ ⟨g_6, 0, rfl, (Nat.le_of_ble_eq_true rfl), hsp, hP, hD, hS, lv_sub hl [1, 2, 3, 4, 0] rfl⟩
        rintro nn ih_25 H locs ls ⟨g_23, g_24, rfl, hg_24, he_28, hP, hD, hS, hl⟩
        obtain ⟨S_27, hsp, hin_29, hout_30⟩ := itr_step hlf_26 he_28
        refine lv_iload hx hb dX9_points_39 (lv_at hl 4 rfl) ?_
        refine lv_aload_n hx hb dX9_points_41 rfl (lv_at hl 0 rfl) ?_
        refine va_calli (va_runV (As := []) (rest := [.int (nI g_24)]) ⟨hx, hb, hml, hown, hts⟩ (c_EM_clocks l dC dI _ ad ck 0 x16 x18 x19 x20 x21 x22 x23 x24 x25 x26 x27 x28 x29 x30 x33 x45 z46_2 x52 x53 x61 x62 x63 x65 x66 f1 f2 f3 q4 q5 q6 q7 f8 q9 q10 f11 m12_0 m12_1 m13_0 m13_1 m14_0 m14_1 m15_0 m15_1 f17 q31 f32 f34 f35 f36 f37 q38 f39 f40 f41 m42_0 m42_1 f43 f44 f47 f48 f49 f50 f51 q54 q55 q56 f57 q58 f59 f60 f64 hx16 hx18 hx19 hx21 hx22 hx26 hx28 hx29 hx30 hx33 (Nat.le_trans hz46_2 (Nat.le_of_ble_eq_true rfl)) hx52 hx53 hx61 hx62 hx63 hx65 hm12_0 hm12_1 hm13_0 hm13_1 hm14_0 hm14_1 hm15_0 hm15_1 hm42_0 hm42_1) (cwV 0 hts g_EM_points_EM_clocks rfl rfl rfl (by decide +kernel) ⟨Nat.le_of_ble_eq_true rfl, Nat.le_of_ble_eq_true rfl⟩) ⟨pu_bl, va_recv hK hP (ci := 9) (q0 := 0) rfl rfl, pu_in hP hK hD⟩ rfl rfl hl.1 rfl (lv_room (Nat.le_of_ble_eq_true rfl)) dX9_points_42 ⟨Nat.le_of_ble_eq_true rfl, Nat.le_of_ble_eq_true rfl⟩) hS (fun q _ h => pu_fr hS hA q h) (pu_fr hS hA) (fun r_31 u t H1 locs ht hvm hw hB hz1 hk1 hS => ?_)
        have hP := pu_keep hP hk1
        clear hk1 hz1 ht hvm
        generalize H1 = H at hP hS ⊢
        obtain ⟨u_32, hu_32, rfl, iu_32⟩ := hw
        replace hsp := hsp.trans (slet_eq iu_32)
        refine lv_iconst (v := 1) hx hb dX9_points_45 (by decide) ?_
        obtain ⟨JR_35, hJR_35, hsp⟩ := slet_ex hsp
        refine pu_join (fun H locs ls st => ∃ (g_33 : Nat), st = [.int (nI g_33), .int (nI g_24)] ∧ (1 ≤ g_33 ∧ g_33 ≤ 22) ∧ g_33 = JR_35 ∧ va_P (dC, dI) vwCl (mo_w ad ck 0 (nI x16) (nI x18) (nI x19) x20 (nI x21) (nI x22) x23 x24 x25 (nI x26) x27 (nI x28) (nI x29) (nI x30) (nI x33) x45 (nI z46_2) (nI x52) (nI x53) (nI x61) (nI x62) (nI x63) (nI x65) x66 f1 f2 f3 (bN 3 q4) (bN 7 q5) (bN 7 q6) (bN 4 q7) f8 (bN 2 q9) (bH q10) f11 (b2 m12_0 m12_1) (b2 m13_0 m13_1) (b2 m14_0 m14_1) (b2m m15_0 m15_1) f17 (bA 159 q31) f32 f34 f35 f36 f37 (bN 7 q38) f39 f40 f41 (b2 m42_0 m42_1) f43 f44 f47 f48 f49 f50 f51 (bN 13 q54) (bN 120 q55) (bN 120 q56) f57 (bN 120 q58) f59 f60 f64) H ∧ va_D A (mo_w ad ck 0 (nI x16) (nI x18) (nI x19) x20 (nI x21) (nI x22) x23 x24 x25 (nI x26) x27 (nI x28) (nI x29) (nI x30) (nI x33) x45 (nI z46_2) (nI x52) (nI x53) (nI x61) (nI x62) (nI x63) (nI x65) x66 f1 f2 f3 (bN 3 q4) (bN 7 q5) (bN 7 q6) (bN 4 q7) f8 (bN 2 q9) (bH q10) f11 (b2 m12_0 m12_1) (b2 m13_0 m13_1) (b2 m14_0 m14_1) (b2m m15_0 m15_1) f17 (bA 159 q31) f32 f34 f35 f36 f37 (bN 7 q38) f39 f40 f41 (b2 m42_0 m42_1) f43 f44 f47 f48 f49 f50 f51 (bN 13 q54) (bN 120 q55) (bN 120 q56) f57 (bN 120 q58) f59 f60 f64) ∧ va_S A s.heap H locs ∧ lv_has ls 6 [(0, .ref (ad 0)), (1, .int (nI n_3)), (2, .int g_23), (3, .int (nI g_7)), (4, .int (nI g_24))]) 55 ?_ (fun j_34 => ?_)
        · rintro H locs ls st ⟨g_33, rfl, hg_33, he_36, hP, hD, hS, hl⟩
          rw [← he_36] at hsp
          refine lv_icmp_ge (tgt := 125) hx hb dX9_points_55 (by decide) (fun c_37 => ?_) (fun c_37 => ?_)
          · have c_37 : g_33 ≤ g_24 := (nI_leI (a := g_33) (b := g_24) (Nat.lt_of_le_of_lt hg_33.2 (Nat.le_of_ble_eq_true rfl)) (Nat.lt_of_le_of_lt hg_24 (Nat.le_of_ble_eq_true rfl))).mp c_37
            replace hsp := hsp.trans (if_pos c_37)
            replace hsp := hout_30 _ hsp
            refine lv_iinc (v := (nI (g_7 + 1))) (lv' := [(3, .int (nI (g_7 + 1))), (0, .ref (ad 0)), (1, .int (nI n_3)), (2, .int g_23), (4, .int (nI g_24))]) hx hb dX9_points_125 hl (k := 3) rfl (nI_1 _) (by decide) rfl (fun ls hl => ?_)
            refine lv_goto (tgt := 19) hx hb dX9_points_128 (by decide) ?_
            exact ih_8 (22 - (g_7 + 1)) (by omega) _ _ _ ⟨g_23, (g_7 + 1), rfl, (by omega), hin_12 _ hsp, hP, hD, hS, lv_sub hl [1, 2, 3, 0] rfl⟩
          · have c_37 : ¬ g_33 ≤ g_24 := fun z => c_37 ((nI_leI (a := g_33) (b := g_24) (Nat.lt_of_le_of_lt hg_33.2 (Nat.le_of_ble_eq_true rfl)) (Nat.lt_of_le_of_lt hg_24 (Nat.le_of_ble_eq_true rfl))).mpr z)
            replace hsp := hsp.trans (if_neg c_37)
            refine lv_iconst (v := 0) hx hb dX9_points_58 (by decide) ?_
            refine lv_istore (lv' := [(5, .int 0), (0, .ref (ad 0)), (1, .int (nI n_3)), (2, .int g_23), (3, .int (nI g_7)), (4, .int (nI g_24))]) hx hb dX9_points_59 hl (by decide) rfl (fun ls hl => ?_)
            obtain ⟨lf_43, dlf_43, hlf_43, hsp⟩ := itr_ex hsp
            delta sp_EM_points_L1 at hlf_43
            refine pu_while (fun nn H locs ls => ∃ (g_40 : Int32) (g_41 : Nat), nn = 22 - g_41 ∧ g_41 ≤ 22 ∧ S_27 = itrv dlf_43 lf_43 (g_40, g_41) ∧ va_P (dC, dI) vwCl (mo_w ad ck 0 (nI x16) (nI x18) (nI x19) x20 (nI x21) (nI x22) x23 x24 x25 (nI x26) x27 (nI x28) (nI x29) (nI x30) (nI x33) x45 (nI z46_2) (nI x52) (nI x53) (nI x61) (nI x62) (nI x63) (nI x65) x66 f1 f2 f3 (bN 3 q4) (bN 7 q5) (bN 7 q6) (bN 4 q7) f8 (bN 2 q9) (bH q10) f11 (b2 m12_0 m12_1) (b2 m13_0 m13_1) (b2 m14_0 m14_1) (b2m m15_0 m15_1) f17 (bA 159 q31) f32 f34 f35 f36 f37 (bN 7 q38) f39 f40 f41 (b2 m42_0 m42_1) f43 f44 f47 f48 f49 f50 f51 (bN 13 q54) (bN 120 q55) (bN 120 q56) f57 (bN 120 q58) f59 f60 f64) H ∧ va_D A (mo_w ad ck 0 (nI x16) (nI x18) (nI x19) x20 (nI x21) (nI x22) x23 x24 x25 (nI x26) x27 (nI x28) (nI x29) (nI x30) (nI x33) x45 (nI z46_2) (nI x52) (nI x53) (nI x61) (nI x62) (nI x63) (nI x65) x66 f1 f2 f3 (bN 3 q4) (bN 7 q5) (bN 7 q6) (bN 4 q7) f8 (bN 2 q9) (bH q10) f11 (b2 m12_0 m12_1) (b2 m13_0 m13_1) (b2 m14_0 m14_1) (b2m m15_0 m15_1) f17 (bA 159 q31) f32 f34 f35 f36 f37 (bN 7 q38) f39 f40 f41 (b2 m42_0 m42_1) f43 f44 f47 f48 f49 f50 f51 (bN 13 q54) (bN 120 q55) (bN 120 q56) f57 (bN 120 q58) f59 f60 f64) ∧ va_S A s.heap H locs ∧ lv_has ls 6 [(0, .ref (ad 0)), (1, .int (nI n_3)), (2, .int g_40), (3, .int (nI g_7)), (4, .int (nI g_24)), (5, .int (nI g_41))]) 61 ?_ _ _ _ _ ⟨g_23, 0, rfl, (Nat.le_of_ble_eq_true rfl), hsp, hP, hD, hS, lv_sub hl [1, 2, 3, 4, 5, 0] rfl⟩
            rintro nn ih_42 H locs ls ⟨g_40, g_41, rfl, hg_41, he_45, hP, hD, hS, hl⟩
            obtain ⟨S_44, hsp, hin_46, hout_47⟩ := itr_step hlf_43 he_45
            refine lv_iload hx hb dX9_points_61 (lv_at hl 5 rfl) ?_
            refine lv_aload_n hx hb dX9_points_63 rfl (lv_at hl 0 rfl) ?_
            refine va_calli (va_runV (As := []) (rest := [.int (nI g_41)]) ⟨hx, hb, hml, hown, hts⟩ (c_EM_clocks l dC dI _ ad ck 0 x16 x18 x19 x20 x21 x22 x23 x24 x25 x26 x27 x28 x29 x30 x33 x45 z46_2 x52 x53 x61 x62 x63 x65 x66 f1 f2 f3 q4 q5 q6 q7 f8 q9 q10 f11 m12_0 m12_1 m13_0 m13_1 m14_0 m14_1 m15_0 m15_1 f17 q31 f32 f34 f35 f36 f37 q38 f39 f40 f41 m42_0 m42_1 f43 f44 f47 f48 f49 f50 f51 q54 q55 q56 f57 q58 f59 f60 f64 hx16 hx18 hx19 hx21 hx22 hx26 hx28 hx29 hx30 hx33 (Nat.le_trans hz46_2 (Nat.le_of_ble_eq_true rfl)) hx52 hx53 hx61 hx62 hx63 hx65 hm12_0 hm12_1 hm13_0 hm13_1 hm14_0 hm14_1 hm15_0 hm15_1 hm42_0 hm42_1) (cwV 0 hts g_EM_points_EM_clocks rfl rfl rfl (by decide +kernel) ⟨Nat.le_of_ble_eq_true rfl, Nat.le_of_ble_eq_true rfl⟩) ⟨pu_bl, va_recv hK hP (ci := 9) (q0 := 0) rfl rfl, pu_in hP hK hD⟩ rfl rfl hl.1 rfl (lv_room (Nat.le_of_ble_eq_true rfl)) dX9_points_64 ⟨Nat.le_of_ble_eq_true rfl, Nat.le_of_ble_eq_true rfl⟩) hS (fun q _ h => pu_fr hS hA q h) (pu_fr hS hA) (fun r_48 u t H1 locs ht hvm hw hB hz1 hk1 hS => ?_)
            have hP := pu_keep hP hk1
            clear hk1 hz1 ht hvm
            generalize H1 = H at hP hS ⊢
            obtain ⟨u_49, hu_49, rfl, iu_49⟩ := hw
            replace hsp := hsp.trans (slet_eq iu_49)
            refine lv_iconst (v := 2) hx hb dX9_points_67 (by decide) ?_
            obtain ⟨JR_52, hJR_52, hsp⟩ := slet_ex hsp
            refine pu_join (fun H locs ls st => ∃ (g_50 : Nat), st = [.int (nI g_50), .int (nI g_41)] ∧ (1 ≤ g_50 ∧ g_50 ≤ 22) ∧ g_50 = JR_52 ∧ va_P (dC, dI) vwCl (mo_w ad ck 0 (nI x16) (nI x18) (nI x19) x20 (nI x21) (nI x22) x23 x24 x25 (nI x26) x27 (nI x28) (nI x29) (nI x30) (nI x33) x45 (nI z46_2) (nI x52) (nI x53) (nI x61) (nI x62) (nI x63) (nI x65) x66 f1 f2 f3 (bN 3 q4) (bN 7 q5) (bN 7 q6) (bN 4 q7) f8 (bN 2 q9) (bH q10) f11 (b2 m12_0 m12_1) (b2 m13_0 m13_1) (b2 m14_0 m14_1) (b2m m15_0 m15_1) f17 (bA 159 q31) f32 f34 f35 f36 f37 (bN 7 q38) f39 f40 f41 (b2 m42_0 m42_1) f43 f44 f47 f48 f49 f50 f51 (bN 13 q54) (bN 120 q55) (bN 120 q56) f57 (bN 120 q58) f59 f60 f64) H ∧ va_D A (mo_w ad ck 0 (nI x16) (nI x18) (nI x19) x20 (nI x21) (nI x22) x23 x24 x25 (nI x26) x27 (nI x28) (nI x29) (nI x30) (nI x33) x45 (nI z46_2) (nI x52) (nI x53) (nI x61) (nI x62) (nI x63) (nI x65) x66 f1 f2 f3 (bN 3 q4) (bN 7 q5) (bN 7 q6) (bN 4 q7) f8 (bN 2 q9) (bH q10) f11 (b2 m12_0 m12_1) (b2 m13_0 m13_1) (b2 m14_0 m14_1) (b2m m15_0 m15_1) f17 (bA 159 q31) f32 f34 f35 f36 f37 (bN 7 q38) f39 f40 f41 (b2 m42_0 m42_1) f43 f44 f47 f48 f49 f50 f51 (bN 13 q54) (bN 120 q55) (bN 120 q56) f57 (bN 120 q58) f59 f60 f64) ∧ va_S A s.heap H locs ∧ lv_has ls 6 [(0, .ref (ad 0)), (1, .int (nI n_3)), (2, .int g_40), (3, .int (nI g_7)), (4, .int (nI g_24)), (5, .int (nI g_41))]) 77 ?_ (fun j_51 => ?_)
            · rintro H locs ls st ⟨g_50, rfl, hg_50, he_53, hP, hD, hS, hl⟩
              rw [← he_53] at hsp
              refine lv_icmp_ge (tgt := 119) hx hb dX9_points_77 (by decide) (fun c_54 => ?_) (fun c_54 => ?_)
              · have c_54 : g_50 ≤ g_41 := (nI_leI (a := g_50) (b := g_41) (Nat.lt_of_le_of_lt hg_50.2 (Nat.le_of_ble_eq_true rfl)) (Nat.lt_of_le_of_lt hg_41 (Nat.le_of_ble_eq_true rfl))).mp c_54
                replace hsp := hsp.trans (if_pos c_54)
                replace hsp := hout_47 _ hsp
                refine lv_iinc (v := (nI (g_24 + 1))) (lv' := [(4, .int (nI (g_24 + 1))), (0, .ref (ad 0)), (1, .int (nI n_3)), (2, .int g_40), (3, .int (nI g_7)), (5, .int (nI g_41))]) hx hb dX9_points_119 hl (k := 4) rfl (nI_1 _) (by decide) rfl (fun ls hl => ?_)
                refine lv_goto (tgt := 39) hx hb dX9_points_122 (by decide) ?_
                exact ih_25 (22 - (g_24 + 1)) (by omega) _ _ _ ⟨g_40, (g_24 + 1), rfl, (by omega), hin_29 _ hsp, hP, hD, hS, lv_sub hl [1, 2, 3, 4, 0] rfl⟩
              · have c_54 : ¬ g_50 ≤ g_41 := fun z => c_54 ((nI_leI (a := g_50) (b := g_41) (Nat.lt_of_le_of_lt hg_50.2 (Nat.le_of_ble_eq_true rfl)) (Nat.lt_of_le_of_lt hg_41 (Nat.le_of_ble_eq_true rfl))).mpr z)
                replace hsp := hsp.trans (if_neg c_54)
                refine lv_iload_n hx hb dX9_points_80 rfl (lv_at hl 2 rfl) ?_
                refine lv_aload_n hx hb dX9_points_81 rfl (lv_at hl 0 rfl) ?_
                refine lv_iload_n hx hb dX9_points_82 rfl (lv_at hl 1 rfl) ?_
                refine lv_sipush (v := 256) hx hb dX9_points_83 (by decide) ?_
                refine lv_iload_n hx hb dX9_points_86 rfl (lv_at hl 3 rfl) ?_
                refine lv_imul hx hb dX9_points_87 ?_
                refine lv_topi (fun y_55 ey_55 => ?_)
                obtain rfl : y_55 = (nI (256 * g_7)) := ey_55.trans (pk_mul 256 g_7)
                refine lv_sipush (v := 256) hx hb dX9_points_88 (by decide) ?_
                refine lv_iload hx hb dX9_points_91 (lv_at hl 4 rfl) ?_
                refine lv_imul hx hb dX9_points_93 ?_
                refine lv_topi (fun y_56 ey_56 => ?_)
                obtain rfl : y_56 = (nI (256 * g_24)) := ey_56.trans (pk_mul 256 g_24)
                refine lv_sipush (v := 256) hx hb dX9_points_94 (by decide) ?_
                refine lv_iload hx hb dX9_points_97 (lv_at hl 5 rfl) ?_
                refine lv_imul hx hb dX9_points_99 ?_
                refine lv_topi (fun y_57 ey_57 => ?_)
                obtain rfl : y_57 = (nI (256 * g_41)) := ey_57.trans (pk_mul 256 g_41)
                refine va_calli (va_runV (As := [.int (nI n_3), .int (nI (256 * g_7)), .int (nI (256 * g_24)), .int (nI (256 * g_41))]) (rest := [.int g_40]) ⟨hx, hb, hml, hown, hts⟩ (c_EM_hasTimes l dC dI _ ad ck 0 x16 x18 x19 x20 x21 x22 x23 x24 x25 x26 x27 x28 x29 x30 x33 x45 z46_2 x52 x53 x61 x62 x63 x65 x66 f1 f2 f3 q4 q5 q6 q7 f8 q9 q10 f11 m12_0 m12_1 m13_0 m13_1 m14_0 m14_1 m15_0 m15_1 f17 q31 f32 f34 f35 f36 f37 q38 f39 f40 f41 m42_0 m42_1 f43 f44 f47 f48 f49 f50 f51 q54 q55 q56 f57 q58 f59 f60 f64 n_3 (nI (256 * g_7)) (nI (256 * g_24)) (nI (256 * g_41)) hx16 hx18 hx19 hx21 hx22 hx26 hx28 hx29 hx30 hx33 (Nat.le_trans hz46_2 (Nat.le_of_ble_eq_true rfl)) hx52 hx53 hx61 hx62 hx63 hx65 hm12_0 hm12_1 hm13_0 hm13_1 hm14_0 hm14_1 hm15_0 hm15_1 hm42_0 hm42_1 (by omega)) (cwV 4 hts g_EM_points_EM_hasTimes rfl rfl rfl (by decide +kernel) ⟨Nat.le_of_ble_eq_true rfl, Nat.le_of_ble_eq_true rfl⟩) ⟨pu_bl, va_recv hK hP (ci := 9) (q0 := 0) rfl rfl, pu_in hP hK hD⟩ rfl rfl hl.1 rfl (lv_room (Nat.le_of_ble_eq_true rfl)) dX9_points_100 ⟨Nat.le_of_ble_eq_true rfl, Nat.le_of_ble_eq_true rfl⟩) hS (fun q _ h => pu_fr hS hA q h) (pu_fr hS hA) (fun r_58 u t H1 locs ht hvm hw hB hz1 hk1 hS => ?_)
                have hP := pu_keep hP hk1
                clear hk1 hz1 ht hvm
                generalize H1 = H at hP hS ⊢
                obtain ⟨u_59, hu_59, rfl, iu_59⟩ := hw
                replace hsp := hsp.trans (slet_eq iu_59)
                obtain ⟨JR_62, hJR_62, hsp⟩ := slet_ex hsp
                refine pu_join (fun H locs ls st => ∃ (g_60 : Nat), st = [.int (nI g_60), .int g_40] ∧ g_60 ≤ 1 ∧ g_60 = JR_62 ∧ va_P (dC, dI) vwCl (mo_w ad ck 0 (nI x16) (nI x18) (nI x19) x20 (nI x21) (nI x22) x23 x24 x25 (nI x26) x27 (nI x28) (nI x29) (nI x30) (nI x33) x45 (nI z46_2) (nI x52) (nI x53) (nI x61) (nI x62) (nI x63) (nI x65) x66 f1 f2 f3 (bN 3 q4) (bN 7 q5) (bN 7 q6) (bN 4 q7) f8 (bN 2 q9) (bH q10) f11 (b2 m12_0 m12_1) (b2 m13_0 m13_1) (b2 m14_0 m14_1) (b2m m15_0 m15_1) f17 (bA 159 q31) f32 f34 f35 f36 f37 (bN 7 q38) f39 f40 f41 (b2 m42_0 m42_1) f43 f44 f47 f48 f49 f50 f51 (bN 13 q54) (bN 120 q55) (bN 120 q56) f57 (bN 120 q58) f59 f60 f64) H ∧ va_D A (mo_w ad ck 0 (nI x16) (nI x18) (nI x19) x20 (nI x21) (nI x22) x23 x24 x25 (nI x26) x27 (nI x28) (nI x29) (nI x30) (nI x33) x45 (nI z46_2) (nI x52) (nI x53) (nI x61) (nI x62) (nI x63) (nI x65) x66 f1 f2 f3 (bN 3 q4) (bN 7 q5) (bN 7 q6) (bN 4 q7) f8 (bN 2 q9) (bH q10) f11 (b2 m12_0 m12_1) (b2 m13_0 m13_1) (b2 m14_0 m14_1) (b2m m15_0 m15_1) f17 (bA 159 q31) f32 f34 f35 f36 f37 (bN 7 q38) f39 f40 f41 (b2 m42_0 m42_1) f43 f44 f47 f48 f49 f50 f51 (bN 13 q54) (bN 120 q55) (bN 120 q56) f57 (bN 120 q58) f59 f60 f64) ∧ va_S A s.heap H locs ∧ lv_has ls 6 [(0, .ref (ad 0)), (1, .int (nI n_3)), (2, .int g_40), (3, .int (nI g_7)), (4, .int (nI g_24)), (5, .int (nI g_41))]) 111 ?_ (fun j_61 => ?_)
                · rintro H locs ls st ⟨g_60, rfl, hg_60, he_63, hP, hD, hS, hl⟩
                  rw [← he_63] at hsp
                  refine lv_iadd hx hb dX9_points_111 ?_
                  refine lv_topi (fun y_64 ey_64 => ?_)
                  replace hsp := hsp.trans (slet_eq ey_64)
                  refine lv_istore_n (lv' := [(2, .int y_64), (0, .ref (ad 0)), (1, .int (nI n_3)), (3, .int (nI g_7)), (4, .int (nI g_24)), (5, .int (nI g_41))]) hx hb dX9_points_112 rfl hl (by decide) rfl (fun ls hl => ?_)
                  refine lv_iinc (v := (nI (g_41 + 1))) (lv' := [(5, .int (nI (g_41 + 1))), (2, .int y_64), (0, .ref (ad 0)), (1, .int (nI n_3)), (3, .int (nI g_7)), (4, .int (nI g_24))]) hx hb dX9_points_113 hl (k := 5) rfl (nI_1 _) (by decide) rfl (fun ls hl => ?_)
                  refine lv_goto (tgt := 61) hx hb dX9_points_116 (by decide) ?_
                  exact ih_42 (22 - (g_41 + 1)) (by omega) _ _ _ ⟨y_64, (g_41 + 1), rfl, (by omega), hin_46 _ hsp, hP, hD, hS, lv_sub hl [2, 3, 1, 4, 5, 0] rfl⟩
                have hsp := hJR_62
                refine lv_if_eq (tgt := 110) hx hb dX9_points_103 (by decide) (fun c_65 => ?_) (fun c_65 => ?_)
                · have c_65 : u_59 = 0 := (nI_eq (a := u_59) (b := 0) (Nat.lt_of_le_of_lt hu_59 (Nat.le_of_ble_eq_true rfl)) (Nat.le_of_ble_eq_true rfl)).mp c_65
                  replace hsp := hsp.trans (if_pos c_65)
                  refine lv_iconst (v := 0) hx hb dX9_points_110 (by decide) ?_
                  exact j_61 _ _ _ _ ⟨0, rfl, (Nat.le_of_ble_eq_true rfl), hsp.symm, hP, hD, hS, lv_sub hl [0, 1, 2, 3, 4, 5] rfl⟩
                · have c_65 : ¬ u_59 = 0 := fun z => c_65 ((nI_eq (a := u_59) (b := 0) (Nat.lt_of_le_of_lt hu_59 (Nat.le_of_ble_eq_true rfl)) (Nat.le_of_ble_eq_true rfl)).mpr z)
                  replace hsp := hsp.trans (if_neg c_65)
                  refine lv_iconst (v := 1) hx hb dX9_points_106 (by decide) ?_
                  refine lv_goto (tgt := 111) hx hb dX9_points_107 (by decide) ?_
                  exact j_61 _ _ _ _ ⟨1, rfl, (Nat.le_of_ble_eq_true rfl), hsp.symm, hP, hD, hS, lv_sub hl [0, 1, 2, 3, 4, 5] rfl⟩
            have hsp := hJR_52
            refine lv_icmp_le (tgt := 76) hx hb dX9_points_68 (by decide) (fun c_66 => ?_) (fun c_66 => ?_)
            · have c_66 : u_49 ≤ 2 := (nI_leI (a := u_49) (b := 2) (Nat.lt_of_le_of_lt hu_49 (Nat.le_of_ble_eq_true rfl)) (Nat.le_of_ble_eq_true rfl)).mp c_66
              replace hsp := hsp.trans (if_pos c_66)
              refine lv_iconst (v := 1) hx hb dX9_points_76 (by decide) ?_
              exact j_51 _ _ _ _ ⟨1, rfl, ⟨by omega, by omega⟩, hsp.symm, hP, hD, hS, lv_sub hl [0, 1, 2, 3, 4, 5] rfl⟩
            · have c_66 : ¬ u_49 ≤ 2 := fun z => c_66 ((nI_leI (a := u_49) (b := 2) (Nat.lt_of_le_of_lt hu_49 (Nat.le_of_ble_eq_true rfl)) (Nat.le_of_ble_eq_true rfl)).mpr z)
              replace hsp := hsp.trans (if_neg c_66)
              refine lv_bipush (v := 22) hx hb dX9_points_71 (by decide) ?_
              refine lv_goto (tgt := 77) hx hb dX9_points_73 (by decide) ?_
              exact j_51 _ _ _ _ ⟨22, rfl, ⟨by omega, by omega⟩, hsp.symm, hP, hD, hS, lv_sub hl [0, 1, 2, 3, 4, 5] rfl⟩
        have hsp := hJR_35
        refine lv_icmp_le (tgt := 54) hx hb dX9_points_46 (by decide) (fun c_67 => ?_) (fun c_67 => ?_)
        · have c_67 : u_32 ≤ 1 := (nI_leI (a := u_32) (b := 1) (Nat.lt_of_le_of_lt hu_32 (Nat.le_of_ble_eq_true rfl)) (Nat.le_of_ble_eq_true rfl)).mp c_67
          replace hsp := hsp.trans (if_pos c_67)
          refine lv_iconst (v := 1) hx hb dX9_points_54 (by decide) ?_
          exact j_34 _ _ _ _ ⟨1, rfl, ⟨by omega, by omega⟩, hsp.symm, hP, hD, hS, lv_sub hl [0, 1, 2, 3, 4] rfl⟩
        · have c_67 : ¬ u_32 ≤ 1 := fun z => c_67 ((nI_leI (a := u_32) (b := 1) (Nat.lt_of_le_of_lt hu_32 (Nat.le_of_ble_eq_true rfl)) (Nat.le_of_ble_eq_true rfl)).mpr z)
          replace hsp := hsp.trans (if_neg c_67)
          refine lv_bipush (v := 22) hx hb dX9_points_49 (by decide) ?_
          refine lv_goto (tgt := 55) hx hb dX9_points_51 (by decide) ?_
          exact j_34 _ _ _ _ ⟨22, rfl, ⟨by omega, by omega⟩, hsp.symm, hP, hD, hS, lv_sub hl [0, 1, 2, 3, 4] rfl⟩
    have hsp := hJR_18
    refine lv_if_le (tgt := 32) hx hb dX9_points_24 (by decide) (fun c_68 => ?_) (fun c_68 => ?_)
    · have c_68 : u_15 ≤ 0 := (nI_leI (a := u_15) (b := 0) (Nat.lt_of_le_of_lt hu_15 (Nat.le_of_ble_eq_true rfl)) (Nat.le_of_ble_eq_true rfl)).mp c_68
      replace hsp := hsp.trans (if_pos c_68)
      refine lv_iconst (v := 1) hx hb dX9_points_32 (by decide) ?_
      exact j_17 _ _ _ _ ⟨1, rfl, ⟨by omega, by omega⟩, hsp.symm, hP, hD, hS, lv_sub hl [0, 1, 2, 3] rfl⟩
    · have c_68 : ¬ u_15 ≤ 0 := fun z => c_68 ((nI_leI (a := u_15) (b := 0) (Nat.lt_of_le_of_lt hu_15 (Nat.le_of_ble_eq_true rfl)) (Nat.le_of_ble_eq_true rfl)).mpr z)
      replace hsp := hsp.trans (if_neg c_68)
      refine lv_bipush (v := 22) hx hb dX9_points_27 (by decide) ?_
      refine lv_goto (tgt := 33) hx hb dX9_points_29 (by decide) ?_
      exact j_17 _ _ _ _ ⟨22, rfl, ⟨by omega, by omega⟩, hsp.symm, hP, hD, hS, lv_sub hl [0, 1, 2, 3] rfl⟩
  · replace hsp := hsp.trans (if_neg hn)
    refine lv_if_ne (tgt := 15) hx hb dX9_points_10 (by decide) (fun z => absurd z (by decide)) (fun _ => ?_)
    refine lv_iconst (v := (-1)) hx hb dX9_points_13 (by decide) ?_
    exact W.iret (v := (-1)) hx hb hr (fun t ht hW => ⟨⟨(-1), (), rfl, (congrArg Prod.fst (hsp.symm.trans hRR)), ⟨0, z46_2, ⟨by rw [ht]; exact hP, va_K.moved hW.alike hK, hD⟩, (Nat.le_trans hz46_2 (Nat.le_of_ble_eq_true rfl)), (congrArg Prod.snd (hsp.symm.trans hRR))⟩⟩, hS.F ht⟩) hS.2.2 dX9_points_14
