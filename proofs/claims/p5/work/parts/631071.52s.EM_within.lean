theorem dX9_within_0 : decode cX9_within 0 = .ok (.aload_n 0, 1) := by decide +kernel
theorem dX9_within_1 : decode cX9_within 1 = .ok (.iconst 0, 1) := by decide +kernel
theorem dX9_within_2 : decode cX9_within 2 = .ok (.putfield 142, 3) := by decide +kernel
theorem dX9_within_5 : decode cX9_within 5 = .ok (.aload_n 0, 1) := by decide +kernel
theorem dX9_within_6 : decode cX9_within 6 = .ok (.iload_n 1, 1) := by decide +kernel
theorem dX9_within_7 : decode cX9_within 7 = .ok (.invokevirtual 387, 3) := by decide +kernel
theorem dX9_within_10 : decode cX9_within 10 = .ok (.ifCond .eq 11, 3) := by decide +kernel
theorem dX9_within_13 : decode cX9_within 13 = .ok (.aload_n 0, 1) := by decide +kernel
theorem dX9_within_14 : decode cX9_within 14 = .ok (.iload_n 2, 1) := by decide +kernel
theorem dX9_within_15 : decode cX9_within 15 = .ok (.invokevirtual 387, 3) := by decide +kernel
theorem dX9_within_18 : decode cX9_within 18 = .ok (.ifCond .ne 5, 3) := by decide +kernel
theorem dX9_within_21 : decode cX9_within 21 = .ok (.iconst (-1), 1) := by decide +kernel
theorem dX9_within_22 : decode cX9_within 22 = .ok (.ireturn, 1) := by decide +kernel
theorem dX9_within_23 : decode cX9_within 23 = .ok (.aload_n 0, 1) := by decide +kernel
theorem dX9_within_24 : decode cX9_within 24 = .ok (.getfield 68, 3) := by decide +kernel
theorem dX9_within_27 : decode cX9_within 27 = .ok (.bipush 25, 2) := by decide +kernel
theorem dX9_within_29 : decode cX9_within 29 = .ok (.iload_n 2, 1) := by decide +kernel
theorem dX9_within_30 : decode cX9_within 30 = .ok (.imul, 1) := by decide +kernel
theorem dX9_within_31 : decode cX9_within 31 = .ok (.aload_n 0, 1) := by decide +kernel
theorem dX9_within_32 : decode cX9_within 32 = .ok (.getfield 71, 3) := by decide +kernel
theorem dX9_within_35 : decode cX9_within 35 = .ok (.iconst 0, 1) := by decide +kernel
theorem dX9_within_36 : decode cX9_within 36 = .ok (.invokestatic 362, 3) := by decide +kernel
theorem dX9_within_39 : decode cX9_within 39 = .ok (.aload_n 0, 1) := by decide +kernel
theorem dX9_within_40 : decode cX9_within 40 = .ok (.iload_n 1, 1) := by decide +kernel
theorem dX9_within_41 : decode cX9_within 41 = .ok (.aload_n 0, 1) := by decide +kernel
theorem dX9_within_42 : decode cX9_within 42 = .ok (.getfield 71, 3) := by decide +kernel
theorem dX9_within_45 : decode cX9_within 45 = .ok (.iconst 0, 1) := by decide +kernel
theorem dX9_within_46 : decode cX9_within 46 = .ok (.invokevirtual 358, 3) := by decide +kernel
theorem dX9_within_49 : decode cX9_within 49 = .ok (.ifCond .eq 7, 3) := by decide +kernel
theorem dX9_within_52 : decode cX9_within 52 = .ok (.iconst 1, 1) := by decide +kernel
theorem dX9_within_53 : decode cX9_within 53 = .ok (.goto 4, 3) := by decide +kernel
theorem dX9_within_56 : decode cX9_within 56 = .ok (.iconst 0, 1) := by decide +kernel
theorem dX9_within_57 : decode cX9_within 57 = .ok (.ireturn, 1) := by decide +kernel
abbrev vs_EM_within : List Cond := .code yX9_within cX9_within 3 (some .int) :: VM
theorem g_EM_within_EM_isState : GoodIn vs_EM_within (wsV RX9 387 RX9 yX9_isState vs_EM_isState) := gm_V vm_263 vm_264 vm_265 vm_19 vm_266
theorem g_EM_within_EM_copies_nz : GoodIn vs_EM_within (va_wsS RX9 362 yX9_copies vs_EM_copies_nz) := gm_S vm_228 vm_229 vm_19 vm_230
theorem g_EM_within_EM_hasAll : GoodIn vs_EM_within (wsV RX9 358 RX9 yX9_hasAll vs_EM_hasAll) := gm_V vm_231 vm_232 vm_233 vm_19 vm_234
noncomputable def sp_EM_within (x16 : Nat) (x29 : Nat) (m12_0 : Nat) (m12_1 : Nat) (f34 : Nat → Int32) (f35 : Nat → Int32) (m42_0 : Nat) (p0 : Int32) (p1 : Int32) : Int32 × (Nat → Int32) × Int32 × Nat := (slet (sp_EM_isState x16 x29 m12_0 m12_1 m42_0 p0) (fun z46_2 => (if x29 = 1 ∧ (0 : Int32) ≤ p0 ∧ p0 < nI m42_0 then (slet ((p0 : Int32).toNatClampNeg) (fun n_3 => (slet (sp_EM_isState x16 x29 m12_0 m12_1 m42_0 p1) (fun z46_5 => (if x29 = 1 ∧ (0 : Int32) ≤ p1 ∧ p1 < nI m42_0 then (slet ((p1 : Int32).toNatClampNeg) (fun n_6 => (slet (sp_EM_copies_nz f34 f35 (25 * n_6)) (fun z35_9 => (slet (sp_EM_hasAll z46_5 f34 z35_9 n_3 0) (fun u_11 => (if u_11 = 0 then (0, z35_9, 0, z46_5) else (1, z35_9, 0, z46_5)))))))) else ((-1), f35, 0, z46_5)))))) else ((-1), f35, 0, z46_2))))
set_option maxHeartbeats 4000000 in
set_option maxRecDepth 100000 in
theorem c_EM_within (l : Launch) (dC : Nat → ClassId) (dI : Nat → Nat → Nat) (sz : Nat) (ad : Nat → Nat) (ck : Nat → ClassId) (x0 : Int32) (x16 : Nat) (x18 : Nat) (x19 : Nat) (x20 : Int32) (x21 : Nat) (x22 : Nat) (x23 : Int32) (x24 : Int32) (x25 : Int32) (x26 : Nat) (x27 : Int32) (x28 : Nat) (x29 : Nat) (x30 : Nat) (x33 : Nat) (x45 : Int32) (x46 : Nat) (x52 : Nat) (x53 : Nat) (x61 : Nat) (x62 : Nat) (x63 : Nat) (x65 : Nat) (x66 : Int32) (f1 : Nat → Int32) (f2 : Nat → Int32) (f3 : Nat → Int32) (q4 : Nat → Nat) (q5 : Nat → Nat) (q6 : Nat → Nat) (q7 : Nat → Nat) (f8 : Nat → Int32) (q9 : Nat → Nat) (q10 : Nat → Nat) (f11 : Nat → Int32) (m12_0 m12_1 : Nat) (m13_0 m13_1 : Nat) (m14_0 m14_1 : Nat) (m15_0 m15_1 : Nat) (f17 : Nat → Int32) (q31 : Nat → Nat) (f32 : Nat → Int32) (f34 : Nat → Int32) (f35 : Nat → Int32) (f36 : Nat → Int32) (f37 : Nat → Int32) (q38 : Nat → Nat) (f39 : Nat → Int32) (f40 : Nat → Int32) (f41 : Nat → Int32) (m42_0 m42_1 : Nat) (f43 : Nat → Int32) (f44 : Nat → Int32) (f47 : Nat → Int32) (f48 : Nat → Int32) (f49 : Nat → Int32) (f50 : Nat → Int32) (f51 : Nat → Int32) (q54 : Nat → Nat) (q55 : Nat → Nat) (q56 : Nat → Nat) (f57 : Nat → Int32) (q58 : Nat → Nat) (f59 : Nat → Int32) (f60 : Nat → Int32) (f64 : Nat → Int32) (p0 : Int32) (p1 : Int32) (hx16 : x16 ≤ 1) (hx18 : x18 ≤ 900) (hx19 : x19 ≤ 900) (hx21 : x21 ≤ 900) (hx22 : x22 ≤ 4) (hx26 : x26 ≤ 6) (hx28 : x28 ≤ 1) (hx29 : x29 ≤ 1) (hx30 : x30 ≤ 1) (hx33 : x33 ≤ 20) (hx46 : x46 ≤ 5) (hx52 : x52 ≤ 2400) (hx53 : x53 ≤ 119) (hx61 : x61 ≤ 119) (hx62 : x62 ≤ 2000) (hx63 : x63 ≤ 1) (hx65 : x65 ≤ 7) (hm12_0 : m12_0 ≤ 3) (hm12_1 : m12_1 ≤ 3) (hm13_0 : m13_0 ≤ 8) (hm13_1 : m13_1 ≤ 8) (hm14_0 : m14_0 ≤ 14) (hm14_1 : m14_1 ≤ 14) (hm15_0 : m15_0 ≤ 8) (hm15_1 : m15_1 ≤ 8) (hm42_0 : m42_0 ≤ 120) (hm42_1 : m42_1 ≤ 400) : Met l yX9_within vs_EM_within ({ frames := 2, cells := 0, slots := 0, locals := 43 }) (va_Pc [.ref (ad 0), .int p0, .int p1] (pu_B (dC, dI) (mo_w ad ck x0 (nI x16) (nI x18) (nI x19) x20 (nI x21) (nI x22) x23 x24 x25 (nI x26) x27 (nI x28) (nI x29) (nI x30) (nI x33) x45 (nI x46) (nI x52) (nI x53) (nI x61) (nI x62) (nI x63) (nI x65) x66 f1 f2 f3 (bN 3 q4) (bN 7 q5) (bN 7 q6) (bN 4 q7) f8 (bN 2 q9) (bH q10) f11 (b2 m12_0 m12_1) (b2 m13_0 m13_1) (b2 m14_0 m14_1) (b2m m15_0 m15_1) f17 (bA 159 q31) f32 f34 f35 f36 f37 (bN 7 q38) f39 f40 f41 (b2 m42_0 m42_1) f43 f44 f47 f48 f49 f50 f51 (bN 13 q54) (bN 120 q55) (bN 120 q56) f57 (bN 120 q58) f59 f60 f64) (mo_t ck) sz)) (va_Qi (fun (r : Int32) (_ : Unit) => r = (sp_EM_within x16 x29 m12_0 m12_1 f34 f35 m42_0 p0 p1).1) (fun _ t => ∃ (z35 : Nat → Int32) (z0 : Int32) (z46 : Nat), pu_E (dC, dI) (mo_w ad ck z0 (nI x16) (nI x18) (nI x19) x20 (nI x21) (nI x22) x23 x24 x25 (nI x26) x27 (nI x28) (nI x29) (nI x30) (nI x33) x45 (nI z46) (nI x52) (nI x53) (nI x61) (nI x62) (nI x63) (nI x65) x66 f1 f2 f3 (bN 3 q4) (bN 7 q5) (bN 7 q6) (bN 4 q7) f8 (bN 2 q9) (bH q10) f11 (b2 m12_0 m12_1) (b2 m13_0 m13_1) (b2 m14_0 m14_1) (b2m m15_0 m15_1) f17 (bA 159 q31) f32 f34 z35 f36 f37 (bN 7 q38) f39 f40 f41 (b2 m42_0 m42_1) f43 f44 f47 f48 f49 f50 f51 (bN 13 q54) (bN 120 q55) (bN 120 q56) f57 (bN 120 q58) f59 f60 f64) (mo_t ck) (va_A ((mo_w ad ck x0 (nI x16) (nI x18) (nI x19) x20 (nI x21) (nI x22) x23 x24 x25 (nI x26) x27 (nI x28) (nI x29) (nI x30) (nI x33) x45 (nI x46) (nI x52) (nI x53) (nI x61) (nI x62) (nI x63) (nI x65) x66 f1 f2 f3 (bN 3 q4) (bN 7 q5) (bN 7 q6) (bN 4 q7) f8 (bN 2 q9) (bH q10) f11 (b2 m12_0 m12_1) (b2 m13_0 m13_1) (b2 m14_0 m14_1) (b2m m15_0 m15_1) f17 (bA 159 q31) f32 f34 f35 f36 f37 (bN 7 q38) f39 f40 f41 (b2 m42_0 m42_1) f43 f44 f47 f48 f49 f50 f51 (bN 13 q54) (bN 120 q55) (bN 120 q56) f57 (bN 120 q58) f59 f60 f64)) sz) t ∧ (z46 ≤ 5) ∧ ((z35, z0, z46) = (sp_EM_within x16 x29 m12_0 m12_1 f34 f35 m42_0 p0 p1).2)) (va_A ((mo_w ad ck x0 (nI x16) (nI x18) (nI x19) x20 (nI x21) (nI x22) x23 x24 x25 (nI x26) x27 (nI x28) (nI x29) (nI x30) (nI x33) x45 (nI x46) (nI x52) (nI x53) (nI x61) (nI x62) (nI x63) (nI x65) x66 f1 f2 f3 (bN 3 q4) (bN 7 q5) (bN 7 q6) (bN 4 q7) f8 (bN 2 q9) (bH q10) f11 (b2 m12_0 m12_1) (b2 m13_0 m13_1) (b2 m14_0 m14_1) (b2m m15_0 m15_1) f17 (bA 159 q31) f32 f34 f35 f36 f37 (bN 7 q38) f39 f40 f41 (b2 m42_0 m42_1) f43 f44 f47 f48 f49 f50 f51 (bN 13 q54) (bN 120 q55) (bN 120 q56) f57 (bN 120 q58) f59 f60 f64)) sz)) 0 0 (va_A ((mo_w ad ck x0 (nI x16) (nI x18) (nI x19) x20 (nI x21) (nI x22) x23 x24 x25 (nI x26) x27 (nI x28) (nI x29) (nI x30) (nI x33) x45 (nI x46) (nI x52) (nI x53) (nI x61) (nI x62) (nI x63) (nI x65) x66 f1 f2 f3 (bN 3 q4) (bN 7 q5) (bN 7 q6) (bN 4 q7) f8 (bN 2 q9) (bH q10) f11 (b2 m12_0 m12_1) (b2 m13_0 m13_1) (b2 m14_0 m14_1) (b2m m15_0 m15_1) f17 (bA 159 q31) f32 f34 f35 f36 f37 (bN 7 q38) f39 f40 f41 (b2 m42_0 m42_1) f43 f44 f47 f48 f49 f50 f51 (bN 13 q54) (bN 120 q55) (bN 120 q56) f57 (bN 120 q58) f59 f60 f64)) sz) := by
  refine Met.ofW (cc := cX9_within) (maxL := 3) (ret := (some .int)) (by decide) rfl ?_
  intro p e s m args below meth c s₁ B hml hv
  obtain ⟨rfl, rfl, hP, hK, hD0⟩ := hv
  have hx := B.exec
  have hb := B.bytes
  have hr := B.returns
  have hts := atoms_spec (ws := vs_EM_within) B.pre
  have v_1 := hts (.fieldLink RX9 142 "ClockReachModel" "thrown" "I") (List.mem_cons_of_mem _ vm_5)
  have v_7 := hts (.fieldLink RX9 68 "ClockReachModel" "zone" "[I") (List.mem_cons_of_mem _ vm_214)
  have v_8 := hts (.fieldLink RX9 71 "ClockReachModel" "z" "[I") (List.mem_cons_of_mem _ vm_219)
  have hown : s.vm.findClass RX9 = some m.cls := findClass_of_methodNamed B.named
  have hlocks := B.notSynchronized
  have hiX9 : ∀ w ∈ wsX90, w ∈ vs_EM_within := fun _ h => List.mem_cons_of_mem _ (vmi_L h)
  have hD := hD0.self (sz := s.heap.size)
  generalize hAe : va_A ((mo_w ad ck x0 (nI x16) (nI x18) (nI x19) x20 (nI x21) (nI x22) x23 x24 x25 (nI x26) x27 (nI x28) (nI x29) (nI x30) (nI x33) x45 (nI x46) (nI x52) (nI x53) (nI x61) (nI x62) (nI x63) (nI x65) x66 f1 f2 f3 (bN 3 q4) (bN 7 q5) (bN 7 q6) (bN 4 q7) f8 (bN 2 q9) (bH q10) f11 (b2 m12_0 m12_1) (b2 m13_0 m13_1) (b2 m14_0 m14_1) (b2m m15_0 m15_1) f17 (bA 159 q31) f32 f34 f35 f36 f37 (bN 7 q38) f39 f40 f41 (b2 m42_0 m42_1) f43 f44 f47 f48 f49 f50 f51 (bN 13 q54) (bN 120 q55) (bN 120 q56) f57 (bN 120 q58) f59 f60 f64)) s.heap.size = A at hD ⊢
  have hA : ∀ q : Nat, s.heap.size ≤ q → A q := fun q h => by rw [← hAe]; exact Or.inr h
  have hS : va_S A s.heap s.heap [] := va_S.rf
  have hl := lv_entry ([.ref (ad 0), .int p0, .int p1]) (n := 3) (Nat.le_of_ble_eq_true rfl)
  rw [lg_entry_eq]
  generalize (lg_sl ([.ref (ad 0), .int p0, .int p1]) ++ List.replicate (3 - (lg_sl ([.ref (ad 0), .int p0, .int p1])).length) Slot.unset).toArray = ls at hl ⊢
  have hl : lv_has ls 3 [(0, .ref (ad 0)), (1, .int p0), (2, .int p1)] := hl
  obtain ⟨RR, hRR⟩ : ∃ x, x = (sp_EM_within x16 x29 m12_0 m12_1 f34 f35 m42_0 p0 p1) := ⟨_, rfl⟩
  have hsp := hRR
  refine lv_aload_n hx hb dX9_within_0 rfl (lv_at hl 0 rfl) ?_
  refine lv_iconst (v := 0) hx hb dX9_within_1 (by decide) ?_
  refine va_put (D := (dC, dI)) (ci := 9) (v := .int 0) (ty := .int) (C := RX9) (T := TX9) (N := 67) hx hb hts hiX9 tyX9 tyX9_ok nmX9 hown hK hP hD hS 0 rfl rfl 0 (by decide) v_1 (fun _ h9 => h9) rfl (by decide +kernel) rfl rfl (Nat.le_of_ble_eq_true rfl) dX9_within_2 (fun H locs hP hD hS => ?_)
  have hP : va_P (dC, dI) vwCl (mo_w ad ck 0 (nI x16) (nI x18) (nI x19) x20 (nI x21) (nI x22) x23 x24 x25 (nI x26) x27 (nI x28) (nI x29) (nI x30) (nI x33) x45 (nI x46) (nI x52) (nI x53) (nI x61) (nI x62) (nI x63) (nI x65) x66 f1 f2 f3 (bN 3 q4) (bN 7 q5) (bN 7 q6) (bN 4 q7) f8 (bN 2 q9) (bH q10) f11 (b2 m12_0 m12_1) (b2 m13_0 m13_1) (b2 m14_0 m14_1) (b2m m15_0 m15_1) f17 (bA 159 q31) f32 f34 f35 f36 f37 (bN 7 q38) f39 f40 f41 (b2 m42_0 m42_1) f43 f44 f47 f48 f49 f50 f51 (bN 13 q54) (bN 120 q55) (bN 120 q56) f57 (bN 120 q58) f59 f60 f64) H := hP
  have hD : va_D A (mo_w ad ck 0 (nI x16) (nI x18) (nI x19) x20 (nI x21) (nI x22) x23 x24 x25 (nI x26) x27 (nI x28) (nI x29) (nI x30) (nI x33) x45 (nI x46) (nI x52) (nI x53) (nI x61) (nI x62) (nI x63) (nI x65) x66 f1 f2 f3 (bN 3 q4) (bN 7 q5) (bN 7 q6) (bN 4 q7) f8 (bN 2 q9) (bH q10) f11 (b2 m12_0 m12_1) (b2 m13_0 m13_1) (b2 m14_0 m14_1) (b2m m15_0 m15_1) f17 (bA 159 q31) f32 f34 f35 f36 f37 (bN 7 q38) f39 f40 f41 (b2 m42_0 m42_1) f43 f44 f47 f48 f49 f50 f51 (bN 13 q54) (bN 120 q55) (bN 120 q56) f57 (bN 120 q58) f59 f60 f64) := hD
  refine lv_aload_n hx hb dX9_within_5 rfl (lv_at hl 0 rfl) ?_
  refine lv_iload_n hx hb dX9_within_6 rfl (lv_at hl 1 rfl) ?_
  have hFc := pu_free hD hS hA
  refine va_calli (va_runV (As := [.int p0]) (rest := []) ⟨hx, hb, hml, hown, hts⟩ (c_EM_isState l dC dI _ ad ck 0 x16 x18 x19 x20 x21 x22 x23 x24 x25 x26 x27 x28 x29 x30 x33 x45 x46 x52 x53 x61 x62 x63 x65 x66 f1 f2 f3 q4 q5 q6 q7 f8 q9 q10 f11 m12_0 m12_1 m13_0 m13_1 m14_0 m14_1 m15_0 m15_1 f17 q31 f32 f34 f35 f36 f37 q38 f39 f40 f41 m42_0 m42_1 f43 f44 f47 f48 f49 f50 f51 q54 q55 q56 f57 q58 f59 f60 f64 p0 hx16 hx18 hx19 hx21 hx22 hx26 hx28 hx29 hx30 hx33 hx46 hx52 hx53 hx61 hx62 hx63 hx65 hm12_0 hm12_1 hm13_0 hm13_1 hm14_0 hm14_1 hm15_0 hm15_1 hm42_0 hm42_1) (cwV 1 hts g_EM_within_EM_isState rfl rfl rfl (by decide +kernel) ⟨Nat.le_of_ble_eq_true rfl, Nat.le_of_ble_eq_true rfl⟩) ⟨pu_bl, va_recv hK hP (ci := 9) (q0 := 0) rfl rfl, pu_in hP hK hD⟩ rfl rfl hl.1 rfl (lv_room (Nat.le_of_ble_eq_true rfl)) dX9_within_7 ⟨Nat.le_of_ble_eq_true rfl, Nat.le_of_ble_eq_true rfl⟩) hS (fun q _ h => hFc q h) hFc (fun r_1 u t H1 locs ht hvm hw hB hz1 hk1 hS => ?_)
  obtain ⟨z46_2, ⟨hP1, -, hD1⟩, hz46_2, xr_1_0⟩ := hB
  rw [ht] at hP1
  have hP := hP1
  have hD := pu_all hFc hD1
  clear hP1 hD1 hFc
  clear hk1 hz1 ht hvm
  generalize H1 = H at hP hS ⊢
  replace hsp := hsp.trans (slet_eq xr_1_0)
  rcases hw with ⟨rfl, hw⟩ | ⟨rfl, hn⟩
  · obtain ⟨hs1, n_3, hn_3, rfl⟩ := hw
    replace hsp := hsp.trans (if_pos ⟨hs1, in_q hn_3 (by omega)⟩)
    replace hsp := hsp.trans (slet_eq (nI_cl (n := n_3) (by omega)))
    refine lv_if_eq (tgt := 21) hx hb dX9_within_10 (by decide) (fun z => absurd z (by decide)) (fun _ => ?_)
    refine lv_aload_n hx hb dX9_within_13 rfl (lv_at hl 0 rfl) ?_
    refine lv_iload_n hx hb dX9_within_14 rfl (lv_at hl 2 rfl) ?_
    have hFc := pu_free hD hS hA
    refine va_calli (va_runV (As := [.int p1]) (rest := []) ⟨hx, hb, hml, hown, hts⟩ (c_EM_isState l dC dI _ ad ck 0 x16 x18 x19 x20 x21 x22 x23 x24 x25 x26 x27 x28 x29 x30 x33 x45 z46_2 x52 x53 x61 x62 x63 x65 x66 f1 f2 f3 q4 q5 q6 q7 f8 q9 q10 f11 m12_0 m12_1 m13_0 m13_1 m14_0 m14_1 m15_0 m15_1 f17 q31 f32 f34 f35 f36 f37 q38 f39 f40 f41 m42_0 m42_1 f43 f44 f47 f48 f49 f50 f51 q54 q55 q56 f57 q58 f59 f60 f64 p1 hx16 hx18 hx19 hx21 hx22 hx26 hx28 hx29 hx30 hx33 (Nat.le_trans hz46_2 (Nat.le_of_ble_eq_true rfl)) hx52 hx53 hx61 hx62 hx63 hx65 hm12_0 hm12_1 hm13_0 hm13_1 hm14_0 hm14_1 hm15_0 hm15_1 hm42_0 hm42_1) (cwV 1 hts g_EM_within_EM_isState rfl rfl rfl (by decide +kernel) ⟨Nat.le_of_ble_eq_true rfl, Nat.le_of_ble_eq_true rfl⟩) ⟨pu_bl, va_recv hK hP (ci := 9) (q0 := 0) rfl rfl, pu_in hP hK hD⟩ rfl rfl hl.1 rfl (lv_room (Nat.le_of_ble_eq_true rfl)) dX9_within_15 ⟨Nat.le_of_ble_eq_true rfl, Nat.le_of_ble_eq_true rfl⟩) hS (fun q _ h => hFc q h) hFc (fun r_4 u t H1 locs ht hvm hw hB hz1 hk1 hS => ?_)
    obtain ⟨z46_5, ⟨hP1, -, hD1⟩, hz46_5, xr_4_0⟩ := hB
    rw [ht] at hP1
    have hP := hP1
    have hD := pu_all hFc hD1
    clear hP1 hD1 hFc
    clear hk1 hz1 ht hvm
    generalize H1 = H at hP hS ⊢
    replace hsp := hsp.trans (slet_eq xr_4_0)
    rcases hw with ⟨rfl, hw⟩ | ⟨rfl, hn⟩
    · obtain ⟨hs1, n_6, hn_6, rfl⟩ := hw
      replace hsp := hsp.trans (if_pos ⟨hs1, in_q hn_6 (by omega)⟩)
      replace hsp := hsp.trans (slet_eq (nI_cl (n := n_6) (by omega)))
      refine lv_if_ne (tgt := 23) hx hb dX9_within_18 (by decide) (fun _ => ?_) (fun z => absurd z (by decide))
      refine lv_aload_n hx hb dX9_within_23 rfl (lv_at hl 0 rfl) ?_
      refine va_get (D := (dC, dI)) (ci := 9) (v := .ref (ad 34)) (C := RX9) (T := TX9) (N := 67) hx hb hts hiX9 hown hK hP 0 rfl rfl 34 (by decide) v_7 (fun _ h9 => h9) rfl dX9_within_24 ?_
      refine lv_bipush (v := 25) hx hb dX9_within_27 (by decide) ?_
      refine lv_iload_n hx hb dX9_within_29 rfl (lv_at hl 2 rfl) ?_
      refine lv_imul hx hb dX9_within_30 ?_
      refine lv_topi (fun y_7 ey_7 => ?_)
      obtain rfl : y_7 = (nI (25 * n_6)) := ey_7.trans (pk_mul 25 n_6)
      refine lv_aload_n hx hb dX9_within_31 rfl (lv_at hl 0 rfl) ?_
      refine va_get (D := (dC, dI)) (ci := 9) (v := .ref (ad 35)) (C := RX9) (T := TX9) (N := 67) hx hb hts hiX9 hown hK hP 0 rfl rfl 35 (by decide) v_8 (fun _ h9 => h9) rfl dX9_within_32 ?_
      refine lv_iconst (v := 0) hx hb dX9_within_35 (by decide) ?_
      have hFc := pu_free hD hS hA
      refine va_callv (va_runS (As := [.ref (ad 34), .int (nI (25 * n_6)), .ref (ad 35), .int 0]) (rest := []) ⟨hx, hb, hml, hown, hts⟩ (c_EM_copies_nz l dC dI _ ad ck 0 x16 x18 x19 x20 x21 x22 x23 x24 x25 x26 x27 x28 x29 x30 x33 x45 z46_5 x52 x53 x61 x62 x63 x65 x66 f1 f2 f3 q4 q5 q6 q7 f8 q9 q10 f11 m12_0 m12_1 m13_0 m13_1 m14_0 m14_1 m15_0 m15_1 f17 q31 f32 f34 f35 f36 f37 q38 f39 f40 f41 m42_0 m42_1 f43 f44 f47 f48 f49 f50 f51 q54 q55 q56 f57 q58 f59 f60 f64 (25 * n_6) hx16 hx18 hx19 hx21 hx22 hx26 hx28 hx29 hx30 hx33 (Nat.le_trans hz46_5 (Nat.le_of_ble_eq_true rfl)) hx52 hx53 hx61 hx62 hx63 hx65 hm12_0 hm12_1 hm13_0 hm13_1 hm14_0 hm14_1 hm15_0 hm15_1 hm42_0 hm42_1 (by omega)) (va_cwS 4 hts g_EM_within_EM_copies_nz rfl rfl rfl (by decide +kernel) ⟨Nat.le_of_ble_eq_true rfl, Nat.le_of_ble_eq_true rfl⟩) ⟨pu_bl, pu_in hP hK hD⟩ rfl rfl hl.1 rfl (lv_room (Nat.le_of_ble_eq_true rfl)) dX9_within_36 ⟨Nat.le_of_ble_eq_true rfl, Nat.le_of_ble_eq_true rfl⟩) hS (fun q _ h => hFc q h) hFc (fun u t H1 locs ht hvm hw hB hz1 hk1 hS => ?_)
      obtain ⟨z35_9, ⟨hP1, -, hD1⟩, xr_8_0⟩ := hB
      rw [ht] at hP1
      have hP := hP1
      have hD := pu_all hFc hD1
      clear hP1 hD1 hFc
      clear hk1 hz1 ht hvm
      generalize H1 = H at hP hS ⊢
      replace hsp := hsp.trans (slet_eq xr_8_0)
      refine lv_aload_n hx hb dX9_within_39 rfl (lv_at hl 0 rfl) ?_
      refine lv_iload_n hx hb dX9_within_40 rfl (lv_at hl 1 rfl) ?_
      refine lv_aload_n hx hb dX9_within_41 rfl (lv_at hl 0 rfl) ?_
      refine va_get (D := (dC, dI)) (ci := 9) (v := .ref (ad 35)) (C := RX9) (T := TX9) (N := 67) hx hb hts hiX9 hown hK hP 0 rfl rfl 35 (by decide) v_8 (fun _ h9 => h9) rfl dX9_within_42 ?_
      refine lv_iconst (v := 0) hx hb dX9_within_45 (by decide) ?_
      refine va_calli (va_runV (As := [.int (nI n_3), .ref (ad 35), .int 0]) (rest := []) ⟨hx, hb, hml, hown, hts⟩ (c_EM_hasAll l dC dI _ ad ck 0 x16 x18 x19 x20 x21 x22 x23 x24 x25 x26 x27 x28 x29 x30 x33 x45 z46_5 x52 x53 x61 x62 x63 x65 x66 f1 f2 f3 q4 q5 q6 q7 f8 q9 q10 f11 m12_0 m12_1 m13_0 m13_1 m14_0 m14_1 m15_0 m15_1 f17 q31 f32 f34 z35_9 f36 f37 q38 f39 f40 f41 m42_0 m42_1 f43 f44 f47 f48 f49 f50 f51 q54 q55 q56 f57 q58 f59 f60 f64 n_3 0 hx16 hx18 hx19 hx21 hx22 hx26 hx28 hx29 hx30 hx33 (Nat.le_trans hz46_5 (Nat.le_of_ble_eq_true rfl)) hx52 hx53 hx61 hx62 hx63 hx65 hm12_0 hm12_1 hm13_0 hm13_1 hm14_0 hm14_1 hm15_0 hm15_1 hm42_0 hm42_1 (by omega) (Nat.le_of_ble_eq_true rfl)) (cwV 3 hts g_EM_within_EM_hasAll rfl rfl rfl (by decide +kernel) ⟨Nat.le_of_ble_eq_true rfl, Nat.le_of_ble_eq_true rfl⟩) ⟨pu_bl, va_recv hK hP (ci := 9) (q0 := 0) rfl rfl, pu_in hP hK hD⟩ rfl rfl hl.1 rfl (lv_room (Nat.le_of_ble_eq_true rfl)) dX9_within_46 ⟨Nat.le_of_ble_eq_true rfl, Nat.le_of_ble_eq_true rfl⟩) hS (fun q _ h => pu_fr hS hA q h) (pu_fr hS hA) (fun r_10 u t H1 locs ht hvm hw hB hz1 hk1 hS => ?_)
      have hP := pu_keep hP hk1
      clear hk1 hz1 ht hvm
      generalize H1 = H at hP hS ⊢
      obtain ⟨u_11, hu_11, rfl, iu_11⟩ := hw
      replace hsp := hsp.trans (slet_eq iu_11)
      refine lv_if_eq (tgt := 56) hx hb dX9_within_49 (by decide) (fun c_12 => ?_) (fun c_12 => ?_)
      · have c_12 : u_11 = 0 := (nI_eq (a := u_11) (b := 0) (Nat.lt_of_le_of_lt hu_11 (Nat.le_of_ble_eq_true rfl)) (Nat.le_of_ble_eq_true rfl)).mp c_12
        replace hsp := hsp.trans (if_pos c_12)
        refine lv_iconst (v := 0) hx hb dX9_within_56 (by decide) ?_
        exact W.iret (v := 0) hx hb hr (fun t ht hW => ⟨⟨0, (), rfl, (congrArg Prod.fst (hsp.symm.trans hRR)), ⟨z35_9, 0, z46_5, ⟨by rw [ht]; exact hP, va_K.moved hW.alike hK, hD⟩, (Nat.le_trans hz46_5 (Nat.le_of_ble_eq_true rfl)), (congrArg Prod.snd (hsp.symm.trans hRR))⟩⟩, hS.F ht⟩) hS.2.2 dX9_within_57
      · have c_12 : ¬ u_11 = 0 := fun z => c_12 ((nI_eq (a := u_11) (b := 0) (Nat.lt_of_le_of_lt hu_11 (Nat.le_of_ble_eq_true rfl)) (Nat.le_of_ble_eq_true rfl)).mpr z)
        replace hsp := hsp.trans (if_neg c_12)
        refine lv_iconst (v := 1) hx hb dX9_within_52 (by decide) ?_
        refine lv_goto (tgt := 57) hx hb dX9_within_53 (by decide) ?_
        exact W.iret (v := 1) hx hb hr (fun t ht hW => ⟨⟨1, (), rfl, (congrArg Prod.fst (hsp.symm.trans hRR)), ⟨z35_9, 0, z46_5, ⟨by rw [ht]; exact hP, va_K.moved hW.alike hK, hD⟩, (Nat.le_trans hz46_5 (Nat.le_of_ble_eq_true rfl)), (congrArg Prod.snd (hsp.symm.trans hRR))⟩⟩, hS.F ht⟩) hS.2.2 dX9_within_57
    · replace hsp := hsp.trans (if_neg hn)
      refine lv_if_ne (tgt := 23) hx hb dX9_within_18 (by decide) (fun z => absurd z (by decide)) (fun _ => ?_)
      refine lv_iconst (v := (-1)) hx hb dX9_within_21 (by decide) ?_
      exact W.iret (v := (-1)) hx hb hr (fun t ht hW => ⟨⟨(-1), (), rfl, (congrArg Prod.fst (hsp.symm.trans hRR)), ⟨f35, 0, z46_5, ⟨by rw [ht]; exact hP, va_K.moved hW.alike hK, hD⟩, (Nat.le_trans hz46_5 (Nat.le_of_ble_eq_true rfl)), (congrArg Prod.snd (hsp.symm.trans hRR))⟩⟩, hS.F ht⟩) hS.2.2 dX9_within_22
  · replace hsp := hsp.trans (if_neg hn)
    refine lv_if_eq (tgt := 21) hx hb dX9_within_10 (by decide) (fun _ => ?_) (fun z => absurd z (by decide))
    refine lv_iconst (v := (-1)) hx hb dX9_within_21 (by decide) ?_
    exact W.iret (v := (-1)) hx hb hr (fun t ht hW => ⟨⟨(-1), (), rfl, (congrArg Prod.fst (hsp.symm.trans hRR)), ⟨f35, 0, z46_2, ⟨by rw [ht]; exact hP, va_K.moved hW.alike hK, hD⟩, (Nat.le_trans hz46_2 (Nat.le_of_ble_eq_true rfl)), (congrArg Prod.snd (hsp.symm.trans hRR))⟩⟩, hS.F ht⟩) hS.2.2 dX9_within_22
