theorem dX9_keepsPiece_0 : decode cX9_keepsPiece 0 = .ok (.aload_n 0, 1) := by decide +kernel
theorem dX9_keepsPiece_1 : decode cX9_keepsPiece 1 = .ok (.getfield 74, 3) := by decide +kernel
theorem dX9_keepsPiece_4 : decode cX9_keepsPiece 4 = .ok (.iconst 0, 1) := by decide +kernel
theorem dX9_keepsPiece_5 : decode cX9_keepsPiece 5 = .ok (.aload_n 0, 1) := by decide +kernel
theorem dX9_keepsPiece_6 : decode cX9_keepsPiece 6 = .ok (.getfield 109, 3) := by decide +kernel
theorem dX9_keepsPiece_9 : decode cX9_keepsPiece 9 = .ok (.bipush 25, 2) := by decide +kernel
theorem dX9_keepsPiece_11 : decode cX9_keepsPiece 11 = .ok (.aload_n 0, 1) := by decide +kernel
theorem dX9_keepsPiece_12 : decode cX9_keepsPiece 12 = .ok (.getfield 405, 3) := by decide +kernel
theorem dX9_keepsPiece_15 : decode cX9_keepsPiece 15 = .ok (.imul, 1) := by decide +kernel
theorem dX9_keepsPiece_16 : decode cX9_keepsPiece 16 = .ok (.invokestatic 362, 3) := by decide +kernel
theorem dX9_keepsPiece_19 : decode cX9_keepsPiece 19 = .ok (.aload_n 0, 1) := by decide +kernel
theorem dX9_keepsPiece_20 : decode cX9_keepsPiece 20 = .ok (.getfield 112, 3) := by decide +kernel
theorem dX9_keepsPiece_23 : decode cX9_keepsPiece 23 = .ok (.aload_n 0, 1) := by decide +kernel
theorem dX9_keepsPiece_24 : decode cX9_keepsPiece 24 = .ok (.getfield 405, 3) := by decide +kernel
theorem dX9_keepsPiece_27 : decode cX9_keepsPiece 27 = .ok (.iload_n 1, 1) := by decide +kernel
theorem dX9_keepsPiece_28 : decode cX9_keepsPiece 28 = .ok (.iastore, 1) := by decide +kernel
theorem dX9_keepsPiece_29 : decode cX9_keepsPiece 29 = .ok (.aload_n 0, 1) := by decide +kernel
theorem dX9_keepsPiece_30 : decode cX9_keepsPiece 30 = .ok (.dup, 1) := by decide +kernel
theorem dX9_keepsPiece_31 : decode cX9_keepsPiece 31 = .ok (.getfield 405, 3) := by decide +kernel
theorem dX9_keepsPiece_34 : decode cX9_keepsPiece 34 = .ok (.iconst 1, 1) := by decide +kernel
theorem dX9_keepsPiece_35 : decode cX9_keepsPiece 35 = .ok (.iadd, 1) := by decide +kernel
theorem dX9_keepsPiece_36 : decode cX9_keepsPiece 36 = .ok (.putfield 405, 3) := by decide +kernel
theorem dX9_keepsPiece_39 : decode cX9_keepsPiece 39 = .ok (.return_, 1) := by decide +kernel
abbrev vs_EM_keepsPiece : List Cond := .code yX9_keepsPiece cX9_keepsPiece 2 none :: VM
theorem g_EM_keepsPiece_EM_copies_yp : GoodIn vs_EM_keepsPiece (va_wsS RX9 362 yX9_copies vs_EM_copies_yp) := gm_S vm_228 vm_229 vm_19 vm_230
noncomputable def sp_EM_keepsPiece (x52 : Nat) (f36 : Nat → Int32) (f49 : Nat → Int32) (f50 : Nat → Int32) (a0 : Nat) : (Nat → Int32) := (slet (sp_EM_copies_yp f36 f49 (25 * x52)) (fun z49_3 => (slet (upd f50 x52 (nI a0)) (fun f_4 => z49_3))))
set_option maxHeartbeats 4000000 in
set_option maxRecDepth 100000 in
theorem c_EM_keepsPiece (l : Launch) (dC : Nat → ClassId) (dI : Nat → Nat → Nat) (sz : Nat) (ad : Nat → Nat) (ck : Nat → ClassId) (x0 : Int32) (x16 : Nat) (x18 : Nat) (x19 : Nat) (x20 : Int32) (x21 : Nat) (x22 : Nat) (x23 : Int32) (x24 : Int32) (x25 : Int32) (x26 : Nat) (x27 : Int32) (x28 : Nat) (x29 : Nat) (x30 : Nat) (x33 : Nat) (x45 : Int32) (x46 : Nat) (x52 : Nat) (x53 : Nat) (x61 : Nat) (x62 : Nat) (x63 : Nat) (x65 : Nat) (x66 : Int32) (f1 : Nat → Int32) (f2 : Nat → Int32) (f3 : Nat → Int32) (q4 : Nat → Nat) (q5 : Nat → Nat) (q6 : Nat → Nat) (q7 : Nat → Nat) (f8 : Nat → Int32) (q9 : Nat → Nat) (q10 : Nat → Nat) (f11 : Nat → Int32) (m12_0 m12_1 : Nat) (m13_0 m13_1 : Nat) (m14_0 m14_1 : Nat) (m15_0 m15_1 : Nat) (f17 : Nat → Int32) (q31 : Nat → Nat) (f32 : Nat → Int32) (f34 : Nat → Int32) (f35 : Nat → Int32) (f36 : Nat → Int32) (f37 : Nat → Int32) (q38 : Nat → Nat) (f39 : Nat → Int32) (f40 : Nat → Int32) (f41 : Nat → Int32) (m42_0 m42_1 : Nat) (f43 : Nat → Int32) (f44 : Nat → Int32) (f47 : Nat → Int32) (f48 : Nat → Int32) (f49 : Nat → Int32) (f50 : Nat → Int32) (f51 : Nat → Int32) (q54 : Nat → Nat) (q55 : Nat → Nat) (q56 : Nat → Nat) (f57 : Nat → Int32) (q58 : Nat → Nat) (f59 : Nat → Int32) (f60 : Nat → Int32) (f64 : Nat → Int32) (a0 : Nat) (hx16 : x16 ≤ 1) (hx18 : x18 ≤ 900) (hx19 : x19 ≤ 900) (hx21 : x21 ≤ 900) (hx22 : x22 ≤ 4) (hx26 : x26 ≤ 6) (hx28 : x28 ≤ 1) (hx29 : x29 ≤ 1) (hx30 : x30 ≤ 1) (hx33 : x33 ≤ 20) (hx46 : x46 ≤ 5) (hx52 : x52 ≤ 2399) (hx53 : x53 ≤ 119) (hx61 : x61 ≤ 119) (hx62 : x62 ≤ 2000) (hx63 : x63 ≤ 1) (hx65 : x65 ≤ 7) (hm12_0 : m12_0 ≤ 3) (hm12_1 : m12_1 ≤ 3) (hm13_0 : m13_0 ≤ 8) (hm13_1 : m13_1 ≤ 8) (hm14_0 : m14_0 ≤ 14) (hm14_1 : m14_1 ≤ 14) (hm15_0 : m15_0 ≤ 8) (hm15_1 : m15_1 ≤ 8) (hm42_0 : m42_0 ≤ 120) (hm42_1 : m42_1 ≤ 400) (ha0 : a0 ≤ 119) : Met l yX9_keepsPiece vs_EM_keepsPiece ({ frames := 1, cells := 0, slots := 0, locals := 24 }) (va_Pc [.ref (ad 0), .int (nI a0)] (pu_B (dC, dI) (mo_w ad ck x0 (nI x16) (nI x18) (nI x19) x20 (nI x21) (nI x22) x23 x24 x25 (nI x26) x27 (nI x28) (nI x29) (nI x30) (nI x33) x45 (nI x46) (nI x52) (nI x53) (nI x61) (nI x62) (nI x63) (nI x65) x66 f1 f2 f3 (bN 3 q4) (bN 7 q5) (bN 7 q6) (bN 4 q7) f8 (bN 2 q9) (bH q10) f11 (b2 m12_0 m12_1) (b2 m13_0 m13_1) (b2 m14_0 m14_1) (b2m m15_0 m15_1) f17 (bA 159 q31) f32 f34 f35 f36 f37 (bN 7 q38) f39 f40 f41 (b2 m42_0 m42_1) f43 f44 f47 f48 f49 f50 f51 (bN 13 q54) (bN 120 q55) (bN 120 q56) f57 (bN 120 q58) f59 f60 f64) (mo_t ck) sz)) (va_Qv (fun (_ : Unit) => True) (fun _ t => ∃ (z49 : Nat → Int32), pu_E (dC, dI) (mo_w ad ck x0 (nI x16) (nI x18) (nI x19) x20 (nI x21) (nI x22) x23 x24 x25 (nI x26) x27 (nI x28) (nI x29) (nI x30) (nI x33) x45 (nI x46) (nI (x52 + 1)) (nI x53) (nI x61) (nI x62) (nI x63) (nI x65) x66 f1 f2 f3 (bN 3 q4) (bN 7 q5) (bN 7 q6) (bN 4 q7) f8 (bN 2 q9) (bH q10) f11 (b2 m12_0 m12_1) (b2 m13_0 m13_1) (b2 m14_0 m14_1) (b2m m15_0 m15_1) f17 (bA 159 q31) f32 f34 f35 f36 f37 (bN 7 q38) f39 f40 f41 (b2 m42_0 m42_1) f43 f44 f47 f48 z49 (upd f50 ((nI x52) : Int32).toNatClampNeg (nI a0)) f51 (bN 13 q54) (bN 120 q55) (bN 120 q56) f57 (bN 120 q58) f59 f60 f64) (mo_t ck) (va_A ((mo_w ad ck x0 (nI x16) (nI x18) (nI x19) x20 (nI x21) (nI x22) x23 x24 x25 (nI x26) x27 (nI x28) (nI x29) (nI x30) (nI x33) x45 (nI x46) (nI x52) (nI x53) (nI x61) (nI x62) (nI x63) (nI x65) x66 f1 f2 f3 (bN 3 q4) (bN 7 q5) (bN 7 q6) (bN 4 q7) f8 (bN 2 q9) (bH q10) f11 (b2 m12_0 m12_1) (b2 m13_0 m13_1) (b2 m14_0 m14_1) (b2m m15_0 m15_1) f17 (bA 159 q31) f32 f34 f35 f36 f37 (bN 7 q38) f39 f40 f41 (b2 m42_0 m42_1) f43 f44 f47 f48 f49 f50 f51 (bN 13 q54) (bN 120 q55) (bN 120 q56) f57 (bN 120 q58) f59 f60 f64)) sz) t ∧ (z49 = (sp_EM_keepsPiece x52 f36 f49 f50 a0))) (va_A ((mo_w ad ck x0 (nI x16) (nI x18) (nI x19) x20 (nI x21) (nI x22) x23 x24 x25 (nI x26) x27 (nI x28) (nI x29) (nI x30) (nI x33) x45 (nI x46) (nI x52) (nI x53) (nI x61) (nI x62) (nI x63) (nI x65) x66 f1 f2 f3 (bN 3 q4) (bN 7 q5) (bN 7 q6) (bN 4 q7) f8 (bN 2 q9) (bH q10) f11 (b2 m12_0 m12_1) (b2 m13_0 m13_1) (b2 m14_0 m14_1) (b2m m15_0 m15_1) f17 (bA 159 q31) f32 f34 f35 f36 f37 (bN 7 q38) f39 f40 f41 (b2 m42_0 m42_1) f43 f44 f47 f48 f49 f50 f51 (bN 13 q54) (bN 120 q55) (bN 120 q56) f57 (bN 120 q58) f59 f60 f64)) sz)) 0 0 (va_A ((mo_w ad ck x0 (nI x16) (nI x18) (nI x19) x20 (nI x21) (nI x22) x23 x24 x25 (nI x26) x27 (nI x28) (nI x29) (nI x30) (nI x33) x45 (nI x46) (nI x52) (nI x53) (nI x61) (nI x62) (nI x63) (nI x65) x66 f1 f2 f3 (bN 3 q4) (bN 7 q5) (bN 7 q6) (bN 4 q7) f8 (bN 2 q9) (bH q10) f11 (b2 m12_0 m12_1) (b2 m13_0 m13_1) (b2 m14_0 m14_1) (b2m m15_0 m15_1) f17 (bA 159 q31) f32 f34 f35 f36 f37 (bN 7 q38) f39 f40 f41 (b2 m42_0 m42_1) f43 f44 f47 f48 f49 f50 f51 (bN 13 q54) (bN 120 q55) (bN 120 q56) f57 (bN 120 q58) f59 f60 f64)) sz) := by
  refine Met.ofW (cc := cX9_keepsPiece) (maxL := 2) (ret := none) (by decide) rfl ?_
  intro p e s m args below meth c s₁ B hml hv
  obtain ⟨rfl, rfl, hP, hK, hD0⟩ := hv
  have hx := B.exec
  have hb := B.bytes
  have hr := B.returns
  have hts := atoms_spec (ws := vs_EM_keepsPiece) B.pre
  have v_1 := hts (.fieldLink RX9 74 "ClockReachModel" "y" "[I") (List.mem_cons_of_mem _ vm_277)
  have v_2 := hts (.fieldLink RX9 109 "ClockReachModel" "piece" "[I") (List.mem_cons_of_mem _ vm_278)
  have v_3 := hts (.fieldLink RX9 405 "ClockReachModel" "pieces" "I") (List.mem_cons_of_mem _ vm_279)
  have v_8 := hts (.fieldLink RX9 112 "ClockReachModel" "pieceFrom" "[I") (List.mem_cons_of_mem _ vm_280)
  have hown : s.vm.findClass RX9 = some m.cls := findClass_of_methodNamed B.named
  have hlocks := B.notSynchronized
  have hiX9 : ∀ w ∈ wsX90, w ∈ vs_EM_keepsPiece := fun _ h => List.mem_cons_of_mem _ (vmi_L h)
  have hD := hD0.self (sz := s.heap.size)
  generalize hAe : va_A ((mo_w ad ck x0 (nI x16) (nI x18) (nI x19) x20 (nI x21) (nI x22) x23 x24 x25 (nI x26) x27 (nI x28) (nI x29) (nI x30) (nI x33) x45 (nI x46) (nI x52) (nI x53) (nI x61) (nI x62) (nI x63) (nI x65) x66 f1 f2 f3 (bN 3 q4) (bN 7 q5) (bN 7 q6) (bN 4 q7) f8 (bN 2 q9) (bH q10) f11 (b2 m12_0 m12_1) (b2 m13_0 m13_1) (b2 m14_0 m14_1) (b2m m15_0 m15_1) f17 (bA 159 q31) f32 f34 f35 f36 f37 (bN 7 q38) f39 f40 f41 (b2 m42_0 m42_1) f43 f44 f47 f48 f49 f50 f51 (bN 13 q54) (bN 120 q55) (bN 120 q56) f57 (bN 120 q58) f59 f60 f64)) s.heap.size = A at hD ⊢
  have hA : ∀ q : Nat, s.heap.size ≤ q → A q := fun q h => by rw [← hAe]; exact Or.inr h
  have hS : va_S A s.heap s.heap [] := va_S.rf
  have hl := lv_entry ([.ref (ad 0), .int (nI a0)]) (n := 2) (Nat.le_of_ble_eq_true rfl)
  rw [lg_entry_eq]
  generalize (lg_sl ([.ref (ad 0), .int (nI a0)]) ++ List.replicate (2 - (lg_sl ([.ref (ad 0), .int (nI a0)])).length) Slot.unset).toArray = ls at hl ⊢
  have hl : lv_has ls 2 [(0, .ref (ad 0)), (1, .int (nI a0))] := hl
  obtain ⟨RR, hRR⟩ : ∃ x, x = (sp_EM_keepsPiece x52 f36 f49 f50 a0) := ⟨_, rfl⟩
  have hsp := hRR
  refine lv_aload_n hx hb dX9_keepsPiece_0 rfl (lv_at hl 0 rfl) ?_
  refine va_get (D := (dC, dI)) (ci := 9) (v := .ref (ad 36)) (C := RX9) (T := TX9) (N := 67) hx hb hts hiX9 hown hK hP 0 rfl rfl 36 (by decide) v_1 (fun _ h9 => h9) rfl dX9_keepsPiece_1 ?_
  refine lv_iconst (v := 0) hx hb dX9_keepsPiece_4 (by decide) ?_
  refine lv_aload_n hx hb dX9_keepsPiece_5 rfl (lv_at hl 0 rfl) ?_
  refine va_get (D := (dC, dI)) (ci := 9) (v := .ref (ad 49)) (C := RX9) (T := TX9) (N := 67) hx hb hts hiX9 hown hK hP 0 rfl rfl 49 (by decide) v_2 (fun _ h9 => h9) rfl dX9_keepsPiece_6 ?_
  refine lv_bipush (v := 25) hx hb dX9_keepsPiece_9 (by decide) ?_
  refine lv_aload_n hx hb dX9_keepsPiece_11 rfl (lv_at hl 0 rfl) ?_
  refine va_get (D := (dC, dI)) (ci := 9) (v := .int (nI x52)) (C := RX9) (T := TX9) (N := 67) hx hb hts hiX9 hown hK hP 0 rfl rfl 52 (by decide) v_3 (fun _ h9 => h9) rfl dX9_keepsPiece_12 ?_
  refine lv_imul hx hb dX9_keepsPiece_15 ?_
  refine lv_topi (fun y_1 ey_1 => ?_)
  obtain rfl : y_1 = (nI (25 * x52)) := ey_1.trans (pk_mul 25 x52)
  have hFc := pu_free hD hS hA
  refine va_callv (va_runS (As := [.ref (ad 36), .int 0, .ref (ad 49), .int (nI (25 * x52))]) (rest := []) ⟨hx, hb, hml, hown, hts⟩ (c_EM_copies_yp l dC dI _ ad ck x0 x16 x18 x19 x20 x21 x22 x23 x24 x25 x26 x27 x28 x29 x30 x33 x45 x46 x52 x53 x61 x62 x63 x65 x66 f1 f2 f3 q4 q5 q6 q7 f8 q9 q10 f11 m12_0 m12_1 m13_0 m13_1 m14_0 m14_1 m15_0 m15_1 f17 q31 f32 f34 f35 f36 f37 q38 f39 f40 f41 m42_0 m42_1 f43 f44 f47 f48 f49 f50 f51 q54 q55 q56 f57 q58 f59 f60 f64 (25 * x52) hx16 hx18 hx19 hx21 hx22 hx26 hx28 hx29 hx30 hx33 hx46 (Nat.le_trans hx52 (Nat.le_of_ble_eq_true rfl)) hx53 hx61 hx62 hx63 hx65 hm12_0 hm12_1 hm13_0 hm13_1 hm14_0 hm14_1 hm15_0 hm15_1 hm42_0 hm42_1 (by omega)) (va_cwS 4 hts g_EM_keepsPiece_EM_copies_yp rfl rfl rfl (by decide +kernel) ⟨Nat.le_of_ble_eq_true rfl, Nat.le_of_ble_eq_true rfl⟩) ⟨pu_bl, pu_in hP hK hD⟩ rfl rfl hl.1 rfl (lv_room (Nat.le_of_ble_eq_true rfl)) dX9_keepsPiece_16 ⟨Nat.le_of_ble_eq_true rfl, Nat.le_of_ble_eq_true rfl⟩) hS (fun q _ h => hFc q h) hFc (fun u t H1 locs ht hvm hw hB hz1 hk1 hS => ?_)
  obtain ⟨z49_3, ⟨hP1, -, hD1⟩, xr_2_0⟩ := hB
  rw [ht] at hP1
  have hP := hP1
  have hD := pu_all hFc hD1
  clear hP1 hD1 hFc
  clear hk1 hz1 ht hvm
  generalize H1 = H at hP hS ⊢
  replace hsp := hsp.trans (slet_eq xr_2_0)
  refine lv_aload_n hx hb dX9_keepsPiece_19 rfl (lv_at hl 0 rfl) ?_
  refine va_get (D := (dC, dI)) (ci := 9) (v := .ref (ad 50)) (C := RX9) (T := TX9) (N := 67) hx hb hts hiX9 hown hK hP 0 rfl rfl 50 (by decide) v_8 (fun _ h9 => h9) rfl dX9_keepsPiece_20 ?_
  refine lv_aload_n hx hb dX9_keepsPiece_23 rfl (lv_at hl 0 rfl) ?_
  refine va_get (D := (dC, dI)) (ci := 9) (v := .int (nI x52)) (C := RX9) (T := TX9) (N := 67) hx hb hts hiX9 hown hK hP 0 rfl rfl 52 (by decide) v_3 (fun _ h9 => h9) rfl dX9_keepsPiece_24 ?_
  refine lv_iload_n hx hb dX9_keepsPiece_27 rfl (lv_at hl 1 rfl) ?_
  refine va_iast hx hb hK hP hD hS 33 32 rfl rfl (vp_in_nI (n := x52) (Nat.lt_of_le_of_lt hx52 (Nat.le_of_ble_eq_true rfl)) (Nat.le_of_ble_eq_true rfl)) dX9_keepsPiece_28 (fun H locs hP hD hS => ?_)
  obtain ⟨f_4, ef_4, xf_4⟩ := up_x f50 (n := x52) (nI a0) (Nat.lt_of_le_of_lt hx52 (Nat.le_of_ble_eq_true rfl))
  have hP : va_P (dC, dI) vwCl (mo_w ad ck x0 (nI x16) (nI x18) (nI x19) x20 (nI x21) (nI x22) x23 x24 x25 (nI x26) x27 (nI x28) (nI x29) (nI x30) (nI x33) x45 (nI x46) (nI x52) (nI x53) (nI x61) (nI x62) (nI x63) (nI x65) x66 f1 f2 f3 (bN 3 q4) (bN 7 q5) (bN 7 q6) (bN 4 q7) f8 (bN 2 q9) (bH q10) f11 (b2 m12_0 m12_1) (b2 m13_0 m13_1) (b2 m14_0 m14_1) (b2m m15_0 m15_1) f17 (bA 159 q31) f32 f34 f35 f36 f37 (bN 7 q38) f39 f40 f41 (b2 m42_0 m42_1) f43 f44 f47 f48 z49_3 f_4 f51 (bN 13 q54) (bN 120 q55) (bN 120 q56) f57 (bN 120 q58) f59 f60 f64) H := by rw [← ef_4]; exact hP
  have hD : va_D A (mo_w ad ck x0 (nI x16) (nI x18) (nI x19) x20 (nI x21) (nI x22) x23 x24 x25 (nI x26) x27 (nI x28) (nI x29) (nI x30) (nI x33) x45 (nI x46) (nI x52) (nI x53) (nI x61) (nI x62) (nI x63) (nI x65) x66 f1 f2 f3 (bN 3 q4) (bN 7 q5) (bN 7 q6) (bN 4 q7) f8 (bN 2 q9) (bH q10) f11 (b2 m12_0 m12_1) (b2 m13_0 m13_1) (b2 m14_0 m14_1) (b2m m15_0 m15_1) f17 (bA 159 q31) f32 f34 f35 f36 f37 (bN 7 q38) f39 f40 f41 (b2 m42_0 m42_1) f43 f44 f47 f48 z49_3 f_4 f51 (bN 13 q54) (bN 120 q55) (bN 120 q56) f57 (bN 120 q58) f59 f60 f64) := by rw [← ef_4]; exact hD
  replace hsp := hsp.trans (slet_eq xf_4)
  refine lv_aload_n hx hb dX9_keepsPiece_29 rfl (lv_at hl 0 rfl) ?_
  refine lv_dup hx hb dX9_keepsPiece_30 rfl ?_
  refine va_get (D := (dC, dI)) (ci := 9) (v := .int (nI x52)) (C := RX9) (T := TX9) (N := 67) hx hb hts hiX9 hown hK hP 0 rfl rfl 52 (by decide) v_3 (fun _ h9 => h9) rfl dX9_keepsPiece_31 ?_
  refine lv_iconst (v := 1) hx hb dX9_keepsPiece_34 (by decide) ?_
  refine lv_iadd hx hb dX9_keepsPiece_35 ?_
  refine lv_topi (fun y_5 ey_5 => ?_)
  obtain rfl : y_5 = (nI (x52 + 1)) := ey_5.trans (nI_add x52 1)
  refine va_put (D := (dC, dI)) (ci := 9) (v := .int (nI (x52 + 1))) (ty := .int) (C := RX9) (T := TX9) (N := 67) hx hb hts hiX9 tyX9 tyX9_ok nmX9 hown hK hP hD hS 0 rfl rfl 52 (by decide) v_3 (fun _ h9 => h9) rfl (by decide +kernel) rfl rfl (Nat.le_of_ble_eq_true rfl) dX9_keepsPiece_36 (fun H locs hP hD hS => ?_)
  have hP : va_P (dC, dI) vwCl (mo_w ad ck x0 (nI x16) (nI x18) (nI x19) x20 (nI x21) (nI x22) x23 x24 x25 (nI x26) x27 (nI x28) (nI x29) (nI x30) (nI x33) x45 (nI x46) (nI (x52 + 1)) (nI x53) (nI x61) (nI x62) (nI x63) (nI x65) x66 f1 f2 f3 (bN 3 q4) (bN 7 q5) (bN 7 q6) (bN 4 q7) f8 (bN 2 q9) (bH q10) f11 (b2 m12_0 m12_1) (b2 m13_0 m13_1) (b2 m14_0 m14_1) (b2m m15_0 m15_1) f17 (bA 159 q31) f32 f34 f35 f36 f37 (bN 7 q38) f39 f40 f41 (b2 m42_0 m42_1) f43 f44 f47 f48 z49_3 f_4 f51 (bN 13 q54) (bN 120 q55) (bN 120 q56) f57 (bN 120 q58) f59 f60 f64) H := hP
  have hD : va_D A (mo_w ad ck x0 (nI x16) (nI x18) (nI x19) x20 (nI x21) (nI x22) x23 x24 x25 (nI x26) x27 (nI x28) (nI x29) (nI x30) (nI x33) x45 (nI x46) (nI (x52 + 1)) (nI x53) (nI x61) (nI x62) (nI x63) (nI x65) x66 f1 f2 f3 (bN 3 q4) (bN 7 q5) (bN 7 q6) (bN 4 q7) f8 (bN 2 q9) (bH q10) f11 (b2 m12_0 m12_1) (b2 m13_0 m13_1) (b2 m14_0 m14_1) (b2m m15_0 m15_1) f17 (bA 159 q31) f32 f34 f35 f36 f37 (bN 7 q38) f39 f40 f41 (b2 m42_0 m42_1) f43 f44 f47 f48 z49_3 f_4 f51 (bN 13 q54) (bN 120 q55) (bN 120 q56) f57 (bN 120 q58) f59 f60 f64) := hD
  subst ef_4
  exact W.vret hx hb hr (fun t ht hW => ⟨⟨(), rfl, trivial, ⟨z49_3, ⟨by rw [ht]; exact hP, va_K.moved hW.alike hK, hD⟩, (hsp.symm.trans hRR)⟩⟩, hS.F ht⟩) hS.2.2 dX9_keepsPiece_39
theorem dX9_parts_0 : decode cX9_parts 0 = .ok (.iconst 0, 1) := by decide +kernel
theorem dX9_parts_1 : decode cX9_parts 1 = .ok (.istore_n 2, 1) := by decide +kernel
theorem dX9_parts_2 : decode cX9_parts 2 = .ok (.iload_n 2, 1) := by decide +kernel
theorem dX9_parts_3 : decode cX9_parts 3 = .ok (.aload_n 0, 1) := by decide +kernel
theorem dX9_parts_4 : decode cX9_parts 4 = .ok (.getfield 328, 3) := by decide +kernel
theorem dX9_parts_7 : decode cX9_parts 7 = .ok (.if_icmp .ge 133, 3) := by decide +kernel
theorem dX9_parts_10 : decode cX9_parts 10 = .ok (.iconst 0, 1) := by decide +kernel
theorem dX9_parts_11 : decode cX9_parts 11 = .ok (.istore_n 3, 1) := by decide +kernel
theorem dX9_parts_12 : decode cX9_parts 12 = .ok (.iload_n 3, 1) := by decide +kernel
theorem dX9_parts_13 : decode cX9_parts 13 = .ok (.aload_n 0, 1) := by decide +kernel
theorem dX9_parts_14 : decode cX9_parts 14 = .ok (.getfield 328, 3) := by decide +kernel
theorem dX9_parts_17 : decode cX9_parts 17 = .ok (.if_icmp .ge 117, 3) := by decide +kernel
theorem dX9_parts_20 : decode cX9_parts 20 = .ok (.aload_n 0, 1) := by decide +kernel
theorem dX9_parts_21 : decode cX9_parts 21 = .ok (.getfield 115, 3) := by decide +kernel
theorem dX9_parts_24 : decode cX9_parts 24 = .ok (.bipush 25, 2) := by decide +kernel
theorem dX9_parts_26 : decode cX9_parts 26 = .ok (.iload_n 1, 1) := by decide +kernel
theorem dX9_parts_27 : decode cX9_parts 27 = .ok (.imul, 1) := by decide +kernel
theorem dX9_parts_28 : decode cX9_parts 28 = .ok (.iconst 5, 1) := by decide +kernel
theorem dX9_parts_29 : decode cX9_parts 29 = .ok (.iload_n 2, 1) := by decide +kernel
theorem dX9_parts_30 : decode cX9_parts 30 = .ok (.imul, 1) := by decide +kernel
theorem dX9_parts_31 : decode cX9_parts 31 = .ok (.iadd, 1) := by decide +kernel
theorem dX9_parts_32 : decode cX9_parts 32 = .ok (.iload_n 3, 1) := by decide +kernel
theorem dX9_parts_33 : decode cX9_parts 33 = .ok (.iadd, 1) := by decide +kernel
theorem dX9_parts_34 : decode cX9_parts 34 = .ok (.iaload, 1) := by decide +kernel
theorem dX9_parts_35 : decode cX9_parts 35 = .ok (.istore 4, 2) := by decide +kernel
theorem dX9_parts_37 : decode cX9_parts 37 = .ok (.iload_n 2, 1) := by decide +kernel
theorem dX9_parts_38 : decode cX9_parts 38 = .ok (.iload_n 3, 1) := by decide +kernel
theorem dX9_parts_39 : decode cX9_parts 39 = .ok (.if_icmp .eq 89, 3) := by decide +kernel
theorem dX9_parts_42 : decode cX9_parts 42 = .ok (.iload 4, 2) := by decide +kernel
theorem dX9_parts_44 : decode cX9_parts 44 = .ok (.aload_n 0, 1) := by decide +kernel
theorem dX9_parts_45 : decode cX9_parts 45 = .ok (.getfield 71, 3) := by decide +kernel
theorem dX9_parts_48 : decode cX9_parts 48 = .ok (.iconst 5, 1) := by decide +kernel
theorem dX9_parts_49 : decode cX9_parts 49 = .ok (.iload_n 2, 1) := by decide +kernel
theorem dX9_parts_50 : decode cX9_parts 50 = .ok (.imul, 1) := by decide +kernel
theorem dX9_parts_51 : decode cX9_parts 51 = .ok (.iload_n 3, 1) := by decide +kernel
theorem dX9_parts_52 : decode cX9_parts 52 = .ok (.iadd, 1) := by decide +kernel
theorem dX9_parts_53 : decode cX9_parts 53 = .ok (.iaload, 1) := by decide +kernel
theorem dX9_parts_54 : decode cX9_parts 54 = .ok (.if_icmp .lt 6, 3) := by decide +kernel
theorem dX9_parts_57 : decode cX9_parts 57 = .ok (.goto 71, 3) := by decide +kernel
theorem dX9_parts_60 : decode cX9_parts 60 = .ok (.aload_n 0, 1) := by decide +kernel
theorem dX9_parts_61 : decode cX9_parts 61 = .ok (.getfield 71, 3) := by decide +kernel
theorem dX9_parts_64 : decode cX9_parts 64 = .ok (.iconst 0, 1) := by decide +kernel
theorem dX9_parts_65 : decode cX9_parts 65 = .ok (.aload_n 0, 1) := by decide +kernel
theorem dX9_parts_66 : decode cX9_parts 66 = .ok (.getfield 74, 3) := by decide +kernel
theorem dX9_parts_69 : decode cX9_parts 69 = .ok (.iconst 0, 1) := by decide +kernel
theorem dX9_parts_70 : decode cX9_parts 70 = .ok (.invokestatic 362, 3) := by decide +kernel
theorem dX9_parts_73 : decode cX9_parts 73 = .ok (.aload_n 0, 1) := by decide +kernel
theorem dX9_parts_74 : decode cX9_parts 74 = .ok (.getfield 74, 3) := by decide +kernel
theorem dX9_parts_77 : decode cX9_parts 77 = .ok (.iload_n 3, 1) := by decide +kernel
theorem dX9_parts_78 : decode cX9_parts 78 = .ok (.iload_n 2, 1) := by decide +kernel
theorem dX9_parts_79 : decode cX9_parts 79 = .ok (.iconst 1, 1) := by decide +kernel
theorem dX9_parts_80 : decode cX9_parts 80 = .ok (.iload 4, 2) := by decide +kernel
theorem dX9_parts_82 : decode cX9_parts 82 = .ok (.isub, 1) := by decide +kernel
theorem dX9_parts_83 : decode cX9_parts 83 = .ok (.invokestatic 334, 3) := by decide +kernel
theorem dX9_parts_86 : decode cX9_parts 86 = .ok (.aload_n 0, 1) := by decide +kernel
theorem dX9_parts_87 : decode cX9_parts 87 = .ok (.aload_n 0, 1) := by decide +kernel
theorem dX9_parts_88 : decode cX9_parts 88 = .ok (.getfield 74, 3) := by decide +kernel
theorem dX9_parts_91 : decode cX9_parts 91 = .ok (.invokevirtual 345, 3) := by decide +kernel
theorem dX9_parts_94 : decode cX9_parts 94 = .ok (.ifCond .eq 10, 3) := by decide +kernel
theorem dX9_parts_97 : decode cX9_parts 97 = .ok (.aload_n 0, 1) := by decide +kernel
theorem dX9_parts_98 : decode cX9_parts 98 = .ok (.iload_n 1, 1) := by decide +kernel
theorem dX9_parts_99 : decode cX9_parts 99 = .ok (.iconst 1, 1) := by decide +kernel
theorem dX9_parts_100 : decode cX9_parts 100 = .ok (.iadd, 1) := by decide +kernel
theorem dX9_parts_101 : decode cX9_parts 101 = .ok (.invokevirtual 408, 3) := by decide +kernel
theorem dX9_parts_104 : decode cX9_parts 104 = .ok (.aload_n 0, 1) := by decide +kernel
theorem dX9_parts_105 : decode cX9_parts 105 = .ok (.getfield 71, 3) := by decide +kernel
theorem dX9_parts_108 : decode cX9_parts 108 = .ok (.iload_n 2, 1) := by decide +kernel
theorem dX9_parts_109 : decode cX9_parts 109 = .ok (.iload_n 3, 1) := by decide +kernel
theorem dX9_parts_110 : decode cX9_parts 110 = .ok (.iload 4, 2) := by decide +kernel
theorem dX9_parts_112 : decode cX9_parts 112 = .ok (.invokestatic 334, 3) := by decide +kernel
theorem dX9_parts_115 : decode cX9_parts 115 = .ok (.aload_n 0, 1) := by decide +kernel
theorem dX9_parts_116 : decode cX9_parts 116 = .ok (.aload_n 0, 1) := by decide +kernel
theorem dX9_parts_117 : decode cX9_parts 117 = .ok (.getfield 71, 3) := by decide +kernel
theorem dX9_parts_120 : decode cX9_parts 120 = .ok (.invokevirtual 345, 3) := by decide +kernel
theorem dX9_parts_123 : decode cX9_parts 123 = .ok (.ifCond .ne 5, 3) := by decide +kernel
theorem dX9_parts_126 : decode cX9_parts 126 = .ok (.iconst 0, 1) := by decide +kernel
theorem dX9_parts_127 : decode cX9_parts 127 = .ok (.ireturn, 1) := by decide +kernel
theorem dX9_parts_128 : decode cX9_parts 128 = .ok (.iinc 3 1, 3) := by decide +kernel
theorem dX9_parts_131 : decode cX9_parts 131 = .ok (.goto (-119), 3) := by decide +kernel
theorem dX9_parts_134 : decode cX9_parts 134 = .ok (.iinc 2 1, 3) := by decide +kernel
theorem dX9_parts_137 : decode cX9_parts 137 = .ok (.goto (-135), 3) := by decide +kernel
theorem dX9_parts_140 : decode cX9_parts 140 = .ok (.iconst 1, 1) := by decide +kernel
theorem dX9_parts_141 : decode cX9_parts 141 = .ok (.ireturn, 1) := by decide +kernel
abbrev vs_EM_parts : List Cond := .code yX9_parts cX9_parts 5 (some .boolean) :: VM
theorem g_EM_parts_EM_copies_zy : GoodIn vs_EM_parts (va_wsS RX9 362 yX9_copies vs_EM_copies_zy) := gm_S vm_228 vm_229 vm_19 vm_230
theorem g_EM_parts_EM_tightens_y : GoodIn vs_EM_parts (va_wsS RX9 334 yX9_tightens vs_EM_tightens_y) := gm_S vm_197 vm_198 vm_19 vm_199
theorem g_EM_parts_EM_closes_y : GoodIn vs_EM_parts (wsV RX9 345 RX9 yX9_closes vs_EM_closes_y) := gm_V vm_208 vm_209 vm_210 vm_19 vm_211
theorem g_EM_parts_EM_tightens_z : GoodIn vs_EM_parts (va_wsS RX9 334 yX9_tightens vs_EM_tightens_z) := gm_S vm_197 vm_198 vm_19 vm_199
theorem g_EM_parts_EM_closes_z : GoodIn vs_EM_parts (wsV RX9 345 RX9 yX9_closes vs_EM_closes_z) := gm_V vm_208 vm_209 vm_210 vm_19 vm_211
theorem g_EM_parts_EM_keepsPiece : GoodIn vs_EM_parts (wsV RX9 408 RX9 yX9_keepsPiece vs_EM_keepsPiece) := gm_V vm_281 vm_282 vm_283 vm_19 vm_284
noncomputable def sp_EM_parts_L1 (x46 : Nat) (f51 : Nat → Int32) (a0 : Nat) (g_14 : Nat) : ((Nat → Int32) × (Nat → Int32) × (Nat → Int32) × (Nat → Int32) × Nat × Nat) → ((Nat → Int32) × (Nat → Int32) × (Nat → Int32) × (Nat → Int32) × Nat × Nat) ⊕ (((Nat → Int32) × (Nat → Int32) × (Nat → Int32) × (Nat → Int32) × Nat × Nat) ⊕ (Nat × (Nat → Int32) × (Nat → Int32) × (Nat → Int32) × (Nat → Int32) × Nat)) := fun (g_32, g_33, g_34, g_35, g_36, g_37) => (if x46 ≤ g_37 then (Sum.inr (Sum.inl (g_32, g_33, g_34, g_35, g_36, (g_14 + 1)))) else (slet (f51 (((25 * a0) + (5 * g_14)) + g_37)) (fun y_51 => (if g_14 = g_37 then (Sum.inl (g_32, g_33, g_34, g_35, g_36, (g_37 + 1))) else (slet (g_32 ((5 * g_14) + g_37)) (fun y_55 => (if (y_51 : Int32) < y_55 then (slet (sp_EM_copies_zy g_32 g_33) (fun z36_58 => (slet ((1 : Int32) - y_51) (fun y_59 => (slet (sp_EM_tightens_y z36_58 g_37 g_14 y_59) (fun z36_61 => (slet (sp_EM_closes_y x46 z36_61) (fun (u_64, z36_63) => (slet (α := Nat × (Nat → Int32) × (Nat → Int32)) (if u_64 = 0 then (g_36, g_34, g_35) else (slet (sp_EM_keepsPiece g_36 z36_63 g_34 g_35 (a0 + 1)) (fun z49_82 => ((g_36 + 1), z49_82, (upd g_35 ((nI g_36) : Int32).toNatClampNeg (nI (a0 + 1))))))) (fun (g_65, g_66, g_67) => (slet (sp_EM_tightens_z g_32 g_14 g_37 y_51) (fun z35_74 => (slet (sp_EM_closes_z x46 z35_74) (fun (u_77, z35_76) => (if u_77 = 0 then (Sum.inr (Sum.inr (0, z35_76, z36_63, g_66, g_67, g_65))) else (Sum.inl (z35_76, z36_63, g_66, g_67, g_65, (g_37 + 1)))))))))))))))))) else (Sum.inl (g_32, g_33, g_34, g_35, g_36, (g_37 + 1))))))))))
noncomputable def sp_EM_parts_L2 (x46 : Nat) (f51 : Nat → Int32) (a0 : Nat) : ((Nat → Int32) × (Nat → Int32) × (Nat → Int32) × (Nat → Int32) × Nat × Nat) → ((Nat → Int32) × (Nat → Int32) × (Nat → Int32) × (Nat → Int32) × Nat × Nat) ⊕ (Nat × (Nat → Int32) × (Nat → Int32) × (Nat → Int32) × (Nat → Int32) × Nat) := fun (g_9, g_10, g_11, g_12, g_13, g_14) => (if x46 ≤ g_14 then (Sum.inr (1, g_9, g_10, g_11, g_12, g_13)) else (itrv (α := (Nat → Int32) × (Nat → Int32) × (Nat → Int32) × (Nat → Int32) × Nat × Nat) (β := (((Nat → Int32) × (Nat → Int32) × (Nat → Int32) × (Nat → Int32) × Nat × Nat) ⊕ (Nat × (Nat → Int32) × (Nat → Int32) × (Nat → Int32) × (Nat → Int32) × Nat))) (Sum.inr default) (sp_EM_parts_L1 x46 f51 a0 g_14) (g_9, g_10, g_11, g_12, g_13, 0)))
noncomputable def sp_EM_parts (x46 : Nat) (x52 : Nat) (f35 : Nat → Int32) (f36 : Nat → Int32) (f49 : Nat → Int32) (f50 : Nat → Int32) (f51 : Nat → Int32) (a0 : Nat) : Nat × (Nat → Int32) × (Nat → Int32) × (Nat → Int32) × (Nat → Int32) × Nat := (itrv (α := (Nat → Int32) × (Nat → Int32) × (Nat → Int32) × (Nat → Int32) × Nat × Nat) (β := (Nat × (Nat → Int32) × (Nat → Int32) × (Nat → Int32) × (Nat → Int32) × Nat)) default (sp_EM_parts_L2 x46 f51 a0) (f35, f36, f49, f50, x52, 0))
set_option maxHeartbeats 4000000 in
set_option maxRecDepth 100000 in
theorem c_EM_parts (l : Launch) (dC : Nat → ClassId) (dI : Nat → Nat → Nat) (sz : Nat) (ad : Nat → Nat) (ck : Nat → ClassId) (x0 : Int32) (x16 : Nat) (x18 : Nat) (x19 : Nat) (x20 : Int32) (x21 : Nat) (x22 : Nat) (x23 : Int32) (x24 : Int32) (x25 : Int32) (x26 : Nat) (x27 : Int32) (x28 : Nat) (x29 : Nat) (x30 : Nat) (x33 : Nat) (x45 : Int32) (x46 : Nat) (x52 : Nat) (x53 : Nat) (x61 : Nat) (x62 : Nat) (x63 : Nat) (x65 : Nat) (x66 : Int32) (f1 : Nat → Int32) (f2 : Nat → Int32) (f3 : Nat → Int32) (q4 : Nat → Nat) (q5 : Nat → Nat) (q6 : Nat → Nat) (q7 : Nat → Nat) (f8 : Nat → Int32) (q9 : Nat → Nat) (q10 : Nat → Nat) (f11 : Nat → Int32) (m12_0 m12_1 : Nat) (m13_0 m13_1 : Nat) (m14_0 m14_1 : Nat) (m15_0 m15_1 : Nat) (f17 : Nat → Int32) (q31 : Nat → Nat) (f32 : Nat → Int32) (f34 : Nat → Int32) (f35 : Nat → Int32) (f36 : Nat → Int32) (f37 : Nat → Int32) (q38 : Nat → Nat) (f39 : Nat → Int32) (f40 : Nat → Int32) (f41 : Nat → Int32) (m42_0 m42_1 : Nat) (f43 : Nat → Int32) (f44 : Nat → Int32) (f47 : Nat → Int32) (f48 : Nat → Int32) (f49 : Nat → Int32) (f50 : Nat → Int32) (f51 : Nat → Int32) (q54 : Nat → Nat) (q55 : Nat → Nat) (q56 : Nat → Nat) (f57 : Nat → Int32) (q58 : Nat → Nat) (f59 : Nat → Int32) (f60 : Nat → Int32) (f64 : Nat → Int32) (a0 : Nat) (hx16 : x16 ≤ 1) (hx18 : x18 ≤ 900) (hx19 : x19 ≤ 900) (hx21 : x21 ≤ 900) (hx22 : x22 ≤ 4) (hx26 : x26 ≤ 6) (hx28 : x28 ≤ 1) (hx29 : x29 ≤ 1) (hx30 : x30 ≤ 1) (hx33 : x33 ≤ 20) (hx46 : x46 ≤ 5) (hx52 : x52 ≤ 2360) (hx53 : x53 ≤ 119) (hx61 : x61 ≤ 119) (hx62 : x62 ≤ 2000) (hx63 : x63 ≤ 1) (hx65 : x65 ≤ 7) (hm12_0 : m12_0 ≤ 3) (hm12_1 : m12_1 ≤ 3) (hm13_0 : m13_0 ≤ 8) (hm13_1 : m13_1 ≤ 8) (hm14_0 : m14_0 ≤ 14) (hm14_1 : m14_1 ≤ 14) (hm15_0 : m15_0 ≤ 8) (hm15_1 : m15_1 ≤ 8) (hm42_0 : m42_0 ≤ 120) (hm42_1 : m42_1 ≤ 400) (ha0 : a0 ≤ 118) (hq0 : x52 ≤ 20 * a0) : Met l yX9_parts vs_EM_parts ({ frames := 2, cells := 0, slots := 0, locals := 45 }) (va_Pc [.ref (ad 0), .int (nI a0)] (pu_B (dC, dI) (mo_w ad ck x0 (nI x16) (nI x18) (nI x19) x20 (nI x21) (nI x22) x23 x24 x25 (nI x26) x27 (nI x28) (nI x29) (nI x30) (nI x33) x45 (nI x46) (nI x52) (nI x53) (nI x61) (nI x62) (nI x63) (nI x65) x66 f1 f2 f3 (bN 3 q4) (bN 7 q5) (bN 7 q6) (bN 4 q7) f8 (bN 2 q9) (bH q10) f11 (b2 m12_0 m12_1) (b2 m13_0 m13_1) (b2 m14_0 m14_1) (b2m m15_0 m15_1) f17 (bA 159 q31) f32 f34 f35 f36 f37 (bN 7 q38) f39 f40 f41 (b2 m42_0 m42_1) f43 f44 f47 f48 f49 f50 f51 (bN 13 q54) (bN 120 q55) (bN 120 q56) f57 (bN 120 q58) f59 f60 f64) (mo_t ck) sz)) (va_Qi (fun (r : Int32) (_ : Unit) => ∃ v : Nat, v ≤ 1 ∧ r = nI v ∧ v = (sp_EM_parts x46 x52 f35 f36 f49 f50 f51 a0).1) (fun _ t => ∃ (z35 : Nat → Int32) (z36 : Nat → Int32) (z49 : Nat → Int32) (z50 : Nat → Int32) (z52 : Nat), pu_E (dC, dI) (mo_w ad ck x0 (nI x16) (nI x18) (nI x19) x20 (nI x21) (nI x22) x23 x24 x25 (nI x26) x27 (nI x28) (nI x29) (nI x30) (nI x33) x45 (nI x46) (nI z52) (nI x53) (nI x61) (nI x62) (nI x63) (nI x65) x66 f1 f2 f3 (bN 3 q4) (bN 7 q5) (bN 7 q6) (bN 4 q7) f8 (bN 2 q9) (bH q10) f11 (b2 m12_0 m12_1) (b2 m13_0 m13_1) (b2 m14_0 m14_1) (b2m m15_0 m15_1) f17 (bA 159 q31) f32 f34 z35 z36 f37 (bN 7 q38) f39 f40 f41 (b2 m42_0 m42_1) f43 f44 f47 f48 z49 z50 f51 (bN 13 q54) (bN 120 q55) (bN 120 q56) f57 (bN 120 q58) f59 f60 f64) (mo_t ck) (va_A ((mo_w ad ck x0 (nI x16) (nI x18) (nI x19) x20 (nI x21) (nI x22) x23 x24 x25 (nI x26) x27 (nI x28) (nI x29) (nI x30) (nI x33) x45 (nI x46) (nI x52) (nI x53) (nI x61) (nI x62) (nI x63) (nI x65) x66 f1 f2 f3 (bN 3 q4) (bN 7 q5) (bN 7 q6) (bN 4 q7) f8 (bN 2 q9) (bH q10) f11 (b2 m12_0 m12_1) (b2 m13_0 m13_1) (b2 m14_0 m14_1) (b2m m15_0 m15_1) f17 (bA 159 q31) f32 f34 f35 f36 f37 (bN 7 q38) f39 f40 f41 (b2 m42_0 m42_1) f43 f44 f47 f48 f49 f50 f51 (bN 13 q54) (bN 120 q55) (bN 120 q56) f57 (bN 120 q58) f59 f60 f64)) sz) t ∧ (z52 ≤ 2400) ∧ (z52 ≤ x52 + 20) ∧ (pf_ext x52 z52 f50 z50 a0) ∧ ((z35, z36, z49, z50, z52) = (sp_EM_parts x46 x52 f35 f36 f49 f50 f51 a0).2)) (va_A ((mo_w ad ck x0 (nI x16) (nI x18) (nI x19) x20 (nI x21) (nI x22) x23 x24 x25 (nI x26) x27 (nI x28) (nI x29) (nI x30) (nI x33) x45 (nI x46) (nI x52) (nI x53) (nI x61) (nI x62) (nI x63) (nI x65) x66 f1 f2 f3 (bN 3 q4) (bN 7 q5) (bN 7 q6) (bN 4 q7) f8 (bN 2 q9) (bH q10) f11 (b2 m12_0 m12_1) (b2 m13_0 m13_1) (b2 m14_0 m14_1) (b2m m15_0 m15_1) f17 (bA 159 q31) f32 f34 f35 f36 f37 (bN 7 q38) f39 f40 f41 (b2 m42_0 m42_1) f43 f44 f47 f48 f49 f50 f51 (bN 13 q54) (bN 120 q55) (bN 120 q56) f57 (bN 120 q58) f59 f60 f64)) sz)) 0 0 (va_A ((mo_w ad ck x0 (nI x16) (nI x18) (nI x19) x20 (nI x21) (nI x22) x23 x24 x25 (nI x26) x27 (nI x28) (nI x29) (nI x30) (nI x33) x45 (nI x46) (nI x52) (nI x53) (nI x61) (nI x62) (nI x63) (nI x65) x66 f1 f2 f3 (bN 3 q4) (bN 7 q5) (bN 7 q6) (bN 4 q7) f8 (bN 2 q9) (bH q10) f11 (b2 m12_0 m12_1) (b2 m13_0 m13_1) (b2 m14_0 m14_1) (b2m m15_0 m15_1) f17 (bA 159 q31) f32 f34 f35 f36 f37 (bN 7 q38) f39 f40 f41 (b2 m42_0 m42_1) f43 f44 f47 f48 f49 f50 f51 (bN 13 q54) (bN 120 q55) (bN 120 q56) f57 (bN 120 q58) f59 f60 f64)) sz) := by
  refine Met.ofW (cc := cX9_parts) (maxL := 5) (ret := (some .boolean)) (by decide) rfl ?_
  intro p e s m args below meth c s₁ B hml hv
  obtain ⟨rfl, rfl, hP, hK, hD0⟩ := hv
  have hx := B.exec
  have hb := B.bytes
  have hr := B.returns
  have hts := atoms_spec (ws := vs_EM_parts) B.pre
  have v_1 := hts (.fieldLink RX9 328 "ClockReachModel" "side" "I") (List.mem_cons_of_mem _ vm_196)
  have v_2 := hts (.fieldLink RX9 115 "ClockReachModel" "covers" "[I") (List.mem_cons_of_mem _ vm_285)
  have v_3 := hts (.fieldLink RX9 71 "ClockReachModel" "z" "[I") (List.mem_cons_of_mem _ vm_219)
  have v_4 := hts (.fieldLink RX9 74 "ClockReachModel" "y" "[I") (List.mem_cons_of_mem _ vm_277)
  have hown : s.vm.findClass RX9 = some m.cls := findClass_of_methodNamed B.named
  have hlocks := B.notSynchronized
  have hiX9 : ∀ w ∈ wsX90, w ∈ vs_EM_parts := fun _ h => List.mem_cons_of_mem _ (vmi_L h)
  have hD := hD0.self (sz := s.heap.size)
  generalize hAe : va_A ((mo_w ad ck x0 (nI x16) (nI x18) (nI x19) x20 (nI x21) (nI x22) x23 x24 x25 (nI x26) x27 (nI x28) (nI x29) (nI x30) (nI x33) x45 (nI x46) (nI x52) (nI x53) (nI x61) (nI x62) (nI x63) (nI x65) x66 f1 f2 f3 (bN 3 q4) (bN 7 q5) (bN 7 q6) (bN 4 q7) f8 (bN 2 q9) (bH q10) f11 (b2 m12_0 m12_1) (b2 m13_0 m13_1) (b2 m14_0 m14_1) (b2m m15_0 m15_1) f17 (bA 159 q31) f32 f34 f35 f36 f37 (bN 7 q38) f39 f40 f41 (b2 m42_0 m42_1) f43 f44 f47 f48 f49 f50 f51 (bN 13 q54) (bN 120 q55) (bN 120 q56) f57 (bN 120 q58) f59 f60 f64)) s.heap.size = A at hD ⊢
  have hA : ∀ q : Nat, s.heap.size ≤ q → A q := fun q h => by rw [← hAe]; exact Or.inr h
  have hS : va_S A s.heap s.heap [] := va_S.rf
  have hl := lv_entry ([.ref (ad 0), .int (nI a0)]) (n := 5) (Nat.le_of_ble_eq_true rfl)
  rw [lg_entry_eq]
  generalize (lg_sl ([.ref (ad 0), .int (nI a0)]) ++ List.replicate (5 - (lg_sl ([.ref (ad 0), .int (nI a0)])).length) Slot.unset).toArray = ls at hl ⊢
  have hl : lv_has ls 5 [(0, .ref (ad 0)), (1, .int (nI a0))] := hl
  obtain ⟨RR, hRR⟩ : ∃ x, x = (sp_EM_parts x46 x52 f35 f36 f49 f50 f51 a0) := ⟨_, rfl⟩
  have hsp := hRR
  refine lv_iconst (v := 0) hx hb dX9_parts_0 (by decide) ?_
  refine lv_istore_n (lv' := [(2, .int 0), (0, .ref (ad 0)), (1, .int (nI a0))]) hx hb dX9_parts_1 rfl hl (by decide) rfl (fun ls hl => ?_)
  obtain ⟨lf_18, dlf_18, hlf_18, hsp⟩ := itr_ex hsp
  delta sp_EM_parts_L2 at hlf_18
  refine pu_while (fun nn H locs ls => ∃ (g_9 : Nat → Int32) (g_10 : Nat → Int32) (g_11 : Nat → Int32) (g_12 : Nat → Int32) (g_13 : Nat) (g_14 : Nat), nn = 5 - g_14 ∧ g_13 ≤ 2380 ∧ g_14 ≤ 5 ∧ pf_ext x52 g_13 f50 g_12 a0 ∧ g_13 ≤ x52 + 4 * g_14 ∧ RR = itrv dlf_18 lf_18 (g_9, g_10, g_11, g_12, g_13, g_14) ∧ va_P (dC, dI) vwCl (mo_w ad ck x0 (nI x16) (nI x18) (nI x19) x20 (nI x21) (nI x22) x23 x24 x25 (nI x26) x27 (nI x28) (nI x29) (nI x30) (nI x33) x45 (nI x46) (nI g_13) (nI x53) (nI x61) (nI x62) (nI x63) (nI x65) x66 f1 f2 f3 (bN 3 q4) (bN 7 q5) (bN 7 q6) (bN 4 q7) f8 (bN 2 q9) (bH q10) f11 (b2 m12_0 m12_1) (b2 m13_0 m13_1) (b2 m14_0 m14_1) (b2m m15_0 m15_1) f17 (bA 159 q31) f32 f34 g_9 g_10 f37 (bN 7 q38) f39 f40 f41 (b2 m42_0 m42_1) f43 f44 f47 f48 g_11 g_12 f51 (bN 13 q54) (bN 120 q55) (bN 120 q56) f57 (bN 120 q58) f59 f60 f64) H ∧ va_D A (mo_w ad ck x0 (nI x16) (nI x18) (nI x19) x20 (nI x21) (nI x22) x23 x24 x25 (nI x26) x27 (nI x28) (nI x29) (nI x30) (nI x33) x45 (nI x46) (nI g_13) (nI x53) (nI x61) (nI x62) (nI x63) (nI x65) x66 f1 f2 f3 (bN 3 q4) (bN 7 q5) (bN 7 q6) (bN 4 q7) f8 (bN 2 q9) (bH q10) f11 (b2 m12_0 m12_1) (b2 m13_0 m13_1) (b2 m14_0 m14_1) (b2m m15_0 m15_1) f17 (bA 159 q31) f32 f34 g_9 g_10 f37 (bN 7 q38) f39 f40 f41 (b2 m42_0 m42_1) f43 f44 f47 f48 g_11 g_12 f51 (bN 13 q54) (bN 120 q55) (bN 120 q56) f57 (bN 120 q58) f59 f60 f64) ∧ va_S A s.heap H locs ∧ lv_has ls 5 [(0, .ref (ad 0)), (1, .int (nI a0)), (2, .int (nI g_14))]) 2 ?_ _ _ _ _ ⟨f35, f36, f49, f50, x52, 0, rfl, (Nat.le_trans hx52 (Nat.le_of_ble_eq_true rfl)), (Nat.le_of_ble_eq_true rfl), by first | assumption | exact pf_refl | exact pf_step (by assumption) (by omega) | exact pf_one | exact pf_app (by assumption) (by assumption) (by omega) (by omega) (by omega) (by omega), by omega, hsp, hP, hD, hS, lv_sub hl [1, 2, 0] rfl⟩
  rintro nn ih_17 H locs ls ⟨g_9, g_10, g_11, g_12, g_13, g_14, rfl, hg_13, hg_14, he_15, he_16, he_20, hP, hD, hS, hl⟩
  obtain ⟨S_19, hsp, hin_21, hout_22⟩ := itr_step hlf_18 he_20
  refine lv_iload_n hx hb dX9_parts_2 rfl (lv_at hl 2 rfl) ?_
  refine lv_aload_n hx hb dX9_parts_3 rfl (lv_at hl 0 rfl) ?_
  refine va_get (D := (dC, dI)) (ci := 9) (v := .int (nI x46)) (C := RX9) (T := TX9) (N := 67) hx hb hts hiX9 hown hK hP 0 rfl rfl 46 (by decide) v_1 (fun _ h9 => h9) rfl dX9_parts_4 ?_
  refine lv_icmp_ge (tgt := 140) hx hb dX9_parts_7 (by decide) (fun c_23 => ?_) (fun c_23 => ?_)
  · have c_23 : x46 ≤ g_14 := (nI_leI (a := x46) (b := g_14) (Nat.lt_of_le_of_lt hx46 (Nat.le_of_ble_eq_true rfl)) (Nat.lt_of_le_of_lt hg_14 (Nat.le_of_ble_eq_true rfl))).mp c_23
    replace hsp := hsp.trans (if_pos c_23)
    have hsp := hout_22 _ hsp
    refine lv_iconst (v := 1) hx hb dX9_parts_140 (by decide) ?_
    exact W.zret (v := 1) (ty := .boolean) hx hb hr (rfl) (fun t ht hW => ⟨⟨1, (), rfl, ⟨1, (Nat.le_of_ble_eq_true rfl), rfl, (congrArg Prod.fst (hsp.symm.trans hRR))⟩, ⟨g_9, g_10, g_11, g_12, g_13, ⟨by rw [ht]; exact hP, va_K.moved hW.alike hK, hD⟩, (Nat.le_trans hg_13 (Nat.le_of_ble_eq_true rfl)), by omega, by first | assumption | exact pf_refl | exact pf_step (by assumption) (by omega), (congrArg Prod.snd (hsp.symm.trans hRR))⟩⟩, hS.F ht⟩) hS.2.2 dX9_parts_141
  · have c_23 : ¬ x46 ≤ g_14 := fun z => c_23 ((nI_leI (a := x46) (b := g_14) (Nat.lt_of_le_of_lt hx46 (Nat.le_of_ble_eq_true rfl)) (Nat.lt_of_le_of_lt hg_14 (Nat.le_of_ble_eq_true rfl))).mpr z)
    replace hsp := hsp.trans (if_neg c_23)
    refine lv_iconst (v := 0) hx hb dX9_parts_10 (by decide) ?_
    refine lv_istore_n (lv' := [(3, .int 0), (0, .ref (ad 0)), (1, .int (nI a0)), (2, .int (nI g_14))]) hx hb dX9_parts_11 rfl hl (by decide) rfl (fun ls hl => ?_)
    obtain ⟨lf_41, dlf_41, hlf_41, hsp⟩ := itr_ex hsp
    delta sp_EM_parts_L1 at hlf_41
    refine pu_while (fun nn H locs ls => ∃ (g_32 : Nat → Int32) (g_33 : Nat → Int32) (g_34 : Nat → Int32) (g_35 : Nat → Int32) (g_36 : Nat) (g_37 : Nat), nn = 5 - g_37 ∧ g_36 ≤ 2380 ∧ g_37 ≤ 5 ∧ pf_ext x52 g_36 f50 g_35 a0 ∧ ((g_37 ≤ g_14 ∧ g_36 ≤ x52 + 4 * g_14 + g_37) ∨ (g_14 < g_37 ∧ g_36 + 1 ≤ x52 + 4 * g_14 + g_37)) ∧ S_19 = itrv dlf_41 lf_41 (g_32, g_33, g_34, g_35, g_36, g_37) ∧ va_P (dC, dI) vwCl (mo_w ad ck x0 (nI x16) (nI x18) (nI x19) x20 (nI x21) (nI x22) x23 x24 x25 (nI x26) x27 (nI x28) (nI x29) (nI x30) (nI x33) x45 (nI x46) (nI g_36) (nI x53) (nI x61) (nI x62) (nI x63) (nI x65) x66 f1 f2 f3 (bN 3 q4) (bN 7 q5) (bN 7 q6) (bN 4 q7) f8 (bN 2 q9) (bH q10) f11 (b2 m12_0 m12_1) (b2 m13_0 m13_1) (b2 m14_0 m14_1) (b2m m15_0 m15_1) f17 (bA 159 q31) f32 f34 g_32 g_33 f37 (bN 7 q38) f39 f40 f41 (b2 m42_0 m42_1) f43 f44 f47 f48 g_34 g_35 f51 (bN 13 q54) (bN 120 q55) (bN 120 q56) f57 (bN 120 q58) f59 f60 f64) H ∧ va_D A (mo_w ad ck x0 (nI x16) (nI x18) (nI x19) x20 (nI x21) (nI x22) x23 x24 x25 (nI x26) x27 (nI x28) (nI x29) (nI x30) (nI x33) x45 (nI x46) (nI g_36) (nI x53) (nI x61) (nI x62) (nI x63) (nI x65) x66 f1 f2 f3 (bN 3 q4) (bN 7 q5) (bN 7 q6) (bN 4 q7) f8 (bN 2 q9) (bH q10) f11 (b2 m12_0 m12_1) (b2 m13_0 m13_1) (b2 m14_0 m14_1) (b2m m15_0 m15_1) f17 (bA 159 q31) f32 f34 g_32 g_33 f37 (bN 7 q38) f39 f40 f41 (b2 m42_0 m42_1) f43 f44 f47 f48 g_34 g_35 f51 (bN 13 q54) (bN 120 q55) (bN 120 q56) f57 (bN 120 q58) f59 f60 f64) ∧ va_S A s.heap H locs ∧ lv_has ls 5 [(0, .ref (ad 0)), (1, .int (nI a0)), (2, .int (nI g_14)), (3, .int (nI g_37))]) 12 ?_ _ _ _ _ ⟨g_9, g_10, g_11, g_12, g_13, 0, rfl, hg_13, (Nat.le_of_ble_eq_true rfl), by first | assumption | exact pf_refl | exact pf_step (by assumption) (by omega) | exact pf_one | exact pf_app (by assumption) (by assumption) (by omega) (by omega) (by omega) (by omega), by omega, hsp, hP, hD, hS, lv_sub hl [1, 2, 3, 0] rfl⟩
    rintro nn ih_40 H locs ls ⟨g_32, g_33, g_34, g_35, g_36, g_37, rfl, hg_36, hg_37, he_38, he_39, he_43, hP, hD, hS, hl⟩
    obtain ⟨S_42, hsp, hin_44, hout_45⟩ := itr_step hlf_41 he_43
    refine lv_iload_n hx hb dX9_parts_12 rfl (lv_at hl 3 rfl) ?_
    refine lv_aload_n hx hb dX9_parts_13 rfl (lv_at hl 0 rfl) ?_
    refine va_get (D := (dC, dI)) (ci := 9) (v := .int (nI x46)) (C := RX9) (T := TX9) (N := 67) hx hb hts hiX9 hown hK hP 0 rfl rfl 46 (by decide) v_1 (fun _ h9 => h9) rfl dX9_parts_14 ?_
    refine lv_icmp_ge (tgt := 134) hx hb dX9_parts_17 (by decide) (fun c_46 => ?_) (fun c_46 => ?_)
    · have c_46 : x46 ≤ g_37 := (nI_leI (a := x46) (b := g_37) (Nat.lt_of_le_of_lt hx46 (Nat.le_of_ble_eq_true rfl)) (Nat.lt_of_le_of_lt hg_37 (Nat.le_of_ble_eq_true rfl))).mp c_46
      replace hsp := hsp.trans (if_pos c_46)
      have hsp := hout_45 _ hsp
      refine lv_iinc (v := (nI (g_14 + 1))) (lv' := [(2, .int (nI (g_14 + 1))), (0, .ref (ad 0)), (1, .int (nI a0)), (3, .int (nI g_37))]) hx hb dX9_parts_134 hl (k := 2) rfl (nI_1 _) (by decide) rfl (fun ls hl => ?_)
      refine lv_goto (tgt := 2) hx hb dX9_parts_137 (by decide) ?_
      exact ih_17 (5 - (g_14 + 1)) (by omega) _ _ _ ⟨g_32, g_33, g_34, g_35, g_36, (g_14 + 1), rfl, hg_36, (by omega), by first | assumption | exact pf_refl | exact pf_step (by assumption) (by omega) | exact pf_one | exact pf_app (by assumption) (by assumption) (by omega) (by omega) (by omega) (by omega), by omega, hin_21 _ hsp, hP, hD, hS, lv_sub hl [1, 2, 0] rfl⟩
    · have c_46 : ¬ x46 ≤ g_37 := fun z => c_46 ((nI_leI (a := x46) (b := g_37) (Nat.lt_of_le_of_lt hx46 (Nat.le_of_ble_eq_true rfl)) (Nat.lt_of_le_of_lt hg_37 (Nat.le_of_ble_eq_true rfl))).mpr z)
      replace hsp := hsp.trans (if_neg c_46)
      refine lv_aload_n hx hb dX9_parts_20 rfl (lv_at hl 0 rfl) ?_
      refine va_get (D := (dC, dI)) (ci := 9) (v := .ref (ad 51)) (C := RX9) (T := TX9) (N := 67) hx hb hts hiX9 hown hK hP 0 rfl rfl 51 (by decide) v_2 (fun _ h9 => h9) rfl dX9_parts_21 ?_
      refine lv_bipush (v := 25) hx hb dX9_parts_24 (by decide) ?_
      refine lv_iload_n hx hb dX9_parts_26 rfl (lv_at hl 1 rfl) ?_
      refine lv_imul hx hb dX9_parts_27 ?_
      refine lv_topi (fun y_47 ey_47 => ?_)
      obtain rfl : y_47 = (nI (25 * a0)) := ey_47.trans (pk_mul 25 a0)
      refine lv_iconst (v := 5) hx hb dX9_parts_28 (by decide) ?_
      refine lv_iload_n hx hb dX9_parts_29 rfl (lv_at hl 2 rfl) ?_
      refine lv_imul hx hb dX9_parts_30 ?_
      refine lv_topi (fun y_48 ey_48 => ?_)
      obtain rfl : y_48 = (nI (5 * g_14)) := ey_48.trans (pk_mul 5 g_14)
      refine lv_iadd hx hb dX9_parts_31 ?_
      refine lv_topi (fun y_49 ey_49 => ?_)
      obtain rfl : y_49 = (nI ((25 * a0) + (5 * g_14))) := ey_49.trans (nI_add (25 * a0) (5 * g_14))
      refine lv_iload_n hx hb dX9_parts_32 rfl (lv_at hl 3 rfl) ?_
      refine lv_iadd hx hb dX9_parts_33 ?_
      refine lv_topi (fun y_50 ey_50 => ?_)
      obtain rfl : y_50 = (nI (((25 * a0) + (5 * g_14)) + g_37)) := ey_50.trans (nI_add ((25 * a0) + (5 * g_14)) g_37)
      refine va_iald hx hb hK hP 34 33 rfl rfl (vp_in_nI (n := (((25 * a0) + (5 * g_14)) + g_37)) (by omega) (Nat.le_of_ble_eq_true rfl)) dX9_parts_34 ?_
      refine lv_topi (fun y_51 ey_51 => ?_)
      have ey_51 : y_51 = f51 (((25 * a0) + (5 * g_14)) + g_37) := ey_51.trans (congrArg f51 (nI_clamp (n := (((25 * a0) + (5 * g_14)) + g_37)) (by first | omega | exact Nat.lt_trans (zx16 (by omega) (by omega) (by omega)) (Nat.le_of_ble_eq_true rfl) | exact Nat.lt_trans (zy16 (by omega) (by omega)) (Nat.le_of_ble_eq_true rfl) | exact Nat.lt_trans (zx25 (by omega) (by omega) (by omega)) (Nat.le_of_ble_eq_true rfl) | exact Nat.lt_trans (zy25 (by omega) (by omega)) (Nat.le_of_ble_eq_true rfl))))
      replace hsp := hsp.trans (slet_eq ey_51)
      refine lv_istore (lv' := [(4, .int y_51), (0, .ref (ad 0)), (1, .int (nI a0)), (2, .int (nI g_14)), (3, .int (nI g_37))]) hx hb dX9_parts_35 hl (by decide) rfl (fun ls hl => ?_)
      refine lv_iload_n hx hb dX9_parts_37 rfl (lv_at hl 3 rfl) ?_
      refine lv_iload_n hx hb dX9_parts_38 rfl (lv_at hl 4 rfl) ?_
      refine lv_icmp_eq (tgt := 128) hx hb dX9_parts_39 (by decide) (fun c_52 => ?_) (fun c_52 => ?_)
      · have c_52 : g_14 = g_37 := (nI_eq (a := g_14) (b := g_37) (Nat.lt_of_le_of_lt hg_14 (Nat.le_of_ble_eq_true rfl)) (Nat.lt_of_le_of_lt hg_37 (Nat.le_of_ble_eq_true rfl))).mp c_52
        replace hsp := hsp.trans (if_pos c_52)
        refine lv_iinc (v := (nI (g_37 + 1))) (lv' := [(3, .int (nI (g_37 + 1))), (4, .int y_51), (0, .ref (ad 0)), (1, .int (nI a0)), (2, .int (nI g_14))]) hx hb dX9_parts_128 hl (k := 4) rfl (nI_1 _) (by decide) rfl (fun ls hl => ?_)
        refine lv_goto (tgt := 12) hx hb dX9_parts_131 (by decide) ?_
        exact ih_40 (5 - (g_37 + 1)) (by omega) _ _ _ ⟨g_32, g_33, g_34, g_35, g_36, (g_37 + 1), rfl, hg_36, (by omega), by first | assumption | exact pf_refl | exact pf_step (by assumption) (by omega) | exact pf_one | exact pf_app (by assumption) (by assumption) (by omega) (by omega) (by omega) (by omega), by omega, hin_44 _ hsp, hP, hD, hS, lv_sub hl [2, 3, 4, 0] rfl⟩
      · have c_52 : ¬ g_14 = g_37 := fun z => c_52 ((nI_eq (a := g_14) (b := g_37) (Nat.lt_of_le_of_lt hg_14 (Nat.le_of_ble_eq_true rfl)) (Nat.lt_of_le_of_lt hg_37 (Nat.le_of_ble_eq_true rfl))).mpr z)
        replace hsp := hsp.trans (if_neg c_52)
        refine lv_iload hx hb dX9_parts_42 (lv_at hl 0 rfl) ?_
        refine lv_aload_n hx hb dX9_parts_44 rfl (lv_at hl 1 rfl) ?_
        refine va_get (D := (dC, dI)) (ci := 9) (v := .ref (ad 35)) (C := RX9) (T := TX9) (N := 67) hx hb hts hiX9 hown hK hP 0 rfl rfl 35 (by decide) v_3 (fun _ h9 => h9) rfl dX9_parts_45 ?_
        refine lv_iconst (v := 5) hx hb dX9_parts_48 (by decide) ?_
        refine lv_iload_n hx hb dX9_parts_49 rfl (lv_at hl 3 rfl) ?_
        refine lv_imul hx hb dX9_parts_50 ?_
        refine lv_topi (fun y_53 ey_53 => ?_)
        obtain rfl : y_53 = (nI (5 * g_14)) := ey_53.trans (pk_mul 5 g_14)
        refine lv_iload_n hx hb dX9_parts_51 rfl (lv_at hl 4 rfl) ?_
        refine lv_iadd hx hb dX9_parts_52 ?_
        refine lv_topi (fun y_54 ey_54 => ?_)
        obtain rfl : y_54 = (nI ((5 * g_14) + g_37)) := ey_54.trans (nI_add (5 * g_14) g_37)
        refine va_iald hx hb hK hP 20 19 rfl rfl (vp_in_nI (n := ((5 * g_14) + g_37)) (by omega) (Nat.le_of_ble_eq_true rfl)) dX9_parts_53 ?_
        refine lv_topi (fun y_55 ey_55 => ?_)
        have ey_55 : y_55 = g_32 ((5 * g_14) + g_37) := ey_55.trans (congrArg g_32 (nI_clamp (n := ((5 * g_14) + g_37)) (by first | omega | exact Nat.lt_trans (zx16 (by omega) (by omega) (by omega)) (Nat.le_of_ble_eq_true rfl) | exact Nat.lt_trans (zy16 (by omega) (by omega)) (Nat.le_of_ble_eq_true rfl) | exact Nat.lt_trans (zx25 (by omega) (by omega) (by omega)) (Nat.le_of_ble_eq_true rfl) | exact Nat.lt_trans (zy25 (by omega) (by omega)) (Nat.le_of_ble_eq_true rfl))))
        replace hsp := hsp.trans (slet_eq ey_55)
        refine lv_icmp_lt (tgt := 60) hx hb dX9_parts_54 (by decide) (fun c_56 => ?_) (fun c_56 => ?_)
        · have hcc_56 := c_56
          replace hsp := hsp.trans (if_pos c_56)
          refine lv_aload_n hx hb dX9_parts_60 rfl (lv_at hl 1 rfl) ?_
          refine va_get (D := (dC, dI)) (ci := 9) (v := .ref (ad 35)) (C := RX9) (T := TX9) (N := 67) hx hb hts hiX9 hown hK hP 0 rfl rfl 35 (by decide) v_3 (fun _ h9 => h9) rfl dX9_parts_61 ?_
          refine lv_iconst (v := 0) hx hb dX9_parts_64 (by decide) ?_
          refine lv_aload_n hx hb dX9_parts_65 rfl (lv_at hl 1 rfl) ?_
          refine va_get (D := (dC, dI)) (ci := 9) (v := .ref (ad 36)) (C := RX9) (T := TX9) (N := 67) hx hb hts hiX9 hown hK hP 0 rfl rfl 36 (by decide) v_4 (fun _ h9 => h9) rfl dX9_parts_66 ?_
          refine lv_iconst (v := 0) hx hb dX9_parts_69 (by decide) ?_
          have hFc := pu_free hD hS hA
          refine va_callv (va_runS (As := [.ref (ad 35), .int 0, .ref (ad 36), .int 0]) (rest := []) ⟨hx, hb, hml, hown, hts⟩ (c_EM_copies_zy l dC dI _ ad ck x0 x16 x18 x19 x20 x21 x22 x23 x24 x25 x26 x27 x28 x29 x30 x33 x45 x46 g_36 x53 x61 x62 x63 x65 x66 f1 f2 f3 q4 q5 q6 q7 f8 q9 q10 f11 m12_0 m12_1 m13_0 m13_1 m14_0 m14_1 m15_0 m15_1 f17 q31 f32 f34 g_32 g_33 f37 q38 f39 f40 f41 m42_0 m42_1 f43 f44 f47 f48 g_34 g_35 f51 q54 q55 q56 f57 q58 f59 f60 f64 hx16 hx18 hx19 hx21 hx22 hx26 hx28 hx29 hx30 hx33 hx46 (Nat.le_trans hg_36 (Nat.le_of_ble_eq_true rfl)) hx53 hx61 hx62 hx63 hx65 hm12_0 hm12_1 hm13_0 hm13_1 hm14_0 hm14_1 hm15_0 hm15_1 hm42_0 hm42_1) (va_cwS 4 hts g_EM_parts_EM_copies_zy rfl rfl rfl (by decide +kernel) ⟨Nat.le_of_ble_eq_true rfl, Nat.le_of_ble_eq_true rfl⟩) ⟨pu_bl, pu_in hP hK hD⟩ rfl rfl hl.1 rfl (lv_room (Nat.le_of_ble_eq_true rfl)) dX9_parts_70 ⟨Nat.le_of_ble_eq_true rfl, Nat.le_of_ble_eq_true rfl⟩) hS (fun q _ h => hFc q h) hFc (fun u t H1 locs ht hvm hw hB hz1 hk1 hS => ?_)
          obtain ⟨z36_58, ⟨hP1, -, hD1⟩, xr_57_0⟩ := hB
          rw [ht] at hP1
          have hP := hP1
          have hD := pu_all hFc hD1
          clear hP1 hD1 hFc
          clear hk1 hz1 ht hvm
          generalize H1 = H at hP hS ⊢
          replace hsp := hsp.trans (slet_eq xr_57_0)
          refine lv_aload_n hx hb dX9_parts_73 rfl (lv_at hl 1 rfl) ?_
          refine va_get (D := (dC, dI)) (ci := 9) (v := .ref (ad 36)) (C := RX9) (T := TX9) (N := 67) hx hb hts hiX9 hown hK hP 0 rfl rfl 36 (by decide) v_4 (fun _ h9 => h9) rfl dX9_parts_74 ?_
          refine lv_iload_n hx hb dX9_parts_77 rfl (lv_at hl 4 rfl) ?_
          refine lv_iload_n hx hb dX9_parts_78 rfl (lv_at hl 3 rfl) ?_
          refine lv_iconst (v := 1) hx hb dX9_parts_79 (by decide) ?_
          refine lv_iload hx hb dX9_parts_80 (lv_at hl 0 rfl) ?_
          refine lv_isub hx hb dX9_parts_82 ?_
          refine lv_topi (fun y_59 ey_59 => ?_)
          replace hsp := hsp.trans (slet_eq ey_59)
          have hFc := pu_free hD hS hA
          refine va_callv (va_runS (As := [.ref (ad 36), .int (nI g_37), .int (nI g_14), .int y_59]) (rest := []) ⟨hx, hb, hml, hown, hts⟩ (c_EM_tightens_y l dC dI _ ad ck x0 x16 x18 x19 x20 x21 x22 x23 x24 x25 x26 x27 x28 x29 x30 x33 x45 x46 g_36 x53 x61 x62 x63 x65 x66 f1 f2 f3 q4 q5 q6 q7 f8 q9 q10 f11 m12_0 m12_1 m13_0 m13_1 m14_0 m14_1 m15_0 m15_1 f17 q31 f32 f34 g_32 z36_58 f37 q38 f39 f40 f41 m42_0 m42_1 f43 f44 f47 f48 g_34 g_35 f51 q54 q55 q56 f57 q58 f59 f60 f64 g_37 g_14 y_59 hx16 hx18 hx19 hx21 hx22 hx26 hx28 hx29 hx30 hx33 hx46 (Nat.le_trans hg_36 (Nat.le_of_ble_eq_true rfl)) hx53 hx61 hx62 hx63 hx65 hm12_0 hm12_1 hm13_0 hm13_1 hm14_0 hm14_1 hm15_0 hm15_1 hm42_0 hm42_1 (by omega) (by omega)) (va_cwS 4 hts g_EM_parts_EM_tightens_y rfl rfl rfl (by decide +kernel) ⟨Nat.le_of_ble_eq_true rfl, Nat.le_of_ble_eq_true rfl⟩) ⟨pu_bl, pu_in hP hK hD⟩ rfl rfl hl.1 rfl (lv_room (Nat.le_of_ble_eq_true rfl)) dX9_parts_83 ⟨Nat.le_of_ble_eq_true rfl, Nat.le_of_ble_eq_true rfl⟩) hS (fun q _ h => hFc q h) hFc (fun u t H1 locs ht hvm hw hB hz1 hk1 hS => ?_)
          obtain ⟨z36_61, ⟨hP1, -, hD1⟩, xr_60_0⟩ := hB
          rw [ht] at hP1
          have hP := hP1
          have hD := pu_all hFc hD1
          clear hP1 hD1 hFc
          clear hk1 hz1 ht hvm
          generalize H1 = H at hP hS ⊢
          replace hsp := hsp.trans (slet_eq xr_60_0)
          refine lv_aload_n hx hb dX9_parts_86 rfl (lv_at hl 1 rfl) ?_
          refine lv_aload_n hx hb dX9_parts_87 rfl (lv_at hl 1 rfl) ?_
          refine va_get (D := (dC, dI)) (ci := 9) (v := .ref (ad 36)) (C := RX9) (T := TX9) (N := 67) hx hb hts hiX9 hown hK hP 0 rfl rfl 36 (by decide) v_4 (fun _ h9 => h9) rfl dX9_parts_88 ?_
          have hFc := pu_free hD hS hA
          refine va_calli (va_runV (As := [.ref (ad 36)]) (rest := []) ⟨hx, hb, hml, hown, hts⟩ (c_EM_closes_y l dC dI _ ad ck x0 x16 x18 x19 x20 x21 x22 x23 x24 x25 x26 x27 x28 x29 x30 x33 x45 x46 g_36 x53 x61 x62 x63 x65 x66 f1 f2 f3 q4 q5 q6 q7 f8 q9 q10 f11 m12_0 m12_1 m13_0 m13_1 m14_0 m14_1 m15_0 m15_1 f17 q31 f32 f34 g_32 z36_61 f37 q38 f39 f40 f41 m42_0 m42_1 f43 f44 f47 f48 g_34 g_35 f51 q54 q55 q56 f57 q58 f59 f60 f64 hx16 hx18 hx19 hx21 hx22 hx26 hx28 hx29 hx30 hx33 hx46 (Nat.le_trans hg_36 (Nat.le_of_ble_eq_true rfl)) hx53 hx61 hx62 hx63 hx65 hm12_0 hm12_1 hm13_0 hm13_1 hm14_0 hm14_1 hm15_0 hm15_1 hm42_0 hm42_1) (cwV 1 hts g_EM_parts_EM_closes_y rfl rfl rfl (by decide +kernel) ⟨Nat.le_of_ble_eq_true rfl, Nat.le_of_ble_eq_true rfl⟩) ⟨pu_bl, va_recv hK hP (ci := 9) (q0 := 0) rfl rfl, pu_in hP hK hD⟩ rfl rfl hl.1 rfl (lv_room (Nat.le_of_ble_eq_true rfl)) dX9_parts_91 ⟨Nat.le_of_ble_eq_true rfl, Nat.le_of_ble_eq_true rfl⟩) hS (fun q _ h => hFc q h) hFc (fun r_62 u t H1 locs ht hvm hw hB hz1 hk1 hS => ?_)
          obtain ⟨z36_63, ⟨hP1, -, hD1⟩, xr_62_0⟩ := hB
          rw [ht] at hP1
          have hP := hP1
          have hD := pu_all hFc hD1
          clear hP1 hD1 hFc
          clear hk1 hz1 ht hvm
          generalize H1 = H at hP hS ⊢
          obtain ⟨u_64, hu_64, rfl, iu_64⟩ := hw
          have iu_64 : (u_64, z36_63) = (sp_EM_closes_y x46 z36_61) := Prod.ext iu_64 xr_62_0
          replace hsp := hsp.trans (slet_eq iu_64)
          obtain ⟨JR_71, hJR_71, hsp⟩ := slet_ex hsp
          refine pu_join (fun H locs ls st => ∃ (g_65 : Nat) (g_66 : Nat → Int32) (g_67 : Nat → Int32), st = [] ∧ g_65 ≤ 2381 ∧ pf_ext x52 g_65 f50 g_67 a0 ∧ ((g_37 < g_14 ∧ g_65 ≤ x52 + 4 * g_14 + g_37 + 1) ∨ (g_14 < g_37 ∧ g_65 ≤ x52 + 4 * g_14 + g_37)) ∧ (g_65, g_66, g_67) = JR_71 ∧ va_P (dC, dI) vwCl (mo_w ad ck x0 (nI x16) (nI x18) (nI x19) x20 (nI x21) (nI x22) x23 x24 x25 (nI x26) x27 (nI x28) (nI x29) (nI x30) (nI x33) x45 (nI x46) (nI g_65) (nI x53) (nI x61) (nI x62) (nI x63) (nI x65) x66 f1 f2 f3 (bN 3 q4) (bN 7 q5) (bN 7 q6) (bN 4 q7) f8 (bN 2 q9) (bH q10) f11 (b2 m12_0 m12_1) (b2 m13_0 m13_1) (b2 m14_0 m14_1) (b2m m15_0 m15_1) f17 (bA 159 q31) f32 f34 g_32 z36_63 f37 (bN 7 q38) f39 f40 f41 (b2 m42_0 m42_1) f43 f44 f47 f48 g_66 g_67 f51 (bN 13 q54) (bN 120 q55) (bN 120 q56) f57 (bN 120 q58) f59 f60 f64) H ∧ va_D A (mo_w ad ck x0 (nI x16) (nI x18) (nI x19) x20 (nI x21) (nI x22) x23 x24 x25 (nI x26) x27 (nI x28) (nI x29) (nI x30) (nI x33) x45 (nI x46) (nI g_65) (nI x53) (nI x61) (nI x62) (nI x63) (nI x65) x66 f1 f2 f3 (bN 3 q4) (bN 7 q5) (bN 7 q6) (bN 4 q7) f8 (bN 2 q9) (bH q10) f11 (b2 m12_0 m12_1) (b2 m13_0 m13_1) (b2 m14_0 m14_1) (b2m m15_0 m15_1) f17 (bA 159 q31) f32 f34 g_32 z36_63 f37 (bN 7 q38) f39 f40 f41 (b2 m42_0 m42_1) f43 f44 f47 f48 g_66 g_67 f51 (bN 13 q54) (bN 120 q55) (bN 120 q56) f57 (bN 120 q58) f59 f60 f64) ∧ va_S A s.heap H locs ∧ lv_has ls 5 [(0, .ref (ad 0)), (1, .int (nI a0)), (2, .int (nI g_14)), (3, .int (nI g_37)), (4, .int y_51)]) 104 ?_ (fun j_70 => ?_)
          · rintro H locs ls st ⟨g_65, g_66, g_67, rfl, hg_65, he_68, he_69, he_72, hP, hD, hS, hl⟩
            rw [← he_72] at hsp
            refine lv_aload_n hx hb dX9_parts_104 rfl (lv_at hl 0 rfl) ?_
            refine va_get (D := (dC, dI)) (ci := 9) (v := .ref (ad 35)) (C := RX9) (T := TX9) (N := 67) hx hb hts hiX9 hown hK hP 0 rfl rfl 35 (by decide) v_3 (fun _ h9 => h9) rfl dX9_parts_105 ?_
            refine lv_iload_n hx hb dX9_parts_108 rfl (lv_at hl 2 rfl) ?_
            refine lv_iload_n hx hb dX9_parts_109 rfl (lv_at hl 3 rfl) ?_
            refine lv_iload hx hb dX9_parts_110 (lv_at hl 4 rfl) ?_
            have hFc := pu_free hD hS hA
            refine va_callv (va_runS (As := [.ref (ad 35), .int (nI g_14), .int (nI g_37), .int y_51]) (rest := []) ⟨hx, hb, hml, hown, hts⟩ (c_EM_tightens_z l dC dI _ ad ck x0 x16 x18 x19 x20 x21 x22 x23 x24 x25 x26 x27 x28 x29 x30 x33 x45 x46 g_65 x53 x61 x62 x63 x65 x66 f1 f2 f3 q4 q5 q6 q7 f8 q9 q10 f11 m12_0 m12_1 m13_0 m13_1 m14_0 m14_1 m15_0 m15_1 f17 q31 f32 f34 g_32 z36_63 f37 q38 f39 f40 f41 m42_0 m42_1 f43 f44 f47 f48 g_66 g_67 f51 q54 q55 q56 f57 q58 f59 f60 f64 g_14 g_37 y_51 hx16 hx18 hx19 hx21 hx22 hx26 hx28 hx29 hx30 hx33 hx46 (Nat.le_trans hg_65 (Nat.le_of_ble_eq_true rfl)) hx53 hx61 hx62 hx63 hx65 hm12_0 hm12_1 hm13_0 hm13_1 hm14_0 hm14_1 hm15_0 hm15_1 hm42_0 hm42_1 (by omega) (by omega)) (va_cwS 4 hts g_EM_parts_EM_tightens_z rfl rfl rfl (by decide +kernel) ⟨Nat.le_of_ble_eq_true rfl, Nat.le_of_ble_eq_true rfl⟩) ⟨pu_bl, pu_in hP hK hD⟩ rfl rfl hl.1 rfl (lv_room (Nat.le_of_ble_eq_true rfl)) dX9_parts_112 ⟨Nat.le_of_ble_eq_true rfl, Nat.le_of_ble_eq_true rfl⟩) hS (fun q _ h => hFc q h) hFc (fun u t H1 locs ht hvm hw hB hz1 hk1 hS => ?_)
            obtain ⟨z35_74, ⟨hP1, -, hD1⟩, xr_73_0⟩ := hB
            rw [ht] at hP1
            have hP := hP1
            have hD := pu_all hFc hD1
            clear hP1 hD1 hFc
            clear hk1 hz1 ht hvm
            generalize H1 = H at hP hS ⊢
            replace hsp := hsp.trans (slet_eq xr_73_0)
            refine lv_aload_n hx hb dX9_parts_115 rfl (lv_at hl 0 rfl) ?_
            refine lv_aload_n hx hb dX9_parts_116 rfl (lv_at hl 0 rfl) ?_
            refine va_get (D := (dC, dI)) (ci := 9) (v := .ref (ad 35)) (C := RX9) (T := TX9) (N := 67) hx hb hts hiX9 hown hK hP 0 rfl rfl 35 (by decide) v_3 (fun _ h9 => h9) rfl dX9_parts_117 ?_
            have hFc := pu_free hD hS hA
            refine va_calli (va_runV (As := [.ref (ad 35)]) (rest := []) ⟨hx, hb, hml, hown, hts⟩ (c_EM_closes_z l dC dI _ ad ck x0 x16 x18 x19 x20 x21 x22 x23 x24 x25 x26 x27 x28 x29 x30 x33 x45 x46 g_65 x53 x61 x62 x63 x65 x66 f1 f2 f3 q4 q5 q6 q7 f8 q9 q10 f11 m12_0 m12_1 m13_0 m13_1 m14_0 m14_1 m15_0 m15_1 f17 q31 f32 f34 z35_74 z36_63 f37 q38 f39 f40 f41 m42_0 m42_1 f43 f44 f47 f48 g_66 g_67 f51 q54 q55 q56 f57 q58 f59 f60 f64 hx16 hx18 hx19 hx21 hx22 hx26 hx28 hx29 hx30 hx33 hx46 (Nat.le_trans hg_65 (Nat.le_of_ble_eq_true rfl)) hx53 hx61 hx62 hx63 hx65 hm12_0 hm12_1 hm13_0 hm13_1 hm14_0 hm14_1 hm15_0 hm15_1 hm42_0 hm42_1) (cwV 1 hts g_EM_parts_EM_closes_z rfl rfl rfl (by decide +kernel) ⟨Nat.le_of_ble_eq_true rfl, Nat.le_of_ble_eq_true rfl⟩) ⟨pu_bl, va_recv hK hP (ci := 9) (q0 := 0) rfl rfl, pu_in hP hK hD⟩ rfl rfl hl.1 rfl (lv_room (Nat.le_of_ble_eq_true rfl)) dX9_parts_120 ⟨Nat.le_of_ble_eq_true rfl, Nat.le_of_ble_eq_true rfl⟩) hS (fun q _ h => hFc q h) hFc (fun r_75 u t H1 locs ht hvm hw hB hz1 hk1 hS => ?_)
            obtain ⟨z35_76, ⟨hP1, -, hD1⟩, xr_75_0⟩ := hB
            rw [ht] at hP1
            have hP := hP1
            have hD := pu_all hFc hD1
            clear hP1 hD1 hFc
            clear hk1 hz1 ht hvm
            generalize H1 = H at hP hS ⊢
            obtain ⟨u_77, hu_77, rfl, iu_77⟩ := hw
            have iu_77 : (u_77, z35_76) = (sp_EM_closes_z x46 z35_74) := Prod.ext iu_77 xr_75_0
            replace hsp := hsp.trans (slet_eq iu_77)
            refine lv_if_ne (tgt := 128) hx hb dX9_parts_123 (by decide) (fun c_78 => ?_) (fun c_78 => ?_)
            · have c_78 : ¬ u_77 = 0 := fun z => c_78 ((nI_eq (a := u_77) (b := 0) (Nat.lt_of_le_of_lt hu_77 (Nat.le_of_ble_eq_true rfl)) (Nat.le_of_ble_eq_true rfl)).mpr z)
              replace hsp := hsp.trans (if_neg c_78)
              refine lv_iinc (v := (nI (g_37 + 1))) (lv' := [(3, .int (nI (g_37 + 1))), (0, .ref (ad 0)), (1, .int (nI a0)), (2, .int (nI g_14)), (4, .int y_51)]) hx hb dX9_parts_128 hl (k := 3) rfl (nI_1 _) (by decide) rfl (fun ls hl => ?_)
              refine lv_goto (tgt := 12) hx hb dX9_parts_131 (by decide) ?_
              exact ih_40 (5 - (g_37 + 1)) (by omega) _ _ _ ⟨z35_76, z36_63, g_66, g_67, g_65, (g_37 + 1), rfl, (by omega), (by omega), by first | assumption | exact pf_refl | exact pf_step (by assumption) (by omega) | exact pf_one | exact pf_app (by assumption) (by assumption) (by omega) (by omega) (by omega) (by omega), by omega, hin_44 _ hsp, hP, hD, hS, lv_sub hl [1, 2, 3, 0] rfl⟩
            · have c_78 : u_77 = 0 := (nI_eq (a := u_77) (b := 0) (Nat.lt_of_le_of_lt hu_77 (Nat.le_of_ble_eq_true rfl)) (Nat.le_of_ble_eq_true rfl)).mp c_78
              replace hsp := hsp.trans (if_pos c_78)
              have hsp := hout_45 _ hsp
              have hsp := hout_22 _ hsp
              refine lv_iconst (v := 0) hx hb dX9_parts_126 (by decide) ?_
              exact W.zret (v := 0) (ty := .boolean) hx hb hr (rfl) (fun t ht hW => ⟨⟨0, (), rfl, ⟨0, (Nat.le_of_ble_eq_true rfl), rfl, (congrArg Prod.fst (hsp.symm.trans hRR))⟩, ⟨z35_76, z36_63, g_66, g_67, g_65, ⟨by rw [ht]; exact hP, va_K.moved hW.alike hK, hD⟩, (Nat.le_trans hg_65 (Nat.le_of_ble_eq_true rfl)), by omega, by first | assumption | exact pf_refl | exact pf_step (by assumption) (by omega), (congrArg Prod.snd (hsp.symm.trans hRR))⟩⟩, hS.F ht⟩) hS.2.2 dX9_parts_127
          have hsp := hJR_71
          refine lv_if_eq (tgt := 104) hx hb dX9_parts_94 (by decide) (fun c_79 => ?_) (fun c_79 => ?_)
          · have c_79 : u_64 = 0 := (nI_eq (a := u_64) (b := 0) (Nat.lt_of_le_of_lt hu_64 (Nat.le_of_ble_eq_true rfl)) (Nat.le_of_ble_eq_true rfl)).mp c_79
            replace hsp := hsp.trans (if_pos c_79)
            exact j_70 _ _ _ _ ⟨g_36, g_34, g_35, rfl, (Nat.le_trans hg_36 (Nat.le_of_ble_eq_true rfl)), by first | assumption | exact pf_refl | exact pf_step (by assumption) (by omega) | exact pf_one | exact pf_app (by assumption) (by assumption) (by omega) (by omega) (by omega) (by omega), by omega, hsp.symm, hP, hD, hS, lv_sub hl [1, 2, 3, 4, 0] rfl⟩
          · have c_79 : ¬ u_64 = 0 := fun z => c_79 ((nI_eq (a := u_64) (b := 0) (Nat.lt_of_le_of_lt hu_64 (Nat.le_of_ble_eq_true rfl)) (Nat.le_of_ble_eq_true rfl)).mpr z)
            replace hsp := hsp.trans (if_neg c_79)
            refine lv_aload_n hx hb dX9_parts_97 rfl (lv_at hl 1 rfl) ?_
            refine lv_iload_n hx hb dX9_parts_98 rfl (lv_at hl 2 rfl) ?_
            refine lv_iconst (v := 1) hx hb dX9_parts_99 (by decide) ?_
            refine lv_iadd hx hb dX9_parts_100 ?_
            refine lv_topi (fun y_80 ey_80 => ?_)
            obtain rfl : y_80 = (nI (a0 + 1)) := ey_80.trans (nI_add a0 1)
            have hFc := pu_free hD hS hA
            refine va_callv (va_runV (As := [.int (nI (a0 + 1))]) (rest := []) ⟨hx, hb, hml, hown, hts⟩ (c_EM_keepsPiece l dC dI _ ad ck x0 x16 x18 x19 x20 x21 x22 x23 x24 x25 x26 x27 x28 x29 x30 x33 x45 x46 g_36 x53 x61 x62 x63 x65 x66 f1 f2 f3 q4 q5 q6 q7 f8 q9 q10 f11 m12_0 m12_1 m13_0 m13_1 m14_0 m14_1 m15_0 m15_1 f17 q31 f32 f34 g_32 z36_63 f37 q38 f39 f40 f41 m42_0 m42_1 f43 f44 f47 f48 g_34 g_35 f51 q54 q55 q56 f57 q58 f59 f60 f64 (a0 + 1) hx16 hx18 hx19 hx21 hx22 hx26 hx28 hx29 hx30 hx33 hx46 (Nat.le_trans hg_36 (Nat.le_of_ble_eq_true rfl)) hx53 hx61 hx62 hx63 hx65 hm12_0 hm12_1 hm13_0 hm13_1 hm14_0 hm14_1 hm15_0 hm15_1 hm42_0 hm42_1 (by omega)) (cwV 1 hts g_EM_parts_EM_keepsPiece rfl rfl rfl (by decide +kernel) ⟨Nat.le_of_ble_eq_true rfl, Nat.le_of_ble_eq_true rfl⟩) ⟨pu_bl, va_recv hK hP (ci := 9) (q0 := 0) rfl rfl, pu_in hP hK hD⟩ rfl rfl hl.1 rfl (lv_room (Nat.le_of_ble_eq_true rfl)) dX9_parts_101 ⟨Nat.le_of_ble_eq_true rfl, Nat.le_of_ble_eq_true rfl⟩) hS (fun q _ h => hFc q h) hFc (fun u t H1 locs ht hvm hw hB hz1 hk1 hS => ?_)
            obtain ⟨z49_82, ⟨hP1, -, hD1⟩, xr_81_0⟩ := hB
            rw [ht] at hP1
            have hP := hP1
            have hD := pu_all hFc hD1
            clear hP1 hD1 hFc
            clear hk1 hz1 ht hvm
            generalize H1 = H at hP hS ⊢
            replace hsp := hsp.trans (slet_eq xr_81_0)
            exact j_70 _ _ _ _ ⟨(g_36 + 1), z49_82, (upd g_35 ((nI g_36) : Int32).toNatClampNeg (nI (a0 + 1))), rfl, (by omega), by first | assumption | exact pf_refl | exact pf_step (by assumption) (by omega) | exact pf_one | exact pf_app (by assumption) (by assumption) (by omega) (by omega) (by omega) (by omega), by omega, hsp.symm, hP, hD, hS, lv_sub hl [1, 2, 3, 4, 0] rfl⟩
        · have hcc_56 := c_56
          replace hsp := hsp.trans (if_neg c_56)
          refine lv_goto (tgt := 128) hx hb dX9_parts_57 (by decide) ?_
          refine lv_iinc (v := (nI (g_37 + 1))) (lv' := [(3, .int (nI (g_37 + 1))), (4, .int y_51), (0, .ref (ad 0)), (1, .int (nI a0)), (2, .int (nI g_14))]) hx hb dX9_parts_128 hl (k := 4) rfl (nI_1 _) (by decide) rfl (fun ls hl => ?_)
          refine lv_goto (tgt := 12) hx hb dX9_parts_131 (by decide) ?_
          exact ih_40 (5 - (g_37 + 1)) (by omega) _ _ _ ⟨g_32, g_33, g_34, g_35, g_36, (g_37 + 1), rfl, hg_36, (by omega), by first | assumption | exact pf_refl | exact pf_step (by assumption) (by omega) | exact pf_one | exact pf_app (by assumption) (by assumption) (by omega) (by omega) (by omega) (by omega), by omega, hin_44 _ hsp, hP, hD, hS, lv_sub hl [2, 3, 4, 0] rfl⟩
theorem dX9_isOver_0 : decode cX9_isOver 0 = .ok (.aload_n 0, 1) := by decide +kernel
theorem dX9_isOver_1 : decode cX9_isOver 1 = .ok (.iconst 0, 1) := by decide +kernel
theorem dX9_isOver_2 : decode cX9_isOver 2 = .ok (.putfield 405, 3) := by decide +kernel
theorem dX9_isOver_5 : decode cX9_isOver 5 = .ok (.aload_n 0, 1) := by decide +kernel
theorem dX9_isOver_6 : decode cX9_isOver 6 = .ok (.getfield 71, 3) := by decide +kernel
theorem dX9_isOver_9 : decode cX9_isOver 9 = .ok (.iconst 0, 1) := by decide +kernel
theorem dX9_isOver_10 : decode cX9_isOver 10 = .ok (.aload_n 0, 1) := by decide +kernel
theorem dX9_isOver_11 : decode cX9_isOver 11 = .ok (.getfield 74, 3) := by decide +kernel
theorem dX9_isOver_14 : decode cX9_isOver 14 = .ok (.iconst 0, 1) := by decide +kernel
theorem dX9_isOver_15 : decode cX9_isOver 15 = .ok (.invokestatic 362, 3) := by decide +kernel
theorem dX9_isOver_18 : decode cX9_isOver 18 = .ok (.aload_n 0, 1) := by decide +kernel
theorem dX9_isOver_19 : decode cX9_isOver 19 = .ok (.iconst 0, 1) := by decide +kernel
theorem dX9_isOver_20 : decode cX9_isOver 20 = .ok (.invokevirtual 408, 3) := by decide +kernel
theorem dX9_isOver_23 : decode cX9_isOver 23 = .ok (.aload_n 0, 1) := by decide +kernel
theorem dX9_isOver_24 : decode cX9_isOver 24 = .ok (.getfield 405, 3) := by decide +kernel
theorem dX9_isOver_27 : decode cX9_isOver 27 = .ok (.ifCond .le 67, 3) := by decide +kernel
theorem dX9_isOver_30 : decode cX9_isOver 30 = .ok (.aload_n 0, 1) := by decide +kernel
theorem dX9_isOver_31 : decode cX9_isOver 31 = .ok (.dup, 1) := by decide +kernel
theorem dX9_isOver_32 : decode cX9_isOver 32 = .ok (.getfield 405, 3) := by decide +kernel
theorem dX9_isOver_35 : decode cX9_isOver 35 = .ok (.iconst 1, 1) := by decide +kernel
theorem dX9_isOver_36 : decode cX9_isOver 36 = .ok (.isub, 1) := by decide +kernel
theorem dX9_isOver_37 : decode cX9_isOver 37 = .ok (.putfield 405, 3) := by decide +kernel
theorem dX9_isOver_40 : decode cX9_isOver 40 = .ok (.aload_n 0, 1) := by decide +kernel
theorem dX9_isOver_41 : decode cX9_isOver 41 = .ok (.getfield 109, 3) := by decide +kernel
theorem dX9_isOver_44 : decode cX9_isOver 44 = .ok (.bipush 25, 2) := by decide +kernel
theorem dX9_isOver_46 : decode cX9_isOver 46 = .ok (.aload_n 0, 1) := by decide +kernel
theorem dX9_isOver_47 : decode cX9_isOver 47 = .ok (.getfield 405, 3) := by decide +kernel
theorem dX9_isOver_50 : decode cX9_isOver 50 = .ok (.imul, 1) := by decide +kernel
theorem dX9_isOver_51 : decode cX9_isOver 51 = .ok (.aload_n 0, 1) := by decide +kernel
theorem dX9_isOver_52 : decode cX9_isOver 52 = .ok (.getfield 71, 3) := by decide +kernel
theorem dX9_isOver_55 : decode cX9_isOver 55 = .ok (.iconst 0, 1) := by decide +kernel
theorem dX9_isOver_56 : decode cX9_isOver 56 = .ok (.invokestatic 362, 3) := by decide +kernel
theorem dX9_isOver_59 : decode cX9_isOver 59 = .ok (.aload_n 0, 1) := by decide +kernel
theorem dX9_isOver_60 : decode cX9_isOver 60 = .ok (.getfield 112, 3) := by decide +kernel
theorem dX9_isOver_63 : decode cX9_isOver 63 = .ok (.aload_n 0, 1) := by decide +kernel
theorem dX9_isOver_64 : decode cX9_isOver 64 = .ok (.getfield 405, 3) := by decide +kernel
theorem dX9_isOver_67 : decode cX9_isOver 67 = .ok (.iaload, 1) := by decide +kernel
theorem dX9_isOver_68 : decode cX9_isOver 68 = .ok (.aload_n 0, 1) := by decide +kernel
theorem dX9_isOver_69 : decode cX9_isOver 69 = .ok (.getfield 411, 3) := by decide +kernel
theorem dX9_isOver_72 : decode cX9_isOver 72 = .ok (.if_icmp .ne 5, 3) := by decide +kernel
theorem dX9_isOver_75 : decode cX9_isOver 75 = .ok (.iconst 1, 1) := by decide +kernel
theorem dX9_isOver_76 : decode cX9_isOver 76 = .ok (.ireturn, 1) := by decide +kernel
theorem dX9_isOver_77 : decode cX9_isOver 77 = .ok (.aload_n 0, 1) := by decide +kernel
theorem dX9_isOver_78 : decode cX9_isOver 78 = .ok (.aload_n 0, 1) := by decide +kernel
theorem dX9_isOver_79 : decode cX9_isOver 79 = .ok (.getfield 112, 3) := by decide +kernel
theorem dX9_isOver_82 : decode cX9_isOver 82 = .ok (.aload_n 0, 1) := by decide +kernel
theorem dX9_isOver_83 : decode cX9_isOver 83 = .ok (.getfield 405, 3) := by decide +kernel
theorem dX9_isOver_86 : decode cX9_isOver 86 = .ok (.iaload, 1) := by decide +kernel
theorem dX9_isOver_87 : decode cX9_isOver 87 = .ok (.invokevirtual 414, 3) := by decide +kernel
theorem dX9_isOver_90 : decode cX9_isOver 90 = .ok (.pop, 1) := by decide +kernel
theorem dX9_isOver_91 : decode cX9_isOver 91 = .ok (.goto (-68), 3) := by decide +kernel
theorem dX9_isOver_94 : decode cX9_isOver 94 = .ok (.iconst 0, 1) := by decide +kernel
theorem dX9_isOver_95 : decode cX9_isOver 95 = .ok (.ireturn, 1) := by decide +kernel
abbrev vs_EM_isOver : List Cond := .code yX9_isOver cX9_isOver 1 (some .boolean) :: VM
theorem g_EM_isOver_EM_copies_zy : GoodIn vs_EM_isOver (va_wsS RX9 362 yX9_copies vs_EM_copies_zy) := gm_S vm_228 vm_229 vm_19 vm_230
theorem g_EM_isOver_EM_keepsPiece : GoodIn vs_EM_isOver (wsV RX9 408 RX9 yX9_keepsPiece vs_EM_keepsPiece) := gm_V vm_281 vm_282 vm_283 vm_19 vm_284
theorem g_EM_isOver_EM_copies_pz : GoodIn vs_EM_isOver (va_wsS RX9 362 yX9_copies vs_EM_copies_pz) := gm_S vm_228 vm_229 vm_19 vm_230
theorem g_EM_isOver_EM_parts : GoodIn vs_EM_isOver (wsV RX9 414 RX9 yX9_parts vs_EM_parts) := gm_V vm_286 vm_287 vm_288 vm_19 vm_289
noncomputable def sp_EM_isOver_L1 (x46 : Nat) (x53 : Nat) (f51 : Nat → Int32) : ((Nat → Int32) × (Nat → Int32) × (Nat → Int32) × (Nat → Int32) × Nat) → ((Nat → Int32) × (Nat → Int32) × (Nat → Int32) × (Nat → Int32) × Nat) ⊕ (Nat × (Nat → Int32) × (Nat → Int32) × (Nat → Int32) × (Nat → Int32) × Nat) := fun (g_11, g_12, g_13, g_14, g_15) => (if g_15 ≤ 0 then (Sum.inr (0, g_11, g_12, g_13, g_14, g_15)) else (slet ((g_14 (g_15 - 1) : Int32).toNatClampNeg) (fun k_25 => (slet (sp_EM_copies_pz g_11 g_13 (25 * (g_15 - 1))) (fun z35_28 => (if k_25 = x53 then (Sum.inr (1, z35_28, g_12, g_13, g_14, (g_15 - 1))) else (slet (sp_EM_parts x46 (g_15 - 1) z35_28 g_12 g_13 g_14 f51 k_25) (fun (u_38, z35_33, z36_34, z49_35, z50_36, z52_37) => (Sum.inl (z35_33, z36_34, z49_35, z50_36, z52_37))))))))))
noncomputable def sp_EM_isOver (x46 : Nat) (x53 : Nat) (f35 : Nat → Int32) (f36 : Nat → Int32) (f49 : Nat → Int32) (f50 : Nat → Int32) (f51 : Nat → Int32) : Nat × (Nat → Int32) × (Nat → Int32) × (Nat → Int32) × (Nat → Int32) × Nat := (slet (sp_EM_copies_zy f35 f36) (fun z36_2 => (slet (sp_EM_keepsPiece 0 z36_2 f49 f50 0) (fun z49_4 => (itrv (α := (Nat → Int32) × (Nat → Int32) × (Nat → Int32) × (Nat → Int32) × Nat) (β := (Nat × (Nat → Int32) × (Nat → Int32) × (Nat → Int32) × (Nat → Int32) × Nat)) default (sp_EM_isOver_L1 x46 x53 f51) (f35, z36_2, z49_4, (upd f50 ((nI 0) : Int32).toNatClampNeg (nI 0)), (0 + 1)))))))
set_option maxHeartbeats 4000000 in
set_option maxRecDepth 100000 in
theorem c_EM_isOver (l : Launch) (dC : Nat → ClassId) (dI : Nat → Nat → Nat) (sz : Nat) (ad : Nat → Nat) (ck : Nat → ClassId) (x0 : Int32) (x16 : Nat) (x18 : Nat) (x19 : Nat) (x20 : Int32) (x21 : Nat) (x22 : Nat) (x23 : Int32) (x24 : Int32) (x25 : Int32) (x26 : Nat) (x27 : Int32) (x28 : Nat) (x29 : Nat) (x30 : Nat) (x33 : Nat) (x45 : Int32) (x46 : Nat) (x52 : Nat) (x53 : Nat) (x61 : Nat) (x62 : Nat) (x63 : Nat) (x65 : Nat) (x66 : Int32) (f1 : Nat → Int32) (f2 : Nat → Int32) (f3 : Nat → Int32) (q4 : Nat → Nat) (q5 : Nat → Nat) (q6 : Nat → Nat) (q7 : Nat → Nat) (f8 : Nat → Int32) (q9 : Nat → Nat) (q10 : Nat → Nat) (f11 : Nat → Int32) (m12_0 m12_1 : Nat) (m13_0 m13_1 : Nat) (m14_0 m14_1 : Nat) (m15_0 m15_1 : Nat) (f17 : Nat → Int32) (q31 : Nat → Nat) (f32 : Nat → Int32) (f34 : Nat → Int32) (f35 : Nat → Int32) (f36 : Nat → Int32) (f37 : Nat → Int32) (q38 : Nat → Nat) (f39 : Nat → Int32) (f40 : Nat → Int32) (f41 : Nat → Int32) (m42_0 m42_1 : Nat) (f43 : Nat → Int32) (f44 : Nat → Int32) (f47 : Nat → Int32) (f48 : Nat → Int32) (f49 : Nat → Int32) (f50 : Nat → Int32) (f51 : Nat → Int32) (q54 : Nat → Nat) (q55 : Nat → Nat) (q56 : Nat → Nat) (f57 : Nat → Int32) (q58 : Nat → Nat) (f59 : Nat → Int32) (f60 : Nat → Int32) (f64 : Nat → Int32) (hx16 : x16 ≤ 1) (hx18 : x18 ≤ 900) (hx19 : x19 ≤ 900) (hx21 : x21 ≤ 900) (hx22 : x22 ≤ 4) (hx26 : x26 ≤ 6) (hx28 : x28 ≤ 1) (hx29 : x29 ≤ 1) (hx30 : x30 ≤ 1) (hx33 : x33 ≤ 20) (hx46 : x46 ≤ 5) (hx52 : x52 ≤ 2400) (hx53 : x53 ≤ 119) (hx61 : x61 ≤ 119) (hx62 : x62 ≤ 2000) (hx63 : x63 ≤ 1) (hx65 : x65 ≤ 7) (hm12_0 : m12_0 ≤ 3) (hm12_1 : m12_1 ≤ 3) (hm13_0 : m13_0 ≤ 8) (hm13_1 : m13_1 ≤ 8) (hm14_0 : m14_0 ≤ 14) (hm14_1 : m14_1 ≤ 14) (hm15_0 : m15_0 ≤ 8) (hm15_1 : m15_1 ≤ 8) (hm42_0 : m42_0 ≤ 120) (hm42_1 : m42_1 ≤ 400) : Met l yX9_isOver vs_EM_isOver ({ frames := 3, cells := 0, slots := 0, locals := 69 }) (va_Pc [.ref (ad 0)] (pu_B (dC, dI) (mo_w ad ck x0 (nI x16) (nI x18) (nI x19) x20 (nI x21) (nI x22) x23 x24 x25 (nI x26) x27 (nI x28) (nI x29) (nI x30) (nI x33) x45 (nI x46) (nI x52) (nI x53) (nI x61) (nI x62) (nI x63) (nI x65) x66 f1 f2 f3 (bN 3 q4) (bN 7 q5) (bN 7 q6) (bN 4 q7) f8 (bN 2 q9) (bH q10) f11 (b2 m12_0 m12_1) (b2 m13_0 m13_1) (b2 m14_0 m14_1) (b2m m15_0 m15_1) f17 (bA 159 q31) f32 f34 f35 f36 f37 (bN 7 q38) f39 f40 f41 (b2 m42_0 m42_1) f43 f44 f47 f48 f49 f50 f51 (bN 13 q54) (bN 120 q55) (bN 120 q56) f57 (bN 120 q58) f59 f60 f64) (mo_t ck) sz)) (va_Qi (fun (r : Int32) (_ : Unit) => ∃ v : Nat, v ≤ 1 ∧ r = nI v ∧ v = (sp_EM_isOver x46 x53 f35 f36 f49 f50 f51).1) (fun _ t => ∃ (z35 : Nat → Int32) (z36 : Nat → Int32) (z49 : Nat → Int32) (z50 : Nat → Int32) (z52 : Nat), pu_E (dC, dI) (mo_w ad ck x0 (nI x16) (nI x18) (nI x19) x20 (nI x21) (nI x22) x23 x24 x25 (nI x26) x27 (nI x28) (nI x29) (nI x30) (nI x33) x45 (nI x46) (nI z52) (nI x53) (nI x61) (nI x62) (nI x63) (nI x65) x66 f1 f2 f3 (bN 3 q4) (bN 7 q5) (bN 7 q6) (bN 4 q7) f8 (bN 2 q9) (bH q10) f11 (b2 m12_0 m12_1) (b2 m13_0 m13_1) (b2 m14_0 m14_1) (b2m m15_0 m15_1) f17 (bA 159 q31) f32 f34 z35 z36 f37 (bN 7 q38) f39 f40 f41 (b2 m42_0 m42_1) f43 f44 f47 f48 z49 z50 f51 (bN 13 q54) (bN 120 q55) (bN 120 q56) f57 (bN 120 q58) f59 f60 f64) (mo_t ck) (va_A ((mo_w ad ck x0 (nI x16) (nI x18) (nI x19) x20 (nI x21) (nI x22) x23 x24 x25 (nI x26) x27 (nI x28) (nI x29) (nI x30) (nI x33) x45 (nI x46) (nI x52) (nI x53) (nI x61) (nI x62) (nI x63) (nI x65) x66 f1 f2 f3 (bN 3 q4) (bN 7 q5) (bN 7 q6) (bN 4 q7) f8 (bN 2 q9) (bH q10) f11 (b2 m12_0 m12_1) (b2 m13_0 m13_1) (b2 m14_0 m14_1) (b2m m15_0 m15_1) f17 (bA 159 q31) f32 f34 f35 f36 f37 (bN 7 q38) f39 f40 f41 (b2 m42_0 m42_1) f43 f44 f47 f48 f49 f50 f51 (bN 13 q54) (bN 120 q55) (bN 120 q56) f57 (bN 120 q58) f59 f60 f64)) sz) t ∧ (z52 ≤ 2400) ∧ ((z35, z36, z49, z50, z52) = (sp_EM_isOver x46 x53 f35 f36 f49 f50 f51).2)) (va_A ((mo_w ad ck x0 (nI x16) (nI x18) (nI x19) x20 (nI x21) (nI x22) x23 x24 x25 (nI x26) x27 (nI x28) (nI x29) (nI x30) (nI x33) x45 (nI x46) (nI x52) (nI x53) (nI x61) (nI x62) (nI x63) (nI x65) x66 f1 f2 f3 (bN 3 q4) (bN 7 q5) (bN 7 q6) (bN 4 q7) f8 (bN 2 q9) (bH q10) f11 (b2 m12_0 m12_1) (b2 m13_0 m13_1) (b2 m14_0 m14_1) (b2m m15_0 m15_1) f17 (bA 159 q31) f32 f34 f35 f36 f37 (bN 7 q38) f39 f40 f41 (b2 m42_0 m42_1) f43 f44 f47 f48 f49 f50 f51 (bN 13 q54) (bN 120 q55) (bN 120 q56) f57 (bN 120 q58) f59 f60 f64)) sz)) 0 0 (va_A ((mo_w ad ck x0 (nI x16) (nI x18) (nI x19) x20 (nI x21) (nI x22) x23 x24 x25 (nI x26) x27 (nI x28) (nI x29) (nI x30) (nI x33) x45 (nI x46) (nI x52) (nI x53) (nI x61) (nI x62) (nI x63) (nI x65) x66 f1 f2 f3 (bN 3 q4) (bN 7 q5) (bN 7 q6) (bN 4 q7) f8 (bN 2 q9) (bH q10) f11 (b2 m12_0 m12_1) (b2 m13_0 m13_1) (b2 m14_0 m14_1) (b2m m15_0 m15_1) f17 (bA 159 q31) f32 f34 f35 f36 f37 (bN 7 q38) f39 f40 f41 (b2 m42_0 m42_1) f43 f44 f47 f48 f49 f50 f51 (bN 13 q54) (bN 120 q55) (bN 120 q56) f57 (bN 120 q58) f59 f60 f64)) sz) := by
  refine Met.ofW (cc := cX9_isOver) (maxL := 1) (ret := (some .boolean)) (by decide) rfl ?_
  intro p e s m args below meth c s₁ B hml hv
  obtain ⟨rfl, rfl, hP, hK, hD0⟩ := hv
  have hx := B.exec
  have hb := B.bytes
  have hr := B.returns
  have hts := atoms_spec (ws := vs_EM_isOver) B.pre
  have v_1 := hts (.fieldLink RX9 405 "ClockReachModel" "pieces" "I") (List.mem_cons_of_mem _ vm_279)
  have v_2 := hts (.fieldLink RX9 71 "ClockReachModel" "z" "[I") (List.mem_cons_of_mem _ vm_219)
  have v_3 := hts (.fieldLink RX9 74 "ClockReachModel" "y" "[I") (List.mem_cons_of_mem _ vm_277)
  have v_12 := hts (.fieldLink RX9 109 "ClockReachModel" "piece" "[I") (List.mem_cons_of_mem _ vm_278)
  have v_13 := hts (.fieldLink RX9 112 "ClockReachModel" "pieceFrom" "[I") (List.mem_cons_of_mem _ vm_280)
  have v_14 := hts (.fieldLink RX9 411 "ClockReachModel" "coverMany" "I") (List.mem_cons_of_mem _ vm_290)
  have hown : s.vm.findClass RX9 = some m.cls := findClass_of_methodNamed B.named
  have hlocks := B.notSynchronized
  have hiX9 : ∀ w ∈ wsX90, w ∈ vs_EM_isOver := fun _ h => List.mem_cons_of_mem _ (vmi_L h)
  have hD := hD0.self (sz := s.heap.size)
  generalize hAe : va_A ((mo_w ad ck x0 (nI x16) (nI x18) (nI x19) x20 (nI x21) (nI x22) x23 x24 x25 (nI x26) x27 (nI x28) (nI x29) (nI x30) (nI x33) x45 (nI x46) (nI x52) (nI x53) (nI x61) (nI x62) (nI x63) (nI x65) x66 f1 f2 f3 (bN 3 q4) (bN 7 q5) (bN 7 q6) (bN 4 q7) f8 (bN 2 q9) (bH q10) f11 (b2 m12_0 m12_1) (b2 m13_0 m13_1) (b2 m14_0 m14_1) (b2m m15_0 m15_1) f17 (bA 159 q31) f32 f34 f35 f36 f37 (bN 7 q38) f39 f40 f41 (b2 m42_0 m42_1) f43 f44 f47 f48 f49 f50 f51 (bN 13 q54) (bN 120 q55) (bN 120 q56) f57 (bN 120 q58) f59 f60 f64)) s.heap.size = A at hD ⊢
  have hA : ∀ q : Nat, s.heap.size ≤ q → A q := fun q h => by rw [← hAe]; exact Or.inr h
  have hS : va_S A s.heap s.heap [] := va_S.rf
  have hl := lv_entry ([.ref (ad 0)]) (n := 1) (Nat.le_of_ble_eq_true rfl)
  rw [lg_entry_eq]
  generalize (lg_sl ([.ref (ad 0)]) ++ List.replicate (1 - (lg_sl ([.ref (ad 0)])).length) Slot.unset).toArray = ls at hl ⊢
  have hl : lv_has ls 1 [(0, .ref (ad 0))] := hl
  obtain ⟨RR, hRR⟩ : ∃ x, x = (sp_EM_isOver x46 x53 f35 f36 f49 f50 f51) := ⟨_, rfl⟩
  have hsp := hRR
  refine lv_aload_n hx hb dX9_isOver_0 rfl (lv_at hl 0 rfl) ?_
  refine lv_iconst (v := 0) hx hb dX9_isOver_1 (by decide) ?_
  refine va_put (D := (dC, dI)) (ci := 9) (v := .int 0) (ty := .int) (C := RX9) (T := TX9) (N := 67) hx hb hts hiX9 tyX9 tyX9_ok nmX9 hown hK hP hD hS 0 rfl rfl 52 (by decide) v_1 (fun _ h9 => h9) rfl (by decide +kernel) rfl rfl (Nat.le_of_ble_eq_true rfl) dX9_isOver_2 (fun H locs hP hD hS => ?_)
  have hP : va_P (dC, dI) vwCl (mo_w ad ck x0 (nI x16) (nI x18) (nI x19) x20 (nI x21) (nI x22) x23 x24 x25 (nI x26) x27 (nI x28) (nI x29) (nI x30) (nI x33) x45 (nI x46) 0 (nI x53) (nI x61) (nI x62) (nI x63) (nI x65) x66 f1 f2 f3 (bN 3 q4) (bN 7 q5) (bN 7 q6) (bN 4 q7) f8 (bN 2 q9) (bH q10) f11 (b2 m12_0 m12_1) (b2 m13_0 m13_1) (b2 m14_0 m14_1) (b2m m15_0 m15_1) f17 (bA 159 q31) f32 f34 f35 f36 f37 (bN 7 q38) f39 f40 f41 (b2 m42_0 m42_1) f43 f44 f47 f48 f49 f50 f51 (bN 13 q54) (bN 120 q55) (bN 120 q56) f57 (bN 120 q58) f59 f60 f64) H := hP
  have hD : va_D A (mo_w ad ck x0 (nI x16) (nI x18) (nI x19) x20 (nI x21) (nI x22) x23 x24 x25 (nI x26) x27 (nI x28) (nI x29) (nI x30) (nI x33) x45 (nI x46) 0 (nI x53) (nI x61) (nI x62) (nI x63) (nI x65) x66 f1 f2 f3 (bN 3 q4) (bN 7 q5) (bN 7 q6) (bN 4 q7) f8 (bN 2 q9) (bH q10) f11 (b2 m12_0 m12_1) (b2 m13_0 m13_1) (b2 m14_0 m14_1) (b2m m15_0 m15_1) f17 (bA 159 q31) f32 f34 f35 f36 f37 (bN 7 q38) f39 f40 f41 (b2 m42_0 m42_1) f43 f44 f47 f48 f49 f50 f51 (bN 13 q54) (bN 120 q55) (bN 120 q56) f57 (bN 120 q58) f59 f60 f64) := hD
  refine lv_aload_n hx hb dX9_isOver_5 rfl (lv_at hl 0 rfl) ?_
  refine va_get (D := (dC, dI)) (ci := 9) (v := .ref (ad 35)) (C := RX9) (T := TX9) (N := 67) hx hb hts hiX9 hown hK hP 0 rfl rfl 35 (by decide) v_2 (fun _ h9 => h9) rfl dX9_isOver_6 ?_
  refine lv_iconst (v := 0) hx hb dX9_isOver_9 (by decide) ?_
  refine lv_aload_n hx hb dX9_isOver_10 rfl (lv_at hl 0 rfl) ?_
  refine va_get (D := (dC, dI)) (ci := 9) (v := .ref (ad 36)) (C := RX9) (T := TX9) (N := 67) hx hb hts hiX9 hown hK hP 0 rfl rfl 36 (by decide) v_3 (fun _ h9 => h9) rfl dX9_isOver_11 ?_
  refine lv_iconst (v := 0) hx hb dX9_isOver_14 (by decide) ?_
  have hFc := pu_free hD hS hA
  refine va_callv (va_runS (As := [.ref (ad 35), .int 0, .ref (ad 36), .int 0]) (rest := []) ⟨hx, hb, hml, hown, hts⟩ (c_EM_copies_zy l dC dI _ ad ck x0 x16 x18 x19 x20 x21 x22 x23 x24 x25 x26 x27 x28 x29 x30 x33 x45 x46 0 x53 x61 x62 x63 x65 x66 f1 f2 f3 q4 q5 q6 q7 f8 q9 q10 f11 m12_0 m12_1 m13_0 m13_1 m14_0 m14_1 m15_0 m15_1 f17 q31 f32 f34 f35 f36 f37 q38 f39 f40 f41 m42_0 m42_1 f43 f44 f47 f48 f49 f50 f51 q54 q55 q56 f57 q58 f59 f60 f64 hx16 hx18 hx19 hx21 hx22 hx26 hx28 hx29 hx30 hx33 hx46 (Nat.le_of_ble_eq_true rfl) hx53 hx61 hx62 hx63 hx65 hm12_0 hm12_1 hm13_0 hm13_1 hm14_0 hm14_1 hm15_0 hm15_1 hm42_0 hm42_1) (va_cwS 4 hts g_EM_isOver_EM_copies_zy rfl rfl rfl (by decide +kernel) ⟨Nat.le_of_ble_eq_true rfl, Nat.le_of_ble_eq_true rfl⟩) ⟨pu_bl, pu_in hP hK hD⟩ rfl rfl hl.1 rfl (lv_room (Nat.le_of_ble_eq_true rfl)) dX9_isOver_15 ⟨Nat.le_of_ble_eq_true rfl, Nat.le_of_ble_eq_true rfl⟩) hS (fun q _ h => hFc q h) hFc (fun u t H1 locs ht hvm hw hB hz1 hk1 hS => ?_)
  obtain ⟨z36_2, ⟨hP1, -, hD1⟩, xr_1_0⟩ := hB
  rw [ht] at hP1
  have hP := hP1
  have hD := pu_all hFc hD1
  clear hP1 hD1 hFc
  clear hk1 hz1 ht hvm
  generalize H1 = H at hP hS ⊢
  replace hsp := hsp.trans (slet_eq xr_1_0)
  refine lv_aload_n hx hb dX9_isOver_18 rfl (lv_at hl 0 rfl) ?_
  refine lv_iconst (v := 0) hx hb dX9_isOver_19 (by decide) ?_
  have hFc := pu_free hD hS hA
  refine va_callv (va_runV (As := [.int 0]) (rest := []) ⟨hx, hb, hml, hown, hts⟩ (c_EM_keepsPiece l dC dI _ ad ck x0 x16 x18 x19 x20 x21 x22 x23 x24 x25 x26 x27 x28 x29 x30 x33 x45 x46 0 x53 x61 x62 x63 x65 x66 f1 f2 f3 q4 q5 q6 q7 f8 q9 q10 f11 m12_0 m12_1 m13_0 m13_1 m14_0 m14_1 m15_0 m15_1 f17 q31 f32 f34 f35 z36_2 f37 q38 f39 f40 f41 m42_0 m42_1 f43 f44 f47 f48 f49 f50 f51 q54 q55 q56 f57 q58 f59 f60 f64 0 hx16 hx18 hx19 hx21 hx22 hx26 hx28 hx29 hx30 hx33 hx46 (Nat.le_of_ble_eq_true rfl) hx53 hx61 hx62 hx63 hx65 hm12_0 hm12_1 hm13_0 hm13_1 hm14_0 hm14_1 hm15_0 hm15_1 hm42_0 hm42_1 (Nat.le_of_ble_eq_true rfl)) (cwV 1 hts g_EM_isOver_EM_keepsPiece rfl rfl rfl (by decide +kernel) ⟨Nat.le_of_ble_eq_true rfl, Nat.le_of_ble_eq_true rfl⟩) ⟨pu_bl, va_recv hK hP (ci := 9) (q0 := 0) rfl rfl, pu_in hP hK hD⟩ rfl rfl hl.1 rfl (lv_room (Nat.le_of_ble_eq_true rfl)) dX9_isOver_20 ⟨Nat.le_of_ble_eq_true rfl, Nat.le_of_ble_eq_true rfl⟩) hS (fun q _ h => hFc q h) hFc (fun u t H1 locs ht hvm hw hB hz1 hk1 hS => ?_)
  obtain ⟨z49_4, ⟨hP1, -, hD1⟩, xr_3_0⟩ := hB
  rw [ht] at hP1
  have hP := hP1
  have hD := pu_all hFc hD1
  clear hP1 hD1 hFc
  clear hk1 hz1 ht hvm
  generalize H1 = H at hP hS ⊢
  replace hsp := hsp.trans (slet_eq xr_3_0)
  obtain ⟨lf_18, dlf_18, hlf_18, hsp⟩ := itr_ex hsp
  delta sp_EM_isOver_L1 at hlf_18
  refine pu_while (fun nn H locs ls => ∃ (g_11 : Nat → Int32) (g_12 : Nat → Int32) (g_13 : Nat → Int32) (g_14 : Nat → Int32) (g_15 : Nat), nn = wt x53 g_14 g_15 ∧ g_15 ≤ 2400 ∧ pf_ok g_15 x53 g_14 ∧ RR = itrv dlf_18 lf_18 (g_11, g_12, g_13, g_14, g_15) ∧ va_P (dC, dI) vwCl (mo_w ad ck x0 (nI x16) (nI x18) (nI x19) x20 (nI x21) (nI x22) x23 x24 x25 (nI x26) x27 (nI x28) (nI x29) (nI x30) (nI x33) x45 (nI x46) (nI g_15) (nI x53) (nI x61) (nI x62) (nI x63) (nI x65) x66 f1 f2 f3 (bN 3 q4) (bN 7 q5) (bN 7 q6) (bN 4 q7) f8 (bN 2 q9) (bH q10) f11 (b2 m12_0 m12_1) (b2 m13_0 m13_1) (b2 m14_0 m14_1) (b2m m15_0 m15_1) f17 (bA 159 q31) f32 f34 g_11 g_12 f37 (bN 7 q38) f39 f40 f41 (b2 m42_0 m42_1) f43 f44 f47 f48 g_13 g_14 f51 (bN 13 q54) (bN 120 q55) (bN 120 q56) f57 (bN 120 q58) f59 f60 f64) H ∧ va_D A (mo_w ad ck x0 (nI x16) (nI x18) (nI x19) x20 (nI x21) (nI x22) x23 x24 x25 (nI x26) x27 (nI x28) (nI x29) (nI x30) (nI x33) x45 (nI x46) (nI g_15) (nI x53) (nI x61) (nI x62) (nI x63) (nI x65) x66 f1 f2 f3 (bN 3 q4) (bN 7 q5) (bN 7 q6) (bN 4 q7) f8 (bN 2 q9) (bH q10) f11 (b2 m12_0 m12_1) (b2 m13_0 m13_1) (b2 m14_0 m14_1) (b2m m15_0 m15_1) f17 (bA 159 q31) f32 f34 g_11 g_12 f37 (bN 7 q38) f39 f40 f41 (b2 m42_0 m42_1) f43 f44 f47 f48 g_13 g_14 f51 (bN 13 q54) (bN 120 q55) (bN 120 q56) f57 (bN 120 q58) f59 f60 f64) ∧ va_S A s.heap H locs ∧ lv_has ls 1 [(0, .ref (ad 0))]) 23 ?_ _ _ _ _ ⟨f35, z36_2, z49_4, (upd f50 ((nI 0) : Int32).toNatClampNeg (nI 0)), (0 + 1), rfl, (by omega), by first | assumption | exact pf_refl | exact pf_step (by assumption) (by omega) | exact pf_one | exact pf_app (by assumption) (by assumption) (by omega) (by omega) (by omega) (by omega), hsp, hP, hD, hS, lv_sub hl [0] rfl⟩
  rintro nn ih_17 H locs ls ⟨g_11, g_12, g_13, g_14, g_15, rfl, hg_15, he_16, he_20, hP, hD, hS, hl⟩
  obtain ⟨S_19, hsp, hin_21, hout_22⟩ := itr_step hlf_18 he_20
  refine lv_aload_n hx hb dX9_isOver_23 rfl (lv_at hl 0 rfl) ?_
  refine va_get (D := (dC, dI)) (ci := 9) (v := .int (nI g_15)) (C := RX9) (T := TX9) (N := 67) hx hb hts hiX9 hown hK hP 0 rfl rfl 52 (by decide) v_1 (fun _ h9 => h9) rfl dX9_isOver_24 ?_
  refine lv_if_le (tgt := 94) hx hb dX9_isOver_27 (by decide) (fun c_23 => ?_) (fun c_23 => ?_)
  · have c_23 : g_15 ≤ 0 := (nI_leI (a := g_15) (b := 0) (Nat.lt_of_le_of_lt hg_15 (Nat.le_of_ble_eq_true rfl)) (Nat.le_of_ble_eq_true rfl)).mp c_23
    replace hsp := hsp.trans (if_pos c_23)
    have hsp := hout_22 _ hsp
    refine lv_iconst (v := 0) hx hb dX9_isOver_94 (by decide) ?_
    exact W.zret (v := 0) (ty := .boolean) hx hb hr (rfl) (fun t ht hW => ⟨⟨0, (), rfl, ⟨0, (Nat.le_of_ble_eq_true rfl), rfl, (congrArg Prod.fst (hsp.symm.trans hRR))⟩, ⟨g_11, g_12, g_13, g_14, g_15, ⟨by rw [ht]; exact hP, va_K.moved hW.alike hK, hD⟩, hg_15, (congrArg Prod.snd (hsp.symm.trans hRR))⟩⟩, hS.F ht⟩) hS.2.2 dX9_isOver_95
  · have c_23 : ¬ g_15 ≤ 0 := fun z => c_23 ((nI_leI (a := g_15) (b := 0) (Nat.lt_of_le_of_lt hg_15 (Nat.le_of_ble_eq_true rfl)) (Nat.le_of_ble_eq_true rfl)).mpr z)
    replace hsp := hsp.trans (if_neg c_23)
    refine lv_aload_n hx hb dX9_isOver_30 rfl (lv_at hl 0 rfl) ?_
    refine lv_dup hx hb dX9_isOver_31 rfl ?_
    refine va_get (D := (dC, dI)) (ci := 9) (v := .int (nI g_15)) (C := RX9) (T := TX9) (N := 67) hx hb hts hiX9 hown hK hP 0 rfl rfl 52 (by decide) v_1 (fun _ h9 => h9) rfl dX9_isOver_32 ?_
    refine lv_iconst (v := 1) hx hb dX9_isOver_35 (by decide) ?_
    refine lv_isub hx hb dX9_isOver_36 ?_
    refine lv_topi (fun y_24 ey_24 => ?_)
    obtain rfl : y_24 = (nI (g_15 - 1)) := ey_24.trans (pk_sub (a := g_15) (b := 1) (by omega))
    refine va_put (D := (dC, dI)) (ci := 9) (v := .int (nI (g_15 - 1))) (ty := .int) (C := RX9) (T := TX9) (N := 67) hx hb hts hiX9 tyX9 tyX9_ok nmX9 hown hK hP hD hS 0 rfl rfl 52 (by decide) v_1 (fun _ h9 => h9) rfl (by decide +kernel) rfl rfl (Nat.le_of_ble_eq_true rfl) dX9_isOver_37 (fun H locs hP hD hS => ?_)
    have hP : va_P (dC, dI) vwCl (mo_w ad ck x0 (nI x16) (nI x18) (nI x19) x20 (nI x21) (nI x22) x23 x24 x25 (nI x26) x27 (nI x28) (nI x29) (nI x30) (nI x33) x45 (nI x46) (nI (g_15 - 1)) (nI x53) (nI x61) (nI x62) (nI x63) (nI x65) x66 f1 f2 f3 (bN 3 q4) (bN 7 q5) (bN 7 q6) (bN 4 q7) f8 (bN 2 q9) (bH q10) f11 (b2 m12_0 m12_1) (b2 m13_0 m13_1) (b2 m14_0 m14_1) (b2m m15_0 m15_1) f17 (bA 159 q31) f32 f34 g_11 g_12 f37 (bN 7 q38) f39 f40 f41 (b2 m42_0 m42_1) f43 f44 f47 f48 g_13 g_14 f51 (bN 13 q54) (bN 120 q55) (bN 120 q56) f57 (bN 120 q58) f59 f60 f64) H := hP
    have hD : va_D A (mo_w ad ck x0 (nI x16) (nI x18) (nI x19) x20 (nI x21) (nI x22) x23 x24 x25 (nI x26) x27 (nI x28) (nI x29) (nI x30) (nI x33) x45 (nI x46) (nI (g_15 - 1)) (nI x53) (nI x61) (nI x62) (nI x63) (nI x65) x66 f1 f2 f3 (bN 3 q4) (bN 7 q5) (bN 7 q6) (bN 4 q7) f8 (bN 2 q9) (bH q10) f11 (b2 m12_0 m12_1) (b2 m13_0 m13_1) (b2 m14_0 m14_1) (b2m m15_0 m15_1) f17 (bA 159 q31) f32 f34 g_11 g_12 f37 (bN 7 q38) f39 f40 f41 (b2 m42_0 m42_1) f43 f44 f47 f48 g_13 g_14 f51 (bN 13 q54) (bN 120 q55) (bN 120 q56) f57 (bN 120 q58) f59 f60 f64) := hD
    obtain ⟨k_25, fk_25, ak_25, bk_25, gk_25⟩ := pf_get (i := (g_15 - 1)) (by assumption) (by omega) (by omega)
    replace hsp := hsp.trans (slet_eq (cl_of fk_25 (by omega) (by omega)))
    refine lv_aload_n hx hb dX9_isOver_40 rfl (lv_at hl 0 rfl) ?_
    refine va_get (D := (dC, dI)) (ci := 9) (v := .ref (ad 49)) (C := RX9) (T := TX9) (N := 67) hx hb hts hiX9 hown hK hP 0 rfl rfl 49 (by decide) v_12 (fun _ h9 => h9) rfl dX9_isOver_41 ?_
    refine lv_bipush (v := 25) hx hb dX9_isOver_44 (by decide) ?_
    refine lv_aload_n hx hb dX9_isOver_46 rfl (lv_at hl 0 rfl) ?_
    refine va_get (D := (dC, dI)) (ci := 9) (v := .int (nI (g_15 - 1))) (C := RX9) (T := TX9) (N := 67) hx hb hts hiX9 hown hK hP 0 rfl rfl 52 (by decide) v_1 (fun _ h9 => h9) rfl dX9_isOver_47 ?_
    refine lv_imul hx hb dX9_isOver_50 ?_
    refine lv_topi (fun y_26 ey_26 => ?_)
    obtain rfl : y_26 = (nI (25 * (g_15 - 1))) := ey_26.trans (pk_mul 25 (g_15 - 1))
    refine lv_aload_n hx hb dX9_isOver_51 rfl (lv_at hl 0 rfl) ?_
    refine va_get (D := (dC, dI)) (ci := 9) (v := .ref (ad 35)) (C := RX9) (T := TX9) (N := 67) hx hb hts hiX9 hown hK hP 0 rfl rfl 35 (by decide) v_2 (fun _ h9 => h9) rfl dX9_isOver_52 ?_
    refine lv_iconst (v := 0) hx hb dX9_isOver_55 (by decide) ?_
    have hFc := pu_free hD hS hA
    refine va_callv (va_runS (As := [.ref (ad 49), .int (nI (25 * (g_15 - 1))), .ref (ad 35), .int 0]) (rest := []) ⟨hx, hb, hml, hown, hts⟩ (c_EM_copies_pz l dC dI _ ad ck x0 x16 x18 x19 x20 x21 x22 x23 x24 x25 x26 x27 x28 x29 x30 x33 x45 x46 (g_15 - 1) x53 x61 x62 x63 x65 x66 f1 f2 f3 q4 q5 q6 q7 f8 q9 q10 f11 m12_0 m12_1 m13_0 m13_1 m14_0 m14_1 m15_0 m15_1 f17 q31 f32 f34 g_11 g_12 f37 q38 f39 f40 f41 m42_0 m42_1 f43 f44 f47 f48 g_13 g_14 f51 q54 q55 q56 f57 q58 f59 f60 f64 (25 * (g_15 - 1)) hx16 hx18 hx19 hx21 hx22 hx26 hx28 hx29 hx30 hx33 hx46 (by omega) hx53 hx61 hx62 hx63 hx65 hm12_0 hm12_1 hm13_0 hm13_1 hm14_0 hm14_1 hm15_0 hm15_1 hm42_0 hm42_1 (by omega)) (va_cwS 4 hts g_EM_isOver_EM_copies_pz rfl rfl rfl (by decide +kernel) ⟨Nat.le_of_ble_eq_true rfl, Nat.le_of_ble_eq_true rfl⟩) ⟨pu_bl, pu_in hP hK hD⟩ rfl rfl hl.1 rfl (lv_room (Nat.le_of_ble_eq_true rfl)) dX9_isOver_56 ⟨Nat.le_of_ble_eq_true rfl, Nat.le_of_ble_eq_true rfl⟩) hS (fun q _ h => hFc q h) hFc (fun u t H1 locs ht hvm hw hB hz1 hk1 hS => ?_)
    obtain ⟨z35_28, ⟨hP1, -, hD1⟩, xr_27_0⟩ := hB
    rw [ht] at hP1
    have hP := hP1
    have hD := pu_all hFc hD1
    clear hP1 hD1 hFc
    clear hk1 hz1 ht hvm
    generalize H1 = H at hP hS ⊢
    replace hsp := hsp.trans (slet_eq xr_27_0)
    refine lv_aload_n hx hb dX9_isOver_59 rfl (lv_at hl 0 rfl) ?_
    refine va_get (D := (dC, dI)) (ci := 9) (v := .ref (ad 50)) (C := RX9) (T := TX9) (N := 67) hx hb hts hiX9 hown hK hP 0 rfl rfl 50 (by decide) v_13 (fun _ h9 => h9) rfl dX9_isOver_60 ?_
    refine lv_aload_n hx hb dX9_isOver_63 rfl (lv_at hl 0 rfl) ?_
    refine va_get (D := (dC, dI)) (ci := 9) (v := .int (nI (g_15 - 1))) (C := RX9) (T := TX9) (N := 67) hx hb hts hiX9 hown hK hP 0 rfl rfl 52 (by decide) v_1 (fun _ h9 => h9) rfl dX9_isOver_64 ?_
    refine va_iald hx hb hK hP 33 32 rfl rfl (vp_in_nI (n := (g_15 - 1)) (by omega) (Nat.le_of_ble_eq_true rfl)) dX9_isOver_67 ?_
    refine lv_topi (fun y_29 ey_29 => ?_)
    obtain rfl : y_29 = nI k_25 := ey_29.trans fk_25
    refine lv_aload_n hx hb dX9_isOver_68 rfl (lv_at hl 0 rfl) ?_
    refine va_get (D := (dC, dI)) (ci := 9) (v := .int (nI x53)) (C := RX9) (T := TX9) (N := 67) hx hb hts hiX9 hown hK hP 0 rfl rfl 53 (by decide) v_14 (fun _ h9 => h9) rfl dX9_isOver_69 ?_
    refine lv_icmp_ne (tgt := 77) hx hb dX9_isOver_72 (by decide) (fun c_30 => ?_) (fun c_30 => ?_)
    · have c_30 : ¬ k_25 = x53 := fun z => c_30 ((nI_eq (a := k_25) (b := x53) (by omega) (Nat.lt_of_le_of_lt hx53 (Nat.le_of_ble_eq_true rfl))).mpr z)
      replace hsp := hsp.trans (if_neg c_30)
      refine lv_aload_n hx hb dX9_isOver_77 rfl (lv_at hl 0 rfl) ?_
      refine lv_aload_n hx hb dX9_isOver_78 rfl (lv_at hl 0 rfl) ?_
      refine va_get (D := (dC, dI)) (ci := 9) (v := .ref (ad 50)) (C := RX9) (T := TX9) (N := 67) hx hb hts hiX9 hown hK hP 0 rfl rfl 50 (by decide) v_13 (fun _ h9 => h9) rfl dX9_isOver_79 ?_
      refine lv_aload_n hx hb dX9_isOver_82 rfl (lv_at hl 0 rfl) ?_
      refine va_get (D := (dC, dI)) (ci := 9) (v := .int (nI (g_15 - 1))) (C := RX9) (T := TX9) (N := 67) hx hb hts hiX9 hown hK hP 0 rfl rfl 52 (by decide) v_1 (fun _ h9 => h9) rfl dX9_isOver_83 ?_
      refine va_iald hx hb hK hP 33 32 rfl rfl (vp_in_nI (n := (g_15 - 1)) (by omega) (Nat.le_of_ble_eq_true rfl)) dX9_isOver_86 ?_
      refine lv_topi (fun y_31 ey_31 => ?_)
      obtain rfl : y_31 = nI k_25 := ey_31.trans fk_25
      have hFc := pu_free hD hS hA
      refine va_calli (va_runV (As := [.int (nI k_25)]) (rest := []) ⟨hx, hb, hml, hown, hts⟩ (c_EM_parts l dC dI _ ad ck x0 x16 x18 x19 x20 x21 x22 x23 x24 x25 x26 x27 x28 x29 x30 x33 x45 x46 (g_15 - 1) x53 x61 x62 x63 x65 x66 f1 f2 f3 q4 q5 q6 q7 f8 q9 q10 f11 m12_0 m12_1 m13_0 m13_1 m14_0 m14_1 m15_0 m15_1 f17 q31 f32 f34 z35_28 g_12 f37 q38 f39 f40 f41 m42_0 m42_1 f43 f44 f47 f48 g_13 g_14 f51 q54 q55 q56 f57 q58 f59 f60 f64 k_25 hx16 hx18 hx19 hx21 hx22 hx26 hx28 hx29 hx30 hx33 hx46 (by omega) hx53 hx61 hx62 hx63 hx65 hm12_0 hm12_1 hm13_0 hm13_1 hm14_0 hm14_1 hm15_0 hm15_1 hm42_0 hm42_1 (by omega) (by omega)) (cwV 1 hts g_EM_isOver_EM_parts rfl rfl rfl (by decide +kernel) ⟨Nat.le_of_ble_eq_true rfl, Nat.le_of_ble_eq_true rfl⟩) ⟨pu_bl, va_recv hK hP (ci := 9) (q0 := 0) rfl rfl, pu_in hP hK hD⟩ rfl rfl hl.1 rfl (lv_room (Nat.le_of_ble_eq_true rfl)) dX9_isOver_87 ⟨Nat.le_of_ble_eq_true rfl, Nat.le_of_ble_eq_true rfl⟩) hS (fun q _ h => hFc q h) hFc (fun r_32 u t H1 locs ht hvm hw hB hz1 hk1 hS => ?_)
      obtain ⟨z35_33, z36_34, z49_35, z50_36, z52_37, ⟨hP1, -, hD1⟩, hz52_37, xr_32_0, xr_32_1, xr_32_2⟩ := hB
      rw [ht] at hP1
      have hP := hP1
      have hD := pu_all hFc hD1
      clear hP1 hD1 hFc
      clear hk1 hz1 ht hvm
      generalize H1 = H at hP hS ⊢
      obtain ⟨u_38, hu_38, rfl, iu_38⟩ := hw
      have iu_38 : (u_38, z35_33, z36_34, z49_35, z50_36, z52_37) = (sp_EM_parts x46 (g_15 - 1) z35_28 g_12 g_13 g_14 f51 k_25) := Prod.ext iu_38 xr_32_2
      replace hsp := hsp.trans (slet_eq iu_38)
      refine lv_pop hx hb dX9_isOver_90 rfl ?_
      refine lv_goto (tgt := 23) hx hb dX9_isOver_91 (by decide) ?_
      exact ih_17 (wt x53 z50_36 z52_37) (wt_falls (by assumption) (by assumption) (by omega) (by omega) (by omega) (by omega)) _ _ _ ⟨z35_33, z36_34, z49_35, z50_36, z52_37, rfl, hz52_37, by first | assumption | exact pf_refl | exact pf_step (by assumption) (by omega) | exact pf_one | exact pf_app (by assumption) (by assumption) (by omega) (by omega) (by omega) (by omega), hin_21 _ hsp, hP, hD, hS, lv_sub hl [0] rfl⟩
    · have c_30 : k_25 = x53 := (nI_eq (a := k_25) (b := x53) (by omega) (Nat.lt_of_le_of_lt hx53 (Nat.le_of_ble_eq_true rfl))).mp c_30
      replace hsp := hsp.trans (if_pos c_30)
      have hsp := hout_22 _ hsp
      refine lv_iconst (v := 1) hx hb dX9_isOver_75 (by decide) ?_
      exact W.zret (v := 1) (ty := .boolean) hx hb hr (rfl) (fun t ht hW => ⟨⟨1, (), rfl, ⟨1, (Nat.le_of_ble_eq_true rfl), rfl, (congrArg Prod.fst (hsp.symm.trans hRR))⟩, ⟨z35_28, g_12, g_13, g_14, (g_15 - 1), ⟨by rw [ht]; exact hP, va_K.moved hW.alike hK, hD⟩, (by omega), (congrArg Prod.snd (hsp.symm.trans hRR))⟩⟩, hS.F ht⟩) hS.2.2 dX9_isOver_76
theorem dX9_covered_0 : decode cX9_covered 0 = .ok (.aload_n 0, 1) := by decide +kernel
theorem dX9_covered_1 : decode cX9_covered 1 = .ok (.iconst 0, 1) := by decide +kernel
theorem dX9_covered_2 : decode cX9_covered 2 = .ok (.putfield 142, 3) := by decide +kernel
theorem dX9_covered_5 : decode cX9_covered 5 = .ok (.aload_n 0, 1) := by decide +kernel
theorem dX9_covered_6 : decode cX9_covered 6 = .ok (.iload_n 1, 1) := by decide +kernel
theorem dX9_covered_7 : decode cX9_covered 7 = .ok (.invokevirtual 387, 3) := by decide +kernel
theorem dX9_covered_10 : decode cX9_covered 10 = .ok (.ifCond .ne 5, 3) := by decide +kernel
theorem dX9_covered_13 : decode cX9_covered 13 = .ok (.iconst (-1), 1) := by decide +kernel
theorem dX9_covered_14 : decode cX9_covered 14 = .ok (.ireturn, 1) := by decide +kernel
theorem dX9_covered_15 : decode cX9_covered 15 = .ok (.aload_n 0, 1) := by decide +kernel
theorem dX9_covered_16 : decode cX9_covered 16 = .ok (.iconst 0, 1) := by decide +kernel
theorem dX9_covered_17 : decode cX9_covered 17 = .ok (.putfield 411, 3) := by decide +kernel
theorem dX9_covered_20 : decode cX9_covered 20 = .ok (.iconst 0, 1) := by decide +kernel
theorem dX9_covered_21 : decode cX9_covered 21 = .ok (.istore_n 2, 1) := by decide +kernel
theorem dX9_covered_22 : decode cX9_covered 22 = .ok (.iload_n 2, 1) := by decide +kernel
theorem dX9_covered_23 : decode cX9_covered 23 = .ok (.aload_n 0, 1) := by decide +kernel
theorem dX9_covered_24 : decode cX9_covered 24 = .ok (.getfield 92, 3) := by decide +kernel
theorem dX9_covered_27 : decode cX9_covered 27 = .ok (.iconst 0, 1) := by decide +kernel
theorem dX9_covered_28 : decode cX9_covered 28 = .ok (.iaload, 1) := by decide +kernel
theorem dX9_covered_29 : decode cX9_covered 29 = .ok (.if_icmp .ge 61, 3) := by decide +kernel
theorem dX9_covered_32 : decode cX9_covered 32 = .ok (.iload_n 2, 1) := by decide +kernel
theorem dX9_covered_33 : decode cX9_covered 33 = .ok (.iload_n 1, 1) := by decide +kernel
theorem dX9_covered_34 : decode cX9_covered 34 = .ok (.if_icmp .eq 50, 3) := by decide +kernel
theorem dX9_covered_37 : decode cX9_covered 37 = .ok (.aload_n 0, 1) := by decide +kernel
theorem dX9_covered_38 : decode cX9_covered 38 = .ok (.getfield 80, 3) := by decide +kernel
theorem dX9_covered_41 : decode cX9_covered 41 = .ok (.iload_n 2, 1) := by decide +kernel
theorem dX9_covered_42 : decode cX9_covered 42 = .ok (.iaload, 1) := by decide +kernel
theorem dX9_covered_43 : decode cX9_covered 43 = .ok (.aload_n 0, 1) := by decide +kernel
theorem dX9_covered_44 : decode cX9_covered 44 = .ok (.getfield 80, 3) := by decide +kernel
theorem dX9_covered_47 : decode cX9_covered 47 = .ok (.iload_n 1, 1) := by decide +kernel
theorem dX9_covered_48 : decode cX9_covered 48 = .ok (.iaload, 1) := by decide +kernel
theorem dX9_covered_49 : decode cX9_covered 49 = .ok (.if_icmp .ne 35, 3) := by decide +kernel
theorem dX9_covered_52 : decode cX9_covered 52 = .ok (.aload_n 0, 1) := by decide +kernel
theorem dX9_covered_53 : decode cX9_covered 53 = .ok (.getfield 68, 3) := by decide +kernel
theorem dX9_covered_56 : decode cX9_covered 56 = .ok (.bipush 25, 2) := by decide +kernel
theorem dX9_covered_58 : decode cX9_covered 58 = .ok (.iload_n 2, 1) := by decide +kernel
theorem dX9_covered_59 : decode cX9_covered 59 = .ok (.imul, 1) := by decide +kernel
theorem dX9_covered_60 : decode cX9_covered 60 = .ok (.aload_n 0, 1) := by decide +kernel
theorem dX9_covered_61 : decode cX9_covered 61 = .ok (.getfield 115, 3) := by decide +kernel
theorem dX9_covered_64 : decode cX9_covered 64 = .ok (.bipush 25, 2) := by decide +kernel
theorem dX9_covered_66 : decode cX9_covered 66 = .ok (.aload_n 0, 1) := by decide +kernel
theorem dX9_covered_67 : decode cX9_covered 67 = .ok (.getfield 411, 3) := by decide +kernel
theorem dX9_covered_70 : decode cX9_covered 70 = .ok (.imul, 1) := by decide +kernel
theorem dX9_covered_71 : decode cX9_covered 71 = .ok (.invokestatic 362, 3) := by decide +kernel
theorem dX9_covered_74 : decode cX9_covered 74 = .ok (.aload_n 0, 1) := by decide +kernel
theorem dX9_covered_75 : decode cX9_covered 75 = .ok (.dup, 1) := by decide +kernel
theorem dX9_covered_76 : decode cX9_covered 76 = .ok (.getfield 411, 3) := by decide +kernel
theorem dX9_covered_79 : decode cX9_covered 79 = .ok (.iconst 1, 1) := by decide +kernel
theorem dX9_covered_80 : decode cX9_covered 80 = .ok (.iadd, 1) := by decide +kernel
theorem dX9_covered_81 : decode cX9_covered 81 = .ok (.putfield 411, 3) := by decide +kernel
theorem dX9_covered_84 : decode cX9_covered 84 = .ok (.iinc 2 1, 3) := by decide +kernel
theorem dX9_covered_87 : decode cX9_covered 87 = .ok (.goto (-65), 3) := by decide +kernel
theorem dX9_covered_90 : decode cX9_covered 90 = .ok (.aload_n 0, 1) := by decide +kernel
theorem dX9_covered_91 : decode cX9_covered 91 = .ok (.getfield 68, 3) := by decide +kernel
theorem dX9_covered_94 : decode cX9_covered 94 = .ok (.bipush 25, 2) := by decide +kernel
theorem dX9_covered_96 : decode cX9_covered 96 = .ok (.iload_n 1, 1) := by decide +kernel
theorem dX9_covered_97 : decode cX9_covered 97 = .ok (.imul, 1) := by decide +kernel
theorem dX9_covered_98 : decode cX9_covered 98 = .ok (.aload_n 0, 1) := by decide +kernel
theorem dX9_covered_99 : decode cX9_covered 99 = .ok (.getfield 71, 3) := by decide +kernel
theorem dX9_covered_102 : decode cX9_covered 102 = .ok (.iconst 0, 1) := by decide +kernel
theorem dX9_covered_103 : decode cX9_covered 103 = .ok (.invokestatic 362, 3) := by decide +kernel
theorem dX9_covered_106 : decode cX9_covered 106 = .ok (.aload_n 0, 1) := by decide +kernel
theorem dX9_covered_107 : decode cX9_covered 107 = .ok (.invokevirtual 417, 3) := by decide +kernel
theorem dX9_covered_110 : decode cX9_covered 110 = .ok (.ifCond .eq 7, 3) := by decide +kernel
theorem dX9_covered_113 : decode cX9_covered 113 = .ok (.iconst 0, 1) := by decide +kernel
theorem dX9_covered_114 : decode cX9_covered 114 = .ok (.goto 4, 3) := by decide +kernel
theorem dX9_covered_117 : decode cX9_covered 117 = .ok (.iconst 1, 1) := by decide +kernel
theorem dX9_covered_118 : decode cX9_covered 118 = .ok (.ireturn, 1) := by decide +kernel
abbrev vs_EM_covered : List Cond := .code yX9_covered cX9_covered 3 (some .int) :: VM
theorem g_EM_covered_EM_isState : GoodIn vs_EM_covered (wsV RX9 387 RX9 yX9_isState vs_EM_isState) := gm_V vm_263 vm_264 vm_265 vm_19 vm_266
theorem g_EM_covered_EM_copies_nz : GoodIn vs_EM_covered (va_wsS RX9 362 yX9_copies vs_EM_copies_nz) := gm_S vm_228 vm_229 vm_19 vm_230
theorem g_EM_covered_EM_isOver : GoodIn vs_EM_covered (wsV RX9 417 RX9 yX9_isOver vs_EM_isOver) := gm_V vm_291 vm_292 vm_293 vm_19 vm_294
theorem g_EM_covered_EM_copies_nc : GoodIn vs_EM_covered (va_wsS RX9 362 yX9_copies vs_EM_copies_nc) := gm_S vm_228 vm_229 vm_19 vm_230
noncomputable def sp_EM_covered_L1 (f34 : Nat → Int32) (f35 : Nat → Int32) (f36 : Nat → Int32) (q38 : Nat → Nat) (m42_0 : Nat) (f49 : Nat → Int32) (f50 : Nat → Int32) (z46_2 : Nat) (n_3 : Nat) : ((Nat → Int32) × Nat × Nat) → ((Nat → Int32) × Nat × Nat) ⊕ (Int32 × (Nat → Int32) × (Nat → Int32) × (Nat → Int32) × (Nat → Int32) × (Nat → Int32) × Int32 × Nat × Nat × Nat) := fun (g_8, g_9, g_10) => (if m42_0 ≤ g_10 then (Sum.inr (slet (sp_EM_copies_nz f34 f35 (25 * n_3)) (fun z35_22 => (slet (sp_EM_isOver z46_2 g_9 z35_22 f36 f49 f50 g_8) (fun (u_29, z35_24, z36_25, z49_26, z50_27, z52_28) => (if u_29 = 0 then (1, z35_24, z36_25, z49_26, z50_27, g_8, 0, z46_2, z52_28, g_9) else (0, z35_24, z36_25, z49_26, z50_27, g_8, 0, z46_2, z52_28, g_9))))))) else (if g_10 = n_3 then (Sum.inl (g_8, g_9, (g_10 + 1))) else (slet (min (q38 g_10) 7) (fun u_33 => (slet (min (q38 n_3) 7) (fun u_35 => (if u_33 = u_35 then (slet (sp_EM_copies_nc f34 g_8 (25 * g_10) (25 * g_9)) (fun z51_40 => (Sum.inl (z51_40, (g_9 + 1), (g_10 + 1))))) else (Sum.inl (g_8, g_9, (g_10 + 1))))))))))
noncomputable def sp_EM_covered (x16 : Nat) (x29 : Nat) (x52 : Nat) (x53 : Nat) (m12_0 : Nat) (m12_1 : Nat) (f34 : Nat → Int32) (f35 : Nat → Int32) (f36 : Nat → Int32) (q38 : Nat → Nat) (m42_0 : Nat) (f49 : Nat → Int32) (f50 : Nat → Int32) (f51 : Nat → Int32) (p0 : Int32) : Int32 × (Nat → Int32) × (Nat → Int32) × (Nat → Int32) × (Nat → Int32) × (Nat → Int32) × Int32 × Nat × Nat × Nat := (slet (sp_EM_isState x16 x29 m12_0 m12_1 m42_0 p0) (fun z46_2 => (if x29 = 1 ∧ (0 : Int32) ≤ p0 ∧ p0 < nI m42_0 then (slet ((p0 : Int32).toNatClampNeg) (fun n_3 => (itrv (α := (Nat → Int32) × Nat × Nat) (β := (Int32 × (Nat → Int32) × (Nat → Int32) × (Nat → Int32) × (Nat → Int32) × (Nat → Int32) × Int32 × Nat × Nat × Nat)) default (sp_EM_covered_L1 f34 f35 f36 q38 m42_0 f49 f50 z46_2 n_3) (f51, 0, 0)))) else ((-1), f35, f36, f49, f50, f51, 0, z46_2, x52, x53))))
set_option maxHeartbeats 4000000 in
set_option maxRecDepth 100000 in
theorem c_EM_covered (l : Launch) (dC : Nat → ClassId) (dI : Nat → Nat → Nat) (sz : Nat) (ad : Nat → Nat) (ck : Nat → ClassId) (x0 : Int32) (x16 : Nat) (x18 : Nat) (x19 : Nat) (x20 : Int32) (x21 : Nat) (x22 : Nat) (x23 : Int32) (x24 : Int32) (x25 : Int32) (x26 : Nat) (x27 : Int32) (x28 : Nat) (x29 : Nat) (x30 : Nat) (x33 : Nat) (x45 : Int32) (x46 : Nat) (x52 : Nat) (x53 : Nat) (x61 : Nat) (x62 : Nat) (x63 : Nat) (x65 : Nat) (x66 : Int32) (f1 : Nat → Int32) (f2 : Nat → Int32) (f3 : Nat → Int32) (q4 : Nat → Nat) (q5 : Nat → Nat) (q6 : Nat → Nat) (q7 : Nat → Nat) (f8 : Nat → Int32) (q9 : Nat → Nat) (q10 : Nat → Nat) (f11 : Nat → Int32) (m12_0 m12_1 : Nat) (m13_0 m13_1 : Nat) (m14_0 m14_1 : Nat) (m15_0 m15_1 : Nat) (f17 : Nat → Int32) (q31 : Nat → Nat) (f32 : Nat → Int32) (f34 : Nat → Int32) (f35 : Nat → Int32) (f36 : Nat → Int32) (f37 : Nat → Int32) (q38 : Nat → Nat) (f39 : Nat → Int32) (f40 : Nat → Int32) (f41 : Nat → Int32) (m42_0 m42_1 : Nat) (f43 : Nat → Int32) (f44 : Nat → Int32) (f47 : Nat → Int32) (f48 : Nat → Int32) (f49 : Nat → Int32) (f50 : Nat → Int32) (f51 : Nat → Int32) (q54 : Nat → Nat) (q55 : Nat → Nat) (q56 : Nat → Nat) (f57 : Nat → Int32) (q58 : Nat → Nat) (f59 : Nat → Int32) (f60 : Nat → Int32) (f64 : Nat → Int32) (p0 : Int32) (hx16 : x16 ≤ 1) (hx18 : x18 ≤ 900) (hx19 : x19 ≤ 900) (hx21 : x21 ≤ 900) (hx22 : x22 ≤ 4) (hx26 : x26 ≤ 6) (hx28 : x28 ≤ 1) (hx29 : x29 ≤ 1) (hx30 : x30 ≤ 1) (hx33 : x33 ≤ 20) (hx46 : x46 ≤ 5) (hx52 : x52 ≤ 2400) (hx53 : x53 ≤ 119) (hx61 : x61 ≤ 119) (hx62 : x62 ≤ 2000) (hx63 : x63 ≤ 1) (hx65 : x65 ≤ 7) (hm12_0 : m12_0 ≤ 3) (hm12_1 : m12_1 ≤ 3) (hm13_0 : m13_0 ≤ 8) (hm13_1 : m13_1 ≤ 8) (hm14_0 : m14_0 ≤ 14) (hm14_1 : m14_1 ≤ 14) (hm15_0 : m15_0 ≤ 8) (hm15_1 : m15_1 ≤ 8) (hm42_0 : m42_0 ≤ 120) (hm42_1 : m42_1 ≤ 400) : Met l yX9_covered vs_EM_covered ({ frames := 4, cells := 0, slots := 0, locals := 89 }) (va_Pc [.ref (ad 0), .int p0] (pu_B (dC, dI) (mo_w ad ck x0 (nI x16) (nI x18) (nI x19) x20 (nI x21) (nI x22) x23 x24 x25 (nI x26) x27 (nI x28) (nI x29) (nI x30) (nI x33) x45 (nI x46) (nI x52) (nI x53) (nI x61) (nI x62) (nI x63) (nI x65) x66 f1 f2 f3 (bN 3 q4) (bN 7 q5) (bN 7 q6) (bN 4 q7) f8 (bN 2 q9) (bH q10) f11 (b2 m12_0 m12_1) (b2 m13_0 m13_1) (b2 m14_0 m14_1) (b2m m15_0 m15_1) f17 (bA 159 q31) f32 f34 f35 f36 f37 (bN 7 q38) f39 f40 f41 (b2 m42_0 m42_1) f43 f44 f47 f48 f49 f50 f51 (bN 13 q54) (bN 120 q55) (bN 120 q56) f57 (bN 120 q58) f59 f60 f64) (mo_t ck) sz)) (va_Qi (fun (r : Int32) (_ : Unit) => r = (sp_EM_covered x16 x29 x52 x53 m12_0 m12_1 f34 f35 f36 q38 m42_0 f49 f50 f51 p0).1) (fun _ t => ∃ (z35 : Nat → Int32) (z36 : Nat → Int32) (z49 : Nat → Int32) (z50 : Nat → Int32) (z51 : Nat → Int32) (z0 : Int32) (z46 : Nat) (z52 : Nat) (z53 : Nat), pu_E (dC, dI) (mo_w ad ck z0 (nI x16) (nI x18) (nI x19) x20 (nI x21) (nI x22) x23 x24 x25 (nI x26) x27 (nI x28) (nI x29) (nI x30) (nI x33) x45 (nI z46) (nI z52) (nI z53) (nI x61) (nI x62) (nI x63) (nI x65) x66 f1 f2 f3 (bN 3 q4) (bN 7 q5) (bN 7 q6) (bN 4 q7) f8 (bN 2 q9) (bH q10) f11 (b2 m12_0 m12_1) (b2 m13_0 m13_1) (b2 m14_0 m14_1) (b2m m15_0 m15_1) f17 (bA 159 q31) f32 f34 z35 z36 f37 (bN 7 q38) f39 f40 f41 (b2 m42_0 m42_1) f43 f44 f47 f48 z49 z50 z51 (bN 13 q54) (bN 120 q55) (bN 120 q56) f57 (bN 120 q58) f59 f60 f64) (mo_t ck) (va_A ((mo_w ad ck x0 (nI x16) (nI x18) (nI x19) x20 (nI x21) (nI x22) x23 x24 x25 (nI x26) x27 (nI x28) (nI x29) (nI x30) (nI x33) x45 (nI x46) (nI x52) (nI x53) (nI x61) (nI x62) (nI x63) (nI x65) x66 f1 f2 f3 (bN 3 q4) (bN 7 q5) (bN 7 q6) (bN 4 q7) f8 (bN 2 q9) (bH q10) f11 (b2 m12_0 m12_1) (b2 m13_0 m13_1) (b2 m14_0 m14_1) (b2m m15_0 m15_1) f17 (bA 159 q31) f32 f34 f35 f36 f37 (bN 7 q38) f39 f40 f41 (b2 m42_0 m42_1) f43 f44 f47 f48 f49 f50 f51 (bN 13 q54) (bN 120 q55) (bN 120 q56) f57 (bN 120 q58) f59 f60 f64)) sz) t ∧ (z46 ≤ 5) ∧ (z52 ≤ 2400) ∧ (z53 ≤ 119) ∧ ((z35, z36, z49, z50, z51, z0, z46, z52, z53) = (sp_EM_covered x16 x29 x52 x53 m12_0 m12_1 f34 f35 f36 q38 m42_0 f49 f50 f51 p0).2)) (va_A ((mo_w ad ck x0 (nI x16) (nI x18) (nI x19) x20 (nI x21) (nI x22) x23 x24 x25 (nI x26) x27 (nI x28) (nI x29) (nI x30) (nI x33) x45 (nI x46) (nI x52) (nI x53) (nI x61) (nI x62) (nI x63) (nI x65) x66 f1 f2 f3 (bN 3 q4) (bN 7 q5) (bN 7 q6) (bN 4 q7) f8 (bN 2 q9) (bH q10) f11 (b2 m12_0 m12_1) (b2 m13_0 m13_1) (b2 m14_0 m14_1) (b2m m15_0 m15_1) f17 (bA 159 q31) f32 f34 f35 f36 f37 (bN 7 q38) f39 f40 f41 (b2 m42_0 m42_1) f43 f44 f47 f48 f49 f50 f51 (bN 13 q54) (bN 120 q55) (bN 120 q56) f57 (bN 120 q58) f59 f60 f64)) sz)) 0 0 (va_A ((mo_w ad ck x0 (nI x16) (nI x18) (nI x19) x20 (nI x21) (nI x22) x23 x24 x25 (nI x26) x27 (nI x28) (nI x29) (nI x30) (nI x33) x45 (nI x46) (nI x52) (nI x53) (nI x61) (nI x62) (nI x63) (nI x65) x66 f1 f2 f3 (bN 3 q4) (bN 7 q5) (bN 7 q6) (bN 4 q7) f8 (bN 2 q9) (bH q10) f11 (b2 m12_0 m12_1) (b2 m13_0 m13_1) (b2 m14_0 m14_1) (b2m m15_0 m15_1) f17 (bA 159 q31) f32 f34 f35 f36 f37 (bN 7 q38) f39 f40 f41 (b2 m42_0 m42_1) f43 f44 f47 f48 f49 f50 f51 (bN 13 q54) (bN 120 q55) (bN 120 q56) f57 (bN 120 q58) f59 f60 f64)) sz) := by
  refine Met.ofW (cc := cX9_covered) (maxL := 3) (ret := (some .int)) (by decide) rfl ?_
  intro p e s m args below meth c s₁ B hml hv
  obtain ⟨rfl, rfl, hP, hK, hD0⟩ := hv
  have hx := B.exec
  have hb := B.bytes
  have hr := B.returns
  have hts := atoms_spec (ws := vs_EM_covered) B.pre
  have v_1 := hts (.fieldLink RX9 142 "ClockReachModel" "thrown" "I") (List.mem_cons_of_mem _ vm_5)
  have v_7 := hts (.fieldLink RX9 411 "ClockReachModel" "coverMany" "I") (List.mem_cons_of_mem _ vm_290)
  have v_8 := hts (.fieldLink RX9 92 "ClockReachModel" "stateMany" "[I") (List.mem_cons_of_mem _ vm_164)
  have v_9 := hts (.fieldLink RX9 68 "ClockReachModel" "zone" "[I") (List.mem_cons_of_mem _ vm_214)
  have v_10 := hts (.fieldLink RX9 71 "ClockReachModel" "z" "[I") (List.mem_cons_of_mem _ vm_219)
  have v_18 := hts (.fieldLink RX9 80 "ClockReachModel" "statePlace" "[I") (List.mem_cons_of_mem _ vm_223)
  have v_19 := hts (.fieldLink RX9 115 "ClockReachModel" "covers" "[I") (List.mem_cons_of_mem _ vm_285)
  have hown : s.vm.findClass RX9 = some m.cls := findClass_of_methodNamed B.named
  have hlocks := B.notSynchronized
  have hiX9 : ∀ w ∈ wsX90, w ∈ vs_EM_covered := fun _ h => List.mem_cons_of_mem _ (vmi_L h)
  have hD := hD0.self (sz := s.heap.size)
  generalize hAe : va_A ((mo_w ad ck x0 (nI x16) (nI x18) (nI x19) x20 (nI x21) (nI x22) x23 x24 x25 (nI x26) x27 (nI x28) (nI x29) (nI x30) (nI x33) x45 (nI x46) (nI x52) (nI x53) (nI x61) (nI x62) (nI x63) (nI x65) x66 f1 f2 f3 (bN 3 q4) (bN 7 q5) (bN 7 q6) (bN 4 q7) f8 (bN 2 q9) (bH q10) f11 (b2 m12_0 m12_1) (b2 m13_0 m13_1) (b2 m14_0 m14_1) (b2m m15_0 m15_1) f17 (bA 159 q31) f32 f34 f35 f36 f37 (bN 7 q38) f39 f40 f41 (b2 m42_0 m42_1) f43 f44 f47 f48 f49 f50 f51 (bN 13 q54) (bN 120 q55) (bN 120 q56) f57 (bN 120 q58) f59 f60 f64)) s.heap.size = A at hD ⊢
  have hA : ∀ q : Nat, s.heap.size ≤ q → A q := fun q h => by rw [← hAe]; exact Or.inr h
  have hS : va_S A s.heap s.heap [] := va_S.rf
  have hl := lv_entry ([.ref (ad 0), .int p0]) (n := 3) (Nat.le_of_ble_eq_true rfl)
  rw [lg_entry_eq]
  generalize (lg_sl ([.ref (ad 0), .int p0]) ++ List.replicate (3 - (lg_sl ([.ref (ad 0), .int p0])).length) Slot.unset).toArray = ls at hl ⊢
  have hl : lv_has ls 3 [(0, .ref (ad 0)), (1, .int p0)] := hl
  obtain ⟨RR, hRR⟩ : ∃ x, x = (sp_EM_covered x16 x29 x52 x53 m12_0 m12_1 f34 f35 f36 q38 m42_0 f49 f50 f51 p0) := ⟨_, rfl⟩
  have hsp := hRR
  refine lv_aload_n hx hb dX9_covered_0 rfl (lv_at hl 0 rfl) ?_
  refine lv_iconst (v := 0) hx hb dX9_covered_1 (by decide) ?_
  refine va_put (D := (dC, dI)) (ci := 9) (v := .int 0) (ty := .int) (C := RX9) (T := TX9) (N := 67) hx hb hts hiX9 tyX9 tyX9_ok nmX9 hown hK hP hD hS 0 rfl rfl 0 (by decide) v_1 (fun _ h9 => h9) rfl (by decide +kernel) rfl rfl (Nat.le_of_ble_eq_true rfl) dX9_covered_2 (fun H locs hP hD hS => ?_)
  have hP : va_P (dC, dI) vwCl (mo_w ad ck 0 (nI x16) (nI x18) (nI x19) x20 (nI x21) (nI x22) x23 x24 x25 (nI x26) x27 (nI x28) (nI x29) (nI x30) (nI x33) x45 (nI x46) (nI x52) (nI x53) (nI x61) (nI x62) (nI x63) (nI x65) x66 f1 f2 f3 (bN 3 q4) (bN 7 q5) (bN 7 q6) (bN 4 q7) f8 (bN 2 q9) (bH q10) f11 (b2 m12_0 m12_1) (b2 m13_0 m13_1) (b2 m14_0 m14_1) (b2m m15_0 m15_1) f17 (bA 159 q31) f32 f34 f35 f36 f37 (bN 7 q38) f39 f40 f41 (b2 m42_0 m42_1) f43 f44 f47 f48 f49 f50 f51 (bN 13 q54) (bN 120 q55) (bN 120 q56) f57 (bN 120 q58) f59 f60 f64) H := hP
  have hD : va_D A (mo_w ad ck 0 (nI x16) (nI x18) (nI x19) x20 (nI x21) (nI x22) x23 x24 x25 (nI x26) x27 (nI x28) (nI x29) (nI x30) (nI x33) x45 (nI x46) (nI x52) (nI x53) (nI x61) (nI x62) (nI x63) (nI x65) x66 f1 f2 f3 (bN 3 q4) (bN 7 q5) (bN 7 q6) (bN 4 q7) f8 (bN 2 q9) (bH q10) f11 (b2 m12_0 m12_1) (b2 m13_0 m13_1) (b2 m14_0 m14_1) (b2m m15_0 m15_1) f17 (bA 159 q31) f32 f34 f35 f36 f37 (bN 7 q38) f39 f40 f41 (b2 m42_0 m42_1) f43 f44 f47 f48 f49 f50 f51 (bN 13 q54) (bN 120 q55) (bN 120 q56) f57 (bN 120 q58) f59 f60 f64) := hD
  refine lv_aload_n hx hb dX9_covered_5 rfl (lv_at hl 0 rfl) ?_
  refine lv_iload_n hx hb dX9_covered_6 rfl (lv_at hl 1 rfl) ?_
  have hFc := pu_free hD hS hA
  refine va_calli (va_runV (As := [.int p0]) (rest := []) ⟨hx, hb, hml, hown, hts⟩ (c_EM_isState l dC dI _ ad ck 0 x16 x18 x19 x20 x21 x22 x23 x24 x25 x26 x27 x28 x29 x30 x33 x45 x46 x52 x53 x61 x62 x63 x65 x66 f1 f2 f3 q4 q5 q6 q7 f8 q9 q10 f11 m12_0 m12_1 m13_0 m13_1 m14_0 m14_1 m15_0 m15_1 f17 q31 f32 f34 f35 f36 f37 q38 f39 f40 f41 m42_0 m42_1 f43 f44 f47 f48 f49 f50 f51 q54 q55 q56 f57 q58 f59 f60 f64 p0 hx16 hx18 hx19 hx21 hx22 hx26 hx28 hx29 hx30 hx33 hx46 hx52 hx53 hx61 hx62 hx63 hx65 hm12_0 hm12_1 hm13_0 hm13_1 hm14_0 hm14_1 hm15_0 hm15_1 hm42_0 hm42_1) (cwV 1 hts g_EM_covered_EM_isState rfl rfl rfl (by decide +kernel) ⟨Nat.le_of_ble_eq_true rfl, Nat.le_of_ble_eq_true rfl⟩) ⟨pu_bl, va_recv hK hP (ci := 9) (q0 := 0) rfl rfl, pu_in hP hK hD⟩ rfl rfl hl.1 rfl (lv_room (Nat.le_of_ble_eq_true rfl)) dX9_covered_7 ⟨Nat.le_of_ble_eq_true rfl, Nat.le_of_ble_eq_true rfl⟩) hS (fun q _ h => hFc q h) hFc (fun r_1 u t H1 locs ht hvm hw hB hz1 hk1 hS => ?_)
  obtain ⟨z46_2, ⟨hP1, -, hD1⟩, hz46_2, xr_1_0⟩ := hB
  rw [ht] at hP1
  have hP := hP1
  have hD := pu_all hFc hD1
  clear hP1 hD1 hFc
  clear hk1 hz1 ht hvm
  generalize H1 = H at hP hS ⊢
  replace hsp := hsp.trans (slet_eq xr_1_0)
  rcases hw with ⟨rfl, hw⟩ | ⟨rfl, hn⟩
  · obtain ⟨hs1, n_3, hn_3, rfl⟩ := hw
    replace hsp := hsp.trans (if_pos ⟨hs1, in_q hn_3 (by omega)⟩)
    replace hsp := hsp.trans (slet_eq (nI_cl (n := n_3) (by omega)))
    refine lv_if_ne (tgt := 15) hx hb dX9_covered_10 (by decide) (fun _ => ?_) (fun z => absurd z (by decide))
    refine lv_aload_n hx hb dX9_covered_15 rfl (lv_at hl 0 rfl) ?_
    refine lv_iconst (v := 0) hx hb dX9_covered_16 (by decide) ?_
    refine va_put (D := (dC, dI)) (ci := 9) (v := .int 0) (ty := .int) (C := RX9) (T := TX9) (N := 67) hx hb hts hiX9 tyX9 tyX9_ok nmX9 hown hK hP hD hS 0 rfl rfl 53 (by decide) v_7 (fun _ h9 => h9) rfl (by decide +kernel) rfl rfl (Nat.le_of_ble_eq_true rfl) dX9_covered_17 (fun H locs hP hD hS => ?_)
    have hP : va_P (dC, dI) vwCl (mo_w ad ck 0 (nI x16) (nI x18) (nI x19) x20 (nI x21) (nI x22) x23 x24 x25 (nI x26) x27 (nI x28) (nI x29) (nI x30) (nI x33) x45 (nI z46_2) (nI x52) 0 (nI x61) (nI x62) (nI x63) (nI x65) x66 f1 f2 f3 (bN 3 q4) (bN 7 q5) (bN 7 q6) (bN 4 q7) f8 (bN 2 q9) (bH q10) f11 (b2 m12_0 m12_1) (b2 m13_0 m13_1) (b2 m14_0 m14_1) (b2m m15_0 m15_1) f17 (bA 159 q31) f32 f34 f35 f36 f37 (bN 7 q38) f39 f40 f41 (b2 m42_0 m42_1) f43 f44 f47 f48 f49 f50 f51 (bN 13 q54) (bN 120 q55) (bN 120 q56) f57 (bN 120 q58) f59 f60 f64) H := hP
    have hD : va_D A (mo_w ad ck 0 (nI x16) (nI x18) (nI x19) x20 (nI x21) (nI x22) x23 x24 x25 (nI x26) x27 (nI x28) (nI x29) (nI x30) (nI x33) x45 (nI z46_2) (nI x52) 0 (nI x61) (nI x62) (nI x63) (nI x65) x66 f1 f2 f3 (bN 3 q4) (bN 7 q5) (bN 7 q6) (bN 4 q7) f8 (bN 2 q9) (bH q10) f11 (b2 m12_0 m12_1) (b2 m13_0 m13_1) (b2 m14_0 m14_1) (b2m m15_0 m15_1) f17 (bA 159 q31) f32 f34 f35 f36 f37 (bN 7 q38) f39 f40 f41 (b2 m42_0 m42_1) f43 f44 f47 f48 f49 f50 f51 (bN 13 q54) (bN 120 q55) (bN 120 q56) f57 (bN 120 q58) f59 f60 f64) := hD
    refine lv_iconst (v := 0) hx hb dX9_covered_20 (by decide) ?_
    refine lv_istore_n (lv' := [(2, .int 0), (0, .ref (ad 0)), (1, .int (nI n_3))]) hx hb dX9_covered_21 rfl hl (by decide) rfl (fun ls hl => ?_)
    obtain ⟨lf_13, dlf_13, hlf_13, hsp⟩ := itr_ex hsp
    delta sp_EM_covered_L1 at hlf_13
    refine pu_while (fun nn H locs ls => ∃ (g_8 : Nat → Int32) (g_9 : Nat) (g_10 : Nat), nn = 120 - g_10 ∧ g_9 ≤ 119 ∧ g_10 ≤ 120 ∧ ((g_10 ≤ n_3 ∧ g_9 ≤ g_10) ∨ (n_3 < g_10 ∧ g_9 + 1 ≤ g_10)) ∧ RR = itrv dlf_13 lf_13 (g_8, g_9, g_10) ∧ va_P (dC, dI) vwCl (mo_w ad ck 0 (nI x16) (nI x18) (nI x19) x20 (nI x21) (nI x22) x23 x24 x25 (nI x26) x27 (nI x28) (nI x29) (nI x30) (nI x33) x45 (nI z46_2) (nI x52) (nI g_9) (nI x61) (nI x62) (nI x63) (nI x65) x66 f1 f2 f3 (bN 3 q4) (bN 7 q5) (bN 7 q6) (bN 4 q7) f8 (bN 2 q9) (bH q10) f11 (b2 m12_0 m12_1) (b2 m13_0 m13_1) (b2 m14_0 m14_1) (b2m m15_0 m15_1) f17 (bA 159 q31) f32 f34 f35 f36 f37 (bN 7 q38) f39 f40 f41 (b2 m42_0 m42_1) f43 f44 f47 f48 f49 f50 g_8 (bN 13 q54) (bN 120 q55) (bN 120 q56) f57 (bN 120 q58) f59 f60 f64) H ∧ va_D A (mo_w ad ck 0 (nI x16) (nI x18) (nI x19) x20 (nI x21) (nI x22) x23 x24 x25 (nI x26) x27 (nI x28) (nI x29) (nI x30) (nI x33) x45 (nI z46_2) (nI x52) (nI g_9) (nI x61) (nI x62) (nI x63) (nI x65) x66 f1 f2 f3 (bN 3 q4) (bN 7 q5) (bN 7 q6) (bN 4 q7) f8 (bN 2 q9) (bH q10) f11 (b2 m12_0 m12_1) (b2 m13_0 m13_1) (b2 m14_0 m14_1) (b2m m15_0 m15_1) f17 (bA 159 q31) f32 f34 f35 f36 f37 (bN 7 q38) f39 f40 f41 (b2 m42_0 m42_1) f43 f44 f47 f48 f49 f50 g_8 (bN 13 q54) (bN 120 q55) (bN 120 q56) f57 (bN 120 q58) f59 f60 f64) ∧ va_S A s.heap H locs ∧ lv_has ls 3 [(0, .ref (ad 0)), (1, .int (nI n_3)), (2, .int (nI g_10))]) 22 ?_ _ _ _ _ ⟨f51, 0, 0, rfl, (Nat.le_of_ble_eq_true rfl), (Nat.le_of_ble_eq_true rfl), by omega, hsp, hP, hD, hS, lv_sub hl [1, 2, 0] rfl⟩
    rintro nn ih_12 H locs ls ⟨g_8, g_9, g_10, rfl, hg_9, hg_10, he_11, he_15, hP, hD, hS, hl⟩
    obtain ⟨S_14, hsp, hin_16, hout_17⟩ := itr_step hlf_13 he_15
    refine lv_iload_n hx hb dX9_covered_22 rfl (lv_at hl 2 rfl) ?_
    refine lv_aload_n hx hb dX9_covered_23 rfl (lv_at hl 0 rfl) ?_
    refine va_get (D := (dC, dI)) (ci := 9) (v := .ref (ad 42)) (C := RX9) (T := TX9) (N := 67) hx hb hts hiX9 hown hK hP 0 rfl rfl 42 (by decide) v_8 (fun _ h9 => h9) rfl dX9_covered_24 ?_
    refine lv_iconst (v := 0) hx hb dX9_covered_27 (by decide) ?_
    refine va_iald hx hb hK hP 27 26 rfl rfl (vp_in_nI (n := 0) (Nat.le_of_ble_eq_true rfl) (Nat.le_of_ble_eq_true rfl)) dX9_covered_28 ?_
    refine lv_topi (fun y_18 ey_18 => ?_)
    have qy_18 := ey_18.trans b2_0
    clear ey_18
    obtain rfl : y_18 = nI m42_0 := qy_18
    refine lv_icmp_ge (tgt := 90) hx hb dX9_covered_29 (by decide) (fun c_19 => ?_) (fun c_19 => ?_)
    · have c_19 : m42_0 ≤ g_10 := (nI_leI (a := m42_0) (b := g_10) (Nat.lt_of_le_of_lt hm42_0 (Nat.le_of_ble_eq_true rfl)) (Nat.lt_of_le_of_lt hg_10 (Nat.le_of_ble_eq_true rfl))).mp c_19
      replace hsp := hsp.trans (if_pos c_19)
      have hsp := hout_17 _ hsp
      refine lv_aload_n hx hb dX9_covered_90 rfl (lv_at hl 0 rfl) ?_
      refine va_get (D := (dC, dI)) (ci := 9) (v := .ref (ad 34)) (C := RX9) (T := TX9) (N := 67) hx hb hts hiX9 hown hK hP 0 rfl rfl 34 (by decide) v_9 (fun _ h9 => h9) rfl dX9_covered_91 ?_
      refine lv_bipush (v := 25) hx hb dX9_covered_94 (by decide) ?_
      refine lv_iload_n hx hb dX9_covered_96 rfl (lv_at hl 1 rfl) ?_
      refine lv_imul hx hb dX9_covered_97 ?_
      refine lv_topi (fun y_20 ey_20 => ?_)
      obtain rfl : y_20 = (nI (25 * n_3)) := ey_20.trans (pk_mul 25 n_3)
      refine lv_aload_n hx hb dX9_covered_98 rfl (lv_at hl 0 rfl) ?_
      refine va_get (D := (dC, dI)) (ci := 9) (v := .ref (ad 35)) (C := RX9) (T := TX9) (N := 67) hx hb hts hiX9 hown hK hP 0 rfl rfl 35 (by decide) v_10 (fun _ h9 => h9) rfl dX9_covered_99 ?_
      refine lv_iconst (v := 0) hx hb dX9_covered_102 (by decide) ?_
      have hFc := pu_free hD hS hA
      refine va_callv (va_runS (As := [.ref (ad 34), .int (nI (25 * n_3)), .ref (ad 35), .int 0]) (rest := []) ⟨hx, hb, hml, hown, hts⟩ (c_EM_copies_nz l dC dI _ ad ck 0 x16 x18 x19 x20 x21 x22 x23 x24 x25 x26 x27 x28 x29 x30 x33 x45 z46_2 x52 g_9 x61 x62 x63 x65 x66 f1 f2 f3 q4 q5 q6 q7 f8 q9 q10 f11 m12_0 m12_1 m13_0 m13_1 m14_0 m14_1 m15_0 m15_1 f17 q31 f32 f34 f35 f36 f37 q38 f39 f40 f41 m42_0 m42_1 f43 f44 f47 f48 f49 f50 g_8 q54 q55 q56 f57 q58 f59 f60 f64 (25 * n_3) hx16 hx18 hx19 hx21 hx22 hx26 hx28 hx29 hx30 hx33 (Nat.le_trans hz46_2 (Nat.le_of_ble_eq_true rfl)) hx52 hg_9 hx61 hx62 hx63 hx65 hm12_0 hm12_1 hm13_0 hm13_1 hm14_0 hm14_1 hm15_0 hm15_1 hm42_0 hm42_1 (by omega)) (va_cwS 4 hts g_EM_covered_EM_copies_nz rfl rfl rfl (by decide +kernel) ⟨Nat.le_of_ble_eq_true rfl, Nat.le_of_ble_eq_true rfl⟩) ⟨pu_bl, pu_in hP hK hD⟩ rfl rfl hl.1 rfl (lv_room (Nat.le_of_ble_eq_true rfl)) dX9_covered_103 ⟨Nat.le_of_ble_eq_true rfl, Nat.le_of_ble_eq_true rfl⟩) hS (fun q _ h => hFc q h) hFc (fun u t H1 locs ht hvm hw hB hz1 hk1 hS => ?_)
      obtain ⟨z35_22, ⟨hP1, -, hD1⟩, xr_21_0⟩ := hB
      rw [ht] at hP1
      have hP := hP1
      have hD := pu_all hFc hD1
      clear hP1 hD1 hFc
      clear hk1 hz1 ht hvm
      generalize H1 = H at hP hS ⊢
      replace hsp := hsp.trans (slet_eq xr_21_0)
      refine lv_aload_n hx hb dX9_covered_106 rfl (lv_at hl 0 rfl) ?_
      have hFc := pu_free hD hS hA
      refine va_calli (va_runV (As := []) (rest := []) ⟨hx, hb, hml, hown, hts⟩ (c_EM_isOver l dC dI _ ad ck 0 x16 x18 x19 x20 x21 x22 x23 x24 x25 x26 x27 x28 x29 x30 x33 x45 z46_2 x52 g_9 x61 x62 x63 x65 x66 f1 f2 f3 q4 q5 q6 q7 f8 q9 q10 f11 m12_0 m12_1 m13_0 m13_1 m14_0 m14_1 m15_0 m15_1 f17 q31 f32 f34 z35_22 f36 f37 q38 f39 f40 f41 m42_0 m42_1 f43 f44 f47 f48 f49 f50 g_8 q54 q55 q56 f57 q58 f59 f60 f64 hx16 hx18 hx19 hx21 hx22 hx26 hx28 hx29 hx30 hx33 (Nat.le_trans hz46_2 (Nat.le_of_ble_eq_true rfl)) hx52 hg_9 hx61 hx62 hx63 hx65 hm12_0 hm12_1 hm13_0 hm13_1 hm14_0 hm14_1 hm15_0 hm15_1 hm42_0 hm42_1) (cwV 0 hts g_EM_covered_EM_isOver rfl rfl rfl (by decide +kernel) ⟨Nat.le_of_ble_eq_true rfl, Nat.le_of_ble_eq_true rfl⟩) ⟨pu_bl, va_recv hK hP (ci := 9) (q0 := 0) rfl rfl, pu_in hP hK hD⟩ rfl rfl hl.1 rfl (lv_room (Nat.le_of_ble_eq_true rfl)) dX9_covered_107 ⟨Nat.le_of_ble_eq_true rfl, Nat.le_of_ble_eq_true rfl⟩) hS (fun q _ h => hFc q h) hFc (fun r_23 u t H1 locs ht hvm hw hB hz1 hk1 hS => ?_)
      obtain ⟨z35_24, z36_25, z49_26, z50_27, z52_28, ⟨hP1, -, hD1⟩, hz52_28, xr_23_0⟩ := hB
      rw [ht] at hP1
      have hP := hP1
      have hD := pu_all hFc hD1
      clear hP1 hD1 hFc
      clear hk1 hz1 ht hvm
      generalize H1 = H at hP hS ⊢
      obtain ⟨u_29, hu_29, rfl, iu_29⟩ := hw
      have iu_29 : (u_29, z35_24, z36_25, z49_26, z50_27, z52_28) = (sp_EM_isOver z46_2 g_9 z35_22 f36 f49 f50 g_8) := Prod.ext iu_29 xr_23_0
      replace hsp := hsp.trans (slet_eq iu_29)
      refine lv_if_eq (tgt := 117) hx hb dX9_covered_110 (by decide) (fun c_30 => ?_) (fun c_30 => ?_)
      · have c_30 : u_29 = 0 := (nI_eq (a := u_29) (b := 0) (Nat.lt_of_le_of_lt hu_29 (Nat.le_of_ble_eq_true rfl)) (Nat.le_of_ble_eq_true rfl)).mp c_30
        replace hsp := hsp.trans (if_pos c_30)
        refine lv_iconst (v := 1) hx hb dX9_covered_117 (by decide) ?_
        exact W.iret (v := 1) hx hb hr (fun t ht hW => ⟨⟨1, (), rfl, (congrArg Prod.fst (hsp.symm.trans hRR)), ⟨z35_24, z36_25, z49_26, z50_27, g_8, 0, z46_2, z52_28, g_9, ⟨by rw [ht]; exact hP, va_K.moved hW.alike hK, hD⟩, (Nat.le_trans hz46_2 (Nat.le_of_ble_eq_true rfl)), hz52_28, hg_9, (congrArg Prod.snd (hsp.symm.trans hRR))⟩⟩, hS.F ht⟩) hS.2.2 dX9_covered_118
      · have c_30 : ¬ u_29 = 0 := fun z => c_30 ((nI_eq (a := u_29) (b := 0) (Nat.lt_of_le_of_lt hu_29 (Nat.le_of_ble_eq_true rfl)) (Nat.le_of_ble_eq_true rfl)).mpr z)
        replace hsp := hsp.trans (if_neg c_30)
        refine lv_iconst (v := 0) hx hb dX9_covered_113 (by decide) ?_
        refine lv_goto (tgt := 118) hx hb dX9_covered_114 (by decide) ?_
        exact W.iret (v := 0) hx hb hr (fun t ht hW => ⟨⟨0, (), rfl, (congrArg Prod.fst (hsp.symm.trans hRR)), ⟨z35_24, z36_25, z49_26, z50_27, g_8, 0, z46_2, z52_28, g_9, ⟨by rw [ht]; exact hP, va_K.moved hW.alike hK, hD⟩, (Nat.le_trans hz46_2 (Nat.le_of_ble_eq_true rfl)), hz52_28, hg_9, (congrArg Prod.snd (hsp.symm.trans hRR))⟩⟩, hS.F ht⟩) hS.2.2 dX9_covered_118
    · have c_19 : ¬ m42_0 ≤ g_10 := fun z => c_19 ((nI_leI (a := m42_0) (b := g_10) (Nat.lt_of_le_of_lt hm42_0 (Nat.le_of_ble_eq_true rfl)) (Nat.lt_of_le_of_lt hg_10 (Nat.le_of_ble_eq_true rfl))).mpr z)
      replace hsp := hsp.trans (if_neg c_19)
      refine lv_iload_n hx hb dX9_covered_32 rfl (lv_at hl 2 rfl) ?_
      refine lv_iload_n hx hb dX9_covered_33 rfl (lv_at hl 1 rfl) ?_
      refine lv_icmp_eq (tgt := 84) hx hb dX9_covered_34 (by decide) (fun c_31 => ?_) (fun c_31 => ?_)
      · have c_31 : g_10 = n_3 := (nI_eq (a := g_10) (b := n_3) (Nat.lt_of_le_of_lt hg_10 (Nat.le_of_ble_eq_true rfl)) (by omega)).mp c_31
        replace hsp := hsp.trans (if_pos c_31)
        refine lv_iinc (v := (nI (g_10 + 1))) (lv' := [(2, .int (nI (g_10 + 1))), (0, .ref (ad 0)), (1, .int (nI n_3))]) hx hb dX9_covered_84 hl (k := 2) rfl (nI_1 _) (by decide) rfl (fun ls hl => ?_)
        refine lv_goto (tgt := 22) hx hb dX9_covered_87 (by decide) ?_
        exact ih_12 (120 - (g_10 + 1)) (by omega) _ _ _ ⟨g_8, g_9, (g_10 + 1), rfl, hg_9, (by omega), by omega, hin_16 _ hsp, hP, hD, hS, lv_sub hl [1, 2, 0] rfl⟩
      · have c_31 : ¬ g_10 = n_3 := fun z => c_31 ((nI_eq (a := g_10) (b := n_3) (Nat.lt_of_le_of_lt hg_10 (Nat.le_of_ble_eq_true rfl)) (by omega)).mpr z)
        replace hsp := hsp.trans (if_neg c_31)
        refine lv_aload_n hx hb dX9_covered_37 rfl (lv_at hl 0 rfl) ?_
        refine va_get (D := (dC, dI)) (ci := 9) (v := .ref (ad 38)) (C := RX9) (T := TX9) (N := 67) hx hb hts hiX9 hown hK hP 0 rfl rfl 38 (by decide) v_18 (fun _ h9 => h9) rfl dX9_covered_38 ?_
        refine lv_iload_n hx hb dX9_covered_41 rfl (lv_at hl 2 rfl) ?_
        refine va_iald hx hb hK hP 23 22 rfl rfl (vp_in_nI (n := g_10) (Nat.lt_of_le_of_lt hg_10 (Nat.le_of_ble_eq_true rfl)) (Nat.le_of_ble_eq_true rfl)) dX9_covered_42 ?_
        refine lv_topi (fun y_32 ey_32 => ?_)
        obtain ⟨u_33, hu_33, qu_33, xu_33⟩ := bN_getx 7 q38 (n := g_10) (Nat.lt_of_le_of_lt hg_10 (Nat.le_of_ble_eq_true rfl))
        obtain rfl : y_32 = nI u_33 := ey_32.trans qu_33
        replace hsp := hsp.trans (slet_eq xu_33)
        refine lv_aload_n hx hb dX9_covered_43 rfl (lv_at hl 0 rfl) ?_
        refine va_get (D := (dC, dI)) (ci := 9) (v := .ref (ad 38)) (C := RX9) (T := TX9) (N := 67) hx hb hts hiX9 hown hK hP 0 rfl rfl 38 (by decide) v_18 (fun _ h9 => h9) rfl dX9_covered_44 ?_
        refine lv_iload_n hx hb dX9_covered_47 rfl (lv_at hl 1 rfl) ?_
        refine va_iald hx hb hK hP 23 22 rfl rfl (vp_in_nI (n := n_3) (by omega) (Nat.le_of_ble_eq_true rfl)) dX9_covered_48 ?_
        refine lv_topi (fun y_34 ey_34 => ?_)
        obtain ⟨u_35, hu_35, qu_35, xu_35⟩ := bN_getx 7 q38 (n := n_3) (by omega)
        obtain rfl : y_34 = nI u_35 := ey_34.trans qu_35
        replace hsp := hsp.trans (slet_eq xu_35)
        refine lv_icmp_ne (tgt := 84) hx hb dX9_covered_49 (by decide) (fun c_36 => ?_) (fun c_36 => ?_)
        · have c_36 : ¬ u_33 = u_35 := fun z => c_36 ((nI_eq (a := u_33) (b := u_35) (Nat.lt_of_le_of_lt hu_33 (Nat.le_of_ble_eq_true rfl)) (Nat.lt_of_le_of_lt hu_35 (Nat.le_of_ble_eq_true rfl))).mpr z)
          replace hsp := hsp.trans (if_neg c_36)
          refine lv_iinc (v := (nI (g_10 + 1))) (lv' := [(2, .int (nI (g_10 + 1))), (0, .ref (ad 0)), (1, .int (nI n_3))]) hx hb dX9_covered_84 hl (k := 2) rfl (nI_1 _) (by decide) rfl (fun ls hl => ?_)
          refine lv_goto (tgt := 22) hx hb dX9_covered_87 (by decide) ?_
          exact ih_12 (120 - (g_10 + 1)) (by omega) _ _ _ ⟨g_8, g_9, (g_10 + 1), rfl, hg_9, (by omega), by omega, hin_16 _ hsp, hP, hD, hS, lv_sub hl [1, 2, 0] rfl⟩
        · have c_36 : u_33 = u_35 := (nI_eq (a := u_33) (b := u_35) (Nat.lt_of_le_of_lt hu_33 (Nat.le_of_ble_eq_true rfl)) (Nat.lt_of_le_of_lt hu_35 (Nat.le_of_ble_eq_true rfl))).mp c_36
          replace hsp := hsp.trans (if_pos c_36)
          refine lv_aload_n hx hb dX9_covered_52 rfl (lv_at hl 0 rfl) ?_
          refine va_get (D := (dC, dI)) (ci := 9) (v := .ref (ad 34)) (C := RX9) (T := TX9) (N := 67) hx hb hts hiX9 hown hK hP 0 rfl rfl 34 (by decide) v_9 (fun _ h9 => h9) rfl dX9_covered_53 ?_
          refine lv_bipush (v := 25) hx hb dX9_covered_56 (by decide) ?_
          refine lv_iload_n hx hb dX9_covered_58 rfl (lv_at hl 2 rfl) ?_
          refine lv_imul hx hb dX9_covered_59 ?_
          refine lv_topi (fun y_37 ey_37 => ?_)
          obtain rfl : y_37 = (nI (25 * g_10)) := ey_37.trans (pk_mul 25 g_10)
          refine lv_aload_n hx hb dX9_covered_60 rfl (lv_at hl 0 rfl) ?_
          refine va_get (D := (dC, dI)) (ci := 9) (v := .ref (ad 51)) (C := RX9) (T := TX9) (N := 67) hx hb hts hiX9 hown hK hP 0 rfl rfl 51 (by decide) v_19 (fun _ h9 => h9) rfl dX9_covered_61 ?_
          refine lv_bipush (v := 25) hx hb dX9_covered_64 (by decide) ?_
          refine lv_aload_n hx hb dX9_covered_66 rfl (lv_at hl 0 rfl) ?_
          refine va_get (D := (dC, dI)) (ci := 9) (v := .int (nI g_9)) (C := RX9) (T := TX9) (N := 67) hx hb hts hiX9 hown hK hP 0 rfl rfl 53 (by decide) v_7 (fun _ h9 => h9) rfl dX9_covered_67 ?_
          refine lv_imul hx hb dX9_covered_70 ?_
          refine lv_topi (fun y_38 ey_38 => ?_)
          obtain rfl : y_38 = (nI (25 * g_9)) := ey_38.trans (pk_mul 25 g_9)
          have hFc := pu_free hD hS hA
          refine va_callv (va_runS (As := [.ref (ad 34), .int (nI (25 * g_10)), .ref (ad 51), .int (nI (25 * g_9))]) (rest := []) ⟨hx, hb, hml, hown, hts⟩ (c_EM_copies_nc l dC dI _ ad ck 0 x16 x18 x19 x20 x21 x22 x23 x24 x25 x26 x27 x28 x29 x30 x33 x45 z46_2 x52 g_9 x61 x62 x63 x65 x66 f1 f2 f3 q4 q5 q6 q7 f8 q9 q10 f11 m12_0 m12_1 m13_0 m13_1 m14_0 m14_1 m15_0 m15_1 f17 q31 f32 f34 f35 f36 f37 q38 f39 f40 f41 m42_0 m42_1 f43 f44 f47 f48 f49 f50 g_8 q54 q55 q56 f57 q58 f59 f60 f64 (25 * g_10) (25 * g_9) hx16 hx18 hx19 hx21 hx22 hx26 hx28 hx29 hx30 hx33 (Nat.le_trans hz46_2 (Nat.le_of_ble_eq_true rfl)) hx52 hg_9 hx61 hx62 hx63 hx65 hm12_0 hm12_1 hm13_0 hm13_1 hm14_0 hm14_1 hm15_0 hm15_1 hm42_0 hm42_1 (by omega) (by omega)) (va_cwS 4 hts g_EM_covered_EM_copies_nc rfl rfl rfl (by decide +kernel) ⟨Nat.le_of_ble_eq_true rfl, Nat.le_of_ble_eq_true rfl⟩) ⟨pu_bl, pu_in hP hK hD⟩ rfl rfl hl.1 rfl (lv_room (Nat.le_of_ble_eq_true rfl)) dX9_covered_71 ⟨Nat.le_of_ble_eq_true rfl, Nat.le_of_ble_eq_true rfl⟩) hS (fun q _ h => hFc q h) hFc (fun u t H1 locs ht hvm hw hB hz1 hk1 hS => ?_)
          obtain ⟨z51_40, ⟨hP1, -, hD1⟩, xr_39_0⟩ := hB
          rw [ht] at hP1
          have hP := hP1
          have hD := pu_all hFc hD1
          clear hP1 hD1 hFc
          clear hk1 hz1 ht hvm
          generalize H1 = H at hP hS ⊢
          replace hsp := hsp.trans (slet_eq xr_39_0)
          refine lv_aload_n hx hb dX9_covered_74 rfl (lv_at hl 0 rfl) ?_
          refine lv_dup hx hb dX9_covered_75 rfl ?_
          refine va_get (D := (dC, dI)) (ci := 9) (v := .int (nI g_9)) (C := RX9) (T := TX9) (N := 67) hx hb hts hiX9 hown hK hP 0 rfl rfl 53 (by decide) v_7 (fun _ h9 => h9) rfl dX9_covered_76 ?_
          refine lv_iconst (v := 1) hx hb dX9_covered_79 (by decide) ?_
          refine lv_iadd hx hb dX9_covered_80 ?_
          refine lv_topi (fun y_41 ey_41 => ?_)
          obtain rfl : y_41 = (nI (g_9 + 1)) := ey_41.trans (nI_add g_9 1)
          refine va_put (D := (dC, dI)) (ci := 9) (v := .int (nI (g_9 + 1))) (ty := .int) (C := RX9) (T := TX9) (N := 67) hx hb hts hiX9 tyX9 tyX9_ok nmX9 hown hK hP hD hS 0 rfl rfl 53 (by decide) v_7 (fun _ h9 => h9) rfl (by decide +kernel) rfl rfl (Nat.le_of_ble_eq_true rfl) dX9_covered_81 (fun H locs hP hD hS => ?_)
          have hP : va_P (dC, dI) vwCl (mo_w ad ck 0 (nI x16) (nI x18) (nI x19) x20 (nI x21) (nI x22) x23 x24 x25 (nI x26) x27 (nI x28) (nI x29) (nI x30) (nI x33) x45 (nI z46_2) (nI x52) (nI (g_9 + 1)) (nI x61) (nI x62) (nI x63) (nI x65) x66 f1 f2 f3 (bN 3 q4) (bN 7 q5) (bN 7 q6) (bN 4 q7) f8 (bN 2 q9) (bH q10) f11 (b2 m12_0 m12_1) (b2 m13_0 m13_1) (b2 m14_0 m14_1) (b2m m15_0 m15_1) f17 (bA 159 q31) f32 f34 f35 f36 f37 (bN 7 q38) f39 f40 f41 (b2 m42_0 m42_1) f43 f44 f47 f48 f49 f50 z51_40 (bN 13 q54) (bN 120 q55) (bN 120 q56) f57 (bN 120 q58) f59 f60 f64) H := hP
          have hD : va_D A (mo_w ad ck 0 (nI x16) (nI x18) (nI x19) x20 (nI x21) (nI x22) x23 x24 x25 (nI x26) x27 (nI x28) (nI x29) (nI x30) (nI x33) x45 (nI z46_2) (nI x52) (nI (g_9 + 1)) (nI x61) (nI x62) (nI x63) (nI x65) x66 f1 f2 f3 (bN 3 q4) (bN 7 q5) (bN 7 q6) (bN 4 q7) f8 (bN 2 q9) (bH q10) f11 (b2 m12_0 m12_1) (b2 m13_0 m13_1) (b2 m14_0 m14_1) (b2m m15_0 m15_1) f17 (bA 159 q31) f32 f34 f35 f36 f37 (bN 7 q38) f39 f40 f41 (b2 m42_0 m42_1) f43 f44 f47 f48 f49 f50 z51_40 (bN 13 q54) (bN 120 q55) (bN 120 q56) f57 (bN 120 q58) f59 f60 f64) := hD
          refine lv_iinc (v := (nI (g_10 + 1))) (lv' := [(2, .int (nI (g_10 + 1))), (0, .ref (ad 0)), (1, .int (nI n_3))]) hx hb dX9_covered_84 hl (k := 2) rfl (nI_1 _) (by decide) rfl (fun ls hl => ?_)
          refine lv_goto (tgt := 22) hx hb dX9_covered_87 (by decide) ?_
          exact ih_12 (120 - (g_10 + 1)) (by omega) _ _ _ ⟨z51_40, (g_9 + 1), (g_10 + 1), rfl, (by omega), (by omega), by omega, hin_16 _ hsp, hP, hD, hS, lv_sub hl [1, 2, 0] rfl⟩
  · replace hsp := hsp.trans (if_neg hn)
    refine lv_if_ne (tgt := 15) hx hb dX9_covered_10 (by decide) (fun z => absurd z (by decide)) (fun _ => ?_)
    refine lv_iconst (v := (-1)) hx hb dX9_covered_13 (by decide) ?_
    exact W.iret (v := (-1)) hx hb hr (fun t ht hW => ⟨⟨(-1), (), rfl, (congrArg Prod.fst (hsp.symm.trans hRR)), ⟨f35, f36, f49, f50, f51, 0, z46_2, x52, x53, ⟨by rw [ht]; exact hP, va_K.moved hW.alike hK, hD⟩, (Nat.le_trans hz46_2 (Nat.le_of_ble_eq_true rfl)), hx52, hx53, (congrArg Prod.snd (hsp.symm.trans hRR))⟩⟩, hS.F ht⟩) hS.2.2 dX9_covered_14
