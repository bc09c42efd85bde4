theorem dX9_keepsPiece_0 : decode cX9_keepsPiece 0 = .ok (.aload_n 0, 1) := by decide +kernel
theorem dX9_keepsPiece_1 : decode cX9_keepsPiece 1 = .ok (.getfield 74, 3) := by decide +kernel
theorem dX9_keepsPiece_4 : decode cX9_keepsPiece 4 = .ok (.iconst 0, 1) := by decide +kernel
theorem dX9_keepsPiece_5 : decode cX9_keepsPiece 5 = .ok (.aload_n 0, 1) := by decide +kernel
theorem dX9_keepsPiece_6 : decode cX9_keepsPiece 6 = .ok (.getfield 109, 3) := by decide +kernel
theorem dX9_keepsPiece_9 : decode cX9_keepsPiece 9 = .ok (.bipush 25, 2) := by decide +kernel
theorem dX9_keepsPiece_11 : decode cX9_keepsPiece 11 = .ok (.aload_n 0, 1) := by decide +kernel
theorem dX9_keepsPiece_12 : decode cX9_keepsPiece 12 = .ok (.getfield 405, 3) := by decide +kernel
theorem dX9_keepsPiece_15 : decode cX9_keepsPiece 15 = .ok (.imul, 1) := by decide +kernel
theorem dX9_keepsPiece_16 : decode cX9_keepsPiece 16 = .ok (.invokestatic 362, 3) := by decide +kernel
theorem dX9_keepsPiece_19 : decode cX9_keepsPiece 19 = .ok (.aload_n 0, 1) := by decide +kernel
theorem dX9_keepsPiece_20 : decode cX9_keepsPiece 20 = .ok (.getfield 112, 3) := by decide +kernel
theorem dX9_keepsPiece_23 : decode cX9_keepsPiece 23 = .ok (.aload_n 0, 1) := by decide +kernel
theorem dX9_keepsPiece_24 : decode cX9_keepsPiece 24 = .ok (.getfield 405, 3) := by decide +kernel
theorem dX9_keepsPiece_27 : decode cX9_keepsPiece 27 = .ok (.iload_n 1, 1) := by decide +kernel
theorem dX9_keepsPiece_28 : decode cX9_keepsPiece 28 = .ok (.iastore, 1) := by decide +kernel
theorem dX9_keepsPiece_29 : decode cX9_keepsPiece 29 = .ok (.aload_n 0, 1) := by decide +kernel
theorem dX9_keepsPiece_30 : decode cX9_keepsPiece 30 = .ok (.dup, 1) := by decide +kernel
theorem dX9_keepsPiece_31 : decode cX9_keepsPiece 31 = .ok (.getfield 405, 3) := by decide +kernel
theorem dX9_keepsPiece_34 : decode cX9_keepsPiece 34 = .ok (.iconst 1, 1) := by decide +kernel
theorem dX9_keepsPiece_35 : decode cX9_keepsPiece 35 = .ok (.iadd, 1) := by decide +kernel
theorem dX9_keepsPiece_36 : decode cX9_keepsPiece 36 = .ok (.putfield 405, 3) := by decide +kernel
theorem dX9_keepsPiece_39 : decode cX9_keepsPiece 39 = .ok (.return_, 1) := by decide +kernel
abbrev vs_M_keepsPiece : List Cond := .code yX9_keepsPiece cX9_keepsPiece 2 none :: VM
theorem g_M_keepsPiece_M_copies_yp : GoodIn vs_M_keepsPiece (va_wsS RX9 362 yX9_copies vs_M_copies_yp) := gm_S vm_250 vm_251 vm_12 vm_8
set_option maxHeartbeats 4000000 in
set_option maxRecDepth 100000 in
theorem c_M_keepsPiece (l : Launch) (dC : Nat → ClassId) (dI : Nat → Nat → Nat) (sz : Nat) (ad : Nat → Nat) (ck : Nat → ClassId) (x0 : Int32) (x16 : Nat) (x18 : Nat) (x19 : Nat) (x20 : Int32) (x21 : Nat) (x22 : Nat) (x23 : Int32) (x24 : Int32) (x25 : Int32) (x26 : Nat) (x27 : Int32) (x28 : Nat) (x29 : Nat) (x30 : Nat) (x33 : Nat) (x45 : Int32) (x46 : Nat) (x52 : Nat) (x53 : Nat) (x61 : Nat) (x62 : Nat) (x63 : Nat) (x65 : Nat) (x66 : Int32) (f1 : Nat → Int32) (f2 : Nat → Int32) (f3 : Nat → Int32) (q4 : Nat → Nat) (q5 : Nat → Nat) (q6 : Nat → Nat) (q7 : Nat → Nat) (f8 : Nat → Int32) (q9 : Nat → Nat) (q10 : Nat → Nat) (f11 : Nat → Int32) (m12_0 m12_1 : Nat) (m13_0 m13_1 : Nat) (m14_0 m14_1 : Nat) (m15_0 m15_1 : Nat) (f17 : Nat → Int32) (q31 : Nat → Nat) (f32 : Nat → Int32) (f34 : Nat → Int32) (f35 : Nat → Int32) (f36 : Nat → Int32) (f37 : Nat → Int32) (q38 : Nat → Nat) (f39 : Nat → Int32) (f40 : Nat → Int32) (f41 : Nat → Int32) (m42_0 m42_1 : Nat) (f43 : Nat → Int32) (f44 : Nat → Int32) (f47 : Nat → Int32) (f48 : Nat → Int32) (f49 : Nat → Int32) (f50 : Nat → Int32) (f51 : Nat → Int32) (q54 : Nat → Nat) (q55 : Nat → Nat) (q56 : Nat → Nat) (f57 : Nat → Int32) (q58 : Nat → Nat) (f59 : Nat → Int32) (f60 : Nat → Int32) (f64 : Nat → Int32) (a0 : Nat) (hx16 : x16 ≤ 1) (hx18 : x18 ≤ 900) (hx19 : x19 ≤ 900) (hx21 : x21 ≤ 900) (hx22 : x22 ≤ 4) (hx26 : x26 ≤ 6) (hx28 : x28 ≤ 1) (hx29 : x29 ≤ 1) (hx30 : x30 ≤ 1) (hx33 : x33 ≤ 20) (hx46 : x46 ≤ 5) (hx52 : x52 ≤ 2399) (hx53 : x53 ≤ 119) (hx61 : x61 ≤ 119) (hx62 : x62 ≤ 2000) (hx63 : x63 ≤ 1) (hx65 : x65 ≤ 7) (hm12_0 : m12_0 ≤ 3) (hm12_1 : m12_1 ≤ 3) (hm13_0 : m13_0 ≤ 8) (hm13_1 : m13_1 ≤ 8) (hm14_0 : m14_0 ≤ 14) (hm14_1 : m14_1 ≤ 14) (hm15_0 : m15_0 ≤ 8) (hm15_1 : m15_1 ≤ 8) (hm42_0 : m42_0 ≤ 120) (hm42_1 : m42_1 ≤ 400) (ha0 : a0 ≤ 119) : Met l yX9_keepsPiece vs_M_keepsPiece ({ frames := 1, cells := 0, slots := 0, locals := 24 }) (va_Pc [.ref (ad 0), .int (nI a0)] (pu_B (dC, dI) (mo_w ad ck x0 (nI x16) (nI x18) (nI x19) x20 (nI x21) (nI x22) x23 x24 x25 (nI x26) x27 (nI x28) (nI x29) (nI x30) (nI x33) x45 (nI x46) (nI x52) (nI x53) (nI x61) (nI x62) (nI x63) (nI x65) x66 f1 f2 f3 (bN 3 q4) (bN 7 q5) (bN 7 q6) (bN 4 q7) f8 (bN 2 q9) (bH q10) f11 (b2 m12_0 m12_1) (b2 m13_0 m13_1) (b2 m14_0 m14_1) (b2m m15_0 m15_1) f17 (bA 159 q31) f32 f34 f35 f36 f37 (bN 7 q38) f39 f40 f41 (b2 m42_0 m42_1) f43 f44 f47 f48 f49 f50 f51 (bN 13 q54) (bN 120 q55) (bN 120 q56) f57 (bN 120 q58) f59 f60 f64) (mo_t ck) sz)) (va_Qv (fun (_ : Unit) => True) (fun _ t => ∃ (z49 : Nat → Int32), pu_E (dC, dI) (mo_w ad ck x0 (nI x16) (nI x18) (nI x19) x20 (nI x21) (nI x22) x23 x24 x25 (nI x26) x27 (nI x28) (nI x29) (nI x30) (nI x33) x45 (nI x46) (nI (x52 + 1)) (nI x53) (nI x61) (nI x62) (nI x63) (nI x65) x66 f1 f2 f3 (bN 3 q4) (bN 7 q5) (bN 7 q6) (bN 4 q7) f8 (bN 2 q9) (bH q10) f11 (b2 m12_0 m12_1) (b2 m13_0 m13_1) (b2 m14_0 m14_1) (b2m m15_0 m15_1) f17 (bA 159 q31) f32 f34 f35 f36 f37 (bN 7 q38) f39 f40 f41 (b2 m42_0 m42_1) f43 f44 f47 f48 z49 (upd f50 ((nI x52) : Int32).toNatClampNeg (nI a0)) f51 (bN 13 q54) (bN 120 q55) (bN 120 q56) f57 (bN 120 q58) f59 f60 f64) (mo_t ck) (va_A ((mo_w ad ck x0 (nI x16) (nI x18) (nI x19) x20 (nI x21) (nI x22) x23 x24 x25 (nI x26) x27 (nI x28) (nI x29) (nI x30) (nI x33) x45 (nI x46) (nI x52) (nI x53) (nI x61) (nI x62) (nI x63) (nI x65) x66 f1 f2 f3 (bN 3 q4) (bN 7 q5) (bN 7 q6) (bN 4 q7) f8 (bN 2 q9) (bH q10) f11 (b2 m12_0 m12_1) (b2 m13_0 m13_1) (b2 m14_0 m14_1) (b2m m15_0 m15_1) f17 (bA 159 q31) f32 f34 f35 f36 f37 (bN 7 q38) f39 f40 f41 (b2 m42_0 m42_1) f43 f44 f47 f48 f49 f50 f51 (bN 13 q54) (bN 120 q55) (bN 120 q56) f57 (bN 120 q58) f59 f60 f64)) sz) t) (va_A ((mo_w ad ck x0 (nI x16) (nI x18) (nI x19) x20 (nI x21) (nI x22) x23 x24 x25 (nI x26) x27 (nI x28) (nI x29) (nI x30) (nI x33) x45 (nI x46) (nI x52) (nI x53) (nI x61) (nI x62) (nI x63) (nI x65) x66 f1 f2 f3 (bN 3 q4) (bN 7 q5) (bN 7 q6) (bN 4 q7) f8 (bN 2 q9) (bH q10) f11 (b2 m12_0 m12_1) (b2 m13_0 m13_1) (b2 m14_0 m14_1) (b2m m15_0 m15_1) f17 (bA 159 q31) f32 f34 f35 f36 f37 (bN 7 q38) f39 f40 f41 (b2 m42_0 m42_1) f43 f44 f47 f48 f49 f50 f51 (bN 13 q54) (bN 120 q55) (bN 120 q56) f57 (bN 120 q58) f59 f60 f64)) sz)) 0 0 (va_A ((mo_w ad ck x0 (nI x16) (nI x18) (nI x19) x20 (nI x21) (nI x22) x23 x24 x25 (nI x26) x27 (nI x28) (nI x29) (nI x30) (nI x33) x45 (nI x46) (nI x52) (nI x53) (nI x61) (nI x62) (nI x63) (nI x65) x66 f1 f2 f3 (bN 3 q4) (bN 7 q5) (bN 7 q6) (bN 4 q7) f8 (bN 2 q9) (bH q10) f11 (b2 m12_0 m12_1) (b2 m13_0 m13_1) (b2 m14_0 m14_1) (b2m m15_0 m15_1) f17 (bA 159 q31) f32 f34 f35 f36 f37 (bN 7 q38) f39 f40 f41 (b2 m42_0 m42_1) f43 f44 f47 f48 f49 f50 f51 (bN 13 q54) (bN 120 q55) (bN 120 q56) f57 (bN 120 q58) f59 f60 f64)) sz) := by
  refine Met.ofW (cc := cX9_keepsPiece) (maxL := 2) (ret := none) (by decide) rfl ?_
  intro p e s m args below meth c s₁ B hml hv
  obtain ⟨rfl, rfl, hP, hK, hD0⟩ := hv
  have hx := B.exec
  have hb := B.bytes
  have hr := B.returns
  have hts := atoms_spec (ws := vs_M_keepsPiece) B.pre
  have v_1 := hts (.fieldLink RX9 74 "ClockReachModel" "y" "[I") (List.mem_cons_of_mem _ vm_298)
  have v_2 := hts (.fieldLink RX9 109 "ClockReachModel" "piece" "[I") (List.mem_cons_of_mem _ vm_299)
  have v_3 := hts (.fieldLink RX9 405 "ClockReachModel" "pieces" "I") (List.mem_cons_of_mem _ vm_300)
  have v_8 := hts (.fieldLink RX9 112 "ClockReachModel" "pieceFrom" "[I") (List.mem_cons_of_mem _ vm_301)
  have hown : s.vm.findClass RX9 = some m.cls := findClass_of_methodNamed B.named
  have hlocks := B.notSynchronized
  have hiX9 : ∀ w ∈ wsX90, w ∈ vs_M_keepsPiece := fun _ h => List.mem_cons_of_mem _ (List.mem_append_right _ h)
  have hD := hD0.self (sz := s.heap.size)
  generalize hAe : va_A ((mo_w ad ck x0 (nI x16) (nI x18) (nI x19) x20 (nI x21) (nI x22) x23 x24 x25 (nI x26) x27 (nI x28) (nI x29) (nI x30) (nI x33) x45 (nI x46) (nI x52) (nI x53) (nI x61) (nI x62) (nI x63) (nI x65) x66 f1 f2 f3 (bN 3 q4) (bN 7 q5) (bN 7 q6) (bN 4 q7) f8 (bN 2 q9) (bH q10) f11 (b2 m12_0 m12_1) (b2 m13_0 m13_1) (b2 m14_0 m14_1) (b2m m15_0 m15_1) f17 (bA 159 q31) f32 f34 f35 f36 f37 (bN 7 q38) f39 f40 f41 (b2 m42_0 m42_1) f43 f44 f47 f48 f49 f50 f51 (bN 13 q54) (bN 120 q55) (bN 120 q56) f57 (bN 120 q58) f59 f60 f64)) s.heap.size = A at hD ⊢
  have hA : ∀ q : Nat, s.heap.size ≤ q → A q := fun q h => by rw [← hAe]; exact Or.inr h
  have hS : va_S A s.heap s.heap [] := va_S.rf
  have hl := lv_entry ([.ref (ad 0), .int (nI a0)]) (n := 2) (Nat.le_of_ble_eq_true rfl)
  rw [lg_entry_eq]
  generalize (lg_sl ([.ref (ad 0), .int (nI a0)]) ++ List.replicate (2 - (lg_sl ([.ref (ad 0), .int (nI a0)])).length) Slot.unset).toArray = ls at hl ⊢
  have hl : lv_has ls 2 [(0, .ref (ad 0)), (1, .int (nI a0))] := hl
  refine lv_aload_n hx hb dX9_keepsPiece_0 rfl (lv_at hl 0 rfl) ?_
  refine va_get (D := (dC, dI)) (ci := 9) (v := .ref (ad 36)) (C := RX9) (T := TX9) (N := 67) hx hb hts hiX9 hown hK hP 0 rfl rfl 36 (by decide) v_1 (fun _ h9 => h9) rfl dX9_keepsPiece_1 ?_
  refine lv_iconst (v := 0) hx hb dX9_keepsPiece_4 (by decide) ?_
  refine lv_aload_n hx hb dX9_keepsPiece_5 rfl (lv_at hl 0 rfl) ?_
  refine va_get (D := (dC, dI)) (ci := 9) (v := .ref (ad 49)) (C := RX9) (T := TX9) (N := 67) hx hb hts hiX9 hown hK hP 0 rfl rfl 49 (by decide) v_2 (fun _ h9 => h9) rfl dX9_keepsPiece_6 ?_
  refine lv_bipush (v := 25) hx hb dX9_keepsPiece_9 (by decide) ?_
  refine lv_aload_n hx hb dX9_keepsPiece_11 rfl (lv_at hl 0 rfl) ?_
  refine va_get (D := (dC, dI)) (ci := 9) (v := .int (nI x52)) (C := RX9) (T := TX9) (N := 67) hx hb hts hiX9 hown hK hP 0 rfl rfl 52 (by decide) v_3 (fun _ h9 => h9) rfl dX9_keepsPiece_12 ?_
  refine lv_imul hx hb dX9_keepsPiece_15 ?_
  refine lv_topi (fun y_1 ey_1 => ?_)
  obtain rfl : y_1 = (nI (25 * x52)) := ey_1.trans (pk_mul 25 x52)
  have hFc := pu_free hD hS hA
  refine va_callv (va_runS (As := [.ref (ad 36), .int 0, .ref (ad 49), .int (nI (25 * x52))]) (rest := []) ⟨hx, hb, hml, hown, hts⟩ (c_M_copies_yp l dC dI _ ad ck x0 x16 x18 x19 x20 x21 x22 x23 x24 x25 x26 x27 x28 x29 x30 x33 x45 x46 x52 x53 x61 x62 x63 x65 x66 f1 f2 f3 q4 q5 q6 q7 f8 q9 q10 f11 m12_0 m12_1 m13_0 m13_1 m14_0 m14_1 m15_0 m15_1 f17 q31 f32 f34 f35 f36 f37 q38 f39 f40 f41 m42_0 m42_1 f43 f44 f47 f48 f49 f50 f51 q54 q55 q56 f57 q58 f59 f60 f64 (25 * x52) hx16 hx18 hx19 hx21 hx22 hx26 hx28 hx29 hx30 hx33 hx46 (Nat.le_trans hx52 (Nat.le_of_ble_eq_true rfl)) hx53 hx61 hx62 hx63 hx65 hm12_0 hm12_1 hm13_0 hm13_1 hm14_0 hm14_1 hm15_0 hm15_1 hm42_0 hm42_1 (by omega)) (va_cwS 4 hts g_M_keepsPiece_M_copies_yp rfl rfl rfl (by decide +kernel) ⟨Nat.le_of_ble_eq_true rfl, Nat.le_of_ble_eq_true rfl⟩) ⟨pu_bl, pu_in hP hK hD⟩ rfl rfl hl.1 rfl (lv_room (Nat.le_of_ble_eq_true rfl)) dX9_keepsPiece_16 ⟨Nat.le_of_ble_eq_true rfl, Nat.le_of_ble_eq_true rfl⟩) hS (fun q _ h => hFc q h) hFc (fun u t H1 locs ht hvm hw hB hz1 hk1 hS => ?_)
  obtain ⟨z49_3, ⟨hP1, -, hD1⟩⟩ := hB
  rw [ht] at hP1
  have hP := hP1
  have hD := pu_all hFc hD1
  clear hP1 hD1 hFc
  clear hk1 hz1 ht hvm
  generalize H1 = H at hP hS ⊢
  refine lv_aload_n hx hb dX9_keepsPiece_19 rfl (lv_at hl 0 rfl) ?_
  refine va_get (D := (dC, dI)) (ci := 9) (v := .ref (ad 50)) (C := RX9) (T := TX9) (N := 67) hx hb hts hiX9 hown hK hP 0 rfl rfl 50 (by decide) v_8 (fun _ h9 => h9) rfl dX9_keepsPiece_20 ?_
  refine lv_aload_n hx hb dX9_keepsPiece_23 rfl (lv_at hl 0 rfl) ?_
  refine va_get (D := (dC, dI)) (ci := 9) (v := .int (nI x52)) (C := RX9) (T := TX9) (N := 67) hx hb hts hiX9 hown hK hP 0 rfl rfl 52 (by decide) v_3 (fun _ h9 => h9) rfl dX9_keepsPiece_24 ?_
  refine lv_iload_n hx hb dX9_keepsPiece_27 rfl (lv_at hl 1 rfl) ?_
  refine va_iast hx hb hK hP hD hS 33 32 rfl rfl (vp_in_nI (n := x52) (Nat.lt_of_le_of_lt hx52 (Nat.le_of_ble_eq_true rfl)) (Nat.le_of_ble_eq_true rfl)) dX9_keepsPiece_28 (fun H locs hP hD hS => ?_)
  have hP : va_P (dC, dI) vwCl (mo_w ad ck x0 (nI x16) (nI x18) (nI x19) x20 (nI x21) (nI x22) x23 x24 x25 (nI x26) x27 (nI x28) (nI x29) (nI x30) (nI x33) x45 (nI x46) (nI x52) (nI x53) (nI x61) (nI x62) (nI x63) (nI x65) x66 f1 f2 f3 (bN 3 q4) (bN 7 q5) (bN 7 q6) (bN 4 q7) f8 (bN 2 q9) (bH q10) f11 (b2 m12_0 m12_1) (b2 m13_0 m13_1) (b2 m14_0 m14_1) (b2m m15_0 m15_1) f17 (bA 159 q31) f32 f34 f35 f36 f37 (bN 7 q38) f39 f40 f41 (b2 m42_0 m42_1) f43 f44 f47 f48 z49_3 (upd f50 ((nI x52) : Int32).toNatClampNeg (nI a0)) f51 (bN 13 q54) (bN 120 q55) (bN 120 q56) f57 (bN 120 q58) f59 f60 f64) H := hP
  have hD : va_D A (mo_w ad ck x0 (nI x16) (nI x18) (nI x19) x20 (nI x21) (nI x22) x23 x24 x25 (nI x26) x27 (nI x28) (nI x29) (nI x30) (nI x33) x45 (nI x46) (nI x52) (nI x53) (nI x61) (nI x62) (nI x63) (nI x65) x66 f1 f2 f3 (bN 3 q4) (bN 7 q5) (bN 7 q6) (bN 4 q7) f8 (bN 2 q9) (bH q10) f11 (b2 m12_0 m12_1) (b2 m13_0 m13_1) (b2 m14_0 m14_1) (b2m m15_0 m15_1) f17 (bA 159 q31) f32 f34 f35 f36 f37 (bN 7 q38) f39 f40 f41 (b2 m42_0 m42_1) f43 f44 f47 f48 z49_3 (upd f50 ((nI x52) : Int32).toNatClampNeg (nI a0)) f51 (bN 13 q54) (bN 120 q55) (bN 120 q56) f57 (bN 120 q58) f59 f60 f64) := hD
  refine lv_aload_n hx hb dX9_keepsPiece_29 rfl (lv_at hl 0 rfl) ?_
  refine lv_dup hx hb dX9_keepsPiece_30 rfl ?_
  refine va_get (D := (dC, dI)) (ci := 9) (v := .int (nI x52)) (C := RX9) (T := TX9) (N := 67) hx hb hts hiX9 hown hK hP 0 rfl rfl 52 (by decide) v_3 (fun _ h9 => h9) rfl dX9_keepsPiece_31 ?_
  refine lv_iconst (v := 1) hx hb dX9_keepsPiece_34 (by decide) ?_
  refine lv_iadd hx hb dX9_keepsPiece_35 ?_
  refine lv_topi (fun y_4 ey_4 => ?_)
  obtain rfl : y_4 = (nI (x52 + 1)) := ey_4.trans (nI_add x52 1)
  refine va_put (D := (dC, dI)) (ci := 9) (v := .int (nI (x52 + 1))) (ty := .int) (C := RX9) (T := TX9) (N := 67) hx hb hts hiX9 tyX9 tyX9_ok nmX9 hown hK hP hD hS 0 rfl rfl 52 (by decide) v_3 (fun _ h9 => h9) rfl (by decide +kernel) rfl rfl (Nat.le_of_ble_eq_true rfl) dX9_keepsPiece_36 (fun H locs hP hD hS => ?_)
  have hP : va_P (dC, dI) vwCl (mo_w ad ck x0 (nI x16) (nI x18) (nI x19) x20 (nI x21) (nI x22) x23 x24 x25 (nI x26) x27 (nI x28) (nI x29) (nI x30) (nI x33) x45 (nI x46) (nI (x52 + 1)) (nI x53) (nI x61) (nI x62) (nI x63) (nI x65) x66 f1 f2 f3 (bN 3 q4) (bN 7 q5) (bN 7 q6) (bN 4 q7) f8 (bN 2 q9) (bH q10) f11 (b2 m12_0 m12_1) (b2 m13_0 m13_1) (b2 m14_0 m14_1) (b2m m15_0 m15_1) f17 (bA 159 q31) f32 f34 f35 f36 f37 (bN 7 q38) f39 f40 f41 (b2 m42_0 m42_1) f43 f44 f47 f48 z49_3 (upd f50 ((nI x52) : Int32).toNatClampNeg (nI a0)) f51 (bN 13 q54) (bN 120 q55) (bN 120 q56) f57 (bN 120 q58) f59 f60 f64) H := hP
  have hD : va_D A (mo_w ad ck x0 (nI x16) (nI x18) (nI x19) x20 (nI x21) (nI x22) x23 x24 x25 (nI x26) x27 (nI x28) (nI x29) (nI x30) (nI x33) x45 (nI x46) (nI (x52 + 1)) (nI x53) (nI x61) (nI x62) (nI x63) (nI x65) x66 f1 f2 f3 (bN 3 q4) (bN 7 q5) (bN 7 q6) (bN 4 q7) f8 (bN 2 q9) (bH q10) f11 (b2 m12_0 m12_1) (b2 m13_0 m13_1) (b2 m14_0 m14_1) (b2m m15_0 m15_1) f17 (bA 159 q31) f32 f34 f35 f36 f37 (bN 7 q38) f39 f40 f41 (b2 m42_0 m42_1) f43 f44 f47 f48 z49_3 (upd f50 ((nI x52) : Int32).toNatClampNeg (nI a0)) f51 (bN 13 q54) (bN 120 q55) (bN 120 q56) f57 (bN 120 q58) f59 f60 f64) := hD
  exact W.vret hx hb hr (fun t ht hW => ⟨⟨(), rfl, trivial, ⟨z49_3, ⟨by rw [ht]; exact hP, va_K.moved hW.alike hK, hD⟩⟩⟩, hS.F ht⟩) hS.2.2 dX9_keepsPiece_39
theorem dX9_parts_0 : decode cX9_parts 0 = .ok (.iconst 0, 1) := by decide +kernel
theorem dX9_parts_1 : decode cX9_parts 1 = .ok (.istore_n 2, 1) := by decide +kernel
theorem dX9_parts_2 : decode cX9_parts 2 = .ok (.iload_n 2, 1) := by decide +kernel
theorem dX9_parts_3 : decode cX9_parts 3 = .ok (.aload_n 0, 1) := by decide +kernel
theorem dX9_parts_4 : decode cX9_parts 4 = .ok (.getfield 328, 3) := by decide +kernel
theorem dX9_parts_7 : decode cX9_parts 7 = .ok (.if_icmp .ge 133, 3) := by decide +kernel
theorem dX9_parts_10 : decode cX9_parts 10 = .ok (.iconst 0, 1) := by decide +kernel
theorem dX9_parts_11 : decode cX9_parts 11 = .ok (.istore_n 3, 1) := by decide +kernel
theorem dX9_parts_12 : decode cX9_parts 12 = .ok (.iload_n 3, 1) := by decide +kernel
theorem dX9_parts_13 : decode cX9_parts 13 = .ok (.aload_n 0, 1) := by decide +kernel
theorem dX9_parts_14 : decode cX9_parts 14 = .ok (.getfield 328, 3) := by decide +kernel
theorem dX9_parts_17 : decode cX9_parts 17 = .ok (.if_icmp .ge 117, 3) := by decide +kernel
theorem dX9_parts_20 : decode cX9_parts 20 = .ok (.aload_n 0, 1) := by decide +kernel
theorem dX9_parts_21 : decode cX9_parts 21 = .ok (.getfield 115, 3) := by decide +kernel
theorem dX9_parts_24 : decode cX9_parts 24 = .ok (.bipush 25, 2) := by decide +kernel
theorem dX9_parts_26 : decode cX9_parts 26 = .ok (.iload_n 1, 1) := by decide +kernel
theorem dX9_parts_27 : decode cX9_parts 27 = .ok (.imul, 1) := by decide +kernel
theorem dX9_parts_28 : decode cX9_parts 28 = .ok (.iconst 5, 1) := by decide +kernel
theorem dX9_parts_29 : decode cX9_parts 29 = .ok (.iload_n 2, 1) := by decide +kernel
theorem dX9_parts_30 : decode cX9_parts 30 = .ok (.imul, 1) := by decide +kernel
theorem dX9_parts_31 : decode cX9_parts 31 = .ok (.iadd, 1) := by decide +kernel
theorem dX9_parts_32 : decode cX9_parts 32 = .ok (.iload_n 3, 1) := by decide +kernel
theorem dX9_parts_33 : decode cX9_parts 33 = .ok (.iadd, 1) := by decide +kernel
theorem dX9_parts_34 : decode cX9_parts 34 = .ok (.iaload, 1) := by decide +kernel
theorem dX9_parts_35 : decode cX9_parts 35 = .ok (.istore 4, 2) := by decide +kernel
theorem dX9_parts_37 : decode cX9_parts 37 = .ok (.iload_n 2, 1) := by decide +kernel
theorem dX9_parts_38 : decode cX9_parts 38 = .ok (.iload_n 3, 1) := by decide +kernel
theorem dX9_parts_39 : decode cX9_parts 39 = .ok (.if_icmp .eq 89, 3) := by decide +kernel
theorem dX9_parts_42 : decode cX9_parts 42 = .ok (.iload 4, 2) := by decide +kernel
theorem dX9_parts_44 : decode cX9_parts 44 = .ok (.aload_n 0, 1) := by decide +kernel
theorem dX9_parts_45 : decode cX9_parts 45 = .ok (.getfield 71, 3) := by decide +kernel
theorem dX9_parts_48 : decode cX9_parts 48 = .ok (.iconst 5, 1) := by decide +kernel
theorem dX9_parts_49 : decode cX9_parts 49 = .ok (.iload_n 2, 1) := by decide +kernel
theorem dX9_parts_50 : decode cX9_parts 50 = .ok (.imul, 1) := by decide +kernel
theorem dX9_parts_51 : decode cX9_parts 51 = .ok (.iload_n 3, 1) := by decide +kernel
theorem dX9_parts_52 : decode cX9_parts 52 = .ok (.iadd, 1) := by decide +kernel
theorem dX9_parts_53 : decode cX9_parts 53 = .ok (.iaload, 1) := by decide +kernel
theorem dX9_parts_54 : decode cX9_parts 54 = .ok (.if_icmp .lt 6, 3) := by decide +kernel
theorem dX9_parts_57 : decode cX9_parts 57 = .ok (.goto 71, 3) := by decide +kernel
theorem dX9_parts_60 : decode cX9_parts 60 = .ok (.aload_n 0, 1) := by decide +kernel
theorem dX9_parts_61 : decode cX9_parts 61 = .ok (.getfield 71, 3) := by decide +kernel
theorem dX9_parts_64 : decode cX9_parts 64 = .ok (.iconst 0, 1) := by decide +kernel
theorem dX9_parts_65 : decode cX9_parts 65 = .ok (.aload_n 0, 1) := by decide +kernel
theorem dX9_parts_66 : decode cX9_parts 66 = .ok (.getfield 74, 3) := by decide +kernel
theorem dX9_parts_69 : decode cX9_parts 69 = .ok (.iconst 0, 1) := by decide +kernel
theorem dX9_parts_70 : decode cX9_parts 70 = .ok (.invokestatic 362, 3) := by decide +kernel
theorem dX9_parts_73 : decode cX9_parts 73 = .ok (.aload_n 0, 1) := by decide +kernel
theorem dX9_parts_74 : decode cX9_parts 74 = .ok (.getfield 74, 3) := by decide +kernel
theorem dX9_parts_77 : decode cX9_parts 77 = .ok (.iload_n 3, 1) := by decide +kernel
theorem dX9_parts_78 : decode cX9_parts 78 = .ok (.iload_n 2, 1) := by decide +kernel
theorem dX9_parts_79 : decode cX9_parts 79 = .ok (.iconst 1, 1) := by decide +kernel
theorem dX9_parts_80 : decode cX9_parts 80 = .ok (.iload 4, 2) := by decide +kernel
theorem dX9_parts_82 : decode cX9_parts 82 = .ok (.isub, 1) := by decide +kernel
theorem dX9_parts_83 : decode cX9_parts 83 = .ok (.invokestatic 334, 3) := by decide +kernel
theorem dX9_parts_86 : decode cX9_parts 86 = .ok (.aload_n 0, 1) := by decide +kernel
theorem dX9_parts_87 : decode cX9_parts 87 = .ok (.aload_n 0, 1) := by decide +kernel
theorem dX9_parts_88 : decode cX9_parts 88 = .ok (.getfield 74, 3) := by decide +kernel
theorem dX9_parts_91 : decode cX9_parts 91 = .ok (.invokevirtual 345, 3) := by decide +kernel
theorem dX9_parts_94 : decode cX9_parts 94 = .ok (.ifCond .eq 10, 3) := by decide +kernel
theorem dX9_parts_97 : decode cX9_parts 97 = .ok (.aload_n 0, 1) := by decide +kernel
theorem dX9_parts_98 : decode cX9_parts 98 = .ok (.iload_n 1, 1) := by decide +kernel
theorem dX9_parts_99 : decode cX9_parts 99 = .ok (.iconst 1, 1) := by decide +kernel
theorem dX9_parts_100 : decode cX9_parts 100 = .ok (.iadd, 1) := by decide +kernel
theorem dX9_parts_101 : decode cX9_parts 101 = .ok (.invokevirtual 408, 3) := by decide +kernel
theorem dX9_parts_104 : decode cX9_parts 104 = .ok (.aload_n 0, 1) := by decide +kernel
theorem dX9_parts_105 : decode cX9_parts 105 = .ok (.getfield 71, 3) := by decide +kernel
theorem dX9_parts_108 : decode cX9_parts 108 = .ok (.iload_n 2, 1) := by decide +kernel
theorem dX9_parts_109 : decode cX9_parts 109 = .ok (.iload_n 3, 1) := by decide +kernel
theorem dX9_parts_110 : decode cX9_parts 110 = .ok (.iload 4, 2) := by decide +kernel
theorem dX9_parts_112 : decode cX9_parts 112 = .ok (.invokestatic 334, 3) := by decide +kernel
theorem dX9_parts_115 : decode cX9_parts 115 = .ok (.aload_n 0, 1) := by decide +kernel
theorem dX9_parts_116 : decode cX9_parts 116 = .ok (.aload_n 0, 1) := by decide +kernel
theorem dX9_parts_117 : decode cX9_parts 117 = .ok (.getfield 71, 3) := by decide +kernel
theorem dX9_parts_120 : decode cX9_parts 120 = .ok (.invokevirtual 345, 3) := by decide +kernel
theorem dX9_parts_123 : decode cX9_parts 123 = .ok (.ifCond .ne 5, 3) := by decide +kernel
theorem dX9_parts_126 : decode cX9_parts 126 = .ok (.iconst 0, 1) := by decide +kernel
theorem dX9_parts_127 : decode cX9_parts 127 = .ok (.ireturn, 1) := by decide +kernel
theorem dX9_parts_128 : decode cX9_parts 128 = .ok (.iinc 3 1, 3) := by decide +kernel
theorem dX9_parts_131 : decode cX9_parts 131 = .ok (.goto (-119), 3) := by decide +kernel
theorem dX9_parts_134 : decode cX9_parts 134 = .ok (.iinc 2 1, 3) := by decide +kernel
theorem dX9_parts_137 : decode cX9_parts 137 = .ok (.goto (-135), 3) := by decide +kernel
theorem dX9_parts_140 : decode cX9_parts 140 = .ok (.iconst 1, 1) := by decide +kernel
theorem dX9_parts_141 : decode cX9_parts 141 = .ok (.ireturn, 1) := by decide +kernel
abbrev vs_M_parts : List Cond := .code yX9_parts cX9_parts 5 (some .boolean) :: VM
theorem g_M_parts_M_copies_zy : GoodIn vs_M_parts (va_wsS RX9 362 yX9_copies vs_M_copies_zy) := gm_S vm_250 vm_251 vm_12 vm_8
theorem g_M_parts_M_tightens_y : GoodIn vs_M_parts (va_wsS RX9 334 yX9_tightens vs_M_tightens_y) := gm_S vm_213 vm_214 vm_12 vm_9
theorem g_M_parts_M_closes_y : GoodIn vs_M_parts (wsV RX9 345 RX9 yX9_closes vs_M_closes_y) := gm_V vm_224 vm_225 vm_226 vm_12 vm_208
theorem g_M_parts_M_tightens_z : GoodIn vs_M_parts (va_wsS RX9 334 yX9_tightens vs_M_tightens_z) := gm_S vm_213 vm_214 vm_12 vm_9
theorem g_M_parts_M_closes_z : GoodIn vs_M_parts (wsV RX9 345 RX9 yX9_closes vs_M_closes_z) := gm_V vm_224 vm_225 vm_226 vm_12 vm_208
theorem g_M_parts_M_keepsPiece : GoodIn vs_M_parts (wsV RX9 408 RX9 yX9_keepsPiece vs_M_keepsPiece) := gm_V vm_304 vm_305 vm_306 vm_12 vm_297
set_option maxHeartbeats 4000000 in
set_option maxRecDepth 100000 in
theorem c_M_parts (l : Launch) (dC : Nat → ClassId) (dI : Nat → Nat → Nat) (sz : Nat) (ad : Nat → Nat) (ck : Nat → ClassId) (x0 : Int32) (x16 : Nat) (x18 : Nat) (x19 : Nat) (x20 : Int32) (x21 : Nat) (x22 : Nat) (x23 : Int32) (x24 : Int32) (x25 : Int32) (x26 : Nat) (x27 : Int32) (x28 : Nat) (x29 : Nat) (x30 : Nat) (x33 : Nat) (x45 : Int32) (x46 : Nat) (x52 : Nat) (x53 : Nat) (x61 : Nat) (x62 : Nat) (x63 : Nat) (x65 : Nat) (x66 : Int32) (f1 : Nat → Int32) (f2 : Nat → Int32) (f3 : Nat → Int32) (q4 : Nat → Nat) (q5 : Nat → Nat) (q6 : Nat → Nat) (q7 : Nat → Nat) (f8 : Nat → Int32) (q9 : Nat → Nat) (q10 : Nat → Nat) (f11 : Nat → Int32) (m12_0 m12_1 : Nat) (m13_0 m13_1 : Nat) (m14_0 m14_1 : Nat) (m15_0 m15_1 : Nat) (f17 : Nat → Int32) (q31 : Nat → Nat) (f32 : Nat → Int32) (f34 : Nat → Int32) (f35 : Nat → Int32) (f36 : Nat → Int32) (f37 : Nat → Int32) (q38 : Nat → Nat) (f39 : Nat → Int32) (f40 : Nat → Int32) (f41 : Nat → Int32) (m42_0 m42_1 : Nat) (f43 : Nat → Int32) (f44 : Nat → Int32) (f47 : Nat → Int32) (f48 : Nat → Int32) (f49 : Nat → Int32) (f50 : Nat → Int32) (f51 : Nat → Int32) (q54 : Nat → Nat) (q55 : Nat → Nat) (q56 : Nat → Nat) (f57 : Nat → Int32) (q58 : Nat → Nat) (f59 : Nat → Int32) (f60 : Nat → Int32) (f64 : Nat → Int32) (a0 : Nat) (hx16 : x16 ≤ 1) (hx18 : x18 ≤ 900) (hx19 : x19 ≤ 900) (hx21 : x21 ≤ 900) (hx22 : x22 ≤ 4) (hx26 : x26 ≤ 6) (hx28 : x28 ≤ 1) (hx29 : x29 ≤ 1) (hx30 : x30 ≤ 1) (hx33 : x33 ≤ 20) (hx46 : x46 ≤ 5) (hx52 : x52 ≤ 2360) (hx53 : x53 ≤ 119) (hx61 : x61 ≤ 119) (hx62 : x62 ≤ 2000) (hx63 : x63 ≤ 1) (hx65 : x65 ≤ 7) (hm12_0 : m12_0 ≤ 3) (hm12_1 : m12_1 ≤ 3) (hm13_0 : m13_0 ≤ 8) (hm13_1 : m13_1 ≤ 8) (hm14_0 : m14_0 ≤ 14) (hm14_1 : m14_1 ≤ 14) (hm15_0 : m15_0 ≤ 8) (hm15_1 : m15_1 ≤ 8) (hm42_0 : m42_0 ≤ 120) (hm42_1 : m42_1 ≤ 400) (ha0 : a0 ≤ 118) (hq0 : x52 ≤ 20 * a0) : Met l yX9_parts vs_M_parts ({ frames := 2, cells := 0, slots := 0, locals := 45 }) (va_Pc [.ref (ad 0), .int (nI a0)] (pu_B (dC, dI) (mo_w ad ck x0 (nI x16) (nI x18) (nI x19) x20 (nI x21) (nI x22) x23 x24 x25 (nI x26) x27 (nI x28) (nI x29) (nI x30) (nI x33) x45 (nI x46) (nI x52) (nI x53) (nI x61) (nI x62) (nI x63) (nI x65) x66 f1 f2 f3 (bN 3 q4) (bN 7 q5) (bN 7 q6) (bN 4 q7) f8 (bN 2 q9) (bH q10) f11 (b2 m12_0 m12_1) (b2 m13_0 m13_1) (b2 m14_0 m14_1) (b2m m15_0 m15_1) f17 (bA 159 q31) f32 f34 f35 f36 f37 (bN 7 q38) f39 f40 f41 (b2 m42_0 m42_1) f43 f44 f47 f48 f49 f50 f51 (bN 13 q54) (bN 120 q55) (bN 120 q56) f57 (bN 120 q58) f59 f60 f64) (mo_t ck) sz)) (va_Qi (fun (r : Int32) (_ : Unit) => ∃ v : Nat, v ≤ 1 ∧ r = nI v) (fun _ t => ∃ (z35 : Nat → Int32) (z36 : Nat → Int32) (z49 : Nat → Int32) (z50 : Nat → Int32) (z52 : Nat), pu_E (dC, dI) (mo_w ad ck x0 (nI x16) (nI x18) (nI x19) x20 (nI x21) (nI x22) x23 x24 x25 (nI x26) x27 (nI x28) (nI x29) (nI x30) (nI x33) x45 (nI x46) (nI z52) (nI x53) (nI x61) (nI x62) (nI x63) (nI x65) x66 f1 f2 f3 (bN 3 q4) (bN 7 q5) (bN 7 q6) (bN 4 q7) f8 (bN 2 q9) (bH q10) f11 (b2 m12_0 m12_1) (b2 m13_0 m13_1) (b2 m14_0 m14_1) (b2m m15_0 m15_1) f17 (bA 159 q31) f32 f34 z35 z36 f37 (bN 7 q38) f39 f40 f41 (b2 m42_0 m42_1) f43 f44 f47 f48 z49 z50 f51 (bN 13 q54) (bN 120 q55) (bN 120 q56) f57 (bN 120 q58) f59 f60 f64) (mo_t ck) (va_A ((mo_w ad ck x0 (nI x16) (nI x18) (nI x19) x20 (nI x21) (nI x22) x23 x24 x25 (nI x26) x27 (nI x28) (nI x29) (nI x30) (nI x33) x45 (nI x46) (nI x52) (nI x53) (nI x61) (nI x62) (nI x63) (nI x65) x66 f1 f2 f3 (bN 3 q4) (bN 7 q5) (bN 7 q6) (bN 4 q7) f8 (bN 2 q9) (bH q10) f11 (b2 m12_0 m12_1) (b2 m13_0 m13_1) (b2 m14_0 m14_1) (b2m m15_0 m15_1) f17 (bA 159 q31) f32 f34 f35 f36 f37 (bN 7 q38) f39 f40 f41 (b2 m42_0 m42_1) f43 f44 f47 f48 f49 f50 f51 (bN 13 q54) (bN 120 q55) (bN 120 q56) f57 (bN 120 q58) f59 f60 f64)) sz) t ∧ (z52 ≤ 2400) ∧ (z52 ≤ x52 + 20) ∧ (pf_ext x52 z52 f50 z50 a0)) (va_A ((mo_w ad ck x0 (nI x16) (nI x18) (nI x19) x20 (nI x21) (nI x22) x23 x24 x25 (nI x26) x27 (nI x28) (nI x29) (nI x30) (nI x33) x45 (nI x46) (nI x52) (nI x53) (nI x61) (nI x62) (nI x63) (nI x65) x66 f1 f2 f3 (bN 3 q4) (bN 7 q5) (bN 7 q6) (bN 4 q7) f8 (bN 2 q9) (bH q10) f11 (b2 m12_0 m12_1) (b2 m13_0 m13_1) (b2 m14_0 m14_1) (b2m m15_0 m15_1) f17 (bA 159 q31) f32 f34 f35 f36 f37 (bN 7 q38) f39 f40 f41 (b2 m42_0 m42_1) f43 f44 f47 f48 f49 f50 f51 (bN 13 q54) (bN 120 q55) (bN 120 q56) f57 (bN 120 q58) f59 f60 f64)) sz)) 0 0 (va_A ((mo_w ad ck x0 (nI x16) (nI x18) (nI x19) x20 (nI x21) (nI x22) x23 x24 x25 (nI x26) x27 (nI x28) (nI x29) (nI x30) (nI x33) x45 (nI x46) (nI x52) (nI x53) (nI x61) (nI x62) (nI x63) (nI x65) x66 f1 f2 f3 (bN 3 q4) (bN 7 q5) (bN 7 q6) (bN 4 q7) f8 (bN 2 q9) (bH q10) f11 (b2 m12_0 m12_1) (b2 m13_0 m13_1) (b2 m14_0 m14_1) (b2m m15_0 m15_1) f17 (bA 159 q31) f32 f34 f35 f36 f37 (bN 7 q38) f39 f40 f41 (b2 m42_0 m42_1) f43 f44 f47 f48 f49 f50 f51 (bN 13 q54) (bN 120 q55) (bN 120 q56) f57 (bN 120 q58) f59 f60 f64)) sz) := by
  refine Met.ofW (cc := cX9_parts) (maxL := 5) (ret := (some .boolean)) (by decide) rfl ?_
  intro p e s m args below meth c s₁ B hml hv
  obtain ⟨rfl, rfl, hP, hK, hD0⟩ := hv
  have hx := B.exec
  have hb := B.bytes
  have hr := B.returns
  have hts := atoms_spec (ws := vs_M_parts) B.pre
  have v_1 := hts (.fieldLink RX9 328 "ClockReachModel" "side" "I") (List.mem_cons_of_mem _ vm_209)
  have v_2 := hts (.fieldLink RX9 115 "ClockReachModel" "covers" "[I") (List.mem_cons_of_mem _ vm_303)
  have v_3 := hts (.fieldLink RX9 71 "ClockReachModel" "z" "[I") (List.mem_cons_of_mem _ vm_234)
  have v_4 := hts (.fieldLink RX9 74 "ClockReachModel" "y" "[I") (List.mem_cons_of_mem _ vm_298)
  have hown : s.vm.findClass RX9 = some m.cls := findClass_of_methodNamed B.named
  have hlocks := B.notSynchronized
  have hiX9 : ∀ w ∈ wsX90, w ∈ vs_M_parts := fun _ h => List.mem_cons_of_mem _ (List.mem_append_right _ h)
  have hD := hD0.self (sz := s.heap.size)
  generalize hAe : va_A ((mo_w ad ck x0 (nI x16) (nI x18) (nI x19) x20 (nI x21) (nI x22) x23 x24 x25 (nI x26) x27 (nI x28) (nI x29) (nI x30) (nI x33) x45 (nI x46) (nI x52) (nI x53) (nI x61) (nI x62) (nI x63) (nI x65) x66 f1 f2 f3 (bN 3 q4) (bN 7 q5) (bN 7 q6) (bN 4 q7) f8 (bN 2 q9) (bH q10) f11 (b2 m12_0 m12_1) (b2 m13_0 m13_1) (b2 m14_0 m14_1) (b2m m15_0 m15_1) f17 (bA 159 q31) f32 f34 f35 f36 f37 (bN 7 q38) f39 f40 f41 (b2 m42_0 m42_1) f43 f44 f47 f48 f49 f50 f51 (bN 13 q54) (bN 120 q55) (bN 120 q56) f57 (bN 120 q58) f59 f60 f64)) s.heap.size = A at hD ⊢
  have hA : ∀ q : Nat, s.heap.size ≤ q → A q := fun q h => by rw [← hAe]; exact Or.inr h
  have hS : va_S A s.heap s.heap [] := va_S.rf
  have hl := lv_entry ([.ref (ad 0), .int (nI a0)]) (n := 5) (Nat.le_of_ble_eq_true rfl)
  rw [lg_entry_eq]
  generalize (lg_sl ([.ref (ad 0), .int (nI a0)]) ++ List.replicate (5 - (lg_sl ([.ref (ad 0), .int (nI a0)])).length) Slot.unset).toArray = ls at hl ⊢
  have hl : lv_has ls 5 [(0, .ref (ad 0)), (1, .int (nI a0))] := hl
  refine lv_iconst (v := 0) hx hb dX9_parts_0 (by decide) ?_
  refine lv_istore_n (lv' := [(2, .int 0), (0, .ref (ad 0)), (1, .int (nI a0))]) hx hb dX9_parts_1 rfl hl (by decide) rfl (fun ls hl => ?_)
  refine pu_while (fun nn H locs ls => ∃ (g_9 : Nat → Int32) (g_10 : Nat → Int32) (g_11 : Nat → Int32) (g_12 : Nat → Int32) (g_13 : Nat) (g_14 : Nat), nn = 5 - g_14 ∧ g_13 ≤ 2380 ∧ g_14 ≤ 5 ∧ pf_ext x52 g_13 f50 g_12 a0 ∧ g_13 ≤ x52 + 4 * g_14 ∧ va_P (dC, dI) vwCl (mo_w ad ck x0 (nI x16) (nI x18) (nI x19) x20 (nI x21) (nI x22) x23 x24 x25 (nI x26) x27 (nI x28) (nI x29) (nI x30) (nI x33) x45 (nI x46) (nI g_13) (nI x53) (nI x61) (nI x62) (nI x63) (nI x65) x66 f1 f2 f3 (bN 3 q4) (bN 7 q5) (bN 7 q6) (bN 4 q7) f8 (bN 2 q9) (bH q10) f11 (b2 m12_0 m12_1) (b2 m13_0 m13_1) (b2 m14_0 m14_1) (b2m m15_0 m15_1) f17 (bA 159 q31) f32 f34 g_9 g_10 f37 (bN 7 q38) f39 f40 f41 (b2 m42_0 m42_1) f43 f44 f47 f48 g_11 g_12 f51 (bN 13 q54) (bN 120 q55) (bN 120 q56) f57 (bN 120 q58) f59 f60 f64) H ∧ va_D A (mo_w ad ck x0 (nI x16) (nI x18) (nI x19) x20 (nI x21) (nI x22) x23 x24 x25 (nI x26) x27 (nI x28) (nI x29) (nI x30) (nI x33) x45 (nI x46) (nI g_13) (nI x53) (nI x61) (nI x62) (nI x63) (nI x65) x66 f1 f2 f3 (bN 3 q4) (bN 7 q5) (bN 7 q6) (bN 4 q7) f8 (bN 2 q9) (bH q10) f11 (b2 m12_0 m12_1) (b2 m13_0 m13_1) (b2 m14_0 m14_1) (b2m m15_0 m15_1) f17 (bA 159 q31) f32 f34 g_9 g_10 f37 (bN 7 q38) f39 f40 f41 (b2 m42_0 m42_1) f43 f44 f47 f48 g_11 g_12 f51 (bN 13 q54) (bN 120 q55) (bN 120 q56) f57 (bN 120 q58) f59 f60 f64) ∧ va_S A s.heap H locs ∧ lv_has ls 5 [(0, .ref (ad 0)), (1, .int (nI a0)), (2, .int (nI g_14))]) 2 ?_ _ _ _ _ ⟨f35, f36, f49, f50, x52, 0, rfl, (Nat.le_trans hx52 (Nat.le_of_ble_eq_true rfl)), (Nat.le_of_ble_eq_true rfl), by first | assumption | exact pf_refl | exact pf_step (by assumption) (by omega) | exact pf_one | exact pf_app (by assumption) (by assumption) (by omega) (by omega) (by omega) (by omega), by omega, hP, hD, hS, lv_sub hl [1, 2, 0] rfl⟩
  rintro nn ih_17 H locs ls ⟨g_9, g_10, g_11, g_12, g_13, g_14, rfl, hg_13, hg_14, he_15, he_16, hP, hD, hS, hl⟩
  refine lv_iload_n hx hb dX9_parts_2 rfl (lv_at hl 2 rfl) ?_
  refine lv_aload_n hx hb dX9_parts_3 rfl (lv_at hl 0 rfl) ?_
  refine va_get (D := (dC, dI)) (ci := 9) (v := .int (nI x46)) (C := RX9) (T := TX9) (N := 67) hx hb hts hiX9 hown hK hP 0 rfl rfl 46 (by decide) v_1 (fun _ h9 => h9) rfl dX9_parts_4 ?_
  refine lv_icmp_ge (tgt := 140) hx hb dX9_parts_7 (by decide) (fun c_18 => ?_) (fun c_18 => ?_)
  · have c_18 : x46 ≤ g_14 := (nI_leI (a := x46) (b := g_14) (Nat.lt_of_le_of_lt hx46 (Nat.le_of_ble_eq_true rfl)) (Nat.lt_of_le_of_lt hg_14 (Nat.le_of_ble_eq_true rfl))).mp c_18
    refine lv_iconst (v := 1) hx hb dX9_parts_140 (by decide) ?_
    exact W.zret (v := 1) (ty := .boolean) hx hb hr (rfl) (fun t ht hW => ⟨⟨1, (), rfl, ⟨1, (Nat.le_of_ble_eq_true rfl), rfl⟩, ⟨g_9, g_10, g_11, g_12, g_13, ⟨by rw [ht]; exact hP, va_K.moved hW.alike hK, hD⟩, (Nat.le_trans hg_13 (Nat.le_of_ble_eq_true rfl)), by omega, by first | assumption | exact pf_refl | exact pf_step (by assumption) (by omega)⟩⟩, hS.F ht⟩) hS.2.2 dX9_parts_141
  · have c_18 : ¬ x46 ≤ g_14 := fun z => c_18 ((nI_leI (a := x46) (b := g_14) (Nat.lt_of_le_of_lt hx46 (Nat.le_of_ble_eq_true rfl)) (Nat.lt_of_le_of_lt hg_14 (Nat.le_of_ble_eq_true rfl))).mpr z)
    refine lv_iconst (v := 0) hx hb dX9_parts_10 (by decide) ?_
    refine lv_istore_n (lv' := [(3, .int 0), (0, .ref (ad 0)), (1, .int (nI a0)), (2, .int (nI g_14))]) hx hb dX9_parts_11 rfl hl (by decide) rfl (fun ls hl => ?_)
    refine pu_while (fun nn H locs ls => ∃ (g_27 : Nat → Int32) (g_28 : Nat → Int32) (g_29 : Nat → Int32) (g_30 : Nat → Int32) (g_31 : Nat) (g_32 : Nat), nn = 5 - g_32 ∧ g_31 ≤ 2380 ∧ g_32 ≤ 5 ∧ pf_ext x52 g_31 f50 g_30 a0 ∧ ((g_32 ≤ g_14 ∧ g_31 ≤ x52 + 4 * g_14 + g_32) ∨ (g_14 < g_32 ∧ g_31 + 1 ≤ x52 + 4 * g_14 + g_32)) ∧ va_P (dC, dI) vwCl (mo_w ad ck x0 (nI x16) (nI x18) (nI x19) x20 (nI x21) (nI x22) x23 x24 x25 (nI x26) x27 (nI x28) (nI x29) (nI x30) (nI x33) x45 (nI x46) (nI g_31) (nI x53) (nI x61) (nI x62) (nI x63) (nI x65) x66 f1 f2 f3 (bN 3 q4) (bN 7 q5) (bN 7 q6) (bN 4 q7) f8 (bN 2 q9) (bH q10) f11 (b2 m12_0 m12_1) (b2 m13_0 m13_1) (b2 m14_0 m14_1) (b2m m15_0 m15_1) f17 (bA 159 q31) f32 f34 g_27 g_28 f37 (bN 7 q38) f39 f40 f41 (b2 m42_0 m42_1) f43 f44 f47 f48 g_29 g_30 f51 (bN 13 q54) (bN 120 q55) (bN 120 q56) f57 (bN 120 q58) f59 f60 f64) H ∧ va_D A (mo_w ad ck x0 (nI x16) (nI x18) (nI x19) x20 (nI x21) (nI x22) x23 x24 x25 (nI x26) x27 (nI x28) (nI x29) (nI x30) (nI x33) x45 (nI x46) (nI g_31) (nI x53) (nI x61) (nI x62) (nI x63) (nI x65) x66 f1 f2 f3 (bN 3 q4) (bN 7 q5) (bN 7 q6) (bN 4 q7) f8 (bN 2 q9) (bH q10) f11 (b2 m12_0 m12_1) (b2 m13_0 m13_1) (b2 m14_0 m14_1) (b2m m15_0 m15_1) f17 (bA 159 q31) f32 f34 g_27 g_28 f37 (bN 7 q38) f39 f40 f41 (b2 m42_0 m42_1) f43 f44 f47 f48 g_29 g_30 f51 (bN 13 q54) (bN 120 q55) (bN 120 q56) f57 (bN 120 q58) f59 f60 f64) ∧ va_S A s.heap H locs ∧ lv_has ls 5 [(0, .ref (ad 0)), (1, .int (nI a0)), (2, .int (nI g_14)), (3, .int (nI g_32))]) 12 ?_ _ _ _ _ ⟨g_9, g_10, g_11, g_12, g_13, 0, rfl, hg_13, (Nat.le_of_ble_eq_true rfl), by first | assumption | exact pf_refl | exact pf_step (by assumption) (by omega) | exact pf_one | exact pf_app (by assumption) (by assumption) (by omega) (by omega) (by omega) (by omega), by omega, hP, hD, hS, lv_sub hl [1, 2, 3, 0] rfl⟩
    rintro nn ih_35 H locs ls ⟨g_27, g_28, g_29, g_30, g_31, g_32, rfl, hg_31, hg_32, he_33, he_34, hP, hD, hS, hl⟩
    refine lv_iload_n hx hb dX9_parts_12 rfl (lv_at hl 3 rfl) ?_
    refine lv_aload_n hx hb dX9_parts_13 rfl (lv_at hl 0 rfl) ?_
    refine va_get (D := (dC, dI)) (ci := 9) (v := .int (nI x46)) (C := RX9) (T := TX9) (N := 67) hx hb hts hiX9 hown hK hP 0 rfl rfl 46 (by decide) v_1 (fun _ h9 => h9) rfl dX9_parts_14 ?_
    refine lv_icmp_ge (tgt := 134) hx hb dX9_parts_17 (by decide) (fun c_36 => ?_) (fun c_36 => ?_)
    · have c_36 : x46 ≤ g_32 := (nI_leI (a := x46) (b := g_32) (Nat.lt_of_le_of_lt hx46 (Nat.le_of_ble_eq_true rfl)) (Nat.lt_of_le_of_lt hg_32 (Nat.le_of_ble_eq_true rfl))).mp c_36
      refine lv_iinc (v := (nI (g_14 + 1))) (lv' := [(2, .int (nI (g_14 + 1))), (0, .ref (ad 0)), (1, .int (nI a0)), (3, .int (nI g_32))]) hx hb dX9_parts_134 hl (k := 2) rfl (nI_1 _) (by decide) rfl (fun ls hl => ?_)
      refine lv_goto (tgt := 2) hx hb dX9_parts_137 (by decide) ?_
      exact ih_17 (5 - (g_14 + 1)) (by omega) _ _ _ ⟨g_27, g_28, g_29, g_30, g_31, (g_14 + 1), rfl, hg_31, (by omega), by first | assumption | exact pf_refl | exact pf_step (by assumption) (by omega) | exact pf_one | exact pf_app (by assumption) (by assumption) (by omega) (by omega) (by omega) (by omega), by omega, hP, hD, hS, lv_sub hl [1, 2, 0] rfl⟩
    · have c_36 : ¬ x46 ≤ g_32 := fun z => c_36 ((nI_leI (a := x46) (b := g_32) (Nat.lt_of_le_of_lt hx46 (Nat.le_of_ble_eq_true rfl)) (Nat.lt_of_le_of_lt hg_32 (Nat.le_of_ble_eq_true rfl))).mpr z)
      refine lv_aload_n hx hb dX9_parts_20 rfl (lv_at hl 0 rfl) ?_
      refine va_get (D := (dC, dI)) (ci := 9) (v := .ref (ad 51)) (C := RX9) (T := TX9) (N := 67) hx hb hts hiX9 hown hK hP 0 rfl rfl 51 (by decide) v_2 (fun _ h9 => h9) rfl dX9_parts_21 ?_
      refine lv_bipush (v := 25) hx hb dX9_parts_24 (by decide) ?_
      refine lv_iload_n hx hb dX9_parts_26 rfl (lv_at hl 1 rfl) ?_
      refine lv_imul hx hb dX9_parts_27 ?_
      refine lv_topi (fun y_37 ey_37 => ?_)
      obtain rfl : y_37 = (nI (25 * a0)) := ey_37.trans (pk_mul 25 a0)
      refine lv_iconst (v := 5) hx hb dX9_parts_28 (by decide) ?_
      refine lv_iload_n hx hb dX9_parts_29 rfl (lv_at hl 2 rfl) ?_
      refine lv_imul hx hb dX9_parts_30 ?_
      refine lv_topi (fun y_38 ey_38 => ?_)
      obtain rfl : y_38 = (nI (5 * g_14)) := ey_38.trans (pk_mul 5 g_14)
      refine lv_iadd hx hb dX9_parts_31 ?_
      refine lv_topi (fun y_39 ey_39 => ?_)
      obtain rfl : y_39 = (nI ((25 * a0) + (5 * g_14))) := ey_39.trans (nI_add (25 * a0) (5 * g_14))
      refine lv_iload_n hx hb dX9_parts_32 rfl (lv_at hl 3 rfl) ?_
      refine lv_iadd hx hb dX9_parts_33 ?_
      refine lv_topi (fun y_40 ey_40 => ?_)
      obtain rfl : y_40 = (nI (((25 * a0) + (5 * g_14)) + g_32)) := ey_40.trans (nI_add ((25 * a0) + (5 * g_14)) g_32)
      refine va_iald hx hb hK hP 34 33 rfl rfl (vp_in_nI (n := (((25 * a0) + (5 * g_14)) + g_32)) (by omega) (Nat.le_of_ble_eq_true rfl)) dX9_parts_34 ?_
      refine lv_topi (fun y_41 ey_41 => ?_)
      refine lv_istore (lv' := [(4, .int y_41), (0, .ref (ad 0)), (1, .int (nI a0)), (2, .int (nI g_14)), (3, .int (nI g_32))]) hx hb dX9_parts_35 hl (by decide) rfl (fun ls hl => ?_)
      refine lv_iload_n hx hb dX9_parts_37 rfl (lv_at hl 3 rfl) ?_
      refine lv_iload_n hx hb dX9_parts_38 rfl (lv_at hl 4 rfl) ?_
      refine lv_icmp_eq (tgt := 128) hx hb dX9_parts_39 (by decide) (fun c_42 => ?_) (fun c_42 => ?_)
      · have c_42 : g_14 = g_32 := (nI_eq (a := g_14) (b := g_32) (Nat.lt_of_le_of_lt hg_14 (Nat.le_of_ble_eq_true rfl)) (Nat.lt_of_le_of_lt hg_32 (Nat.le_of_ble_eq_true rfl))).mp c_42
        refine lv_iinc (v := (nI (g_32 + 1))) (lv' := [(3, .int (nI (g_32 + 1))), (4, .int y_41), (0, .ref (ad 0)), (1, .int (nI a0)), (2, .int (nI g_14))]) hx hb dX9_parts_128 hl (k := 4) rfl (nI_1 _) (by decide) rfl (fun ls hl => ?_)
        refine lv_goto (tgt := 12) hx hb dX9_parts_131 (by decide) ?_
        exact ih_35 (5 - (g_32 + 1)) (by omega) _ _ _ ⟨g_27, g_28, g_29, g_30, g_31, (g_32 + 1), rfl, hg_31, (by omega), by first | assumption | exact pf_refl | exact pf_step (by assumption) (by omega) | exact pf_one | exact pf_app (by assumption) (by assumption) (by omega) (by omega) (by omega) (by omega), by omega, hP, hD, hS, lv_sub hl [2, 3, 4, 0] rfl⟩
      · have c_42 : ¬ g_14 = g_32 := fun z => c_42 ((nI_eq (a := g_14) (b := g_32) (Nat.lt_of_le_of_lt hg_14 (Nat.le_of_ble_eq_true rfl)) (Nat.lt_of_le_of_lt hg_32 (Nat.le_of_ble_eq_true rfl))).mpr z)
        refine lv_iload hx hb dX9_parts_42 (lv_at hl 0 rfl) ?_
        refine lv_aload_n hx hb dX9_parts_44 rfl (lv_at hl 1 rfl) ?_
        refine va_get (D := (dC, dI)) (ci := 9) (v := .ref (ad 35)) (C := RX9) (T := TX9) (N := 67) hx hb hts hiX9 hown hK hP 0 rfl rfl 35 (by decide) v_3 (fun _ h9 => h9) rfl dX9_parts_45 ?_
        refine lv_iconst (v := 5) hx hb dX9_parts_48 (by decide) ?_
        refine lv_iload_n hx hb dX9_parts_49 rfl (lv_at hl 3 rfl) ?_
        refine lv_imul hx hb dX9_parts_50 ?_
        refine lv_topi (fun y_43 ey_43 => ?_)
        obtain rfl : y_43 = (nI (5 * g_14)) := ey_43.trans (pk_mul 5 g_14)
        refine lv_iload_n hx hb dX9_parts_51 rfl (lv_at hl 4 rfl) ?_
        refine lv_iadd hx hb dX9_parts_52 ?_
        refine lv_topi (fun y_44 ey_44 => ?_)
        obtain rfl : y_44 = (nI ((5 * g_14) + g_32)) := ey_44.trans (nI_add (5 * g_14) g_32)
        refine va_iald hx hb hK hP 20 19 rfl rfl (vp_in_nI (n := ((5 * g_14) + g_32)) (by omega) (Nat.le_of_ble_eq_true rfl)) dX9_parts_53 ?_
        refine lv_topi (fun y_45 ey_45 => ?_)
        refine lv_icmp_lt (tgt := 60) hx hb dX9_parts_54 (by decide) (fun c_46 => ?_) (fun c_46 => ?_)
        · refine lv_aload_n hx hb dX9_parts_60 rfl (lv_at hl 1 rfl) ?_
          refine va_get (D := (dC, dI)) (ci := 9) (v := .ref (ad 35)) (C := RX9) (T := TX9) (N := 67) hx hb hts hiX9 hown hK hP 0 rfl rfl 35 (by decide) v_3 (fun _ h9 => h9) rfl dX9_parts_61 ?_
          refine lv_iconst (v := 0) hx hb dX9_parts_64 (by decide) ?_
          refine lv_aload_n hx hb dX9_parts_65 rfl (lv_at hl 1 rfl) ?_
          refine va_get (D := (dC, dI)) (ci := 9) (v := .ref (ad 36)) (C := RX9) (T := TX9) (N := 67) hx hb hts hiX9 hown hK hP 0 rfl rfl 36 (by decide) v_4 (fun _ h9 => h9) rfl dX9_parts_66 ?_
          refine lv_iconst (v := 0) hx hb dX9_parts_69 (by decide) ?_
          have hFc := pu_free hD hS hA
          refine va_callv (va_runS (As := [.ref (ad 35), .int 0, .ref (ad 36), .int 0]) (rest := []) ⟨hx, hb, hml, hown, hts⟩ (c_M_copies_zy l dC dI _ ad ck x0 x16 x18 x19 x20 x21 x22 x23 x24 x25 x26 x27 x28 x29 x30 x33 x45 x46 g_31 x53 x61 x62 x63 x65 x66 f1 f2 f3 q4 q5 q6 q7 f8 q9 q10 f11 m12_0 m12_1 m13_0 m13_1 m14_0 m14_1 m15_0 m15_1 f17 q31 f32 f34 g_27 g_28 f37 q38 f39 f40 f41 m42_0 m42_1 f43 f44 f47 f48 g_29 g_30 f51 q54 q55 q56 f57 q58 f59 f60 f64 hx16 hx18 hx19 hx21 hx22 hx26 hx28 hx29 hx30 hx33 hx46 (Nat.le_trans hg_31 (Nat.le_of_ble_eq_true rfl)) hx53 hx61 hx62 hx63 hx65 hm12_0 hm12_1 hm13_0 hm13_1 hm14_0 hm14_1 hm15_0 hm15_1 hm42_0 hm42_1) (va_cwS 4 hts g_M_parts_M_copies_zy rfl rfl rfl (by decide +kernel) ⟨Nat.le_of_ble_eq_true rfl, Nat.le_of_ble_eq_true rfl⟩) ⟨pu_bl, pu_in hP hK hD⟩ rfl rfl hl.1 rfl (lv_room (Nat.le_of_ble_eq_true rfl)) dX9_parts_70 ⟨Nat.le_of_ble_eq_true rfl, Nat.le_of_ble_eq_true rfl⟩) hS (fun q _ h => hFc q h) hFc (fun u t H1 locs ht hvm hw hB hz1 hk1 hS => ?_)
          obtain ⟨z36_48, ⟨hP1, -, hD1⟩⟩ := hB
          rw [ht] at hP1
          have hP := hP1
          have hD := pu_all hFc hD1
          clear hP1 hD1 hFc
          clear hk1 hz1 ht hvm
          generalize H1 = H at hP hS ⊢
          refine lv_aload_n hx hb dX9_parts_73 rfl (lv_at hl 1 rfl) ?_
          refine va_get (D := (dC, dI)) (ci := 9) (v := .ref (ad 36)) (C := RX9) (T := TX9) (N := 67) hx hb hts hiX9 hown hK hP 0 rfl rfl 36 (by decide) v_4 (fun _ h9 => h9) rfl dX9_parts_74 ?_
          refine lv_iload_n hx hb dX9_parts_77 rfl (lv_at hl 4 rfl) ?_
          refine lv_iload_n hx hb dX9_parts_78 rfl (lv_at hl 3 rfl) ?_
          refine lv_iconst (v := 1) hx hb dX9_parts_79 (by decide) ?_
          refine lv_iload hx hb dX9_parts_80 (lv_at hl 0 rfl) ?_
          refine lv_isub hx hb dX9_parts_82 ?_
          refine lv_topi (fun y_49 ey_49 => ?_)
          have hFc := pu_free hD hS hA
          refine va_callv (va_runS (As := [.ref (ad 36), .int (nI g_32), .int (nI g_14), .int y_49]) (rest := []) ⟨hx, hb, hml, hown, hts⟩ (c_M_tightens_y l dC dI _ ad ck x0 x16 x18 x19 x20 x21 x22 x23 x24 x25 x26 x27 x28 x29 x30 x33 x45 x46 g_31 x53 x61 x62 x63 x65 x66 f1 f2 f3 q4 q5 q6 q7 f8 q9 q10 f11 m12_0 m12_1 m13_0 m13_1 m14_0 m14_1 m15_0 m15_1 f17 q31 f32 f34 g_27 z36_48 f37 q38 f39 f40 f41 m42_0 m42_1 f43 f44 f47 f48 g_29 g_30 f51 q54 q55 q56 f57 q58 f59 f60 f64 g_32 g_14 y_49 hx16 hx18 hx19 hx21 hx22 hx26 hx28 hx29 hx30 hx33 hx46 (Nat.le_trans hg_31 (Nat.le_of_ble_eq_true rfl)) hx53 hx61 hx62 hx63 hx65 hm12_0 hm12_1 hm13_0 hm13_1 hm14_0 hm14_1 hm15_0 hm15_1 hm42_0 hm42_1 (by omega) (by omega)) (va_cwS 4 hts g_M_parts_M_tightens_y rfl rfl rfl (by decide +kernel) ⟨Nat.le_of_ble_eq_true rfl, Nat.le_of_ble_eq_true rfl⟩) ⟨pu_bl, pu_in hP hK hD⟩ rfl rfl hl.1 rfl (lv_room (Nat.le_of_ble_eq_true rfl)) dX9_parts_83 ⟨Nat.le_of_ble_eq_true rfl, Nat.le_of_ble_eq_true rfl⟩) hS (fun q _ h => hFc q h) hFc (fun u t H1 locs ht hvm hw hB hz1 hk1 hS => ?_)
          obtain ⟨z36_51, ⟨hP1, -, hD1⟩⟩ := hB
          rw [ht] at hP1
          have hP := hP1
          have hD := pu_all hFc hD1
          clear hP1 hD1 hFc
          clear hk1 hz1 ht hvm
          generalize H1 = H at hP hS ⊢
          refine lv_aload_n hx hb dX9_parts_86 rfl (lv_at hl 1 rfl) ?_
          refine lv_aload_n hx hb dX9_parts_87 rfl (lv_at hl 1 rfl) ?_
          refine va_get (D := (dC, dI)) (ci := 9) (v := .ref (ad 36)) (C := RX9) (T := TX9) (N := 67) hx hb hts hiX9 hown hK hP 0 rfl rfl 36 (by decide) v_4 (fun _ h9 => h9) rfl dX9_parts_88 ?_
          have hFc := pu_free hD hS hA
          refine va_calli (va_runV (As := [.ref (ad 36)]) (rest := []) ⟨hx, hb, hml, hown, hts⟩ (c_M_closes_y l dC dI _ ad ck x0 x16 x18 x19 x20 x21 x22 x23 x24 x25 x26 x27 x28 x29 x30 x33 x45 x46 g_31 x53 x61 x62 x63 x65 x66 f1 f2 f3 q4 q5 q6 q7 f8 q9 q10 f11 m12_0 m12_1 m13_0 m13_1 m14_0 m14_1 m15_0 m15_1 f17 q31 f32 f34 g_27 z36_51 f37 q38 f39 f40 f41 m42_0 m42_1 f43 f44 f47 f48 g_29 g_30 f51 q54 q55 q56 f57 q58 f59 f60 f64 hx16 hx18 hx19 hx21 hx22 hx26 hx28 hx29 hx30 hx33 hx46 (Nat.le_trans hg_31 (Nat.le_of_ble_eq_true rfl)) hx53 hx61 hx62 hx63 hx65 hm12_0 hm12_1 hm13_0 hm13_1 hm14_0 hm14_1 hm15_0 hm15_1 hm42_0 hm42_1) (cwV 1 hts g_M_parts_M_closes_y rfl rfl rfl (by decide +kernel) ⟨Nat.le_of_ble_eq_true rfl, Nat.le_of_ble_eq_true rfl⟩) ⟨pu_bl, va_recv hK hP (ci := 9) (q0 := 0) rfl rfl, pu_in hP hK hD⟩ rfl rfl hl.1 rfl (lv_room (Nat.le_of_ble_eq_true rfl)) dX9_parts_91 ⟨Nat.le_of_ble_eq_true rfl, Nat.le_of_ble_eq_true rfl⟩) hS (fun q _ h => hFc q h) hFc (fun r_52 u t H1 locs ht hvm hw hB hz1 hk1 hS => ?_)
          obtain ⟨z36_53, ⟨hP1, -, hD1⟩⟩ := hB
          rw [ht] at hP1
          have hP := hP1
          have hD := pu_all hFc hD1
          clear hP1 hD1 hFc
          clear hk1 hz1 ht hvm
          generalize H1 = H at hP hS ⊢
          obtain ⟨u_54, hu_54, rfl⟩ := hw
          refine pu_join (fun H locs ls st => ∃ (g_55 : Nat) (g_56 : Nat → Int32) (g_57 : Nat → Int32), st = [] ∧ g_55 ≤ 2381 ∧ pf_ext x52 g_55 f50 g_57 a0 ∧ ((g_32 < g_14 ∧ g_55 ≤ x52 + 4 * g_14 + g_32 + 1) ∨ (g_14 < g_32 ∧ g_55 ≤ x52 + 4 * g_14 + g_32)) ∧ va_P (dC, dI) vwCl (mo_w ad ck x0 (nI x16) (nI x18) (nI x19) x20 (nI x21) (nI x22) x23 x24 x25 (nI x26) x27 (nI x28) (nI x29) (nI x30) (nI x33) x45 (nI x46) (nI g_55) (nI x53) (nI x61) (nI x62) (nI x63) (nI x65) x66 f1 f2 f3 (bN 3 q4) (bN 7 q5) (bN 7 q6) (bN 4 q7) f8 (bN 2 q9) (bH q10) f11 (b2 m12_0 m12_1) (b2 m13_0 m13_1) (b2 m14_0 m14_1) (b2m m15_0 m15_1) f17 (bA 159 q31) f32 f34 g_27 z36_53 f37 (bN 7 q38) f39 f40 f41 (b2 m42_0 m42_1) f43 f44 f47 f48 g_56 g_57 f51 (bN 13 q54) (bN 120 q55) (bN 120 q56) f57 (bN 120 q58) f59 f60 f64) H ∧ va_D A (mo_w ad ck x0 (nI x16) (nI x18) (nI x19) x20 (nI x21) (nI x22) x23 x24 x25 (nI x26) x27 (nI x28) (nI x29) (nI x30) (nI x33) x45 (nI x46) (nI g_55) (nI x53) (nI x61) (nI x62) (nI x63) (nI x65) x66 f1 f2 f3 (bN 3 q4) (bN 7 q5) (bN 7 q6) (bN 4 q7) f8 (bN 2 q9) (bH q10) f11 (b2 m12_0 m12_1) (b2 m13_0 m13_1) (b2 m14_0 m14_1) (b2m m15_0 m15_1) f17 (bA 159 q31) f32 f34 g_27 z36_53 f37 (bN 7 q38) f39 f40 f41 (b2 m42_0 m42_1) f43 f44 f47 f48 g_56 g_57 f51 (bN 13 q54) (bN 120 q55) (bN 120 q56) f57 (bN 120 q58) f59 f60 f64) ∧ va_S A s.heap H locs ∧ lv_has ls 5 [(0, .ref (ad 0)), (1, .int (nI a0)), (2, .int (nI g_14)), (3, .int (nI g_32)), (4, .int y_41)]) 104 ?_ (fun j_60 => ?_)
          · rintro H locs ls st ⟨g_55, g_56, g_57, rfl, hg_55, he_58, he_59, hP, hD, hS, hl⟩
            refine lv_aload_n hx hb dX9_parts_104 rfl (lv_at hl 0 rfl) ?_
            refine va_get (D := (dC, dI)) (ci := 9) (v := .ref (ad 35)) (C := RX9) (T := TX9) (N := 67) hx hb hts hiX9 hown hK hP 0 rfl rfl 35 (by decide) v_3 (fun _ h9 => h9) rfl dX9_parts_105 ?_
            refine lv_iload_n hx hb dX9_parts_108 rfl (lv_at hl 2 rfl) ?_
            refine lv_iload_n hx hb dX9_parts_109 rfl (lv_at hl 3 rfl) ?_
            refine lv_iload hx hb dX9_parts_110 (lv_at hl 4 rfl) ?_
            have hFc := pu_free hD hS hA
            refine va_callv (va_runS (As := [.ref (ad 35), .int (nI g_14), .int (nI g_32), .int y_41]) (rest := []) ⟨hx, hb, hml, hown, hts⟩ (c_M_tightens_z l dC dI _ ad ck x0 x16 x18 x19 x20 x21 x22 x23 x24 x25 x26 x27 x28 x29 x30 x33 x45 x46 g_55 x53 x61 x62 x63 x65 x66 f1 f2 f3 q4 q5 q6 q7 f8 q9 q10 f11 m12_0 m12_1 m13_0 m13_1 m14_0 m14_1 m15_0 m15_1 f17 q31 f32 f34 g_27 z36_53 f37 q38 f39 f40 f41 m42_0 m42_1 f43 f44 f47 f48 g_56 g_57 f51 q54 q55 q56 f57 q58 f59 f60 f64 g_14 g_32 y_41 hx16 hx18 hx19 hx21 hx22 hx26 hx28 hx29 hx30 hx33 hx46 (Nat.le_trans hg_55 (Nat.le_of_ble_eq_true rfl)) hx53 hx61 hx62 hx63 hx65 hm12_0 hm12_1 hm13_0 hm13_1 hm14_0 hm14_1 hm15_0 hm15_1 hm42_0 hm42_1 (by omega) (by omega)) (va_cwS 4 hts g_M_parts_M_tightens_z rfl rfl rfl (by decide +kernel) ⟨Nat.le_of_ble_eq_true rfl, Nat.le_of_ble_eq_true rfl⟩) ⟨pu_bl, pu_in hP hK hD⟩ rfl rfl hl.1 rfl (lv_room (Nat.le_of_ble_eq_true rfl)) dX9_parts_112 ⟨Nat.le_of_ble_eq_true rfl, Nat.le_of_ble_eq_true rfl⟩) hS (fun q _ h => hFc q h) hFc (fun u t H1 locs ht hvm hw hB hz1 hk1 hS => ?_)
            obtain ⟨z35_62, ⟨hP1, -, hD1⟩⟩ := hB
            rw [ht] at hP1
            have hP := hP1
            have hD := pu_all hFc hD1
            clear hP1 hD1 hFc
            clear hk1 hz1 ht hvm
            generalize H1 = H at hP hS ⊢
            refine lv_aload_n hx hb dX9_parts_115 rfl (lv_at hl 0 rfl) ?_
            refine lv_aload_n hx hb dX9_parts_116 rfl (lv_at hl 0 rfl) ?_
            refine va_get (D := (dC, dI)) (ci := 9) (v := .ref (ad 35)) (C := RX9) (T := TX9) (N := 67) hx hb hts hiX9 hown hK hP 0 rfl rfl 35 (by decide) v_3 (fun _ h9 => h9) rfl dX9_parts_117 ?_
            have hFc := pu_free hD hS hA
            refine va_calli (va_runV (As := [.ref (ad 35)]) (rest := []) ⟨hx, hb, hml, hown, hts⟩ (c_M_closes_z l dC dI _ ad ck x0 x16 x18 x19 x20 x21 x22 x23 x24 x25 x26 x27 x28 x29 x30 x33 x45 x46 g_55 x53 x61 x62 x63 x65 x66 f1 f2 f3 q4 q5 q6 q7 f8 q9 q10 f11 m12_0 m12_1 m13_0 m13_1 m14_0 m14_1 m15_0 m15_1 f17 q31 f32 f34 z35_62 z36_53 f37 q38 f39 f40 f41 m42_0 m42_1 f43 f44 f47 f48 g_56 g_57 f51 q54 q55 q56 f57 q58 f59 f60 f64 hx16 hx18 hx19 hx21 hx22 hx26 hx28 hx29 hx30 hx33 hx46 (Nat.le_trans hg_55 (Nat.le_of_ble_eq_true rfl)) hx53 hx61 hx62 hx63 hx65 hm12_0 hm12_1 hm13_0 hm13_1 hm14_0 hm14_1 hm15_0 hm15_1 hm42_0 hm42_1) (cwV 1 hts g_M_parts_M_closes_z rfl rfl rfl (by decide +kernel) ⟨Nat.le_of_ble_eq_true rfl, Nat.le_of_ble_eq_true rfl⟩) ⟨pu_bl, va_recv hK hP (ci := 9) (q0 := 0) rfl rfl, pu_in hP hK hD⟩ rfl rfl hl.1 rfl (lv_room (Nat.le_of_ble_eq_true rfl)) dX9_parts_120 ⟨Nat.le_of_ble_eq_true rfl, Nat.le_of_ble_eq_true rfl⟩) hS (fun q _ h => hFc q h) hFc (fun r_63 u t H1 locs ht hvm hw hB hz1 hk1 hS => ?_)
            obtain ⟨z35_64, ⟨hP1, -, hD1⟩⟩ := hB
            rw [ht] at hP1
            have hP := hP1
            have hD := pu_all hFc hD1
            clear hP1 hD1 hFc
            clear hk1 hz1 ht hvm
            generalize H1 = H at hP hS ⊢
            obtain ⟨u_65, hu_65, rfl⟩ := hw
            refine lv_if_ne (tgt := 128) hx hb dX9_parts_123 (by decide) (fun c_66 => ?_) (fun c_66 => ?_)
            · have c_66 : ¬ u_65 = 0 := fun z => c_66 ((nI_eq (a := u_65) (b := 0) (Nat.lt_of_le_of_lt hu_65 (Nat.le_of_ble_eq_true rfl)) (Nat.le_of_ble_eq_true rfl)).mpr z)
              refine lv_iinc (v := (nI (g_32 + 1))) (lv' := [(3, .int (nI (g_32 + 1))), (0, .ref (ad 0)), (1, .int (nI a0)), (2, .int (nI g_14)), (4, .int y_41)]) hx hb dX9_parts_128 hl (k := 3) rfl (nI_1 _) (by decide) rfl (fun ls hl => ?_)
              refine lv_goto (tgt := 12) hx hb dX9_parts_131 (by decide) ?_
              exact ih_35 (5 - (g_32 + 1)) (by omega) _ _ _ ⟨z35_64, z36_53, g_56, g_57, g_55, (g_32 + 1), rfl, (by omega), (by omega), by first | assumption | exact pf_refl | exact pf_step (by assumption) (by omega) | exact pf_one | exact pf_app (by assumption) (by assumption) (by omega) (by omega) (by omega) (by omega), by omega, hP, hD, hS, lv_sub hl [1, 2, 3, 0] rfl⟩
            · have c_66 : u_65 = 0 := (nI_eq (a := u_65) (b := 0) (Nat.lt_of_le_of_lt hu_65 (Nat.le_of_ble_eq_true rfl)) (Nat.le_of_ble_eq_true rfl)).mp c_66
              refine lv_iconst (v := 0) hx hb dX9_parts_126 (by decide) ?_
              exact W.zret (v := 0) (ty := .boolean) hx hb hr (rfl) (fun t ht hW => ⟨⟨0, (), rfl, ⟨0, (Nat.le_of_ble_eq_true rfl), rfl⟩, ⟨z35_64, z36_53, g_56, g_57, g_55, ⟨by rw [ht]; exact hP, va_K.moved hW.alike hK, hD⟩, (Nat.le_trans hg_55 (Nat.le_of_ble_eq_true rfl)), by omega, by first | assumption | exact pf_refl | exact pf_step (by assumption) (by omega)⟩⟩, hS.F ht⟩) hS.2.2 dX9_parts_127
          refine lv_if_eq (tgt := 104) hx hb dX9_parts_94 (by decide) (fun c_67 => ?_) (fun c_67 => ?_)
          · have c_67 : u_54 = 0 := (nI_eq (a := u_54) (b := 0) (Nat.lt_of_le_of_lt hu_54 (Nat.le_of_ble_eq_true rfl)) (Nat.le_of_ble_eq_true rfl)).mp c_67
            exact j_60 _ _ _ _ ⟨g_31, g_29, g_30, rfl, (Nat.le_trans hg_31 (Nat.le_of_ble_eq_true rfl)), by first | assumption | exact pf_refl | exact pf_step (by assumption) (by omega) | exact pf_one | exact pf_app (by assumption) (by assumption) (by omega) (by omega) (by omega) (by omega), by omega, hP, hD, hS, lv_sub hl [1, 2, 3, 4, 0] rfl⟩
          · have c_67 : ¬ u_54 = 0 := fun z => c_67 ((nI_eq (a := u_54) (b := 0) (Nat.lt_of_le_of_lt hu_54 (Nat.le_of_ble_eq_true rfl)) (Nat.le_of_ble_eq_true rfl)).mpr z)
            refine lv_aload_n hx hb dX9_parts_97 rfl (lv_at hl 1 rfl) ?_
            refine lv_iload_n hx hb dX9_parts_98 rfl (lv_at hl 2 rfl) ?_
            refine lv_iconst (v := 1) hx hb dX9_parts_99 (by decide) ?_
            refine lv_iadd hx hb dX9_parts_100 ?_
            refine lv_topi (fun y_68 ey_68 => ?_)
            obtain rfl : y_68 = (nI (a0 + 1)) := ey_68.trans (nI_add a0 1)
            have hFc := pu_free hD hS hA
            refine va_callv (va_runV (As := [.int (nI (a0 + 1))]) (rest := []) ⟨hx, hb, hml, hown, hts⟩ (c_M_keepsPiece l dC dI _ ad ck x0 x16 x18 x19 x20 x21 x22 x23 x24 x25 x26 x27 x28 x29 x30 x33 x45 x46 g_31 x53 x61 x62 x63 x65 x66 f1 f2 f3 q4 q5 q6 q7 f8 q9 q10 f11 m12_0 m12_1 m13_0 m13_1 m14_0 m14_1 m15_0 m15_1 f17 q31 f32 f34 g_27 z36_53 f37 q38 f39 f40 f41 m42_0 m42_1 f43 f44 f47 f48 g_29 g_30 f51 q54 q55 q56 f57 q58 f59 f60 f64 (a0 + 1) hx16 hx18 hx19 hx21 hx22 hx26 hx28 hx29 hx30 hx33 hx46 (Nat.le_trans hg_31 (Nat.le_of_ble_eq_true rfl)) hx53 hx61 hx62 hx63 hx65 hm12_0 hm12_1 hm13_0 hm13_1 hm14_0 hm14_1 hm15_0 hm15_1 hm42_0 hm42_1 (by omega)) (cwV 1 hts g_M_parts_M_keepsPiece rfl rfl rfl (by decide +kernel) ⟨Nat.le_of_ble_eq_true rfl, Nat.le_of_ble_eq_true rfl⟩) ⟨pu_bl, va_recv hK hP (ci := 9) (q0 := 0) rfl rfl, pu_in hP hK hD⟩ rfl rfl hl.1 rfl (lv_room (Nat.le_of_ble_eq_true rfl)) dX9_parts_101 ⟨Nat.le_of_ble_eq_true rfl, Nat.le_of_ble_eq_true rfl⟩) hS (fun q _ h => hFc q h) hFc (fun u t H1 locs ht hvm hw hB hz1 hk1 hS => ?_)
            obtain ⟨z49_70, ⟨hP1, -, hD1⟩⟩ := hB
            rw [ht] at hP1
            have hP := hP1
            have hD := pu_all hFc hD1
            clear hP1 hD1 hFc
            clear hk1 hz1 ht hvm
            generalize H1 = H at hP hS ⊢
            exact j_60 _ _ _ _ ⟨(g_31 + 1), z49_70, (upd g_30 ((nI g_31) : Int32).toNatClampNeg (nI (a0 + 1))), rfl, (by omega), by first | assumption | exact pf_refl | exact pf_step (by assumption) (by omega) | exact pf_one | exact pf_app (by assumption) (by assumption) (by omega) (by omega) (by omega) (by omega), by omega, hP, hD, hS, lv_sub hl [1, 2, 3, 4, 0] rfl⟩
        · refine lv_goto (tgt := 128) hx hb dX9_parts_57 (by decide) ?_
          refine lv_iinc (v := (nI (g_32 + 1))) (lv' := [(3, .int (nI (g_32 + 1))), (4, .int y_41), (0, .ref (ad 0)), (1, .int (nI a0)), (2, .int (nI g_14))]) hx hb dX9_parts_128 hl (k := 4) rfl (nI_1 _) (by decide) rfl (fun ls hl => ?_)
          refine lv_goto (tgt := 12) hx hb dX9_parts_131 (by decide) ?_
          exact ih_35 (5 - (g_32 + 1)) (by omega) _ _ _ ⟨g_27, g_28, g_29, g_30, g_31, (g_32 + 1), rfl, hg_31, (by omega), by first | assumption | exact pf_refl | exact pf_step (by assumption) (by omega) | exact pf_one | exact pf_app (by assumption) (by assumption) (by omega) (by omega) (by omega) (by omega), by omega, hP, hD, hS, lv_sub hl [2, 3, 4, 0] rfl⟩
theorem dX9_isOver_0 : decode cX9_isOver 0 = .ok (.aload_n 0, 1) := by decide +kernel
theorem dX9_isOver_1 : decode cX9_isOver 1 = .ok (.iconst 0, 1) := by decide +kernel
theorem dX9_isOver_2 : decode cX9_isOver 2 = .ok (.putfield 405, 3) := by decide +kernel
theorem dX9_isOver_5 : decode cX9_isOver 5 = .ok (.aload_n 0, 1) := by decide +kernel
theorem dX9_isOver_6 : decode cX9_isOver 6 = .ok (.getfield 71, 3) := by decide +kernel
theorem dX9_isOver_9 : decode cX9_isOver 9 = .ok (.iconst 0, 1) := by decide +kernel
theorem dX9_isOver_10 : decode cX9_isOver 10 = .ok (.aload_n 0, 1) := by decide +kernel
theorem dX9_isOver_11 : decode cX9_isOver 11 = .ok (.getfield 74, 3) := by decide +kernel
theorem dX9_isOver_14 : decode cX9_isOver 14 = .ok (.iconst 0, 1) := by decide +kernel
theorem dX9_isOver_15 : decode cX9_isOver 15 = .ok (.invokestatic 362, 3) := by decide +kernel
theorem dX9_isOver_18 : decode cX9_isOver 18 = .ok (.aload_n 0, 1) := by decide +kernel
theorem dX9_isOver_19 : decode cX9_isOver 19 = .ok (.iconst 0, 1) := by decide +kernel
theorem dX9_isOver_20 : decode cX9_isOver 20 = .ok (.invokevirtual 408, 3) := by decide +kernel
theorem dX9_isOver_23 : decode cX9_isOver 23 = .ok (.aload_n 0, 1) := by decide +kernel
theorem dX9_isOver_24 : decode cX9_isOver 24 = .ok (.getfield 405, 3) := by decide +kernel
theorem dX9_isOver_27 : decode cX9_isOver 27 = .ok (.ifCond .le 67, 3) := by decide +kernel
theorem dX9_isOver_30 : decode cX9_isOver 30 = .ok (.aload_n 0, 1) := by decide +kernel
theorem dX9_isOver_31 : decode cX9_isOver 31 = .ok (.dup, 1) := by decide +kernel
theorem dX9_isOver_32 : decode cX9_isOver 32 = .ok (.getfield 405, 3) := by decide +kernel
theorem dX9_isOver_35 : decode cX9_isOver 35 = .ok (.iconst 1, 1) := by decide +kernel
theorem dX9_isOver_36 : decode cX9_isOver 36 = .ok (.isub, 1) := by decide +kernel
theorem dX9_isOver_37 : decode cX9_isOver 37 = .ok (.putfield 405, 3) := by decide +kernel
theorem dX9_isOver_40 : decode cX9_isOver 40 = .ok (.aload_n 0, 1) := by decide +kernel
theorem dX9_isOver_41 : decode cX9_isOver 41 = .ok (.getfield 109, 3) := by decide +kernel
theorem dX9_isOver_44 : decode cX9_isOver 44 = .ok (.bipush 25, 2) := by decide +kernel
theorem dX9_isOver_46 : decode cX9_isOver 46 = .ok (.aload_n 0, 1) := by decide +kernel
theorem dX9_isOver_47 : decode cX9_isOver 47 = .ok (.getfield 405, 3) := by decide +kernel
theorem dX9_isOver_50 : decode cX9_isOver 50 = .ok (.imul, 1) := by decide +kernel
theorem dX9_isOver_51 : decode cX9_isOver 51 = .ok (.aload_n 0, 1) := by decide +kernel
theorem dX9_isOver_52 : decode cX9_isOver 52 = .ok (.getfield 71, 3) := by decide +kernel
theorem dX9_isOver_55 : decode cX9_isOver 55 = .ok (.iconst 0, 1) := by decide +kernel
theorem dX9_isOver_56 : decode cX9_isOver 56 = .ok (.invokestatic 362, 3) := by decide +kernel
theorem dX9_isOver_59 : decode cX9_isOver 59 = .ok (.aload_n 0, 1) := by decide +kernel
theorem dX9_isOver_60 : decode cX9_isOver 60 = .ok (.getfield 112, 3) := by decide +kernel
theorem dX9_isOver_63 : decode cX9_isOver 63 = .ok (.aload_n 0, 1) := by decide +kernel
theorem dX9_isOver_64 : decode cX9_isOver 64 = .ok (.getfield 405, 3) := by decide +kernel
theorem dX9_isOver_67 : decode cX9_isOver 67 = .ok (.iaload, 1) := by decide +kernel
theorem dX9_isOver_68 : decode cX9_isOver 68 = .ok (.aload_n 0, 1) := by decide +kernel
theorem dX9_isOver_69 : decode cX9_isOver 69 = .ok (.getfield 411, 3) := by decide +kernel
theorem dX9_isOver_72 : decode cX9_isOver 72 = .ok (.if_icmp .ne 5, 3) := by decide +kernel
theorem dX9_isOver_75 : decode cX9_isOver 75 = .ok (.iconst 1, 1) := by decide +kernel
theorem dX9_isOver_76 : decode cX9_isOver 76 = .ok (.ireturn, 1) := by decide +kernel
theorem dX9_isOver_77 : decode cX9_isOver 77 = .ok (.aload_n 0, 1) := by decide +kernel
theorem dX9_isOver_78 : decode cX9_isOver 78 = .ok (.aload_n 0, 1) := by decide +kernel
theorem dX9_isOver_79 : decode cX9_isOver 79 = .ok (.getfield 112, 3) := by decide +kernel
theorem dX9_isOver_82 : decode cX9_isOver 82 = .ok (.aload_n 0, 1) := by decide +kernel
theorem dX9_isOver_83 : decode cX9_isOver 83 = .ok (.getfield 405, 3) := by decide +kernel
theorem dX9_isOver_86 : decode cX9_isOver 86 = .ok (.iaload, 1) := by decide +kernel
theorem dX9_isOver_87 : decode cX9_isOver 87 = .ok (.invokevirtual 414, 3) := by decide +kernel
theorem dX9_isOver_90 : decode cX9_isOver 90 = .ok (.pop, 1) := by decide +kernel
theorem dX9_isOver_91 : decode cX9_isOver 91 = .ok (.goto (-68), 3) := by decide +kernel
theorem dX9_isOver_94 : decode cX9_isOver 94 = .ok (.iconst 0, 1) := by decide +kernel
theorem dX9_isOver_95 : decode cX9_isOver 95 = .ok (.ireturn, 1) := by decide +kernel
abbrev vs_M_isOver : List Cond := .code yX9_isOver cX9_isOver 1 (some .boolean) :: VM
theorem g_M_isOver_M_copies_zy : GoodIn vs_M_isOver (va_wsS RX9 362 yX9_copies vs_M_copies_zy) := gm_S vm_250 vm_251 vm_12 vm_8
theorem g_M_isOver_M_keepsPiece : GoodIn vs_M_isOver (wsV RX9 408 RX9 yX9_keepsPiece vs_M_keepsPiece) := gm_V vm_304 vm_305 vm_306 vm_12 vm_297
theorem g_M_isOver_M_copies_pz : GoodIn vs_M_isOver (va_wsS RX9 362 yX9_copies vs_M_copies_pz) := gm_S vm_250 vm_251 vm_12 vm_8
theorem g_M_isOver_M_parts : GoodIn vs_M_isOver (wsV RX9 414 RX9 yX9_parts vs_M_parts) := gm_V vm_309 vm_310 vm_311 vm_12 vm_302
set_option maxHeartbeats 4000000 in
set_option maxRecDepth 100000 in
theorem c_M_isOver (l : Launch) (dC : Nat → ClassId) (dI : Nat → Nat → Nat) (sz : Nat) (ad : Nat → Nat) (ck : Nat → ClassId) (x0 : Int32) (x16 : Nat) (x18 : Nat) (x19 : Nat) (x20 : Int32) (x21 : Nat) (x22 : Nat) (x23 : Int32) (x24 : Int32) (x25 : Int32) (x26 : Nat) (x27 : Int32) (x28 : Nat) (x29 : Nat) (x30 : Nat) (x33 : Nat) (x45 : Int32) (x46 : Nat) (x52 : Nat) (x53 : Nat) (x61 : Nat) (x62 : Nat) (x63 : Nat) (x65 : Nat) (x66 : Int32) (f1 : Nat → Int32) (f2 : Nat → Int32) (f3 : Nat → Int32) (q4 : Nat → Nat) (q5 : Nat → Nat) (q6 : Nat → Nat) (q7 : Nat → Nat) (f8 : Nat → Int32) (q9 : Nat → Nat) (q10 : Nat → Nat) (f11 : Nat → Int32) (m12_0 m12_1 : Nat) (m13_0 m13_1 : Nat) (m14_0 m14_1 : Nat) (m15_0 m15_1 : Nat) (f17 : Nat → Int32) (q31 : Nat → Nat) (f32 : Nat → Int32) (f34 : Nat → Int32) (f35 : Nat → Int32) (f36 : Nat → Int32) (f37 : Nat → Int32) (q38 : Nat → Nat) (f39 : Nat → Int32) (f40 : Nat → Int32) (f41 : Nat → Int32) (m42_0 m42_1 : Nat) (f43 : Nat → Int32) (f44 : Nat → Int32) (f47 : Nat → Int32) (f48 : Nat → Int32) (f49 : Nat → Int32) (f50 : Nat → Int32) (f51 : Nat → Int32) (q54 : Nat → Nat) (q55 : Nat → Nat) (q56 : Nat → Nat) (f57 : Nat → Int32) (q58 : Nat → Nat) (f59 : Nat → Int32) (f60 : Nat → Int32) (f64 : Nat → Int32) (hx16 : x16 ≤ 1) (hx18 : x18 ≤ 900) (hx19 : x19 ≤ 900) (hx21 : x21 ≤ 900) (hx22 : x22 ≤ 4) (hx26 : x26 ≤ 6) (hx28 : x28 ≤ 1) (hx29 : x29 ≤ 1) (hx30 : x30 ≤ 1) (hx33 : x33 ≤ 20) (hx46 : x46 ≤ 5) (hx52 : x52 ≤ 2400) (hx53 : x53 ≤ 119) (hx61 : x61 ≤ 119) (hx62 : x62 ≤ 2000) (hx63 : x63 ≤ 1) (hx65 : x65 ≤ 7) (hm12_0 : m12_0 ≤ 3) (hm12_1 : m12_1 ≤ 3) (hm13_0 : m13_0 ≤ 8) (hm13_1 : m13_1 ≤ 8) (hm14_0 : m14_0 ≤ 14) (hm14_1 : m14_1 ≤ 14) (hm15_0 : m15_0 ≤ 8) (hm15_1 : m15_1 ≤ 8) (hm42_0 : m42_0 ≤ 120) (hm42_1 : m42_1 ≤ 400) : Met l yX9_isOver vs_M_isOver ({ frames := 3, cells := 0, slots := 0, locals := 69 }) (va_Pc [.ref (ad 0)] (pu_B (dC, dI) (mo_w ad ck x0 (nI x16) (nI x18) (nI x19) x20 (nI x21) (nI x22) x23 x24 x25 (nI x26) x27 (nI x28) (nI x29) (nI x30) (nI x33) x45 (nI x46) (nI x52) (nI x53) (nI x61) (nI x62) (nI x63) (nI x65) x66 f1 f2 f3 (bN 3 q4) (bN 7 q5) (bN 7 q6) (bN 4 q7) f8 (bN 2 q9) (bH q10) f11 (b2 m12_0 m12_1) (b2 m13_0 m13_1) (b2 m14_0 m14_1) (b2m m15_0 m15_1) f17 (bA 159 q31) f32 f34 f35 f36 f37 (bN 7 q38) f39 f40 f41 (b2 m42_0 m42_1) f43 f44 f47 f48 f49 f50 f51 (bN 13 q54) (bN 120 q55) (bN 120 q56) f57 (bN 120 q58) f59 f60 f64) (mo_t ck) sz)) (va_Qi (fun (r : Int32) (_ : Unit) => ∃ v : Nat, v ≤ 1 ∧ r = nI v) (fun _ t => ∃ (z35 : Nat → Int32) (z36 : Nat → Int32) (z49 : Nat → Int32) (z50 : Nat → Int32) (z52 : Nat), pu_E (dC, dI) (mo_w ad ck x0 (nI x16) (nI x18) (nI x19) x20 (nI x21) (nI x22) x23 x24 x25 (nI x26) x27 (nI x28) (nI x29) (nI x30) (nI x33) x45 (nI x46) (nI z52) (nI x53) (nI x61) (nI x62) (nI x63) (nI x65) x66 f1 f2 f3 (bN 3 q4) (bN 7 q5) (bN 7 q6) (bN 4 q7) f8 (bN 2 q9) (bH q10) f11 (b2 m12_0 m12_1) (b2 m13_0 m13_1) (b2 m14_0 m14_1) (b2m m15_0 m15_1) f17 (bA 159 q31) f32 f34 z35 z36 f37 (bN 7 q38) f39 f40 f41 (b2 m42_0 m42_1) f43 f44 f47 f48 z49 z50 f51 (bN 13 q54) (bN 120 q55) (bN 120 q56) f57 (bN 120 q58) f59 f60 f64) (mo_t ck) (va_A ((mo_w ad ck x0 (nI x16) (nI x18) (nI x19) x20 (nI x21) (nI x22) x23 x24 x25 (nI x26) x27 (nI x28) (nI x29) (nI x30) (nI x33) x45 (nI x46) (nI x52) (nI x53) (nI x61) (nI x62) (nI x63) (nI x65) x66 f1 f2 f3 (bN 3 q4) (bN 7 q5) (bN 7 q6) (bN 4 q7) f8 (bN 2 q9) (bH q10) f11 (b2 m12_0 m12_1) (b2 m13_0 m13_1) (b2 m14_0 m14_1) (b2m m15_0 m15_1) f17 (bA 159 q31) f32 f34 f35 f36 f37 (bN 7 q38) f39 f40 f41 (b2 m42_0 m42_1) f43 f44 f47 f48 f49 f50 f51 (bN 13 q54) (bN 120 q55) (bN 120 q56) f57 (bN 120 q58) f59 f60 f64)) sz) t ∧ (z52 ≤ 2400)) (va_A ((mo_w ad ck x0 (nI x16) (nI x18) (nI x19) x20 (nI x21) (nI x22) x23 x24 x25 (nI x26) x27 (nI x28) (nI x29) (nI x30) (nI x33) x45 (nI x46) (nI x52) (nI x53) (nI x61) (nI x62) (nI x63) (nI x65) x66 f1 f2 f3 (bN 3 q4) (bN 7 q5) (bN 7 q6) (bN 4 q7) f8 (bN 2 q9) (bH q10) f11 (b2 m12_0 m12_1) (b2 m13_0 m13_1) (b2 m14_0 m14_1) (b2m m15_0 m15_1) f17 (bA 159 q31) f32 f34 f35 f36 f37 (bN 7 q38) f39 f40 f41 (b2 m42_0 m42_1) f43 f44 f47 f48 f49 f50 f51 (bN 13 q54) (bN 120 q55) (bN 120 q56) f57 (bN 120 q58) f59 f60 f64)) sz)) 0 0 (va_A ((mo_w ad ck x0 (nI x16) (nI x18) (nI x19) x20 (nI x21) (nI x22) x23 x24 x25 (nI x26) x27 (nI x28) (nI x29) (nI x30) (nI x33) x45 (nI x46) (nI x52) (nI x53) (nI x61) (nI x62) (nI x63) (nI x65) x66 f1 f2 f3 (bN 3 q4) (bN 7 q5) (bN 7 q6) (bN 4 q7) f8 (bN 2 q9) (bH q10) f11 (b2 m12_0 m12_1) (b2 m13_0 m13_1) (b2 m14_0 m14_1) (b2m m15_0 m15_1) f17 (bA 159 q31) f32 f34 f35 f36 f37 (bN 7 q38) f39 f40 f41 (b2 m42_0 m42_1) f43 f44 f47 f48 f49 f50 f51 (bN 13 q54) (bN 120 q55) (bN 120 q56) f57 (bN 120 q58) f59 f60 f64)) sz) := by
  refine Met.ofW (cc := cX9_isOver) (maxL := 1) (ret := (some .boolean)) (by decide) rfl ?_
  intro p e s m args below meth c s₁ B hml hv
  obtain ⟨rfl, rfl, hP, hK, hD0⟩ := hv
  have hx := B.exec
  have hb := B.bytes
  have hr := B.returns
  have hts := atoms_spec (ws := vs_M_isOver) B.pre
  have v_1 := hts (.fieldLink RX9 405 "ClockReachModel" "pieces" "I") (List.mem_cons_of_mem _ vm_300)
  have v_2 := hts (.fieldLink RX9 71 "ClockReachModel" "z" "[I") (List.mem_cons_of_mem _ vm_234)
  have v_3 := hts (.fieldLink RX9 74 "ClockReachModel" "y" "[I") (List.mem_cons_of_mem _ vm_298)
  have v_12 := hts (.fieldLink RX9 109 "ClockReachModel" "piece" "[I") (List.mem_cons_of_mem _ vm_299)
  have v_13 := hts (.fieldLink RX9 112 "ClockReachModel" "pieceFrom" "[I") (List.mem_cons_of_mem _ vm_301)
  have v_14 := hts (.fieldLink RX9 411 "ClockReachModel" "coverMany" "I") (List.mem_cons_of_mem _ vm_308)
  have hown : s.vm.findClass RX9 = some m.cls := findClass_of_methodNamed B.named
  have hlocks := B.notSynchronized
  have hiX9 : ∀ w ∈ wsX90, w ∈ vs_M_isOver := fun _ h => List.mem_cons_of_mem _ (List.mem_append_right _ h)
  have hD := hD0.self (sz := s.heap.size)
  generalize hAe : va_A ((mo_w ad ck x0 (nI x16) (nI x18) (nI x19) x20 (nI x21) (nI x22) x23 x24 x25 (nI x26) x27 (nI x28) (nI x29) (nI x30) (nI x33) x45 (nI x46) (nI x52) (nI x53) (nI x61) (nI x62) (nI x63) (nI x65) x66 f1 f2 f3 (bN 3 q4) (bN 7 q5) (bN 7 q6) (bN 4 q7) f8 (bN 2 q9) (bH q10) f11 (b2 m12_0 m12_1) (b2 m13_0 m13_1) (b2 m14_0 m14_1) (b2m m15_0 m15_1) f17 (bA 159 q31) f32 f34 f35 f36 f37 (bN 7 q38) f39 f40 f41 (b2 m42_0 m42_1) f43 f44 f47 f48 f49 f50 f51 (bN 13 q54) (bN 120 q55) (bN 120 q56) f57 (bN 120 q58) f59 f60 f64)) s.heap.size = A at hD ⊢
  have hA : ∀ q : Nat, s.heap.size ≤ q → A q := fun q h => by rw [← hAe]; exact Or.inr h
  have hS : va_S A s.heap s.heap [] := va_S.rf
  have hl := lv_entry ([.ref (ad 0)]) (n := 1) (Nat.le_of_ble_eq_true rfl)
  rw [lg_entry_eq]
  generalize (lg_sl ([.ref (ad 0)]) ++ List.replicate (1 - (lg_sl ([.ref (ad 0)])).length) Slot.unset).toArray = ls at hl ⊢
  have hl : lv_has ls 1 [(0, .ref (ad 0))] := hl
  refine lv_aload_n hx hb dX9_isOver_0 rfl (lv_at hl 0 rfl) ?_
  refine lv_iconst (v := 0) hx hb dX9_isOver_1 (by decide) ?_
  refine va_put (D := (dC, dI)) (ci := 9) (v := .int 0) (ty := .int) (C := RX9) (T := TX9) (N := 67) hx hb hts hiX9 tyX9 tyX9_ok nmX9 hown hK hP hD hS 0 rfl rfl 52 (by decide) v_1 (fun _ h9 => h9) rfl (by decide +kernel) rfl rfl (Nat.le_of_ble_eq_true rfl) dX9_isOver_2 (fun H locs hP hD hS => ?_)
  have hP : va_P (dC, dI) vwCl (mo_w ad ck x0 (nI x16) (nI x18) (nI x19) x20 (nI x21) (nI x22) x23 x24 x25 (nI x26) x27 (nI x28) (nI x29) (nI x30) (nI x33) x45 (nI x46) 0 (nI x53) (nI x61) (nI x62) (nI x63) (nI x65) x66 f1 f2 f3 (bN 3 q4) (bN 7 q5) (bN 7 q6) (bN 4 q7) f8 (bN 2 q9) (bH q10) f11 (b2 m12_0 m12_1) (b2 m13_0 m13_1) (b2 m14_0 m14_1) (b2m m15_0 m15_1) f17 (bA 159 q31) f32 f34 f35 f36 f37 (bN 7 q38) f39 f40 f41 (b2 m42_0 m42_1) f43 f44 f47 f48 f49 f50 f51 (bN 13 q54) (bN 120 q55) (bN 120 q56) f57 (bN 120 q58) f59 f60 f64) H := hP
  have hD : va_D A (mo_w ad ck x0 (nI x16) (nI x18) (nI x19) x20 (nI x21) (nI x22) x23 x24 x25 (nI x26) x27 (nI x28) (nI x29) (nI x30) (nI x33) x45 (nI x46) 0 (nI x53) (nI x61) (nI x62) (nI x63) (nI x65) x66 f1 f2 f3 (bN 3 q4) (bN 7 q5) (bN 7 q6) (bN 4 q7) f8 (bN 2 q9) (bH q10) f11 (b2 m12_0 m12_1) (b2 m13_0 m13_1) (b2 m14_0 m14_1) (b2m m15_0 m15_1) f17 (bA 159 q31) f32 f34 f35 f36 f37 (bN 7 q38) f39 f40 f41 (b2 m42_0 m42_1) f43 f44 f47 f48 f49 f50 f51 (bN 13 q54) (bN 120 q55) (bN 120 q56) f57 (bN 120 q58) f59 f60 f64) := hD
  refine lv_aload_n hx hb dX9_isOver_5 rfl (lv_at hl 0 rfl) ?_
  refine va_get (D := (dC, dI)) (ci := 9) (v := .ref (ad 35)) (C := RX9) (T := TX9) (N := 67) hx hb hts hiX9 hown hK hP 0 rfl rfl 35 (by decide) v_2 (fun _ h9 => h9) rfl dX9_isOver_6 ?_
  refine lv_iconst (v := 0) hx hb dX9_isOver_9 (by decide) ?_
  refine lv_aload_n hx hb dX9_isOver_10 rfl (lv_at hl 0 rfl) ?_
  refine va_get (D := (dC, dI)) (ci := 9) (v := .ref (ad 36)) (C := RX9) (T := TX9) (N := 67) hx hb hts hiX9 hown hK hP 0 rfl rfl 36 (by decide) v_3 (fun _ h9 => h9) rfl dX9_isOver_11 ?_
  refine lv_iconst (v := 0) hx hb dX9_isOver_14 (by decide) ?_
  have hFc := pu_free hD hS hA
  refine va_callv (va_runS (As := [.ref (ad 35), .int 0, .ref (ad 36), .int 0]) (rest := []) ⟨hx, hb, hml, hown, hts⟩ (c_M_copies_zy l dC dI _ ad ck x0 x16 x18 x19 x20 x21 x22 x23 x24 x25 x26 x27 x28 x29 x30 x33 x45 x46 0 x53 x61 x62 x63 x65 x66 f1 f2 f3 q4 q5 q6 q7 f8 q9 q10 f11 m12_0 m12_1 m13_0 m13_1 m14_0 m14_1 m15_0 m15_1 f17 q31 f32 f34 f35 f36 f37 q38 f39 f40 f41 m42_0 m42_1 f43 f44 f47 f48 f49 f50 f51 q54 q55 q56 f57 q58 f59 f60 f64 hx16 hx18 hx19 hx21 hx22 hx26 hx28 hx29 hx30 hx33 hx46 (Nat.le_of_ble_eq_true rfl) hx53 hx61 hx62 hx63 hx65 hm12_0 hm12_1 hm13_0 hm13_1 hm14_0 hm14_1 hm15_0 hm15_1 hm42_0 hm42_1) (va_cwS 4 hts g_M_isOver_M_copies_zy rfl rfl rfl (by decide +kernel) ⟨Nat.le_of_ble_eq_true rfl, Nat.le_of_ble_eq_true rfl⟩) ⟨pu_bl, pu_in hP hK hD⟩ rfl rfl hl.1 rfl (lv_room (Nat.le_of_ble_eq_true rfl)) dX9_isOver_15 ⟨Nat.le_of_ble_eq_true rfl, Nat.le_of_ble_eq_true rfl⟩) hS (fun q _ h => hFc q h) hFc (fun u t H1 locs ht hvm hw hB hz1 hk1 hS => ?_)
  obtain ⟨z36_2, ⟨hP1, -, hD1⟩⟩ := hB
  rw [ht] at hP1
  have hP := hP1
  have hD := pu_all hFc hD1
  clear hP1 hD1 hFc
  clear hk1 hz1 ht hvm
  generalize H1 = H at hP hS ⊢
  refine lv_aload_n hx hb dX9_isOver_18 rfl (lv_at hl 0 rfl) ?_
  refine lv_iconst (v := 0) hx hb dX9_isOver_19 (by decide) ?_
  have hFc := pu_free hD hS hA
  refine va_callv (va_runV (As := [.int 0]) (rest := []) ⟨hx, hb, hml, hown, hts⟩ (c_M_keepsPiece l dC dI _ ad ck x0 x16 x18 x19 x20 x21 x22 x23 x24 x25 x26 x27 x28 x29 x30 x33 x45 x46 0 x53 x61 x62 x63 x65 x66 f1 f2 f3 q4 q5 q6 q7 f8 q9 q10 f11 m12_0 m12_1 m13_0 m13_1 m14_0 m14_1 m15_0 m15_1 f17 q31 f32 f34 f35 z36_2 f37 q38 f39 f40 f41 m42_0 m42_1 f43 f44 f47 f48 f49 f50 f51 q54 q55 q56 f57 q58 f59 f60 f64 0 hx16 hx18 hx19 hx21 hx22 hx26 hx28 hx29 hx30 hx33 hx46 (Nat.le_of_ble_eq_true rfl) hx53 hx61 hx62 hx63 hx65 hm12_0 hm12_1 hm13_0 hm13_1 hm14_0 hm14_1 hm15_0 hm15_1 hm42_0 hm42_1 (Nat.le_of_ble_eq_true rfl)) (cwV 1 hts g_M_isOver_M_keepsPiece rfl rfl rfl (by decide +kernel) ⟨Nat.le_of_ble_eq_true rfl, Nat.le_of_ble_eq_true rfl⟩) ⟨pu_bl, va_recv hK hP (ci := 9) (q0 := 0) rfl rfl, pu_in hP hK hD⟩ rfl rfl hl.1 rfl (lv_room (Nat.le_of_ble_eq_true rfl)) dX9_isOver_20 ⟨Nat.le_of_ble_eq_true rfl, Nat.le_of_ble_eq_true rfl⟩) hS (fun q _ h => hFc q h) hFc (fun u t H1 locs ht hvm hw hB hz1 hk1 hS => ?_)
  obtain ⟨z49_4, ⟨hP1, -, hD1⟩⟩ := hB
  rw [ht] at hP1
  have hP := hP1
  have hD := pu_all hFc hD1
  clear hP1 hD1 hFc
  clear hk1 hz1 ht hvm
  generalize H1 = H at hP hS ⊢
  refine pu_while (fun nn H locs ls => ∃ (g_11 : Nat → Int32) (g_12 : Nat → Int32) (g_13 : Nat → Int32) (g_14 : Nat → Int32) (g_15 : Nat), nn = wt x53 g_14 g_15 ∧ g_15 ≤ 2400 ∧ pf_ok g_15 x53 g_14 ∧ va_P (dC, dI) vwCl (mo_w ad ck x0 (nI x16) (nI x18) (nI x19) x20 (nI x21) (nI x22) x23 x24 x25 (nI x26) x27 (nI x28) (nI x29) (nI x30) (nI x33) x45 (nI x46) (nI g_15) (nI x53) (nI x61) (nI x62) (nI x63) (nI x65) x66 f1 f2 f3 (bN 3 q4) (bN 7 q5) (bN 7 q6) (bN 4 q7) f8 (bN 2 q9) (bH q10) f11 (b2 m12_0 m12_1) (b2 m13_0 m13_1) (b2 m14_0 m14_1) (b2m m15_0 m15_1) f17 (bA 159 q31) f32 f34 g_11 g_12 f37 (bN 7 q38) f39 f40 f41 (b2 m42_0 m42_1) f43 f44 f47 f48 g_13 g_14 f51 (bN 13 q54) (bN 120 q55) (bN 120 q56) f57 (bN 120 q58) f59 f60 f64) H ∧ va_D A (mo_w ad ck x0 (nI x16) (nI x18) (nI x19) x20 (nI x21) (nI x22) x23 x24 x25 (nI x26) x27 (nI x28) (nI x29) (nI x30) (nI x33) x45 (nI x46) (nI g_15) (nI x53) (nI x61) (nI x62) (nI x63) (nI x65) x66 f1 f2 f3 (bN 3 q4) (bN 7 q5) (bN 7 q6) (bN 4 q7) f8 (bN 2 q9) (bH q10) f11 (b2 m12_0 m12_1) (b2 m13_0 m13_1) (b2 m14_0 m14_1) (b2m m15_0 m15_1) f17 (bA 159 q31) f32 f34 g_11 g_12 f37 (bN 7 q38) f39 f40 f41 (b2 m42_0 m42_1) f43 f44 f47 f48 g_13 g_14 f51 (bN 13 q54) (bN 120 q55) (bN 120 q56) f57 (bN 120 q58) f59 f60 f64) ∧ va_S A s.heap H locs ∧ lv_has ls 1 [(0, .ref (ad 0))]) 23 ?_ _ _ _ _ ⟨f35, z36_2, z49_4, (upd f50 ((nI 0) : Int32).toNatClampNeg (nI 0)), (0 + 1), rfl, (by omega), by first | assumption | exact pf_refl | exact pf_step (by assumption) (by omega) | exact pf_one | exact pf_app (by assumption) (by assumption) (by omega) (by omega) (by omega) (by omega), hP, hD, hS, lv_sub hl [0] rfl⟩
  rintro nn ih_17 H locs ls ⟨g_11, g_12, g_13, g_14, g_15, rfl, hg_15, he_16, hP, hD, hS, hl⟩
  refine lv_aload_n hx hb dX9_isOver_23 rfl (lv_at hl 0 rfl) ?_
  refine va_get (D := (dC, dI)) (ci := 9) (v := .int (nI g_15)) (C := RX9) (T := TX9) (N := 67) hx hb hts hiX9 hown hK hP 0 rfl rfl 52 (by decide) v_1 (fun _ h9 => h9) rfl dX9_isOver_24 ?_
  refine lv_if_le (tgt := 94) hx hb dX9_isOver_27 (by decide) (fun c_18 => ?_) (fun c_18 => ?_)
  · have c_18 : g_15 ≤ 0 := (nI_leI (a := g_15) (b := 0) (Nat.lt_of_le_of_lt hg_15 (Nat.le_of_ble_eq_true rfl)) (Nat.le_of_ble_eq_true rfl)).mp c_18
    refine lv_iconst (v := 0) hx hb dX9_isOver_94 (by decide) ?_
    exact W.zret (v := 0) (ty := .boolean) hx hb hr (rfl) (fun t ht hW => ⟨⟨0, (), rfl, ⟨0, (Nat.le_of_ble_eq_true rfl), rfl⟩, ⟨g_11, g_12, g_13, g_14, g_15, ⟨by rw [ht]; exact hP, va_K.moved hW.alike hK, hD⟩, hg_15⟩⟩, hS.F ht⟩) hS.2.2 dX9_isOver_95
  · have c_18 : ¬ g_15 ≤ 0 := fun z => c_18 ((nI_leI (a := g_15) (b := 0) (Nat.lt_of_le_of_lt hg_15 (Nat.le_of_ble_eq_true rfl)) (Nat.le_of_ble_eq_true rfl)).mpr z)
    refine lv_aload_n hx hb dX9_isOver_30 rfl (lv_at hl 0 rfl) ?_
    refine lv_dup hx hb dX9_isOver_31 rfl ?_
    refine va_get (D := (dC, dI)) (ci := 9) (v := .int (nI g_15)) (C := RX9) (T := TX9) (N := 67) hx hb hts hiX9 hown hK hP 0 rfl rfl 52 (by decide) v_1 (fun _ h9 => h9) rfl dX9_isOver_32 ?_
    refine lv_iconst (v := 1) hx hb dX9_isOver_35 (by decide) ?_
    refine lv_isub hx hb dX9_isOver_36 ?_
    refine lv_topi (fun y_19 ey_19 => ?_)
    obtain rfl : y_19 = (nI (g_15 - 1)) := ey_19.trans (pk_sub (a := g_15) (b := 1) (by omega))
    refine va_put (D := (dC, dI)) (ci := 9) (v := .int (nI (g_15 - 1))) (ty := .int) (C := RX9) (T := TX9) (N := 67) hx hb hts hiX9 tyX9 tyX9_ok nmX9 hown hK hP hD hS 0 rfl rfl 52 (by decide) v_1 (fun _ h9 => h9) rfl (by decide +kernel) rfl rfl (Nat.le_of_ble_eq_true rfl) dX9_isOver_37 (fun H locs hP hD hS => ?_)
    have hP : va_P (dC, dI) vwCl (mo_w ad ck x0 (nI x16) (nI x18) (nI x19) x20 (nI x21) (nI x22) x23 x24 x25 (nI x26) x27 (nI x28) (nI x29) (nI x30) (nI x33) x45 (nI x46) (nI (g_15 - 1)) (nI x53) (nI x61) (nI x62) (nI x63) (nI x65) x66 f1 f2 f3 (bN 3 q4) (bN 7 q5) (bN 7 q6) (bN 4 q7) f8 (bN 2 q9) (bH q10) f11 (b2 m12_0 m12_1) (b2 m13_0 m13_1) (b2 m14_0 m14_1) (b2m m15_0 m15_1) f17 (bA 159 q31) f32 f34 g_11 g_12 f37 (bN 7 q38) f39 f40 f41 (b2 m42_0 m42_1) f43 f44 f47 f48 g_13 g_14 f51 (bN 13 q54) (bN 120 q55) (bN 120 q56) f57 (bN 120 q58) f59 f60 f64) H := hP
    have hD : va_D A (mo_w ad ck x0 (nI x16) (nI x18) (nI x19) x20 (nI x21) (nI x22) x23 x24 x25 (nI x26) x27 (nI x28) (nI x29) (nI x30) (nI x33) x45 (nI x46) (nI (g_15 - 1)) (nI x53) (nI x61) (nI x62) (nI x63) (nI x65) x66 f1 f2 f3 (bN 3 q4) (bN 7 q5) (bN 7 q6) (bN 4 q7) f8 (bN 2 q9) (bH q10) f11 (b2 m12_0 m12_1) (b2 m13_0 m13_1) (b2 m14_0 m14_1) (b2m m15_0 m15_1) f17 (bA 159 q31) f32 f34 g_11 g_12 f37 (bN 7 q38) f39 f40 f41 (b2 m42_0 m42_1) f43 f44 f47 f48 g_13 g_14 f51 (bN 13 q54) (bN 120 q55) (bN 120 q56) f57 (bN 120 q58) f59 f60 f64) := hD
    obtain ⟨k_20, fk_20, ak_20, bk_20, gk_20⟩ := pf_get (i := (g_15 - 1)) (by assumption) (by omega) (by omega)
    refine lv_aload_n hx hb dX9_isOver_40 rfl (lv_at hl 0 rfl) ?_
    refine va_get (D := (dC, dI)) (ci := 9) (v := .ref (ad 49)) (C := RX9) (T := TX9) (N := 67) hx hb hts hiX9 hown hK hP 0 rfl rfl 49 (by decide) v_12 (fun _ h9 => h9) rfl dX9_isOver_41 ?_
    refine lv_bipush (v := 25) hx hb dX9_isOver_44 (by decide) ?_
    refine lv_aload_n hx hb dX9_isOver_46 rfl (lv_at hl 0 rfl) ?_
    refine va_get (D := (dC, dI)) (ci := 9) (v := .int (nI (g_15 - 1))) (C := RX9) (T := TX9) (N := 67) hx hb hts hiX9 hown hK hP 0 rfl rfl 52 (by decide) v_1 (fun _ h9 => h9) rfl dX9_isOver_47 ?_
    refine lv_imul hx hb dX9_isOver_50 ?_
    refine lv_topi (fun y_21 ey_21 => ?_)
    obtain rfl : y_21 = (nI (25 * (g_15 - 1))) := ey_21.trans (pk_mul 25 (g_15 - 1))
    refine lv_aload_n hx hb dX9_isOver_51 rfl (lv_at hl 0 rfl) ?_
    refine va_get (D := (dC, dI)) (ci := 9) (v := .ref (ad 35)) (C := RX9) (T := TX9) (N := 67) hx hb hts hiX9 hown hK hP 0 rfl rfl 35 (by decide) v_2 (fun _ h9 => h9) rfl dX9_isOver_52 ?_
    refine lv_iconst (v := 0) hx hb dX9_isOver_55 (by decide) ?_
    have hFc := pu_free hD hS hA
    refine va_callv (va_runS (As := [.ref (ad 49), .int (nI (25 * (g_15 - 1))), .ref (ad 35), .int 0]) (rest := []) ⟨hx, hb, hml, hown, hts⟩ (c_M_copies_pz l dC dI _ ad ck x0 x16 x18 x19 x20 x21 x22 x23 x24 x25 x26 x27 x28 x29 x30 x33 x45 x46 (g_15 - 1) x53 x61 x62 x63 x65 x66 f1 f2 f3 q4 q5 q6 q7 f8 q9 q10 f11 m12_0 m12_1 m13_0 m13_1 m14_0 m14_1 m15_0 m15_1 f17 q31 f32 f34 g_11 g_12 f37 q38 f39 f40 f41 m42_0 m42_1 f43 f44 f47 f48 g_13 g_14 f51 q54 q55 q56 f57 q58 f59 f60 f64 (25 * (g_15 - 1)) hx16 hx18 hx19 hx21 hx22 hx26 hx28 hx29 hx30 hx33 hx46 (by omega) hx53 hx61 hx62 hx63 hx65 hm12_0 hm12_1 hm13_0 hm13_1 hm14_0 hm14_1 hm15_0 hm15_1 hm42_0 hm42_1 (by omega)) (va_cwS 4 hts g_M_isOver_M_copies_pz rfl rfl rfl (by decide +kernel) ⟨Nat.le_of_ble_eq_true rfl, Nat.le_of_ble_eq_true rfl⟩) ⟨pu_bl, pu_in hP hK hD⟩ rfl rfl hl.1 rfl (lv_room (Nat.le_of_ble_eq_true rfl)) dX9_isOver_56 ⟨Nat.le_of_ble_eq_true rfl, Nat.le_of_ble_eq_true rfl⟩) hS (fun q _ h => hFc q h) hFc (fun u t H1 locs ht hvm hw hB hz1 hk1 hS => ?_)
    obtain ⟨z35_23, ⟨hP1, -, hD1⟩⟩ := hB
    rw [ht] at hP1
    have hP := hP1
    have hD := pu_all hFc hD1
    clear hP1 hD1 hFc
    clear hk1 hz1 ht hvm
    generalize H1 = H at hP hS ⊢
    refine lv_aload_n hx hb dX9_isOver_59 rfl (lv_at hl 0 rfl) ?_
    refine va_get (D := (dC, dI)) (ci := 9) (v := .ref (ad 50)) (C := RX9) (T := TX9) (N := 67) hx hb hts hiX9 hown hK hP 0 rfl rfl 50 (by decide) v_13 (fun _ h9 => h9) rfl dX9_isOver_60 ?_
    refine lv_aload_n hx hb dX9_isOver_63 rfl (lv_at hl 0 rfl) ?_
    refine va_get (D := (dC, dI)) (ci := 9) (v := .int (nI (g_15 - 1))) (C := RX9) (T := TX9) (N := 67) hx hb hts hiX9 hown hK hP 0 rfl rfl 52 (by decide) v_1 (fun _ h9 => h9) rfl dX9_isOver_64 ?_
    refine va_iald hx hb hK hP 33 32 rfl rfl (vp_in_nI (n := (g_15 - 1)) (by omega) (Nat.le_of_ble_eq_true rfl)) dX9_isOver_67 ?_
    refine lv_topi (fun y_24 ey_24 => ?_)
    obtain rfl : y_24 = nI k_20 := ey_24.trans fk_20
    refine lv_aload_n hx hb dX9_isOver_68 rfl (lv_at hl 0 rfl) ?_
    refine va_get (D := (dC, dI)) (ci := 9) (v := .int (nI x53)) (C := RX9) (T := TX9) (N := 67) hx hb hts hiX9 hown hK hP 0 rfl rfl 53 (by decide) v_14 (fun _ h9 => h9) rfl dX9_isOver_69 ?_
    refine lv_icmp_ne (tgt := 77) hx hb dX9_isOver_72 (by decide) (fun c_25 => ?_) (fun c_25 => ?_)
    · have c_25 : ¬ k_20 = x53 := fun z => c_25 ((nI_eq (a := k_20) (b := x53) (by omega) (Nat.lt_of_le_of_lt hx53 (Nat.le_of_ble_eq_true rfl))).mpr z)
      refine lv_aload_n hx hb dX9_isOver_77 rfl (lv_at hl 0 rfl) ?_
      refine lv_aload_n hx hb dX9_isOver_78 rfl (lv_at hl 0 rfl) ?_
      refine va_get (D := (dC, dI)) (ci := 9) (v := .ref (ad 50)) (C := RX9) (T := TX9) (N := 67) hx hb hts hiX9 hown hK hP 0 rfl rfl 50 (by decide) v_13 (fun _ h9 => h9) rfl dX9_isOver_79 ?_
      refine lv_aload_n hx hb dX9_isOver_82 rfl (lv_at hl 0 rfl) ?_
      refine va_get (D := (dC, dI)) (ci := 9) (v := .int (nI (g_15 - 1))) (C := RX9) (T := TX9) (N := 67) hx hb hts hiX9 hown hK hP 0 rfl rfl 52 (by decide) v_1 (fun _ h9 => h9) rfl dX9_isOver_83 ?_
      refine va_iald hx hb hK hP 33 32 rfl rfl (vp_in_nI (n := (g_15 - 1)) (by omega) (Nat.le_of_ble_eq_true rfl)) dX9_isOver_86 ?_
      refine lv_topi (fun y_26 ey_26 => ?_)
      obtain rfl : y_26 = nI k_20 := ey_26.trans fk_20
      have hFc := pu_free hD hS hA
      refine va_calli (va_runV (As := [.int (nI k_20)]) (rest := []) ⟨hx, hb, hml, hown, hts⟩ (c_M_parts l dC dI _ ad ck x0 x16 x18 x19 x20 x21 x22 x23 x24 x25 x26 x27 x28 x29 x30 x33 x45 x46 (g_15 - 1) x53 x61 x62 x63 x65 x66 f1 f2 f3 q4 q5 q6 q7 f8 q9 q10 f11 m12_0 m12_1 m13_0 m13_1 m14_0 m14_1 m15_0 m15_1 f17 q31 f32 f34 z35_23 g_12 f37 q38 f39 f40 f41 m42_0 m42_1 f43 f44 f47 f48 g_13 g_14 f51 q54 q55 q56 f57 q58 f59 f60 f64 k_20 hx16 hx18 hx19 hx21 hx22 hx26 hx28 hx29 hx30 hx33 hx46 (by omega) hx53 hx61 hx62 hx63 hx65 hm12_0 hm12_1 hm13_0 hm13_1 hm14_0 hm14_1 hm15_0 hm15_1 hm42_0 hm42_1 (by omega) (by omega)) (cwV 1 hts g_M_isOver_M_parts rfl rfl rfl (by decide +kernel) ⟨Nat.le_of_ble_eq_true rfl, Nat.le_of_ble_eq_true rfl⟩) ⟨pu_bl, va_recv hK hP (ci := 9) (q0 := 0) rfl rfl, pu_in hP hK hD⟩ rfl rfl hl.1 rfl (lv_room (Nat.le_of_ble_eq_true rfl)) dX9_isOver_87 ⟨Nat.le_of_ble_eq_true rfl, Nat.le_of_ble_eq_true rfl⟩) hS (fun q _ h => hFc q h) hFc (fun r_27 u t H1 locs ht hvm hw hB hz1 hk1 hS => ?_)
      obtain ⟨z35_28, z36_29, z49_30, z50_31, z52_32, ⟨hP1, -, hD1⟩, hz52_32, xr_27_0, xr_27_1⟩ := hB
      rw [ht] at hP1
      have hP := hP1
      have hD := pu_all hFc hD1
      clear hP1 hD1 hFc
      clear hk1 hz1 ht hvm
      generalize H1 = H at hP hS ⊢
      obtain ⟨u_33, hu_33, rfl⟩ := hw
      refine lv_pop hx hb dX9_isOver_90 rfl ?_
      refine lv_goto (tgt := 23) hx hb dX9_isOver_91 (by decide) ?_
      exact ih_17 (wt x53 z50_31 z52_32) (wt_falls (by assumption) (by assumption) (by omega) (by omega) (by omega) (by omega)) _ _ _ ⟨z35_28, z36_29, z49_30, z50_31, z52_32, rfl, hz52_32, by first | assumption | exact pf_refl | exact pf_step (by assumption) (by omega) | exact pf_one | exact pf_app (by assumption) (by assumption) (by omega) (by omega) (by omega) (by omega), hP, hD, hS, lv_sub hl [0] rfl⟩
    · have c_25 : k_20 = x53 := (nI_eq (a := k_20) (b := x53) (by omega) (Nat.lt_of_le_of_lt hx53 (Nat.le_of_ble_eq_true rfl))).mp c_25
      refine lv_iconst (v := 1) hx hb dX9_isOver_75 (by decide) ?_
      exact W.zret (v := 1) (ty := .boolean) hx hb hr (rfl) (fun t ht hW => ⟨⟨1, (), rfl, ⟨1, (Nat.le_of_ble_eq_true rfl), rfl⟩, ⟨z35_23, g_12, g_13, g_14, (g_15 - 1), ⟨by rw [ht]; exact hP, va_K.moved hW.alike hK, hD⟩, (by omega)⟩⟩, hS.F ht⟩) hS.2.2 dX9_isOver_76
theorem dX9_covered_0 : decode cX9_covered 0 = .ok (.aload_n 0, 1) := by decide +kernel
theorem dX9_covered_1 : decode cX9_covered 1 = .ok (.iconst 0, 1) := by decide +kernel
theorem dX9_covered_2 : decode cX9_covered 2 = .ok (.putfield 142, 3) := by decide +kernel
theorem dX9_covered_5 : decode cX9_covered 5 = .ok (.aload_n 0, 1) := by decide +kernel
theorem dX9_covered_6 : decode cX9_covered 6 = .ok (.iload_n 1, 1) := by decide +kernel
theorem dX9_covered_7 : decode cX9_covered 7 = .ok (.invokevirtual 387, 3) := by decide +kernel
theorem dX9_covered_10 : decode cX9_covered 10 = .ok (.ifCond .ne 5, 3) := by decide +kernel
theorem dX9_covered_13 : decode cX9_covered 13 = .ok (.iconst (-1), 1) := by decide +kernel
theorem dX9_covered_14 : decode cX9_covered 14 = .ok (.ireturn, 1) := by decide +kernel
theorem dX9_covered_15 : decode cX9_covered 15 = .ok (.aload_n 0, 1) := by decide +kernel
theorem dX9_covered_16 : decode cX9_covered 16 = .ok (.iconst 0, 1) := by decide +kernel
theorem dX9_covered_17 : decode cX9_covered 17 = .ok (.putfield 411, 3) := by decide +kernel
theorem dX9_covered_20 : decode cX9_covered 20 = .ok (.iconst 0, 1) := by decide +kernel
theorem dX9_covered_21 : decode cX9_covered 21 = .ok (.istore_n 2, 1) := by decide +kernel
theorem dX9_covered_22 : decode cX9_covered 22 = .ok (.iload_n 2, 1) := by decide +kernel
theorem dX9_covered_23 : decode cX9_covered 23 = .ok (.aload_n 0, 1) := by decide +kernel
theorem dX9_covered_24 : decode cX9_covered 24 = .ok (.getfield 92, 3) := by decide +kernel
theorem dX9_covered_27 : decode cX9_covered 27 = .ok (.iconst 0, 1) := by decide +kernel
theorem dX9_covered_28 : decode cX9_covered 28 = .ok (.iaload, 1) := by decide +kernel
theorem dX9_covered_29 : decode cX9_covered 29 = .ok (.if_icmp .ge 61, 3) := by decide +kernel
theorem dX9_covered_32 : decode cX9_covered 32 = .ok (.iload_n 2, 1) := by decide +kernel
theorem dX9_covered_33 : decode cX9_covered 33 = .ok (.iload_n 1, 1) := by decide +kernel
theorem dX9_covered_34 : decode cX9_covered 34 = .ok (.if_icmp .eq 50, 3) := by decide +kernel
theorem dX9_covered_37 : decode cX9_covered 37 = .ok (.aload_n 0, 1) := by decide +kernel
theorem dX9_covered_38 : decode cX9_covered 38 = .ok (.getfield 80, 3) := by decide +kernel
theorem dX9_covered_41 : decode cX9_covered 41 = .ok (.iload_n 2, 1) := by decide +kernel
theorem dX9_covered_42 : decode cX9_covered 42 = .ok (.iaload, 1) := by decide +kernel
theorem dX9_covered_43 : decode cX9_covered 43 = .ok (.aload_n 0, 1) := by decide +kernel
theorem dX9_covered_44 : decode cX9_covered 44 = .ok (.getfield 80, 3) := by decide +kernel
theorem dX9_covered_47 : decode cX9_covered 47 = .ok (.iload_n 1, 1) := by decide +kernel
theorem dX9_covered_48 : decode cX9_covered 48 = .ok (.iaload, 1) := by decide +kernel
theorem dX9_covered_49 : decode cX9_covered 49 = .ok (.if_icmp .ne 35, 3) := by decide +kernel
theorem dX9_covered_52 : decode cX9_covered 52 = .ok (.aload_n 0, 1) := by decide +kernel
theorem dX9_covered_53 : decode cX9_covered 53 = .ok (.getfield 68, 3) := by decide +kernel
theorem dX9_covered_56 : decode cX9_covered 56 = .ok (.bipush 25, 2) := by decide +kernel
theorem dX9_covered_58 : decode cX9_covered 58 = .ok (.iload_n 2, 1) := by decide +kernel
theorem dX9_covered_59 : decode cX9_covered 59 = .ok (.imul, 1) := by decide +kernel
theorem dX9_covered_60 : decode cX9_covered 60 = .ok (.aload_n 0, 1) := by decide +kernel
theorem dX9_covered_61 : decode cX9_covered 61 = .ok (.getfield 115, 3) := by decide +kernel
theorem dX9_covered_64 : decode cX9_covered 64 = .ok (.bipush 25, 2) := by decide +kernel
theorem dX9_covered_66 : decode cX9_covered 66 = .ok (.aload_n 0, 1) := by decide +kernel
theorem dX9_covered_67 : decode cX9_covered 67 = .ok (.getfield 411, 3) := by decide +kernel
theorem dX9_covered_70 : decode cX9_covered 70 = .ok (.imul, 1) := by decide +kernel
theorem dX9_covered_71 : decode cX9_covered 71 = .ok (.invokestatic 362, 3) := by decide +kernel
theorem dX9_covered_74 : decode cX9_covered 74 = .ok (.aload_n 0, 1) := by decide +kernel
theorem dX9_covered_75 : decode cX9_covered 75 = .ok (.dup, 1) := by decide +kernel
theorem dX9_covered_76 : decode cX9_covered 76 = .ok (.getfield 411, 3) := by decide +kernel
theorem dX9_covered_79 : decode cX9_covered 79 = .ok (.iconst 1, 1) := by decide +kernel
theorem dX9_covered_80 : decode cX9_covered 80 = .ok (.iadd, 1) := by decide +kernel
theorem dX9_covered_81 : decode cX9_covered 81 = .ok (.putfield 411, 3) := by decide +kernel
theorem dX9_covered_84 : decode cX9_covered 84 = .ok (.iinc 2 1, 3) := by decide +kernel
theorem dX9_covered_87 : decode cX9_covered 87 = .ok (.goto (-65), 3) := by decide +kernel
theorem dX9_covered_90 : decode cX9_covered 90 = .ok (.aload_n 0, 1) := by decide +kernel
theorem dX9_covered_91 : decode cX9_covered 91 = .ok (.getfield 68, 3) := by decide +kernel
theorem dX9_covered_94 : decode cX9_covered 94 = .ok (.bipush 25, 2) := by decide +kernel
theorem dX9_covered_96 : decode cX9_covered 96 = .ok (.iload_n 1, 1) := by decide +kernel
theorem dX9_covered_97 : decode cX9_covered 97 = .ok (.imul, 1) := by decide +kernel
theorem dX9_covered_98 : decode cX9_covered 98 = .ok (.aload_n 0, 1) := by decide +kernel
theorem dX9_covered_99 : decode cX9_covered 99 = .ok (.getfield 71, 3) := by decide +kernel
theorem dX9_covered_102 : decode cX9_covered 102 = .ok (.iconst 0, 1) := by decide +kernel
theorem dX9_covered_103 : decode cX9_covered 103 = .ok (.invokestatic 362, 3) := by decide +kernel
theorem dX9_covered_106 : decode cX9_covered 106 = .ok (.aload_n 0, 1) := by decide +kernel
theorem dX9_covered_107 : decode cX9_covered 107 = .ok (.invokevirtual 417, 3) := by decide +kernel
theorem dX9_covered_110 : decode cX9_covered 110 = .ok (.ifCond .eq 7, 3) := by decide +kernel
theorem dX9_covered_113 : decode cX9_covered 113 = .ok (.iconst 0, 1) := by decide +kernel
theorem dX9_covered_114 : decode cX9_covered 114 = .ok (.goto 4, 3) := by decide +kernel
theorem dX9_covered_117 : decode cX9_covered 117 = .ok (.iconst 1, 1) := by decide +kernel
theorem dX9_covered_118 : decode cX9_covered 118 = .ok (.ireturn, 1) := by decide +kernel
abbrev vs_M_covered : List Cond := .code yX9_covered cX9_covered 3 (some .int) :: VM
theorem g_M_covered_M_isState : GoodIn vs_M_covered (wsV RX9 387 RX9 yX9_isState vs_M_isState) := gm_V vm_279 vm_280 vm_281 vm_12 vm_276
theorem g_M_covered_M_copies_nz : GoodIn vs_M_covered (va_wsS RX9 362 yX9_copies vs_M_copies_nz) := gm_S vm_250 vm_251 vm_12 vm_8
theorem g_M_covered_M_isOver : GoodIn vs_M_covered (wsV RX9 417 RX9 yX9_isOver vs_M_isOver) := gm_V vm_313 vm_314 vm_315 vm_12 vm_307
theorem g_M_covered_M_copies_nc : GoodIn vs_M_covered (va_wsS RX9 362 yX9_copies vs_M_copies_nc) := gm_S vm_250 vm_251 vm_12 vm_8
set_option maxHeartbeats 4000000 in
set_option maxRecDepth 100000 in
theorem c_M_covered (l : Launch) (dC : Nat → ClassId) (dI : Nat → Nat → Nat) (sz : Nat) (ad : Nat → Nat) (ck : Nat → ClassId) (x0 : Int32) (x16 : Nat) (x18 : Nat) (x19 : Nat) (x20 : Int32) (x21 : Nat) (x22 : Nat) (x23 : Int32) (x24 : Int32) (x25 : Int32) (x26 : Nat) (x27 : Int32) (x28 : Nat) (x29 : Nat) (x30 : Nat) (x33 : Nat) (x45 : Int32) (x46 : Nat) (x52 : Nat) (x53 : Nat) (x61 : Nat) (x62 : Nat) (x63 : Nat) (x65 : Nat) (x66 : Int32) (f1 : Nat → Int32) (f2 : Nat → Int32) (f3 : Nat → Int32) (q4 : Nat → Nat) (q5 : Nat → Nat) (q6 : Nat → Nat) (q7 : Nat → Nat) (f8 : Nat → Int32) (q9 : Nat → Nat) (q10 : Nat → Nat) (f11 : Nat → Int32) (m12_0 m12_1 : Nat) (m13_0 m13_1 : Nat) (m14_0 m14_1 : Nat) (m15_0 m15_1 : Nat) (f17 : Nat → Int32) (q31 : Nat → Nat) (f32 : Nat → Int32) (f34 : Nat → Int32) (f35 : Nat → Int32) (f36 : Nat → Int32) (f37 : Nat → Int32) (q38 : Nat → Nat) (f39 : Nat → Int32) (f40 : Nat → Int32) (f41 : Nat → Int32) (m42_0 m42_1 : Nat) (f43 : Nat → Int32) (f44 : Nat → Int32) (f47 : Nat → Int32) (f48 : Nat → Int32) (f49 : Nat → Int32) (f50 : Nat → Int32) (f51 : Nat → Int32) (q54 : Nat → Nat) (q55 : Nat → Nat) (q56 : Nat → Nat) (f57 : Nat → Int32) (q58 : Nat → Nat) (f59 : Nat → Int32) (f60 : Nat → Int32) (f64 : Nat → Int32) (p0 : Int32) (hx16 : x16 ≤ 1) (hx18 : x18 ≤ 900) (hx19 : x19 ≤ 900) (hx21 : x21 ≤ 900) (hx22 : x22 ≤ 4) (hx26 : x26 ≤ 6) (hx28 : x28 ≤ 1) (hx29 : x29 ≤ 1) (hx30 : x30 ≤ 1) (hx33 : x33 ≤ 20) (hx46 : x46 ≤ 5) (hx52 : x52 ≤ 2400) (hx53 : x53 ≤ 119) (hx61 : x61 ≤ 119) (hx62 : x62 ≤ 2000) (hx63 : x63 ≤ 1) (hx65 : x65 ≤ 7) (hm12_0 : m12_0 ≤ 3) (hm12_1 : m12_1 ≤ 3) (hm13_0 : m13_0 ≤ 8) (hm13_1 : m13_1 ≤ 8) (hm14_0 : m14_0 ≤ 14) (hm14_1 : m14_1 ≤ 14) (hm15_0 : m15_0 ≤ 8) (hm15_1 : m15_1 ≤ 8) (hm42_0 : m42_0 ≤ 120) (hm42_1 : m42_1 ≤ 400) : Met l yX9_covered vs_M_covered ({ frames := 4, cells := 0, slots := 0, locals := 89 }) (va_Pc [.ref (ad 0), .int p0] (pu_B (dC, dI) (mo_w ad ck x0 (nI x16) (nI x18) (nI x19) x20 (nI x21) (nI x22) x23 x24 x25 (nI x26) x27 (nI x28) (nI x29) (nI x30) (nI x33) x45 (nI x46) (nI x52) (nI x53) (nI x61) (nI x62) (nI x63) (nI x65) x66 f1 f2 f3 (bN 3 q4) (bN 7 q5) (bN 7 q6) (bN 4 q7) f8 (bN 2 q9) (bH q10) f11 (b2 m12_0 m12_1) (b2 m13_0 m13_1) (b2 m14_0 m14_1) (b2m m15_0 m15_1) f17 (bA 159 q31) f32 f34 f35 f36 f37 (bN 7 q38) f39 f40 f41 (b2 m42_0 m42_1) f43 f44 f47 f48 f49 f50 f51 (bN 13 q54) (bN 120 q55) (bN 120 q56) f57 (bN 120 q58) f59 f60 f64) (mo_t ck) sz)) (va_Qi (fun (r : Int32) (_ : Unit) => True) (fun _ t => ∃ (z35 : Nat → Int32) (z36 : Nat → Int32) (z49 : Nat → Int32) (z50 : Nat → Int32) (z51 : Nat → Int32) (z0 : Int32) (z46 : Nat) (z52 : Nat) (z53 : Nat), pu_E (dC, dI) (mo_w ad ck z0 (nI x16) (nI x18) (nI x19) x20 (nI x21) (nI x22) x23 x24 x25 (nI x26) x27 (nI x28) (nI x29) (nI x30) (nI x33) x45 (nI z46) (nI z52) (nI z53) (nI x61) (nI x62) (nI x63) (nI x65) x66 f1 f2 f3 (bN 3 q4) (bN 7 q5) (bN 7 q6) (bN 4 q7) f8 (bN 2 q9) (bH q10) f11 (b2 m12_0 m12_1) (b2 m13_0 m13_1) (b2 m14_0 m14_1) (b2m m15_0 m15_1) f17 (bA 159 q31) f32 f34 z35 z36 f37 (bN 7 q38) f39 f40 f41 (b2 m42_0 m42_1) f43 f44 f47 f48 z49 z50 z51 (bN 13 q54) (bN 120 q55) (bN 120 q56) f57 (bN 120 q58) f59 f60 f64) (mo_t ck) (va_A ((mo_w ad ck x0 (nI x16) (nI x18) (nI x19) x20 (nI x21) (nI x22) x23 x24 x25 (nI x26) x27 (nI x28) (nI x29) (nI x30) (nI x33) x45 (nI x46) (nI x52) (nI x53) (nI x61) (nI x62) (nI x63) (nI x65) x66 f1 f2 f3 (bN 3 q4) (bN 7 q5) (bN 7 q6) (bN 4 q7) f8 (bN 2 q9) (bH q10) f11 (b2 m12_0 m12_1) (b2 m13_0 m13_1) (b2 m14_0 m14_1) (b2m m15_0 m15_1) f17 (bA 159 q31) f32 f34 f35 f36 f37 (bN 7 q38) f39 f40 f41 (b2 m42_0 m42_1) f43 f44 f47 f48 f49 f50 f51 (bN 13 q54) (bN 120 q55) (bN 120 q56) f57 (bN 120 q58) f59 f60 f64)) sz) t ∧ (z46 ≤ 5) ∧ (z52 ≤ 2400) ∧ (z53 ≤ 119)) (va_A ((mo_w ad ck x0 (nI x16) (nI x18) (nI x19) x20 (nI x21) (nI x22) x23 x24 x25 (nI x26) x27 (nI x28) (nI x29) (nI x30) (nI x33) x45 (nI x46) (nI x52) (nI x53) (nI x61) (nI x62) (nI x63) (nI x65) x66 f1 f2 f3 (bN 3 q4) (bN 7 q5) (bN 7 q6) (bN 4 q7) f8 (bN 2 q9) (bH q10) f11 (b2 m12_0 m12_1) (b2 m13_0 m13_1) (b2 m14_0 m14_1) (b2m m15_0 m15_1) f17 (bA 159 q31) f32 f34 f35 f36 f37 (bN 7 q38) f39 f40 f41 (b2 m42_0 m42_1) f43 f44 f47 f48 f49 f50 f51 (bN 13 q54) (bN 120 q55) (bN 120 q56) f57 (bN 120 q58) f59 f60 f64)) sz)) 0 0 (va_A ((mo_w ad ck x0 (nI x16) (nI x18) (nI x19) x20 (nI x21) (nI x22) x23 x24 x25 (nI x26) x27 (nI x28) (nI x29) (nI x30) (nI x33) x45 (nI x46) (nI x52) (nI x53) (nI x61) (nI x62) (nI x63) (nI x65) x66 f1 f2 f3 (bN 3 q4) (bN 7 q5) (bN 7 q6) (bN 4 q7) f8 (bN 2 q9) (bH q10) f11 (b2 m12_0 m12_1) (b2 m13_0 m13_1) (b2 m14_0 m14_1) (b2m m15_0 m15_1) f17 (bA 159 q31) f32 f34 f35 f36 f37 (bN 7 q38) f39 f40 f41 (b2 m42_0 m42_1) f43 f44 f47 f48 f49 f50 f51 (bN 13 q54) (bN 120 q55) (bN 120 q56) f57 (bN 120 q58) f59 f60 f64)) sz) := by
  refine Met.ofW (cc := cX9_covered) (maxL := 3) (ret := (some .int)) (by decide) rfl ?_
  intro p e s m args below meth c s₁ B hml hv
  obtain ⟨rfl, rfl, hP, hK, hD0⟩ := hv
  have hx := B.exec
  have hb := B.bytes
  have hr := B.returns
  have hts := atoms_spec (ws := vs_M_covered) B.pre
  have v_1 := hts (.fieldLink RX9 142 "ClockReachModel" "thrown" "I") (List.mem_cons_of_mem _ vm_24)
  have v_7 := hts (.fieldLink RX9 411 "ClockReachModel" "coverMany" "I") (List.mem_cons_of_mem _ vm_308)
  have v_8 := hts (.fieldLink RX9 92 "ClockReachModel" "stateMany" "[I") (List.mem_cons_of_mem _ vm_177)
  have v_9 := hts (.fieldLink RX9 68 "ClockReachModel" "zone" "[I") (List.mem_cons_of_mem _ vm_232)
  have v_10 := hts (.fieldLink RX9 71 "ClockReachModel" "z" "[I") (List.mem_cons_of_mem _ vm_234)
  have v_18 := hts (.fieldLink RX9 80 "ClockReachModel" "statePlace" "[I") (List.mem_cons_of_mem _ vm_240)
  have v_19 := hts (.fieldLink RX9 115 "ClockReachModel" "covers" "[I") (List.mem_cons_of_mem _ vm_303)
  have hown : s.vm.findClass RX9 = some m.cls := findClass_of_methodNamed B.named
  have hlocks := B.notSynchronized
  have hiX9 : ∀ w ∈ wsX90, w ∈ vs_M_covered := fun _ h => List.mem_cons_of_mem _ (List.mem_append_right _ h)
  have hD := hD0.self (sz := s.heap.size)
  generalize hAe : va_A ((mo_w ad ck x0 (nI x16) (nI x18) (nI x19) x20 (nI x21) (nI x22) x23 x24 x25 (nI x26) x27 (nI x28) (nI x29) (nI x30) (nI x33) x45 (nI x46) (nI x52) (nI x53) (nI x61) (nI x62) (nI x63) (nI x65) x66 f1 f2 f3 (bN 3 q4) (bN 7 q5) (bN 7 q6) (bN 4 q7) f8 (bN 2 q9) (bH q10) f11 (b2 m12_0 m12_1) (b2 m13_0 m13_1) (b2 m14_0 m14_1) (b2m m15_0 m15_1) f17 (bA 159 q31) f32 f34 f35 f36 f37 (bN 7 q38) f39 f40 f41 (b2 m42_0 m42_1) f43 f44 f47 f48 f49 f50 f51 (bN 13 q54) (bN 120 q55) (bN 120 q56) f57 (bN 120 q58) f59 f60 f64)) s.heap.size = A at hD ⊢
  have hA : ∀ q : Nat, s.heap.size ≤ q → A q := fun q h => by rw [← hAe]; exact Or.inr h
  have hS : va_S A s.heap s.heap [] := va_S.rf
  have hl := lv_entry ([.ref (ad 0), .int p0]) (n := 3) (Nat.le_of_ble_eq_true rfl)
  rw [lg_entry_eq]
  generalize (lg_sl ([.ref (ad 0), .int p0]) ++ List.replicate (3 - (lg_sl ([.ref (ad 0), .int p0])).length) Slot.unset).toArray = ls at hl ⊢
  have hl : lv_has ls 3 [(0, .ref (ad 0)), (1, .int p0)] := hl
  refine lv_aload_n hx hb dX9_covered_0 rfl (lv_at hl 0 rfl) ?_
  refine lv_iconst (v := 0) hx hb dX9_covered_1 (by decide) ?_
  refine va_put (D := (dC, dI)) (ci := 9) (v := .int 0) (ty := .int) (C := RX9) (T := TX9) (N := 67) hx hb hts hiX9 tyX9 tyX9_ok nmX9 hown hK hP hD hS 0 rfl rfl 0 (by decide) v_1 (fun _ h9 => h9) rfl (by decide +kernel) rfl rfl (Nat.le_of_ble_eq_true rfl) dX9_covered_2 (fun H locs hP hD hS => ?_)
  have hP : va_P (dC, dI) vwCl (mo_w ad ck 0 (nI x16) (nI x18) (nI x19) x20 (nI x21) (nI x22) x23 x24 x25 (nI x26) x27 (nI x28) (nI x29) (nI x30) (nI x33) x45 (nI x46) (nI x52) (nI x53) (nI x61) (nI x62) (nI x63) (nI x65) x66 f1 f2 f3 (bN 3 q4) (bN 7 q5) (bN 7 q6) (bN 4 q7) f8 (bN 2 q9) (bH q10) f11 (b2 m12_0 m12_1) (b2 m13_0 m13_1) (b2 m14_0 m14_1) (b2m m15_0 m15_1) f17 (bA 159 q31) f32 f34 f35 f36 f37 (bN 7 q38) f39 f40 f41 (b2 m42_0 m42_1) f43 f44 f47 f48 f49 f50 f51 (bN 13 q54) (bN 120 q55) (bN 120 q56) f57 (bN 120 q58) f59 f60 f64) H := hP
  have hD : va_D A (mo_w ad ck 0 (nI x16) (nI x18) (nI x19) x20 (nI x21) (nI x22) x23 x24 x25 (nI x26) x27 (nI x28) (nI x29) (nI x30) (nI x33) x45 (nI x46) (nI x52) (nI x53) (nI x61) (nI x62) (nI x63) (nI x65) x66 f1 f2 f3 (bN 3 q4) (bN 7 q5) (bN 7 q6) (bN 4 q7) f8 (bN 2 q9) (bH q10) f11 (b2 m12_0 m12_1) (b2 m13_0 m13_1) (b2 m14_0 m14_1) (b2m m15_0 m15_1) f17 (bA 159 q31) f32 f34 f35 f36 f37 (bN 7 q38) f39 f40 f41 (b2 m42_0 m42_1) f43 f44 f47 f48 f49 f50 f51 (bN 13 q54) (bN 120 q55) (bN 120 q56) f57 (bN 120 q58) f59 f60 f64) := hD
  refine lv_aload_n hx hb dX9_covered_5 rfl (lv_at hl 0 rfl) ?_
  refine lv_iload_n hx hb dX9_covered_6 rfl (lv_at hl 1 rfl) ?_
  have hFc := pu_free hD hS hA
  refine va_calli (va_runV (As := [.int p0]) (rest := []) ⟨hx, hb, hml, hown, hts⟩ (c_M_isState l dC dI _ ad ck 0 x16 x18 x19 x20 x21 x22 x23 x24 x25 x26 x27 x28 x29 x30 x33 x45 x46 x52 x53 x61 x62 x63 x65 x66 f1 f2 f3 q4 q5 q6 q7 f8 q9 q10 f11 m12_0 m12_1 m13_0 m13_1 m14_0 m14_1 m15_0 m15_1 f17 q31 f32 f34 f35 f36 f37 q38 f39 f40 f41 m42_0 m42_1 f43 f44 f47 f48 f49 f50 f51 q54 q55 q56 f57 q58 f59 f60 f64 p0 hx16 hx18 hx19 hx21 hx22 hx26 hx28 hx29 hx30 hx33 hx46 hx52 hx53 hx61 hx62 hx63 hx65 hm12_0 hm12_1 hm13_0 hm13_1 hm14_0 hm14_1 hm15_0 hm15_1 hm42_0 hm42_1) (cwV 1 hts g_M_covered_M_isState rfl rfl rfl (by decide +kernel) ⟨Nat.le_of_ble_eq_true rfl, Nat.le_of_ble_eq_true rfl⟩) ⟨pu_bl, va_recv hK hP (ci := 9) (q0 := 0) rfl rfl, pu_in hP hK hD⟩ rfl rfl hl.1 rfl (lv_room (Nat.le_of_ble_eq_true rfl)) dX9_covered_7 ⟨Nat.le_of_ble_eq_true rfl, Nat.le_of_ble_eq_true rfl⟩) hS (fun q _ h => hFc q h) hFc (fun r_1 u t H1 locs ht hvm hw hB hz1 hk1 hS => ?_)
  obtain ⟨z46_2, ⟨hP1, -, hD1⟩, hz46_2⟩ := hB
  rw [ht] at hP1
  have hP := hP1
  have hD := pu_all hFc hD1
  clear hP1 hD1 hFc
  clear hk1 hz1 ht hvm
  generalize H1 = H at hP hS ⊢
  rcases hw with ⟨rfl, hw⟩ | rfl
  · obtain ⟨n_3, hn_3, rfl⟩ := hw
    refine lv_if_ne (tgt := 15) hx hb dX9_covered_10 (by decide) (fun _ => ?_) (fun z => absurd z (by decide))
    refine lv_aload_n hx hb dX9_covered_15 rfl (lv_at hl 0 rfl) ?_
    refine lv_iconst (v := 0) hx hb dX9_covered_16 (by decide) ?_
    refine va_put (D := (dC, dI)) (ci := 9) (v := .int 0) (ty := .int) (C := RX9) (T := TX9) (N := 67) hx hb hts hiX9 tyX9 tyX9_ok nmX9 hown hK hP hD hS 0 rfl rfl 53 (by decide) v_7 (fun _ h9 => h9) rfl (by decide +kernel) rfl rfl (Nat.le_of_ble_eq_true rfl) dX9_covered_17 (fun H locs hP hD hS => ?_)
    have hP : va_P (dC, dI) vwCl (mo_w ad ck 0 (nI x16) (nI x18) (nI x19) x20 (nI x21) (nI x22) x23 x24 x25 (nI x26) x27 (nI x28) (nI x29) (nI x30) (nI x33) x45 (nI z46_2) (nI x52) 0 (nI x61) (nI x62) (nI x63) (nI x65) x66 f1 f2 f3 (bN 3 q4) (bN 7 q5) (bN 7 q6) (bN 4 q7) f8 (bN 2 q9) (bH q10) f11 (b2 m12_0 m12_1) (b2 m13_0 m13_1) (b2 m14_0 m14_1) (b2m m15_0 m15_1) f17 (bA 159 q31) f32 f34 f35 f36 f37 (bN 7 q38) f39 f40 f41 (b2 m42_0 m42_1) f43 f44 f47 f48 f49 f50 f51 (bN 13 q54) (bN 120 q55) (bN 120 q56) f57 (bN 120 q58) f59 f60 f64) H := hP
    have hD : va_D A (mo_w ad ck 0 (nI x16) (nI x18) (nI x19) x20 (nI x21) (nI x22) x23 x24 x25 (nI x26) x27 (nI x28) (nI x29) (nI x30) (nI x33) x45 (nI z46_2) (nI x52) 0 (nI x61) (nI x62) (nI x63) (nI x65) x66 f1 f2 f3 (bN 3 q4) (bN 7 q5) (bN 7 q6) (bN 4 q7) f8 (bN 2 q9) (bH q10) f11 (b2 m12_0 m12_1) (b2 m13_0 m13_1) (b2 m14_0 m14_1) (b2m m15_0 m15_1) f17 (bA 159 q31) f32 f34 f35 f36 f37 (bN 7 q38) f39 f40 f41 (b2 m42_0 m42_1) f43 f44 f47 f48 f49 f50 f51 (bN 13 q54) (bN 120 q55) (bN 120 q56) f57 (bN 120 q58) f59 f60 f64) := hD
    refine lv_iconst (v := 0) hx hb dX9_covered_20 (by decide) ?_
    refine lv_istore_n (lv' := [(2, .int 0), (0, .ref (ad 0)), (1, .int (nI n_3))]) hx hb dX9_covered_21 rfl hl (by decide) rfl (fun ls hl => ?_)
    refine pu_while (fun nn H locs ls => ∃ (g_8 : Nat → Int32) (g_9 : Nat) (g_10 : Nat), nn = 120 - g_10 ∧ g_9 ≤ 119 ∧ g_10 ≤ 120 ∧ ((g_10 ≤ n_3 ∧ g_9 ≤ g_10) ∨ (n_3 < g_10 ∧ g_9 + 1 ≤ g_10)) ∧ va_P (dC, dI) vwCl (mo_w ad ck 0 (nI x16) (nI x18) (nI x19) x20 (nI x21) (nI x22) x23 x24 x25 (nI x26) x27 (nI x28) (nI x29) (nI x30) (nI x33) x45 (nI z46_2) (nI x52) (nI g_9) (nI x61) (nI x62) (nI x63) (nI x65) x66 f1 f2 f3 (bN 3 q4) (bN 7 q5) (bN 7 q6) (bN 4 q7) f8 (bN 2 q9) (bH q10) f11 (b2 m12_0 m12_1) (b2 m13_0 m13_1) (b2 m14_0 m14_1) (b2m m15_0 m15_1) f17 (bA 159 q31) f32 f34 f35 f36 f37 (bN 7 q38) f39 f40 f41 (b2 m42_0 m42_1) f43 f44 f47 f48 f49 f50 g_8 (bN 13 q54) (bN 120 q55) (bN 120 q56) f57 (bN 120 q58) f59 f60 f64) H ∧ va_D A (mo_w ad ck 0 (nI x16) (nI x18) (nI x19) x20 (nI x21) (nI x22) x23 x24 x25 (nI x26) x27 (nI x28) (nI x29) (nI x30) (nI x33) x45 (nI z46_2) (nI x52) (nI g_9) (nI x61) (nI x62) (nI x63) (nI x65) x66 f1 f2 f3 (bN 3 q4) (bN 7 q5) (bN 7 q6) (bN 4 q7) f8 (bN 2 q9) (bH q10) f11 (b2 m12_0 m12_1) (b2 m13_0 m13_1) (b2 m14_0 m14_1) (b2m m15_0 m15_1) f17 (bA 159 q31) f32 f34 f35 f36 f37 (bN 7 q38) f39 f40 f41 (b2 m42_0 m42_1) f43 f44 f47 f48 f49 f50 g_8 (bN 13 q54) (bN 120 q55) (bN 120 q56) f57 (bN 120 q58) f59 f60 f64) ∧ va_S A s.heap H locs ∧ lv_has ls 3 [(0, .ref (ad 0)), (1, .int (nI n_3)), (2, .int (nI g_10))]) 22 ?_ _ _ _ _ ⟨f51, 0, 0, rfl, (Nat.le_of_ble_eq_true rfl), (Nat.le_of_ble_eq_true rfl), by omega, hP, hD, hS, lv_sub hl [1, 2, 0] rfl⟩
    rintro nn ih_12 H locs ls ⟨g_8, g_9, g_10, rfl, hg_9, hg_10, he_11, hP, hD, hS, hl⟩
    refine lv_iload_n hx hb dX9_covered_22 rfl (lv_at hl 2 rfl) ?_
    refine lv_aload_n hx hb dX9_covered_23 rfl (lv_at hl 0 rfl) ?_
    refine va_get (D := (dC, dI)) (ci := 9) (v := .ref (ad 42)) (C := RX9) (T := TX9) (N := 67) hx hb hts hiX9 hown hK hP 0 rfl rfl 42 (by decide) v_8 (fun _ h9 => h9) rfl dX9_covered_24 ?_
    refine lv_iconst (v := 0) hx hb dX9_covered_27 (by decide) ?_
    refine va_iald hx hb hK hP 27 26 rfl rfl (vp_in_nI (n := 0) (Nat.le_of_ble_eq_true rfl) (Nat.le_of_ble_eq_true rfl)) dX9_covered_28 ?_
    refine lv_topi (fun y_13 ey_13 => ?_)
    have qy_13 := ey_13.trans b2_0
    clear ey_13
    obtain rfl : y_13 = nI m42_0 := qy_13
    refine lv_icmp_ge (tgt := 90) hx hb dX9_covered_29 (by decide) (fun c_14 => ?_) (fun c_14 => ?_)
    · have c_14 : m42_0 ≤ g_10 := (nI_leI (a := m42_0) (b := g_10) (Nat.lt_of_le_of_lt hm42_0 (Nat.le_of_ble_eq_true rfl)) (Nat.lt_of_le_of_lt hg_10 (Nat.le_of_ble_eq_true rfl))).mp c_14
      refine lv_aload_n hx hb dX9_covered_90 rfl (lv_at hl 0 rfl) ?_
      refine va_get (D := (dC, dI)) (ci := 9) (v := .ref (ad 34)) (C := RX9) (T := TX9) (N := 67) hx hb hts hiX9 hown hK hP 0 rfl rfl 34 (by decide) v_9 (fun _ h9 => h9) rfl dX9_covered_91 ?_
      refine lv_bipush (v := 25) hx hb dX9_covered_94 (by decide) ?_
      refine lv_iload_n hx hb dX9_covered_96 rfl (lv_at hl 1 rfl) ?_
      refine lv_imul hx hb dX9_covered_97 ?_
      refine lv_topi (fun y_15 ey_15 => ?_)
      obtain rfl : y_15 = (nI (25 * n_3)) := ey_15.trans (pk_mul 25 n_3)
      refine lv_aload_n hx hb dX9_covered_98 rfl (lv_at hl 0 rfl) ?_
      refine va_get (D := (dC, dI)) (ci := 9) (v := .ref (ad 35)) (C := RX9) (T := TX9) (N := 67) hx hb hts hiX9 hown hK hP 0 rfl rfl 35 (by decide) v_10 (fun _ h9 => h9) rfl dX9_covered_99 ?_
      refine lv_iconst (v := 0) hx hb dX9_covered_102 (by decide) ?_
      have hFc := pu_free hD hS hA
      refine va_callv (va_runS (As := [.ref (ad 34), .int (nI (25 * n_3)), .ref (ad 35), .int 0]) (rest := []) ⟨hx, hb, hml, hown, hts⟩ (c_M_copies_nz l dC dI _ ad ck 0 x16 x18 x19 x20 x21 x22 x23 x24 x25 x26 x27 x28 x29 x30 x33 x45 z46_2 x52 g_9 x61 x62 x63 x65 x66 f1 f2 f3 q4 q5 q6 q7 f8 q9 q10 f11 m12_0 m12_1 m13_0 m13_1 m14_0 m14_1 m15_0 m15_1 f17 q31 f32 f34 f35 f36 f37 q38 f39 f40 f41 m42_0 m42_1 f43 f44 f47 f48 f49 f50 g_8 q54 q55 q56 f57 q58 f59 f60 f64 (25 * n_3) hx16 hx18 hx19 hx21 hx22 hx26 hx28 hx29 hx30 hx33 (Nat.le_trans hz46_2 (Nat.le_of_ble_eq_true rfl)) hx52 hg_9 hx61 hx62 hx63 hx65 hm12_0 hm12_1 hm13_0 hm13_1 hm14_0 hm14_1 hm15_0 hm15_1 hm42_0 hm42_1 (by omega)) (va_cwS 4 hts g_M_covered_M_copies_nz rfl rfl rfl (by decide +kernel) ⟨Nat.le_of_ble_eq_true rfl, Nat.le_of_ble_eq_true rfl⟩) ⟨pu_bl, pu_in hP hK hD⟩ rfl rfl hl.1 rfl (lv_room (Nat.le_of_ble_eq_true rfl)) dX9_covered_103 ⟨Nat.le_of_ble_eq_true rfl, Nat.le_of_ble_eq_true rfl⟩) hS (fun q _ h => hFc q h) hFc (fun u t H1 locs ht hvm hw hB hz1 hk1 hS => ?_)
      obtain ⟨z35_17, ⟨hP1, -, hD1⟩⟩ := hB
      rw [ht] at hP1
      have hP := hP1
      have hD := pu_all hFc hD1
      clear hP1 hD1 hFc
      clear hk1 hz1 ht hvm
      generalize H1 = H at hP hS ⊢
      refine lv_aload_n hx hb dX9_covered_106 rfl (lv_at hl 0 rfl) ?_
      have hFc := pu_free hD hS hA
      refine va_calli (va_runV (As := []) (rest := []) ⟨hx, hb, hml, hown, hts⟩ (c_M_isOver l dC dI _ ad ck 0 x16 x18 x19 x20 x21 x22 x23 x24 x25 x26 x27 x28 x29 x30 x33 x45 z46_2 x52 g_9 x61 x62 x63 x65 x66 f1 f2 f3 q4 q5 q6 q7 f8 q9 q10 f11 m12_0 m12_1 m13_0 m13_1 m14_0 m14_1 m15_0 m15_1 f17 q31 f32 f34 z35_17 f36 f37 q38 f39 f40 f41 m42_0 m42_1 f43 f44 f47 f48 f49 f50 g_8 q54 q55 q56 f57 q58 f59 f60 f64 hx16 hx18 hx19 hx21 hx22 hx26 hx28 hx29 hx30 hx33 (Nat.le_trans hz46_2 (Nat.le_of_ble_eq_true rfl)) hx52 hg_9 hx61 hx62 hx63 hx65 hm12_0 hm12_1 hm13_0 hm13_1 hm14_0 hm14_1 hm15_0 hm15_1 hm42_0 hm42_1) (cwV 0 hts g_M_covered_M_isOver rfl rfl rfl (by decide +kernel) ⟨Nat.le_of_ble_eq_true rfl, Nat.le_of_ble_eq_true rfl⟩) ⟨pu_bl, va_recv hK hP (ci := 9) (q0 := 0) rfl rfl, pu_in hP hK hD⟩ rfl rfl hl.1 rfl (lv_room (Nat.le_of_ble_eq_true rfl)) dX9_covered_107 ⟨Nat.le_of_ble_eq_true rfl, Nat.le_of_ble_eq_true rfl⟩) hS (fun q _ h => hFc q h) hFc (fun r_18 u t H1 locs ht hvm hw hB hz1 hk1 hS => ?_)
      obtain ⟨z35_19, z36_20, z49_21, z50_22, z52_23, ⟨hP1, -, hD1⟩, hz52_23⟩ := hB
      rw [ht] at hP1
      have hP := hP1
      have hD := pu_all hFc hD1
      clear hP1 hD1 hFc
      clear hk1 hz1 ht hvm
      generalize H1 = H at hP hS ⊢
      obtain ⟨u_24, hu_24, rfl⟩ := hw
      refine lv_if_eq (tgt := 117) hx hb dX9_covered_110 (by decide) (fun c_25 => ?_) (fun c_25 => ?_)
      · have c_25 : u_24 = 0 := (nI_eq (a := u_24) (b := 0) (Nat.lt_of_le_of_lt hu_24 (Nat.le_of_ble_eq_true rfl)) (Nat.le_of_ble_eq_true rfl)).mp c_25
        refine lv_iconst (v := 1) hx hb dX9_covered_117 (by decide) ?_
        exact W.iret (v := 1) hx hb hr (fun t ht hW => ⟨⟨1, (), rfl, trivial, ⟨z35_19, z36_20, z49_21, z50_22, g_8, 0, z46_2, z52_23, g_9, ⟨by rw [ht]; exact hP, va_K.moved hW.alike hK, hD⟩, (Nat.le_trans hz46_2 (Nat.le_of_ble_eq_true rfl)), hz52_23, hg_9⟩⟩, hS.F ht⟩) hS.2.2 dX9_covered_118
      · have c_25 : ¬ u_24 = 0 := fun z => c_25 ((nI_eq (a := u_24) (b := 0) (Nat.lt_of_le_of_lt hu_24 (Nat.le_of_ble_eq_true rfl)) (Nat.le_of_ble_eq_true rfl)).mpr z)
        refine lv_iconst (v := 0) hx hb dX9_covered_113 (by decide) ?_
        refine lv_goto (tgt := 118) hx hb dX9_covered_114 (by decide) ?_
        exact W.iret (v := 0) hx hb hr (fun t ht hW => ⟨⟨0, (), rfl, trivial, ⟨z35_19, z36_20, z49_21, z50_22, g_8, 0, z46_2, z52_23, g_9, ⟨by rw [ht]; exact hP, va_K.moved hW.alike hK, hD⟩, (Nat.le_trans hz46_2 (Nat.le_of_ble_eq_true rfl)), hz52_23, hg_9⟩⟩, hS.F ht⟩) hS.2.2 dX9_covered_118
    · have c_14 : ¬ m42_0 ≤ g_10 := fun z => c_14 ((nI_leI (a := m42_0) (b := g_10) (Nat.lt_of_le_of_lt hm42_0 (Nat.le_of_ble_eq_true rfl)) (Nat.lt_of_le_of_lt hg_10 (Nat.le_of_ble_eq_true rfl))).mpr z)
      refine lv_iload_n hx hb dX9_covered_32 rfl (lv_at hl 2 rfl) ?_
      refine lv_iload_n hx hb dX9_covered_33 rfl (lv_at hl 1 rfl) ?_
      refine lv_icmp_eq (tgt := 84) hx hb dX9_covered_34 (by decide) (fun c_26 => ?_) (fun c_26 => ?_)
      · have c_26 : g_10 = n_3 := (nI_eq (a := g_10) (b := n_3) (Nat.lt_of_le_of_lt hg_10 (Nat.le_of_ble_eq_true rfl)) (by omega)).mp c_26
        refine lv_iinc (v := (nI (g_10 + 1))) (lv' := [(2, .int (nI (g_10 + 1))), (0, .ref (ad 0)), (1, .int (nI n_3))]) hx hb dX9_covered_84 hl (k := 2) rfl (nI_1 _) (by decide) rfl (fun ls hl => ?_)
        refine lv_goto (tgt := 22) hx hb dX9_covered_87 (by decide) ?_
        exact ih_12 (120 - (g_10 + 1)) (by omega) _ _ _ ⟨g_8, g_9, (g_10 + 1), rfl, hg_9, (by omega), by omega, hP, hD, hS, lv_sub hl [1, 2, 0] rfl⟩
      · have c_26 : ¬ g_10 = n_3 := fun z => c_26 ((nI_eq (a := g_10) (b := n_3) (Nat.lt_of_le_of_lt hg_10 (Nat.le_of_ble_eq_true rfl)) (by omega)).mpr z)
        refine lv_aload_n hx hb dX9_covered_37 rfl (lv_at hl 0 rfl) ?_
        refine va_get (D := (dC, dI)) (ci := 9) (v := .ref (ad 38)) (C := RX9) (T := TX9) (N := 67) hx hb hts hiX9 hown hK hP 0 rfl rfl 38 (by decide) v_18 (fun _ h9 => h9) rfl dX9_covered_38 ?_
        refine lv_iload_n hx hb dX9_covered_41 rfl (lv_at hl 2 rfl) ?_
        refine va_iald hx hb hK hP 23 22 rfl rfl (vp_in_nI (n := g_10) (Nat.lt_of_le_of_lt hg_10 (Nat.le_of_ble_eq_true rfl)) (Nat.le_of_ble_eq_true rfl)) dX9_covered_42 ?_
        refine lv_topi (fun y_27 ey_27 => ?_)
        obtain ⟨u_28, hu_28, qu_28⟩ := bN_get 7 q38 (((nI g_10) : Int32).toNatClampNeg)
        obtain rfl : y_27 = nI u_28 := ey_27.trans qu_28
        refine lv_aload_n hx hb dX9_covered_43 rfl (lv_at hl 0 rfl) ?_
        refine va_get (D := (dC, dI)) (ci := 9) (v := .ref (ad 38)) (C := RX9) (T := TX9) (N := 67) hx hb hts hiX9 hown hK hP 0 rfl rfl 38 (by decide) v_18 (fun _ h9 => h9) rfl dX9_covered_44 ?_
        refine lv_iload_n hx hb dX9_covered_47 rfl (lv_at hl 1 rfl) ?_
        refine va_iald hx hb hK hP 23 22 rfl rfl (vp_in_nI (n := n_3) (by omega) (Nat.le_of_ble_eq_true rfl)) dX9_covered_48 ?_
        refine lv_topi (fun y_29 ey_29 => ?_)
        obtain ⟨u_30, hu_30, qu_30⟩ := bN_get 7 q38 (((nI n_3) : Int32).toNatClampNeg)
        obtain rfl : y_29 = nI u_30 := ey_29.trans qu_30
        refine lv_icmp_ne (tgt := 84) hx hb dX9_covered_49 (by decide) (fun c_31 => ?_) (fun c_31 => ?_)
        · have c_31 : ¬ u_28 = u_30 := fun z => c_31 ((nI_eq (a := u_28) (b := u_30) (Nat.lt_of_le_of_lt hu_28 (Nat.le_of_ble_eq_true rfl)) (Nat.lt_of_le_of_lt hu_30 (Nat.le_of_ble_eq_true rfl))).mpr z)
          refine lv_iinc (v := (nI (g_10 + 1))) (lv' := [(2, .int (nI (g_10 + 1))), (0, .ref (ad 0)), (1, .int (nI n_3))]) hx hb dX9_covered_84 hl (k := 2) rfl (nI_1 _) (by decide) rfl (fun ls hl => ?_)
          refine lv_goto (tgt := 22) hx hb dX9_covered_87 (by decide) ?_
          exact ih_12 (120 - (g_10 + 1)) (by omega) _ _ _ ⟨g_8, g_9, (g_10 + 1), rfl, hg_9, (by omega), by omega, hP, hD, hS, lv_sub hl [1, 2, 0] rfl⟩
        · have c_31 : u_28 = u_30 := (nI_eq (a := u_28) (b := u_30) (Nat.lt_of_le_of_lt hu_28 (Nat.le_of_ble_eq_true rfl)) (Nat.lt_of_le_of_lt hu_30 (Nat.le_of_ble_eq_true rfl))).mp c_31
          refine lv_aload_n hx hb dX9_covered_52 rfl (lv_at hl 0 rfl) ?_
          refine va_get (D := (dC, dI)) (ci := 9) (v := .ref (ad 34)) (C := RX9) (T := TX9) (N := 67) hx hb hts hiX9 hown hK hP 0 rfl rfl 34 (by decide) v_9 (fun _ h9 => h9) rfl dX9_covered_53 ?_
          refine lv_bipush (v := 25) hx hb dX9_covered_56 (by decide) ?_
          refine lv_iload_n hx hb dX9_covered_58 rfl (lv_at hl 2 rfl) ?_
          refine lv_imul hx hb dX9_covered_59 ?_
          refine lv_topi (fun y_32 ey_32 => ?_)
          obtain rfl : y_32 = (nI (25 * g_10)) := ey_32.trans (pk_mul 25 g_10)
          refine lv_aload_n hx hb dX9_covered_60 rfl (lv_at hl 0 rfl) ?_
          refine va_get (D := (dC, dI)) (ci := 9) (v := .ref (ad 51)) (C := RX9) (T := TX9) (N := 67) hx hb hts hiX9 hown hK hP 0 rfl rfl 51 (by decide) v_19 (fun _ h9 => h9) rfl dX9_covered_61 ?_
          refine lv_bipush (v := 25) hx hb dX9_covered_64 (by decide) ?_
          refine lv_aload_n hx hb dX9_covered_66 rfl (lv_at hl 0 rfl) ?_
          refine va_get (D := (dC, dI)) (ci := 9) (v := .int (nI g_9)) (C := RX9) (T := TX9) (N := 67) hx hb hts hiX9 hown hK hP 0 rfl rfl 53 (by decide) v_7 (fun _ h9 => h9) rfl dX9_covered_67 ?_
          refine lv_imul hx hb dX9_covered_70 ?_
          refine lv_topi (fun y_33 ey_33 => ?_)
          obtain rfl : y_33 = (nI (25 * g_9)) := ey_33.trans (pk_mul 25 g_9)
          have hFc := pu_free hD hS hA
          refine va_callv (va_runS (As := [.ref (ad 34), .int (nI (25 * g_10)), .ref (ad 51), .int (nI (25 * g_9))]) (rest := []) ⟨hx, hb, hml, hown, hts⟩ (c_M_copies_nc l dC dI _ ad ck 0 x16 x18 x19 x20 x21 x22 x23 x24 x25 x26 x27 x28 x29 x30 x33 x45 z46_2 x52 g_9 x61 x62 x63 x65 x66 f1 f2 f3 q4 q5 q6 q7 f8 q9 q10 f11 m12_0 m12_1 m13_0 m13_1 m14_0 m14_1 m15_0 m15_1 f17 q31 f32 f34 f35 f36 f37 q38 f39 f40 f41 m42_0 m42_1 f43 f44 f47 f48 f49 f50 g_8 q54 q55 q56 f57 q58 f59 f60 f64 (25 * g_10) (25 * g_9) hx16 hx18 hx19 hx21 hx22 hx26 hx28 hx29 hx30 hx33 (Nat.le_trans hz46_2 (Nat.le_of_ble_eq_true rfl)) hx52 hg_9 hx61 hx62 hx63 hx65 hm12_0 hm12_1 hm13_0 hm13_1 hm14_0 hm14_1 hm15_0 hm15_1 hm42_0 hm42_1 (by omega) (by omega)) (va_cwS 4 hts g_M_covered_M_copies_nc rfl rfl rfl (by decide +kernel) ⟨Nat.le_of_ble_eq_true rfl, Nat.le_of_ble_eq_true rfl⟩) ⟨pu_bl, pu_in hP hK hD⟩ rfl rfl hl.1 rfl (lv_room (Nat.le_of_ble_eq_true rfl)) dX9_covered_71 ⟨Nat.le_of_ble_eq_true rfl, Nat.le_of_ble_eq_true rfl⟩) hS (fun q _ h => hFc q h) hFc (fun u t H1 locs ht hvm hw hB hz1 hk1 hS => ?_)
          obtain ⟨z51_35, ⟨hP1, -, hD1⟩⟩ := hB
          rw [ht] at hP1
          have hP := hP1
          have hD := pu_all hFc hD1
          clear hP1 hD1 hFc
          clear hk1 hz1 ht hvm
          generalize H1 = H at hP hS ⊢
          refine lv_aload_n hx hb dX9_covered_74 rfl (lv_at hl 0 rfl) ?_
          refine lv_dup hx hb dX9_covered_75 rfl ?_
          refine va_get (D := (dC, dI)) (ci := 9) (v := .int (nI g_9)) (C := RX9) (T := TX9) (N := 67) hx hb hts hiX9 hown hK hP 0 rfl rfl 53 (by decide) v_7 (fun _ h9 => h9) rfl dX9_covered_76 ?_
          refine lv_iconst (v := 1) hx hb dX9_covered_79 (by decide) ?_
          refine lv_iadd hx hb dX9_covered_80 ?_
          refine lv_topi (fun y_36 ey_36 => ?_)
          obtain rfl : y_36 = (nI (g_9 + 1)) := ey_36.trans (nI_add g_9 1)
          refine va_put (D := (dC, dI)) (ci := 9) (v := .int (nI (g_9 + 1))) (ty := .int) (C := RX9) (T := TX9) (N := 67) hx hb hts hiX9 tyX9 tyX9_ok nmX9 hown hK hP hD hS 0 rfl rfl 53 (by decide) v_7 (fun _ h9 => h9) rfl (by decide +kernel) rfl rfl (Nat.le_of_ble_eq_true rfl) dX9_covered_81 (fun H locs hP hD hS => ?_)
          have hP : va_P (dC, dI) vwCl (mo_w ad ck 0 (nI x16) (nI x18) (nI x19) x20 (nI x21) (nI x22) x23 x24 x25 (nI x26) x27 (nI x28) (nI x29) (nI x30) (nI x33) x45 (nI z46_2) (nI x52) (nI (g_9 + 1)) (nI x61) (nI x62) (nI x63) (nI x65) x66 f1 f2 f3 (bN 3 q4) (bN 7 q5) (bN 7 q6) (bN 4 q7) f8 (bN 2 q9) (bH q10) f11 (b2 m12_0 m12_1) (b2 m13_0 m13_1) (b2 m14_0 m14_1) (b2m m15_0 m15_1) f17 (bA 159 q31) f32 f34 f35 f36 f37 (bN 7 q38) f39 f40 f41 (b2 m42_0 m42_1) f43 f44 f47 f48 f49 f50 z51_35 (bN 13 q54) (bN 120 q55) (bN 120 q56) f57 (bN 120 q58) f59 f60 f64) H := hP
          have hD : va_D A (mo_w ad ck 0 (nI x16) (nI x18) (nI x19) x20 (nI x21) (nI x22) x23 x24 x25 (nI x26) x27 (nI x28) (nI x29) (nI x30) (nI x33) x45 (nI z46_2) (nI x52) (nI (g_9 + 1)) (nI x61) (nI x62) (nI x63) (nI x65) x66 f1 f2 f3 (bN 3 q4) (bN 7 q5) (bN 7 q6) (bN 4 q7) f8 (bN 2 q9) (bH q10) f11 (b2 m12_0 m12_1) (b2 m13_0 m13_1) (b2 m14_0 m14_1) (b2m m15_0 m15_1) f17 (bA 159 q31) f32 f34 f35 f36 f37 (bN 7 q38) f39 f40 f41 (b2 m42_0 m42_1) f43 f44 f47 f48 f49 f50 z51_35 (bN 13 q54) (bN 120 q55) (bN 120 q56) f57 (bN 120 q58) f59 f60 f64) := hD
          refine lv_iinc (v := (nI (g_10 + 1))) (lv' := [(2, .int (nI (g_10 + 1))), (0, .ref (ad 0)), (1, .int (nI n_3))]) hx hb dX9_covered_84 hl (k := 2) rfl (nI_1 _) (by decide) rfl (fun ls hl => ?_)
          refine lv_goto (tgt := 22) hx hb dX9_covered_87 (by decide) ?_
          exact ih_12 (120 - (g_10 + 1)) (by omega) _ _ _ ⟨z51_35, (g_9 + 1), (g_10 + 1), rfl, (by omega), (by omega), by omega, hP, hD, hS, lv_sub hl [1, 2, 0] rfl⟩
  · refine lv_if_ne (tgt := 15) hx hb dX9_covered_10 (by decide) (fun z => absurd z (by decide)) (fun _ => ?_)
    refine lv_iconst (v := (-1)) hx hb dX9_covered_13 (by decide) ?_
    exact W.iret (v := (-1)) hx hb hr (fun t ht hW => ⟨⟨(-1), (), rfl, trivial, ⟨f35, f36, f49, f50, f51, 0, z46_2, x52, x53, ⟨by rw [ht]; exact hP, va_K.moved hW.alike hK, hD⟩, (Nat.le_trans hz46_2 (Nat.le_of_ble_eq_true rfl)), hx52, hx53⟩⟩, hS.F ht⟩) hS.2.2 dX9_covered_14
theorem dX9_layAhead_0 : decode cX9_layAhead 0 = .ok (.iconst 0, 1) := by decide +kernel
theorem dX9_layAhead_1 : decode cX9_layAhead 1 = .ok (.istore_n 2, 1) := by decide +kernel
theorem dX9_layAhead_2 : decode cX9_layAhead 2 = .ok (.iload_n 2, 1) := by decide +kernel
theorem dX9_layAhead_3 : decode cX9_layAhead 3 = .ok (.bipush 25, 2) := by decide +kernel
theorem dX9_layAhead_5 : decode cX9_layAhead 5 = .ok (.if_icmp .ge 18, 3) := by decide +kernel
theorem dX9_layAhead_8 : decode cX9_layAhead 8 = .ok (.aload_n 0, 1) := by decide +kernel
theorem dX9_layAhead_9 : decode cX9_layAhead 9 = .ok (.getfield 71, 3) := by decide +kernel
theorem dX9_layAhead_12 : decode cX9_layAhead 12 = .ok (.iload_n 2, 1) := by decide +kernel
theorem dX9_layAhead_13 : decode cX9_layAhead 13 = .ok (.ldc_w 327, 3) := by decide +kernel
theorem dX9_layAhead_16 : decode cX9_layAhead 16 = .ok (.iastore, 1) := by decide +kernel
theorem dX9_layAhead_17 : decode cX9_layAhead 17 = .ok (.iinc 2 1, 3) := by decide +kernel
theorem dX9_layAhead_20 : decode cX9_layAhead 20 = .ok (.goto (-18), 3) := by decide +kernel
theorem dX9_layAhead_23 : decode cX9_layAhead 23 = .ok (.iconst 0, 1) := by decide +kernel
theorem dX9_layAhead_24 : decode cX9_layAhead 24 = .ok (.istore_n 2, 1) := by decide +kernel
theorem dX9_layAhead_25 : decode cX9_layAhead 25 = .ok (.iload_n 2, 1) := by decide +kernel
theorem dX9_layAhead_26 : decode cX9_layAhead 26 = .ok (.aload_n 0, 1) := by decide +kernel
theorem dX9_layAhead_27 : decode cX9_layAhead 27 = .ok (.getfield 328, 3) := by decide +kernel
theorem dX9_layAhead_30 : decode cX9_layAhead 30 = .ok (.if_icmp .ge 27, 3) := by decide +kernel
theorem dX9_layAhead_33 : decode cX9_layAhead 33 = .ok (.aload_n 0, 1) := by decide +kernel
theorem dX9_layAhead_34 : decode cX9_layAhead 34 = .ok (.getfield 71, 3) := by decide +kernel
theorem dX9_layAhead_37 : decode cX9_layAhead 37 = .ok (.iconst 5, 1) := by decide +kernel
theorem dX9_layAhead_38 : decode cX9_layAhead 38 = .ok (.iload_n 2, 1) := by decide +kernel
theorem dX9_layAhead_39 : decode cX9_layAhead 39 = .ok (.imul, 1) := by decide +kernel
theorem dX9_layAhead_40 : decode cX9_layAhead 40 = .ok (.iload_n 2, 1) := by decide +kernel
theorem dX9_layAhead_41 : decode cX9_layAhead 41 = .ok (.iadd, 1) := by decide +kernel
theorem dX9_layAhead_42 : decode cX9_layAhead 42 = .ok (.iconst 1, 1) := by decide +kernel
theorem dX9_layAhead_43 : decode cX9_layAhead 43 = .ok (.iastore, 1) := by decide +kernel
theorem dX9_layAhead_44 : decode cX9_layAhead 44 = .ok (.aload_n 0, 1) := by decide +kernel
theorem dX9_layAhead_45 : decode cX9_layAhead 45 = .ok (.getfield 71, 3) := by decide +kernel
theorem dX9_layAhead_48 : decode cX9_layAhead 48 = .ok (.iload_n 2, 1) := by decide +kernel
theorem dX9_layAhead_49 : decode cX9_layAhead 49 = .ok (.iconst 1, 1) := by decide +kernel
theorem dX9_layAhead_50 : decode cX9_layAhead 50 = .ok (.iastore, 1) := by decide +kernel
theorem dX9_layAhead_51 : decode cX9_layAhead 51 = .ok (.iinc 2 1, 3) := by decide +kernel
theorem dX9_layAhead_54 : decode cX9_layAhead 54 = .ok (.goto (-29), 3) := by decide +kernel
theorem dX9_layAhead_57 : decode cX9_layAhead 57 = .ok (.aload_n 0, 1) := by decide +kernel
theorem dX9_layAhead_58 : decode cX9_layAhead 58 = .ok (.aload_n 0, 1) := by decide +kernel
theorem dX9_layAhead_59 : decode cX9_layAhead 59 = .ok (.getfield 71, 3) := by decide +kernel
theorem dX9_layAhead_62 : decode cX9_layAhead 62 = .ok (.iload_n 1, 1) := by decide +kernel
theorem dX9_layAhead_63 : decode cX9_layAhead 63 = .ok (.invokevirtual 342, 3) := by decide +kernel
theorem dX9_layAhead_66 : decode cX9_layAhead 66 = .ok (.aload_n 0, 1) := by decide +kernel
theorem dX9_layAhead_67 : decode cX9_layAhead 67 = .ok (.aload_n 0, 1) := by decide +kernel
theorem dX9_layAhead_68 : decode cX9_layAhead 68 = .ok (.getfield 71, 3) := by decide +kernel
theorem dX9_layAhead_71 : decode cX9_layAhead 71 = .ok (.bipush 100, 2) := by decide +kernel
theorem dX9_layAhead_73 : decode cX9_layAhead 73 = .ok (.aload_n 0, 1) := by decide +kernel
theorem dX9_layAhead_74 : decode cX9_layAhead 74 = .ok (.iload_n 1, 1) := by decide +kernel
theorem dX9_layAhead_75 : decode cX9_layAhead 75 = .ok (.invokevirtual 289, 3) := by decide +kernel
theorem dX9_layAhead_78 : decode cX9_layAhead 78 = .ok (.iadd, 1) := by decide +kernel
theorem dX9_layAhead_79 : decode cX9_layAhead 79 = .ok (.invokevirtual 342, 3) := by decide +kernel
theorem dX9_layAhead_82 : decode cX9_layAhead 82 = .ok (.iconst 0, 1) := by decide +kernel
theorem dX9_layAhead_83 : decode cX9_layAhead 83 = .ok (.istore_n 2, 1) := by decide +kernel
theorem dX9_layAhead_84 : decode cX9_layAhead 84 = .ok (.iload_n 2, 1) := by decide +kernel
theorem dX9_layAhead_85 : decode cX9_layAhead 85 = .ok (.aload_n 0, 1) := by decide +kernel
theorem dX9_layAhead_86 : decode cX9_layAhead 86 = .ok (.bipush 100, 2) := by decide +kernel
theorem dX9_layAhead_88 : decode cX9_layAhead 88 = .ok (.aload_n 0, 1) := by decide +kernel
theorem dX9_layAhead_89 : decode cX9_layAhead 89 = .ok (.iload_n 1, 1) := by decide +kernel
theorem dX9_layAhead_90 : decode cX9_layAhead 90 = .ok (.invokevirtual 292, 3) := by decide +kernel
theorem dX9_layAhead_93 : decode cX9_layAhead 93 = .ok (.iadd, 1) := by decide +kernel
theorem dX9_layAhead_94 : decode cX9_layAhead 94 = .ok (.invokevirtual 295, 3) := by decide +kernel
theorem dX9_layAhead_97 : decode cX9_layAhead 97 = .ok (.if_icmp .ge 72, 3) := by decide +kernel
theorem dX9_layAhead_100 : decode cX9_layAhead 100 = .ok (.aload_n 0, 1) := by decide +kernel
theorem dX9_layAhead_101 : decode cX9_layAhead 101 = .ok (.bipush 100, 2) := by decide +kernel
theorem dX9_layAhead_103 : decode cX9_layAhead 103 = .ok (.aload_n 0, 1) := by decide +kernel
theorem dX9_layAhead_104 : decode cX9_layAhead 104 = .ok (.iload_n 1, 1) := by decide +kernel
theorem dX9_layAhead_105 : decode cX9_layAhead 105 = .ok (.invokevirtual 292, 3) := by decide +kernel
theorem dX9_layAhead_108 : decode cX9_layAhead 108 = .ok (.iadd, 1) := by decide +kernel
theorem dX9_layAhead_109 : decode cX9_layAhead 109 = .ok (.iload_n 2, 1) := by decide +kernel
theorem dX9_layAhead_110 : decode cX9_layAhead 110 = .ok (.invokevirtual 311, 3) := by decide +kernel
theorem dX9_layAhead_113 : decode cX9_layAhead 113 = .ok (.istore_n 3, 1) := by decide +kernel
theorem dX9_layAhead_114 : decode cX9_layAhead 114 = .ok (.aload_n 0, 1) := by decide +kernel
theorem dX9_layAhead_115 : decode cX9_layAhead 115 = .ok (.iload_n 1, 1) := by decide +kernel
theorem dX9_layAhead_116 : decode cX9_layAhead 116 = .ok (.invokevirtual 305, 3) := by decide +kernel
theorem dX9_layAhead_119 : decode cX9_layAhead 119 = .ok (.aload_n 0, 1) := by decide +kernel
theorem dX9_layAhead_120 : decode cX9_layAhead 120 = .ok (.getfield 34, 3) := by decide +kernel
theorem dX9_layAhead_123 : decode cX9_layAhead 123 = .ok (.iload_n 3, 1) := by decide +kernel
theorem dX9_layAhead_124 : decode cX9_layAhead 124 = .ok (.iaload, 1) := by decide +kernel
theorem dX9_layAhead_125 : decode cX9_layAhead 125 = .ok (.invokestatic 248, 3) := by decide +kernel
theorem dX9_layAhead_128 : decode cX9_layAhead 128 = .ok (.ifCond .ne 15, 3) := by decide +kernel
theorem dX9_layAhead_131 : decode cX9_layAhead 131 = .ok (.aload_n 0, 1) := by decide +kernel
theorem dX9_layAhead_132 : decode cX9_layAhead 132 = .ok (.aload_n 0, 1) := by decide +kernel
theorem dX9_layAhead_133 : decode cX9_layAhead 133 = .ok (.getfield 71, 3) := by decide +kernel
theorem dX9_layAhead_136 : decode cX9_layAhead 136 = .ok (.iload_n 3, 1) := by decide +kernel
theorem dX9_layAhead_137 : decode cX9_layAhead 137 = .ok (.invokevirtual 338, 3) := by decide +kernel
theorem dX9_layAhead_140 : decode cX9_layAhead 140 = .ok (.goto 23, 3) := by decide +kernel
theorem dX9_layAhead_143 : decode cX9_layAhead 143 = .ok (.aload_n 0, 1) := by decide +kernel
theorem dX9_layAhead_144 : decode cX9_layAhead 144 = .ok (.getfield 37, 3) := by decide +kernel
theorem dX9_layAhead_147 : decode cX9_layAhead 147 = .ok (.iload_n 3, 1) := by decide +kernel
theorem dX9_layAhead_148 : decode cX9_layAhead 148 = .ok (.iaload, 1) := by decide +kernel
theorem dX9_layAhead_149 : decode cX9_layAhead 149 = .ok (.ifCond .ne 14, 3) := by decide +kernel
theorem dX9_layAhead_152 : decode cX9_layAhead 152 = .ok (.aload_n 0, 1) := by decide +kernel
theorem dX9_layAhead_153 : decode cX9_layAhead 153 = .ok (.getfield 40, 3) := by decide +kernel
theorem dX9_layAhead_156 : decode cX9_layAhead 156 = .ok (.iload_n 3, 1) := by decide +kernel
theorem dX9_layAhead_157 : decode cX9_layAhead 157 = .ok (.iaload, 1) := by decide +kernel
theorem dX9_layAhead_158 : decode cX9_layAhead 158 = .ok (.ifCond .ne 5, 3) := by decide +kernel
theorem dX9_layAhead_161 : decode cX9_layAhead 161 = .ok (.iconst 0, 1) := by decide +kernel
theorem dX9_layAhead_162 : decode cX9_layAhead 162 = .ok (.ireturn, 1) := by decide +kernel
theorem dX9_layAhead_163 : decode cX9_layAhead 163 = .ok (.iinc 2 1, 3) := by decide +kernel
theorem dX9_layAhead_166 : decode cX9_layAhead 166 = .ok (.goto (-82), 3) := by decide +kernel
theorem dX9_layAhead_169 : decode cX9_layAhead 169 = .ok (.aload_n 0, 1) := by decide +kernel
theorem dX9_layAhead_170 : decode cX9_layAhead 170 = .ok (.aload_n 0, 1) := by decide +kernel
theorem dX9_layAhead_171 : decode cX9_layAhead 171 = .ok (.getfield 71, 3) := by decide +kernel
theorem dX9_layAhead_174 : decode cX9_layAhead 174 = .ok (.invokevirtual 345, 3) := by decide +kernel
theorem dX9_layAhead_177 : decode cX9_layAhead 177 = .ok (.ifCond .ne 5, 3) := by decide +kernel
theorem dX9_layAhead_180 : decode cX9_layAhead 180 = .ok (.iconst 0, 1) := by decide +kernel
theorem dX9_layAhead_181 : decode cX9_layAhead 181 = .ok (.ireturn, 1) := by decide +kernel
theorem dX9_layAhead_182 : decode cX9_layAhead 182 = .ok (.aload_n 0, 1) := by decide +kernel
theorem dX9_layAhead_183 : decode cX9_layAhead 183 = .ok (.aload_n 0, 1) := by decide +kernel
theorem dX9_layAhead_184 : decode cX9_layAhead 184 = .ok (.iload_n 1, 1) := by decide +kernel
theorem dX9_layAhead_185 : decode cX9_layAhead 185 = .ok (.invokevirtual 289, 3) := by decide +kernel
theorem dX9_layAhead_188 : decode cX9_layAhead 188 = .ok (.invokevirtual 324, 3) := by decide +kernel
theorem dX9_layAhead_191 : decode cX9_layAhead 191 = .ok (.ifCond .ne 35, 3) := by decide +kernel
theorem dX9_layAhead_194 : decode cX9_layAhead 194 = .ok (.iconst 1, 1) := by decide +kernel
theorem dX9_layAhead_195 : decode cX9_layAhead 195 = .ok (.istore_n 2, 1) := by decide +kernel
theorem dX9_layAhead_196 : decode cX9_layAhead 196 = .ok (.iload_n 2, 1) := by decide +kernel
theorem dX9_layAhead_197 : decode cX9_layAhead 197 = .ok (.aload_n 0, 1) := by decide +kernel
theorem dX9_layAhead_198 : decode cX9_layAhead 198 = .ok (.getfield 328, 3) := by decide +kernel
theorem dX9_layAhead_201 : decode cX9_layAhead 201 = .ok (.if_icmp .ge 16, 3) := by decide +kernel
theorem dX9_layAhead_204 : decode cX9_layAhead 204 = .ok (.aload_n 0, 1) := by decide +kernel
theorem dX9_layAhead_205 : decode cX9_layAhead 205 = .ok (.getfield 71, 3) := by decide +kernel
theorem dX9_layAhead_208 : decode cX9_layAhead 208 = .ok (.iload_n 2, 1) := by decide +kernel
theorem dX9_layAhead_209 : decode cX9_layAhead 209 = .ok (.iconst 1, 1) := by decide +kernel
theorem dX9_layAhead_210 : decode cX9_layAhead 210 = .ok (.iastore, 1) := by decide +kernel
theorem dX9_layAhead_211 : decode cX9_layAhead 211 = .ok (.iinc 2 1, 3) := by decide +kernel
theorem dX9_layAhead_214 : decode cX9_layAhead 214 = .ok (.goto (-18), 3) := by decide +kernel
theorem dX9_layAhead_217 : decode cX9_layAhead 217 = .ok (.aload_n 0, 1) := by decide +kernel
theorem dX9_layAhead_218 : decode cX9_layAhead 218 = .ok (.aload_n 0, 1) := by decide +kernel
theorem dX9_layAhead_219 : decode cX9_layAhead 219 = .ok (.getfield 71, 3) := by decide +kernel
theorem dX9_layAhead_222 : decode cX9_layAhead 222 = .ok (.invokevirtual 345, 3) := by decide +kernel
theorem dX9_layAhead_225 : decode cX9_layAhead 225 = .ok (.pop, 1) := by decide +kernel
theorem dX9_layAhead_226 : decode cX9_layAhead 226 = .ok (.iconst 1, 1) := by decide +kernel
theorem dX9_layAhead_227 : decode cX9_layAhead 227 = .ok (.ireturn, 1) := by decide +kernel
abbrev vs_M_layAhead : List Cond := .code yX9_layAhead cX9_layAhead 4 (some .boolean) :: VM
theorem g_M_layAhead_X9_isOf : GoodIn vs_M_layAhead (va_wsS RX9 248 yX9_isOf vs_X9_isOf) := gm_0 (fun w h => by
  rcases List.mem_cons.mp h with rfl | h
  · exact vm_130
  rcases List.mem_cons.mp h with rfl | h
  · exact vm_131
  rcases List.mem_cons.mp h with rfl | h
  · exact vm_12
  rcases List.mem_cons.mp h with rfl | h
  · exact vm_0
  exact absurd h (List.not_mem_nil))
theorem g_M_layAhead_M_holdsAll_e : GoodIn vs_M_layAhead (wsV RX9 342 RX9 yX9_holdsAll vs_M_holdsAll_e) := gm_V vm_221 vm_222 vm_223 vm_12 vm_215
theorem g_M_layAhead_M_outOf : GoodIn vs_M_layAhead (wsV RX9 289 RX9 yX9_outOf vs_M_outOf) := gm_V vm_66 vm_67 vm_68 vm_12 vm_27
theorem g_M_layAhead_M_holdsAll_p : GoodIn vs_M_layAhead (wsV RX9 342 RX9 yX9_holdsAll vs_M_holdsAll_p) := gm_V vm_221 vm_222 vm_223 vm_12 vm_215
theorem g_M_layAhead_M_into : GoodIn vs_M_layAhead (wsV RX9 292 RX9 yX9_into vs_M_into) := gm_V vm_63 vm_64 vm_65 vm_12 vm_29
theorem g_M_layAhead_M_manyOf_p : GoodIn vs_M_layAhead (wsV RX9 295 RX9 yX9_manyOf vs_M_manyOf_p) := gm_V vm_166 vm_167 vm_168 vm_12 vm_157
theorem g_M_layAhead_M_closes_z : GoodIn vs_M_layAhead (wsV RX9 345 RX9 yX9_closes vs_M_closes_z) := gm_V vm_224 vm_225 vm_226 vm_12 vm_208
theorem g_M_layAhead_M_isUrgent : GoodIn vs_M_layAhead (wsV RX9 324 RX9 yX9_isUrgent vs_M_isUrgent) := gm_V vm_204 vm_205 vm_206 vm_12 vm_33
theorem g_M_layAhead_M_spot_p : GoodIn vs_M_layAhead (wsV RX9 311 RX9 yX9_spot vs_M_spot_p) := gm_V vm_173 vm_174 vm_175 vm_12 vm_164
theorem g_M_layAhead_M_setBy : GoodIn vs_M_layAhead (wsV RX9 305 RX9 yX9_setBy vs_M_setBy) := gm_V vm_185 vm_186 vm_187 vm_12 vm_31
theorem g_M_layAhead_M_holds : GoodIn vs_M_layAhead (wsV RX9 338 RX9 yX9_holds vs_M_holds) := gm_V vm_216 vm_217 vm_218 vm_12 vm_212
set_option maxHeartbeats 4000000 in
set_option maxRecDepth 100000 in
theorem c_M_layAhead (l : Launch) (dC : Nat → ClassId) (dI : Nat → Nat → Nat) (sz : Nat) (ad : Nat → Nat) (ck : Nat → ClassId) (x0 : Int32) (x16 : Nat) (x18 : Nat) (x19 : Nat) (x20 : Int32) (x21 : Nat) (x22 : Nat) (x23 : Int32) (x24 : Int32) (x25 : Int32) (x26 : Nat) (x27 : Int32) (x28 : Nat) (x29 : Nat) (x30 : Nat) (x33 : Nat) (x45 : Int32) (x46 : Nat) (x52 : Nat) (x53 : Nat) (x61 : Nat) (x62 : Nat) (x63 : Nat) (x65 : Nat) (x66 : Int32) (f1 : Nat → Int32) (f2 : Nat → Int32) (f3 : Nat → Int32) (q4 : Nat → Nat) (q5 : Nat → Nat) (q6 : Nat → Nat) (q7 : Nat → Nat) (f8 : Nat → Int32) (q9 : Nat → Nat) (q10 : Nat → Nat) (f11 : Nat → Int32) (m12_0 m12_1 : Nat) (m13_0 m13_1 : Nat) (m14_0 m14_1 : Nat) (m15_0 m15_1 : Nat) (f17 : Nat → Int32) (q31 : Nat → Nat) (f32 : Nat → Int32) (f34 : Nat → Int32) (f35 : Nat → Int32) (f36 : Nat → Int32) (f37 : Nat → Int32) (q38 : Nat → Nat) (f39 : Nat → Int32) (f40 : Nat → Int32) (f41 : Nat → Int32) (m42_0 m42_1 : Nat) (f43 : Nat → Int32) (f44 : Nat → Int32) (f47 : Nat → Int32) (f48 : Nat → Int32) (f49 : Nat → Int32) (f50 : Nat → Int32) (f51 : Nat → Int32) (q54 : Nat → Nat) (q55 : Nat → Nat) (q56 : Nat → Nat) (f57 : Nat → Int32) (q58 : Nat → Nat) (f59 : Nat → Int32) (f60 : Nat → Int32) (f64 : Nat → Int32) (a0 : Nat) (hx16 : x16 ≤ 1) (hx18 : x18 ≤ 900) (hx19 : x19 ≤ 900) (hx21 : x21 ≤ 900) (hx22 : x22 ≤ 4) (hx26 : x26 ≤ 6) (hx28 : x28 ≤ 1) (hx29 : x29 ≤ 1) (hx30 : x30 ≤ 1) (hx33 : x33 ≤ 20) (hx46 : x46 ≤ 5) (hx52 : x52 ≤ 2400) (hx53 : x53 ≤ 119) (hx61 : x61 ≤ 119) (hx62 : x62 ≤ 2000) (hx63 : x63 ≤ 1) (hx65 : x65 ≤ 7) (hm12_0 : m12_0 ≤ 3) (hm12_1 : m12_1 ≤ 3) (hm13_0 : m13_0 ≤ 8) (hm13_1 : m13_1 ≤ 8) (hm14_0 : m14_0 ≤ 14) (hm14_1 : m14_1 ≤ 14) (hm15_0 : m15_0 ≤ 8) (hm15_1 : m15_1 ≤ 8) (hm42_0 : m42_0 ≤ 120) (hm42_1 : m42_1 ≤ 400) (ha0 : a0 ≤ 13) : Met l yX9_layAhead vs_M_layAhead ({ frames := 4, cells := 0, slots := 0, locals := 90 }) (va_Pc [.ref (ad 0), .int (nI a0)] (pu_B (dC, dI) (mo_w ad ck x0 (nI x16) (nI x18) (nI x19) x20 (nI x21) (nI x22) x23 x24 x25 (nI x26) x27 (nI x28) (nI x29) (nI x30) (nI x33) x45 (nI x46) (nI x52) (nI x53) (nI x61) (nI x62) (nI x63) (nI x65) x66 f1 f2 f3 (bN 3 q4) (bN 7 q5) (bN 7 q6) (bN 4 q7) f8 (bN 2 q9) (bH q10) f11 (b2 m12_0 m12_1) (b2 m13_0 m13_1) (b2 m14_0 m14_1) (b2m m15_0 m15_1) f17 (bA 159 q31) f32 f34 f35 f36 f37 (bN 7 q38) f39 f40 f41 (b2 m42_0 m42_1) f43 f44 f47 f48 f49 f50 f51 (bN 13 q54) (bN 120 q55) (bN 120 q56) f57 (bN 120 q58) f59 f60 f64) (mo_t ck) sz)) (va_Qi (fun (r : Int32) (_ : Unit) => ∃ v : Nat, v ≤ 1 ∧ r = nI v) (fun _ t => ∃ (z35 : Nat → Int32), pu_E (dC, dI) (mo_w ad ck x0 (nI x16) (nI x18) (nI x19) x20 (nI x21) (nI x22) x23 x24 x25 (nI x26) x27 (nI x28) (nI x29) (nI x30) (nI x33) x45 (nI x46) (nI x52) (nI x53) (nI x61) (nI x62) (nI x63) (nI x65) x66 f1 f2 f3 (bN 3 q4) (bN 7 q5) (bN 7 q6) (bN 4 q7) f8 (bN 2 q9) (bH q10) f11 (b2 m12_0 m12_1) (b2 m13_0 m13_1) (b2 m14_0 m14_1) (b2m m15_0 m15_1) f17 (bA 159 q31) f32 f34 z35 f36 f37 (bN 7 q38) f39 f40 f41 (b2 m42_0 m42_1) f43 f44 f47 f48 f49 f50 f51 (bN 13 q54) (bN 120 q55) (bN 120 q56) f57 (bN 120 q58) f59 f60 f64) (mo_t ck) (va_A ((mo_w ad ck x0 (nI x16) (nI x18) (nI x19) x20 (nI x21) (nI x22) x23 x24 x25 (nI x26) x27 (nI x28) (nI x29) (nI x30) (nI x33) x45 (nI x46) (nI x52) (nI x53) (nI x61) (nI x62) (nI x63) (nI x65) x66 f1 f2 f3 (bN 3 q4) (bN 7 q5) (bN 7 q6) (bN 4 q7) f8 (bN 2 q9) (bH q10) f11 (b2 m12_0 m12_1) (b2 m13_0 m13_1) (b2 m14_0 m14_1) (b2m m15_0 m15_1) f17 (bA 159 q31) f32 f34 f35 f36 f37 (bN 7 q38) f39 f40 f41 (b2 m42_0 m42_1) f43 f44 f47 f48 f49 f50 f51 (bN 13 q54) (bN 120 q55) (bN 120 q56) f57 (bN 120 q58) f59 f60 f64)) sz) t) (va_A ((mo_w ad ck x0 (nI x16) (nI x18) (nI x19) x20 (nI x21) (nI x22) x23 x24 x25 (nI x26) x27 (nI x28) (nI x29) (nI x30) (nI x33) x45 (nI x46) (nI x52) (nI x53) (nI x61) (nI x62) (nI x63) (nI x65) x66 f1 f2 f3 (bN 3 q4) (bN 7 q5) (bN 7 q6) (bN 4 q7) f8 (bN 2 q9) (bH q10) f11 (b2 m12_0 m12_1) (b2 m13_0 m13_1) (b2 m14_0 m14_1) (b2m m15_0 m15_1) f17 (bA 159 q31) f32 f34 f35 f36 f37 (bN 7 q38) f39 f40 f41 (b2 m42_0 m42_1) f43 f44 f47 f48 f49 f50 f51 (bN 13 q54) (bN 120 q55) (bN 120 q56) f57 (bN 120 q58) f59 f60 f64)) sz)) 0 0 (va_A ((mo_w ad ck x0 (nI x16) (nI x18) (nI x19) x20 (nI x21) (nI x22) x23 x24 x25 (nI x26) x27 (nI x28) (nI x29) (nI x30) (nI x33) x45 (nI x46) (nI x52) (nI x53) (nI x61) (nI x62) (nI x63) (nI x65) x66 f1 f2 f3 (bN 3 q4) (bN 7 q5) (bN 7 q6) (bN 4 q7) f8 (bN 2 q9) (bH q10) f11 (b2 m12_0 m12_1) (b2 m13_0 m13_1) (b2 m14_0 m14_1) (b2m m15_0 m15_1) f17 (bA 159 q31) f32 f34 f35 f36 f37 (bN 7 q38) f39 f40 f41 (b2 m42_0 m42_1) f43 f44 f47 f48 f49 f50 f51 (bN 13 q54) (bN 120 q55) (bN 120 q56) f57 (bN 120 q58) f59 f60 f64)) sz) := by
  refine Met.ofW (cc := cX9_layAhead) (maxL := 4) (ret := (some .boolean)) (by decide) rfl ?_
  intro p e s m args below meth c s₁ B hml hv
  obtain ⟨rfl, rfl, hP, hK, hD0⟩ := hv
  have hx := B.exec
  have hb := B.bytes
  have hr := B.returns
  have hts := atoms_spec (ws := vs_M_layAhead) B.pre
  have v_1 := hts (.fieldLink RX9 71 "ClockReachModel" "z" "[I") (List.mem_cons_of_mem _ vm_234)
  have v_2 := hts (.constant RX9 327 (1048576)) (List.mem_cons_of_mem _ vm_6)
  have v_3 := hts (.fieldLink RX9 328 "ClockReachModel" "side" "I") (List.mem_cons_of_mem _ vm_209)
  have v_37 := hts (.fieldLink RX9 34 "ClockReachModel" "ofClock" "[I") (List.mem_cons_of_mem _ vm_108)
  have v_41 := hts (.fieldLink RX9 37 "ClockReachModel" "how" "[I") (List.mem_cons_of_mem _ vm_115)
  have v_42 := hts (.fieldLink RX9 40 "ClockReachModel" "limit" "[I") (List.mem_cons_of_mem _ vm_116)
  have hown : s.vm.findClass RX9 = some m.cls := findClass_of_methodNamed B.named
  have hlocks := B.notSynchronized
  have hiX9 : ∀ w ∈ wsX90, w ∈ vs_M_layAhead := fun _ h => List.mem_cons_of_mem _ (List.mem_append_right _ h)
  have hD := hD0.self (sz := s.heap.size)
  generalize hAe : va_A ((mo_w ad ck x0 (nI x16) (nI x18) (nI x19) x20 (nI x21) (nI x22) x23 x24 x25 (nI x26) x27 (nI x28) (nI x29) (nI x30) (nI x33) x45 (nI x46) (nI x52) (nI x53) (nI x61) (nI x62) (nI x63) (nI x65) x66 f1 f2 f3 (bN 3 q4) (bN 7 q5) (bN 7 q6) (bN 4 q7) f8 (bN 2 q9) (bH q10) f11 (b2 m12_0 m12_1) (b2 m13_0 m13_1) (b2 m14_0 m14_1) (b2m m15_0 m15_1) f17 (bA 159 q31) f32 f34 f35 f36 f37 (bN 7 q38) f39 f40 f41 (b2 m42_0 m42_1) f43 f44 f47 f48 f49 f50 f51 (bN 13 q54) (bN 120 q55) (bN 120 q56) f57 (bN 120 q58) f59 f60 f64)) s.heap.size = A at hD ⊢
  have hA : ∀ q : Nat, s.heap.size ≤ q → A q := fun q h => by rw [← hAe]; exact Or.inr h
  have hS : va_S A s.heap s.heap [] := va_S.rf
  have hl := lv_entry ([.ref (ad 0), .int (nI a0)]) (n := 4) (Nat.le_of_ble_eq_true rfl)
  rw [lg_entry_eq]
  generalize (lg_sl ([.ref (ad 0), .int (nI a0)]) ++ List.replicate (4 - (lg_sl ([.ref (ad 0), .int (nI a0)])).length) Slot.unset).toArray = ls at hl ⊢
  have hl : lv_has ls 4 [(0, .ref (ad 0)), (1, .int (nI a0))] := hl
  refine lv_iconst (v := 0) hx hb dX9_layAhead_0 (by decide) ?_
  refine lv_istore_n (lv' := [(2, .int 0), (0, .ref (ad 0)), (1, .int (nI a0))]) hx hb dX9_layAhead_1 rfl hl (by decide) rfl (fun ls hl => ?_)
  refine pu_while (fun nn H locs ls => ∃ (g_3 : Nat → Int32) (g_4 : Nat), nn = 25 - g_4 ∧ g_4 ≤ 25 ∧ va_P (dC, dI) vwCl (mo_w ad ck x0 (nI x16) (nI x18) (nI x19) x20 (nI x21) (nI x22) x23 x24 x25 (nI x26) x27 (nI x28) (nI x29) (nI x30) (nI x33) x45 (nI x46) (nI x52) (nI x53) (nI x61) (nI x62) (nI x63) (nI x65) x66 f1 f2 f3 (bN 3 q4) (bN 7 q5) (bN 7 q6) (bN 4 q7) f8 (bN 2 q9) (bH q10) f11 (b2 m12_0 m12_1) (b2 m13_0 m13_1) (b2 m14_0 m14_1) (b2m m15_0 m15_1) f17 (bA 159 q31) f32 f34 g_3 f36 f37 (bN 7 q38) f39 f40 f41 (b2 m42_0 m42_1) f43 f44 f47 f48 f49 f50 f51 (bN 13 q54) (bN 120 q55) (bN 120 q56) f57 (bN 120 q58) f59 f60 f64) H ∧ va_D A (mo_w ad ck x0 (nI x16) (nI x18) (nI x19) x20 (nI x21) (nI x22) x23 x24 x25 (nI x26) x27 (nI x28) (nI x29) (nI x30) (nI x33) x45 (nI x46) (nI x52) (nI x53) (nI x61) (nI x62) (nI x63) (nI x65) x66 f1 f2 f3 (bN 3 q4) (bN 7 q5) (bN 7 q6) (bN 4 q7) f8 (bN 2 q9) (bH q10) f11 (b2 m12_0 m12_1) (b2 m13_0 m13_1) (b2 m14_0 m14_1) (b2m m15_0 m15_1) f17 (bA 159 q31) f32 f34 g_3 f36 f37 (bN 7 q38) f39 f40 f41 (b2 m42_0 m42_1) f43 f44 f47 f48 f49 f50 f51 (bN 13 q54) (bN 120 q55) (bN 120 q56) f57 (bN 120 q58) f59 f60 f64) ∧ va_S A s.heap H locs ∧ lv_has ls 4 [(0, .ref (ad 0)), (1, .int (nI a0)), (2, .int (nI g_4))]) 2 ?_ _ _ _ _ ⟨f35, 0, rfl, (Nat.le_of_ble_eq_true rfl), hP, hD, hS, lv_sub hl [1, 2, 0] rfl⟩
  rintro nn ih_5 H locs ls ⟨g_3, g_4, rfl, hg_4, hP, hD, hS, hl⟩
  refine lv_iload_n hx hb dX9_layAhead_2 rfl (lv_at hl 2 rfl) ?_
  refine lv_bipush (v := 25) hx hb dX9_layAhead_3 (by decide) ?_
  refine lv_icmp_ge (tgt := 23) hx hb dX9_layAhead_5 (by decide) (fun c_6 => ?_) (fun c_6 => ?_)
  · have c_6 : 25 ≤ g_4 := (nI_leI (a := 25) (b := g_4) (Nat.le_of_ble_eq_true rfl) (Nat.lt_of_le_of_lt hg_4 (Nat.le_of_ble_eq_true rfl))).mp c_6
    refine lv_iconst (v := 0) hx hb dX9_layAhead_23 (by decide) ?_
    refine lv_istore_n (lv' := [(2, .int 0), (0, .ref (ad 0)), (1, .int (nI a0))]) hx hb dX9_layAhead_24 rfl hl (by decide) rfl (fun ls hl => ?_)
    refine pu_while (fun nn H locs ls => ∃ (g_9 : Nat → Int32) (g_10 : Nat), nn = 5 - g_10 ∧ g_10 ≤ 5 ∧ va_P (dC, dI) vwCl (mo_w ad ck x0 (nI x16) (nI x18) (nI x19) x20 (nI x21) (nI x22) x23 x24 x25 (nI x26) x27 (nI x28) (nI x29) (nI x30) (nI x33) x45 (nI x46) (nI x52) (nI x53) (nI x61) (nI x62) (nI x63) (nI x65) x66 f1 f2 f3 (bN 3 q4) (bN 7 q5) (bN 7 q6) (bN 4 q7) f8 (bN 2 q9) (bH q10) f11 (b2 m12_0 m12_1) (b2 m13_0 m13_1) (b2 m14_0 m14_1) (b2m m15_0 m15_1) f17 (bA 159 q31) f32 f34 g_9 f36 f37 (bN 7 q38) f39 f40 f41 (b2 m42_0 m42_1) f43 f44 f47 f48 f49 f50 f51 (bN 13 q54) (bN 120 q55) (bN 120 q56) f57 (bN 120 q58) f59 f60 f64) H ∧ va_D A (mo_w ad ck x0 (nI x16) (nI x18) (nI x19) x20 (nI x21) (nI x22) x23 x24 x25 (nI x26) x27 (nI x28) (nI x29) (nI x30) (nI x33) x45 (nI x46) (nI x52) (nI x53) (nI x61) (nI x62) (nI x63) (nI x65) x66 f1 f2 f3 (bN 3 q4) (bN 7 q5) (bN 7 q6) (bN 4 q7) f8 (bN 2 q9) (bH q10) f11 (b2 m12_0 m12_1) (b2 m13_0 m13_1) (b2 m14_0 m14_1) (b2m m15_0 m15_1) f17 (bA 159 q31) f32 f34 g_9 f36 f37 (bN 7 q38) f39 f40 f41 (b2 m42_0 m42_1) f43 f44 f47 f48 f49 f50 f51 (bN 13 q54) (bN 120 q55) (bN 120 q56) f57 (bN 120 q58) f59 f60 f64) ∧ va_S A s.heap H locs ∧ lv_has ls 4 [(0, .ref (ad 0)), (1, .int (nI a0)), (2, .int (nI g_10))]) 25 ?_ _ _ _ _ ⟨g_3, 0, rfl, (Nat.le_of_ble_eq_true rfl), hP, hD, hS, lv_sub hl [1, 2, 0] rfl⟩
    rintro nn ih_11 H locs ls ⟨g_9, g_10, rfl, hg_10, hP, hD, hS, hl⟩
    refine lv_iload_n hx hb dX9_layAhead_25 rfl (lv_at hl 2 rfl) ?_
    refine lv_aload_n hx hb dX9_layAhead_26 rfl (lv_at hl 0 rfl) ?_
    refine va_get (D := (dC, dI)) (ci := 9) (v := .int (nI x46)) (C := RX9) (T := TX9) (N := 67) hx hb hts hiX9 hown hK hP 0 rfl rfl 46 (by decide) v_3 (fun _ h9 => h9) rfl dX9_layAhead_27 ?_
    refine lv_icmp_ge (tgt := 57) hx hb dX9_layAhead_30 (by decide) (fun c_12 => ?_) (fun c_12 => ?_)
    · have c_12 : x46 ≤ g_10 := (nI_leI (a := x46) (b := g_10) (Nat.lt_of_le_of_lt hx46 (Nat.le_of_ble_eq_true rfl)) (Nat.lt_of_le_of_lt hg_10 (Nat.le_of_ble_eq_true rfl))).mp c_12
      refine lv_aload_n hx hb dX9_layAhead_57 rfl (lv_at hl 0 rfl) ?_
      refine lv_aload_n hx hb dX9_layAhead_58 rfl (lv_at hl 0 rfl) ?_
      refine va_get (D := (dC, dI)) (ci := 9) (v := .ref (ad 35)) (C := RX9) (T := TX9) (N := 67) hx hb hts hiX9 hown hK hP 0 rfl rfl 35 (by decide) v_1 (fun _ h9 => h9) rfl dX9_layAhead_59 ?_
      refine lv_iload_n hx hb dX9_layAhead_62 rfl (lv_at hl 1 rfl) ?_
      have hFc := pu_free hD hS hA
      refine va_callv (va_runV (As := [.ref (ad 35), .int (nI a0)]) (rest := []) ⟨hx, hb, hml, hown, hts⟩ (c_M_holdsAll_e l dC dI _ ad ck x0 x16 x18 x19 x20 x21 x22 x23 x24 x25 x26 x27 x28 x29 x30 x33 x45 x46 x52 x53 x61 x62 x63 x65 x66 f1 f2 f3 q4 q5 q6 q7 f8 q9 q10 f11 m12_0 m12_1 m13_0 m13_1 m14_0 m14_1 m15_0 m15_1 f17 q31 f32 f34 g_9 f36 f37 q38 f39 f40 f41 m42_0 m42_1 f43 f44 f47 f48 f49 f50 f51 q54 q55 q56 f57 q58 f59 f60 f64 a0 hx16 hx18 hx19 hx21 hx22 hx26 hx28 hx29 hx30 hx33 hx46 hx52 hx53 hx61 hx62 hx63 hx65 hm12_0 hm12_1 hm13_0 hm13_1 hm14_0 hm14_1 hm15_0 hm15_1 hm42_0 hm42_1 ha0) (cwV 2 hts g_M_layAhead_M_holdsAll_e rfl rfl rfl (by decide +kernel) ⟨Nat.le_of_ble_eq_true rfl, Nat.le_of_ble_eq_true rfl⟩) ⟨pu_bl, va_recv hK hP (ci := 9) (q0 := 0) rfl rfl, pu_in hP hK hD⟩ rfl rfl hl.1 rfl (lv_room (Nat.le_of_ble_eq_true rfl)) dX9_layAhead_63 ⟨Nat.le_of_ble_eq_true rfl, Nat.le_of_ble_eq_true rfl⟩) hS (fun q _ h => hFc q h) hFc (fun u t H1 locs ht hvm hw hB hz1 hk1 hS => ?_)
      obtain ⟨z35_14, ⟨hP1, -, hD1⟩⟩ := hB
      rw [ht] at hP1
      have hP := hP1
      have hD := pu_all hFc hD1
      clear hP1 hD1 hFc
      clear hk1 hz1 ht hvm
      generalize H1 = H at hP hS ⊢
      refine lv_aload_n hx hb dX9_layAhead_66 rfl (lv_at hl 0 rfl) ?_
      refine lv_aload_n hx hb dX9_layAhead_67 rfl (lv_at hl 0 rfl) ?_
      refine va_get (D := (dC, dI)) (ci := 9) (v := .ref (ad 35)) (C := RX9) (T := TX9) (N := 67) hx hb hts hiX9 hown hK hP 0 rfl rfl 35 (by decide) v_1 (fun _ h9 => h9) rfl dX9_layAhead_68 ?_
      refine lv_bipush (v := 100) hx hb dX9_layAhead_71 (by decide) ?_
      refine lv_aload_n hx hb dX9_layAhead_73 rfl (lv_at hl 0 rfl) ?_
      refine lv_iload_n hx hb dX9_layAhead_74 rfl (lv_at hl 1 rfl) ?_
      refine va_calli (va_runV (As := [.int (nI a0)]) (rest := [.int 100, .ref (ad 35), .ref (ad 0)]) ⟨hx, hb, hml, hown, hts⟩ (c_M_outOf l dC dI _ ad ck x0 x16 x18 x19 x20 x21 x22 x23 x24 x25 x26 x27 x28 x29 x30 x33 x45 x46 x52 x53 x61 x62 x63 x65 x66 f1 f2 f3 q4 q5 q6 q7 f8 q9 q10 f11 m12_0 m12_1 m13_0 m13_1 m14_0 m14_1 m15_0 m15_1 f17 q31 f32 f34 z35_14 f36 f37 q38 f39 f40 f41 m42_0 m42_1 f43 f44 f47 f48 f49 f50 f51 q54 q55 q56 f57 q58 f59 f60 f64 a0 hx16 hx18 hx19 hx21 hx22 hx26 hx28 hx29 hx30 hx33 hx46 hx52 hx53 hx61 hx62 hx63 hx65 hm12_0 hm12_1 hm13_0 hm13_1 hm14_0 hm14_1 hm15_0 hm15_1 hm42_0 hm42_1 ha0) (cwV 1 hts g_M_layAhead_M_outOf rfl rfl rfl (by decide +kernel) ⟨Nat.le_of_ble_eq_true rfl, Nat.le_of_ble_eq_true rfl⟩) ⟨pu_bl, va_recv hK hP (ci := 9) (q0 := 0) rfl rfl, pu_in hP hK hD⟩ rfl rfl hl.1 rfl (lv_room (Nat.le_of_ble_eq_true rfl)) dX9_layAhead_75 ⟨Nat.le_of_ble_eq_true rfl, Nat.le_of_ble_eq_true rfl⟩) hS (fun q _ h => pu_fr hS hA q h) (pu_fr hS hA) (fun r_15 u t H1 locs ht hvm hw hB hz1 hk1 hS => ?_)
      have hP := pu_keep hP hk1
      clear hk1 hz1 ht hvm
      generalize H1 = H at hP hS ⊢
      obtain ⟨u_16, hu_16, rfl⟩ := hw
      refine lv_iadd hx hb dX9_layAhead_78 ?_
      refine lv_topi (fun y_17 ey_17 => ?_)
      obtain rfl : y_17 = (nI (100 + u_16)) := ey_17.trans (nI_add 100 u_16)
      have hFc := pu_free hD hS hA
      refine va_callv (va_runV (As := [.ref (ad 35), .int (nI (100 + u_16))]) (rest := []) ⟨hx, hb, hml, hown, hts⟩ (c_M_holdsAll_p l dC dI _ ad ck x0 x16 x18 x19 x20 x21 x22 x23 x24 x25 x26 x27 x28 x29 x30 x33 x45 x46 x52 x53 x61 x62 x63 x65 x66 f1 f2 f3 q4 q5 q6 q7 f8 q9 q10 f11 m12_0 m12_1 m13_0 m13_1 m14_0 m14_1 m15_0 m15_1 f17 q31 f32 f34 z35_14 f36 f37 q38 f39 f40 f41 m42_0 m42_1 f43 f44 f47 f48 f49 f50 f51 q54 q55 q56 f57 q58 f59 f60 f64 (100 + u_16) hx16 hx18 hx19 hx21 hx22 hx26 hx28 hx29 hx30 hx33 hx46 hx52 hx53 hx61 hx62 hx63 hx65 hm12_0 hm12_1 hm13_0 hm13_1 hm14_0 hm14_1 hm15_0 hm15_1 hm42_0 hm42_1 (by omega) (by omega)) (cwV 2 hts g_M_layAhead_M_holdsAll_p rfl rfl rfl (by decide +kernel) ⟨Nat.le_of_ble_eq_true rfl, Nat.le_of_ble_eq_true rfl⟩) ⟨pu_bl, va_recv hK hP (ci := 9) (q0 := 0) rfl rfl, pu_in hP hK hD⟩ rfl rfl hl.1 rfl (lv_room (Nat.le_of_ble_eq_true rfl)) dX9_layAhead_79 ⟨Nat.le_of_ble_eq_true rfl, Nat.le_of_ble_eq_true rfl⟩) hS (fun q _ h => hFc q h) hFc (fun u t H1 locs ht hvm hw hB hz1 hk1 hS => ?_)
      obtain ⟨z35_19, ⟨hP1, -, hD1⟩⟩ := hB
      rw [ht] at hP1
      have hP := hP1
      have hD := pu_all hFc hD1
      clear hP1 hD1 hFc
      clear hk1 hz1 ht hvm
      generalize H1 = H at hP hS ⊢
      refine lv_iconst (v := 0) hx hb dX9_layAhead_82 (by decide) ?_
      refine lv_istore_n (lv' := [(2, .int 0), (0, .ref (ad 0)), (1, .int (nI a0))]) hx hb dX9_layAhead_83 rfl hl (by decide) rfl (fun ls hl => ?_)
      refine pu_while (fun nn H locs ls => ∃ (g_22 : Nat → Int32) (g_23 : Nat), nn = 3 - g_23 ∧ g_23 ≤ 3 ∧ va_P (dC, dI) vwCl (mo_w ad ck x0 (nI x16) (nI x18) (nI x19) x20 (nI x21) (nI x22) x23 x24 x25 (nI x26) x27 (nI x28) (nI x29) (nI x30) (nI x33) x45 (nI x46) (nI x52) (nI x53) (nI x61) (nI x62) (nI x63) (nI x65) x66 f1 f2 f3 (bN 3 q4) (bN 7 q5) (bN 7 q6) (bN 4 q7) f8 (bN 2 q9) (bH q10) f11 (b2 m12_0 m12_1) (b2 m13_0 m13_1) (b2 m14_0 m14_1) (b2m m15_0 m15_1) f17 (bA 159 q31) f32 f34 g_22 f36 f37 (bN 7 q38) f39 f40 f41 (b2 m42_0 m42_1) f43 f44 f47 f48 f49 f50 f51 (bN 13 q54) (bN 120 q55) (bN 120 q56) f57 (bN 120 q58) f59 f60 f64) H ∧ va_D A (mo_w ad ck x0 (nI x16) (nI x18) (nI x19) x20 (nI x21) (nI x22) x23 x24 x25 (nI x26) x27 (nI x28) (nI x29) (nI x30) (nI x33) x45 (nI x46) (nI x52) (nI x53) (nI x61) (nI x62) (nI x63) (nI x65) x66 f1 f2 f3 (bN 3 q4) (bN 7 q5) (bN 7 q6) (bN 4 q7) f8 (bN 2 q9) (bH q10) f11 (b2 m12_0 m12_1) (b2 m13_0 m13_1) (b2 m14_0 m14_1) (b2m m15_0 m15_1) f17 (bA 159 q31) f32 f34 g_22 f36 f37 (bN 7 q38) f39 f40 f41 (b2 m42_0 m42_1) f43 f44 f47 f48 f49 f50 f51 (bN 13 q54) (bN 120 q55) (bN 120 q56) f57 (bN 120 q58) f59 f60 f64) ∧ va_S A s.heap H locs ∧ lv_has ls 4 [(0, .ref (ad 0)), (1, .int (nI a0)), (2, .int (nI g_23))]) 84 ?_ _ _ _ _ ⟨z35_19, 0, rfl, (Nat.le_of_ble_eq_true rfl), hP, hD, hS, lv_sub hl [1, 2, 0] rfl⟩
      rintro nn ih_24 H locs ls ⟨g_22, g_23, rfl, hg_23, hP, hD, hS, hl⟩
      refine lv_iload_n hx hb dX9_layAhead_84 rfl (lv_at hl 2 rfl) ?_
      refine lv_aload_n hx hb dX9_layAhead_85 rfl (lv_at hl 0 rfl) ?_
      refine lv_bipush (v := 100) hx hb dX9_layAhead_86 (by decide) ?_
      refine lv_aload_n hx hb dX9_layAhead_88 rfl (lv_at hl 0 rfl) ?_
      refine lv_iload_n hx hb dX9_layAhead_89 rfl (lv_at hl 1 rfl) ?_
      refine va_calli (va_runV (As := [.int (nI a0)]) (rest := [.int 100, .ref (ad 0), .int (nI g_23)]) ⟨hx, hb, hml, hown, hts⟩ (c_M_into l dC dI _ ad ck x0 x16 x18 x19 x20 x21 x22 x23 x24 x25 x26 x27 x28 x29 x30 x33 x45 x46 x52 x53 x61 x62 x63 x65 x66 f1 f2 f3 q4 q5 q6 q7 f8 q9 q10 f11 m12_0 m12_1 m13_0 m13_1 m14_0 m14_1 m15_0 m15_1 f17 q31 f32 f34 g_22 f36 f37 q38 f39 f40 f41 m42_0 m42_1 f43 f44 f47 f48 f49 f50 f51 q54 q55 q56 f57 q58 f59 f60 f64 a0 hx16 hx18 hx19 hx21 hx22 hx26 hx28 hx29 hx30 hx33 hx46 hx52 hx53 hx61 hx62 hx63 hx65 hm12_0 hm12_1 hm13_0 hm13_1 hm14_0 hm14_1 hm15_0 hm15_1 hm42_0 hm42_1 ha0) (cwV 1 hts g_M_layAhead_M_into rfl rfl rfl (by decide +kernel) ⟨Nat.le_of_ble_eq_true rfl, Nat.le_of_ble_eq_true rfl⟩) ⟨pu_bl, va_recv hK hP (ci := 9) (q0 := 0) rfl rfl, pu_in hP hK hD⟩ rfl rfl hl.1 rfl (lv_room (Nat.le_of_ble_eq_true rfl)) dX9_layAhead_90 ⟨Nat.le_of_ble_eq_true rfl, Nat.le_of_ble_eq_true rfl⟩) hS (fun q _ h => pu_fr hS hA q h) (pu_fr hS hA) (fun r_25 u t H1 locs ht hvm hw hB hz1 hk1 hS => ?_)
      have hP := pu_keep hP hk1
      clear hk1 hz1 ht hvm
      generalize H1 = H at hP hS ⊢
      obtain ⟨u_26, hu_26, rfl⟩ := hw
      refine lv_iadd hx hb dX9_layAhead_93 ?_
      refine lv_topi (fun y_27 ey_27 => ?_)
      obtain rfl : y_27 = (nI (100 + u_26)) := ey_27.trans (nI_add 100 u_26)
      refine va_calli (va_runV (As := [.int (nI (100 + u_26))]) (rest := [.int (nI g_23)]) ⟨hx, hb, hml, hown, hts⟩ (c_M_manyOf_p l dC dI _ ad ck x0 x16 x18 x19 x20 x21 x22 x23 x24 x25 x26 x27 x28 x29 x30 x33 x45 x46 x52 x53 x61 x62 x63 x65 x66 f1 f2 f3 q4 q5 q6 q7 f8 q9 q10 f11 m12_0 m12_1 m13_0 m13_1 m14_0 m14_1 m15_0 m15_1 f17 q31 f32 f34 g_22 f36 f37 q38 f39 f40 f41 m42_0 m42_1 f43 f44 f47 f48 f49 f50 f51 q54 q55 q56 f57 q58 f59 f60 f64 (100 + u_26) hx16 hx18 hx19 hx21 hx22 hx26 hx28 hx29 hx30 hx33 hx46 hx52 hx53 hx61 hx62 hx63 hx65 hm12_0 hm12_1 hm13_0 hm13_1 hm14_0 hm14_1 hm15_0 hm15_1 hm42_0 hm42_1 (by omega) (by omega)) (cwV 1 hts g_M_layAhead_M_manyOf_p rfl rfl rfl (by decide +kernel) ⟨Nat.le_of_ble_eq_true rfl, Nat.le_of_ble_eq_true rfl⟩) ⟨pu_bl, va_recv hK hP (ci := 9) (q0 := 0) rfl rfl, pu_in hP hK hD⟩ rfl rfl hl.1 rfl (lv_room (Nat.le_of_ble_eq_true rfl)) dX9_layAhead_94 ⟨Nat.le_of_ble_eq_true rfl, Nat.le_of_ble_eq_true rfl⟩) hS (fun q _ h => pu_fr hS hA q h) (pu_fr hS hA) (fun r_28 u t H1 locs ht hvm hw hB hz1 hk1 hS => ?_)
      have hP := pu_keep hP hk1
      clear hk1 hz1 ht hvm
      generalize H1 = H at hP hS ⊢
      rcases hw with rfl | ⟨u_29, hu_29, rfl⟩
      · refine lv_icmp_ge (tgt := 169) hx hb dX9_layAhead_97 (by decide) (fun _ => ?_) (fun z => absurd (pu_negle (n := g_23) (by omega) (by decide)) z)
        refine lv_aload_n hx hb dX9_layAhead_169 rfl (lv_at hl 0 rfl) ?_
        refine lv_aload_n hx hb dX9_layAhead_170 rfl (lv_at hl 0 rfl) ?_
        refine va_get (D := (dC, dI)) (ci := 9) (v := .ref (ad 35)) (C := RX9) (T := TX9) (N := 67) hx hb hts hiX9 hown hK hP 0 rfl rfl 35 (by decide) v_1 (fun _ h9 => h9) rfl dX9_layAhead_171 ?_
        have hFc := pu_free hD hS hA
        refine va_calli (va_runV (As := [.ref (ad 35)]) (rest := []) ⟨hx, hb, hml, hown, hts⟩ (c_M_closes_z l dC dI _ ad ck x0 x16 x18 x19 x20 x21 x22 x23 x24 x25 x26 x27 x28 x29 x30 x33 x45 x46 x52 x53 x61 x62 x63 x65 x66 f1 f2 f3 q4 q5 q6 q7 f8 q9 q10 f11 m12_0 m12_1 m13_0 m13_1 m14_0 m14_1 m15_0 m15_1 f17 q31 f32 f34 g_22 f36 f37 q38 f39 f40 f41 m42_0 m42_1 f43 f44 f47 f48 f49 f50 f51 q54 q55 q56 f57 q58 f59 f60 f64 hx16 hx18 hx19 hx21 hx22 hx26 hx28 hx29 hx30 hx33 hx46 hx52 hx53 hx61 hx62 hx63 hx65 hm12_0 hm12_1 hm13_0 hm13_1 hm14_0 hm14_1 hm15_0 hm15_1 hm42_0 hm42_1) (cwV 1 hts g_M_layAhead_M_closes_z rfl rfl rfl (by decide +kernel) ⟨Nat.le_of_ble_eq_true rfl, Nat.le_of_ble_eq_true rfl⟩) ⟨pu_bl, va_recv hK hP (ci := 9) (q0 := 0) rfl rfl, pu_in hP hK hD⟩ rfl rfl hl.1 rfl (lv_room (Nat.le_of_ble_eq_true rfl)) dX9_layAhead_174 ⟨Nat.le_of_ble_eq_true rfl, Nat.le_of_ble_eq_true rfl⟩) hS (fun q _ h => hFc q h) hFc (fun r_30 u t H1 locs ht hvm hw hB hz1 hk1 hS => ?_)
        obtain ⟨z35_31, ⟨hP1, -, hD1⟩⟩ := hB
        rw [ht] at hP1
        have hP := hP1
        have hD := pu_all hFc hD1
        clear hP1 hD1 hFc
        clear hk1 hz1 ht hvm
        generalize H1 = H at hP hS ⊢
        obtain ⟨u_32, hu_32, rfl⟩ := hw
        refine lv_if_ne (tgt := 182) hx hb dX9_layAhead_177 (by decide) (fun c_33 => ?_) (fun c_33 => ?_)
        · have c_33 : ¬ u_32 = 0 := fun z => c_33 ((nI_eq (a := u_32) (b := 0) (Nat.lt_of_le_of_lt hu_32 (Nat.le_of_ble_eq_true rfl)) (Nat.le_of_ble_eq_true rfl)).mpr z)
          refine lv_aload_n hx hb dX9_layAhead_182 rfl (lv_at hl 0 rfl) ?_
          refine lv_aload_n hx hb dX9_layAhead_183 rfl (lv_at hl 0 rfl) ?_
          refine lv_iload_n hx hb dX9_layAhead_184 rfl (lv_at hl 1 rfl) ?_
          refine va_calli (va_runV (As := [.int (nI a0)]) (rest := [.ref (ad 0)]) ⟨hx, hb, hml, hown, hts⟩ (c_M_outOf l dC dI _ ad ck x0 x16 x18 x19 x20 x21 x22 x23 x24 x25 x26 x27 x28 x29 x30 x33 x45 x46 x52 x53 x61 x62 x63 x65 x66 f1 f2 f3 q4 q5 q6 q7 f8 q9 q10 f11 m12_0 m12_1 m13_0 m13_1 m14_0 m14_1 m15_0 m15_1 f17 q31 f32 f34 z35_31 f36 f37 q38 f39 f40 f41 m42_0 m42_1 f43 f44 f47 f48 f49 f50 f51 q54 q55 q56 f57 q58 f59 f60 f64 a0 hx16 hx18 hx19 hx21 hx22 hx26 hx28 hx29 hx30 hx33 hx46 hx52 hx53 hx61 hx62 hx63 hx65 hm12_0 hm12_1 hm13_0 hm13_1 hm14_0 hm14_1 hm15_0 hm15_1 hm42_0 hm42_1 ha0) (cwV 1 hts g_M_layAhead_M_outOf rfl rfl rfl (by decide +kernel) ⟨Nat.le_of_ble_eq_true rfl, Nat.le_of_ble_eq_true rfl⟩) ⟨pu_bl, va_recv hK hP (ci := 9) (q0 := 0) rfl rfl, pu_in hP hK hD⟩ rfl rfl hl.1 rfl (lv_room (Nat.le_of_ble_eq_true rfl)) dX9_layAhead_185 ⟨Nat.le_of_ble_eq_true rfl, Nat.le_of_ble_eq_true rfl⟩) hS (fun q _ h => pu_fr hS hA q h) (pu_fr hS hA) (fun r_34 u t H1 locs ht hvm hw hB hz1 hk1 hS => ?_)
          have hP := pu_keep hP hk1
          clear hk1 hz1 ht hvm
          generalize H1 = H at hP hS ⊢
          obtain ⟨u_35, hu_35, rfl⟩ := hw
          refine va_calli (va_runV (As := [.int (nI u_35)]) (rest := []) ⟨hx, hb, hml, hown, hts⟩ (c_M_isUrgent l dC dI _ ad ck x0 x16 x18 x19 x20 x21 x22 x23 x24 x25 x26 x27 x28 x29 x30 x33 x45 x46 x52 x53 x61 x62 x63 x65 x66 f1 f2 f3 q4 q5 q6 q7 f8 q9 q10 f11 m12_0 m12_1 m13_0 m13_1 m14_0 m14_1 m15_0 m15_1 f17 q31 f32 f34 z35_31 f36 f37 q38 f39 f40 f41 m42_0 m42_1 f43 f44 f47 f48 f49 f50 f51 q54 q55 q56 f57 q58 f59 f60 f64 u_35 hx16 hx18 hx19 hx21 hx22 hx26 hx28 hx29 hx30 hx33 hx46 hx52 hx53 hx61 hx62 hx63 hx65 hm12_0 hm12_1 hm13_0 hm13_1 hm14_0 hm14_1 hm15_0 hm15_1 hm42_0 hm42_1 hu_35) (cwV 1 hts g_M_layAhead_M_isUrgent rfl rfl rfl (by decide +kernel) ⟨Nat.le_of_ble_eq_true rfl, Nat.le_of_ble_eq_true rfl⟩) ⟨pu_bl, va_recv hK hP (ci := 9) (q0 := 0) rfl rfl, pu_in hP hK hD⟩ rfl rfl hl.1 rfl (lv_room (Nat.le_of_ble_eq_true rfl)) dX9_layAhead_188 ⟨Nat.le_of_ble_eq_true rfl, Nat.le_of_ble_eq_true rfl⟩) hS (fun q _ h => pu_fr hS hA q h) (pu_fr hS hA) (fun r_36 u t H1 locs ht hvm hw hB hz1 hk1 hS => ?_)
          have hP := pu_keep hP hk1
          clear hk1 hz1 ht hvm
          generalize H1 = H at hP hS ⊢
          obtain ⟨u_37, hu_37, rfl⟩ := hw
          refine lv_if_ne (tgt := 226) hx hb dX9_layAhead_191 (by decide) (fun c_38 => ?_) (fun c_38 => ?_)
          · have c_38 : ¬ u_37 = 0 := fun z => c_38 ((nI_eq (a := u_37) (b := 0) (Nat.lt_of_le_of_lt hu_37 (Nat.le_of_ble_eq_true rfl)) (Nat.le_of_ble_eq_true rfl)).mpr z)
            refine lv_iconst (v := 1) hx hb dX9_layAhead_226 (by decide) ?_
            exact W.zret (v := 1) (ty := .boolean) hx hb hr (rfl) (fun t ht hW => ⟨⟨1, (), rfl, ⟨1, (Nat.le_of_ble_eq_true rfl), rfl⟩, ⟨z35_31, ⟨by rw [ht]; exact hP, va_K.moved hW.alike hK, hD⟩⟩⟩, hS.F ht⟩) hS.2.2 dX9_layAhead_227
          · have c_38 : u_37 = 0 := (nI_eq (a := u_37) (b := 0) (Nat.lt_of_le_of_lt hu_37 (Nat.le_of_ble_eq_true rfl)) (Nat.le_of_ble_eq_true rfl)).mp c_38
            refine lv_iconst (v := 1) hx hb dX9_layAhead_194 (by decide) ?_
            refine lv_istore_n (lv' := [(2, .int 1), (0, .ref (ad 0)), (1, .int (nI a0))]) hx hb dX9_layAhead_195 rfl hl (by decide) rfl (fun ls hl => ?_)
            refine pu_while (fun nn H locs ls => ∃ (g_41 : Nat → Int32) (g_42 : Nat), nn = 5 - g_42 ∧ (1 ≤ g_42 ∧ g_42 ≤ 5) ∧ va_P (dC, dI) vwCl (mo_w ad ck x0 (nI x16) (nI x18) (nI x19) x20 (nI x21) (nI x22) x23 x24 x25 (nI x26) x27 (nI x28) (nI x29) (nI x30) (nI x33) x45 (nI x46) (nI x52) (nI x53) (nI x61) (nI x62) (nI x63) (nI x65) x66 f1 f2 f3 (bN 3 q4) (bN 7 q5) (bN 7 q6) (bN 4 q7) f8 (bN 2 q9) (bH q10) f11 (b2 m12_0 m12_1) (b2 m13_0 m13_1) (b2 m14_0 m14_1) (b2m m15_0 m15_1) f17 (bA 159 q31) f32 f34 g_41 f36 f37 (bN 7 q38) f39 f40 f41 (b2 m42_0 m42_1) f43 f44 f47 f48 f49 f50 f51 (bN 13 q54) (bN 120 q55) (bN 120 q56) f57 (bN 120 q58) f59 f60 f64) H ∧ va_D A (mo_w ad ck x0 (nI x16) (nI x18) (nI x19) x20 (nI x21) (nI x22) x23 x24 x25 (nI x26) x27 (nI x28) (nI x29) (nI x30) (nI x33) x45 (nI x46) (nI x52) (nI x53) (nI x61) (nI x62) (nI x63) (nI x65) x66 f1 f2 f3 (bN 3 q4) (bN 7 q5) (bN 7 q6) (bN 4 q7) f8 (bN 2 q9) (bH q10) f11 (b2 m12_0 m12_1) (b2 m13_0 m13_1) (b2 m14_0 m14_1) (b2m m15_0 m15_1) f17 (bA 159 q31) f32 f34 g_41 f36 f37 (bN 7 q38) f39 f40 f41 (b2 m42_0 m42_1) f43 f44 f47 f48 f49 f50 f51 (bN 13 q54) (bN 120 q55) (bN 120 q56) f57 (bN 120 q58) f59 f60 f64) ∧ va_S A s.heap H locs ∧ lv_has ls 4 [(0, .ref (ad 0)), (1, .int (nI a0)), (2, .int (nI g_42))]) 196 ?_ _ _ _ _ ⟨z35_31, 1, rfl, ⟨by omega, by omega⟩, hP, hD, hS, lv_sub hl [1, 2, 0] rfl⟩
            rintro nn ih_43 H locs ls ⟨g_41, g_42, rfl, hg_42, hP, hD, hS, hl⟩
            refine lv_iload_n hx hb dX9_layAhead_196 rfl (lv_at hl 2 rfl) ?_
            refine lv_aload_n hx hb dX9_layAhead_197 rfl (lv_at hl 0 rfl) ?_
            refine va_get (D := (dC, dI)) (ci := 9) (v := .int (nI x46)) (C := RX9) (T := TX9) (N := 67) hx hb hts hiX9 hown hK hP 0 rfl rfl 46 (by decide) v_3 (fun _ h9 => h9) rfl dX9_layAhead_198 ?_
            refine lv_icmp_ge (tgt := 217) hx hb dX9_layAhead_201 (by decide) (fun c_44 => ?_) (fun c_44 => ?_)
            · have c_44 : x46 ≤ g_42 := (nI_leI (a := x46) (b := g_42) (Nat.lt_of_le_of_lt hx46 (Nat.le_of_ble_eq_true rfl)) (Nat.lt_of_le_of_lt hg_42.2 (Nat.le_of_ble_eq_true rfl))).mp c_44
              refine lv_aload_n hx hb dX9_layAhead_217 rfl (lv_at hl 0 rfl) ?_
              refine lv_aload_n hx hb dX9_layAhead_218 rfl (lv_at hl 0 rfl) ?_
              refine va_get (D := (dC, dI)) (ci := 9) (v := .ref (ad 35)) (C := RX9) (T := TX9) (N := 67) hx hb hts hiX9 hown hK hP 0 rfl rfl 35 (by decide) v_1 (fun _ h9 => h9) rfl dX9_layAhead_219 ?_
              have hFc := pu_free hD hS hA
              refine va_calli (va_runV (As := [.ref (ad 35)]) (rest := []) ⟨hx, hb, hml, hown, hts⟩ (c_M_closes_z l dC dI _ ad ck x0 x16 x18 x19 x20 x21 x22 x23 x24 x25 x26 x27 x28 x29 x30 x33 x45 x46 x52 x53 x61 x62 x63 x65 x66 f1 f2 f3 q4 q5 q6 q7 f8 q9 q10 f11 m12_0 m12_1 m13_0 m13_1 m14_0 m14_1 m15_0 m15_1 f17 q31 f32 f34 g_41 f36 f37 q38 f39 f40 f41 m42_0 m42_1 f43 f44 f47 f48 f49 f50 f51 q54 q55 q56 f57 q58 f59 f60 f64 hx16 hx18 hx19 hx21 hx22 hx26 hx28 hx29 hx30 hx33 hx46 hx52 hx53 hx61 hx62 hx63 hx65 hm12_0 hm12_1 hm13_0 hm13_1 hm14_0 hm14_1 hm15_0 hm15_1 hm42_0 hm42_1) (cwV 1 hts g_M_layAhead_M_closes_z rfl rfl rfl (by decide +kernel) ⟨Nat.le_of_ble_eq_true rfl, Nat.le_of_ble_eq_true rfl⟩) ⟨pu_bl, va_recv hK hP (ci := 9) (q0 := 0) rfl rfl, pu_in hP hK hD⟩ rfl rfl hl.1 rfl (lv_room (Nat.le_of_ble_eq_true rfl)) dX9_layAhead_222 ⟨Nat.le_of_ble_eq_true rfl, Nat.le_of_ble_eq_true rfl⟩) hS (fun q _ h => hFc q h) hFc (fun r_45 u t H1 locs ht hvm hw hB hz1 hk1 hS => ?_)
              obtain ⟨z35_46, ⟨hP1, -, hD1⟩⟩ := hB
              rw [ht] at hP1
              have hP := hP1
              have hD := pu_all hFc hD1
              clear hP1 hD1 hFc
              clear hk1 hz1 ht hvm
              generalize H1 = H at hP hS ⊢
              obtain ⟨u_47, hu_47, rfl⟩ := hw
              refine lv_pop hx hb dX9_layAhead_225 rfl ?_
              refine lv_iconst (v := 1) hx hb dX9_layAhead_226 (by decide) ?_
              exact W.zret (v := 1) (ty := .boolean) hx hb hr (rfl) (fun t ht hW => ⟨⟨1, (), rfl, ⟨1, (Nat.le_of_ble_eq_true rfl), rfl⟩, ⟨z35_46, ⟨by rw [ht]; exact hP, va_K.moved hW.alike hK, hD⟩⟩⟩, hS.F ht⟩) hS.2.2 dX9_layAhead_227
            · have c_44 : ¬ x46 ≤ g_42 := fun z => c_44 ((nI_leI (a := x46) (b := g_42) (Nat.lt_of_le_of_lt hx46 (Nat.le_of_ble_eq_true rfl)) (Nat.lt_of_le_of_lt hg_42.2 (Nat.le_of_ble_eq_true rfl))).mpr z)
              refine lv_aload_n hx hb dX9_layAhead_204 rfl (lv_at hl 0 rfl) ?_
              refine va_get (D := (dC, dI)) (ci := 9) (v := .ref (ad 35)) (C := RX9) (T := TX9) (N := 67) hx hb hts hiX9 hown hK hP 0 rfl rfl 35 (by decide) v_1 (fun _ h9 => h9) rfl dX9_layAhead_205 ?_
              refine lv_iload_n hx hb dX9_layAhead_208 rfl (lv_at hl 2 rfl) ?_
              refine lv_iconst (v := 1) hx hb dX9_layAhead_209 (by decide) ?_
              refine va_iast hx hb hK hP hD hS 20 19 rfl rfl (vp_in_nI (n := g_42) (Nat.lt_of_le_of_lt hg_42.2 (Nat.le_of_ble_eq_true rfl)) (Nat.le_of_ble_eq_true rfl)) dX9_layAhead_210 (fun H locs hP hD hS => ?_)
              have hP : va_P (dC, dI) vwCl (mo_w ad ck x0 (nI x16) (nI x18) (nI x19) x20 (nI x21) (nI x22) x23 x24 x25 (nI x26) x27 (nI x28) (nI x29) (nI x30) (nI x33) x45 (nI x46) (nI x52) (nI x53) (nI x61) (nI x62) (nI x63) (nI x65) x66 f1 f2 f3 (bN 3 q4) (bN 7 q5) (bN 7 q6) (bN 4 q7) f8 (bN 2 q9) (bH q10) f11 (b2 m12_0 m12_1) (b2 m13_0 m13_1) (b2 m14_0 m14_1) (b2m m15_0 m15_1) f17 (bA 159 q31) f32 f34 (upd g_41 ((nI g_42) : Int32).toNatClampNeg 1) f36 f37 (bN 7 q38) f39 f40 f41 (b2 m42_0 m42_1) f43 f44 f47 f48 f49 f50 f51 (bN 13 q54) (bN 120 q55) (bN 120 q56) f57 (bN 120 q58) f59 f60 f64) H := hP
              have hD : va_D A (mo_w ad ck x0 (nI x16) (nI x18) (nI x19) x20 (nI x21) (nI x22) x23 x24 x25 (nI x26) x27 (nI x28) (nI x29) (nI x30) (nI x33) x45 (nI x46) (nI x52) (nI x53) (nI x61) (nI x62) (nI x63) (nI x65) x66 f1 f2 f3 (bN 3 q4) (bN 7 q5) (bN 7 q6) (bN 4 q7) f8 (bN 2 q9) (bH q10) f11 (b2 m12_0 m12_1) (b2 m13_0 m13_1) (b2 m14_0 m14_1) (b2m m15_0 m15_1) f17 (bA 159 q31) f32 f34 (upd g_41 ((nI g_42) : Int32).toNatClampNeg 1) f36 f37 (bN 7 q38) f39 f40 f41 (b2 m42_0 m42_1) f43 f44 f47 f48 f49 f50 f51 (bN 13 q54) (bN 120 q55) (bN 120 q56) f57 (bN 120 q58) f59 f60 f64) := hD
              refine lv_iinc (v := (nI (g_42 + 1))) (lv' := [(2, .int (nI (g_42 + 1))), (0, .ref (ad 0)), (1, .int (nI a0))]) hx hb dX9_layAhead_211 hl (k := 2) rfl (nI_1 _) (by decide) rfl (fun ls hl => ?_)
              refine lv_goto (tgt := 196) hx hb dX9_layAhead_214 (by decide) ?_
              exact ih_43 (5 - (g_42 + 1)) (by omega) _ _ _ ⟨(upd g_41 ((nI g_42) : Int32).toNatClampNeg 1), (g_42 + 1), rfl, ⟨by omega, by omega⟩, hP, hD, hS, lv_sub hl [1, 2, 0] rfl⟩
        · have c_33 : u_32 = 0 := (nI_eq (a := u_32) (b := 0) (Nat.lt_of_le_of_lt hu_32 (Nat.le_of_ble_eq_true rfl)) (Nat.le_of_ble_eq_true rfl)).mp c_33
          refine lv_iconst (v := 0) hx hb dX9_layAhead_180 (by decide) ?_
          exact W.zret (v := 0) (ty := .boolean) hx hb hr (rfl) (fun t ht hW => ⟨⟨0, (), rfl, ⟨0, (Nat.le_of_ble_eq_true rfl), rfl⟩, ⟨z35_31, ⟨by rw [ht]; exact hP, va_K.moved hW.alike hK, hD⟩⟩⟩, hS.F ht⟩) hS.2.2 dX9_layAhead_181
      · refine lv_icmp_ge (tgt := 169) hx hb dX9_layAhead_97 (by decide) (fun c_48 => ?_) (fun c_48 => ?_)
        · have c_48 : u_29 ≤ g_23 := (nI_leI (a := u_29) (b := g_23) (Nat.lt_of_le_of_lt hu_29 (Nat.le_of_ble_eq_true rfl)) (Nat.lt_of_le_of_lt hg_23 (Nat.le_of_ble_eq_true rfl))).mp c_48
          refine lv_aload_n hx hb dX9_layAhead_169 rfl (lv_at hl 0 rfl) ?_
          refine lv_aload_n hx hb dX9_layAhead_170 rfl (lv_at hl 0 rfl) ?_
          refine va_get (D := (dC, dI)) (ci := 9) (v := .ref (ad 35)) (C := RX9) (T := TX9) (N := 67) hx hb hts hiX9 hown hK hP 0 rfl rfl 35 (by decide) v_1 (fun _ h9 => h9) rfl dX9_layAhead_171 ?_
          have hFc := pu_free hD hS hA
          refine va_calli (va_runV (As := [.ref (ad 35)]) (rest := []) ⟨hx, hb, hml, hown, hts⟩ (c_M_closes_z l dC dI _ ad ck x0 x16 x18 x19 x20 x21 x22 x23 x24 x25 x26 x27 x28 x29 x30 x33 x45 x46 x52 x53 x61 x62 x63 x65 x66 f1 f2 f3 q4 q5 q6 q7 f8 q9 q10 f11 m12_0 m12_1 m13_0 m13_1 m14_0 m14_1 m15_0 m15_1 f17 q31 f32 f34 g_22 f36 f37 q38 f39 f40 f41 m42_0 m42_1 f43 f44 f47 f48 f49 f50 f51 q54 q55 q56 f57 q58 f59 f60 f64 hx16 hx18 hx19 hx21 hx22 hx26 hx28 hx29 hx30 hx33 hx46 hx52 hx53 hx61 hx62 hx63 hx65 hm12_0 hm12_1 hm13_0 hm13_1 hm14_0 hm14_1 hm15_0 hm15_1 hm42_0 hm42_1) (cwV 1 hts g_M_layAhead_M_closes_z rfl rfl rfl (by decide +kernel) ⟨Nat.le_of_ble_eq_true rfl, Nat.le_of_ble_eq_true rfl⟩) ⟨pu_bl, va_recv hK hP (ci := 9) (q0 := 0) rfl rfl, pu_in hP hK hD⟩ rfl rfl hl.1 rfl (lv_room (Nat.le_of_ble_eq_true rfl)) dX9_layAhead_174 ⟨Nat.le_of_ble_eq_true rfl, Nat.le_of_ble_eq_true rfl⟩) hS (fun q _ h => hFc q h) hFc (fun r_49 u t H1 locs ht hvm hw hB hz1 hk1 hS => ?_)
          obtain ⟨z35_50, ⟨hP1, -, hD1⟩⟩ := hB
          rw [ht] at hP1
          have hP := hP1
          have hD := pu_all hFc hD1
          clear hP1 hD1 hFc
          clear hk1 hz1 ht hvm
          generalize H1 = H at hP hS ⊢
          obtain ⟨u_51, hu_51, rfl⟩ := hw
          refine lv_if_ne (tgt := 182) hx hb dX9_layAhead_177 (by decide) (fun c_52 => ?_) (fun c_52 => ?_)
          · have c_52 : ¬ u_51 = 0 := fun z => c_52 ((nI_eq (a := u_51) (b := 0) (Nat.lt_of_le_of_lt hu_51 (Nat.le_of_ble_eq_true rfl)) (Nat.le_of_ble_eq_true rfl)).mpr z)
            refine lv_aload_n hx hb dX9_layAhead_182 rfl (lv_at hl 0 rfl) ?_
            refine lv_aload_n hx hb dX9_layAhead_183 rfl (lv_at hl 0 rfl) ?_
            refine lv_iload_n hx hb dX9_layAhead_184 rfl (lv_at hl 1 rfl) ?_
            refine va_calli (va_runV (As := [.int (nI a0)]) (rest := [.ref (ad 0)]) ⟨hx, hb, hml, hown, hts⟩ (c_M_outOf l dC dI _ ad ck x0 x16 x18 x19 x20 x21 x22 x23 x24 x25 x26 x27 x28 x29 x30 x33 x45 x46 x52 x53 x61 x62 x63 x65 x66 f1 f2 f3 q4 q5 q6 q7 f8 q9 q10 f11 m12_0 m12_1 m13_0 m13_1 m14_0 m14_1 m15_0 m15_1 f17 q31 f32 f34 z35_50 f36 f37 q38 f39 f40 f41 m42_0 m42_1 f43 f44 f47 f48 f49 f50 f51 q54 q55 q56 f57 q58 f59 f60 f64 a0 hx16 hx18 hx19 hx21 hx22 hx26 hx28 hx29 hx30 hx33 hx46 hx52 hx53 hx61 hx62 hx63 hx65 hm12_0 hm12_1 hm13_0 hm13_1 hm14_0 hm14_1 hm15_0 hm15_1 hm42_0 hm42_1 ha0) (cwV 1 hts g_M_layAhead_M_outOf rfl rfl rfl (by decide +kernel) ⟨Nat.le_of_ble_eq_true rfl, Nat.le_of_ble_eq_true rfl⟩) ⟨pu_bl, va_recv hK hP (ci := 9) (q0 := 0) rfl rfl, pu_in hP hK hD⟩ rfl rfl hl.1 rfl (lv_room (Nat.le_of_ble_eq_true rfl)) dX9_layAhead_185 ⟨Nat.le_of_ble_eq_true rfl, Nat.le_of_ble_eq_true rfl⟩) hS (fun q _ h => pu_fr hS hA q h) (pu_fr hS hA) (fun r_53 u t H1 locs ht hvm hw hB hz1 hk1 hS => ?_)
            have hP := pu_keep hP hk1
            clear hk1 hz1 ht hvm
            generalize H1 = H at hP hS ⊢
            obtain ⟨u_54, hu_54, rfl⟩ := hw
            refine va_calli (va_runV (As := [.int (nI u_54)]) (rest := []) ⟨hx, hb, hml, hown, hts⟩ (c_M_isUrgent l dC dI _ ad ck x0 x16 x18 x19 x20 x21 x22 x23 x24 x25 x26 x27 x28 x29 x30 x33 x45 x46 x52 x53 x61 x62 x63 x65 x66 f1 f2 f3 q4 q5 q6 q7 f8 q9 q10 f11 m12_0 m12_1 m13_0 m13_1 m14_0 m14_1 m15_0 m15_1 f17 q31 f32 f34 z35_50 f36 f37 q38 f39 f40 f41 m42_0 m42_1 f43 f44 f47 f48 f49 f50 f51 q54 q55 q56 f57 q58 f59 f60 f64 u_54 hx16 hx18 hx19 hx21 hx22 hx26 hx28 hx29 hx30 hx33 hx46 hx52 hx53 hx61 hx62 hx63 hx65 hm12_0 hm12_1 hm13_0 hm13_1 hm14_0 hm14_1 hm15_0 hm15_1 hm42_0 hm42_1 hu_54) (cwV 1 hts g_M_layAhead_M_isUrgent rfl rfl rfl (by decide +kernel) ⟨Nat.le_of_ble_eq_true rfl, Nat.le_of_ble_eq_true rfl⟩) ⟨pu_bl, va_recv hK hP (ci := 9) (q0 := 0) rfl rfl, pu_in hP hK hD⟩ rfl rfl hl.1 rfl (lv_room (Nat.le_of_ble_eq_true rfl)) dX9_layAhead_188 ⟨Nat.le_of_ble_eq_true rfl, Nat.le_of_ble_eq_true rfl⟩) hS (fun q _ h => pu_fr hS hA q h) (pu_fr hS hA) (fun r_55 u t H1 locs ht hvm hw hB hz1 hk1 hS => ?_)
            have hP := pu_keep hP hk1
            clear hk1 hz1 ht hvm
            generalize H1 = H at hP hS ⊢
            obtain ⟨u_56, hu_56, rfl⟩ := hw
            refine lv_if_ne (tgt := 226) hx hb dX9_layAhead_191 (by decide) (fun c_57 => ?_) (fun c_57 => ?_)
            · have c_57 : ¬ u_56 = 0 := fun z => c_57 ((nI_eq (a := u_56) (b := 0) (Nat.lt_of_le_of_lt hu_56 (Nat.le_of_ble_eq_true rfl)) (Nat.le_of_ble_eq_true rfl)).mpr z)
              refine lv_iconst (v := 1) hx hb dX9_layAhead_226 (by decide) ?_
              exact W.zret (v := 1) (ty := .boolean) hx hb hr (rfl) (fun t ht hW => ⟨⟨1, (), rfl, ⟨1, (Nat.le_of_ble_eq_true rfl), rfl⟩, ⟨z35_50, ⟨by rw [ht]; exact hP, va_K.moved hW.alike hK, hD⟩⟩⟩, hS.F ht⟩) hS.2.2 dX9_layAhead_227
            · have c_57 : u_56 = 0 := (nI_eq (a := u_56) (b := 0) (Nat.lt_of_le_of_lt hu_56 (Nat.le_of_ble_eq_true rfl)) (Nat.le_of_ble_eq_true rfl)).mp c_57
              refine lv_iconst (v := 1) hx hb dX9_layAhead_194 (by decide) ?_
              refine lv_istore_n (lv' := [(2, .int 1), (0, .ref (ad 0)), (1, .int (nI a0))]) hx hb dX9_layAhead_195 rfl hl (by decide) rfl (fun ls hl => ?_)
              refine pu_while (fun nn H locs ls => ∃ (g_60 : Nat → Int32) (g_61 : Nat), nn = 5 - g_61 ∧ (1 ≤ g_61 ∧ g_61 ≤ 5) ∧ va_P (dC, dI) vwCl (mo_w ad ck x0 (nI x16) (nI x18) (nI x19) x20 (nI x21) (nI x22) x23 x24 x25 (nI x26) x27 (nI x28) (nI x29) (nI x30) (nI x33) x45 (nI x46) (nI x52) (nI x53) (nI x61) (nI x62) (nI x63) (nI x65) x66 f1 f2 f3 (bN 3 q4) (bN 7 q5) (bN 7 q6) (bN 4 q7) f8 (bN 2 q9) (bH q10) f11 (b2 m12_0 m12_1) (b2 m13_0 m13_1) (b2 m14_0 m14_1) (b2m m15_0 m15_1) f17 (bA 159 q31) f32 f34 g_60 f36 f37 (bN 7 q38) f39 f40 f41 (b2 m42_0 m42_1) f43 f44 f47 f48 f49 f50 f51 (bN 13 q54) (bN 120 q55) (bN 120 q56) f57 (bN 120 q58) f59 f60 f64) H ∧ va_D A (mo_w ad ck x0 (nI x16) (nI x18) (nI x19) x20 (nI x21) (nI x22) x23 x24 x25 (nI x26) x27 (nI x28) (nI x29) (nI x30) (nI x33) x45 (nI x46) (nI x52) (nI x53) (nI x61) (nI x62) (nI x63) (nI x65) x66 f1 f2 f3 (bN 3 q4) (bN 7 q5) (bN 7 q6) (bN 4 q7) f8 (bN 2 q9) (bH q10) f11 (b2 m12_0 m12_1) (b2 m13_0 m13_1) (b2 m14_0 m14_1) (b2m m15_0 m15_1) f17 (bA 159 q31) f32 f34 g_60 f36 f37 (bN 7 q38) f39 f40 f41 (b2 m42_0 m42_1) f43 f44 f47 f48 f49 f50 f51 (bN 13 q54) (bN 120 q55) (bN 120 q56) f57 (bN 120 q58) f59 f60 f64) ∧ va_S A s.heap H locs ∧ lv_has ls 4 [(0, .ref (ad 0)), (1, .int (nI a0)), (2, .int (nI g_61))]) 196 ?_ _ _ _ _ ⟨z35_50, 1, rfl, ⟨by omega, by omega⟩, hP, hD, hS, lv_sub hl [1, 2, 0] rfl⟩
              rintro nn ih_62 H locs ls ⟨g_60, g_61, rfl, hg_61, hP, hD, hS, hl⟩
              refine lv_iload_n hx hb dX9_layAhead_196 rfl (lv_at hl 2 rfl) ?_
              refine lv_aload_n hx hb dX9_layAhead_197 rfl (lv_at hl 0 rfl) ?_
              refine va_get (D := (dC, dI)) (ci := 9) (v := .int (nI x46)) (C := RX9) (T := TX9) (N := 67) hx hb hts hiX9 hown hK hP 0 rfl rfl 46 (by decide) v_3 (fun _ h9 => h9) rfl dX9_layAhead_198 ?_
              refine lv_icmp_ge (tgt := 217) hx hb dX9_layAhead_201 (by decide) (fun c_63 => ?_) (fun c_63 => ?_)
              · have c_63 : x46 ≤ g_61 := (nI_leI (a := x46) (b := g_61) (Nat.lt_of_le_of_lt hx46 (Nat.le_of_ble_eq_true rfl)) (Nat.lt_of_le_of_lt hg_61.2 (Nat.le_of_ble_eq_true rfl))).mp c_63
                refine lv_aload_n hx hb dX9_layAhead_217 rfl (lv_at hl 0 rfl) ?_
                refine lv_aload_n hx hb dX9_layAhead_218 rfl (lv_at hl 0 rfl) ?_
                refine va_get (D := (dC, dI)) (ci := 9) (v := .ref (ad 35)) (C := RX9) (T := TX9) (N := 67) hx hb hts hiX9 hown hK hP 0 rfl rfl 35 (by decide) v_1 (fun _ h9 => h9) rfl dX9_layAhead_219 ?_
                have hFc := pu_free hD hS hA
                refine va_calli (va_runV (As := [.ref (ad 35)]) (rest := []) ⟨hx, hb, hml, hown, hts⟩ (c_M_closes_z l dC dI _ ad ck x0 x16 x18 x19 x20 x21 x22 x23 x24 x25 x26 x27 x28 x29 x30 x33 x45 x46 x52 x53 x61 x62 x63 x65 x66 f1 f2 f3 q4 q5 q6 q7 f8 q9 q10 f11 m12_0 m12_1 m13_0 m13_1 m14_0 m14_1 m15_0 m15_1 f17 q31 f32 f34 g_60 f36 f37 q38 f39 f40 f41 m42_0 m42_1 f43 f44 f47 f48 f49 f50 f51 q54 q55 q56 f57 q58 f59 f60 f64 hx16 hx18 hx19 hx21 hx22 hx26 hx28 hx29 hx30 hx33 hx46 hx52 hx53 hx61 hx62 hx63 hx65 hm12_0 hm12_1 hm13_0 hm13_1 hm14_0 hm14_1 hm15_0 hm15_1 hm42_0 hm42_1) (cwV 1 hts g_M_layAhead_M_closes_z rfl rfl rfl (by decide +kernel) ⟨Nat.le_of_ble_eq_true rfl, Nat.le_of_ble_eq_true rfl⟩) ⟨pu_bl, va_recv hK hP (ci := 9) (q0 := 0) rfl rfl, pu_in hP hK hD⟩ rfl rfl hl.1 rfl (lv_room (Nat.le_of_ble_eq_true rfl)) dX9_layAhead_222 ⟨Nat.le_of_ble_eq_true rfl, Nat.le_of_ble_eq_true rfl⟩) hS (fun q _ h => hFc q h) hFc (fun r_64 u t H1 locs ht hvm hw hB hz1 hk1 hS => ?_)
                obtain ⟨z35_65, ⟨hP1, -, hD1⟩⟩ := hB
                rw [ht] at hP1
                have hP := hP1
                have hD := pu_all hFc hD1
                clear hP1 hD1 hFc
                clear hk1 hz1 ht hvm
                generalize H1 = H at hP hS ⊢
                obtain ⟨u_66, hu_66, rfl⟩ := hw
                refine lv_pop hx hb dX9_layAhead_225 rfl ?_
                refine lv_iconst (v := 1) hx hb dX9_layAhead_226 (by decide) ?_
                exact W.zret (v := 1) (ty := .boolean) hx hb hr (rfl) (fun t ht hW => ⟨⟨1, (), rfl, ⟨1, (Nat.le_of_ble_eq_true rfl), rfl⟩, ⟨z35_65, ⟨by rw [ht]; exact hP, va_K.moved hW.alike hK, hD⟩⟩⟩, hS.F ht⟩) hS.2.2 dX9_layAhead_227
              · have c_63 : ¬ x46 ≤ g_61 := fun z => c_63 ((nI_leI (a := x46) (b := g_61) (Nat.lt_of_le_of_lt hx46 (Nat.le_of_ble_eq_true rfl)) (Nat.lt_of_le_of_lt hg_61.2 (Nat.le_of_ble_eq_true rfl))).mpr z)
                refine lv_aload_n hx hb dX9_layAhead_204 rfl (lv_at hl 0 rfl) ?_
                refine va_get (D := (dC, dI)) (ci := 9) (v := .ref (ad 35)) (C := RX9) (T := TX9) (N := 67) hx hb hts hiX9 hown hK hP 0 rfl rfl 35 (by decide) v_1 (fun _ h9 => h9) rfl dX9_layAhead_205 ?_
                refine lv_iload_n hx hb dX9_layAhead_208 rfl (lv_at hl 2 rfl) ?_
                refine lv_iconst (v := 1) hx hb dX9_layAhead_209 (by decide) ?_
                refine va_iast hx hb hK hP hD hS 20 19 rfl rfl (vp_in_nI (n := g_61) (Nat.lt_of_le_of_lt hg_61.2 (Nat.le_of_ble_eq_true rfl)) (Nat.le_of_ble_eq_true rfl)) dX9_layAhead_210 (fun H locs hP hD hS => ?_)
                have hP : va_P (dC, dI) vwCl (mo_w ad ck x0 (nI x16) (nI x18) (nI x19) x20 (nI x21) (nI x22) x23 x24 x25 (nI x26) x27 (nI x28) (nI x29) (nI x30) (nI x33) x45 (nI x46) (nI x52) (nI x53) (nI x61) (nI x62) (nI x63) (nI x65) x66 f1 f2 f3 (bN 3 q4) (bN 7 q5) (bN 7 q6) (bN 4 q7) f8 (bN 2 q9) (bH q10) f11 (b2 m12_0 m12_1) (b2 m13_0 m13_1) (b2 m14_0 m14_1) (b2m m15_0 m15_1) f17 (bA 159 q31) f32 f34 (upd g_60 ((nI g_61) : Int32).toNatClampNeg 1) f36 f37 (bN 7 q38) f39 f40 f41 (b2 m42_0 m42_1) f43 f44 f47 f48 f49 f50 f51 (bN 13 q54) (bN 120 q55) (bN 120 q56) f57 (bN 120 q58) f59 f60 f64) H := hP
                have hD : va_D A (mo_w ad ck x0 (nI x16) (nI x18) (nI x19) x20 (nI x21) (nI x22) x23 x24 x25 (nI x26) x27 (nI x28) (nI x29) (nI x30) (nI x33) x45 (nI x46) (nI x52) (nI x53) (nI x61) (nI x62) (nI x63) (nI x65) x66 f1 f2 f3 (bN 3 q4) (bN 7 q5) (bN 7 q6) (bN 4 q7) f8 (bN 2 q9) (bH q10) f11 (b2 m12_0 m12_1) (b2 m13_0 m13_1) (b2 m14_0 m14_1) (b2m m15_0 m15_1) f17 (bA 159 q31) f32 f34 (upd g_60 ((nI g_61) : Int32).toNatClampNeg 1) f36 f37 (bN 7 q38) f39 f40 f41 (b2 m42_0 m42_1) f43 f44 f47 f48 f49 f50 f51 (bN 13 q54) (bN 120 q55) (bN 120 q56) f57 (bN 120 q58) f59 f60 f64) := hD
                refine lv_iinc (v := (nI (g_61 + 1))) (lv' := [(2, .int (nI (g_61 + 1))), (0, .ref (ad 0)), (1, .int (nI a0))]) hx hb dX9_layAhead_211 hl (k := 2) rfl (nI_1 _) (by decide) rfl (fun ls hl => ?_)
                refine lv_goto (tgt := 196) hx hb dX9_layAhead_214 (by decide) ?_
                exact ih_62 (5 - (g_61 + 1)) (by omega) _ _ _ ⟨(upd g_60 ((nI g_61) : Int32).toNatClampNeg 1), (g_61 + 1), rfl, ⟨by omega, by omega⟩, hP, hD, hS, lv_sub hl [1, 2, 0] rfl⟩
          · have c_52 : u_51 = 0 := (nI_eq (a := u_51) (b := 0) (Nat.lt_of_le_of_lt hu_51 (Nat.le_of_ble_eq_true rfl)) (Nat.le_of_ble_eq_true rfl)).mp c_52
            refine lv_iconst (v := 0) hx hb dX9_layAhead_180 (by decide) ?_
            exact W.zret (v := 0) (ty := .boolean) hx hb hr (rfl) (fun t ht hW => ⟨⟨0, (), rfl, ⟨0, (Nat.le_of_ble_eq_true rfl), rfl⟩, ⟨z35_50, ⟨by rw [ht]; exact hP, va_K.moved hW.alike hK, hD⟩⟩⟩, hS.F ht⟩) hS.2.2 dX9_layAhead_181
        · have c_48 : ¬ u_29 ≤ g_23 := fun z => c_48 ((nI_leI (a := u_29) (b := g_23) (Nat.lt_of_le_of_lt hu_29 (Nat.le_of_ble_eq_true rfl)) (Nat.lt_of_le_of_lt hg_23 (Nat.le_of_ble_eq_true rfl))).mpr z)
          refine lv_aload_n hx hb dX9_layAhead_100 rfl (lv_at hl 0 rfl) ?_
          refine lv_bipush (v := 100) hx hb dX9_layAhead_101 (by decide) ?_
          refine lv_aload_n hx hb dX9_layAhead_103 rfl (lv_at hl 0 rfl) ?_
          refine lv_iload_n hx hb dX9_layAhead_104 rfl (lv_at hl 1 rfl) ?_
          refine va_calli (va_runV (As := [.int (nI a0)]) (rest := [.int 100, .ref (ad 0)]) ⟨hx, hb, hml, hown, hts⟩ (c_M_into l dC dI _ ad ck x0 x16 x18 x19 x20 x21 x22 x23 x24 x25 x26 x27 x28 x29 x30 x33 x45 x46 x52 x53 x61 x62 x63 x65 x66 f1 f2 f3 q4 q5 q6 q7 f8 q9 q10 f11 m12_0 m12_1 m13_0 m13_1 m14_0 m14_1 m15_0 m15_1 f17 q31 f32 f34 g_22 f36 f37 q38 f39 f40 f41 m42_0 m42_1 f43 f44 f47 f48 f49 f50 f51 q54 q55 q56 f57 q58 f59 f60 f64 a0 hx16 hx18 hx19 hx21 hx22 hx26 hx28 hx29 hx30 hx33 hx46 hx52 hx53 hx61 hx62 hx63 hx65 hm12_0 hm12_1 hm13_0 hm13_1 hm14_0 hm14_1 hm15_0 hm15_1 hm42_0 hm42_1 ha0) (cwV 1 hts g_M_layAhead_M_into rfl rfl rfl (by decide +kernel) ⟨Nat.le_of_ble_eq_true rfl, Nat.le_of_ble_eq_true rfl⟩) ⟨pu_bl, va_recv hK hP (ci := 9) (q0 := 0) rfl rfl, pu_in hP hK hD⟩ rfl rfl hl.1 rfl (lv_room (Nat.le_of_ble_eq_true rfl)) dX9_layAhead_105 ⟨Nat.le_of_ble_eq_true rfl, Nat.le_of_ble_eq_true rfl⟩) hS (fun q _ h => pu_fr hS hA q h) (pu_fr hS hA) (fun r_67 u t H1 locs ht hvm hw hB hz1 hk1 hS => ?_)
          have hP := pu_keep hP hk1
          clear hk1 hz1 ht hvm
          generalize H1 = H at hP hS ⊢
          obtain ⟨u_68, hu_68, rfl⟩ := hw
          refine lv_iadd hx hb dX9_layAhead_108 ?_
          refine lv_topi (fun y_69 ey_69 => ?_)
          obtain rfl : y_69 = (nI (100 + u_68)) := ey_69.trans (nI_add 100 u_68)
          refine lv_iload_n hx hb dX9_layAhead_109 rfl (lv_at hl 2 rfl) ?_
          refine va_calli (va_runV (As := [.int (nI (100 + u_68)), .int (nI g_23)]) (rest := []) ⟨hx, hb, hml, hown, hts⟩ (c_M_spot_p l dC dI _ ad ck x0 x16 x18 x19 x20 x21 x22 x23 x24 x25 x26 x27 x28 x29 x30 x33 x45 x46 x52 x53 x61 x62 x63 x65 x66 f1 f2 f3 q4 q5 q6 q7 f8 q9 q10 f11 m12_0 m12_1 m13_0 m13_1 m14_0 m14_1 m15_0 m15_1 f17 q31 f32 f34 g_22 f36 f37 q38 f39 f40 f41 m42_0 m42_1 f43 f44 f47 f48 f49 f50 f51 q54 q55 q56 f57 q58 f59 f60 f64 (100 + u_68) g_23 hx16 hx18 hx19 hx21 hx22 hx26 hx28 hx29 hx30 hx33 hx46 hx52 hx53 hx61 hx62 hx63 hx65 hm12_0 hm12_1 hm13_0 hm13_1 hm14_0 hm14_1 hm15_0 hm15_1 hm42_0 hm42_1 (by omega) (by omega) (by omega)) (cwV 2 hts g_M_layAhead_M_spot_p rfl rfl rfl (by decide +kernel) ⟨Nat.le_of_ble_eq_true rfl, Nat.le_of_ble_eq_true rfl⟩) ⟨pu_bl, va_recv hK hP (ci := 9) (q0 := 0) rfl rfl, pu_in hP hK hD⟩ rfl rfl hl.1 rfl (lv_room (Nat.le_of_ble_eq_true rfl)) dX9_layAhead_110 ⟨Nat.le_of_ble_eq_true rfl, Nat.le_of_ble_eq_true rfl⟩) hS (fun q _ h => pu_fr hS hA q h) (pu_fr hS hA) (fun r_70 u t H1 locs ht hvm hw hB hz1 hk1 hS => ?_)
          have hP := pu_keep hP hk1
          clear hk1 hz1 ht hvm
          generalize H1 = H at hP hS ⊢
          obtain rfl : r_70 = nI (80 * x16 + (56 + 3 * ((100 + u_68) - 100)) + g_23) := hw
          refine lv_istore_n (lv' := [(3, .int (nI (80 * x16 + (56 + 3 * ((100 + u_68) - 100)) + g_23))), (0, .ref (ad 0)), (1, .int (nI a0)), (2, .int (nI g_23))]) hx hb dX9_layAhead_113 rfl hl (by decide) rfl (fun ls hl => ?_)
          refine lv_aload_n hx hb dX9_layAhead_114 rfl (lv_at hl 1 rfl) ?_
          refine lv_iload_n hx hb dX9_layAhead_115 rfl (lv_at hl 2 rfl) ?_
          refine va_calli (va_runV (As := [.int (nI a0)]) (rest := []) ⟨hx, hb, hml, hown, hts⟩ (c_M_setBy l dC dI _ ad ck x0 x16 x18 x19 x20 x21 x22 x23 x24 x25 x26 x27 x28 x29 x30 x33 x45 x46 x52 x53 x61 x62 x63 x65 x66 f1 f2 f3 q4 q5 q6 q7 f8 q9 q10 f11 m12_0 m12_1 m13_0 m13_1 m14_0 m14_1 m15_0 m15_1 f17 q31 f32 f34 g_22 f36 f37 q38 f39 f40 f41 m42_0 m42_1 f43 f44 f47 f48 f49 f50 f51 q54 q55 q56 f57 q58 f59 f60 f64 a0 hx16 hx18 hx19 hx21 hx22 hx26 hx28 hx29 hx30 hx33 hx46 hx52 hx53 hx61 hx62 hx63 hx65 hm12_0 hm12_1 hm13_0 hm13_1 hm14_0 hm14_1 hm15_0 hm15_1 hm42_0 hm42_1 ha0) (cwV 1 hts g_M_layAhead_M_setBy rfl rfl rfl (by decide +kernel) ⟨Nat.le_of_ble_eq_true rfl, Nat.le_of_ble_eq_true rfl⟩) ⟨pu_bl, va_recv hK hP (ci := 9) (q0 := 0) rfl rfl, pu_in hP hK hD⟩ rfl rfl hl.1 rfl (lv_room (Nat.le_of_ble_eq_true rfl)) dX9_layAhead_116 ⟨Nat.le_of_ble_eq_true rfl, Nat.le_of_ble_eq_true rfl⟩) hS (fun q _ h => pu_fr hS hA q h) (pu_fr hS hA) (fun r_71 u t H1 locs ht hvm hw hB hz1 hk1 hS => ?_)
          have hP := pu_keep hP hk1
          clear hk1 hz1 ht hvm
          generalize H1 = H at hP hS ⊢
          refine lv_aload_n hx hb dX9_layAhead_119 rfl (lv_at hl 1 rfl) ?_
          refine va_get (D := (dC, dI)) (ci := 9) (v := .ref (ad 9)) (C := RX9) (T := TX9) (N := 67) hx hb hts hiX9 hown hK hP 0 rfl rfl 9 (by decide) v_37 (fun _ h9 => h9) rfl dX9_layAhead_120 ?_
          refine lv_iload_n hx hb dX9_layAhead_123 rfl (lv_at hl 0 rfl) ?_
          refine va_iald hx hb hK hP 9 8 rfl rfl (vp_in_nI (n := (80 * x16 + (56 + 3 * ((100 + u_68) - 100)) + g_23)) (by omega) (Nat.le_of_ble_eq_true rfl)) dX9_layAhead_124 ?_
          refine lv_topi (fun y_72 ey_72 => ?_)
          obtain ⟨u_73, hu_73, qu_73⟩ := bN_get 2 q9 (((nI (80 * x16 + (56 + 3 * ((100 + u_68) - 100)) + g_23)) : Int32).toNatClampNeg)
          obtain rfl : y_72 = nI u_73 := ey_72.trans qu_73
          refine va_calli (va_runS (As := [.int r_71, .int (nI u_73)]) (rest := []) ⟨hx, hb, hml, hown, hts⟩ (c_X9_isOf l dC dI _ r_71 (nI u_73)) (va_cwS 2 hts g_M_layAhead_X9_isOf rfl rfl rfl (by decide +kernel) ⟨Nat.le_of_ble_eq_true rfl, Nat.le_of_ble_eq_true rfl⟩) ⟨pu_bl, pu_in (hP.sub [] rfl) (hK.sub [] rfl) (hD.sub [] (by decide) rfl)⟩ rfl rfl hl.1 rfl (lv_room (Nat.le_of_ble_eq_true rfl)) dX9_layAhead_125 ⟨Nat.le_of_ble_eq_true rfl, Nat.le_of_ble_eq_true rfl⟩) hS (fun q _ h => pu_fr hS hA q h) (pu_fr hS hA) (fun r_74 u t H1 locs ht hvm hw hB hz1 hk1 hS => ?_)
          have hP := pu_keep hP hk1
          clear hk1 hz1 ht hvm
          generalize H1 = H at hP hS ⊢
          obtain ⟨u_75, hu_75, rfl⟩ := pu_bn hw
          refine lv_if_ne (tgt := 143) hx hb dX9_layAhead_128 (by decide) (fun c_76 => ?_) (fun c_76 => ?_)
          · have c_76 : ¬ u_75 = 0 := fun z => c_76 ((nI_eq (a := u_75) (b := 0) (Nat.lt_of_le_of_lt hu_75 (Nat.le_of_ble_eq_true rfl)) (Nat.le_of_ble_eq_true rfl)).mpr z)
            refine lv_aload_n hx hb dX9_layAhead_143 rfl (lv_at hl 1 rfl) ?_
            refine va_get (D := (dC, dI)) (ci := 9) (v := .ref (ad 10)) (C := RX9) (T := TX9) (N := 67) hx hb hts hiX9 hown hK hP 0 rfl rfl 10 (by decide) v_41 (fun _ h9 => h9) rfl dX9_layAhead_144 ?_
            refine lv_iload_n hx hb dX9_layAhead_147 rfl (lv_at hl 0 rfl) ?_
            refine va_iald hx hb hK hP 10 9 rfl rfl (vp_in_nI (n := (80 * x16 + (56 + 3 * ((100 + u_68) - 100)) + g_23)) (by omega) (Nat.le_of_ble_eq_true rfl)) dX9_layAhead_148 ?_
            refine lv_topi (fun y_77 ey_77 => ?_)
            obtain ⟨u_78, hu_78, qu_78⟩ := bH_get q10 (i := (80 * x16 + (56 + 3 * ((100 + u_68) - 100)) + g_23)) (by omega)
            obtain rfl : y_77 = nI u_78 := ey_77.trans qu_78
            refine lv_if_ne (tgt := 163) hx hb dX9_layAhead_149 (by decide) (fun c_79 => ?_) (fun c_79 => ?_)
            · have c_79 : ¬ u_78 = 0 := fun z => c_79 ((nI_eq (a := u_78) (b := 0) (by omega) (Nat.le_of_ble_eq_true rfl)).mpr z)
              refine lv_iinc (v := (nI (g_23 + 1))) (lv' := [(2, .int (nI (g_23 + 1))), (3, .int (nI (80 * x16 + (56 + 3 * ((100 + u_68) - 100)) + g_23))), (0, .ref (ad 0)), (1, .int (nI a0))]) hx hb dX9_layAhead_163 hl (k := 3) rfl (nI_1 _) (by decide) rfl (fun ls hl => ?_)
              refine lv_goto (tgt := 84) hx hb dX9_layAhead_166 (by decide) ?_
              exact ih_24 (3 - (g_23 + 1)) (by omega) _ _ _ ⟨g_22, (g_23 + 1), rfl, (by omega), hP, hD, hS, lv_sub hl [2, 3, 0] rfl⟩
            · have c_79 : u_78 = 0 := (nI_eq (a := u_78) (b := 0) (by omega) (Nat.le_of_ble_eq_true rfl)).mp c_79
              refine lv_aload_n hx hb dX9_layAhead_152 rfl (lv_at hl 1 rfl) ?_
              refine va_get (D := (dC, dI)) (ci := 9) (v := .ref (ad 11)) (C := RX9) (T := TX9) (N := 67) hx hb hts hiX9 hown hK hP 0 rfl rfl 11 (by decide) v_42 (fun _ h9 => h9) rfl dX9_layAhead_153 ?_
              refine lv_iload_n hx hb dX9_layAhead_156 rfl (lv_at hl 0 rfl) ?_
              refine va_iald hx hb hK hP 11 10 rfl rfl (vp_in_nI (n := (80 * x16 + (56 + 3 * ((100 + u_68) - 100)) + g_23)) (by omega) (Nat.le_of_ble_eq_true rfl)) dX9_layAhead_157 ?_
              refine lv_topi (fun y_80 ey_80 => ?_)
              refine lv_if_ne (tgt := 163) hx hb dX9_layAhead_158 (by decide) (fun c_81 => ?_) (fun c_81 => ?_)
              · refine lv_iinc (v := (nI (g_23 + 1))) (lv' := [(2, .int (nI (g_23 + 1))), (3, .int (nI (80 * x16 + (56 + 3 * ((100 + u_68) - 100)) + g_23))), (0, .ref (ad 0)), (1, .int (nI a0))]) hx hb dX9_layAhead_163 hl (k := 3) rfl (nI_1 _) (by decide) rfl (fun ls hl => ?_)
                refine lv_goto (tgt := 84) hx hb dX9_layAhead_166 (by decide) ?_
                exact ih_24 (3 - (g_23 + 1)) (by omega) _ _ _ ⟨g_22, (g_23 + 1), rfl, (by omega), hP, hD, hS, lv_sub hl [2, 3, 0] rfl⟩
              · refine lv_iconst (v := 0) hx hb dX9_layAhead_161 (by decide) ?_
                exact W.zret (v := 0) (ty := .boolean) hx hb hr (rfl) (fun t ht hW => ⟨⟨0, (), rfl, ⟨0, (Nat.le_of_ble_eq_true rfl), rfl⟩, ⟨g_22, ⟨by rw [ht]; exact hP, va_K.moved hW.alike hK, hD⟩⟩⟩, hS.F ht⟩) hS.2.2 dX9_layAhead_162
          · have c_76 : u_75 = 0 := (nI_eq (a := u_75) (b := 0) (Nat.lt_of_le_of_lt hu_75 (Nat.le_of_ble_eq_true rfl)) (Nat.le_of_ble_eq_true rfl)).mp c_76
            refine lv_aload_n hx hb dX9_layAhead_131 rfl (lv_at hl 1 rfl) ?_
            refine lv_aload_n hx hb dX9_layAhead_132 rfl (lv_at hl 1 rfl) ?_
            refine va_get (D := (dC, dI)) (ci := 9) (v := .ref (ad 35)) (C := RX9) (T := TX9) (N := 67) hx hb hts hiX9 hown hK hP 0 rfl rfl 35 (by decide) v_1 (fun _ h9 => h9) rfl dX9_layAhead_133 ?_
            refine lv_iload_n hx hb dX9_layAhead_136 rfl (lv_at hl 0 rfl) ?_
            have hFc := pu_free hD hS hA
            refine va_callv (va_runV (As := [.ref (ad 35), .int (nI (80 * x16 + (56 + 3 * ((100 + u_68) - 100)) + g_23))]) (rest := []) ⟨hx, hb, hml, hown, hts⟩ (c_M_holds l dC dI _ ad ck x0 x16 x18 x19 x20 x21 x22 x23 x24 x25 x26 x27 x28 x29 x30 x33 x45 x46 x52 x53 x61 x62 x63 x65 x66 f1 f2 f3 q4 q5 q6 q7 f8 q9 q10 f11 m12_0 m12_1 m13_0 m13_1 m14_0 m14_1 m15_0 m15_1 f17 q31 f32 f34 g_22 f36 f37 q38 f39 f40 f41 m42_0 m42_1 f43 f44 f47 f48 f49 f50 f51 q54 q55 q56 f57 q58 f59 f60 f64 (80 * x16 + (56 + 3 * ((100 + u_68) - 100)) + g_23) hx16 hx18 hx19 hx21 hx22 hx26 hx28 hx29 hx30 hx33 hx46 hx52 hx53 hx61 hx62 hx63 hx65 hm12_0 hm12_1 hm13_0 hm13_1 hm14_0 hm14_1 hm15_0 hm15_1 hm42_0 hm42_1 (by omega)) (cwV 2 hts g_M_layAhead_M_holds rfl rfl rfl (by decide +kernel) ⟨Nat.le_of_ble_eq_true rfl, Nat.le_of_ble_eq_true rfl⟩) ⟨pu_bl, va_recv hK hP (ci := 9) (q0 := 0) rfl rfl, pu_in hP hK hD⟩ rfl rfl hl.1 rfl (lv_room (Nat.le_of_ble_eq_true rfl)) dX9_layAhead_137 ⟨Nat.le_of_ble_eq_true rfl, Nat.le_of_ble_eq_true rfl⟩) hS (fun q _ h => hFc q h) hFc (fun u t H1 locs ht hvm hw hB hz1 hk1 hS => ?_)
            obtain ⟨z35_83, ⟨hP1, -, hD1⟩⟩ := hB
            rw [ht] at hP1
            have hP := hP1
            have hD := pu_all hFc hD1
            clear hP1 hD1 hFc
            clear hk1 hz1 ht hvm
            generalize H1 = H at hP hS ⊢
            refine lv_goto (tgt := 163) hx hb dX9_layAhead_140 (by decide) ?_
            refine lv_iinc (v := (nI (g_23 + 1))) (lv' := [(2, .int (nI (g_23 + 1))), (3, .int (nI (80 * x16 + (56 + 3 * ((100 + u_68) - 100)) + g_23))), (0, .ref (ad 0)), (1, .int (nI a0))]) hx hb dX9_layAhead_163 hl (k := 3) rfl (nI_1 _) (by decide) rfl (fun ls hl => ?_)
            refine lv_goto (tgt := 84) hx hb dX9_layAhead_166 (by decide) ?_
            exact ih_24 (3 - (g_23 + 1)) (by omega) _ _ _ ⟨z35_83, (g_23 + 1), rfl, (by omega), hP, hD, hS, lv_sub hl [2, 3, 0] rfl⟩
    · have c_12 : ¬ x46 ≤ g_10 := fun z => c_12 ((nI_leI (a := x46) (b := g_10) (Nat.lt_of_le_of_lt hx46 (Nat.le_of_ble_eq_true rfl)) (Nat.lt_of_le_of_lt hg_10 (Nat.le_of_ble_eq_true rfl))).mpr z)
      refine lv_aload_n hx hb dX9_layAhead_33 rfl (lv_at hl 0 rfl) ?_
      refine va_get (D := (dC, dI)) (ci := 9) (v := .ref (ad 35)) (C := RX9) (T := TX9) (N := 67) hx hb hts hiX9 hown hK hP 0 rfl rfl 35 (by decide) v_1 (fun _ h9 => h9) rfl dX9_layAhead_34 ?_
      refine lv_iconst (v := 5) hx hb dX9_layAhead_37 (by decide) ?_
      refine lv_iload_n hx hb dX9_layAhead_38 rfl (lv_at hl 2 rfl) ?_
      refine lv_imul hx hb dX9_layAhead_39 ?_
      refine lv_topi (fun y_84 ey_84 => ?_)
      obtain rfl : y_84 = (nI (5 * g_10)) := ey_84.trans (pk_mul 5 g_10)
      refine lv_iload_n hx hb dX9_layAhead_40 rfl (lv_at hl 2 rfl) ?_
      refine lv_iadd hx hb dX9_layAhead_41 ?_
      refine lv_topi (fun y_85 ey_85 => ?_)
      obtain rfl : y_85 = (nI ((5 * g_10) + g_10)) := ey_85.trans (nI_add (5 * g_10) g_10)
      refine lv_iconst (v := 1) hx hb dX9_layAhead_42 (by decide) ?_
      refine va_iast hx hb hK hP hD hS 20 19 rfl rfl (vp_in_nI (n := ((5 * g_10) + g_10)) (by omega) (Nat.le_of_ble_eq_true rfl)) dX9_layAhead_43 (fun H locs hP hD hS => ?_)
      have hP : va_P (dC, dI) vwCl (mo_w ad ck x0 (nI x16) (nI x18) (nI x19) x20 (nI x21) (nI x22) x23 x24 x25 (nI x26) x27 (nI x28) (nI x29) (nI x30) (nI x33) x45 (nI x46) (nI x52) (nI x53) (nI x61) (nI x62) (nI x63) (nI x65) x66 f1 f2 f3 (bN 3 q4) (bN 7 q5) (bN 7 q6) (bN 4 q7) f8 (bN 2 q9) (bH q10) f11 (b2 m12_0 m12_1) (b2 m13_0 m13_1) (b2 m14_0 m14_1) (b2m m15_0 m15_1) f17 (bA 159 q31) f32 f34 (upd g_9 ((nI ((5 * g_10) + g_10)) : Int32).toNatClampNeg 1) f36 f37 (bN 7 q38) f39 f40 f41 (b2 m42_0 m42_1) f43 f44 f47 f48 f49 f50 f51 (bN 13 q54) (bN 120 q55) (bN 120 q56) f57 (bN 120 q58) f59 f60 f64) H := hP
      have hD : va_D A (mo_w ad ck x0 (nI x16) (nI x18) (nI x19) x20 (nI x21) (nI x22) x23 x24 x25 (nI x26) x27 (nI x28) (nI x29) (nI x30) (nI x33) x45 (nI x46) (nI x52) (nI x53) (nI x61) (nI x62) (nI x63) (nI x65) x66 f1 f2 f3 (bN 3 q4) (bN 7 q5) (bN 7 q6) (bN 4 q7) f8 (bN 2 q9) (bH q10) f11 (b2 m12_0 m12_1) (b2 m13_0 m13_1) (b2 m14_0 m14_1) (b2m m15_0 m15_1) f17 (bA 159 q31) f32 f34 (upd g_9 ((nI ((5 * g_10) + g_10)) : Int32).toNatClampNeg 1) f36 f37 (bN 7 q38) f39 f40 f41 (b2 m42_0 m42_1) f43 f44 f47 f48 f49 f50 f51 (bN 13 q54) (bN 120 q55) (bN 120 q56) f57 (bN 120 q58) f59 f60 f64) := hD
      refine lv_aload_n hx hb dX9_layAhead_44 rfl (lv_at hl 0 rfl) ?_
      refine va_get (D := (dC, dI)) (ci := 9) (v := .ref (ad 35)) (C := RX9) (T := TX9) (N := 67) hx hb hts hiX9 hown hK hP 0 rfl rfl 35 (by decide) v_1 (fun _ h9 => h9) rfl dX9_layAhead_45 ?_
      refine lv_iload_n hx hb dX9_layAhead_48 rfl (lv_at hl 2 rfl) ?_
      refine lv_iconst (v := 1) hx hb dX9_layAhead_49 (by decide) ?_
      refine va_iast hx hb hK hP hD hS 20 19 rfl rfl (vp_in_nI (n := g_10) (Nat.lt_of_le_of_lt hg_10 (Nat.le_of_ble_eq_true rfl)) (Nat.le_of_ble_eq_true rfl)) dX9_layAhead_50 (fun H locs hP hD hS => ?_)
      have hP : va_P (dC, dI) vwCl (mo_w ad ck x0 (nI x16) (nI x18) (nI x19) x20 (nI x21) (nI x22) x23 x24 x25 (nI x26) x27 (nI x28) (nI x29) (nI x30) (nI x33) x45 (nI x46) (nI x52) (nI x53) (nI x61) (nI x62) (nI x63) (nI x65) x66 f1 f2 f3 (bN 3 q4) (bN 7 q5) (bN 7 q6) (bN 4 q7) f8 (bN 2 q9) (bH q10) f11 (b2 m12_0 m12_1) (b2 m13_0 m13_1) (b2 m14_0 m14_1) (b2m m15_0 m15_1) f17 (bA 159 q31) f32 f34 (upd (upd g_9 ((nI ((5 * g_10) + g_10)) : Int32).toNatClampNeg 1) ((nI g_10) : Int32).toNatClampNeg 1) f36 f37 (bN 7 q38) f39 f40 f41 (b2 m42_0 m42_1) f43 f44 f47 f48 f49 f50 f51 (bN 13 q54) (bN 120 q55) (bN 120 q56) f57 (bN 120 q58) f59 f60 f64) H := hP
      have hD : va_D A (mo_w ad ck x0 (nI x16) (nI x18) (nI x19) x20 (nI x21) (nI x22) x23 x24 x25 (nI x26) x27 (nI x28) (nI x29) (nI x30) (nI x33) x45 (nI x46) (nI x52) (nI x53) (nI x61) (nI x62) (nI x63) (nI x65) x66 f1 f2 f3 (bN 3 q4) (bN 7 q5) (bN 7 q6) (bN 4 q7) f8 (bN 2 q9) (bH q10) f11 (b2 m12_0 m12_1) (b2 m13_0 m13_1) (b2 m14_0 m14_1) (b2m m15_0 m15_1) f17 (bA 159 q31) f32 f34 (upd (upd g_9 ((nI ((5 * g_10) + g_10)) : Int32).toNatClampNeg 1) ((nI g_10) : Int32).toNatClampNeg 1) f36 f37 (bN 7 q38) f39 f40 f41 (b2 m42_0 m42_1) f43 f44 f47 f48 f49 f50 f51 (bN 13 q54) (bN 120 q55) (bN 120 q56) f57 (bN 120 q58) f59 f60 f64) := hD
      refine lv_iinc (v := (nI (g_10 + 1))) (lv' := [(2, .int (nI (g_10 + 1))), (0, .ref (ad 0)), (1, .int (nI a0))]) hx hb dX9_layAhead_51 hl (k := 2) rfl (nI_1 _) (by decide) rfl (fun ls hl => ?_)
      refine lv_goto (tgt := 25) hx hb dX9_layAhead_54 (by decide) ?_
      exact ih_11 (5 - (g_10 + 1)) (by omega) _ _ _ ⟨(upd (upd g_9 ((nI ((5 * g_10) + g_10)) : Int32).toNatClampNeg 1) ((nI g_10) : Int32).toNatClampNeg 1), (g_10 + 1), rfl, (by omega), hP, hD, hS, lv_sub hl [1, 2, 0] rfl⟩
  · have c_6 : ¬ 25 ≤ g_4 := fun z => c_6 ((nI_leI (a := 25) (b := g_4) (Nat.le_of_ble_eq_true rfl) (Nat.lt_of_le_of_lt hg_4 (Nat.le_of_ble_eq_true rfl))).mpr z)
    refine lv_aload_n hx hb dX9_layAhead_8 rfl (lv_at hl 0 rfl) ?_
    refine va_get (D := (dC, dI)) (ci := 9) (v := .ref (ad 35)) (C := RX9) (T := TX9) (N := 67) hx hb hts hiX9 hown hK hP 0 rfl rfl 35 (by decide) v_1 (fun _ h9 => h9) rfl dX9_layAhead_9 ?_
    refine lv_iload_n hx hb dX9_layAhead_12 rfl (lv_at hl 2 rfl) ?_
    refine lv_ldcw hx hb hown v_2 dX9_layAhead_13 ?_
    refine va_iast hx hb hK hP hD hS 20 19 rfl rfl (vp_in_nI (n := g_4) (by omega) (Nat.le_of_ble_eq_true rfl)) dX9_layAhead_16 (fun H locs hP hD hS => ?_)
    have hP : va_P (dC, dI) vwCl (mo_w ad ck x0 (nI x16) (nI x18) (nI x19) x20 (nI x21) (nI x22) x23 x24 x25 (nI x26) x27 (nI x28) (nI x29) (nI x30) (nI x33) x45 (nI x46) (nI x52) (nI x53) (nI x61) (nI x62) (nI x63) (nI x65) x66 f1 f2 f3 (bN 3 q4) (bN 7 q5) (bN 7 q6) (bN 4 q7) f8 (bN 2 q9) (bH q10) f11 (b2 m12_0 m12_1) (b2 m13_0 m13_1) (b2 m14_0 m14_1) (b2m m15_0 m15_1) f17 (bA 159 q31) f32 f34 (upd g_3 ((nI g_4) : Int32).toNatClampNeg 1048576) f36 f37 (bN 7 q38) f39 f40 f41 (b2 m42_0 m42_1) f43 f44 f47 f48 f49 f50 f51 (bN 13 q54) (bN 120 q55) (bN 120 q56) f57 (bN 120 q58) f59 f60 f64) H := hP
    have hD : va_D A (mo_w ad ck x0 (nI x16) (nI x18) (nI x19) x20 (nI x21) (nI x22) x23 x24 x25 (nI x26) x27 (nI x28) (nI x29) (nI x30) (nI x33) x45 (nI x46) (nI x52) (nI x53) (nI x61) (nI x62) (nI x63) (nI x65) x66 f1 f2 f3 (bN 3 q4) (bN 7 q5) (bN 7 q6) (bN 4 q7) f8 (bN 2 q9) (bH q10) f11 (b2 m12_0 m12_1) (b2 m13_0 m13_1) (b2 m14_0 m14_1) (b2m m15_0 m15_1) f17 (bA 159 q31) f32 f34 (upd g_3 ((nI g_4) : Int32).toNatClampNeg 1048576) f36 f37 (bN 7 q38) f39 f40 f41 (b2 m42_0 m42_1) f43 f44 f47 f48 f49 f50 f51 (bN 13 q54) (bN 120 q55) (bN 120 q56) f57 (bN 120 q58) f59 f60 f64) := hD
    refine lv_iinc (v := (nI (g_4 + 1))) (lv' := [(2, .int (nI (g_4 + 1))), (0, .ref (ad 0)), (1, .int (nI a0))]) hx hb dX9_layAhead_17 hl (k := 2) rfl (nI_1 _) (by decide) rfl (fun ls hl => ?_)
    refine lv_goto (tgt := 2) hx hb dX9_layAhead_20 (by decide) ?_
    exact ih_5 (25 - (g_4 + 1)) (by omega) _ _ _ ⟨(upd g_3 ((nI g_4) : Int32).toNatClampNeg 1048576), (g_4 + 1), rfl, (by omega), hP, hD, hS, lv_sub hl [1, 2, 0] rfl⟩
theorem dX9_isStuck_0 : decode cX9_isStuck 0 = .ok (.aload_n 0, 1) := by decide +kernel
theorem dX9_isStuck_1 : decode cX9_isStuck 1 = .ok (.iconst 0, 1) := by decide +kernel
theorem dX9_isStuck_2 : decode cX9_isStuck 2 = .ok (.putfield 411, 3) := by decide +kernel
theorem dX9_isStuck_5 : decode cX9_isStuck 5 = .ok (.iconst 0, 1) := by decide +kernel
theorem dX9_isStuck_6 : decode cX9_isStuck 6 = .ok (.istore_n 2, 1) := by decide +kernel
theorem dX9_isStuck_7 : decode cX9_isStuck 7 = .ok (.iload_n 2, 1) := by decide +kernel
theorem dX9_isStuck_8 : decode cX9_isStuck 8 = .ok (.aload_n 0, 1) := by decide +kernel
theorem dX9_isStuck_9 : decode cX9_isStuck 9 = .ok (.getfield 49, 3) := by decide +kernel
theorem dX9_isStuck_12 : decode cX9_isStuck 12 = .ok (.aload_n 0, 1) := by decide +kernel
theorem dX9_isStuck_13 : decode cX9_isStuck 13 = .ok (.getfield 258, 3) := by decide +kernel
theorem dX9_isStuck_16 : decode cX9_isStuck 16 = .ok (.iaload, 1) := by decide +kernel
theorem dX9_isStuck_17 : decode cX9_isStuck 17 = .ok (.if_icmp .ge 60, 3) := by decide +kernel
theorem dX9_isStuck_20 : decode cX9_isStuck 20 = .ok (.aload_n 0, 1) := by decide +kernel
theorem dX9_isStuck_21 : decode cX9_isStuck 21 = .ok (.iload_n 2, 1) := by decide +kernel
theorem dX9_isStuck_22 : decode cX9_isStuck 22 = .ok (.invokevirtual 289, 3) := by decide +kernel
theorem dX9_isStuck_25 : decode cX9_isStuck 25 = .ok (.aload_n 0, 1) := by decide +kernel
theorem dX9_isStuck_26 : decode cX9_isStuck 26 = .ok (.getfield 80, 3) := by decide +kernel
theorem dX9_isStuck_29 : decode cX9_isStuck 29 = .ok (.iload_n 1, 1) := by decide +kernel
theorem dX9_isStuck_30 : decode cX9_isStuck 30 = .ok (.iaload, 1) := by decide +kernel
theorem dX9_isStuck_31 : decode cX9_isStuck 31 = .ok (.if_icmp .ne 40, 3) := by decide +kernel
theorem dX9_isStuck_34 : decode cX9_isStuck 34 = .ok (.aload_n 0, 1) := by decide +kernel
theorem dX9_isStuck_35 : decode cX9_isStuck 35 = .ok (.iload_n 2, 1) := by decide +kernel
theorem dX9_isStuck_36 : decode cX9_isStuck 36 = .ok (.invokevirtual 420, 3) := by decide +kernel
theorem dX9_isStuck_39 : decode cX9_isStuck 39 = .ok (.ifCond .eq 32, 3) := by decide +kernel
theorem dX9_isStuck_42 : decode cX9_isStuck 42 = .ok (.aload_n 0, 1) := by decide +kernel
theorem dX9_isStuck_43 : decode cX9_isStuck 43 = .ok (.getfield 71, 3) := by decide +kernel
theorem dX9_isStuck_46 : decode cX9_isStuck 46 = .ok (.iconst 0, 1) := by decide +kernel
theorem dX9_isStuck_47 : decode cX9_isStuck 47 = .ok (.aload_n 0, 1) := by decide +kernel
theorem dX9_isStuck_48 : decode cX9_isStuck 48 = .ok (.getfield 115, 3) := by decide +kernel
theorem dX9_isStuck_51 : decode cX9_isStuck 51 = .ok (.bipush 25, 2) := by decide +kernel
theorem dX9_isStuck_53 : decode cX9_isStuck 53 = .ok (.aload_n 0, 1) := by decide +kernel
theorem dX9_isStuck_54 : decode cX9_isStuck 54 = .ok (.getfield 411, 3) := by decide +kernel
theorem dX9_isStuck_57 : decode cX9_isStuck 57 = .ok (.imul, 1) := by decide +kernel
theorem dX9_isStuck_58 : decode cX9_isStuck 58 = .ok (.invokestatic 362, 3) := by decide +kernel
theorem dX9_isStuck_61 : decode cX9_isStuck 61 = .ok (.aload_n 0, 1) := by decide +kernel
theorem dX9_isStuck_62 : decode cX9_isStuck 62 = .ok (.dup, 1) := by decide +kernel
theorem dX9_isStuck_63 : decode cX9_isStuck 63 = .ok (.getfield 411, 3) := by decide +kernel
theorem dX9_isStuck_66 : decode cX9_isStuck 66 = .ok (.iconst 1, 1) := by decide +kernel
theorem dX9_isStuck_67 : decode cX9_isStuck 67 = .ok (.iadd, 1) := by decide +kernel
theorem dX9_isStuck_68 : decode cX9_isStuck 68 = .ok (.putfield 411, 3) := by decide +kernel
theorem dX9_isStuck_71 : decode cX9_isStuck 71 = .ok (.iinc 2 1, 3) := by decide +kernel
theorem dX9_isStuck_74 : decode cX9_isStuck 74 = .ok (.goto (-67), 3) := by decide +kernel
theorem dX9_isStuck_77 : decode cX9_isStuck 77 = .ok (.aload_n 0, 1) := by decide +kernel
theorem dX9_isStuck_78 : decode cX9_isStuck 78 = .ok (.getfield 68, 3) := by decide +kernel
theorem dX9_isStuck_81 : decode cX9_isStuck 81 = .ok (.bipush 25, 2) := by decide +kernel
theorem dX9_isStuck_83 : decode cX9_isStuck 83 = .ok (.iload_n 1, 1) := by decide +kernel
theorem dX9_isStuck_84 : decode cX9_isStuck 84 = .ok (.imul, 1) := by decide +kernel
theorem dX9_isStuck_85 : decode cX9_isStuck 85 = .ok (.aload_n 0, 1) := by decide +kernel
theorem dX9_isStuck_86 : decode cX9_isStuck 86 = .ok (.getfield 71, 3) := by decide +kernel
theorem dX9_isStuck_89 : decode cX9_isStuck 89 = .ok (.iconst 0, 1) := by decide +kernel
theorem dX9_isStuck_90 : decode cX9_isStuck 90 = .ok (.invokestatic 362, 3) := by decide +kernel
theorem dX9_isStuck_93 : decode cX9_isStuck 93 = .ok (.aload_n 0, 1) := by decide +kernel
theorem dX9_isStuck_94 : decode cX9_isStuck 94 = .ok (.invokevirtual 417, 3) := by decide +kernel
theorem dX9_isStuck_97 : decode cX9_isStuck 97 = .ok (.ireturn, 1) := by decide +kernel
abbrev vs_M_isStuck : List Cond := .code yX9_isStuck cX9_isStuck 3 (some .boolean) :: VM
theorem g_M_isStuck_M_copies_nz : GoodIn vs_M_isStuck (va_wsS RX9 362 yX9_copies vs_M_copies_nz) := gm_S vm_250 vm_251 vm_12 vm_8
theorem g_M_isStuck_M_isOver : GoodIn vs_M_isStuck (wsV RX9 417 RX9 yX9_isOver vs_M_isOver) := gm_V vm_313 vm_314 vm_315 vm_12 vm_307
theorem g_M_isStuck_M_outOf : GoodIn vs_M_isStuck (wsV RX9 289 RX9 yX9_outOf vs_M_outOf) := gm_V vm_66 vm_67 vm_68 vm_12 vm_27
theorem g_M_isStuck_M_layAhead : GoodIn vs_M_isStuck (wsV RX9 420 RX9 yX9_layAhead vs_M_layAhead) := gm_V vm_318 vm_319 vm_320 vm_12 vm_316
theorem g_M_isStuck_M_copies_zc : GoodIn vs_M_isStuck (va_wsS RX9 362 yX9_copies vs_M_copies_zc) := gm_S vm_250 vm_251 vm_12 vm_8
set_option maxHeartbeats 4000000 in
set_option maxRecDepth 100000 in
theorem c_M_isStuck (l : Launch) (dC : Nat → ClassId) (dI : Nat → Nat → Nat) (sz : Nat) (ad : Nat → Nat) (ck : Nat → ClassId) (x0 : Int32) (x16 : Nat) (x18 : Nat) (x19 : Nat) (x20 : Int32) (x21 : Nat) (x22 : Nat) (x23 : Int32) (x24 : Int32) (x25 : Int32) (x26 : Nat) (x27 : Int32) (x28 : Nat) (x29 : Nat) (x30 : Nat) (x33 : Nat) (x45 : Int32) (x46 : Nat) (x52 : Nat) (x53 : Nat) (x61 : Nat) (x62 : Nat) (x63 : Nat) (x65 : Nat) (x66 : Int32) (f1 : Nat → Int32) (f2 : Nat → Int32) (f3 : Nat → Int32) (q4 : Nat → Nat) (q5 : Nat → Nat) (q6 : Nat → Nat) (q7 : Nat → Nat) (f8 : Nat → Int32) (q9 : Nat → Nat) (q10 : Nat → Nat) (f11 : Nat → Int32) (m12_0 m12_1 : Nat) (m13_0 m13_1 : Nat) (m14_0 m14_1 : Nat) (m15_0 m15_1 : Nat) (f17 : Nat → Int32) (q31 : Nat → Nat) (f32 : Nat → Int32) (f34 : Nat → Int32) (f35 : Nat → Int32) (f36 : Nat → Int32) (f37 : Nat → Int32) (q38 : Nat → Nat) (f39 : Nat → Int32) (f40 : Nat → Int32) (f41 : Nat → Int32) (m42_0 m42_1 : Nat) (f43 : Nat → Int32) (f44 : Nat → Int32) (f47 : Nat → Int32) (f48 : Nat → Int32) (f49 : Nat → Int32) (f50 : Nat → Int32) (f51 : Nat → Int32) (q54 : Nat → Nat) (q55 : Nat → Nat) (q56 : Nat → Nat) (f57 : Nat → Int32) (q58 : Nat → Nat) (f59 : Nat → Int32) (f60 : Nat → Int32) (f64 : Nat → Int32) (a0 : Nat) (hx16 : x16 ≤ 1) (hx18 : x18 ≤ 900) (hx19 : x19 ≤ 900) (hx21 : x21 ≤ 900) (hx22 : x22 ≤ 4) (hx26 : x26 ≤ 6) (hx28 : x28 ≤ 1) (hx29 : x29 ≤ 1) (hx30 : x30 ≤ 1) (hx33 : x33 ≤ 20) (hx46 : x46 ≤ 5) (hx52 : x52 ≤ 2400) (hx53 : x53 ≤ 119) (hx61 : x61 ≤ 119) (hx62 : x62 ≤ 2000) (hx63 : x63 ≤ 1) (hx65 : x65 ≤ 7) (hm12_0 : m12_0 ≤ 3) (hm12_1 : m12_1 ≤ 3) (hm13_0 : m13_0 ≤ 8) (hm13_1 : m13_1 ≤ 8) (hm14_0 : m14_0 ≤ 14) (hm14_1 : m14_1 ≤ 14) (hm15_0 : m15_0 ≤ 8) (hm15_1 : m15_1 ≤ 8) (hm42_0 : m42_0 ≤ 120) (hm42_1 : m42_1 ≤ 400) (ha0 : a0 ≤ 119) : Met l yX9_isStuck vs_M_isStuck ({ frames := 5, cells := 0, slots := 0, locals := 113 }) (va_Pc [.ref (ad 0), .int (nI a0)] (pu_B (dC, dI) (mo_w ad ck x0 (nI x16) (nI x18) (nI x19) x20 (nI x21) (nI x22) x23 x24 x25 (nI x26) x27 (nI x28) (nI x29) (nI x30) (nI x33) x45 (nI x46) (nI x52) (nI x53) (nI x61) (nI x62) (nI x63) (nI x65) x66 f1 f2 f3 (bN 3 q4) (bN 7 q5) (bN 7 q6) (bN 4 q7) f8 (bN 2 q9) (bH q10) f11 (b2 m12_0 m12_1) (b2 m13_0 m13_1) (b2 m14_0 m14_1) (b2m m15_0 m15_1) f17 (bA 159 q31) f32 f34 f35 f36 f37 (bN 7 q38) f39 f40 f41 (b2 m42_0 m42_1) f43 f44 f47 f48 f49 f50 f51 (bN 13 q54) (bN 120 q55) (bN 120 q56) f57 (bN 120 q58) f59 f60 f64) (mo_t ck) sz)) (va_Qi (fun (r : Int32) (_ : Unit) => ∃ v : Nat, v ≤ 1 ∧ r = nI v) (fun _ t => ∃ (z35 : Nat → Int32) (z36 : Nat → Int32) (z49 : Nat → Int32) (z50 : Nat → Int32) (z51 : Nat → Int32) (z52 : Nat) (z53 : Nat), pu_E (dC, dI) (mo_w ad ck x0 (nI x16) (nI x18) (nI x19) x20 (nI x21) (nI x22) x23 x24 x25 (nI x26) x27 (nI x28) (nI x29) (nI x30) (nI x33) x45 (nI x46) (nI z52) (nI z53) (nI x61) (nI x62) (nI x63) (nI x65) x66 f1 f2 f3 (bN 3 q4) (bN 7 q5) (bN 7 q6) (bN 4 q7) f8 (bN 2 q9) (bH q10) f11 (b2 m12_0 m12_1) (b2 m13_0 m13_1) (b2 m14_0 m14_1) (b2m m15_0 m15_1) f17 (bA 159 q31) f32 f34 z35 z36 f37 (bN 7 q38) f39 f40 f41 (b2 m42_0 m42_1) f43 f44 f47 f48 z49 z50 z51 (bN 13 q54) (bN 120 q55) (bN 120 q56) f57 (bN 120 q58) f59 f60 f64) (mo_t ck) (va_A ((mo_w ad ck x0 (nI x16) (nI x18) (nI x19) x20 (nI x21) (nI x22) x23 x24 x25 (nI x26) x27 (nI x28) (nI x29) (nI x30) (nI x33) x45 (nI x46) (nI x52) (nI x53) (nI x61) (nI x62) (nI x63) (nI x65) x66 f1 f2 f3 (bN 3 q4) (bN 7 q5) (bN 7 q6) (bN 4 q7) f8 (bN 2 q9) (bH q10) f11 (b2 m12_0 m12_1) (b2 m13_0 m13_1) (b2 m14_0 m14_1) (b2m m15_0 m15_1) f17 (bA 159 q31) f32 f34 f35 f36 f37 (bN 7 q38) f39 f40 f41 (b2 m42_0 m42_1) f43 f44 f47 f48 f49 f50 f51 (bN 13 q54) (bN 120 q55) (bN 120 q56) f57 (bN 120 q58) f59 f60 f64)) sz) t ∧ (z52 ≤ 2400) ∧ (z53 ≤ 119)) (va_A ((mo_w ad ck x0 (nI x16) (nI x18) (nI x19) x20 (nI x21) (nI x22) x23 x24 x25 (nI x26) x27 (nI x28) (nI x29) (nI x30) (nI x33) x45 (nI x46) (nI x52) (nI x53) (nI x61) (nI x62) (nI x63) (nI x65) x66 f1 f2 f3 (bN 3 q4) (bN 7 q5) (bN 7 q6) (bN 4 q7) f8 (bN 2 q9) (bH q10) f11 (b2 m12_0 m12_1) (b2 m13_0 m13_1) (b2 m14_0 m14_1) (b2m m15_0 m15_1) f17 (bA 159 q31) f32 f34 f35 f36 f37 (bN 7 q38) f39 f40 f41 (b2 m42_0 m42_1) f43 f44 f47 f48 f49 f50 f51 (bN 13 q54) (bN 120 q55) (bN 120 q56) f57 (bN 120 q58) f59 f60 f64)) sz)) 0 0 (va_A ((mo_w ad ck x0 (nI x16) (nI x18) (nI x19) x20 (nI x21) (nI x22) x23 x24 x25 (nI x26) x27 (nI x28) (nI x29) (nI x30) (nI x33) x45 (nI x46) (nI x52) (nI x53) (nI x61) (nI x62) (nI x63) (nI x65) x66 f1 f2 f3 (bN 3 q4) (bN 7 q5) (bN 7 q6) (bN 4 q7) f8 (bN 2 q9) (bH q10) f11 (b2 m12_0 m12_1) (b2 m13_0 m13_1) (b2 m14_0 m14_1) (b2m m15_0 m15_1) f17 (bA 159 q31) f32 f34 f35 f36 f37 (bN 7 q38) f39 f40 f41 (b2 m42_0 m42_1) f43 f44 f47 f48 f49 f50 f51 (bN 13 q54) (bN 120 q55) (bN 120 q56) f57 (bN 120 q58) f59 f60 f64)) sz) := by
  refine Met.ofW (cc := cX9_isStuck) (maxL := 3) (ret := (some .boolean)) (by decide) rfl ?_
  intro p e s m args below meth c s₁ B hml hv
  obtain ⟨rfl, rfl, hP, hK, hD0⟩ := hv
  have hx := B.exec
  have hb := B.bytes
  have hr := B.returns
  have hts := atoms_spec (ws := vs_M_isStuck) B.pre
  have v_1 := hts (.fieldLink RX9 411 "ClockReachModel" "coverMany" "I") (List.mem_cons_of_mem _ vm_308)
  have v_2 := hts (.fieldLink RX9 49 "ClockReachModel" "edgeMany" "[I") (List.mem_cons_of_mem _ vm_62)
  have v_3 := hts (.fieldLink RX9 258 "ClockReachModel" "bank" "I") (List.mem_cons_of_mem _ vm_22)
  have v_4 := hts (.fieldLink RX9 68 "ClockReachModel" "zone" "[I") (List.mem_cons_of_mem _ vm_232)
  have v_5 := hts (.fieldLink RX9 71 "ClockReachModel" "z" "[I") (List.mem_cons_of_mem _ vm_234)
  have v_18 := hts (.fieldLink RX9 80 "ClockReachModel" "statePlace" "[I") (List.mem_cons_of_mem _ vm_240)
  have v_23 := hts (.fieldLink RX9 115 "ClockReachModel" "covers" "[I") (List.mem_cons_of_mem _ vm_303)
  have hown : s.vm.findClass RX9 = some m.cls := findClass_of_methodNamed B.named
  have hlocks := B.notSynchronized
  have hiX9 : ∀ w ∈ wsX90, w ∈ vs_M_isStuck := fun _ h => List.mem_cons_of_mem _ (List.mem_append_right _ h)
  have hD := hD0.self (sz := s.heap.size)
  generalize hAe : va_A ((mo_w ad ck x0 (nI x16) (nI x18) (nI x19) x20 (nI x21) (nI x22) x23 x24 x25 (nI x26) x27 (nI x28) (nI x29) (nI x30) (nI x33) x45 (nI x46) (nI x52) (nI x53) (nI x61) (nI x62) (nI x63) (nI x65) x66 f1 f2 f3 (bN 3 q4) (bN 7 q5) (bN 7 q6) (bN 4 q7) f8 (bN 2 q9) (bH q10) f11 (b2 m12_0 m12_1) (b2 m13_0 m13_1) (b2 m14_0 m14_1) (b2m m15_0 m15_1) f17 (bA 159 q31) f32 f34 f35 f36 f37 (bN 7 q38) f39 f40 f41 (b2 m42_0 m42_1) f43 f44 f47 f48 f49 f50 f51 (bN 13 q54) (bN 120 q55) (bN 120 q56) f57 (bN 120 q58) f59 f60 f64)) s.heap.size = A at hD ⊢
  have hA : ∀ q : Nat, s.heap.size ≤ q → A q := fun q h => by rw [← hAe]; exact Or.inr h
  have hS : va_S A s.heap s.heap [] := va_S.rf
  have hl := lv_entry ([.ref (ad 0), .int (nI a0)]) (n := 3) (Nat.le_of_ble_eq_true rfl)
  rw [lg_entry_eq]
  generalize (lg_sl ([.ref (ad 0), .int (nI a0)]) ++ List.replicate (3 - (lg_sl ([.ref (ad 0), .int (nI a0)])).length) Slot.unset).toArray = ls at hl ⊢
  have hl : lv_has ls 3 [(0, .ref (ad 0)), (1, .int (nI a0))] := hl
  refine lv_aload_n hx hb dX9_isStuck_0 rfl (lv_at hl 0 rfl) ?_
  refine lv_iconst (v := 0) hx hb dX9_isStuck_1 (by decide) ?_
  refine va_put (D := (dC, dI)) (ci := 9) (v := .int 0) (ty := .int) (C := RX9) (T := TX9) (N := 67) hx hb hts hiX9 tyX9 tyX9_ok nmX9 hown hK hP hD hS 0 rfl rfl 53 (by decide) v_1 (fun _ h9 => h9) rfl (by decide +kernel) rfl rfl (Nat.le_of_ble_eq_true rfl) dX9_isStuck_2 (fun H locs hP hD hS => ?_)
  have hP : va_P (dC, dI) vwCl (mo_w ad ck x0 (nI x16) (nI x18) (nI x19) x20 (nI x21) (nI x22) x23 x24 x25 (nI x26) x27 (nI x28) (nI x29) (nI x30) (nI x33) x45 (nI x46) (nI x52) 0 (nI x61) (nI x62) (nI x63) (nI x65) x66 f1 f2 f3 (bN 3 q4) (bN 7 q5) (bN 7 q6) (bN 4 q7) f8 (bN 2 q9) (bH q10) f11 (b2 m12_0 m12_1) (b2 m13_0 m13_1) (b2 m14_0 m14_1) (b2m m15_0 m15_1) f17 (bA 159 q31) f32 f34 f35 f36 f37 (bN 7 q38) f39 f40 f41 (b2 m42_0 m42_1) f43 f44 f47 f48 f49 f50 f51 (bN 13 q54) (bN 120 q55) (bN 120 q56) f57 (bN 120 q58) f59 f60 f64) H := hP
  have hD : va_D A (mo_w ad ck x0 (nI x16) (nI x18) (nI x19) x20 (nI x21) (nI x22) x23 x24 x25 (nI x26) x27 (nI x28) (nI x29) (nI x30) (nI x33) x45 (nI x46) (nI x52) 0 (nI x61) (nI x62) (nI x63) (nI x65) x66 f1 f2 f3 (bN 3 q4) (bN 7 q5) (bN 7 q6) (bN 4 q7) f8 (bN 2 q9) (bH q10) f11 (b2 m12_0 m12_1) (b2 m13_0 m13_1) (b2 m14_0 m14_1) (b2m m15_0 m15_1) f17 (bA 159 q31) f32 f34 f35 f36 f37 (bN 7 q38) f39 f40 f41 (b2 m42_0 m42_1) f43 f44 f47 f48 f49 f50 f51 (bN 13 q54) (bN 120 q55) (bN 120 q56) f57 (bN 120 q58) f59 f60 f64) := hD
  refine lv_iconst (v := 0) hx hb dX9_isStuck_5 (by decide) ?_
  refine lv_istore_n (lv' := [(2, .int 0), (0, .ref (ad 0)), (1, .int (nI a0))]) hx hb dX9_isStuck_6 rfl hl (by decide) rfl (fun ls hl => ?_)
  refine pu_while (fun nn H locs ls => ∃ (g_6 : Nat → Int32) (g_7 : Nat → Int32) (g_8 : Nat) (g_9 : Nat), nn = 14 - g_9 ∧ g_8 ≤ 14 ∧ g_9 ≤ 14 ∧ g_8 ≤ g_9 ∧ va_P (dC, dI) vwCl (mo_w ad ck x0 (nI x16) (nI x18) (nI x19) x20 (nI x21) (nI x22) x23 x24 x25 (nI x26) x27 (nI x28) (nI x29) (nI x30) (nI x33) x45 (nI x46) (nI x52) (nI g_8) (nI x61) (nI x62) (nI x63) (nI x65) x66 f1 f2 f3 (bN 3 q4) (bN 7 q5) (bN 7 q6) (bN 4 q7) f8 (bN 2 q9) (bH q10) f11 (b2 m12_0 m12_1) (b2 m13_0 m13_1) (b2 m14_0 m14_1) (b2m m15_0 m15_1) f17 (bA 159 q31) f32 f34 g_6 f36 f37 (bN 7 q38) f39 f40 f41 (b2 m42_0 m42_1) f43 f44 f47 f48 f49 f50 g_7 (bN 13 q54) (bN 120 q55) (bN 120 q56) f57 (bN 120 q58) f59 f60 f64) H ∧ va_D A (mo_w ad ck x0 (nI x16) (nI x18) (nI x19) x20 (nI x21) (nI x22) x23 x24 x25 (nI x26) x27 (nI x28) (nI x29) (nI x30) (nI x33) x45 (nI x46) (nI x52) (nI g_8) (nI x61) (nI x62) (nI x63) (nI x65) x66 f1 f2 f3 (bN 3 q4) (bN 7 q5) (bN 7 q6) (bN 4 q7) f8 (bN 2 q9) (bH q10) f11 (b2 m12_0 m12_1) (b2 m13_0 m13_1) (b2 m14_0 m14_1) (b2m m15_0 m15_1) f17 (bA 159 q31) f32 f34 g_6 f36 f37 (bN 7 q38) f39 f40 f41 (b2 m42_0 m42_1) f43 f44 f47 f48 f49 f50 g_7 (bN 13 q54) (bN 120 q55) (bN 120 q56) f57 (bN 120 q58) f59 f60 f64) ∧ va_S A s.heap H locs ∧ lv_has ls 3 [(0, .ref (ad 0)), (1, .int (nI a0)), (2, .int (nI g_9))]) 7 ?_ _ _ _ _ ⟨f35, f51, 0, 0, rfl, (Nat.le_of_ble_eq_true rfl), (Nat.le_of_ble_eq_true rfl), by omega, hP, hD, hS, lv_sub hl [1, 2, 0] rfl⟩
  rintro nn ih_11 H locs ls ⟨g_6, g_7, g_8, g_9, rfl, hg_8, hg_9, he_10, hP, hD, hS, hl⟩
  refine lv_iload_n hx hb dX9_isStuck_7 rfl (lv_at hl 2 rfl) ?_
  refine lv_aload_n hx hb dX9_isStuck_8 rfl (lv_at hl 0 rfl) ?_
  refine va_get (D := (dC, dI)) (ci := 9) (v := .ref (ad 14)) (C := RX9) (T := TX9) (N := 67) hx hb hts hiX9 hown hK hP 0 rfl rfl 14 (by decide) v_2 (fun _ h9 => h9) rfl dX9_isStuck_9 ?_
  refine lv_aload_n hx hb dX9_isStuck_12 rfl (lv_at hl 0 rfl) ?_
  refine va_get (D := (dC, dI)) (ci := 9) (v := .int (nI x16)) (C := RX9) (T := TX9) (N := 67) hx hb hts hiX9 hown hK hP 0 rfl rfl 16 (by decide) v_3 (fun _ h9 => h9) rfl dX9_isStuck_13 ?_
  refine va_iald hx hb hK hP 14 13 rfl rfl (vp_in_nI (n := x16) (Nat.lt_of_le_of_lt hx16 (Nat.le_of_ble_eq_true rfl)) (Nat.le_of_ble_eq_true rfl)) dX9_isStuck_16 ?_
  refine lv_topi (fun y_12 ey_12 => ?_)
  obtain ⟨u_13, hu_13, fu_13⟩ := b2_get (a := m14_0) (b := m14_1) (i := x16) (by omega)
  have qy_12 := ey_12.trans fu_13
  obtain rfl : y_12 = nI u_13 := qy_12
  refine lv_icmp_ge (tgt := 77) hx hb dX9_isStuck_17 (by decide) (fun c_14 => ?_) (fun c_14 => ?_)
  · have c_14 : u_13 ≤ g_9 := (nI_leI (a := u_13) (b := g_9) (by omega) (Nat.lt_of_le_of_lt hg_9 (Nat.le_of_ble_eq_true rfl))).mp c_14
    refine lv_aload_n hx hb dX9_isStuck_77 rfl (lv_at hl 0 rfl) ?_
    refine va_get (D := (dC, dI)) (ci := 9) (v := .ref (ad 34)) (C := RX9) (T := TX9) (N := 67) hx hb hts hiX9 hown hK hP 0 rfl rfl 34 (by decide) v_4 (fun _ h9 => h9) rfl dX9_isStuck_78 ?_
    refine lv_bipush (v := 25) hx hb dX9_isStuck_81 (by decide) ?_
    refine lv_iload_n hx hb dX9_isStuck_83 rfl (lv_at hl 1 rfl) ?_
    refine lv_imul hx hb dX9_isStuck_84 ?_
    refine lv_topi (fun y_15 ey_15 => ?_)
    obtain rfl : y_15 = (nI (25 * a0)) := ey_15.trans (pk_mul 25 a0)
    refine lv_aload_n hx hb dX9_isStuck_85 rfl (lv_at hl 0 rfl) ?_
    refine va_get (D := (dC, dI)) (ci := 9) (v := .ref (ad 35)) (C := RX9) (T := TX9) (N := 67) hx hb hts hiX9 hown hK hP 0 rfl rfl 35 (by decide) v_5 (fun _ h9 => h9) rfl dX9_isStuck_86 ?_
    refine lv_iconst (v := 0) hx hb dX9_isStuck_89 (by decide) ?_
    have hFc := pu_free hD hS hA
    refine va_callv (va_runS (As := [.ref (ad 34), .int (nI (25 * a0)), .ref (ad 35), .int 0]) (rest := []) ⟨hx, hb, hml, hown, hts⟩ (c_M_copies_nz l dC dI _ ad ck x0 x16 x18 x19 x20 x21 x22 x23 x24 x25 x26 x27 x28 x29 x30 x33 x45 x46 x52 g_8 x61 x62 x63 x65 x66 f1 f2 f3 q4 q5 q6 q7 f8 q9 q10 f11 m12_0 m12_1 m13_0 m13_1 m14_0 m14_1 m15_0 m15_1 f17 q31 f32 f34 g_6 f36 f37 q38 f39 f40 f41 m42_0 m42_1 f43 f44 f47 f48 f49 f50 g_7 q54 q55 q56 f57 q58 f59 f60 f64 (25 * a0) hx16 hx18 hx19 hx21 hx22 hx26 hx28 hx29 hx30 hx33 hx46 hx52 (Nat.le_trans hg_8 (Nat.le_of_ble_eq_true rfl)) hx61 hx62 hx63 hx65 hm12_0 hm12_1 hm13_0 hm13_1 hm14_0 hm14_1 hm15_0 hm15_1 hm42_0 hm42_1 (by omega)) (va_cwS 4 hts g_M_isStuck_M_copies_nz rfl rfl rfl (by decide +kernel) ⟨Nat.le_of_ble_eq_true rfl, Nat.le_of_ble_eq_true rfl⟩) ⟨pu_bl, pu_in hP hK hD⟩ rfl rfl hl.1 rfl (lv_room (Nat.le_of_ble_eq_true rfl)) dX9_isStuck_90 ⟨Nat.le_of_ble_eq_true rfl, Nat.le_of_ble_eq_true rfl⟩) hS (fun q _ h => hFc q h) hFc (fun u t H1 locs ht hvm hw hB hz1 hk1 hS => ?_)
    obtain ⟨z35_17, ⟨hP1, -, hD1⟩⟩ := hB
    rw [ht] at hP1
    have hP := hP1
    have hD := pu_all hFc hD1
    clear hP1 hD1 hFc
    clear hk1 hz1 ht hvm
    generalize H1 = H at hP hS ⊢
    refine lv_aload_n hx hb dX9_isStuck_93 rfl (lv_at hl 0 rfl) ?_
    have hFc := pu_free hD hS hA
    refine va_calli (va_runV (As := []) (rest := []) ⟨hx, hb, hml, hown, hts⟩ (c_M_isOver l dC dI _ ad ck x0 x16 x18 x19 x20 x21 x22 x23 x24 x25 x26 x27 x28 x29 x30 x33 x45 x46 x52 g_8 x61 x62 x63 x65 x66 f1 f2 f3 q4 q5 q6 q7 f8 q9 q10 f11 m12_0 m12_1 m13_0 m13_1 m14_0 m14_1 m15_0 m15_1 f17 q31 f32 f34 z35_17 f36 f37 q38 f39 f40 f41 m42_0 m42_1 f43 f44 f47 f48 f49 f50 g_7 q54 q55 q56 f57 q58 f59 f60 f64 hx16 hx18 hx19 hx21 hx22 hx26 hx28 hx29 hx30 hx33 hx46 hx52 (Nat.le_trans hg_8 (Nat.le_of_ble_eq_true rfl)) hx61 hx62 hx63 hx65 hm12_0 hm12_1 hm13_0 hm13_1 hm14_0 hm14_1 hm15_0 hm15_1 hm42_0 hm42_1) (cwV 0 hts g_M_isStuck_M_isOver rfl rfl rfl (by decide +kernel) ⟨Nat.le_of_ble_eq_true rfl, Nat.le_of_ble_eq_true rfl⟩) ⟨pu_bl, va_recv hK hP (ci := 9) (q0 := 0) rfl rfl, pu_in hP hK hD⟩ rfl rfl hl.1 rfl (lv_room (Nat.le_of_ble_eq_true rfl)) dX9_isStuck_94 ⟨Nat.le_of_ble_eq_true rfl, Nat.le_of_ble_eq_true rfl⟩) hS (fun q _ h => hFc q h) hFc (fun r_18 u t H1 locs ht hvm hw hB hz1 hk1 hS => ?_)
    obtain ⟨z35_19, z36_20, z49_21, z50_22, z52_23, ⟨hP1, -, hD1⟩, hz52_23⟩ := hB
    rw [ht] at hP1
    have hP := hP1
    have hD := pu_all hFc hD1
    clear hP1 hD1 hFc
    clear hk1 hz1 ht hvm
    generalize H1 = H at hP hS ⊢
    obtain ⟨u_24, hu_24, rfl⟩ := hw
    exact W.zret (v := (nI u_24)) (ty := .boolean) hx hb hr (pu_nz (pu_b1 (n := u_24) (by omega))) (fun t ht hW => ⟨⟨(nI u_24), (), rfl, ⟨u_24, hu_24, rfl⟩, ⟨z35_19, z36_20, z49_21, z50_22, g_7, z52_23, g_8, ⟨by rw [ht]; exact hP, va_K.moved hW.alike hK, hD⟩, hz52_23, (Nat.le_trans hg_8 (Nat.le_of_ble_eq_true rfl))⟩⟩, hS.F ht⟩) hS.2.2 dX9_isStuck_97
  · have c_14 : ¬ u_13 ≤ g_9 := fun z => c_14 ((nI_leI (a := u_13) (b := g_9) (by omega) (Nat.lt_of_le_of_lt hg_9 (Nat.le_of_ble_eq_true rfl))).mpr z)
    refine lv_aload_n hx hb dX9_isStuck_20 rfl (lv_at hl 0 rfl) ?_
    refine lv_iload_n hx hb dX9_isStuck_21 rfl (lv_at hl 2 rfl) ?_
    refine va_calli (va_runV (As := [.int (nI g_9)]) (rest := []) ⟨hx, hb, hml, hown, hts⟩ (c_M_outOf l dC dI _ ad ck x0 x16 x18 x19 x20 x21 x22 x23 x24 x25 x26 x27 x28 x29 x30 x33 x45 x46 x52 g_8 x61 x62 x63 x65 x66 f1 f2 f3 q4 q5 q6 q7 f8 q9 q10 f11 m12_0 m12_1 m13_0 m13_1 m14_0 m14_1 m15_0 m15_1 f17 q31 f32 f34 g_6 f36 f37 q38 f39 f40 f41 m42_0 m42_1 f43 f44 f47 f48 f49 f50 g_7 q54 q55 q56 f57 q58 f59 f60 f64 g_9 hx16 hx18 hx19 hx21 hx22 hx26 hx28 hx29 hx30 hx33 hx46 hx52 (Nat.le_trans hg_8 (Nat.le_of_ble_eq_true rfl)) hx61 hx62 hx63 hx65 hm12_0 hm12_1 hm13_0 hm13_1 hm14_0 hm14_1 hm15_0 hm15_1 hm42_0 hm42_1 (by omega)) (cwV 1 hts g_M_isStuck_M_outOf rfl rfl rfl (by decide +kernel) ⟨Nat.le_of_ble_eq_true rfl, Nat.le_of_ble_eq_true rfl⟩) ⟨pu_bl, va_recv hK hP (ci := 9) (q0 := 0) rfl rfl, pu_in hP hK hD⟩ rfl rfl hl.1 rfl (lv_room (Nat.le_of_ble_eq_true rfl)) dX9_isStuck_22 ⟨Nat.le_of_ble_eq_true rfl, Nat.le_of_ble_eq_true rfl⟩) hS (fun q _ h => pu_fr hS hA q h) (pu_fr hS hA) (fun r_25 u t H1 locs ht hvm hw hB hz1 hk1 hS => ?_)
    have hP := pu_keep hP hk1
    clear hk1 hz1 ht hvm
    generalize H1 = H at hP hS ⊢
    obtain ⟨u_26, hu_26, rfl⟩ := hw
    refine lv_aload_n hx hb dX9_isStuck_25 rfl (lv_at hl 0 rfl) ?_
    refine va_get (D := (dC, dI)) (ci := 9) (v := .ref (ad 38)) (C := RX9) (T := TX9) (N := 67) hx hb hts hiX9 hown hK hP 0 rfl rfl 38 (by decide) v_18 (fun _ h9 => h9) rfl dX9_isStuck_26 ?_
    refine lv_iload_n hx hb dX9_isStuck_29 rfl (lv_at hl 1 rfl) ?_
    refine va_iald hx hb hK hP 23 22 rfl rfl (vp_in_nI (n := a0) (Nat.lt_of_le_of_lt ha0 (Nat.le_of_ble_eq_true rfl)) (Nat.le_of_ble_eq_true rfl)) dX9_isStuck_30 ?_
    refine lv_topi (fun y_27 ey_27 => ?_)
    obtain ⟨u_28, hu_28, qu_28⟩ := bN_get 7 q38 (((nI a0) : Int32).toNatClampNeg)
    obtain rfl : y_27 = nI u_28 := ey_27.trans qu_28
    refine lv_icmp_ne (tgt := 71) hx hb dX9_isStuck_31 (by decide) (fun c_29 => ?_) (fun c_29 => ?_)
    · have c_29 : ¬ u_26 = u_28 := fun z => c_29 ((nI_eq (a := u_26) (b := u_28) (Nat.lt_of_le_of_lt hu_26 (Nat.le_of_ble_eq_true rfl)) (Nat.lt_of_le_of_lt hu_28 (Nat.le_of_ble_eq_true rfl))).mpr z)
      refine lv_iinc (v := (nI (g_9 + 1))) (lv' := [(2, .int (nI (g_9 + 1))), (0, .ref (ad 0)), (1, .int (nI a0))]) hx hb dX9_isStuck_71 hl (k := 2) rfl (nI_1 _) (by decide) rfl (fun ls hl => ?_)
      refine lv_goto (tgt := 7) hx hb dX9_isStuck_74 (by decide) ?_
      exact ih_11 (14 - (g_9 + 1)) (by omega) _ _ _ ⟨g_6, g_7, g_8, (g_9 + 1), rfl, hg_8, (by omega), by omega, hP, hD, hS, lv_sub hl [1, 2, 0] rfl⟩
    · have c_29 : u_26 = u_28 := (nI_eq (a := u_26) (b := u_28) (Nat.lt_of_le_of_lt hu_26 (Nat.le_of_ble_eq_true rfl)) (Nat.lt_of_le_of_lt hu_28 (Nat.le_of_ble_eq_true rfl))).mp c_29
      refine lv_aload_n hx hb dX9_isStuck_34 rfl (lv_at hl 0 rfl) ?_
      refine lv_iload_n hx hb dX9_isStuck_35 rfl (lv_at hl 2 rfl) ?_
      have hFc := pu_free hD hS hA
      refine va_calli (va_runV (As := [.int (nI g_9)]) (rest := []) ⟨hx, hb, hml, hown, hts⟩ (c_M_layAhead l dC dI _ ad ck x0 x16 x18 x19 x20 x21 x22 x23 x24 x25 x26 x27 x28 x29 x30 x33 x45 x46 x52 g_8 x61 x62 x63 x65 x66 f1 f2 f3 q4 q5 q6 q7 f8 q9 q10 f11 m12_0 m12_1 m13_0 m13_1 m14_0 m14_1 m15_0 m15_1 f17 q31 f32 f34 g_6 f36 f37 q38 f39 f40 f41 m42_0 m42_1 f43 f44 f47 f48 f49 f50 g_7 q54 q55 q56 f57 q58 f59 f60 f64 g_9 hx16 hx18 hx19 hx21 hx22 hx26 hx28 hx29 hx30 hx33 hx46 hx52 (Nat.le_trans hg_8 (Nat.le_of_ble_eq_true rfl)) hx61 hx62 hx63 hx65 hm12_0 hm12_1 hm13_0 hm13_1 hm14_0 hm14_1 hm15_0 hm15_1 hm42_0 hm42_1 (by omega)) (cwV 1 hts g_M_isStuck_M_layAhead rfl rfl rfl (by decide +kernel) ⟨Nat.le_of_ble_eq_true rfl, Nat.le_of_ble_eq_true rfl⟩) ⟨pu_bl, va_recv hK hP (ci := 9) (q0 := 0) rfl rfl, pu_in hP hK hD⟩ rfl rfl hl.1 rfl (lv_room (Nat.le_of_ble_eq_true rfl)) dX9_isStuck_36 ⟨Nat.le_of_ble_eq_true rfl, Nat.le_of_ble_eq_true rfl⟩) hS (fun q _ h => hFc q h) hFc (fun r_30 u t H1 locs ht hvm hw hB hz1 hk1 hS => ?_)
      obtain ⟨z35_31, ⟨hP1, -, hD1⟩⟩ := hB
      rw [ht] at hP1
      have hP := hP1
      have hD := pu_all hFc hD1
      clear hP1 hD1 hFc
      clear hk1 hz1 ht hvm
      generalize H1 = H at hP hS ⊢
      obtain ⟨u_32, hu_32, rfl⟩ := hw
      refine lv_if_eq (tgt := 71) hx hb dX9_isStuck_39 (by decide) (fun c_33 => ?_) (fun c_33 => ?_)
      · have c_33 : u_32 = 0 := (nI_eq (a := u_32) (b := 0) (Nat.lt_of_le_of_lt hu_32 (Nat.le_of_ble_eq_true rfl)) (Nat.le_of_ble_eq_true rfl)).mp c_33
        refine lv_iinc (v := (nI (g_9 + 1))) (lv' := [(2, .int (nI (g_9 + 1))), (0, .ref (ad 0)), (1, .int (nI a0))]) hx hb dX9_isStuck_71 hl (k := 2) rfl (nI_1 _) (by decide) rfl (fun ls hl => ?_)
        refine lv_goto (tgt := 7) hx hb dX9_isStuck_74 (by decide) ?_
        exact ih_11 (14 - (g_9 + 1)) (by omega) _ _ _ ⟨z35_31, g_7, g_8, (g_9 + 1), rfl, hg_8, (by omega), by omega, hP, hD, hS, lv_sub hl [1, 2, 0] rfl⟩
      · have c_33 : ¬ u_32 = 0 := fun z => c_33 ((nI_eq (a := u_32) (b := 0) (Nat.lt_of_le_of_lt hu_32 (Nat.le_of_ble_eq_true rfl)) (Nat.le_of_ble_eq_true rfl)).mpr z)
        refine lv_aload_n hx hb dX9_isStuck_42 rfl (lv_at hl 0 rfl) ?_
        refine va_get (D := (dC, dI)) (ci := 9) (v := .ref (ad 35)) (C := RX9) (T := TX9) (N := 67) hx hb hts hiX9 hown hK hP 0 rfl rfl 35 (by decide) v_5 (fun _ h9 => h9) rfl dX9_isStuck_43 ?_
        refine lv_iconst (v := 0) hx hb dX9_isStuck_46 (by decide) ?_
        refine lv_aload_n hx hb dX9_isStuck_47 rfl (lv_at hl 0 rfl) ?_
        refine va_get (D := (dC, dI)) (ci := 9) (v := .ref (ad 51)) (C := RX9) (T := TX9) (N := 67) hx hb hts hiX9 hown hK hP 0 rfl rfl 51 (by decide) v_23 (fun _ h9 => h9) rfl dX9_isStuck_48 ?_
        refine lv_bipush (v := 25) hx hb dX9_isStuck_51 (by decide) ?_
        refine lv_aload_n hx hb dX9_isStuck_53 rfl (lv_at hl 0 rfl) ?_
        refine va_get (D := (dC, dI)) (ci := 9) (v := .int (nI g_8)) (C := RX9) (T := TX9) (N := 67) hx hb hts hiX9 hown hK hP 0 rfl rfl 53 (by decide) v_1 (fun _ h9 => h9) rfl dX9_isStuck_54 ?_
        refine lv_imul hx hb dX9_isStuck_57 ?_
        refine lv_topi (fun y_34 ey_34 => ?_)
        obtain rfl : y_34 = (nI (25 * g_8)) := ey_34.trans (pk_mul 25 g_8)
        have hFc := pu_free hD hS hA
        refine va_callv (va_runS (As := [.ref (ad 35), .int 0, .ref (ad 51), .int (nI (25 * g_8))]) (rest := []) ⟨hx, hb, hml, hown, hts⟩ (c_M_copies_zc l dC dI _ ad ck x0 x16 x18 x19 x20 x21 x22 x23 x24 x25 x26 x27 x28 x29 x30 x33 x45 x46 x52 g_8 x61 x62 x63 x65 x66 f1 f2 f3 q4 q5 q6 q7 f8 q9 q10 f11 m12_0 m12_1 m13_0 m13_1 m14_0 m14_1 m15_0 m15_1 f17 q31 f32 f34 z35_31 f36 f37 q38 f39 f40 f41 m42_0 m42_1 f43 f44 f47 f48 f49 f50 g_7 q54 q55 q56 f57 q58 f59 f60 f64 (25 * g_8) hx16 hx18 hx19 hx21 hx22 hx26 hx28 hx29 hx30 hx33 hx46 hx52 (Nat.le_trans hg_8 (Nat.le_of_ble_eq_true rfl)) hx61 hx62 hx63 hx65 hm12_0 hm12_1 hm13_0 hm13_1 hm14_0 hm14_1 hm15_0 hm15_1 hm42_0 hm42_1 (by omega)) (va_cwS 4 hts g_M_isStuck_M_copies_zc rfl rfl rfl (by decide +kernel) ⟨Nat.le_of_ble_eq_true rfl, Nat.le_of_ble_eq_true rfl⟩) ⟨pu_bl, pu_in hP hK hD⟩ rfl rfl hl.1 rfl (lv_room (Nat.le_of_ble_eq_true rfl)) dX9_isStuck_58 ⟨Nat.le_of_ble_eq_true rfl, Nat.le_of_ble_eq_true rfl⟩) hS (fun q _ h => hFc q h) hFc (fun u t H1 locs ht hvm hw hB hz1 hk1 hS => ?_)
        obtain ⟨z51_36, ⟨hP1, -, hD1⟩⟩ := hB
        rw [ht] at hP1
        have hP := hP1
        have hD := pu_all hFc hD1
        clear hP1 hD1 hFc
        clear hk1 hz1 ht hvm
        generalize H1 = H at hP hS ⊢
        refine lv_aload_n hx hb dX9_isStuck_61 rfl (lv_at hl 0 rfl) ?_
        refine lv_dup hx hb dX9_isStuck_62 rfl ?_
        refine va_get (D := (dC, dI)) (ci := 9) (v := .int (nI g_8)) (C := RX9) (T := TX9) (N := 67) hx hb hts hiX9 hown hK hP 0 rfl rfl 53 (by decide) v_1 (fun _ h9 => h9) rfl dX9_isStuck_63 ?_
        refine lv_iconst (v := 1) hx hb dX9_isStuck_66 (by decide) ?_
        refine lv_iadd hx hb dX9_isStuck_67 ?_
        refine lv_topi (fun y_37 ey_37 => ?_)
        obtain rfl : y_37 = (nI (g_8 + 1)) := ey_37.trans (nI_add g_8 1)
        refine va_put (D := (dC, dI)) (ci := 9) (v := .int (nI (g_8 + 1))) (ty := .int) (C := RX9) (T := TX9) (N := 67) hx hb hts hiX9 tyX9 tyX9_ok nmX9 hown hK hP hD hS 0 rfl rfl 53 (by decide) v_1 (fun _ h9 => h9) rfl (by decide +kernel) rfl rfl (Nat.le_of_ble_eq_true rfl) dX9_isStuck_68 (fun H locs hP hD hS => ?_)
        have hP : va_P (dC, dI) vwCl (mo_w ad ck x0 (nI x16) (nI x18) (nI x19) x20 (nI x21) (nI x22) x23 x24 x25 (nI x26) x27 (nI x28) (nI x29) (nI x30) (nI x33) x45 (nI x46) (nI x52) (nI (g_8 + 1)) (nI x61) (nI x62) (nI x63) (nI x65) x66 f1 f2 f3 (bN 3 q4) (bN 7 q5) (bN 7 q6) (bN 4 q7) f8 (bN 2 q9) (bH q10) f11 (b2 m12_0 m12_1) (b2 m13_0 m13_1) (b2 m14_0 m14_1) (b2m m15_0 m15_1) f17 (bA 159 q31) f32 f34 z35_31 f36 f37 (bN 7 q38) f39 f40 f41 (b2 m42_0 m42_1) f43 f44 f47 f48 f49 f50 z51_36 (bN 13 q54) (bN 120 q55) (bN 120 q56) f57 (bN 120 q58) f59 f60 f64) H := hP
        have hD : va_D A (mo_w ad ck x0 (nI x16) (nI x18) (nI x19) x20 (nI x21) (nI x22) x23 x24 x25 (nI x26) x27 (nI x28) (nI x29) (nI x30) (nI x33) x45 (nI x46) (nI x52) (nI (g_8 + 1)) (nI x61) (nI x62) (nI x63) (nI x65) x66 f1 f2 f3 (bN 3 q4) (bN 7 q5) (bN 7 q6) (bN 4 q7) f8 (bN 2 q9) (bH q10) f11 (b2 m12_0 m12_1) (b2 m13_0 m13_1) (b2 m14_0 m14_1) (b2m m15_0 m15_1) f17 (bA 159 q31) f32 f34 z35_31 f36 f37 (bN 7 q38) f39 f40 f41 (b2 m42_0 m42_1) f43 f44 f47 f48 f49 f50 z51_36 (bN 13 q54) (bN 120 q55) (bN 120 q56) f57 (bN 120 q58) f59 f60 f64) := hD
        refine lv_iinc (v := (nI (g_9 + 1))) (lv' := [(2, .int (nI (g_9 + 1))), (0, .ref (ad 0)), (1, .int (nI a0))]) hx hb dX9_isStuck_71 hl (k := 2) rfl (nI_1 _) (by decide) rfl (fun ls hl => ?_)
        refine lv_goto (tgt := 7) hx hb dX9_isStuck_74 (by decide) ?_
        exact ih_11 (14 - (g_9 + 1)) (by omega) _ _ _ ⟨z35_31, z51_36, (g_8 + 1), (g_9 + 1), rfl, (by omega), (by omega), by omega, hP, hD, hS, lv_sub hl [1, 2, 0] rfl⟩
theorem dX9_state_0 : decode cX9_state 0 = .ok (.aload_n 0, 1) := by decide +kernel
theorem dX9_state_1 : decode cX9_state 1 = .ok (.iconst 0, 1) := by decide +kernel
theorem dX9_state_2 : decode cX9_state 2 = .ok (.putfield 142, 3) := by decide +kernel
theorem dX9_state_5 : decode cX9_state 5 = .ok (.aload_n 0, 1) := by decide +kernel
theorem dX9_state_6 : decode cX9_state 6 = .ok (.iload_n 1, 1) := by decide +kernel
theorem dX9_state_7 : decode cX9_state 7 = .ok (.invokevirtual 387, 3) := by decide +kernel
theorem dX9_state_10 : decode cX9_state 10 = .ok (.ifCond .eq 12, 3) := by decide +kernel
theorem dX9_state_13 : decode cX9_state 13 = .ok (.iload_n 2, 1) := by decide +kernel
theorem dX9_state_14 : decode cX9_state 14 = .ok (.iconst 0, 1) := by decide +kernel
theorem dX9_state_15 : decode cX9_state 15 = .ok (.iconst 5, 1) := by decide +kernel
theorem dX9_state_16 : decode cX9_state 16 = .ok (.invokestatic 152, 3) := by decide +kernel
theorem dX9_state_19 : decode cX9_state 19 = .ok (.ifCond .ne 5, 3) := by decide +kernel
theorem dX9_state_22 : decode cX9_state 22 = .ok (.iconst (-1), 1) := by decide +kernel
theorem dX9_state_23 : decode cX9_state 23 = .ok (.ireturn, 1) := by decide +kernel
theorem dX9_state_24 : decode cX9_state 24 = .ok (.iconst 0, 1) := by decide +kernel
theorem dX9_state_25 : decode cX9_state 25 = .ok (.istore_n 3, 1) := by decide +kernel
theorem dX9_state_26 : decode cX9_state 26 = .ok (.iconst 1, 1) := by decide +kernel
theorem dX9_state_27 : decode cX9_state 27 = .ok (.istore 4, 2) := by decide +kernel
theorem dX9_state_29 : decode cX9_state 29 = .ok (.iload 4, 2) := by decide +kernel
theorem dX9_state_31 : decode cX9_state 31 = .ok (.aload_n 0, 1) := by decide +kernel
theorem dX9_state_32 : decode cX9_state 32 = .ok (.getfield 92, 3) := by decide +kernel
theorem dX9_state_35 : decode cX9_state 35 = .ok (.iconst 0, 1) := by decide +kernel
theorem dX9_state_36 : decode cX9_state 36 = .ok (.iaload, 1) := by decide +kernel
theorem dX9_state_37 : decode cX9_state 37 = .ok (.if_icmp .ge 28, 3) := by decide +kernel
theorem dX9_state_40 : decode cX9_state 40 = .ok (.iload_n 3, 1) := by decide +kernel
theorem dX9_state_41 : decode cX9_state 41 = .ok (.aload_n 0, 1) := by decide +kernel
theorem dX9_state_42 : decode cX9_state 42 = .ok (.getfield 83, 3) := by decide +kernel
theorem dX9_state_45 : decode cX9_state 45 = .ok (.iload 4, 2) := by decide +kernel
theorem dX9_state_47 : decode cX9_state 47 = .ok (.iaload, 1) := by decide +kernel
theorem dX9_state_48 : decode cX9_state 48 = .ok (.iload_n 1, 1) := by decide +kernel
theorem dX9_state_49 : decode cX9_state 49 = .ok (.if_icmp .ne 7, 3) := by decide +kernel
theorem dX9_state_52 : decode cX9_state 52 = .ok (.iconst 1, 1) := by decide +kernel
theorem dX9_state_53 : decode cX9_state 53 = .ok (.goto 4, 3) := by decide +kernel
theorem dX9_state_56 : decode cX9_state 56 = .ok (.iconst 0, 1) := by decide +kernel
theorem dX9_state_57 : decode cX9_state 57 = .ok (.iadd, 1) := by decide +kernel
theorem dX9_state_58 : decode cX9_state 58 = .ok (.istore_n 3, 1) := by decide +kernel
theorem dX9_state_59 : decode cX9_state 59 = .ok (.iinc 4 1, 3) := by decide +kernel
theorem dX9_state_62 : decode cX9_state 62 = .ok (.goto (-33), 3) := by decide +kernel
theorem dX9_state_65 : decode cX9_state 65 = .ok (.iload_n 2, 1) := by decide +kernel
theorem dX9_state_66 : decode cX9_state 66 = .ok (.tableswitch 64 0 4 #[34, 41, 48, 55, 62], 34) := by decide +kernel
theorem dX9_state_100 : decode cX9_state 100 = .ok (.aload_n 0, 1) := by decide +kernel
theorem dX9_state_101 : decode cX9_state 101 = .ok (.getfield 80, 3) := by decide +kernel
theorem dX9_state_104 : decode cX9_state 104 = .ok (.iload_n 1, 1) := by decide +kernel
theorem dX9_state_105 : decode cX9_state 105 = .ok (.iaload, 1) := by decide +kernel
theorem dX9_state_106 : decode cX9_state 106 = .ok (.ireturn, 1) := by decide +kernel
theorem dX9_state_107 : decode cX9_state 107 = .ok (.aload_n 0, 1) := by decide +kernel
theorem dX9_state_108 : decode cX9_state 108 = .ok (.getfield 83, 3) := by decide +kernel
theorem dX9_state_111 : decode cX9_state 111 = .ok (.iload_n 1, 1) := by decide +kernel
theorem dX9_state_112 : decode cX9_state 112 = .ok (.iaload, 1) := by decide +kernel
theorem dX9_state_113 : decode cX9_state 113 = .ok (.ireturn, 1) := by decide +kernel
theorem dX9_state_114 : decode cX9_state 114 = .ok (.aload_n 0, 1) := by decide +kernel
theorem dX9_state_115 : decode cX9_state 115 = .ok (.getfield 86, 3) := by decide +kernel
theorem dX9_state_118 : decode cX9_state 118 = .ok (.iload_n 1, 1) := by decide +kernel
theorem dX9_state_119 : decode cX9_state 119 = .ok (.iaload, 1) := by decide +kernel
theorem dX9_state_120 : decode cX9_state 120 = .ok (.ireturn, 1) := by decide +kernel
theorem dX9_state_121 : decode cX9_state 121 = .ok (.aload_n 0, 1) := by decide +kernel
theorem dX9_state_122 : decode cX9_state 122 = .ok (.getfield 89, 3) := by decide +kernel
theorem dX9_state_125 : decode cX9_state 125 = .ok (.iload_n 1, 1) := by decide +kernel
theorem dX9_state_126 : decode cX9_state 126 = .ok (.iaload, 1) := by decide +kernel
theorem dX9_state_127 : decode cX9_state 127 = .ok (.ireturn, 1) := by decide +kernel
theorem dX9_state_128 : decode cX9_state 128 = .ok (.iload_n 3, 1) := by decide +kernel
theorem dX9_state_129 : decode cX9_state 129 = .ok (.ireturn, 1) := by decide +kernel
theorem dX9_state_130 : decode cX9_state 130 = .ok (.aload_n 0, 1) := by decide +kernel
theorem dX9_state_131 : decode cX9_state 131 = .ok (.iload_n 1, 1) := by decide +kernel
theorem dX9_state_132 : decode cX9_state 132 = .ok (.invokevirtual 390, 3) := by decide +kernel
theorem dX9_state_135 : decode cX9_state 135 = .ok (.ifCond .eq 7, 3) := by decide +kernel
theorem dX9_state_138 : decode cX9_state 138 = .ok (.iconst 1, 1) := by decide +kernel
theorem dX9_state_139 : decode cX9_state 139 = .ok (.goto 4, 3) := by decide +kernel
theorem dX9_state_142 : decode cX9_state 142 = .ok (.iconst 0, 1) := by decide +kernel
theorem dX9_state_143 : decode cX9_state 143 = .ok (.ireturn, 1) := by decide +kernel
abbrev vs_M_state : List Cond := .code yX9_state cX9_state 5 (some .int) :: VM
theorem g_M_state_X9_in : GoodIn vs_M_state (va_wsS RX9 152 yX9_in vs_X9_in) := gm_0 (fun w h => by
  rcases List.mem_cons.mp h with rfl | h
  · exact vm_153
  rcases List.mem_cons.mp h with rfl | h
  · exact vm_154
  rcases List.mem_cons.mp h with rfl | h
  · exact vm_12
  rcases List.mem_cons.mp h with rfl | h
  · exact vm_14
  exact absurd h (List.not_mem_nil))
theorem g_M_state_M_isState : GoodIn vs_M_state (wsV RX9 387 RX9 yX9_isState vs_M_isState) := gm_V vm_279 vm_280 vm_281 vm_12 vm_276
theorem g_M_state_M_isStuck : GoodIn vs_M_state (wsV RX9 390 RX9 yX9_isStuck vs_M_isStuck) := gm_V vm_322 vm_323 vm_324 vm_12 vm_317
set_option maxHeartbeats 4000000 in
set_option maxRecDepth 100000 in
theorem c_M_state (l : Launch) (dC : Nat → ClassId) (dI : Nat → Nat → Nat) (sz : Nat) (ad : Nat → Nat) (ck : Nat → ClassId) (x0 : Int32) (x16 : Nat) (x18 : Nat) (x19 : Nat) (x20 : Int32) (x21 : Nat) (x22 : Nat) (x23 : Int32) (x24 : Int32) (x25 : Int32) (x26 : Nat) (x27 : Int32) (x28 : Nat) (x29 : Nat) (x30 : Nat) (x33 : Nat) (x45 : Int32) (x46 : Nat) (x52 : Nat) (x53 : Nat) (x61 : Nat) (x62 : Nat) (x63 : Nat) (x65 : Nat) (x66 : Int32) (f1 : Nat → Int32) (f2 : Nat → Int32) (f3 : Nat → Int32) (q4 : Nat → Nat) (q5 : Nat → Nat) (q6 : Nat → Nat) (q7 : Nat → Nat) (f8 : Nat → Int32) (q9 : Nat → Nat) (q10 : Nat → Nat) (f11 : Nat → Int32) (m12_0 m12_1 : Nat) (m13_0 m13_1 : Nat) (m14_0 m14_1 : Nat) (m15_0 m15_1 : Nat) (f17 : Nat → Int32) (q31 : Nat → Nat) (f32 : Nat → Int32) (f34 : Nat → Int32) (f35 : Nat → Int32) (f36 : Nat → Int32) (f37 : Nat → Int32) (q38 : Nat → Nat) (f39 : Nat → Int32) (f40 : Nat → Int32) (f41 : Nat → Int32) (m42_0 m42_1 : Nat) (f43 : Nat → Int32) (f44 : Nat → Int32) (f47 : Nat → Int32) (f48 : Nat → Int32) (f49 : Nat → Int32) (f50 : Nat → Int32) (f51 : Nat → Int32) (q54 : Nat → Nat) (q55 : Nat → Nat) (q56 : Nat → Nat) (f57 : Nat → Int32) (q58 : Nat → Nat) (f59 : Nat → Int32) (f60 : Nat → Int32) (f64 : Nat → Int32) (p0 : Int32) (p1 : Int32) (hx16 : x16 ≤ 1) (hx18 : x18 ≤ 900) (hx19 : x19 ≤ 900) (hx21 : x21 ≤ 900) (hx22 : x22 ≤ 4) (hx26 : x26 ≤ 6) (hx28 : x28 ≤ 1) (hx29 : x29 ≤ 1) (hx30 : x30 ≤ 1) (hx33 : x33 ≤ 20) (hx46 : x46 ≤ 5) (hx52 : x52 ≤ 2400) (hx53 : x53 ≤ 119) (hx61 : x61 ≤ 119) (hx62 : x62 ≤ 2000) (hx63 : x63 ≤ 1) (hx65 : x65 ≤ 7) (hm12_0 : m12_0 ≤ 3) (hm12_1 : m12_1 ≤ 3) (hm13_0 : m13_0 ≤ 8) (hm13_1 : m13_1 ≤ 8) (hm14_0 : m14_0 ≤ 14) (hm14_1 : m14_1 ≤ 14) (hm15_0 : m15_0 ≤ 8) (hm15_1 : m15_1 ≤ 8) (hm42_0 : m42_0 ≤ 120) (hm42_1 : m42_1 ≤ 400) : Met l yX9_state vs_M_state ({ frames := 6, cells := 0, slots := 0, locals := 135 }) (va_Pc [.ref (ad 0), .int p0, .int p1] (pu_B (dC, dI) (mo_w ad ck x0 (nI x16) (nI x18) (nI x19) x20 (nI x21) (nI x22) x23 x24 x25 (nI x26) x27 (nI x28) (nI x29) (nI x30) (nI x33) x45 (nI x46) (nI x52) (nI x53) (nI x61) (nI x62) (nI x63) (nI x65) x66 f1 f2 f3 (bN 3 q4) (bN 7 q5) (bN 7 q6) (bN 4 q7) f8 (bN 2 q9) (bH q10) f11 (b2 m12_0 m12_1) (b2 m13_0 m13_1) (b2 m14_0 m14_1) (b2m m15_0 m15_1) f17 (bA 159 q31) f32 f34 f35 f36 f37 (bN 7 q38) f39 f40 f41 (b2 m42_0 m42_1) f43 f44 f47 f48 f49 f50 f51 (bN 13 q54) (bN 120 q55) (bN 120 q56) f57 (bN 120 q58) f59 f60 f64) (mo_t ck) sz)) (va_Qi (fun (r : Int32) (_ : Unit) => True) (fun _ t => ∃ (z35 : Nat → Int32) (z36 : Nat → Int32) (z49 : Nat → Int32) (z50 : Nat → Int32) (z51 : Nat → Int32) (z0 : Int32) (z46 : Nat) (z52 : Nat) (z53 : Nat), pu_E (dC, dI) (mo_w ad ck z0 (nI x16) (nI x18) (nI x19) x20 (nI x21) (nI x22) x23 x24 x25 (nI x26) x27 (nI x28) (nI x29) (nI x30) (nI x33) x45 (nI z46) (nI z52) (nI z53) (nI x61) (nI x62) (nI x63) (nI x65) x66 f1 f2 f3 (bN 3 q4) (bN 7 q5) (bN 7 q6) (bN 4 q7) f8 (bN 2 q9) (bH q10) f11 (b2 m12_0 m12_1) (b2 m13_0 m13_1) (b2 m14_0 m14_1) (b2m m15_0 m15_1) f17 (bA 159 q31) f32 f34 z35 z36 f37 (bN 7 q38) f39 f40 f41 (b2 m42_0 m42_1) f43 f44 f47 f48 z49 z50 z51 (bN 13 q54) (bN 120 q55) (bN 120 q56) f57 (bN 120 q58) f59 f60 f64) (mo_t ck) (va_A ((mo_w ad ck x0 (nI x16) (nI x18) (nI x19) x20 (nI x21) (nI x22) x23 x24 x25 (nI x26) x27 (nI x28) (nI x29) (nI x30) (nI x33) x45 (nI x46) (nI x52) (nI x53) (nI x61) (nI x62) (nI x63) (nI x65) x66 f1 f2 f3 (bN 3 q4) (bN 7 q5) (bN 7 q6) (bN 4 q7) f8 (bN 2 q9) (bH q10) f11 (b2 m12_0 m12_1) (b2 m13_0 m13_1) (b2 m14_0 m14_1) (b2m m15_0 m15_1) f17 (bA 159 q31) f32 f34 f35 f36 f37 (bN 7 q38) f39 f40 f41 (b2 m42_0 m42_1) f43 f44 f47 f48 f49 f50 f51 (bN 13 q54) (bN 120 q55) (bN 120 q56) f57 (bN 120 q58) f59 f60 f64)) sz) t ∧ (z46 ≤ 5) ∧ (z52 ≤ 2400) ∧ (z53 ≤ 119)) (va_A ((mo_w ad ck x0 (nI x16) (nI x18) (nI x19) x20 (nI x21) (nI x22) x23 x24 x25 (nI x26) x27 (nI x28) (nI x29) (nI x30) (nI x33) x45 (nI x46) (nI x52) (nI x53) (nI x61) (nI x62) (nI x63) (nI x65) x66 f1 f2 f3 (bN 3 q4) (bN 7 q5) (bN 7 q6) (bN 4 q7) f8 (bN 2 q9) (bH q10) f11 (b2 m12_0 m12_1) (b2 m13_0 m13_1) (b2 m14_0 m14_1) (b2m m15_0 m15_1) f17 (bA 159 q31) f32 f34 f35 f36 f37 (bN 7 q38) f39 f40 f41 (b2 m42_0 m42_1) f43 f44 f47 f48 f49 f50 f51 (bN 13 q54) (bN 120 q55) (bN 120 q56) f57 (bN 120 q58) f59 f60 f64)) sz)) 0 0 (va_A ((mo_w ad ck x0 (nI x16) (nI x18) (nI x19) x20 (nI x21) (nI x22) x23 x24 x25 (nI x26) x27 (nI x28) (nI x29) (nI x30) (nI x33) x45 (nI x46) (nI x52) (nI x53) (nI x61) (nI x62) (nI x63) (nI x65) x66 f1 f2 f3 (bN 3 q4) (bN 7 q5) (bN 7 q6) (bN 4 q7) f8 (bN 2 q9) (bH q10) f11 (b2 m12_0 m12_1) (b2 m13_0 m13_1) (b2 m14_0 m14_1) (b2m m15_0 m15_1) f17 (bA 159 q31) f32 f34 f35 f36 f37 (bN 7 q38) f39 f40 f41 (b2 m42_0 m42_1) f43 f44 f47 f48 f49 f50 f51 (bN 13 q54) (bN 120 q55) (bN 120 q56) f57 (bN 120 q58) f59 f60 f64)) sz) := by
  refine Met.ofW (cc := cX9_state) (maxL := 5) (ret := (some .int)) (by decide) rfl ?_
  intro p e s m args below meth c s₁ B hml hv
  obtain ⟨rfl, rfl, hP, hK, hD0⟩ := hv
  have hx := B.exec
  have hb := B.bytes
  have hr := B.returns
  have hts := atoms_spec (ws := vs_M_state) B.pre
  have v_1 := hts (.fieldLink RX9 142 "ClockReachModel" "thrown" "I") (List.mem_cons_of_mem _ vm_24)
  have v_10 := hts (.fieldLink RX9 92 "ClockReachModel" "stateMany" "[I") (List.mem_cons_of_mem _ vm_177)
  have v_11 := hts (.fieldLink RX9 83 "ClockReachModel" "stateFrom" "[I") (List.mem_cons_of_mem _ vm_252)
  have v_12 := hts (.fieldLink RX9 80 "ClockReachModel" "statePlace" "[I") (List.mem_cons_of_mem _ vm_240)
  have v_13 := hts (.fieldLink RX9 86 "ClockReachModel" "stateBy" "[I") (List.mem_cons_of_mem _ vm_253)
  have v_14 := hts (.fieldLink RX9 89 "ClockReachModel" "stateDeep" "[I") (List.mem_cons_of_mem _ vm_254)
  have hown : s.vm.findClass RX9 = some m.cls := findClass_of_methodNamed B.named
  have hlocks := B.notSynchronized
  have hiX9 : ∀ w ∈ wsX90, w ∈ vs_M_state := fun _ h => List.mem_cons_of_mem _ (List.mem_append_right _ h)
  have hD := hD0.self (sz := s.heap.size)
  generalize hAe : va_A ((mo_w ad ck x0 (nI x16) (nI x18) (nI x19) x20 (nI x21) (nI x22) x23 x24 x25 (nI x26) x27 (nI x28) (nI x29) (nI x30) (nI x33) x45 (nI x46) (nI x52) (nI x53) (nI x61) (nI x62) (nI x63) (nI x65) x66 f1 f2 f3 (bN 3 q4) (bN 7 q5) (bN 7 q6) (bN 4 q7) f8 (bN 2 q9) (bH q10) f11 (b2 m12_0 m12_1) (b2 m13_0 m13_1) (b2 m14_0 m14_1) (b2m m15_0 m15_1) f17 (bA 159 q31) f32 f34 f35 f36 f37 (bN 7 q38) f39 f40 f41 (b2 m42_0 m42_1) f43 f44 f47 f48 f49 f50 f51 (bN 13 q54) (bN 120 q55) (bN 120 q56) f57 (bN 120 q58) f59 f60 f64)) s.heap.size = A at hD ⊢
  have hA : ∀ q : Nat, s.heap.size ≤ q → A q := fun q h => by rw [← hAe]; exact Or.inr h
  have hS : va_S A s.heap s.heap [] := va_S.rf
  have hl := lv_entry ([.ref (ad 0), .int p0, .int p1]) (n := 5) (Nat.le_of_ble_eq_true rfl)
  rw [lg_entry_eq]
  generalize (lg_sl ([.ref (ad 0), .int p0, .int p1]) ++ List.replicate (5 - (lg_sl ([.ref (ad 0), .int p0, .int p1])).length) Slot.unset).toArray = ls at hl ⊢
  have hl : lv_has ls 5 [(0, .ref (ad 0)), (1, .int p0), (2, .int p1)] := hl
  refine lv_aload_n hx hb dX9_state_0 rfl (lv_at hl 0 rfl) ?_
  refine lv_iconst (v := 0) hx hb dX9_state_1 (by decide) ?_
  refine va_put (D := (dC, dI)) (ci := 9) (v := .int 0) (ty := .int) (C := RX9) (T := TX9) (N := 67) hx hb hts hiX9 tyX9 tyX9_ok nmX9 hown hK hP hD hS 0 rfl rfl 0 (by decide) v_1 (fun _ h9 => h9) rfl (by decide +kernel) rfl rfl (Nat.le_of_ble_eq_true rfl) dX9_state_2 (fun H locs hP hD hS => ?_)
  have hP : va_P (dC, dI) vwCl (mo_w ad ck 0 (nI x16) (nI x18) (nI x19) x20 (nI x21) (nI x22) x23 x24 x25 (nI x26) x27 (nI x28) (nI x29) (nI x30) (nI x33) x45 (nI x46) (nI x52) (nI x53) (nI x61) (nI x62) (nI x63) (nI x65) x66 f1 f2 f3 (bN 3 q4) (bN 7 q5) (bN 7 q6) (bN 4 q7) f8 (bN 2 q9) (bH q10) f11 (b2 m12_0 m12_1) (b2 m13_0 m13_1) (b2 m14_0 m14_1) (b2m m15_0 m15_1) f17 (bA 159 q31) f32 f34 f35 f36 f37 (bN 7 q38) f39 f40 f41 (b2 m42_0 m42_1) f43 f44 f47 f48 f49 f50 f51 (bN 13 q54) (bN 120 q55) (bN 120 q56) f57 (bN 120 q58) f59 f60 f64) H := hP
  have hD : va_D A (mo_w ad ck 0 (nI x16) (nI x18) (nI x19) x20 (nI x21) (nI x22) x23 x24 x25 (nI x26) x27 (nI x28) (nI x29) (nI x30) (nI x33) x45 (nI x46) (nI x52) (nI x53) (nI x61) (nI x62) (nI x63) (nI x65) x66 f1 f2 f3 (bN 3 q4) (bN 7 q5) (bN 7 q6) (bN 4 q7) f8 (bN 2 q9) (bH q10) f11 (b2 m12_0 m12_1) (b2 m13_0 m13_1) (b2 m14_0 m14_1) (b2m m15_0 m15_1) f17 (bA 159 q31) f32 f34 f35 f36 f37 (bN 7 q38) f39 f40 f41 (b2 m42_0 m42_1) f43 f44 f47 f48 f49 f50 f51 (bN 13 q54) (bN 120 q55) (bN 120 q56) f57 (bN 120 q58) f59 f60 f64) := hD
  refine lv_aload_n hx hb dX9_state_5 rfl (lv_at hl 0 rfl) ?_
  refine lv_iload_n hx hb dX9_state_6 rfl (lv_at hl 1 rfl) ?_
  have hFc := pu_free hD hS hA
  refine va_calli (va_runV (As := [.int p0]) (rest := []) ⟨hx, hb, hml, hown, hts⟩ (c_M_isState l dC dI _ ad ck 0 x16 x18 x19 x20 x21 x22 x23 x24 x25 x26 x27 x28 x29 x30 x33 x45 x46 x52 x53 x61 x62 x63 x65 x66 f1 f2 f3 q4 q5 q6 q7 f8 q9 q10 f11 m12_0 m12_1 m13_0 m13_1 m14_0 m14_1 m15_0 m15_1 f17 q31 f32 f34 f35 f36 f37 q38 f39 f40 f41 m42_0 m42_1 f43 f44 f47 f48 f49 f50 f51 q54 q55 q56 f57 q58 f59 f60 f64 p0 hx16 hx18 hx19 hx21 hx22 hx26 hx28 hx29 hx30 hx33 hx46 hx52 hx53 hx61 hx62 hx63 hx65 hm12_0 hm12_1 hm13_0 hm13_1 hm14_0 hm14_1 hm15_0 hm15_1 hm42_0 hm42_1) (cwV 1 hts g_M_state_M_isState rfl rfl rfl (by decide +kernel) ⟨Nat.le_of_ble_eq_true rfl, Nat.le_of_ble_eq_true rfl⟩) ⟨pu_bl, va_recv hK hP (ci := 9) (q0 := 0) rfl rfl, pu_in hP hK hD⟩ rfl rfl hl.1 rfl (lv_room (Nat.le_of_ble_eq_true rfl)) dX9_state_7 ⟨Nat.le_of_ble_eq_true rfl, Nat.le_of_ble_eq_true rfl⟩) hS (fun q _ h => hFc q h) hFc (fun r_1 u t H1 locs ht hvm hw hB hz1 hk1 hS => ?_)
  obtain ⟨z46_2, ⟨hP1, -, hD1⟩, hz46_2⟩ := hB
  rw [ht] at hP1
  have hP := hP1
  have hD := pu_all hFc hD1
  clear hP1 hD1 hFc
  clear hk1 hz1 ht hvm
  generalize H1 = H at hP hS ⊢
  rcases hw with ⟨rfl, hw⟩ | rfl
  · obtain ⟨n_3, hn_3, rfl⟩ := hw
    refine lv_if_eq (tgt := 22) hx hb dX9_state_10 (by decide) (fun z => absurd z (by decide)) (fun _ => ?_)
    refine lv_iload_n hx hb dX9_state_13 rfl (lv_at hl 2 rfl) ?_
    refine lv_iconst (v := 0) hx hb dX9_state_14 (by decide) ?_
    refine lv_iconst (v := 5) hx hb dX9_state_15 (by decide) ?_
    refine va_calli (va_runS (As := [.int p1, .int 0, .int 5]) (rest := []) ⟨hx, hb, hml, hown, hts⟩ (c_X9_in l dC dI _ p1 0 5) (va_cwS 3 hts g_M_state_X9_in rfl rfl rfl (by decide +kernel) ⟨Nat.le_of_ble_eq_true rfl, Nat.le_of_ble_eq_true rfl⟩) ⟨pu_bl, pu_in (hP.sub [] rfl) (hK.sub [] rfl) (hD.sub [] (by decide) rfl)⟩ rfl rfl hl.1 rfl (lv_room (Nat.le_of_ble_eq_true rfl)) dX9_state_16 ⟨Nat.le_of_ble_eq_true rfl, Nat.le_of_ble_eq_true rfl⟩) hS (fun q _ h => pu_fr hS hA q h) (pu_fr hS hA) (fun r_4 u t H1 locs ht hvm hw hB hz1 hk1 hS => ?_)
    have hP := pu_keep hP hk1
    clear hk1 hz1 ht hvm
    generalize H1 = H at hP hS ⊢
    rcases hw with ⟨rfl, hi1, hi2⟩ | ⟨rfl, hi3⟩
    · obtain ⟨n_5, hn_5, rfl⟩ := pu_in0 (n := 5) (by omega) hi1 hi2
      refine lv_if_ne (tgt := 24) hx hb dX9_state_19 (by decide) (fun _ => ?_) (fun z => absurd z (by decide))
      refine lv_iconst (v := 0) hx hb dX9_state_24 (by decide) ?_
      refine lv_istore_n (lv' := [(3, .int 0), (0, .ref (ad 0)), (1, .int (nI n_3)), (2, .int (nI n_5))]) hx hb dX9_state_25 rfl hl (by decide) rfl (fun ls hl => ?_)
      refine lv_iconst (v := 1) hx hb dX9_state_26 (by decide) ?_
      refine lv_istore (lv' := [(4, .int 1), (3, .int 0), (0, .ref (ad 0)), (1, .int (nI n_3)), (2, .int (nI n_5))]) hx hb dX9_state_27 hl (by decide) rfl (fun ls hl => ?_)
      refine pu_while (fun nn H locs ls => ∃ (g_8 : Int32) (g_9 : Nat), nn = 120 - g_9 ∧ (1 ≤ g_9 ∧ g_9 ≤ 120) ∧ va_P (dC, dI) vwCl (mo_w ad ck 0 (nI x16) (nI x18) (nI x19) x20 (nI x21) (nI x22) x23 x24 x25 (nI x26) x27 (nI x28) (nI x29) (nI x30) (nI x33) x45 (nI z46_2) (nI x52) (nI x53) (nI x61) (nI x62) (nI x63) (nI x65) x66 f1 f2 f3 (bN 3 q4) (bN 7 q5) (bN 7 q6) (bN 4 q7) f8 (bN 2 q9) (bH q10) f11 (b2 m12_0 m12_1) (b2 m13_0 m13_1) (b2 m14_0 m14_1) (b2m m15_0 m15_1) f17 (bA 159 q31) f32 f34 f35 f36 f37 (bN 7 q38) f39 f40 f41 (b2 m42_0 m42_1) f43 f44 f47 f48 f49 f50 f51 (bN 13 q54) (bN 120 q55) (bN 120 q56) f57 (bN 120 q58) f59 f60 f64) H ∧ va_D A (mo_w ad ck 0 (nI x16) (nI x18) (nI x19) x20 (nI x21) (nI x22) x23 x24 x25 (nI x26) x27 (nI x28) (nI x29) (nI x30) (nI x33) x45 (nI z46_2) (nI x52) (nI x53) (nI x61) (nI x62) (nI x63) (nI x65) x66 f1 f2 f3 (bN 3 q4) (bN 7 q5) (bN 7 q6) (bN 4 q7) f8 (bN 2 q9) (bH q10) f11 (b2 m12_0 m12_1) (b2 m13_0 m13_1) (b2 m14_0 m14_1) (b2m m15_0 m15_1) f17 (bA 159 q31) f32 f34 f35 f36 f37 (bN 7 q38) f39 f40 f41 (b2 m42_0 m42_1) f43 f44 f47 f48 f49 f50 f51 (bN 13 q54) (bN 120 q55) (bN 120 q56) f57 (bN 120 q58) f59 f60 f64) ∧ va_S A s.heap H locs ∧ lv_has ls 5 [(0, .ref (ad 0)), (1, .int (nI n_3)), (2, .int (nI n_5)), (3, .int g_8), (4, .int (nI g_9))]) 29 ?_ _ _ _ _ ⟨0, 1, rfl, ⟨by omega, by omega⟩, hP, hD, hS, lv_sub hl [2, 3, 4, 1, 0] rfl⟩
      rintro nn ih_10 H locs ls ⟨g_8, g_9, rfl, hg_9, hP, hD, hS, hl⟩
      refine lv_iload hx hb dX9_state_29 (lv_at hl 4 rfl) ?_
      refine lv_aload_n hx hb dX9_state_31 rfl (lv_at hl 0 rfl) ?_
      refine va_get (D := (dC, dI)) (ci := 9) (v := .ref (ad 42)) (C := RX9) (T := TX9) (N := 67) hx hb hts hiX9 hown hK hP 0 rfl rfl 42 (by decide) v_10 (fun _ h9 => h9) rfl dX9_state_32 ?_
      refine lv_iconst (v := 0) hx hb dX9_state_35 (by decide) ?_
      refine va_iald hx hb hK hP 27 26 rfl rfl (vp_in_nI (n := 0) (Nat.le_of_ble_eq_true rfl) (Nat.le_of_ble_eq_true rfl)) dX9_state_36 ?_
      refine lv_topi (fun y_11 ey_11 => ?_)
      have qy_11 := ey_11.trans b2_0
      clear ey_11
      obtain rfl : y_11 = nI m42_0 := qy_11
      refine lv_icmp_ge (tgt := 65) hx hb dX9_state_37 (by decide) (fun c_12 => ?_) (fun c_12 => ?_)
      · have c_12 : m42_0 ≤ g_9 := (nI_leI (a := m42_0) (b := g_9) (Nat.lt_of_le_of_lt hm42_0 (Nat.le_of_ble_eq_true rfl)) (Nat.lt_of_le_of_lt hg_9.2 (Nat.le_of_ble_eq_true rfl))).mp c_12
        refine lv_iload_n hx hb dX9_state_65 rfl (lv_at hl 2 rfl) ?_
        by_cases w_13 : n_5 = 0
        · subst w_13
          refine lv_tableIn (tgt := 100) (off := 34) hx hb dX9_state_66 (by decide) (by decide) rfl (by decide) ?_
          refine lv_aload_n hx hb dX9_state_100 rfl (lv_at hl 0 rfl) ?_
          refine va_get (D := (dC, dI)) (ci := 9) (v := .ref (ad 38)) (C := RX9) (T := TX9) (N := 67) hx hb hts hiX9 hown hK hP 0 rfl rfl 38 (by decide) v_12 (fun _ h9 => h9) rfl dX9_state_101 ?_
          refine lv_iload_n hx hb dX9_state_104 rfl (lv_at hl 1 rfl) ?_
          refine va_iald hx hb hK hP 23 22 rfl rfl (vp_in_nI (n := n_3) (by omega) (Nat.le_of_ble_eq_true rfl)) dX9_state_105 ?_
          refine lv_topi (fun y_14 ey_14 => ?_)
          obtain ⟨u_15, hu_15, qu_15⟩ := bN_get 7 q38 (((nI n_3) : Int32).toNatClampNeg)
          obtain rfl : y_14 = nI u_15 := ey_14.trans qu_15
          exact W.iret (v := (nI u_15)) hx hb hr (fun t ht hW => ⟨⟨(nI u_15), (), rfl, trivial, ⟨f35, f36, f49, f50, f51, 0, z46_2, x52, x53, ⟨by rw [ht]; exact hP, va_K.moved hW.alike hK, hD⟩, (Nat.le_trans hz46_2 (Nat.le_of_ble_eq_true rfl)), hx52, hx53⟩⟩, hS.F ht⟩) hS.2.2 dX9_state_106
        by_cases w_16 : n_5 = 1
        · subst w_16
          refine lv_tableIn (tgt := 107) (off := 41) hx hb dX9_state_66 (by decide) (by decide) rfl (by decide) ?_
          refine lv_aload_n hx hb dX9_state_107 rfl (lv_at hl 0 rfl) ?_
          refine va_get (D := (dC, dI)) (ci := 9) (v := .ref (ad 39)) (C := RX9) (T := TX9) (N := 67) hx hb hts hiX9 hown hK hP 0 rfl rfl 39 (by decide) v_11 (fun _ h9 => h9) rfl dX9_state_108 ?_
          refine lv_iload_n hx hb dX9_state_111 rfl (lv_at hl 1 rfl) ?_
          refine va_iald hx hb hK hP 24 23 rfl rfl (vp_in_nI (n := n_3) (by omega) (Nat.le_of_ble_eq_true rfl)) dX9_state_112 ?_
          refine lv_topi (fun y_17 ey_17 => ?_)
          exact W.iret (v := y_17) hx hb hr (fun t ht hW => ⟨⟨y_17, (), rfl, trivial, ⟨f35, f36, f49, f50, f51, 0, z46_2, x52, x53, ⟨by rw [ht]; exact hP, va_K.moved hW.alike hK, hD⟩, (Nat.le_trans hz46_2 (Nat.le_of_ble_eq_true rfl)), hx52, hx53⟩⟩, hS.F ht⟩) hS.2.2 dX9_state_113
        by_cases w_18 : n_5 = 2
        · subst w_18
          refine lv_tableIn (tgt := 114) (off := 48) hx hb dX9_state_66 (by decide) (by decide) rfl (by decide) ?_
          refine lv_aload_n hx hb dX9_state_114 rfl (lv_at hl 0 rfl) ?_
          refine va_get (D := (dC, dI)) (ci := 9) (v := .ref (ad 40)) (C := RX9) (T := TX9) (N := 67) hx hb hts hiX9 hown hK hP 0 rfl rfl 40 (by decide) v_13 (fun _ h9 => h9) rfl dX9_state_115 ?_
          refine lv_iload_n hx hb dX9_state_118 rfl (lv_at hl 1 rfl) ?_
          refine va_iald hx hb hK hP 25 24 rfl rfl (vp_in_nI (n := n_3) (by omega) (Nat.le_of_ble_eq_true rfl)) dX9_state_119 ?_
          refine lv_topi (fun y_19 ey_19 => ?_)
          exact W.iret (v := y_19) hx hb hr (fun t ht hW => ⟨⟨y_19, (), rfl, trivial, ⟨f35, f36, f49, f50, f51, 0, z46_2, x52, x53, ⟨by rw [ht]; exact hP, va_K.moved hW.alike hK, hD⟩, (Nat.le_trans hz46_2 (Nat.le_of_ble_eq_true rfl)), hx52, hx53⟩⟩, hS.F ht⟩) hS.2.2 dX9_state_120
        by_cases w_20 : n_5 = 3
        · subst w_20
          refine lv_tableIn (tgt := 121) (off := 55) hx hb dX9_state_66 (by decide) (by decide) rfl (by decide) ?_
          refine lv_aload_n hx hb dX9_state_121 rfl (lv_at hl 0 rfl) ?_
          refine va_get (D := (dC, dI)) (ci := 9) (v := .ref (ad 41)) (C := RX9) (T := TX9) (N := 67) hx hb hts hiX9 hown hK hP 0 rfl rfl 41 (by decide) v_14 (fun _ h9 => h9) rfl dX9_state_122 ?_
          refine lv_iload_n hx hb dX9_state_125 rfl (lv_at hl 1 rfl) ?_
          refine va_iald hx hb hK hP 26 25 rfl rfl (vp_in_nI (n := n_3) (by omega) (Nat.le_of_ble_eq_true rfl)) dX9_state_126 ?_
          refine lv_topi (fun y_21 ey_21 => ?_)
          exact W.iret (v := y_21) hx hb hr (fun t ht hW => ⟨⟨y_21, (), rfl, trivial, ⟨f35, f36, f49, f50, f51, 0, z46_2, x52, x53, ⟨by rw [ht]; exact hP, va_K.moved hW.alike hK, hD⟩, (Nat.le_trans hz46_2 (Nat.le_of_ble_eq_true rfl)), hx52, hx53⟩⟩, hS.F ht⟩) hS.2.2 dX9_state_127
        by_cases w_22 : n_5 = 4
        · subst w_22
          refine lv_tableIn (tgt := 128) (off := 62) hx hb dX9_state_66 (by decide) (by decide) rfl (by decide) ?_
          refine lv_iload_n hx hb dX9_state_128 rfl (lv_at hl 3 rfl) ?_
          exact W.iret (v := g_8) hx hb hr (fun t ht hW => ⟨⟨g_8, (), rfl, trivial, ⟨f35, f36, f49, f50, f51, 0, z46_2, x52, x53, ⟨by rw [ht]; exact hP, va_K.moved hW.alike hK, hD⟩, (Nat.le_trans hz46_2 (Nat.le_of_ble_eq_true rfl)), hx52, hx53⟩⟩, hS.F ht⟩) hS.2.2 dX9_state_129
        refine lv_tableOut (tgt := 130) hx hb dX9_state_66 (by
            have zt := nI_toInt (n := n_5) (by omega)
            omega) (by decide) ?_
        refine lv_aload_n hx hb dX9_state_130 rfl (lv_at hl 0 rfl) ?_
        refine lv_iload_n hx hb dX9_state_131 rfl (lv_at hl 1 rfl) ?_
        have hFc := pu_free hD hS hA
        refine va_calli (va_runV (As := [.int (nI n_3)]) (rest := []) ⟨hx, hb, hml, hown, hts⟩ (c_M_isStuck l dC dI _ ad ck 0 x16 x18 x19 x20 x21 x22 x23 x24 x25 x26 x27 x28 x29 x30 x33 x45 z46_2 x52 x53 x61 x62 x63 x65 x66 f1 f2 f3 q4 q5 q6 q7 f8 q9 q10 f11 m12_0 m12_1 m13_0 m13_1 m14_0 m14_1 m15_0 m15_1 f17 q31 f32 f34 f35 f36 f37 q38 f39 f40 f41 m42_0 m42_1 f43 f44 f47 f48 f49 f50 f51 q54 q55 q56 f57 q58 f59 f60 f64 n_3 hx16 hx18 hx19 hx21 hx22 hx26 hx28 hx29 hx30 hx33 (Nat.le_trans hz46_2 (Nat.le_of_ble_eq_true rfl)) hx52 hx53 hx61 hx62 hx63 hx65 hm12_0 hm12_1 hm13_0 hm13_1 hm14_0 hm14_1 hm15_0 hm15_1 hm42_0 hm42_1 (by omega)) (cwV 1 hts g_M_state_M_isStuck rfl rfl rfl (by decide +kernel) ⟨Nat.le_of_ble_eq_true rfl, Nat.le_of_ble_eq_true rfl⟩) ⟨pu_bl, va_recv hK hP (ci := 9) (q0 := 0) rfl rfl, pu_in hP hK hD⟩ rfl rfl hl.1 rfl (lv_room (Nat.le_of_ble_eq_true rfl)) dX9_state_132 ⟨Nat.le_of_ble_eq_true rfl, Nat.le_of_ble_eq_true rfl⟩) hS (fun q _ h => hFc q h) hFc (fun r_23 u t H1 locs ht hvm hw hB hz1 hk1 hS => ?_)
        obtain ⟨z35_24, z36_25, z49_26, z50_27, z51_28, z52_29, z53_30, ⟨hP1, -, hD1⟩, hz52_29, hz53_30⟩ := hB
        rw [ht] at hP1
        have hP := hP1
        have hD := pu_all hFc hD1
        clear hP1 hD1 hFc
        clear hk1 hz1 ht hvm
        generalize H1 = H at hP hS ⊢
        obtain ⟨u_31, hu_31, rfl⟩ := hw
        refine lv_if_eq (tgt := 142) hx hb dX9_state_135 (by decide) (fun c_32 => ?_) (fun c_32 => ?_)
        · have c_32 : u_31 = 0 := (nI_eq (a := u_31) (b := 0) (Nat.lt_of_le_of_lt hu_31 (Nat.le_of_ble_eq_true rfl)) (Nat.le_of_ble_eq_true rfl)).mp c_32
          refine lv_iconst (v := 0) hx hb dX9_state_142 (by decide) ?_
          exact W.iret (v := 0) hx hb hr (fun t ht hW => ⟨⟨0, (), rfl, trivial, ⟨z35_24, z36_25, z49_26, z50_27, z51_28, 0, z46_2, z52_29, z53_30, ⟨by rw [ht]; exact hP, va_K.moved hW.alike hK, hD⟩, (Nat.le_trans hz46_2 (Nat.le_of_ble_eq_true rfl)), hz52_29, hz53_30⟩⟩, hS.F ht⟩) hS.2.2 dX9_state_143
        · have c_32 : ¬ u_31 = 0 := fun z => c_32 ((nI_eq (a := u_31) (b := 0) (Nat.lt_of_le_of_lt hu_31 (Nat.le_of_ble_eq_true rfl)) (Nat.le_of_ble_eq_true rfl)).mpr z)
          refine lv_iconst (v := 1) hx hb dX9_state_138 (by decide) ?_
          refine lv_goto (tgt := 143) hx hb dX9_state_139 (by decide) ?_
          exact W.iret (v := 1) hx hb hr (fun t ht hW => ⟨⟨1, (), rfl, trivial, ⟨z35_24, z36_25, z49_26, z50_27, z51_28, 0, z46_2, z52_29, z53_30, ⟨by rw [ht]; exact hP, va_K.moved hW.alike hK, hD⟩, (Nat.le_trans hz46_2 (Nat.le_of_ble_eq_true rfl)), hz52_29, hz53_30⟩⟩, hS.F ht⟩) hS.2.2 dX9_state_143
      · have c_12 : ¬ m42_0 ≤ g_9 := fun z => c_12 ((nI_leI (a := m42_0) (b := g_9) (Nat.lt_of_le_of_lt hm42_0 (Nat.le_of_ble_eq_true rfl)) (Nat.lt_of_le_of_lt hg_9.2 (Nat.le_of_ble_eq_true rfl))).mpr z)
        refine lv_iload_n hx hb dX9_state_40 rfl (lv_at hl 3 rfl) ?_
        refine lv_aload_n hx hb dX9_state_41 rfl (lv_at hl 0 rfl) ?_
        refine va_get (D := (dC, dI)) (ci := 9) (v := .ref (ad 39)) (C := RX9) (T := TX9) (N := 67) hx hb hts hiX9 hown hK hP 0 rfl rfl 39 (by decide) v_11 (fun _ h9 => h9) rfl dX9_state_42 ?_
        refine lv_iload hx hb dX9_state_45 (lv_at hl 4 rfl) ?_
        refine va_iald hx hb hK hP 24 23 rfl rfl (vp_in_nI (n := g_9) (Nat.lt_of_le_of_lt hg_9.2 (Nat.le_of_ble_eq_true rfl)) (Nat.le_of_ble_eq_true rfl)) dX9_state_47 ?_
        refine lv_topi (fun y_33 ey_33 => ?_)
        refine lv_iload_n hx hb dX9_state_48 rfl (lv_at hl 1 rfl) ?_
        refine pu_join (fun H locs ls st => ∃ (g_34 : Nat), st = [.int (nI g_34), .int g_8] ∧ g_34 ≤ 1 ∧ va_P (dC, dI) vwCl (mo_w ad ck 0 (nI x16) (nI x18) (nI x19) x20 (nI x21) (nI x22) x23 x24 x25 (nI x26) x27 (nI x28) (nI x29) (nI x30) (nI x33) x45 (nI z46_2) (nI x52) (nI x53) (nI x61) (nI x62) (nI x63) (nI x65) x66 f1 f2 f3 (bN 3 q4) (bN 7 q5) (bN 7 q6) (bN 4 q7) f8 (bN 2 q9) (bH q10) f11 (b2 m12_0 m12_1) (b2 m13_0 m13_1) (b2 m14_0 m14_1) (b2m m15_0 m15_1) f17 (bA 159 q31) f32 f34 f35 f36 f37 (bN 7 q38) f39 f40 f41 (b2 m42_0 m42_1) f43 f44 f47 f48 f49 f50 f51 (bN 13 q54) (bN 120 q55) (bN 120 q56) f57 (bN 120 q58) f59 f60 f64) H ∧ va_D A (mo_w ad ck 0 (nI x16) (nI x18) (nI x19) x20 (nI x21) (nI x22) x23 x24 x25 (nI x26) x27 (nI x28) (nI x29) (nI x30) (nI x33) x45 (nI z46_2) (nI x52) (nI x53) (nI x61) (nI x62) (nI x63) (nI x65) x66 f1 f2 f3 (bN 3 q4) (bN 7 q5) (bN 7 q6) (bN 4 q7) f8 (bN 2 q9) (bH q10) f11 (b2 m12_0 m12_1) (b2 m13_0 m13_1) (b2 m14_0 m14_1) (b2m m15_0 m15_1) f17 (bA 159 q31) f32 f34 f35 f36 f37 (bN 7 q38) f39 f40 f41 (b2 m42_0 m42_1) f43 f44 f47 f48 f49 f50 f51 (bN 13 q54) (bN 120 q55) (bN 120 q56) f57 (bN 120 q58) f59 f60 f64) ∧ va_S A s.heap H locs ∧ lv_has ls 5 [(0, .ref (ad 0)), (1, .int (nI n_3)), (2, .int (nI n_5)), (3, .int g_8), (4, .int (nI g_9))]) 57 ?_ (fun j_35 => ?_)
        · rintro H locs ls st ⟨g_34, rfl, hg_34, hP, hD, hS, hl⟩
          refine lv_iadd hx hb dX9_state_57 ?_
          refine lv_topi (fun y_36 ey_36 => ?_)
          refine lv_istore_n (lv' := [(3, .int y_36), (0, .ref (ad 0)), (1, .int (nI n_3)), (2, .int (nI n_5)), (4, .int (nI g_9))]) hx hb dX9_state_58 rfl hl (by decide) rfl (fun ls hl => ?_)
          refine lv_iinc (v := (nI (g_9 + 1))) (lv' := [(4, .int (nI (g_9 + 1))), (3, .int y_36), (0, .ref (ad 0)), (1, .int (nI n_3)), (2, .int (nI n_5))]) hx hb dX9_state_59 hl (k := 4) rfl (nI_1 _) (by decide) rfl (fun ls hl => ?_)
          refine lv_goto (tgt := 29) hx hb dX9_state_62 (by decide) ?_
          exact ih_10 (120 - (g_9 + 1)) (by omega) _ _ _ ⟨y_36, (g_9 + 1), rfl, ⟨by omega, by omega⟩, hP, hD, hS, lv_sub hl [2, 3, 4, 1, 0] rfl⟩
        refine lv_icmp_ne (tgt := 56) hx hb dX9_state_49 (by decide) (fun c_37 => ?_) (fun c_37 => ?_)
        · refine lv_iconst (v := 0) hx hb dX9_state_56 (by decide) ?_
          exact j_35 _ _ _ _ ⟨0, rfl, (Nat.le_of_ble_eq_true rfl), hP, hD, hS, lv_sub hl [0, 1, 2, 3, 4] rfl⟩
        · refine lv_iconst (v := 1) hx hb dX9_state_52 (by decide) ?_
          refine lv_goto (tgt := 57) hx hb dX9_state_53 (by decide) ?_
          exact j_35 _ _ _ _ ⟨1, rfl, (Nat.le_of_ble_eq_true rfl), hP, hD, hS, lv_sub hl [0, 1, 2, 3, 4] rfl⟩
    · refine lv_if_ne (tgt := 24) hx hb dX9_state_19 (by decide) (fun z => absurd z (by decide)) (fun _ => ?_)
      refine lv_iconst (v := (-1)) hx hb dX9_state_22 (by decide) ?_
      exact W.iret (v := (-1)) hx hb hr (fun t ht hW => ⟨⟨(-1), (), rfl, trivial, ⟨f35, f36, f49, f50, f51, 0, z46_2, x52, x53, ⟨by rw [ht]; exact hP, va_K.moved hW.alike hK, hD⟩, (Nat.le_trans hz46_2 (Nat.le_of_ble_eq_true rfl)), hx52, hx53⟩⟩, hS.F ht⟩) hS.2.2 dX9_state_23
  · refine lv_if_eq (tgt := 22) hx hb dX9_state_10 (by decide) (fun _ => ?_) (fun z => absurd z (by decide))
    refine lv_iconst (v := (-1)) hx hb dX9_state_22 (by decide) ?_
    exact W.iret (v := (-1)) hx hb hr (fun t ht hW => ⟨⟨(-1), (), rfl, trivial, ⟨f35, f36, f49, f50, f51, 0, z46_2, x52, x53, ⟨by rw [ht]; exact hP, va_K.moved hW.alike hK, hD⟩, (Nat.le_trans hz46_2 (Nat.le_of_ble_eq_true rfl)), hx52, hx53⟩⟩, hS.F ht⟩) hS.2.2 dX9_state_23
