theorem dX9_isGood_0 : decode cX9_isGood 0 = .ok (.aload_n 0, 1) := by decide +kernel
theorem dX9_isGood_1 : decode cX9_isGood 1 = .ok (.getfield 186, 3) := by decide +kernel
theorem dX9_isGood_4 : decode cX9_isGood 4 = .ok (.ifCond .ne 7, 3) := by decide +kernel
theorem dX9_isGood_7 : decode cX9_isGood 7 = .ok (.iconst 1, 1) := by decide +kernel
theorem dX9_isGood_8 : decode cX9_isGood 8 = .ok (.goto 4, 3) := by decide +kernel
theorem dX9_isGood_11 : decode cX9_isGood 11 = .ok (.iconst 0, 1) := by decide +kernel
theorem dX9_isGood_12 : decode cX9_isGood 12 = .ok (.ireturn, 1) := by decide +kernel
def vs_M_isGood : List Cond := .code yX9_isGood cX9_isGood 1 (some .boolean) :: ([.fieldLink RX9 186 "ClockReachModel" "wrong" "I"] ++ wsX90)
set_option maxHeartbeats 4000000 in
set_option maxRecDepth 100000 in
theorem c_M_isGood (l : Launch) (dC : Nat → ClassId) (dI : Nat → Nat → Nat) (sz : Nat) (ad : Nat → Nat) (ck : Nat → ClassId) (x0 : Int32) (x16 : Nat) (x18 : Nat) (x19 : Nat) (x20 : Int32) (x21 : Nat) (x22 : Int32) (x23 : Int32) (x24 : Int32) (x25 : Int32) (x26 : Int32) (x27 : Int32) (x28 : Nat) (x29 : Int32) (x30 : Int32) (x33 : Nat) (x45 : Int32) (x46 : Nat) (x52 : Nat) (x53 : Nat) (x61 : Nat) (x62 : Nat) (x63 : Int32) (x65 : Nat) (x66 : Int32) (f1 : Nat → Int32) (f2 : Nat → Int32) (f3 : Nat → Int32) (q4 : Nat → Nat) (q5 : Nat → Nat) (q6 : Nat → Nat) (q7 : Nat → Nat) (f8 : Nat → Int32) (q9 : Nat → Nat) (f10 : Nat → Int32) (f11 : Nat → Int32) (q12 : Nat → Nat) (q13 : Nat → Nat) (q14 : Nat → Nat) (q15 : Nat → Nat) (f17 : Nat → Int32) (f31 : Nat → Int32) (f32 : Nat → Int32) (f34 : Nat → Int32) (f35 : Nat → Int32) (f36 : Nat → Int32) (f37 : Nat → Int32) (q38 : Nat → Nat) (f39 : Nat → Int32) (f40 : Nat → Int32) (f41 : Nat → Int32) (m42_0 m42_1 : Nat) (f43 : Nat → Int32) (f44 : Nat → Int32) (f47 : Nat → Int32) (f48 : Nat → Int32) (f49 : Nat → Int32) (f50 : Nat → Int32) (f51 : Nat → Int32) (q54 : Nat → Nat) (f55 : Nat → Int32) (f56 : Nat → Int32) (f57 : Nat → Int32) (q58 : Nat → Nat) (f59 : Nat → Int32) (f60 : Nat → Int32) (f64 : Nat → Int32) (hx16 : x16 ≤ 1) (hx18 : x18 ≤ 900) (hx19 : x19 ≤ 900) (hx21 : x21 ≤ 900) (hx28 : x28 ≤ 1) (hx33 : x33 ≤ 20) (hx46 : x46 ≤ 5) (hx52 : x52 ≤ 2400) (hx53 : x53 ≤ 120) (hx61 : x61 ≤ 119) (hx62 : x62 ≤ 2000) (hx65 : x65 ≤ 7) (hm42_0 : m42_0 ≤ 120) (hm42_1 : m42_1 ≤ 400) : Met l yX9_isGood vs_M_isGood ({ frames := 0, cells := 0, slots := 0, locals := 0 }) (va_Pc [.ref (ad 0)] (pu_B (dC, dI) (mo_w ad ck x0 (nI x16) (nI x18) (nI x19) x20 (nI x21) x22 x23 x24 x25 x26 x27 (nI x28) x29 x30 (nI x33) x45 (nI x46) (nI x52) (nI x53) (nI x61) (nI x62) x63 (nI x65) x66 f1 f2 f3 (bN 3 q4) (bN 7 q5) (bN 7 q6) (bN 4 q7) f8 (bN 2 q9) f10 f11 (bN 3 q12) (bN 8 q13) (bN 14 q14) (bM 7 q15) f17 f31 f32 f34 f35 f36 f37 (bN 7 q38) f39 f40 f41 (b2 m42_0 m42_1) f43 f44 f47 f48 f49 f50 f51 (bN 13 q54) f55 f56 f57 (bN 119 q58) f59 f60 f64) (mo_t ck) sz)) (va_Qi (fun (r : Int32) (_ : Unit) => r = 0 ∨ r = 1) (fun _ _ => True) (va_A [] sz)) 0 0 (va_A [] sz) := by
  refine Met.ofW (cc := cX9_isGood) (maxL := 1) (ret := (some .boolean)) (by decide) rfl ?_
  intro p e s m args below meth c s₁ B hml hv
  obtain ⟨rfl, rfl, hP, hK, hD0⟩ := hv
  have hx := B.exec
  have hb := B.bytes
  have hr := B.returns
  have hts := atoms_spec (ws := vs_M_isGood) B.pre
  have v_1 := hts (.fieldLink RX9 186 "ClockReachModel" "wrong" "I") (List.mem_of_getElem? (i := 1) rfl)
  have hown : s.vm.findClass RX9 = some m.cls := findClass_of_methodNamed B.named
  have hlocks := B.notSynchronized
  have hiX9 : ∀ w ∈ wsX90, w ∈ vs_M_isGood := fun _ h => List.mem_cons_of_mem _ (List.mem_append_right _ h)
  have hD := hD0
  have hA : ∀ q : Nat, s.heap.size ≤ q → va_A [] s.heap.size q := fun _ h => Or.inr h
  have hS : va_S (va_A [] s.heap.size) s.heap s.heap [] := va_S.rf
  have hl := lv_entry ([.ref (ad 0)]) (n := 1) (Nat.le_of_ble_eq_true rfl)
  rw [lg_entry_eq]
  generalize (lg_sl ([.ref (ad 0)]) ++ List.replicate (1 - (lg_sl ([.ref (ad 0)])).length) Slot.unset).toArray = ls at hl ⊢
  have hl : lv_has ls 1 [(0, .ref (ad 0))] := hl
  refine lv_aload_n hx hb dX9_isGood_0 rfl (lv_at hl 0 rfl) ?_
  refine va_get (D := (dC, dI)) (ci := 9) (v := .int x26) (C := RX9) (T := TX9) (N := 67) hx hb hts hiX9 hown hK hP 0 rfl rfl 26 (by decide) v_1 (fun _ h9 => h9) rfl dX9_isGood_1 ?_
  refine lv_if_ne (tgt := 11) hx hb dX9_isGood_4 (by decide) (fun c_1 => ?_) (fun c_1 => ?_)
  · refine lv_iconst (v := 0) hx hb dX9_isGood_11 (by decide) ?_
    exact W.zret (v := 0) (ty := .boolean) hx hb hr (rfl) (fun t ht hW => ⟨⟨0, (), rfl, Or.inl rfl, trivial⟩, hS.F ht⟩) hS.2.2 dX9_isGood_12
  · refine lv_iconst (v := 1) hx hb dX9_isGood_7 (by decide) ?_
    refine lv_goto (tgt := 12) hx hb dX9_isGood_8 (by decide) ?_
    exact W.zret (v := 1) (ty := .boolean) hx hb hr (rfl) (fun t ht hW => ⟨⟨1, (), rfl, Or.inr rfl, trivial⟩, hS.F ht⟩) hS.2.2 dX9_isGood_12
theorem dX9_another_0 : decode cX9_another 0 = .ok (.aload_n 0, 1) := by decide +kernel
theorem dX9_another_1 : decode cX9_another 1 = .ok (.iconst 0, 1) := by decide +kernel
theorem dX9_another_2 : decode cX9_another 2 = .ok (.putfield 273, 3) := by decide +kernel
theorem dX9_another_5 : decode cX9_another 5 = .ok (.aload_n 0, 1) := by decide +kernel
theorem dX9_another_6 : decode cX9_another 6 = .ok (.iconst 0, 1) := by decide +kernel
theorem dX9_another_7 : decode cX9_another 7 = .ok (.putfield 277, 3) := by decide +kernel
theorem dX9_another_10 : decode cX9_another 10 = .ok (.return_, 1) := by decide +kernel
def vs_M_another : List Cond := .code yX9_another cX9_another 1 none :: ([.fieldLink RX9 273 "ClockReachModel" "hasGraph" "Z", .fieldLink RX9 277 "ClockReachModel" "isPlayed" "Z"] ++ wsX90)
set_option maxHeartbeats 4000000 in
set_option maxRecDepth 100000 in
theorem c_M_another (l : Launch) (dC : Nat → ClassId) (dI : Nat → Nat → Nat) (sz : Nat) (ad : Nat → Nat) (ck : Nat → ClassId) (x0 : Int32) (x16 : Nat) (x18 : Nat) (x19 : Nat) (x20 : Int32) (x21 : Nat) (x22 : Int32) (x23 : Int32) (x24 : Int32) (x25 : Int32) (x26 : Int32) (x27 : Int32) (x28 : Nat) (x29 : Int32) (x30 : Int32) (x33 : Nat) (x45 : Int32) (x46 : Nat) (x52 : Nat) (x53 : Nat) (x61 : Nat) (x62 : Nat) (x63 : Int32) (x65 : Nat) (x66 : Int32) (f1 : Nat → Int32) (f2 : Nat → Int32) (f3 : Nat → Int32) (q4 : Nat → Nat) (q5 : Nat → Nat) (q6 : Nat → Nat) (q7 : Nat → Nat) (f8 : Nat → Int32) (q9 : Nat → Nat) (f10 : Nat → Int32) (f11 : Nat → Int32) (q12 : Nat → Nat) (q13 : Nat → Nat) (q14 : Nat → Nat) (q15 : Nat → Nat) (f17 : Nat → Int32) (f31 : Nat → Int32) (f32 : Nat → Int32) (f34 : Nat → Int32) (f35 : Nat → Int32) (f36 : Nat → Int32) (f37 : Nat → Int32) (q38 : Nat → Nat) (f39 : Nat → Int32) (f40 : Nat → Int32) (f41 : Nat → Int32) (m42_0 m42_1 : Nat) (f43 : Nat → Int32) (f44 : Nat → Int32) (f47 : Nat → Int32) (f48 : Nat → Int32) (f49 : Nat → Int32) (f50 : Nat → Int32) (f51 : Nat → Int32) (q54 : Nat → Nat) (f55 : Nat → Int32) (f56 : Nat → Int32) (f57 : Nat → Int32) (q58 : Nat → Nat) (f59 : Nat → Int32) (f60 : Nat → Int32) (f64 : Nat → Int32) (hx16 : x16 ≤ 1) (hx18 : x18 ≤ 900) (hx19 : x19 ≤ 900) (hx21 : x21 ≤ 900) (hx28 : x28 ≤ 1) (hx33 : x33 ≤ 20) (hx46 : x46 ≤ 5) (hx52 : x52 ≤ 2400) (hx53 : x53 ≤ 120) (hx61 : x61 ≤ 119) (hx62 : x62 ≤ 2000) (hx65 : x65 ≤ 7) (hm42_0 : m42_0 ≤ 120) (hm42_1 : m42_1 ≤ 400) : Met l yX9_another vs_M_another ({ frames := 0, cells := 0, slots := 0, locals := 0 }) (va_Pc [.ref (ad 0)] (pu_B (dC, dI) (mo_w ad ck x0 (nI x16) (nI x18) (nI x19) x20 (nI x21) x22 x23 x24 x25 x26 x27 (nI x28) x29 x30 (nI x33) x45 (nI x46) (nI x52) (nI x53) (nI x61) (nI x62) x63 (nI x65) x66 f1 f2 f3 (bN 3 q4) (bN 7 q5) (bN 7 q6) (bN 4 q7) f8 (bN 2 q9) f10 f11 (bN 3 q12) (bN 8 q13) (bN 14 q14) (bM 7 q15) f17 f31 f32 f34 f35 f36 f37 (bN 7 q38) f39 f40 f41 (b2 m42_0 m42_1) f43 f44 f47 f48 f49 f50 f51 (bN 13 q54) f55 f56 f57 (bN 119 q58) f59 f60 f64) (mo_t ck) sz)) (va_Qv (fun (_ : Unit) => True) (fun _ t => ∃ (z29 : Int32) (z30 : Int32), pu_E (dC, dI) (mo_w ad ck x0 (nI x16) (nI x18) (nI x19) x20 (nI x21) x22 x23 x24 x25 x26 x27 (nI x28) z29 z30 (nI x33) x45 (nI x46) (nI x52) (nI x53) (nI x61) (nI x62) x63 (nI x65) x66 f1 f2 f3 (bN 3 q4) (bN 7 q5) (bN 7 q6) (bN 4 q7) f8 (bN 2 q9) f10 f11 (bN 3 q12) (bN 8 q13) (bN 14 q14) (bM 7 q15) f17 f31 f32 f34 f35 f36 f37 (bN 7 q38) f39 f40 f41 (b2 m42_0 m42_1) f43 f44 f47 f48 f49 f50 f51 (bN 13 q54) f55 f56 f57 (bN 119 q58) f59 f60 f64) (mo_t ck) (va_A ((mo_w ad ck x0 (nI x16) (nI x18) (nI x19) x20 (nI x21) x22 x23 x24 x25 x26 x27 (nI x28) x29 x30 (nI x33) x45 (nI x46) (nI x52) (nI x53) (nI x61) (nI x62) x63 (nI x65) x66 f1 f2 f3 (bN 3 q4) (bN 7 q5) (bN 7 q6) (bN 4 q7) f8 (bN 2 q9) f10 f11 (bN 3 q12) (bN 8 q13) (bN 14 q14) (bM 7 q15) f17 f31 f32 f34 f35 f36 f37 (bN 7 q38) f39 f40 f41 (b2 m42_0 m42_1) f43 f44 f47 f48 f49 f50 f51 (bN 13 q54) f55 f56 f57 (bN 119 q58) f59 f60 f64)) sz) t) (va_A ((mo_w ad ck x0 (nI x16) (nI x18) (nI x19) x20 (nI x21) x22 x23 x24 x25 x26 x27 (nI x28) x29 x30 (nI x33) x45 (nI x46) (nI x52) (nI x53) (nI x61) (nI x62) x63 (nI x65) x66 f1 f2 f3 (bN 3 q4) (bN 7 q5) (bN 7 q6) (bN 4 q7) f8 (bN 2 q9) f10 f11 (bN 3 q12) (bN 8 q13) (bN 14 q14) (bM 7 q15) f17 f31 f32 f34 f35 f36 f37 (bN 7 q38) f39 f40 f41 (b2 m42_0 m42_1) f43 f44 f47 f48 f49 f50 f51 (bN 13 q54) f55 f56 f57 (bN 119 q58) f59 f60 f64)) sz)) 0 0 (va_A ((mo_w ad ck x0 (nI x16) (nI x18) (nI x19) x20 (nI x21) x22 x23 x24 x25 x26 x27 (nI x28) x29 x30 (nI x33) x45 (nI x46) (nI x52) (nI x53) (nI x61) (nI x62) x63 (nI x65) x66 f1 f2 f3 (bN 3 q4) (bN 7 q5) (bN 7 q6) (bN 4 q7) f8 (bN 2 q9) f10 f11 (bN 3 q12) (bN 8 q13) (bN 14 q14) (bM 7 q15) f17 f31 f32 f34 f35 f36 f37 (bN 7 q38) f39 f40 f41 (b2 m42_0 m42_1) f43 f44 f47 f48 f49 f50 f51 (bN 13 q54) f55 f56 f57 (bN 119 q58) f59 f60 f64)) sz) := by
  refine Met.ofW (cc := cX9_another) (maxL := 1) (ret := none) (by decide) rfl ?_
  intro p e s m args below meth c s₁ B hml hv
  obtain ⟨rfl, rfl, hP, hK, hD0⟩ := hv
  have hx := B.exec
  have hb := B.bytes
  have hr := B.returns
  have hts := atoms_spec (ws := vs_M_another) B.pre
  have v_1 := hts (.fieldLink RX9 273 "ClockReachModel" "hasGraph" "Z") (List.mem_of_getElem? (i := 1) rfl)
  have v_2 := hts (.fieldLink RX9 277 "ClockReachModel" "isPlayed" "Z") (List.mem_of_getElem? (i := 2) rfl)
  have hown : s.vm.findClass RX9 = some m.cls := findClass_of_methodNamed B.named
  have hlocks := B.notSynchronized
  have hiX9 : ∀ w ∈ wsX90, w ∈ vs_M_another := fun _ h => List.mem_cons_of_mem _ (List.mem_append_right _ h)
  have hD := hD0.self (sz := s.heap.size)
  generalize hAe : va_A ((mo_w ad ck x0 (nI x16) (nI x18) (nI x19) x20 (nI x21) x22 x23 x24 x25 x26 x27 (nI x28) x29 x30 (nI x33) x45 (nI x46) (nI x52) (nI x53) (nI x61) (nI x62) x63 (nI x65) x66 f1 f2 f3 (bN 3 q4) (bN 7 q5) (bN 7 q6) (bN 4 q7) f8 (bN 2 q9) f10 f11 (bN 3 q12) (bN 8 q13) (bN 14 q14) (bM 7 q15) f17 f31 f32 f34 f35 f36 f37 (bN 7 q38) f39 f40 f41 (b2 m42_0 m42_1) f43 f44 f47 f48 f49 f50 f51 (bN 13 q54) f55 f56 f57 (bN 119 q58) f59 f60 f64)) s.heap.size = A at hD ⊢
  have hA : ∀ q : Nat, s.heap.size ≤ q → A q := fun q h => by rw [← hAe]; exact Or.inr h
  have hS : va_S A s.heap s.heap [] := va_S.rf
  have hl := lv_entry ([.ref (ad 0)]) (n := 1) (Nat.le_of_ble_eq_true rfl)
  rw [lg_entry_eq]
  generalize (lg_sl ([.ref (ad 0)]) ++ List.replicate (1 - (lg_sl ([.ref (ad 0)])).length) Slot.unset).toArray = ls at hl ⊢
  have hl : lv_has ls 1 [(0, .ref (ad 0))] := hl
  refine lv_aload_n hx hb dX9_another_0 rfl (lv_at hl 0 rfl) ?_
  refine lv_iconst (v := 0) hx hb dX9_another_1 (by decide) ?_
  refine va_put (D := (dC, dI)) (ci := 9) (v := .int 0) (ty := .boolean) (C := RX9) (T := TX9) (N := 67) hx hb hts hiX9 tyX9 tyX9_ok nmX9 hown hK hP hD hS 0 rfl rfl 29 (by decide) v_1 (fun _ h9 => h9) rfl (by decide +kernel) rfl rfl (Nat.le_of_ble_eq_true rfl) dX9_another_2 (fun H locs hP hD hS => ?_)
  have hP : va_P (dC, dI) vwCl (mo_w ad ck x0 (nI x16) (nI x18) (nI x19) x20 (nI x21) x22 x23 x24 x25 x26 x27 (nI x28) 0 x30 (nI x33) x45 (nI x46) (nI x52) (nI x53) (nI x61) (nI x62) x63 (nI x65) x66 f1 f2 f3 (bN 3 q4) (bN 7 q5) (bN 7 q6) (bN 4 q7) f8 (bN 2 q9) f10 f11 (bN 3 q12) (bN 8 q13) (bN 14 q14) (bM 7 q15) f17 f31 f32 f34 f35 f36 f37 (bN 7 q38) f39 f40 f41 (b2 m42_0 m42_1) f43 f44 f47 f48 f49 f50 f51 (bN 13 q54) f55 f56 f57 (bN 119 q58) f59 f60 f64) H := hP
  have hD : va_D A (mo_w ad ck x0 (nI x16) (nI x18) (nI x19) x20 (nI x21) x22 x23 x24 x25 x26 x27 (nI x28) 0 x30 (nI x33) x45 (nI x46) (nI x52) (nI x53) (nI x61) (nI x62) x63 (nI x65) x66 f1 f2 f3 (bN 3 q4) (bN 7 q5) (bN 7 q6) (bN 4 q7) f8 (bN 2 q9) f10 f11 (bN 3 q12) (bN 8 q13) (bN 14 q14) (bM 7 q15) f17 f31 f32 f34 f35 f36 f37 (bN 7 q38) f39 f40 f41 (b2 m42_0 m42_1) f43 f44 f47 f48 f49 f50 f51 (bN 13 q54) f55 f56 f57 (bN 119 q58) f59 f60 f64) := hD
  refine lv_aload_n hx hb dX9_another_5 rfl (lv_at hl 0 rfl) ?_
  refine lv_iconst (v := 0) hx hb dX9_another_6 (by decide) ?_
  refine va_put (D := (dC, dI)) (ci := 9) (v := .int 0) (ty := .boolean) (C := RX9) (T := TX9) (N := 67) hx hb hts hiX9 tyX9 tyX9_ok nmX9 hown hK hP hD hS 0 rfl rfl 30 (by decide) v_2 (fun _ h9 => h9) rfl (by decide +kernel) rfl rfl (Nat.le_of_ble_eq_true rfl) dX9_another_7 (fun H locs hP hD hS => ?_)
  have hP : va_P (dC, dI) vwCl (mo_w ad ck x0 (nI x16) (nI x18) (nI x19) x20 (nI x21) x22 x23 x24 x25 x26 x27 (nI x28) 0 0 (nI x33) x45 (nI x46) (nI x52) (nI x53) (nI x61) (nI x62) x63 (nI x65) x66 f1 f2 f3 (bN 3 q4) (bN 7 q5) (bN 7 q6) (bN 4 q7) f8 (bN 2 q9) f10 f11 (bN 3 q12) (bN 8 q13) (bN 14 q14) (bM 7 q15) f17 f31 f32 f34 f35 f36 f37 (bN 7 q38) f39 f40 f41 (b2 m42_0 m42_1) f43 f44 f47 f48 f49 f50 f51 (bN 13 q54) f55 f56 f57 (bN 119 q58) f59 f60 f64) H := hP
  have hD : va_D A (mo_w ad ck x0 (nI x16) (nI x18) (nI x19) x20 (nI x21) x22 x23 x24 x25 x26 x27 (nI x28) 0 0 (nI x33) x45 (nI x46) (nI x52) (nI x53) (nI x61) (nI x62) x63 (nI x65) x66 f1 f2 f3 (bN 3 q4) (bN 7 q5) (bN 7 q6) (bN 4 q7) f8 (bN 2 q9) f10 f11 (bN 3 q12) (bN 8 q13) (bN 14 q14) (bM 7 q15) f17 f31 f32 f34 f35 f36 f37 (bN 7 q38) f39 f40 f41 (b2 m42_0 m42_1) f43 f44 f47 f48 f49 f50 f51 (bN 13 q54) f55 f56 f57 (bN 119 q58) f59 f60 f64) := hD
  exact W.vret hx hb hr (fun t ht hW => ⟨⟨(), rfl, trivial, ⟨0, 0, ⟨by rw [ht]; exact hP, va_K.moved hW.alike hK, hD⟩⟩⟩, hS.F ht⟩) hS.2.2 dX9_another_10
theorem dX9_clocks_0 : decode cX9_clocks 0 = .ok (.aload_n 0, 1) := by decide +kernel
theorem dX9_clocks_1 : decode cX9_clocks 1 = .ok (.getfield 43, 3) := by decide +kernel
theorem dX9_clocks_4 : decode cX9_clocks 4 = .ok (.aload_n 0, 1) := by decide +kernel
theorem dX9_clocks_5 : decode cX9_clocks 5 = .ok (.getfield 258, 3) := by decide +kernel
theorem dX9_clocks_8 : decode cX9_clocks 8 = .ok (.iaload, 1) := by decide +kernel
theorem dX9_clocks_9 : decode cX9_clocks 9 = .ok (.ireturn, 1) := by decide +kernel
def vs_M_clocks : List Cond := .code yX9_clocks cX9_clocks 1 (some .int) :: ([.fieldLink RX9 43 "ClockReachModel" "clockMany" "[I", .fieldLink RX9 258 "ClockReachModel" "bank" "I"] ++ wsX90)
set_option maxHeartbeats 4000000 in
set_option maxRecDepth 100000 in
theorem c_M_clocks (l : Launch) (dC : Nat → ClassId) (dI : Nat → Nat → Nat) (sz : Nat) (ad : Nat → Nat) (ck : Nat → ClassId) (x0 : Int32) (x16 : Nat) (x18 : Nat) (x19 : Nat) (x20 : Int32) (x21 : Nat) (x22 : Int32) (x23 : Int32) (x24 : Int32) (x25 : Int32) (x26 : Int32) (x27 : Int32) (x28 : Nat) (x29 : Int32) (x30 : Int32) (x33 : Nat) (x45 : Int32) (x46 : Nat) (x52 : Nat) (x53 : Nat) (x61 : Nat) (x62 : Nat) (x63 : Int32) (x65 : Nat) (x66 : Int32) (f1 : Nat → Int32) (f2 : Nat → Int32) (f3 : Nat → Int32) (q4 : Nat → Nat) (q5 : Nat → Nat) (q6 : Nat → Nat) (q7 : Nat → Nat) (f8 : Nat → Int32) (q9 : Nat → Nat) (f10 : Nat → Int32) (f11 : Nat → Int32) (q12 : Nat → Nat) (q13 : Nat → Nat) (q14 : Nat → Nat) (q15 : Nat → Nat) (f17 : Nat → Int32) (f31 : Nat → Int32) (f32 : Nat → Int32) (f34 : Nat → Int32) (f35 : Nat → Int32) (f36 : Nat → Int32) (f37 : Nat → Int32) (q38 : Nat → Nat) (f39 : Nat → Int32) (f40 : Nat → Int32) (f41 : Nat → Int32) (m42_0 m42_1 : Nat) (f43 : Nat → Int32) (f44 : Nat → Int32) (f47 : Nat → Int32) (f48 : Nat → Int32) (f49 : Nat → Int32) (f50 : Nat → Int32) (f51 : Nat → Int32) (q54 : Nat → Nat) (f55 : Nat → Int32) (f56 : Nat → Int32) (f57 : Nat → Int32) (q58 : Nat → Nat) (f59 : Nat → Int32) (f60 : Nat → Int32) (f64 : Nat → Int32) (hx16 : x16 ≤ 1) (hx18 : x18 ≤ 900) (hx19 : x19 ≤ 900) (hx21 : x21 ≤ 900) (hx28 : x28 ≤ 1) (hx33 : x33 ≤ 20) (hx46 : x46 ≤ 5) (hx52 : x52 ≤ 2400) (hx53 : x53 ≤ 120) (hx61 : x61 ≤ 119) (hx62 : x62 ≤ 2000) (hx65 : x65 ≤ 7) (hm42_0 : m42_0 ≤ 120) (hm42_1 : m42_1 ≤ 400) : Met l yX9_clocks vs_M_clocks ({ frames := 0, cells := 0, slots := 0, locals := 0 }) (va_Pc [.ref (ad 0)] (pu_B (dC, dI) (mo_w ad ck x0 (nI x16) (nI x18) (nI x19) x20 (nI x21) x22 x23 x24 x25 x26 x27 (nI x28) x29 x30 (nI x33) x45 (nI x46) (nI x52) (nI x53) (nI x61) (nI x62) x63 (nI x65) x66 f1 f2 f3 (bN 3 q4) (bN 7 q5) (bN 7 q6) (bN 4 q7) f8 (bN 2 q9) f10 f11 (bN 3 q12) (bN 8 q13) (bN 14 q14) (bM 7 q15) f17 f31 f32 f34 f35 f36 f37 (bN 7 q38) f39 f40 f41 (b2 m42_0 m42_1) f43 f44 f47 f48 f49 f50 f51 (bN 13 q54) f55 f56 f57 (bN 119 q58) f59 f60 f64) (mo_t ck) sz)) (va_Qi (fun (r : Int32) (_ : Unit) => ∃ v : Nat, v ≤ 3 ∧ r = nI v) (fun _ _ => True) (va_A [] sz)) 0 0 (va_A [] sz) := by
  refine Met.ofW (cc := cX9_clocks) (maxL := 1) (ret := (some .int)) (by decide) rfl ?_
  intro p e s m args below meth c s₁ B hml hv
  obtain ⟨rfl, rfl, hP, hK, hD0⟩ := hv
  have hx := B.exec
  have hb := B.bytes
  have hr := B.returns
  have hts := atoms_spec (ws := vs_M_clocks) B.pre
  have v_1 := hts (.fieldLink RX9 43 "ClockReachModel" "clockMany" "[I") (List.mem_of_getElem? (i := 1) rfl)
  have v_2 := hts (.fieldLink RX9 258 "ClockReachModel" "bank" "I") (List.mem_of_getElem? (i := 2) rfl)
  have hown : s.vm.findClass RX9 = some m.cls := findClass_of_methodNamed B.named
  have hlocks := B.notSynchronized
  have hiX9 : ∀ w ∈ wsX90, w ∈ vs_M_clocks := fun _ h => List.mem_cons_of_mem _ (List.mem_append_right _ h)
  have hD := hD0
  have hA : ∀ q : Nat, s.heap.size ≤ q → va_A [] s.heap.size q := fun _ h => Or.inr h
  have hS : va_S (va_A [] s.heap.size) s.heap s.heap [] := va_S.rf
  have hl := lv_entry ([.ref (ad 0)]) (n := 1) (Nat.le_of_ble_eq_true rfl)
  rw [lg_entry_eq]
  generalize (lg_sl ([.ref (ad 0)]) ++ List.replicate (1 - (lg_sl ([.ref (ad 0)])).length) Slot.unset).toArray = ls at hl ⊢
  have hl : lv_has ls 1 [(0, .ref (ad 0))] := hl
  refine lv_aload_n hx hb dX9_clocks_0 rfl (lv_at hl 0 rfl) ?_
  refine va_get (D := (dC, dI)) (ci := 9) (v := .ref (ad 12)) (C := RX9) (T := TX9) (N := 67) hx hb hts hiX9 hown hK hP 0 rfl rfl 12 (by decide) v_1 (fun _ h9 => h9) rfl dX9_clocks_1 ?_
  refine lv_aload_n hx hb dX9_clocks_4 rfl (lv_at hl 0 rfl) ?_
  refine va_get (D := (dC, dI)) (ci := 9) (v := .int (nI x16)) (C := RX9) (T := TX9) (N := 67) hx hb hts hiX9 hown hK hP 0 rfl rfl 16 (by decide) v_2 (fun _ h9 => h9) rfl dX9_clocks_5 ?_
  refine va_iald hx hb hK hP 12 11 rfl rfl (vp_in_nI (n := x16) (by omega) (by omega)) dX9_clocks_8 ?_
  refine lv_topi (fun y_1 ey_1 => ?_)
  obtain ⟨v_2, hv_2, qv_2⟩ := bN_get 3 q12 (((nI x16) : Int32).toNatClampNeg)
  obtain rfl : y_1 = nI v_2 := ey_1.trans qv_2
  exact W.iret (v := (nI v_2)) hx hb hr (fun t ht hW => ⟨⟨(nI v_2), (), rfl, ⟨v_2, by omega, rfl⟩, trivial⟩, hS.F ht⟩) hS.2.2 dX9_clocks_9
theorem dX9_fault_0 : decode cX9_fault 0 = .ok (.aload_n 0, 1) := by decide +kernel
theorem dX9_fault_1 : decode cX9_fault 1 = .ok (.iconst 0, 1) := by decide +kernel
theorem dX9_fault_2 : decode cX9_fault 2 = .ok (.putfield 142, 3) := by decide +kernel
theorem dX9_fault_5 : decode cX9_fault 5 = .ok (.iload_n 1, 1) := by decide +kernel
theorem dX9_fault_6 : decode cX9_fault 6 = .ok (.ifCond .ne 10, 3) := by decide +kernel
theorem dX9_fault_9 : decode cX9_fault 9 = .ok (.aload_n 0, 1) := by decide +kernel
theorem dX9_fault_10 : decode cX9_fault 10 = .ok (.getfield 264, 3) := by decide +kernel
theorem dX9_fault_13 : decode cX9_fault 13 = .ok (.goto 16, 3) := by decide +kernel
theorem dX9_fault_16 : decode cX9_fault 16 = .ok (.iload_n 1, 1) := by decide +kernel
theorem dX9_fault_17 : decode cX9_fault 17 = .ok (.iconst 1, 1) := by decide +kernel
theorem dX9_fault_18 : decode cX9_fault 18 = .ok (.if_icmp .ne 10, 3) := by decide +kernel
theorem dX9_fault_21 : decode cX9_fault 21 = .ok (.aload_n 0, 1) := by decide +kernel
theorem dX9_fault_22 : decode cX9_fault 22 = .ok (.getfield 58, 3) := by decide +kernel
theorem dX9_fault_25 : decode cX9_fault 25 = .ok (.goto 4, 3) := by decide +kernel
theorem dX9_fault_28 : decode cX9_fault 28 = .ok (.iconst (-1), 1) := by decide +kernel
theorem dX9_fault_29 : decode cX9_fault 29 = .ok (.ireturn, 1) := by decide +kernel
def vs_M_fault : List Cond := .code yX9_fault cX9_fault 2 (some .int) :: ([.fieldLink RX9 142 "ClockReachModel" "thrown" "I", .fieldLink RX9 58 "ClockReachModel" "faultPlace" "I", .fieldLink RX9 264 "ClockReachModel" "faultKind" "I"] ++ wsX90)
set_option maxHeartbeats 4000000 in
set_option maxRecDepth 100000 in
theorem c_M_fault (l : Launch) (dC : Nat → ClassId) (dI : Nat → Nat → Nat) (sz : Nat) (ad : Nat → Nat) (ck : Nat → ClassId) (x0 : Int32) (x16 : Nat) (x18 : Nat) (x19 : Nat) (x20 : Int32) (x21 : Nat) (x22 : Int32) (x23 : Int32) (x24 : Int32) (x25 : Int32) (x26 : Int32) (x27 : Int32) (x28 : Nat) (x29 : Int32) (x30 : Int32) (x33 : Nat) (x45 : Int32) (x46 : Nat) (x52 : Nat) (x53 : Nat) (x61 : Nat) (x62 : Nat) (x63 : Int32) (x65 : Nat) (x66 : Int32) (f1 : Nat → Int32) (f2 : Nat → Int32) (f3 : Nat → Int32) (q4 : Nat → Nat) (q5 : Nat → Nat) (q6 : Nat → Nat) (q7 : Nat → Nat) (f8 : Nat → Int32) (q9 : Nat → Nat) (f10 : Nat → Int32) (f11 : Nat → Int32) (q12 : Nat → Nat) (q13 : Nat → Nat) (q14 : Nat → Nat) (q15 : Nat → Nat) (f17 : Nat → Int32) (f31 : Nat → Int32) (f32 : Nat → Int32) (f34 : Nat → Int32) (f35 : Nat → Int32) (f36 : Nat → Int32) (f37 : Nat → Int32) (q38 : Nat → Nat) (f39 : Nat → Int32) (f40 : Nat → Int32) (f41 : Nat → Int32) (m42_0 m42_1 : Nat) (f43 : Nat → Int32) (f44 : Nat → Int32) (f47 : Nat → Int32) (f48 : Nat → Int32) (f49 : Nat → Int32) (f50 : Nat → Int32) (f51 : Nat → Int32) (q54 : Nat → Nat) (f55 : Nat → Int32) (f56 : Nat → Int32) (f57 : Nat → Int32) (q58 : Nat → Nat) (f59 : Nat → Int32) (f60 : Nat → Int32) (f64 : Nat → Int32) (p0 : Int32) (hx16 : x16 ≤ 1) (hx18 : x18 ≤ 900) (hx19 : x19 ≤ 900) (hx21 : x21 ≤ 900) (hx28 : x28 ≤ 1) (hx33 : x33 ≤ 20) (hx46 : x46 ≤ 5) (hx52 : x52 ≤ 2400) (hx53 : x53 ≤ 120) (hx61 : x61 ≤ 119) (hx62 : x62 ≤ 2000) (hx65 : x65 ≤ 7) (hm42_0 : m42_0 ≤ 120) (hm42_1 : m42_1 ≤ 400) : Met l yX9_fault vs_M_fault ({ frames := 0, cells := 0, slots := 0, locals := 0 }) (va_Pc [.ref (ad 0), .int p0] (pu_B (dC, dI) (mo_w ad ck x0 (nI x16) (nI x18) (nI x19) x20 (nI x21) x22 x23 x24 x25 x26 x27 (nI x28) x29 x30 (nI x33) x45 (nI x46) (nI x52) (nI x53) (nI x61) (nI x62) x63 (nI x65) x66 f1 f2 f3 (bN 3 q4) (bN 7 q5) (bN 7 q6) (bN 4 q7) f8 (bN 2 q9) f10 f11 (bN 3 q12) (bN 8 q13) (bN 14 q14) (bM 7 q15) f17 f31 f32 f34 f35 f36 f37 (bN 7 q38) f39 f40 f41 (b2 m42_0 m42_1) f43 f44 f47 f48 f49 f50 f51 (bN 13 q54) f55 f56 f57 (bN 119 q58) f59 f60 f64) (mo_t ck) sz)) (va_Qi (fun (r : Int32) (_ : Unit) => True) (fun _ t => ∃ (z0 : Int32), pu_E (dC, dI) (mo_w ad ck z0 (nI x16) (nI x18) (nI x19) x20 (nI x21) x22 x23 x24 x25 x26 x27 (nI x28) x29 x30 (nI x33) x45 (nI x46) (nI x52) (nI x53) (nI x61) (nI x62) x63 (nI x65) x66 f1 f2 f3 (bN 3 q4) (bN 7 q5) (bN 7 q6) (bN 4 q7) f8 (bN 2 q9) f10 f11 (bN 3 q12) (bN 8 q13) (bN 14 q14) (bM 7 q15) f17 f31 f32 f34 f35 f36 f37 (bN 7 q38) f39 f40 f41 (b2 m42_0 m42_1) f43 f44 f47 f48 f49 f50 f51 (bN 13 q54) f55 f56 f57 (bN 119 q58) f59 f60 f64) (mo_t ck) (va_A ((mo_w ad ck x0 (nI x16) (nI x18) (nI x19) x20 (nI x21) x22 x23 x24 x25 x26 x27 (nI x28) x29 x30 (nI x33) x45 (nI x46) (nI x52) (nI x53) (nI x61) (nI x62) x63 (nI x65) x66 f1 f2 f3 (bN 3 q4) (bN 7 q5) (bN 7 q6) (bN 4 q7) f8 (bN 2 q9) f10 f11 (bN 3 q12) (bN 8 q13) (bN 14 q14) (bM 7 q15) f17 f31 f32 f34 f35 f36 f37 (bN 7 q38) f39 f40 f41 (b2 m42_0 m42_1) f43 f44 f47 f48 f49 f50 f51 (bN 13 q54) f55 f56 f57 (bN 119 q58) f59 f60 f64)) sz) t) (va_A ((mo_w ad ck x0 (nI x16) (nI x18) (nI x19) x20 (nI x21) x22 x23 x24 x25 x26 x27 (nI x28) x29 x30 (nI x33) x45 (nI x46) (nI x52) (nI x53) (nI x61) (nI x62) x63 (nI x65) x66 f1 f2 f3 (bN 3 q4) (bN 7 q5) (bN 7 q6) (bN 4 q7) f8 (bN 2 q9) f10 f11 (bN 3 q12) (bN 8 q13) (bN 14 q14) (bM 7 q15) f17 f31 f32 f34 f35 f36 f37 (bN 7 q38) f39 f40 f41 (b2 m42_0 m42_1) f43 f44 f47 f48 f49 f50 f51 (bN 13 q54) f55 f56 f57 (bN 119 q58) f59 f60 f64)) sz)) 0 0 (va_A ((mo_w ad ck x0 (nI x16) (nI x18) (nI x19) x20 (nI x21) x22 x23 x24 x25 x26 x27 (nI x28) x29 x30 (nI x33) x45 (nI x46) (nI x52) (nI x53) (nI x61) (nI x62) x63 (nI x65) x66 f1 f2 f3 (bN 3 q4) (bN 7 q5) (bN 7 q6) (bN 4 q7) f8 (bN 2 q9) f10 f11 (bN 3 q12) (bN 8 q13) (bN 14 q14) (bM 7 q15) f17 f31 f32 f34 f35 f36 f37 (bN 7 q38) f39 f40 f41 (b2 m42_0 m42_1) f43 f44 f47 f48 f49 f50 f51 (bN 13 q54) f55 f56 f57 (bN 119 q58) f59 f60 f64)) sz) := by
  refine Met.ofW (cc := cX9_fault) (maxL := 2) (ret := (some .int)) (by decide) rfl ?_
  intro p e s m args below meth c s₁ B hml hv
  obtain ⟨rfl, rfl, hP, hK, hD0⟩ := hv
  have hx := B.exec
  have hb := B.bytes
  have hr := B.returns
  have hts := atoms_spec (ws := vs_M_fault) B.pre
  have v_1 := hts (.fieldLink RX9 142 "ClockReachModel" "thrown" "I") (List.mem_of_getElem? (i := 1) rfl)
  have v_2 := hts (.fieldLink RX9 58 "ClockReachModel" "faultPlace" "I") (List.mem_of_getElem? (i := 2) rfl)
  have v_3 := hts (.fieldLink RX9 264 "ClockReachModel" "faultKind" "I") (List.mem_of_getElem? (i := 3) rfl)
  have hown : s.vm.findClass RX9 = some m.cls := findClass_of_methodNamed B.named
  have hlocks := B.notSynchronized
  have hiX9 : ∀ w ∈ wsX90, w ∈ vs_M_fault := fun _ h => List.mem_cons_of_mem _ (List.mem_append_right _ h)
  have hD := hD0.self (sz := s.heap.size)
  generalize hAe : va_A ((mo_w ad ck x0 (nI x16) (nI x18) (nI x19) x20 (nI x21) x22 x23 x24 x25 x26 x27 (nI x28) x29 x30 (nI x33) x45 (nI x46) (nI x52) (nI x53) (nI x61) (nI x62) x63 (nI x65) x66 f1 f2 f3 (bN 3 q4) (bN 7 q5) (bN 7 q6) (bN 4 q7) f8 (bN 2 q9) f10 f11 (bN 3 q12) (bN 8 q13) (bN 14 q14) (bM 7 q15) f17 f31 f32 f34 f35 f36 f37 (bN 7 q38) f39 f40 f41 (b2 m42_0 m42_1) f43 f44 f47 f48 f49 f50 f51 (bN 13 q54) f55 f56 f57 (bN 119 q58) f59 f60 f64)) s.heap.size = A at hD ⊢
  have hA : ∀ q : Nat, s.heap.size ≤ q → A q := fun q h => by rw [← hAe]; exact Or.inr h
  have hS : va_S A s.heap s.heap [] := va_S.rf
  have hl := lv_entry ([.ref (ad 0), .int p0]) (n := 2) (Nat.le_of_ble_eq_true rfl)
  rw [lg_entry_eq]
  generalize (lg_sl ([.ref (ad 0), .int p0]) ++ List.replicate (2 - (lg_sl ([.ref (ad 0), .int p0])).length) Slot.unset).toArray = ls at hl ⊢
  have hl : lv_has ls 2 [(0, .ref (ad 0)), (1, .int p0)] := hl
  refine lv_aload_n hx hb dX9_fault_0 rfl (lv_at hl 0 rfl) ?_
  refine lv_iconst (v := 0) hx hb dX9_fault_1 (by decide) ?_
  refine va_put (D := (dC, dI)) (ci := 9) (v := .int 0) (ty := .int) (C := RX9) (T := TX9) (N := 67) hx hb hts hiX9 tyX9 tyX9_ok nmX9 hown hK hP hD hS 0 rfl rfl 0 (by decide) v_1 (fun _ h9 => h9) rfl (by decide +kernel) rfl rfl (Nat.le_of_ble_eq_true rfl) dX9_fault_2 (fun H locs hP hD hS => ?_)
  have hP : va_P (dC, dI) vwCl (mo_w ad ck 0 (nI x16) (nI x18) (nI x19) x20 (nI x21) x22 x23 x24 x25 x26 x27 (nI x28) x29 x30 (nI x33) x45 (nI x46) (nI x52) (nI x53) (nI x61) (nI x62) x63 (nI x65) x66 f1 f2 f3 (bN 3 q4) (bN 7 q5) (bN 7 q6) (bN 4 q7) f8 (bN 2 q9) f10 f11 (bN 3 q12) (bN 8 q13) (bN 14 q14) (bM 7 q15) f17 f31 f32 f34 f35 f36 f37 (bN 7 q38) f39 f40 f41 (b2 m42_0 m42_1) f43 f44 f47 f48 f49 f50 f51 (bN 13 q54) f55 f56 f57 (bN 119 q58) f59 f60 f64) H := hP
  have hD : va_D A (mo_w ad ck 0 (nI x16) (nI x18) (nI x19) x20 (nI x21) x22 x23 x24 x25 x26 x27 (nI x28) x29 x30 (nI x33) x45 (nI x46) (nI x52) (nI x53) (nI x61) (nI x62) x63 (nI x65) x66 f1 f2 f3 (bN 3 q4) (bN 7 q5) (bN 7 q6) (bN 4 q7) f8 (bN 2 q9) f10 f11 (bN 3 q12) (bN 8 q13) (bN 14 q14) (bM 7 q15) f17 f31 f32 f34 f35 f36 f37 (bN 7 q38) f39 f40 f41 (b2 m42_0 m42_1) f43 f44 f47 f48 f49 f50 f51 (bN 13 q54) f55 f56 f57 (bN 119 q58) f59 f60 f64) := hD
  refine lv_iload_n hx hb dX9_fault_5 rfl (lv_at hl 1 rfl) ?_
  refine lv_if_ne (tgt := 16) hx hb dX9_fault_6 (by decide) (fun c_1 => ?_) (fun c_1 => ?_)
  · refine lv_iload_n hx hb dX9_fault_16 rfl (lv_at hl 1 rfl) ?_
    refine lv_iconst (v := 1) hx hb dX9_fault_17 (by decide) ?_
    refine lv_icmp_ne (tgt := 28) hx hb dX9_fault_18 (by decide) (fun c_2 => ?_) (fun c_2 => ?_)
    · refine lv_iconst (v := (-1)) hx hb dX9_fault_28 (by decide) ?_
      exact W.iret (v := (-1)) hx hb hr (fun t ht hW => ⟨⟨(-1), (), rfl, trivial, ⟨0, ⟨by rw [ht]; exact hP, va_K.moved hW.alike hK, hD⟩⟩⟩, hS.F ht⟩) hS.2.2 dX9_fault_29
    · refine lv_aload_n hx hb dX9_fault_21 rfl (lv_at hl 0 rfl) ?_
      refine va_get (D := (dC, dI)) (ci := 9) (v := .int x25) (C := RX9) (T := TX9) (N := 67) hx hb hts hiX9 hown hK hP 0 rfl rfl 25 (by decide) v_2 (fun _ h9 => h9) rfl dX9_fault_22 ?_
      refine lv_goto (tgt := 29) hx hb dX9_fault_25 (by decide) ?_
      exact W.iret (v := x25) hx hb hr (fun t ht hW => ⟨⟨x25, (), rfl, trivial, ⟨0, ⟨by rw [ht]; exact hP, va_K.moved hW.alike hK, hD⟩⟩⟩, hS.F ht⟩) hS.2.2 dX9_fault_29
  · refine lv_aload_n hx hb dX9_fault_9 rfl (lv_at hl 0 rfl) ?_
    refine va_get (D := (dC, dI)) (ci := 9) (v := .int x24) (C := RX9) (T := TX9) (N := 67) hx hb hts hiX9 hown hK hP 0 rfl rfl 24 (by decide) v_3 (fun _ h9 => h9) rfl dX9_fault_10 ?_
    refine lv_goto (tgt := 29) hx hb dX9_fault_13 (by decide) ?_
    exact W.iret (v := x24) hx hb hr (fun t ht hW => ⟨⟨x24, (), rfl, trivial, ⟨0, ⟨by rw [ht]; exact hP, va_K.moved hW.alike hK, hD⟩⟩⟩, hS.F ht⟩) hS.2.2 dX9_fault_29
theorem dX9_outOf_0 : decode cX9_outOf 0 = .ok (.aload_n 0, 1) := by decide +kernel
theorem dX9_outOf_1 : decode cX9_outOf 1 = .ok (.getfield 22, 3) := by decide +kernel
theorem dX9_outOf_4 : decode cX9_outOf 4 = .ok (.bipush 14, 2) := by decide +kernel
theorem dX9_outOf_6 : decode cX9_outOf 6 = .ok (.aload_n 0, 1) := by decide +kernel
theorem dX9_outOf_7 : decode cX9_outOf 7 = .ok (.getfield 258, 3) := by decide +kernel
theorem dX9_outOf_10 : decode cX9_outOf 10 = .ok (.imul, 1) := by decide +kernel
theorem dX9_outOf_11 : decode cX9_outOf 11 = .ok (.iload_n 1, 1) := by decide +kernel
theorem dX9_outOf_12 : decode cX9_outOf 12 = .ok (.iadd, 1) := by decide +kernel
theorem dX9_outOf_13 : decode cX9_outOf 13 = .ok (.iaload, 1) := by decide +kernel
theorem dX9_outOf_14 : decode cX9_outOf 14 = .ok (.ireturn, 1) := by decide +kernel
def vs_M_outOf : List Cond := .code yX9_outOf cX9_outOf 2 (some .int) :: ([.fieldLink RX9 22 "ClockReachModel" "edgeFrom" "[I", .fieldLink RX9 258 "ClockReachModel" "bank" "I"] ++ wsX90)
set_option maxHeartbeats 4000000 in
set_option maxRecDepth 100000 in
theorem c_M_outOf (l : Launch) (dC : Nat → ClassId) (dI : Nat → Nat → Nat) (sz : Nat) (ad : Nat → Nat) (ck : Nat → ClassId) (x0 : Int32) (x16 : Nat) (x18 : Nat) (x19 : Nat) (x20 : Int32) (x21 : Nat) (x22 : Int32) (x23 : Int32) (x24 : Int32) (x25 : Int32) (x26 : Int32) (x27 : Int32) (x28 : Nat) (x29 : Int32) (x30 : Int32) (x33 : Nat) (x45 : Int32) (x46 : Nat) (x52 : Nat) (x53 : Nat) (x61 : Nat) (x62 : Nat) (x63 : Int32) (x65 : Nat) (x66 : Int32) (f1 : Nat → Int32) (f2 : Nat → Int32) (f3 : Nat → Int32) (q4 : Nat → Nat) (q5 : Nat → Nat) (q6 : Nat → Nat) (q7 : Nat → Nat) (f8 : Nat → Int32) (q9 : Nat → Nat) (f10 : Nat → Int32) (f11 : Nat → Int32) (q12 : Nat → Nat) (q13 : Nat → Nat) (q14 : Nat → Nat) (q15 : Nat → Nat) (f17 : Nat → Int32) (f31 : Nat → Int32) (f32 : Nat → Int32) (f34 : Nat → Int32) (f35 : Nat → Int32) (f36 : Nat → Int32) (f37 : Nat → Int32) (q38 : Nat → Nat) (f39 : Nat → Int32) (f40 : Nat → Int32) (f41 : Nat → Int32) (m42_0 m42_1 : Nat) (f43 : Nat → Int32) (f44 : Nat → Int32) (f47 : Nat → Int32) (f48 : Nat → Int32) (f49 : Nat → Int32) (f50 : Nat → Int32) (f51 : Nat → Int32) (q54 : Nat → Nat) (f55 : Nat → Int32) (f56 : Nat → Int32) (f57 : Nat → Int32) (q58 : Nat → Nat) (f59 : Nat → Int32) (f60 : Nat → Int32) (f64 : Nat → Int32) (a0 : Nat) (hx16 : x16 ≤ 1) (hx18 : x18 ≤ 900) (hx19 : x19 ≤ 900) (hx21 : x21 ≤ 900) (hx28 : x28 ≤ 1) (hx33 : x33 ≤ 20) (hx46 : x46 ≤ 5) (hx52 : x52 ≤ 2400) (hx53 : x53 ≤ 120) (hx61 : x61 ≤ 119) (hx62 : x62 ≤ 2000) (hx65 : x65 ≤ 7) (hm42_0 : m42_0 ≤ 120) (hm42_1 : m42_1 ≤ 400) (ha0 : a0 ≤ 13) : Met l yX9_outOf vs_M_outOf ({ frames := 0, cells := 0, slots := 0, locals := 0 }) (va_Pc [.ref (ad 0), .int (nI a0)] (pu_B (dC, dI) (mo_w ad ck x0 (nI x16) (nI x18) (nI x19) x20 (nI x21) x22 x23 x24 x25 x26 x27 (nI x28) x29 x30 (nI x33) x45 (nI x46) (nI x52) (nI x53) (nI x61) (nI x62) x63 (nI x65) x66 f1 f2 f3 (bN 3 q4) (bN 7 q5) (bN 7 q6) (bN 4 q7) f8 (bN 2 q9) f10 f11 (bN 3 q12) (bN 8 q13) (bN 14 q14) (bM 7 q15) f17 f31 f32 f34 f35 f36 f37 (bN 7 q38) f39 f40 f41 (b2 m42_0 m42_1) f43 f44 f47 f48 f49 f50 f51 (bN 13 q54) f55 f56 f57 (bN 119 q58) f59 f60 f64) (mo_t ck) sz)) (va_Qi (fun (r : Int32) (_ : Unit) => ∃ v : Nat, v ≤ 7 ∧ r = nI v) (fun _ _ => True) (va_A [] sz)) 0 0 (va_A [] sz) := by
  refine Met.ofW (cc := cX9_outOf) (maxL := 2) (ret := (some .int)) (by decide) rfl ?_
  intro p e s m args below meth c s₁ B hml hv
  obtain ⟨rfl, rfl, hP, hK, hD0⟩ := hv
  have hx := B.exec
  have hb := B.bytes
  have hr := B.returns
  have hts := atoms_spec (ws := vs_M_outOf) B.pre
  have v_1 := hts (.fieldLink RX9 22 "ClockReachModel" "edgeFrom" "[I") (List.mem_of_getElem? (i := 1) rfl)
  have v_2 := hts (.fieldLink RX9 258 "ClockReachModel" "bank" "I") (List.mem_of_getElem? (i := 2) rfl)
  have hown : s.vm.findClass RX9 = some m.cls := findClass_of_methodNamed B.named
  have hlocks := B.notSynchronized
  have hiX9 : ∀ w ∈ wsX90, w ∈ vs_M_outOf := fun _ h => List.mem_cons_of_mem _ (List.mem_append_right _ h)
  have hD := hD0
  have hA : ∀ q : Nat, s.heap.size ≤ q → va_A [] s.heap.size q := fun _ h => Or.inr h
  have hS : va_S (va_A [] s.heap.size) s.heap s.heap [] := va_S.rf
  have hl := lv_entry ([.ref (ad 0), .int (nI a0)]) (n := 2) (Nat.le_of_ble_eq_true rfl)
  rw [lg_entry_eq]
  generalize (lg_sl ([.ref (ad 0), .int (nI a0)]) ++ List.replicate (2 - (lg_sl ([.ref (ad 0), .int (nI a0)])).length) Slot.unset).toArray = ls at hl ⊢
  have hl : lv_has ls 2 [(0, .ref (ad 0)), (1, .int (nI a0))] := hl
  refine lv_aload_n hx hb dX9_outOf_0 rfl (lv_at hl 0 rfl) ?_
  refine va_get (D := (dC, dI)) (ci := 9) (v := .ref (ad 5)) (C := RX9) (T := TX9) (N := 67) hx hb hts hiX9 hown hK hP 0 rfl rfl 5 (by decide) v_1 (fun _ h9 => h9) rfl dX9_outOf_1 ?_
  refine lv_bipush (v := 14) hx hb dX9_outOf_4 (by decide) ?_
  refine lv_aload_n hx hb dX9_outOf_6 rfl (lv_at hl 0 rfl) ?_
  refine va_get (D := (dC, dI)) (ci := 9) (v := .int (nI x16)) (C := RX9) (T := TX9) (N := 67) hx hb hts hiX9 hown hK hP 0 rfl rfl 16 (by decide) v_2 (fun _ h9 => h9) rfl dX9_outOf_7 ?_
  refine lv_imul hx hb dX9_outOf_10 ?_
  refine lv_topi (fun y_1 ey_1 => ?_)
  obtain rfl : y_1 = (nI (14 * x16)) := ey_1.trans (pk_mul 14 x16)
  refine lv_iload_n hx hb dX9_outOf_11 rfl (lv_at hl 1 rfl) ?_
  refine lv_iadd hx hb dX9_outOf_12 ?_
  refine lv_topi (fun y_2 ey_2 => ?_)
  obtain rfl : y_2 = (nI ((14 * x16) + a0)) := ey_2.trans (nI_add (14 * x16) a0)
  refine va_iald hx hb hK hP 5 4 rfl rfl (vp_in_nI (n := ((14 * x16) + a0)) (by omega) (by omega)) dX9_outOf_13 ?_
  refine lv_topi (fun y_3 ey_3 => ?_)
  obtain ⟨v_4, hv_4, qv_4⟩ := bN_get 7 q5 (((nI ((14 * x16) + a0)) : Int32).toNatClampNeg)
  obtain rfl : y_3 = nI v_4 := ey_3.trans qv_4
  exact W.iret (v := (nI v_4)) hx hb hr (fun t ht hW => ⟨⟨(nI v_4), (), rfl, ⟨v_4, by omega, rfl⟩, trivial⟩, hS.F ht⟩) hS.2.2 dX9_outOf_14
theorem dX9_into_0 : decode cX9_into 0 = .ok (.aload_n 0, 1) := by decide +kernel
theorem dX9_into_1 : decode cX9_into 1 = .ok (.getfield 25, 3) := by decide +kernel
theorem dX9_into_4 : decode cX9_into 4 = .ok (.bipush 14, 2) := by decide +kernel
theorem dX9_into_6 : decode cX9_into 6 = .ok (.aload_n 0, 1) := by decide +kernel
theorem dX9_into_7 : decode cX9_into 7 = .ok (.getfield 258, 3) := by decide +kernel
theorem dX9_into_10 : decode cX9_into 10 = .ok (.imul, 1) := by decide +kernel
theorem dX9_into_11 : decode cX9_into 11 = .ok (.iload_n 1, 1) := by decide +kernel
theorem dX9_into_12 : decode cX9_into 12 = .ok (.iadd, 1) := by decide +kernel
theorem dX9_into_13 : decode cX9_into 13 = .ok (.iaload, 1) := by decide +kernel
theorem dX9_into_14 : decode cX9_into 14 = .ok (.ireturn, 1) := by decide +kernel
def vs_M_into : List Cond := .code yX9_into cX9_into 2 (some .int) :: ([.fieldLink RX9 25 "ClockReachModel" "edgeTo" "[I", .fieldLink RX9 258 "ClockReachModel" "bank" "I"] ++ wsX90)
set_option maxHeartbeats 4000000 in
set_option maxRecDepth 100000 in
theorem c_M_into (l : Launch) (dC : Nat → ClassId) (dI : Nat → Nat → Nat) (sz : Nat) (ad : Nat → Nat) (ck : Nat → ClassId) (x0 : Int32) (x16 : Nat) (x18 : Nat) (x19 : Nat) (x20 : Int32) (x21 : Nat) (x22 : Int32) (x23 : Int32) (x24 : Int32) (x25 : Int32) (x26 : Int32) (x27 : Int32) (x28 : Nat) (x29 : Int32) (x30 : Int32) (x33 : Nat) (x45 : Int32) (x46 : Nat) (x52 : Nat) (x53 : Nat) (x61 : Nat) (x62 : Nat) (x63 : Int32) (x65 : Nat) (x66 : Int32) (f1 : Nat → Int32) (f2 : Nat → Int32) (f3 : Nat → Int32) (q4 : Nat → Nat) (q5 : Nat → Nat) (q6 : Nat → Nat) (q7 : Nat → Nat) (f8 : Nat → Int32) (q9 : Nat → Nat) (f10 : Nat → Int32) (f11 : Nat → Int32) (q12 : Nat → Nat) (q13 : Nat → Nat) (q14 : Nat → Nat) (q15 : Nat → Nat) (f17 : Nat → Int32) (f31 : Nat → Int32) (f32 : Nat → Int32) (f34 : Nat → Int32) (f35 : Nat → Int32) (f36 : Nat → Int32) (f37 : Nat → Int32) (q38 : Nat → Nat) (f39 : Nat → Int32) (f40 : Nat → Int32) (f41 : Nat → Int32) (m42_0 m42_1 : Nat) (f43 : Nat → Int32) (f44 : Nat → Int32) (f47 : Nat → Int32) (f48 : Nat → Int32) (f49 : Nat → Int32) (f50 : Nat → Int32) (f51 : Nat → Int32) (q54 : Nat → Nat) (f55 : Nat → Int32) (f56 : Nat → Int32) (f57 : Nat → Int32) (q58 : Nat → Nat) (f59 : Nat → Int32) (f60 : Nat → Int32) (f64 : Nat → Int32) (a0 : Nat) (hx16 : x16 ≤ 1) (hx18 : x18 ≤ 900) (hx19 : x19 ≤ 900) (hx21 : x21 ≤ 900) (hx28 : x28 ≤ 1) (hx33 : x33 ≤ 20) (hx46 : x46 ≤ 5) (hx52 : x52 ≤ 2400) (hx53 : x53 ≤ 120) (hx61 : x61 ≤ 119) (hx62 : x62 ≤ 2000) (hx65 : x65 ≤ 7) (hm42_0 : m42_0 ≤ 120) (hm42_1 : m42_1 ≤ 400) (ha0 : a0 ≤ 13) : Met l yX9_into vs_M_into ({ frames := 0, cells := 0, slots := 0, locals := 0 }) (va_Pc [.ref (ad 0), .int (nI a0)] (pu_B (dC, dI) (mo_w ad ck x0 (nI x16) (nI x18) (nI x19) x20 (nI x21) x22 x23 x24 x25 x26 x27 (nI x28) x29 x30 (nI x33) x45 (nI x46) (nI x52) (nI x53) (nI x61) (nI x62) x63 (nI x65) x66 f1 f2 f3 (bN 3 q4) (bN 7 q5) (bN 7 q6) (bN 4 q7) f8 (bN 2 q9) f10 f11 (bN 3 q12) (bN 8 q13) (bN 14 q14) (bM 7 q15) f17 f31 f32 f34 f35 f36 f37 (bN 7 q38) f39 f40 f41 (b2 m42_0 m42_1) f43 f44 f47 f48 f49 f50 f51 (bN 13 q54) f55 f56 f57 (bN 119 q58) f59 f60 f64) (mo_t ck) sz)) (va_Qi (fun (r : Int32) (_ : Unit) => ∃ v : Nat, v ≤ 7 ∧ r = nI v) (fun _ _ => True) (va_A [] sz)) 0 0 (va_A [] sz) := by
  refine Met.ofW (cc := cX9_into) (maxL := 2) (ret := (some .int)) (by decide) rfl ?_
  intro p e s m args below meth c s₁ B hml hv
  obtain ⟨rfl, rfl, hP, hK, hD0⟩ := hv
  have hx := B.exec
  have hb := B.bytes
  have hr := B.returns
  have hts := atoms_spec (ws := vs_M_into) B.pre
  have v_1 := hts (.fieldLink RX9 25 "ClockReachModel" "edgeTo" "[I") (List.mem_of_getElem? (i := 1) rfl)
  have v_2 := hts (.fieldLink RX9 258 "ClockReachModel" "bank" "I") (List.mem_of_getElem? (i := 2) rfl)
  have hown : s.vm.findClass RX9 = some m.cls := findClass_of_methodNamed B.named
  have hlocks := B.notSynchronized
  have hiX9 : ∀ w ∈ wsX90, w ∈ vs_M_into := fun _ h => List.mem_cons_of_mem _ (List.mem_append_right _ h)
  have hD := hD0
  have hA : ∀ q : Nat, s.heap.size ≤ q → va_A [] s.heap.size q := fun _ h => Or.inr h
  have hS : va_S (va_A [] s.heap.size) s.heap s.heap [] := va_S.rf
  have hl := lv_entry ([.ref (ad 0), .int (nI a0)]) (n := 2) (Nat.le_of_ble_eq_true rfl)
  rw [lg_entry_eq]
  generalize (lg_sl ([.ref (ad 0), .int (nI a0)]) ++ List.replicate (2 - (lg_sl ([.ref (ad 0), .int (nI a0)])).length) Slot.unset).toArray = ls at hl ⊢
  have hl : lv_has ls 2 [(0, .ref (ad 0)), (1, .int (nI a0))] := hl
  refine lv_aload_n hx hb dX9_into_0 rfl (lv_at hl 0 rfl) ?_
  refine va_get (D := (dC, dI)) (ci := 9) (v := .ref (ad 6)) (C := RX9) (T := TX9) (N := 67) hx hb hts hiX9 hown hK hP 0 rfl rfl 6 (by decide) v_1 (fun _ h9 => h9) rfl dX9_into_1 ?_
  refine lv_bipush (v := 14) hx hb dX9_into_4 (by decide) ?_
  refine lv_aload_n hx hb dX9_into_6 rfl (lv_at hl 0 rfl) ?_
  refine va_get (D := (dC, dI)) (ci := 9) (v := .int (nI x16)) (C := RX9) (T := TX9) (N := 67) hx hb hts hiX9 hown hK hP 0 rfl rfl 16 (by decide) v_2 (fun _ h9 => h9) rfl dX9_into_7 ?_
  refine lv_imul hx hb dX9_into_10 ?_
  refine lv_topi (fun y_1 ey_1 => ?_)
  obtain rfl : y_1 = (nI (14 * x16)) := ey_1.trans (pk_mul 14 x16)
  refine lv_iload_n hx hb dX9_into_11 rfl (lv_at hl 1 rfl) ?_
  refine lv_iadd hx hb dX9_into_12 ?_
  refine lv_topi (fun y_2 ey_2 => ?_)
  obtain rfl : y_2 = (nI ((14 * x16) + a0)) := ey_2.trans (nI_add (14 * x16) a0)
  refine va_iald hx hb hK hP 6 5 rfl rfl (vp_in_nI (n := ((14 * x16) + a0)) (by omega) (by omega)) dX9_into_13 ?_
  refine lv_topi (fun y_3 ey_3 => ?_)
  obtain ⟨v_4, hv_4, qv_4⟩ := bN_get 7 q6 (((nI ((14 * x16) + a0)) : Int32).toNatClampNeg)
  obtain rfl : y_3 = nI v_4 := ey_3.trans qv_4
  exact W.iret (v := (nI v_4)) hx hb hr (fun t ht hW => ⟨⟨(nI v_4), (), rfl, ⟨v_4, by omega, rfl⟩, trivial⟩, hS.F ht⟩) hS.2.2 dX9_into_14
theorem dX9_setBy_0 : decode cX9_setBy 0 = .ok (.aload_n 0, 1) := by decide +kernel
theorem dX9_setBy_1 : decode cX9_setBy 1 = .ok (.getfield 31, 3) := by decide +kernel
theorem dX9_setBy_4 : decode cX9_setBy 4 = .ok (.bipush 14, 2) := by decide +kernel
theorem dX9_setBy_6 : decode cX9_setBy 6 = .ok (.aload_n 0, 1) := by decide +kernel
theorem dX9_setBy_7 : decode cX9_setBy 7 = .ok (.getfield 258, 3) := by decide +kernel
theorem dX9_setBy_10 : decode cX9_setBy 10 = .ok (.imul, 1) := by decide +kernel
theorem dX9_setBy_11 : decode cX9_setBy 11 = .ok (.iload_n 1, 1) := by decide +kernel
theorem dX9_setBy_12 : decode cX9_setBy 12 = .ok (.iadd, 1) := by decide +kernel
theorem dX9_setBy_13 : decode cX9_setBy 13 = .ok (.iaload, 1) := by decide +kernel
theorem dX9_setBy_14 : decode cX9_setBy 14 = .ok (.ireturn, 1) := by decide +kernel
def vs_M_setBy : List Cond := .code yX9_setBy cX9_setBy 2 (some .int) :: ([.fieldLink RX9 31 "ClockReachModel" "sets" "[I", .fieldLink RX9 258 "ClockReachModel" "bank" "I"] ++ wsX90)
set_option maxHeartbeats 4000000 in
set_option maxRecDepth 100000 in
theorem c_M_setBy (l : Launch) (dC : Nat → ClassId) (dI : Nat → Nat → Nat) (sz : Nat) (ad : Nat → Nat) (ck : Nat → ClassId) (x0 : Int32) (x16 : Nat) (x18 : Nat) (x19 : Nat) (x20 : Int32) (x21 : Nat) (x22 : Int32) (x23 : Int32) (x24 : Int32) (x25 : Int32) (x26 : Int32) (x27 : Int32) (x28 : Nat) (x29 : Int32) (x30 : Int32) (x33 : Nat) (x45 : Int32) (x46 : Nat) (x52 : Nat) (x53 : Nat) (x61 : Nat) (x62 : Nat) (x63 : Int32) (x65 : Nat) (x66 : Int32) (f1 : Nat → Int32) (f2 : Nat → Int32) (f3 : Nat → Int32) (q4 : Nat → Nat) (q5 : Nat → Nat) (q6 : Nat → Nat) (q7 : Nat → Nat) (f8 : Nat → Int32) (q9 : Nat → Nat) (f10 : Nat → Int32) (f11 : Nat → Int32) (q12 : Nat → Nat) (q13 : Nat → Nat) (q14 : Nat → Nat) (q15 : Nat → Nat) (f17 : Nat → Int32) (f31 : Nat → Int32) (f32 : Nat → Int32) (f34 : Nat → Int32) (f35 : Nat → Int32) (f36 : Nat → Int32) (f37 : Nat → Int32) (q38 : Nat → Nat) (f39 : Nat → Int32) (f40 : Nat → Int32) (f41 : Nat → Int32) (m42_0 m42_1 : Nat) (f43 : Nat → Int32) (f44 : Nat → Int32) (f47 : Nat → Int32) (f48 : Nat → Int32) (f49 : Nat → Int32) (f50 : Nat → Int32) (f51 : Nat → Int32) (q54 : Nat → Nat) (f55 : Nat → Int32) (f56 : Nat → Int32) (f57 : Nat → Int32) (q58 : Nat → Nat) (f59 : Nat → Int32) (f60 : Nat → Int32) (f64 : Nat → Int32) (a0 : Nat) (hx16 : x16 ≤ 1) (hx18 : x18 ≤ 900) (hx19 : x19 ≤ 900) (hx21 : x21 ≤ 900) (hx28 : x28 ≤ 1) (hx33 : x33 ≤ 20) (hx46 : x46 ≤ 5) (hx52 : x52 ≤ 2400) (hx53 : x53 ≤ 120) (hx61 : x61 ≤ 119) (hx62 : x62 ≤ 2000) (hx65 : x65 ≤ 7) (hm42_0 : m42_0 ≤ 120) (hm42_1 : m42_1 ≤ 400) (ha0 : a0 ≤ 13) : Met l yX9_setBy vs_M_setBy ({ frames := 0, cells := 0, slots := 0, locals := 0 }) (va_Pc [.ref (ad 0), .int (nI a0)] (pu_B (dC, dI) (mo_w ad ck x0 (nI x16) (nI x18) (nI x19) x20 (nI x21) x22 x23 x24 x25 x26 x27 (nI x28) x29 x30 (nI x33) x45 (nI x46) (nI x52) (nI x53) (nI x61) (nI x62) x63 (nI x65) x66 f1 f2 f3 (bN 3 q4) (bN 7 q5) (bN 7 q6) (bN 4 q7) f8 (bN 2 q9) f10 f11 (bN 3 q12) (bN 8 q13) (bN 14 q14) (bM 7 q15) f17 f31 f32 f34 f35 f36 f37 (bN 7 q38) f39 f40 f41 (b2 m42_0 m42_1) f43 f44 f47 f48 f49 f50 f51 (bN 13 q54) f55 f56 f57 (bN 119 q58) f59 f60 f64) (mo_t ck) sz)) (va_Qi (fun (r : Int32) (_ : Unit) => True) (fun _ _ => True) (va_A [] sz)) 0 0 (va_A [] sz) := by
  refine Met.ofW (cc := cX9_setBy) (maxL := 2) (ret := (some .int)) (by decide) rfl ?_
  intro p e s m args below meth c s₁ B hml hv
  obtain ⟨rfl, rfl, hP, hK, hD0⟩ := hv
  have hx := B.exec
  have hb := B.bytes
  have hr := B.returns
  have hts := atoms_spec (ws := vs_M_setBy) B.pre
  have v_1 := hts (.fieldLink RX9 31 "ClockReachModel" "sets" "[I") (List.mem_of_getElem? (i := 1) rfl)
  have v_2 := hts (.fieldLink RX9 258 "ClockReachModel" "bank" "I") (List.mem_of_getElem? (i := 2) rfl)
  have hown : s.vm.findClass RX9 = some m.cls := findClass_of_methodNamed B.named
  have hlocks := B.notSynchronized
  have hiX9 : ∀ w ∈ wsX90, w ∈ vs_M_setBy := fun _ h => List.mem_cons_of_mem _ (List.mem_append_right _ h)
  have hD := hD0
  have hA : ∀ q : Nat, s.heap.size ≤ q → va_A [] s.heap.size q := fun _ h => Or.inr h
  have hS : va_S (va_A [] s.heap.size) s.heap s.heap [] := va_S.rf
  have hl := lv_entry ([.ref (ad 0), .int (nI a0)]) (n := 2) (Nat.le_of_ble_eq_true rfl)
  rw [lg_entry_eq]
  generalize (lg_sl ([.ref (ad 0), .int (nI a0)]) ++ List.replicate (2 - (lg_sl ([.ref (ad 0), .int (nI a0)])).length) Slot.unset).toArray = ls at hl ⊢
  have hl : lv_has ls 2 [(0, .ref (ad 0)), (1, .int (nI a0))] := hl
  refine lv_aload_n hx hb dX9_setBy_0 rfl (lv_at hl 0 rfl) ?_
  refine va_get (D := (dC, dI)) (ci := 9) (v := .ref (ad 8)) (C := RX9) (T := TX9) (N := 67) hx hb hts hiX9 hown hK hP 0 rfl rfl 8 (by decide) v_1 (fun _ h9 => h9) rfl dX9_setBy_1 ?_
  refine lv_bipush (v := 14) hx hb dX9_setBy_4 (by decide) ?_
  refine lv_aload_n hx hb dX9_setBy_6 rfl (lv_at hl 0 rfl) ?_
  refine va_get (D := (dC, dI)) (ci := 9) (v := .int (nI x16)) (C := RX9) (T := TX9) (N := 67) hx hb hts hiX9 hown hK hP 0 rfl rfl 16 (by decide) v_2 (fun _ h9 => h9) rfl dX9_setBy_7 ?_
  refine lv_imul hx hb dX9_setBy_10 ?_
  refine lv_topi (fun y_1 ey_1 => ?_)
  obtain rfl : y_1 = (nI (14 * x16)) := ey_1.trans (pk_mul 14 x16)
  refine lv_iload_n hx hb dX9_setBy_11 rfl (lv_at hl 1 rfl) ?_
  refine lv_iadd hx hb dX9_setBy_12 ?_
  refine lv_topi (fun y_2 ey_2 => ?_)
  obtain rfl : y_2 = (nI ((14 * x16) + a0)) := ey_2.trans (nI_add (14 * x16) a0)
  refine va_iald hx hb hK hP 8 7 rfl rfl (vp_in_nI (n := ((14 * x16) + a0)) (by omega) (by omega)) dX9_setBy_13 ?_
  refine lv_topi (fun y_3 ey_3 => ?_)
  exact W.iret (v := y_3) hx hb hr (fun t ht hW => ⟨⟨y_3, (), rfl, trivial, trivial⟩, hS.F ht⟩) hS.2.2 dX9_setBy_14
theorem dX9_isUrgent_0 : decode cX9_isUrgent 0 = .ok (.aload_n 0, 1) := by decide +kernel
theorem dX9_isUrgent_1 : decode cX9_isUrgent 1 = .ok (.getfield 16, 3) := by decide +kernel
theorem dX9_isUrgent_4 : decode cX9_isUrgent 4 = .ok (.bipush 8, 2) := by decide +kernel
theorem dX9_isUrgent_6 : decode cX9_isUrgent 6 = .ok (.aload_n 0, 1) := by decide +kernel
theorem dX9_isUrgent_7 : decode cX9_isUrgent 7 = .ok (.getfield 258, 3) := by decide +kernel
theorem dX9_isUrgent_10 : decode cX9_isUrgent 10 = .ok (.imul, 1) := by decide +kernel
theorem dX9_isUrgent_11 : decode cX9_isUrgent 11 = .ok (.iload_n 1, 1) := by decide +kernel
theorem dX9_isUrgent_12 : decode cX9_isUrgent 12 = .ok (.iadd, 1) := by decide +kernel
theorem dX9_isUrgent_13 : decode cX9_isUrgent 13 = .ok (.iaload, 1) := by decide +kernel
theorem dX9_isUrgent_14 : decode cX9_isUrgent 14 = .ok (.iconst 1, 1) := by decide +kernel
theorem dX9_isUrgent_15 : decode cX9_isUrgent 15 = .ok (.if_icmp .ne 7, 3) := by decide +kernel
theorem dX9_isUrgent_18 : decode cX9_isUrgent 18 = .ok (.iconst 1, 1) := by decide +kernel
theorem dX9_isUrgent_19 : decode cX9_isUrgent 19 = .ok (.goto 4, 3) := by decide +kernel
theorem dX9_isUrgent_22 : decode cX9_isUrgent 22 = .ok (.iconst 0, 1) := by decide +kernel
theorem dX9_isUrgent_23 : decode cX9_isUrgent 23 = .ok (.ireturn, 1) := by decide +kernel
def vs_M_isUrgent : List Cond := .code yX9_isUrgent cX9_isUrgent 2 (some .boolean) :: ([.fieldLink RX9 16 "ClockReachModel" "urgent" "[I", .fieldLink RX9 258 "ClockReachModel" "bank" "I"] ++ wsX90)
set_option maxHeartbeats 4000000 in
set_option maxRecDepth 100000 in
theorem c_M_isUrgent (l : Launch) (dC : Nat → ClassId) (dI : Nat → Nat → Nat) (sz : Nat) (ad : Nat → Nat) (ck : Nat → ClassId) (x0 : Int32) (x16 : Nat) (x18 : Nat) (x19 : Nat) (x20 : Int32) (x21 : Nat) (x22 : Int32) (x23 : Int32) (x24 : Int32) (x25 : Int32) (x26 : Int32) (x27 : Int32) (x28 : Nat) (x29 : Int32) (x30 : Int32) (x33 : Nat) (x45 : Int32) (x46 : Nat) (x52 : Nat) (x53 : Nat) (x61 : Nat) (x62 : Nat) (x63 : Int32) (x65 : Nat) (x66 : Int32) (f1 : Nat → Int32) (f2 : Nat → Int32) (f3 : Nat → Int32) (q4 : Nat → Nat) (q5 : Nat → Nat) (q6 : Nat → Nat) (q7 : Nat → Nat) (f8 : Nat → Int32) (q9 : Nat → Nat) (f10 : Nat → Int32) (f11 : Nat → Int32) (q12 : Nat → Nat) (q13 : Nat → Nat) (q14 : Nat → Nat) (q15 : Nat → Nat) (f17 : Nat → Int32) (f31 : Nat → Int32) (f32 : Nat → Int32) (f34 : Nat → Int32) (f35 : Nat → Int32) (f36 : Nat → Int32) (f37 : Nat → Int32) (q38 : Nat → Nat) (f39 : Nat → Int32) (f40 : Nat → Int32) (f41 : Nat → Int32) (m42_0 m42_1 : Nat) (f43 : Nat → Int32) (f44 : Nat → Int32) (f47 : Nat → Int32) (f48 : Nat → Int32) (f49 : Nat → Int32) (f50 : Nat → Int32) (f51 : Nat → Int32) (q54 : Nat → Nat) (f55 : Nat → Int32) (f56 : Nat → Int32) (f57 : Nat → Int32) (q58 : Nat → Nat) (f59 : Nat → Int32) (f60 : Nat → Int32) (f64 : Nat → Int32) (a0 : Nat) (hx16 : x16 ≤ 1) (hx18 : x18 ≤ 900) (hx19 : x19 ≤ 900) (hx21 : x21 ≤ 900) (hx28 : x28 ≤ 1) (hx33 : x33 ≤ 20) (hx46 : x46 ≤ 5) (hx52 : x52 ≤ 2400) (hx53 : x53 ≤ 120) (hx61 : x61 ≤ 119) (hx62 : x62 ≤ 2000) (hx65 : x65 ≤ 7) (hm42_0 : m42_0 ≤ 120) (hm42_1 : m42_1 ≤ 400) (ha0 : a0 ≤ 7) : Met l yX9_isUrgent vs_M_isUrgent ({ frames := 0, cells := 0, slots := 0, locals := 0 }) (va_Pc [.ref (ad 0), .int (nI a0)] (pu_B (dC, dI) (mo_w ad ck x0 (nI x16) (nI x18) (nI x19) x20 (nI x21) x22 x23 x24 x25 x26 x27 (nI x28) x29 x30 (nI x33) x45 (nI x46) (nI x52) (nI x53) (nI x61) (nI x62) x63 (nI x65) x66 f1 f2 f3 (bN 3 q4) (bN 7 q5) (bN 7 q6) (bN 4 q7) f8 (bN 2 q9) f10 f11 (bN 3 q12) (bN 8 q13) (bN 14 q14) (bM 7 q15) f17 f31 f32 f34 f35 f36 f37 (bN 7 q38) f39 f40 f41 (b2 m42_0 m42_1) f43 f44 f47 f48 f49 f50 f51 (bN 13 q54) f55 f56 f57 (bN 119 q58) f59 f60 f64) (mo_t ck) sz)) (va_Qi (fun (r : Int32) (_ : Unit) => r = 0 ∨ r = 1) (fun _ _ => True) (va_A [] sz)) 0 0 (va_A [] sz) := by
  refine Met.ofW (cc := cX9_isUrgent) (maxL := 2) (ret := (some .boolean)) (by decide) rfl ?_
  intro p e s m args below meth c s₁ B hml hv
  obtain ⟨rfl, rfl, hP, hK, hD0⟩ := hv
  have hx := B.exec
  have hb := B.bytes
  have hr := B.returns
  have hts := atoms_spec (ws := vs_M_isUrgent) B.pre
  have v_1 := hts (.fieldLink RX9 16 "ClockReachModel" "urgent" "[I") (List.mem_of_getElem? (i := 1) rfl)
  have v_2 := hts (.fieldLink RX9 258 "ClockReachModel" "bank" "I") (List.mem_of_getElem? (i := 2) rfl)
  have hown : s.vm.findClass RX9 = some m.cls := findClass_of_methodNamed B.named
  have hlocks := B.notSynchronized
  have hiX9 : ∀ w ∈ wsX90, w ∈ vs_M_isUrgent := fun _ h => List.mem_cons_of_mem _ (List.mem_append_right _ h)
  have hD := hD0
  have hA : ∀ q : Nat, s.heap.size ≤ q → va_A [] s.heap.size q := fun _ h => Or.inr h
  have hS : va_S (va_A [] s.heap.size) s.heap s.heap [] := va_S.rf
  have hl := lv_entry ([.ref (ad 0), .int (nI a0)]) (n := 2) (Nat.le_of_ble_eq_true rfl)
  rw [lg_entry_eq]
  generalize (lg_sl ([.ref (ad 0), .int (nI a0)]) ++ List.replicate (2 - (lg_sl ([.ref (ad 0), .int (nI a0)])).length) Slot.unset).toArray = ls at hl ⊢
  have hl : lv_has ls 2 [(0, .ref (ad 0)), (1, .int (nI a0))] := hl
  refine lv_aload_n hx hb dX9_isUrgent_0 rfl (lv_at hl 0 rfl) ?_
  refine va_get (D := (dC, dI)) (ci := 9) (v := .ref (ad 3)) (C := RX9) (T := TX9) (N := 67) hx hb hts hiX9 hown hK hP 0 rfl rfl 3 (by decide) v_1 (fun _ h9 => h9) rfl dX9_isUrgent_1 ?_
  refine lv_bipush (v := 8) hx hb dX9_isUrgent_4 (by decide) ?_
  refine lv_aload_n hx hb dX9_isUrgent_6 rfl (lv_at hl 0 rfl) ?_
  refine va_get (D := (dC, dI)) (ci := 9) (v := .int (nI x16)) (C := RX9) (T := TX9) (N := 67) hx hb hts hiX9 hown hK hP 0 rfl rfl 16 (by decide) v_2 (fun _ h9 => h9) rfl dX9_isUrgent_7 ?_
  refine lv_imul hx hb dX9_isUrgent_10 ?_
  refine lv_topi (fun y_1 ey_1 => ?_)
  obtain rfl : y_1 = (nI (8 * x16)) := ey_1.trans (pk_mul 8 x16)
  refine lv_iload_n hx hb dX9_isUrgent_11 rfl (lv_at hl 1 rfl) ?_
  refine lv_iadd hx hb dX9_isUrgent_12 ?_
  refine lv_topi (fun y_2 ey_2 => ?_)
  obtain rfl : y_2 = (nI ((8 * x16) + a0)) := ey_2.trans (nI_add (8 * x16) a0)
  refine va_iald hx hb hK hP 3 2 rfl rfl (vp_in_nI (n := ((8 * x16) + a0)) (by omega) (by omega)) dX9_isUrgent_13 ?_
  refine lv_topi (fun y_3 ey_3 => ?_)
  refine lv_iconst (v := 1) hx hb dX9_isUrgent_14 (by decide) ?_
  refine lv_icmp_ne (tgt := 22) hx hb dX9_isUrgent_15 (by decide) (fun c_4 => ?_) (fun c_4 => ?_)
  · refine lv_iconst (v := 0) hx hb dX9_isUrgent_22 (by decide) ?_
    exact W.zret (v := 0) (ty := .boolean) hx hb hr (rfl) (fun t ht hW => ⟨⟨0, (), rfl, Or.inl rfl, trivial⟩, hS.F ht⟩) hS.2.2 dX9_isUrgent_23
  · refine lv_iconst (v := 1) hx hb dX9_isUrgent_18 (by decide) ?_
    refine lv_goto (tgt := 23) hx hb dX9_isUrgent_19 (by decide) ?_
    exact W.zret (v := 1) (ty := .boolean) hx hb hr (rfl) (fun t ht hW => ⟨⟨1, (), rfl, Or.inr rfl, trivial⟩, hS.F ht⟩) hS.2.2 dX9_isUrgent_23
theorem dX9_isWord_0 : decode cX9_isWord 0 = .ok (.aload_n 0, 1) := by decide +kernel
theorem dX9_isWord_1 : decode cX9_isWord 1 = .ok (.getfield 172, 3) := by decide +kernel
theorem dX9_isWord_4 : decode cX9_isWord 4 = .ok (.iconst 1, 1) := by decide +kernel
theorem dX9_isWord_5 : decode cX9_isWord 5 = .ok (.if_icmp .ne 15, 3) := by decide +kernel
theorem dX9_isWord_8 : decode cX9_isWord 8 = .ok (.aload_n 0, 1) := by decide +kernel
theorem dX9_isWord_9 : decode cX9_isWord 9 = .ok (.getfield 169, 3) := by decide +kernel
theorem dX9_isWord_12 : decode cX9_isWord 12 = .ok (.iload_n 1, 1) := by decide +kernel
theorem dX9_isWord_13 : decode cX9_isWord 13 = .ok (.if_icmp .ne 7, 3) := by decide +kernel
theorem dX9_isWord_16 : decode cX9_isWord 16 = .ok (.iconst 1, 1) := by decide +kernel
theorem dX9_isWord_17 : decode cX9_isWord 17 = .ok (.goto 4, 3) := by decide +kernel
theorem dX9_isWord_20 : decode cX9_isWord 20 = .ok (.iconst 0, 1) := by decide +kernel
theorem dX9_isWord_21 : decode cX9_isWord 21 = .ok (.ireturn, 1) := by decide +kernel
def vs_M_isWord : List Cond := .code yX9_isWord cX9_isWord 2 (some .boolean) :: ([.fieldLink RX9 172 "ClockReachModel" "token" "I", .fieldLink RX9 169 "ClockReachModel" "value" "I"] ++ wsX90)
set_option maxHeartbeats 4000000 in
set_option maxRecDepth 100000 in
theorem c_M_isWord (l : Launch) (dC : Nat → ClassId) (dI : Nat → Nat → Nat) (sz : Nat) (ad : Nat → Nat) (ck : Nat → ClassId) (x0 : Int32) (x16 : Nat) (x18 : Nat) (x19 : Nat) (x20 : Int32) (x21 : Nat) (x22 : Int32) (x23 : Int32) (x24 : Int32) (x25 : Int32) (x26 : Int32) (x27 : Int32) (x28 : Nat) (x29 : Int32) (x30 : Int32) (x33 : Nat) (x45 : Int32) (x46 : Nat) (x52 : Nat) (x53 : Nat) (x61 : Nat) (x62 : Nat) (x63 : Int32) (x65 : Nat) (x66 : Int32) (f1 : Nat → Int32) (f2 : Nat → Int32) (f3 : Nat → Int32) (q4 : Nat → Nat) (q5 : Nat → Nat) (q6 : Nat → Nat) (q7 : Nat → Nat) (f8 : Nat → Int32) (q9 : Nat → Nat) (f10 : Nat → Int32) (f11 : Nat → Int32) (q12 : Nat → Nat) (q13 : Nat → Nat) (q14 : Nat → Nat) (q15 : Nat → Nat) (f17 : Nat → Int32) (f31 : Nat → Int32) (f32 : Nat → Int32) (f34 : Nat → Int32) (f35 : Nat → Int32) (f36 : Nat → Int32) (f37 : Nat → Int32) (q38 : Nat → Nat) (f39 : Nat → Int32) (f40 : Nat → Int32) (f41 : Nat → Int32) (m42_0 m42_1 : Nat) (f43 : Nat → Int32) (f44 : Nat → Int32) (f47 : Nat → Int32) (f48 : Nat → Int32) (f49 : Nat → Int32) (f50 : Nat → Int32) (f51 : Nat → Int32) (q54 : Nat → Nat) (f55 : Nat → Int32) (f56 : Nat → Int32) (f57 : Nat → Int32) (q58 : Nat → Nat) (f59 : Nat → Int32) (f60 : Nat → Int32) (f64 : Nat → Int32) (p0 : Int32) (hx16 : x16 ≤ 1) (hx18 : x18 ≤ 900) (hx19 : x19 ≤ 900) (hx21 : x21 ≤ 900) (hx28 : x28 ≤ 1) (hx33 : x33 ≤ 20) (hx46 : x46 ≤ 5) (hx52 : x52 ≤ 2400) (hx53 : x53 ≤ 120) (hx61 : x61 ≤ 119) (hx62 : x62 ≤ 2000) (hx65 : x65 ≤ 7) (hm42_0 : m42_0 ≤ 120) (hm42_1 : m42_1 ≤ 400) : Met l yX9_isWord vs_M_isWord ({ frames := 0, cells := 0, slots := 0, locals := 0 }) (va_Pc [.ref (ad 0), .int p0] (pu_B (dC, dI) (mo_w ad ck x0 (nI x16) (nI x18) (nI x19) x20 (nI x21) x22 x23 x24 x25 x26 x27 (nI x28) x29 x30 (nI x33) x45 (nI x46) (nI x52) (nI x53) (nI x61) (nI x62) x63 (nI x65) x66 f1 f2 f3 (bN 3 q4) (bN 7 q5) (bN 7 q6) (bN 4 q7) f8 (bN 2 q9) f10 f11 (bN 3 q12) (bN 8 q13) (bN 14 q14) (bM 7 q15) f17 f31 f32 f34 f35 f36 f37 (bN 7 q38) f39 f40 f41 (b2 m42_0 m42_1) f43 f44 f47 f48 f49 f50 f51 (bN 13 q54) f55 f56 f57 (bN 119 q58) f59 f60 f64) (mo_t ck) sz)) (va_Qi (fun (r : Int32) (_ : Unit) => r = 0 ∨ r = 1) (fun _ _ => True) (va_A [] sz)) 0 0 (va_A [] sz) := by
  refine Met.ofW (cc := cX9_isWord) (maxL := 2) (ret := (some .boolean)) (by decide) rfl ?_
  intro p e s m args below meth c s₁ B hml hv
  obtain ⟨rfl, rfl, hP, hK, hD0⟩ := hv
  have hx := B.exec
  have hb := B.bytes
  have hr := B.returns
  have hts := atoms_spec (ws := vs_M_isWord) B.pre
  have v_1 := hts (.fieldLink RX9 172 "ClockReachModel" "token" "I") (List.mem_of_getElem? (i := 1) rfl)
  have v_2 := hts (.fieldLink RX9 169 "ClockReachModel" "value" "I") (List.mem_of_getElem? (i := 2) rfl)
  have hown : s.vm.findClass RX9 = some m.cls := findClass_of_methodNamed B.named
  have hlocks := B.notSynchronized
  have hiX9 : ∀ w ∈ wsX90, w ∈ vs_M_isWord := fun _ h => List.mem_cons_of_mem _ (List.mem_append_right _ h)
  have hD := hD0
  have hA : ∀ q : Nat, s.heap.size ≤ q → va_A [] s.heap.size q := fun _ h => Or.inr h
  have hS : va_S (va_A [] s.heap.size) s.heap s.heap [] := va_S.rf
  have hl := lv_entry ([.ref (ad 0), .int p0]) (n := 2) (Nat.le_of_ble_eq_true rfl)
  rw [lg_entry_eq]
  generalize (lg_sl ([.ref (ad 0), .int p0]) ++ List.replicate (2 - (lg_sl ([.ref (ad 0), .int p0])).length) Slot.unset).toArray = ls at hl ⊢
  have hl : lv_has ls 2 [(0, .ref (ad 0)), (1, .int p0)] := hl
  refine lv_aload_n hx hb dX9_isWord_0 rfl (lv_at hl 0 rfl) ?_
  refine va_get (D := (dC, dI)) (ci := 9) (v := .int x22) (C := RX9) (T := TX9) (N := 67) hx hb hts hiX9 hown hK hP 0 rfl rfl 22 (by decide) v_1 (fun _ h9 => h9) rfl dX9_isWord_1 ?_
  refine lv_iconst (v := 1) hx hb dX9_isWord_4 (by decide) ?_
  refine lv_icmp_ne (tgt := 20) hx hb dX9_isWord_5 (by decide) (fun c_1 => ?_) (fun c_1 => ?_)
  · refine lv_iconst (v := 0) hx hb dX9_isWord_20 (by decide) ?_
    exact W.zret (v := 0) (ty := .boolean) hx hb hr (rfl) (fun t ht hW => ⟨⟨0, (), rfl, Or.inl rfl, trivial⟩, hS.F ht⟩) hS.2.2 dX9_isWord_21
  · refine lv_aload_n hx hb dX9_isWord_8 rfl (lv_at hl 0 rfl) ?_
    refine va_get (D := (dC, dI)) (ci := 9) (v := .int x23) (C := RX9) (T := TX9) (N := 67) hx hb hts hiX9 hown hK hP 0 rfl rfl 23 (by decide) v_2 (fun _ h9 => h9) rfl dX9_isWord_9 ?_
    refine lv_iload_n hx hb dX9_isWord_12 rfl (lv_at hl 1 rfl) ?_
    refine lv_icmp_ne (tgt := 20) hx hb dX9_isWord_13 (by decide) (fun c_2 => ?_) (fun c_2 => ?_)
    · refine lv_iconst (v := 0) hx hb dX9_isWord_20 (by decide) ?_
      exact W.zret (v := 0) (ty := .boolean) hx hb hr (rfl) (fun t ht hW => ⟨⟨0, (), rfl, Or.inl rfl, trivial⟩, hS.F ht⟩) hS.2.2 dX9_isWord_21
    · refine lv_iconst (v := 1) hx hb dX9_isWord_16 (by decide) ?_
      refine lv_goto (tgt := 21) hx hb dX9_isWord_17 (by decide) ?_
      exact W.zret (v := 1) (ty := .boolean) hx hb hr (rfl) (fun t ht hW => ⟨⟨1, (), rfl, Or.inr rfl, trivial⟩, hS.F ht⟩) hS.2.2 dX9_isWord_21
theorem dX9_isSign_0 : decode cX9_isSign 0 = .ok (.aload_n 0, 1) := by decide +kernel
theorem dX9_isSign_1 : decode cX9_isSign 1 = .ok (.getfield 172, 3) := by decide +kernel
theorem dX9_isSign_4 : decode cX9_isSign 4 = .ok (.iconst 3, 1) := by decide +kernel
theorem dX9_isSign_5 : decode cX9_isSign 5 = .ok (.if_icmp .ne 15, 3) := by decide +kernel
theorem dX9_isSign_8 : decode cX9_isSign 8 = .ok (.aload_n 0, 1) := by decide +kernel
theorem dX9_isSign_9 : decode cX9_isSign 9 = .ok (.getfield 169, 3) := by decide +kernel
theorem dX9_isSign_12 : decode cX9_isSign 12 = .ok (.iload_n 1, 1) := by decide +kernel
theorem dX9_isSign_13 : decode cX9_isSign 13 = .ok (.if_icmp .ne 7, 3) := by decide +kernel
theorem dX9_isSign_16 : decode cX9_isSign 16 = .ok (.iconst 1, 1) := by decide +kernel
theorem dX9_isSign_17 : decode cX9_isSign 17 = .ok (.goto 4, 3) := by decide +kernel
theorem dX9_isSign_20 : decode cX9_isSign 20 = .ok (.iconst 0, 1) := by decide +kernel
theorem dX9_isSign_21 : decode cX9_isSign 21 = .ok (.ireturn, 1) := by decide +kernel
def vs_M_isSign : List Cond := .code yX9_isSign cX9_isSign 2 (some .boolean) :: ([.fieldLink RX9 172 "ClockReachModel" "token" "I", .fieldLink RX9 169 "ClockReachModel" "value" "I"] ++ wsX90)
set_option maxHeartbeats 4000000 in
set_option maxRecDepth 100000 in
theorem c_M_isSign (l : Launch) (dC : Nat → ClassId) (dI : Nat → Nat → Nat) (sz : Nat) (ad : Nat → Nat) (ck : Nat → ClassId) (x0 : Int32) (x16 : Nat) (x18 : Nat) (x19 : Nat) (x20 : Int32) (x21 : Nat) (x22 : Int32) (x23 : Int32) (x24 : Int32) (x25 : Int32) (x26 : Int32) (x27 : Int32) (x28 : Nat) (x29 : Int32) (x30 : Int32) (x33 : Nat) (x45 : Int32) (x46 : Nat) (x52 : Nat) (x53 : Nat) (x61 : Nat) (x62 : Nat) (x63 : Int32) (x65 : Nat) (x66 : Int32) (f1 : Nat → Int32) (f2 : Nat → Int32) (f3 : Nat → Int32) (q4 : Nat → Nat) (q5 : Nat → Nat) (q6 : Nat → Nat) (q7 : Nat → Nat) (f8 : Nat → Int32) (q9 : Nat → Nat) (f10 : Nat → Int32) (f11 : Nat → Int32) (q12 : Nat → Nat) (q13 : Nat → Nat) (q14 : Nat → Nat) (q15 : Nat → Nat) (f17 : Nat → Int32) (f31 : Nat → Int32) (f32 : Nat → Int32) (f34 : Nat → Int32) (f35 : Nat → Int32) (f36 : Nat → Int32) (f37 : Nat → Int32) (q38 : Nat → Nat) (f39 : Nat → Int32) (f40 : Nat → Int32) (f41 : Nat → Int32) (m42_0 m42_1 : Nat) (f43 : Nat → Int32) (f44 : Nat → Int32) (f47 : Nat → Int32) (f48 : Nat → Int32) (f49 : Nat → Int32) (f50 : Nat → Int32) (f51 : Nat → Int32) (q54 : Nat → Nat) (f55 : Nat → Int32) (f56 : Nat → Int32) (f57 : Nat → Int32) (q58 : Nat → Nat) (f59 : Nat → Int32) (f60 : Nat → Int32) (f64 : Nat → Int32) (p0 : Int32) (hx16 : x16 ≤ 1) (hx18 : x18 ≤ 900) (hx19 : x19 ≤ 900) (hx21 : x21 ≤ 900) (hx28 : x28 ≤ 1) (hx33 : x33 ≤ 20) (hx46 : x46 ≤ 5) (hx52 : x52 ≤ 2400) (hx53 : x53 ≤ 120) (hx61 : x61 ≤ 119) (hx62 : x62 ≤ 2000) (hx65 : x65 ≤ 7) (hm42_0 : m42_0 ≤ 120) (hm42_1 : m42_1 ≤ 400) : Met l yX9_isSign vs_M_isSign ({ frames := 0, cells := 0, slots := 0, locals := 0 }) (va_Pc [.ref (ad 0), .int p0] (pu_B (dC, dI) (mo_w ad ck x0 (nI x16) (nI x18) (nI x19) x20 (nI x21) x22 x23 x24 x25 x26 x27 (nI x28) x29 x30 (nI x33) x45 (nI x46) (nI x52) (nI x53) (nI x61) (nI x62) x63 (nI x65) x66 f1 f2 f3 (bN 3 q4) (bN 7 q5) (bN 7 q6) (bN 4 q7) f8 (bN 2 q9) f10 f11 (bN 3 q12) (bN 8 q13) (bN 14 q14) (bM 7 q15) f17 f31 f32 f34 f35 f36 f37 (bN 7 q38) f39 f40 f41 (b2 m42_0 m42_1) f43 f44 f47 f48 f49 f50 f51 (bN 13 q54) f55 f56 f57 (bN 119 q58) f59 f60 f64) (mo_t ck) sz)) (va_Qi (fun (r : Int32) (_ : Unit) => r = 0 ∨ r = 1) (fun _ _ => True) (va_A [] sz)) 0 0 (va_A [] sz) := by
  refine Met.ofW (cc := cX9_isSign) (maxL := 2) (ret := (some .boolean)) (by decide) rfl ?_
  intro p e s m args below meth c s₁ B hml hv
  obtain ⟨rfl, rfl, hP, hK, hD0⟩ := hv
  have hx := B.exec
  have hb := B.bytes
  have hr := B.returns
  have hts := atoms_spec (ws := vs_M_isSign) B.pre
  have v_1 := hts (.fieldLink RX9 172 "ClockReachModel" "token" "I") (List.mem_of_getElem? (i := 1) rfl)
  have v_2 := hts (.fieldLink RX9 169 "ClockReachModel" "value" "I") (List.mem_of_getElem? (i := 2) rfl)
  have hown : s.vm.findClass RX9 = some m.cls := findClass_of_methodNamed B.named
  have hlocks := B.notSynchronized
  have hiX9 : ∀ w ∈ wsX90, w ∈ vs_M_isSign := fun _ h => List.mem_cons_of_mem _ (List.mem_append_right _ h)
  have hD := hD0
  have hA : ∀ q : Nat, s.heap.size ≤ q → va_A [] s.heap.size q := fun _ h => Or.inr h
  have hS : va_S (va_A [] s.heap.size) s.heap s.heap [] := va_S.rf
  have hl := lv_entry ([.ref (ad 0), .int p0]) (n := 2) (Nat.le_of_ble_eq_true rfl)
  rw [lg_entry_eq]
  generalize (lg_sl ([.ref (ad 0), .int p0]) ++ List.replicate (2 - (lg_sl ([.ref (ad 0), .int p0])).length) Slot.unset).toArray = ls at hl ⊢
  have hl : lv_has ls 2 [(0, .ref (ad 0)), (1, .int p0)] := hl
  refine lv_aload_n hx hb dX9_isSign_0 rfl (lv_at hl 0 rfl) ?_
  refine va_get (D := (dC, dI)) (ci := 9) (v := .int x22) (C := RX9) (T := TX9) (N := 67) hx hb hts hiX9 hown hK hP 0 rfl rfl 22 (by decide) v_1 (fun _ h9 => h9) rfl dX9_isSign_1 ?_
  refine lv_iconst (v := 3) hx hb dX9_isSign_4 (by decide) ?_
  refine lv_icmp_ne (tgt := 20) hx hb dX9_isSign_5 (by decide) (fun c_1 => ?_) (fun c_1 => ?_)
  · refine lv_iconst (v := 0) hx hb dX9_isSign_20 (by decide) ?_
    exact W.zret (v := 0) (ty := .boolean) hx hb hr (rfl) (fun t ht hW => ⟨⟨0, (), rfl, Or.inl rfl, trivial⟩, hS.F ht⟩) hS.2.2 dX9_isSign_21
  · refine lv_aload_n hx hb dX9_isSign_8 rfl (lv_at hl 0 rfl) ?_
    refine va_get (D := (dC, dI)) (ci := 9) (v := .int x23) (C := RX9) (T := TX9) (N := 67) hx hb hts hiX9 hown hK hP 0 rfl rfl 23 (by decide) v_2 (fun _ h9 => h9) rfl dX9_isSign_9 ?_
    refine lv_iload_n hx hb dX9_isSign_12 rfl (lv_at hl 1 rfl) ?_
    refine lv_icmp_ne (tgt := 20) hx hb dX9_isSign_13 (by decide) (fun c_2 => ?_) (fun c_2 => ?_)
    · refine lv_iconst (v := 0) hx hb dX9_isSign_20 (by decide) ?_
      exact W.zret (v := 0) (ty := .boolean) hx hb hr (rfl) (fun t ht hW => ⟨⟨0, (), rfl, Or.inl rfl, trivial⟩, hS.F ht⟩) hS.2.2 dX9_isSign_21
    · refine lv_iconst (v := 1) hx hb dX9_isSign_16 (by decide) ?_
      refine lv_goto (tgt := 21) hx hb dX9_isSign_17 (by decide) ?_
      exact W.zret (v := 1) (ty := .boolean) hx hb hr (rfl) (fun t ht hW => ⟨⟨1, (), rfl, Or.inr rfl, trivial⟩, hS.F ht⟩) hS.2.2 dX9_isSign_21
theorem dX9_fails_0 : decode cX9_fails 0 = .ok (.aload_n 0, 1) := by decide +kernel
theorem dX9_fails_1 : decode cX9_fails 1 = .ok (.getfield 186, 3) := by decide +kernel
theorem dX9_fails_4 : decode cX9_fails 4 = .ok (.ifCond .ne 28, 3) := by decide +kernel
theorem dX9_fails_7 : decode cX9_fails 7 = .ok (.aload_n 0, 1) := by decide +kernel
theorem dX9_fails_8 : decode cX9_fails 8 = .ok (.aload_n 0, 1) := by decide +kernel
theorem dX9_fails_9 : decode cX9_fails 9 = .ok (.getfield 172, 3) := by decide +kernel
theorem dX9_fails_12 : decode cX9_fails 12 = .ok (.iconst 4, 1) := by decide +kernel
theorem dX9_fails_13 : decode cX9_fails 13 = .ok (.if_icmp .ne 7, 3) := by decide +kernel
theorem dX9_fails_16 : decode cX9_fails 16 = .ok (.iconst 1, 1) := by decide +kernel
theorem dX9_fails_17 : decode cX9_fails 17 = .ok (.goto 4, 3) := by decide +kernel
theorem dX9_fails_20 : decode cX9_fails 20 = .ok (.iload_n 1, 1) := by decide +kernel
theorem dX9_fails_21 : decode cX9_fails 21 = .ok (.putfield 186, 3) := by decide +kernel
theorem dX9_fails_24 : decode cX9_fails 24 = .ok (.aload_n 0, 1) := by decide +kernel
theorem dX9_fails_25 : decode cX9_fails 25 = .ok (.aload_n 0, 1) := by decide +kernel
theorem dX9_fails_26 : decode cX9_fails 26 = .ok (.getfield 166, 3) := by decide +kernel
theorem dX9_fails_29 : decode cX9_fails 29 = .ok (.putfield 189, 3) := by decide +kernel
theorem dX9_fails_32 : decode cX9_fails 32 = .ok (.return_, 1) := by decide +kernel
def vs_M_fails : List Cond := .code yX9_fails cX9_fails 2 none :: ([.fieldLink RX9 186 "ClockReachModel" "wrong" "I", .fieldLink RX9 172 "ClockReachModel" "token" "I", .fieldLink RX9 166 "ClockReachModel" "at" "I", .fieldLink RX9 189 "ClockReachModel" "wrongAt" "I"] ++ wsX90)
set_option maxHeartbeats 4000000 in
set_option maxRecDepth 100000 in
theorem c_M_fails (l : Launch) (dC : Nat → ClassId) (dI : Nat → Nat → Nat) (sz : Nat) (ad : Nat → Nat) (ck : Nat → ClassId) (x0 : Int32) (x16 : Nat) (x18 : Nat) (x19 : Nat) (x20 : Int32) (x21 : Nat) (x22 : Int32) (x23 : Int32) (x24 : Int32) (x25 : Int32) (x26 : Int32) (x27 : Int32) (x28 : Nat) (x29 : Int32) (x30 : Int32) (x33 : Nat) (x45 : Int32) (x46 : Nat) (x52 : Nat) (x53 : Nat) (x61 : Nat) (x62 : Nat) (x63 : Int32) (x65 : Nat) (x66 : Int32) (f1 : Nat → Int32) (f2 : Nat → Int32) (f3 : Nat → Int32) (q4 : Nat → Nat) (q5 : Nat → Nat) (q6 : Nat → Nat) (q7 : Nat → Nat) (f8 : Nat → Int32) (q9 : Nat → Nat) (f10 : Nat → Int32) (f11 : Nat → Int32) (q12 : Nat → Nat) (q13 : Nat → Nat) (q14 : Nat → Nat) (q15 : Nat → Nat) (f17 : Nat → Int32) (f31 : Nat → Int32) (f32 : Nat → Int32) (f34 : Nat → Int32) (f35 : Nat → Int32) (f36 : Nat → Int32) (f37 : Nat → Int32) (q38 : Nat → Nat) (f39 : Nat → Int32) (f40 : Nat → Int32) (f41 : Nat → Int32) (m42_0 m42_1 : Nat) (f43 : Nat → Int32) (f44 : Nat → Int32) (f47 : Nat → Int32) (f48 : Nat → Int32) (f49 : Nat → Int32) (f50 : Nat → Int32) (f51 : Nat → Int32) (q54 : Nat → Nat) (f55 : Nat → Int32) (f56 : Nat → Int32) (f57 : Nat → Int32) (q58 : Nat → Nat) (f59 : Nat → Int32) (f60 : Nat → Int32) (f64 : Nat → Int32) (p0 : Int32) (hx16 : x16 ≤ 1) (hx18 : x18 ≤ 900) (hx19 : x19 ≤ 900) (hx21 : x21 ≤ 900) (hx28 : x28 ≤ 1) (hx33 : x33 ≤ 20) (hx46 : x46 ≤ 5) (hx52 : x52 ≤ 2400) (hx53 : x53 ≤ 120) (hx61 : x61 ≤ 119) (hx62 : x62 ≤ 2000) (hx65 : x65 ≤ 7) (hm42_0 : m42_0 ≤ 120) (hm42_1 : m42_1 ≤ 400) : Met l yX9_fails vs_M_fails ({ frames := 0, cells := 0, slots := 0, locals := 0 }) (va_Pc [.ref (ad 0), .int p0] (pu_B (dC, dI) (mo_w ad ck x0 (nI x16) (nI x18) (nI x19) x20 (nI x21) x22 x23 x24 x25 x26 x27 (nI x28) x29 x30 (nI x33) x45 (nI x46) (nI x52) (nI x53) (nI x61) (nI x62) x63 (nI x65) x66 f1 f2 f3 (bN 3 q4) (bN 7 q5) (bN 7 q6) (bN 4 q7) f8 (bN 2 q9) f10 f11 (bN 3 q12) (bN 8 q13) (bN 14 q14) (bM 7 q15) f17 f31 f32 f34 f35 f36 f37 (bN 7 q38) f39 f40 f41 (b2 m42_0 m42_1) f43 f44 f47 f48 f49 f50 f51 (bN 13 q54) f55 f56 f57 (bN 119 q58) f59 f60 f64) (mo_t ck) sz)) (va_Qv (fun (_ : Unit) => True) (fun _ t => ∃ (z26 : Int32) (z27 : Int32), pu_E (dC, dI) (mo_w ad ck x0 (nI x16) (nI x18) (nI x19) x20 (nI x21) x22 x23 x24 x25 z26 z27 (nI x28) x29 x30 (nI x33) x45 (nI x46) (nI x52) (nI x53) (nI x61) (nI x62) x63 (nI x65) x66 f1 f2 f3 (bN 3 q4) (bN 7 q5) (bN 7 q6) (bN 4 q7) f8 (bN 2 q9) f10 f11 (bN 3 q12) (bN 8 q13) (bN 14 q14) (bM 7 q15) f17 f31 f32 f34 f35 f36 f37 (bN 7 q38) f39 f40 f41 (b2 m42_0 m42_1) f43 f44 f47 f48 f49 f50 f51 (bN 13 q54) f55 f56 f57 (bN 119 q58) f59 f60 f64) (mo_t ck) (va_A ((mo_w ad ck x0 (nI x16) (nI x18) (nI x19) x20 (nI x21) x22 x23 x24 x25 x26 x27 (nI x28) x29 x30 (nI x33) x45 (nI x46) (nI x52) (nI x53) (nI x61) (nI x62) x63 (nI x65) x66 f1 f2 f3 (bN 3 q4) (bN 7 q5) (bN 7 q6) (bN 4 q7) f8 (bN 2 q9) f10 f11 (bN 3 q12) (bN 8 q13) (bN 14 q14) (bM 7 q15) f17 f31 f32 f34 f35 f36 f37 (bN 7 q38) f39 f40 f41 (b2 m42_0 m42_1) f43 f44 f47 f48 f49 f50 f51 (bN 13 q54) f55 f56 f57 (bN 119 q58) f59 f60 f64)) sz) t) (va_A ((mo_w ad ck x0 (nI x16) (nI x18) (nI x19) x20 (nI x21) x22 x23 x24 x25 x26 x27 (nI x28) x29 x30 (nI x33) x45 (nI x46) (nI x52) (nI x53) (nI x61) (nI x62) x63 (nI x65) x66 f1 f2 f3 (bN 3 q4) (bN 7 q5) (bN 7 q6) (bN 4 q7) f8 (bN 2 q9) f10 f11 (bN 3 q12) (bN 8 q13) (bN 14 q14) (bM 7 q15) f17 f31 f32 f34 f35 f36 f37 (bN 7 q38) f39 f40 f41 (b2 m42_0 m42_1) f43 f44 f47 f48 f49 f50 f51 (bN 13 q54) f55 f56 f57 (bN 119 q58) f59 f60 f64)) sz)) 0 0 (va_A ((mo_w ad ck x0 (nI x16) (nI x18) (nI x19) x20 (nI x21) x22 x23 x24 x25 x26 x27 (nI x28) x29 x30 (nI x33) x45 (nI x46) (nI x52) (nI x53) (nI x61) (nI x62) x63 (nI x65) x66 f1 f2 f3 (bN 3 q4) (bN 7 q5) (bN 7 q6) (bN 4 q7) f8 (bN 2 q9) f10 f11 (bN 3 q12) (bN 8 q13) (bN 14 q14) (bM 7 q15) f17 f31 f32 f34 f35 f36 f37 (bN 7 q38) f39 f40 f41 (b2 m42_0 m42_1) f43 f44 f47 f48 f49 f50 f51 (bN 13 q54) f55 f56 f57 (bN 119 q58) f59 f60 f64)) sz) := by
  refine Met.ofW (cc := cX9_fails) (maxL := 2) (ret := none) (by decide) rfl ?_
  intro p e s m args below meth c s₁ B hml hv
  obtain ⟨rfl, rfl, hP, hK, hD0⟩ := hv
  have hx := B.exec
  have hb := B.bytes
  have hr := B.returns
  have hts := atoms_spec (ws := vs_M_fails) B.pre
  have v_1 := hts (.fieldLink RX9 186 "ClockReachModel" "wrong" "I") (List.mem_of_getElem? (i := 1) rfl)
  have v_2 := hts (.fieldLink RX9 172 "ClockReachModel" "token" "I") (List.mem_of_getElem? (i := 2) rfl)
  have v_3 := hts (.fieldLink RX9 166 "ClockReachModel" "at" "I") (List.mem_of_getElem? (i := 3) rfl)
  have v_4 := hts (.fieldLink RX9 189 "ClockReachModel" "wrongAt" "I") (List.mem_of_getElem? (i := 4) rfl)
  have hown : s.vm.findClass RX9 = some m.cls := findClass_of_methodNamed B.named
  have hlocks := B.notSynchronized
  have hiX9 : ∀ w ∈ wsX90, w ∈ vs_M_fails := fun _ h => List.mem_cons_of_mem _ (List.mem_append_right _ h)
  have hD := hD0.self (sz := s.heap.size)
  generalize hAe : va_A ((mo_w ad ck x0 (nI x16) (nI x18) (nI x19) x20 (nI x21) x22 x23 x24 x25 x26 x27 (nI x28) x29 x30 (nI x33) x45 (nI x46) (nI x52) (nI x53) (nI x61) (nI x62) x63 (nI x65) x66 f1 f2 f3 (bN 3 q4) (bN 7 q5) (bN 7 q6) (bN 4 q7) f8 (bN 2 q9) f10 f11 (bN 3 q12) (bN 8 q13) (bN 14 q14) (bM 7 q15) f17 f31 f32 f34 f35 f36 f37 (bN 7 q38) f39 f40 f41 (b2 m42_0 m42_1) f43 f44 f47 f48 f49 f50 f51 (bN 13 q54) f55 f56 f57 (bN 119 q58) f59 f60 f64)) s.heap.size = A at hD ⊢
  have hA : ∀ q : Nat, s.heap.size ≤ q → A q := fun q h => by rw [← hAe]; exact Or.inr h
  have hS : va_S A s.heap s.heap [] := va_S.rf
  have hl := lv_entry ([.ref (ad 0), .int p0]) (n := 2) (Nat.le_of_ble_eq_true rfl)
  rw [lg_entry_eq]
  generalize (lg_sl ([.ref (ad 0), .int p0]) ++ List.replicate (2 - (lg_sl ([.ref (ad 0), .int p0])).length) Slot.unset).toArray = ls at hl ⊢
  have hl : lv_has ls 2 [(0, .ref (ad 0)), (1, .int p0)] := hl
  refine lv_aload_n hx hb dX9_fails_0 rfl (lv_at hl 0 rfl) ?_
  refine va_get (D := (dC, dI)) (ci := 9) (v := .int x26) (C := RX9) (T := TX9) (N := 67) hx hb hts hiX9 hown hK hP 0 rfl rfl 26 (by decide) v_1 (fun _ h9 => h9) rfl dX9_fails_1 ?_
  refine lv_if_ne (tgt := 32) hx hb dX9_fails_4 (by decide) (fun c_1 => ?_) (fun c_1 => ?_)
  · exact W.vret hx hb hr (fun t ht hW => ⟨⟨(), rfl, trivial, ⟨x26, x27, ⟨by rw [ht]; exact hP, va_K.moved hW.alike hK, hD⟩⟩⟩, hS.F ht⟩) hS.2.2 dX9_fails_32
  · refine lv_aload_n hx hb dX9_fails_7 rfl (lv_at hl 0 rfl) ?_
    refine lv_aload_n hx hb dX9_fails_8 rfl (lv_at hl 0 rfl) ?_
    refine va_get (D := (dC, dI)) (ci := 9) (v := .int x22) (C := RX9) (T := TX9) (N := 67) hx hb hts hiX9 hown hK hP 0 rfl rfl 22 (by decide) v_2 (fun _ h9 => h9) rfl dX9_fails_9 ?_
    refine lv_iconst (v := 4) hx hb dX9_fails_12 (by decide) ?_
    refine lv_icmp_ne (tgt := 20) hx hb dX9_fails_13 (by decide) (fun c_2 => ?_) (fun c_2 => ?_)
    · refine lv_iload_n hx hb dX9_fails_20 rfl (lv_at hl 1 rfl) ?_
      refine va_put (D := (dC, dI)) (ci := 9) (v := .int p0) (ty := .int) (C := RX9) (T := TX9) (N := 67) hx hb hts hiX9 tyX9 tyX9_ok nmX9 hown hK hP hD hS 0 rfl rfl 26 (by decide) v_1 (fun _ h9 => h9) rfl (by decide +kernel) rfl rfl (Nat.le_of_ble_eq_true rfl) dX9_fails_21 (fun H locs hP hD hS => ?_)
      have hP : va_P (dC, dI) vwCl (mo_w ad ck x0 (nI x16) (nI x18) (nI x19) x20 (nI x21) x22 x23 x24 x25 p0 x27 (nI x28) x29 x30 (nI x33) x45 (nI x46) (nI x52) (nI x53) (nI x61) (nI x62) x63 (nI x65) x66 f1 f2 f3 (bN 3 q4) (bN 7 q5) (bN 7 q6) (bN 4 q7) f8 (bN 2 q9) f10 f11 (bN 3 q12) (bN 8 q13) (bN 14 q14) (bM 7 q15) f17 f31 f32 f34 f35 f36 f37 (bN 7 q38) f39 f40 f41 (b2 m42_0 m42_1) f43 f44 f47 f48 f49 f50 f51 (bN 13 q54) f55 f56 f57 (bN 119 q58) f59 f60 f64) H := hP
      have hD : va_D A (mo_w ad ck x0 (nI x16) (nI x18) (nI x19) x20 (nI x21) x22 x23 x24 x25 p0 x27 (nI x28) x29 x30 (nI x33) x45 (nI x46) (nI x52) (nI x53) (nI x61) (nI x62) x63 (nI x65) x66 f1 f2 f3 (bN 3 q4) (bN 7 q5) (bN 7 q6) (bN 4 q7) f8 (bN 2 q9) f10 f11 (bN 3 q12) (bN 8 q13) (bN 14 q14) (bM 7 q15) f17 f31 f32 f34 f35 f36 f37 (bN 7 q38) f39 f40 f41 (b2 m42_0 m42_1) f43 f44 f47 f48 f49 f50 f51 (bN 13 q54) f55 f56 f57 (bN 119 q58) f59 f60 f64) := hD
      refine lv_aload_n hx hb dX9_fails_24 rfl (lv_at hl 0 rfl) ?_
      refine lv_aload_n hx hb dX9_fails_25 rfl (lv_at hl 0 rfl) ?_
      refine va_get (D := (dC, dI)) (ci := 9) (v := .int x20) (C := RX9) (T := TX9) (N := 67) hx hb hts hiX9 hown hK hP 0 rfl rfl 20 (by decide) v_3 (fun _ h9 => h9) rfl dX9_fails_26 ?_
      refine va_put (D := (dC, dI)) (ci := 9) (v := .int x20) (ty := .int) (C := RX9) (T := TX9) (N := 67) hx hb hts hiX9 tyX9 tyX9_ok nmX9 hown hK hP hD hS 0 rfl rfl 27 (by decide) v_4 (fun _ h9 => h9) rfl (by decide +kernel) rfl rfl (Nat.le_of_ble_eq_true rfl) dX9_fails_29 (fun H locs hP hD hS => ?_)
      have hP : va_P (dC, dI) vwCl (mo_w ad ck x0 (nI x16) (nI x18) (nI x19) x20 (nI x21) x22 x23 x24 x25 p0 x20 (nI x28) x29 x30 (nI x33) x45 (nI x46) (nI x52) (nI x53) (nI x61) (nI x62) x63 (nI x65) x66 f1 f2 f3 (bN 3 q4) (bN 7 q5) (bN 7 q6) (bN 4 q7) f8 (bN 2 q9) f10 f11 (bN 3 q12) (bN 8 q13) (bN 14 q14) (bM 7 q15) f17 f31 f32 f34 f35 f36 f37 (bN 7 q38) f39 f40 f41 (b2 m42_0 m42_1) f43 f44 f47 f48 f49 f50 f51 (bN 13 q54) f55 f56 f57 (bN 119 q58) f59 f60 f64) H := hP
      have hD : va_D A (mo_w ad ck x0 (nI x16) (nI x18) (nI x19) x20 (nI x21) x22 x23 x24 x25 p0 x20 (nI x28) x29 x30 (nI x33) x45 (nI x46) (nI x52) (nI x53) (nI x61) (nI x62) x63 (nI x65) x66 f1 f2 f3 (bN 3 q4) (bN 7 q5) (bN 7 q6) (bN 4 q7) f8 (bN 2 q9) f10 f11 (bN 3 q12) (bN 8 q13) (bN 14 q14) (bM 7 q15) f17 f31 f32 f34 f35 f36 f37 (bN 7 q38) f39 f40 f41 (b2 m42_0 m42_1) f43 f44 f47 f48 f49 f50 f51 (bN 13 q54) f55 f56 f57 (bN 119 q58) f59 f60 f64) := hD
      exact W.vret hx hb hr (fun t ht hW => ⟨⟨(), rfl, trivial, ⟨p0, x20, ⟨by rw [ht]; exact hP, va_K.moved hW.alike hK, hD⟩⟩⟩, hS.F ht⟩) hS.2.2 dX9_fails_32
    · refine lv_iconst (v := 1) hx hb dX9_fails_16 (by decide) ?_
      refine lv_goto (tgt := 21) hx hb dX9_fails_17 (by decide) ?_
      refine va_put (D := (dC, dI)) (ci := 9) (v := .int 1) (ty := .int) (C := RX9) (T := TX9) (N := 67) hx hb hts hiX9 tyX9 tyX9_ok nmX9 hown hK hP hD hS 0 rfl rfl 26 (by decide) v_1 (fun _ h9 => h9) rfl (by decide +kernel) rfl rfl (Nat.le_of_ble_eq_true rfl) dX9_fails_21 (fun H locs hP hD hS => ?_)
      have hP : va_P (dC, dI) vwCl (mo_w ad ck x0 (nI x16) (nI x18) (nI x19) x20 (nI x21) x22 x23 x24 x25 1 x27 (nI x28) x29 x30 (nI x33) x45 (nI x46) (nI x52) (nI x53) (nI x61) (nI x62) x63 (nI x65) x66 f1 f2 f3 (bN 3 q4) (bN 7 q5) (bN 7 q6) (bN 4 q7) f8 (bN 2 q9) f10 f11 (bN 3 q12) (bN 8 q13) (bN 14 q14) (bM 7 q15) f17 f31 f32 f34 f35 f36 f37 (bN 7 q38) f39 f40 f41 (b2 m42_0 m42_1) f43 f44 f47 f48 f49 f50 f51 (bN 13 q54) f55 f56 f57 (bN 119 q58) f59 f60 f64) H := hP
      have hD : va_D A (mo_w ad ck x0 (nI x16) (nI x18) (nI x19) x20 (nI x21) x22 x23 x24 x25 1 x27 (nI x28) x29 x30 (nI x33) x45 (nI x46) (nI x52) (nI x53) (nI x61) (nI x62) x63 (nI x65) x66 f1 f2 f3 (bN 3 q4) (bN 7 q5) (bN 7 q6) (bN 4 q7) f8 (bN 2 q9) f10 f11 (bN 3 q12) (bN 8 q13) (bN 14 q14) (bM 7 q15) f17 f31 f32 f34 f35 f36 f37 (bN 7 q38) f39 f40 f41 (b2 m42_0 m42_1) f43 f44 f47 f48 f49 f50 f51 (bN 13 q54) f55 f56 f57 (bN 119 q58) f59 f60 f64) := hD
      refine lv_aload_n hx hb dX9_fails_24 rfl (lv_at hl 0 rfl) ?_
      refine lv_aload_n hx hb dX9_fails_25 rfl (lv_at hl 0 rfl) ?_
      refine va_get (D := (dC, dI)) (ci := 9) (v := .int x20) (C := RX9) (T := TX9) (N := 67) hx hb hts hiX9 hown hK hP 0 rfl rfl 20 (by decide) v_3 (fun _ h9 => h9) rfl dX9_fails_26 ?_
      refine va_put (D := (dC, dI)) (ci := 9) (v := .int x20) (ty := .int) (C := RX9) (T := TX9) (N := 67) hx hb hts hiX9 tyX9 tyX9_ok nmX9 hown hK hP hD hS 0 rfl rfl 27 (by decide) v_4 (fun _ h9 => h9) rfl (by decide +kernel) rfl rfl (Nat.le_of_ble_eq_true rfl) dX9_fails_29 (fun H locs hP hD hS => ?_)
      have hP : va_P (dC, dI) vwCl (mo_w ad ck x0 (nI x16) (nI x18) (nI x19) x20 (nI x21) x22 x23 x24 x25 1 x20 (nI x28) x29 x30 (nI x33) x45 (nI x46) (nI x52) (nI x53) (nI x61) (nI x62) x63 (nI x65) x66 f1 f2 f3 (bN 3 q4) (bN 7 q5) (bN 7 q6) (bN 4 q7) f8 (bN 2 q9) f10 f11 (bN 3 q12) (bN 8 q13) (bN 14 q14) (bM 7 q15) f17 f31 f32 f34 f35 f36 f37 (bN 7 q38) f39 f40 f41 (b2 m42_0 m42_1) f43 f44 f47 f48 f49 f50 f51 (bN 13 q54) f55 f56 f57 (bN 119 q58) f59 f60 f64) H := hP
      have hD : va_D A (mo_w ad ck x0 (nI x16) (nI x18) (nI x19) x20 (nI x21) x22 x23 x24 x25 1 x20 (nI x28) x29 x30 (nI x33) x45 (nI x46) (nI x52) (nI x53) (nI x61) (nI x62) x63 (nI x65) x66 f1 f2 f3 (bN 3 q4) (bN 7 q5) (bN 7 q6) (bN 4 q7) f8 (bN 2 q9) f10 f11 (bN 3 q12) (bN 8 q13) (bN 14 q14) (bM 7 q15) f17 f31 f32 f34 f35 f36 f37 (bN 7 q38) f39 f40 f41 (b2 m42_0 m42_1) f43 f44 f47 f48 f49 f50 f51 (bN 13 q54) f55 f56 f57 (bN 119 q58) f59 f60 f64) := hD
      exact W.vret hx hb hr (fun t ht hW => ⟨⟨(), rfl, trivial, ⟨1, x20, ⟨by rw [ht]; exact hP, va_K.moved hW.alike hK, hD⟩⟩⟩, hS.F ht⟩) hS.2.2 dX9_fails_32
theorem dX9_isKept_0 : decode cX9_isKept 0 = .ok (.aload_n 0, 1) := by decide +kernel
theorem dX9_isKept_1 : decode cX9_isKept 1 = .ok (.ldc 192, 2) := by decide +kernel
theorem dX9_isKept_3 : decode cX9_isKept 3 = .ok (.invokevirtual 193, 3) := by decide +kernel
theorem dX9_isKept_6 : decode cX9_isKept 6 = .ok (.ifCond .ne 66, 3) := by decide +kernel
theorem dX9_isKept_9 : decode cX9_isKept 9 = .ok (.aload_n 0, 1) := by decide +kernel
theorem dX9_isKept_10 : decode cX9_isKept 10 = .ok (.ldc 196, 2) := by decide +kernel
theorem dX9_isKept_12 : decode cX9_isKept 12 = .ok (.invokevirtual 193, 3) := by decide +kernel
theorem dX9_isKept_15 : decode cX9_isKept 15 = .ok (.ifCond .ne 57, 3) := by decide +kernel
theorem dX9_isKept_18 : decode cX9_isKept 18 = .ok (.aload_n 0, 1) := by decide +kernel
theorem dX9_isKept_19 : decode cX9_isKept 19 = .ok (.ldc 197, 2) := by decide +kernel
theorem dX9_isKept_21 : decode cX9_isKept 21 = .ok (.invokevirtual 193, 3) := by decide +kernel
theorem dX9_isKept_24 : decode cX9_isKept 24 = .ok (.ifCond .ne 48, 3) := by decide +kernel
theorem dX9_isKept_27 : decode cX9_isKept 27 = .ok (.aload_n 0, 1) := by decide +kernel
theorem dX9_isKept_28 : decode cX9_isKept 28 = .ok (.ldc 198, 2) := by decide +kernel
theorem dX9_isKept_30 : decode cX9_isKept 30 = .ok (.invokevirtual 193, 3) := by decide +kernel
theorem dX9_isKept_33 : decode cX9_isKept 33 = .ok (.ifCond .ne 39, 3) := by decide +kernel
theorem dX9_isKept_36 : decode cX9_isKept 36 = .ok (.aload_n 0, 1) := by decide +kernel
theorem dX9_isKept_37 : decode cX9_isKept 37 = .ok (.ldc 199, 2) := by decide +kernel
theorem dX9_isKept_39 : decode cX9_isKept 39 = .ok (.invokevirtual 193, 3) := by decide +kernel
theorem dX9_isKept_42 : decode cX9_isKept 42 = .ok (.ifCond .ne 30, 3) := by decide +kernel
theorem dX9_isKept_45 : decode cX9_isKept 45 = .ok (.aload_n 0, 1) := by decide +kernel
theorem dX9_isKept_46 : decode cX9_isKept 46 = .ok (.ldc 200, 2) := by decide +kernel
theorem dX9_isKept_48 : decode cX9_isKept 48 = .ok (.invokevirtual 193, 3) := by decide +kernel
theorem dX9_isKept_51 : decode cX9_isKept 51 = .ok (.ifCond .ne 21, 3) := by decide +kernel
theorem dX9_isKept_54 : decode cX9_isKept 54 = .ok (.aload_n 0, 1) := by decide +kernel
theorem dX9_isKept_55 : decode cX9_isKept 55 = .ok (.ldc 201, 2) := by decide +kernel
theorem dX9_isKept_57 : decode cX9_isKept 57 = .ok (.invokevirtual 193, 3) := by decide +kernel
theorem dX9_isKept_60 : decode cX9_isKept 60 = .ok (.ifCond .ne 12, 3) := by decide +kernel
theorem dX9_isKept_63 : decode cX9_isKept 63 = .ok (.aload_n 0, 1) := by decide +kernel
theorem dX9_isKept_64 : decode cX9_isKept 64 = .ok (.ldc 202, 2) := by decide +kernel
theorem dX9_isKept_66 : decode cX9_isKept 66 = .ok (.invokevirtual 193, 3) := by decide +kernel
theorem dX9_isKept_69 : decode cX9_isKept 69 = .ok (.ifCond .eq 7, 3) := by decide +kernel
theorem dX9_isKept_72 : decode cX9_isKept 72 = .ok (.iconst 1, 1) := by decide +kernel
theorem dX9_isKept_73 : decode cX9_isKept 73 = .ok (.goto 4, 3) := by decide +kernel
theorem dX9_isKept_76 : decode cX9_isKept 76 = .ok (.iconst 0, 1) := by decide +kernel
theorem dX9_isKept_77 : decode cX9_isKept 77 = .ok (.ireturn, 1) := by decide +kernel
def vs_M_isKept : List Cond := .code yX9_isKept cX9_isKept 1 (some .boolean) :: ([.constant RX9 192 (3554411), .methodLink RX9 193 yX9_isWord, .instanceMethod yX9_isWord, .selects RX9 yX9_isWord yX9_isWord, .initialized RX9, .code yX9_isWord cX9_isWord 2 (some .boolean), .fieldLink RX9 172 "ClockReachModel" "token" "I", .fieldLink RX9 169 "ClockReachModel" "value" "I", .constant RX9 196 (17171557), .constant RX9 197 (723752404), .constant RX9 198 (22499628), .constant RX9 199 (20579924), .constant RX9 200 (168165), .constant RX9 201 (762030), .constant RX9 202 (19057844)] ++ wsX90)
theorem g_M_isKept_M_isWord : GoodIn vs_M_isKept (wsV RX9 193 RX9 yX9_isWord vs_M_isWord) := goodIn_r _ [2, 3, 4, 5, 6, 7, 8, 16, 17, 18, 19, 20, 21, 22, 23, 24, 25, 26, 27, 28, 29, 30, 31, 32, 33, 34, 35, 36, 37, 38, 39, 40, 41, 42, 43, 44, 45, 46, 47, 48, 49, 50, 51, 52, 53, 54, 55, 56, 57, 58, 59, 60, 61, 62, 63, 64, 65, 66, 67, 68, 69, 70, 71, 72, 73, 74, 75, 76, 77, 78, 79, 80, 81, 82] (by decide +kernel) (by decide +kernel)
set_option maxHeartbeats 4000000 in
set_option maxRecDepth 100000 in
theorem c_M_isKept (l : Launch) (dC : Nat → ClassId) (dI : Nat → Nat → Nat) (sz : Nat) (ad : Nat → Nat) (ck : Nat → ClassId) (x0 : Int32) (x16 : Nat) (x18 : Nat) (x19 : Nat) (x20 : Int32) (x21 : Nat) (x22 : Int32) (x23 : Int32) (x24 : Int32) (x25 : Int32) (x26 : Int32) (x27 : Int32) (x28 : Nat) (x29 : Int32) (x30 : Int32) (x33 : Nat) (x45 : Int32) (x46 : Nat) (x52 : Nat) (x53 : Nat) (x61 : Nat) (x62 : Nat) (x63 : Int32) (x65 : Nat) (x66 : Int32) (f1 : Nat → Int32) (f2 : Nat → Int32) (f3 : Nat → Int32) (q4 : Nat → Nat) (q5 : Nat → Nat) (q6 : Nat → Nat) (q7 : Nat → Nat) (f8 : Nat → Int32) (q9 : Nat → Nat) (f10 : Nat → Int32) (f11 : Nat → Int32) (q12 : Nat → Nat) (q13 : Nat → Nat) (q14 : Nat → Nat) (q15 : Nat → Nat) (f17 : Nat → Int32) (f31 : Nat → Int32) (f32 : Nat → Int32) (f34 : Nat → Int32) (f35 : Nat → Int32) (f36 : Nat → Int32) (f37 : Nat → Int32) (q38 : Nat → Nat) (f39 : Nat → Int32) (f40 : Nat → Int32) (f41 : Nat → Int32) (m42_0 m42_1 : Nat) (f43 : Nat → Int32) (f44 : Nat → Int32) (f47 : Nat → Int32) (f48 : Nat → Int32) (f49 : Nat → Int32) (f50 : Nat → Int32) (f51 : Nat → Int32) (q54 : Nat → Nat) (f55 : Nat → Int32) (f56 : Nat → Int32) (f57 : Nat → Int32) (q58 : Nat → Nat) (f59 : Nat → Int32) (f60 : Nat → Int32) (f64 : Nat → Int32) (hx16 : x16 ≤ 1) (hx18 : x18 ≤ 900) (hx19 : x19 ≤ 900) (hx21 : x21 ≤ 900) (hx28 : x28 ≤ 1) (hx33 : x33 ≤ 20) (hx46 : x46 ≤ 5) (hx52 : x52 ≤ 2400) (hx53 : x53 ≤ 120) (hx61 : x61 ≤ 119) (hx62 : x62 ≤ 2000) (hx65 : x65 ≤ 7) (hm42_0 : m42_0 ≤ 120) (hm42_1 : m42_1 ≤ 400) : Met l yX9_isKept vs_M_isKept ({ frames := 1, cells := 0, slots := 0, locals := 21 }) (va_Pc [.ref (ad 0)] (pu_B (dC, dI) (mo_w ad ck x0 (nI x16) (nI x18) (nI x19) x20 (nI x21) x22 x23 x24 x25 x26 x27 (nI x28) x29 x30 (nI x33) x45 (nI x46) (nI x52) (nI x53) (nI x61) (nI x62) x63 (nI x65) x66 f1 f2 f3 (bN 3 q4) (bN 7 q5) (bN 7 q6) (bN 4 q7) f8 (bN 2 q9) f10 f11 (bN 3 q12) (bN 8 q13) (bN 14 q14) (bM 7 q15) f17 f31 f32 f34 f35 f36 f37 (bN 7 q38) f39 f40 f41 (b2 m42_0 m42_1) f43 f44 f47 f48 f49 f50 f51 (bN 13 q54) f55 f56 f57 (bN 119 q58) f59 f60 f64) (mo_t ck) sz)) (va_Qi (fun (r : Int32) (_ : Unit) => r = 0 ∨ r = 1) (fun _ _ => True) (va_A [] sz)) 0 0 (va_A [] sz) := by
  refine Met.ofW (cc := cX9_isKept) (maxL := 1) (ret := (some .boolean)) (by decide) rfl ?_
  intro p e s m args below meth c s₁ B hml hv
  obtain ⟨rfl, rfl, hP, hK, hD0⟩ := hv
  have hx := B.exec
  have hb := B.bytes
  have hr := B.returns
  have hts := atoms_spec (ws := vs_M_isKept) B.pre
  have v_1 := hts (.constant RX9 192 (3554411)) (List.mem_of_getElem? (i := 1) rfl)
  have v_9 := hts (.constant RX9 196 (17171557)) (List.mem_of_getElem? (i := 9) rfl)
  have v_10 := hts (.constant RX9 197 (723752404)) (List.mem_of_getElem? (i := 10) rfl)
  have v_11 := hts (.constant RX9 198 (22499628)) (List.mem_of_getElem? (i := 11) rfl)
  have v_12 := hts (.constant RX9 199 (20579924)) (List.mem_of_getElem? (i := 12) rfl)
  have v_13 := hts (.constant RX9 200 (168165)) (List.mem_of_getElem? (i := 13) rfl)
  have v_14 := hts (.constant RX9 201 (762030)) (List.mem_of_getElem? (i := 14) rfl)
  have v_15 := hts (.constant RX9 202 (19057844)) (List.mem_of_getElem? (i := 15) rfl)
  have hown : s.vm.findClass RX9 = some m.cls := findClass_of_methodNamed B.named
  have hlocks := B.notSynchronized
  have hD := hD0
  have hA : ∀ q : Nat, s.heap.size ≤ q → va_A [] s.heap.size q := fun _ h => Or.inr h
  have hS : va_S (va_A [] s.heap.size) s.heap s.heap [] := va_S.rf
  have hl := lv_entry ([.ref (ad 0)]) (n := 1) (Nat.le_of_ble_eq_true rfl)
  rw [lg_entry_eq]
  generalize (lg_sl ([.ref (ad 0)]) ++ List.replicate (1 - (lg_sl ([.ref (ad 0)])).length) Slot.unset).toArray = ls at hl ⊢
  have hl : lv_has ls 1 [(0, .ref (ad 0))] := hl
  refine lv_aload_n hx hb dX9_isKept_0 rfl (lv_at hl 0 rfl) ?_
  refine lv_ldc hx hb hown v_1 dX9_isKept_1 ?_
  refine va_calli (va_runV (As := [.int 3554411]) (rest := []) ⟨hx, hb, hml, hown, hts⟩ (c_M_isWord l dC dI _ ad ck x0 x16 x18 x19 x20 x21 x22 x23 x24 x25 x26 x27 x28 x29 x30 x33 x45 x46 x52 x53 x61 x62 x63 x65 x66 f1 f2 f3 q4 q5 q6 q7 f8 q9 f10 f11 q12 q13 q14 q15 f17 f31 f32 f34 f35 f36 f37 q38 f39 f40 f41 m42_0 m42_1 f43 f44 f47 f48 f49 f50 f51 q54 f55 f56 f57 q58 f59 f60 f64 3554411 (by omega) (by omega) (by omega) (by omega) (by omega) (by omega) (by omega) (by omega) (by omega) (by omega) (by omega) (by omega) (by omega) (by omega)) (cwV 1 hts g_M_isKept_M_isWord rfl rfl rfl (by decide +kernel) ⟨Nat.le_of_ble_eq_true rfl, Nat.le_of_ble_eq_true rfl⟩) ⟨pu_bl, va_recv hK hP (ci := 9) (q0 := 0) rfl rfl, pu_in hP hK hD⟩ rfl rfl hl.1 rfl (lv_room (Nat.le_of_ble_eq_true rfl)) dX9_isKept_3 ⟨Nat.le_of_ble_eq_true rfl, Nat.le_of_ble_eq_true rfl⟩) hS (fun q _ h => pu_fr hS hA q h) (pu_fr hS hA) (fun r_1 u t H1 locs ht hvm hw hB hz1 hk1 hS => ?_)
  have hP := pu_keep hP hk1
  clear hk1 hz1 ht hvm
  generalize H1 = H at hP hS ⊢
  have hbr_1 := hw
  refine lv_if_ne (tgt := 72) hx hb dX9_isKept_6 (by decide) (fun c_2 => ?_) (fun c_2 => ?_)
  · refine lv_iconst (v := 1) hx hb dX9_isKept_72 (by decide) ?_
    refine lv_goto (tgt := 77) hx hb dX9_isKept_73 (by decide) ?_
    exact W.zret (v := 1) (ty := .boolean) hx hb hr (rfl) (fun t ht hW => ⟨⟨1, (), rfl, Or.inr rfl, trivial⟩, hS.F ht⟩) hS.2.2 dX9_isKept_77
  · refine lv_aload_n hx hb dX9_isKept_9 rfl (lv_at hl 0 rfl) ?_
    refine lv_ldc hx hb hown v_9 dX9_isKept_10 ?_
    refine va_calli (va_runV (As := [.int 17171557]) (rest := []) ⟨hx, hb, hml, hown, hts⟩ (c_M_isWord l dC dI _ ad ck x0 x16 x18 x19 x20 x21 x22 x23 x24 x25 x26 x27 x28 x29 x30 x33 x45 x46 x52 x53 x61 x62 x63 x65 x66 f1 f2 f3 q4 q5 q6 q7 f8 q9 f10 f11 q12 q13 q14 q15 f17 f31 f32 f34 f35 f36 f37 q38 f39 f40 f41 m42_0 m42_1 f43 f44 f47 f48 f49 f50 f51 q54 f55 f56 f57 q58 f59 f60 f64 17171557 (by omega) (by omega) (by omega) (by omega) (by omega) (by omega) (by omega) (by omega) (by omega) (by omega) (by omega) (by omega) (by omega) (by omega)) (cwV 1 hts g_M_isKept_M_isWord rfl rfl rfl (by decide +kernel) ⟨Nat.le_of_ble_eq_true rfl, Nat.le_of_ble_eq_true rfl⟩) ⟨pu_bl, va_recv hK hP (ci := 9) (q0 := 0) rfl rfl, pu_in hP hK hD⟩ rfl rfl hl.1 rfl (lv_room (Nat.le_of_ble_eq_true rfl)) dX9_isKept_12 ⟨Nat.le_of_ble_eq_true rfl, Nat.le_of_ble_eq_true rfl⟩) hS (fun q _ h => pu_fr hS hA q h) (pu_fr hS hA) (fun r_3 u t H1 locs ht hvm hw hB hz1 hk1 hS => ?_)
    have hP := pu_keep hP hk1
    clear hk1 hz1 ht hvm
    generalize H1 = H at hP hS ⊢
    have hbr_3 := hw
    refine lv_if_ne (tgt := 72) hx hb dX9_isKept_15 (by decide) (fun c_4 => ?_) (fun c_4 => ?_)
    · refine lv_iconst (v := 1) hx hb dX9_isKept_72 (by decide) ?_
      refine lv_goto (tgt := 77) hx hb dX9_isKept_73 (by decide) ?_
      exact W.zret (v := 1) (ty := .boolean) hx hb hr (rfl) (fun t ht hW => ⟨⟨1, (), rfl, Or.inr rfl, trivial⟩, hS.F ht⟩) hS.2.2 dX9_isKept_77
    · refine lv_aload_n hx hb dX9_isKept_18 rfl (lv_at hl 0 rfl) ?_
      refine lv_ldc hx hb hown v_10 dX9_isKept_19 ?_
      refine va_calli (va_runV (As := [.int 723752404]) (rest := []) ⟨hx, hb, hml, hown, hts⟩ (c_M_isWord l dC dI _ ad ck x0 x16 x18 x19 x20 x21 x22 x23 x24 x25 x26 x27 x28 x29 x30 x33 x45 x46 x52 x53 x61 x62 x63 x65 x66 f1 f2 f3 q4 q5 q6 q7 f8 q9 f10 f11 q12 q13 q14 q15 f17 f31 f32 f34 f35 f36 f37 q38 f39 f40 f41 m42_0 m42_1 f43 f44 f47 f48 f49 f50 f51 q54 f55 f56 f57 q58 f59 f60 f64 723752404 (by omega) (by omega) (by omega) (by omega) (by omega) (by omega) (by omega) (by omega) (by omega) (by omega) (by omega) (by omega) (by omega) (by omega)) (cwV 1 hts g_M_isKept_M_isWord rfl rfl rfl (by decide +kernel) ⟨Nat.le_of_ble_eq_true rfl, Nat.le_of_ble_eq_true rfl⟩) ⟨pu_bl, va_recv hK hP (ci := 9) (q0 := 0) rfl rfl, pu_in hP hK hD⟩ rfl rfl hl.1 rfl (lv_room (Nat.le_of_ble_eq_true rfl)) dX9_isKept_21 ⟨Nat.le_of_ble_eq_true rfl, Nat.le_of_ble_eq_true rfl⟩) hS (fun q _ h => pu_fr hS hA q h) (pu_fr hS hA) (fun r_5 u t H1 locs ht hvm hw hB hz1 hk1 hS => ?_)
      have hP := pu_keep hP hk1
      clear hk1 hz1 ht hvm
      generalize H1 = H at hP hS ⊢
      have hbr_5 := hw
      refine lv_if_ne (tgt := 72) hx hb dX9_isKept_24 (by decide) (fun c_6 => ?_) (fun c_6 => ?_)
      · refine lv_iconst (v := 1) hx hb dX9_isKept_72 (by decide) ?_
        refine lv_goto (tgt := 77) hx hb dX9_isKept_73 (by decide) ?_
        exact W.zret (v := 1) (ty := .boolean) hx hb hr (rfl) (fun t ht hW => ⟨⟨1, (), rfl, Or.inr rfl, trivial⟩, hS.F ht⟩) hS.2.2 dX9_isKept_77
      · refine lv_aload_n hx hb dX9_isKept_27 rfl (lv_at hl 0 rfl) ?_
        refine lv_ldc hx hb hown v_11 dX9_isKept_28 ?_
        refine va_calli (va_runV (As := [.int 22499628]) (rest := []) ⟨hx, hb, hml, hown, hts⟩ (c_M_isWord l dC dI _ ad ck x0 x16 x18 x19 x20 x21 x22 x23 x24 x25 x26 x27 x28 x29 x30 x33 x45 x46 x52 x53 x61 x62 x63 x65 x66 f1 f2 f3 q4 q5 q6 q7 f8 q9 f10 f11 q12 q13 q14 q15 f17 f31 f32 f34 f35 f36 f37 q38 f39 f40 f41 m42_0 m42_1 f43 f44 f47 f48 f49 f50 f51 q54 f55 f56 f57 q58 f59 f60 f64 22499628 (by omega) (by omega) (by omega) (by omega) (by omega) (by omega) (by omega) (by omega) (by omega) (by omega) (by omega) (by omega) (by omega) (by omega)) (cwV 1 hts g_M_isKept_M_isWord rfl rfl rfl (by decide +kernel) ⟨Nat.le_of_ble_eq_true rfl, Nat.le_of_ble_eq_true rfl⟩) ⟨pu_bl, va_recv hK hP (ci := 9) (q0 := 0) rfl rfl, pu_in hP hK hD⟩ rfl rfl hl.1 rfl (lv_room (Nat.le_of_ble_eq_true rfl)) dX9_isKept_30 ⟨Nat.le_of_ble_eq_true rfl, Nat.le_of_ble_eq_true rfl⟩) hS (fun q _ h => pu_fr hS hA q h) (pu_fr hS hA) (fun r_7 u t H1 locs ht hvm hw hB hz1 hk1 hS => ?_)
        have hP := pu_keep hP hk1
        clear hk1 hz1 ht hvm
        generalize H1 = H at hP hS ⊢
        have hbr_7 := hw
        refine lv_if_ne (tgt := 72) hx hb dX9_isKept_33 (by decide) (fun c_8 => ?_) (fun c_8 => ?_)
        · refine lv_iconst (v := 1) hx hb dX9_isKept_72 (by decide) ?_
          refine lv_goto (tgt := 77) hx hb dX9_isKept_73 (by decide) ?_
          exact W.zret (v := 1) (ty := .boolean) hx hb hr (rfl) (fun t ht hW => ⟨⟨1, (), rfl, Or.inr rfl, trivial⟩, hS.F ht⟩) hS.2.2 dX9_isKept_77
        · refine lv_aload_n hx hb dX9_isKept_36 rfl (lv_at hl 0 rfl) ?_
          refine lv_ldc hx hb hown v_12 dX9_isKept_37 ?_
          refine va_calli (va_runV (As := [.int 20579924]) (rest := []) ⟨hx, hb, hml, hown, hts⟩ (c_M_isWord l dC dI _ ad ck x0 x16 x18 x19 x20 x21 x22 x23 x24 x25 x26 x27 x28 x29 x30 x33 x45 x46 x52 x53 x61 x62 x63 x65 x66 f1 f2 f3 q4 q5 q6 q7 f8 q9 f10 f11 q12 q13 q14 q15 f17 f31 f32 f34 f35 f36 f37 q38 f39 f40 f41 m42_0 m42_1 f43 f44 f47 f48 f49 f50 f51 q54 f55 f56 f57 q58 f59 f60 f64 20579924 (by omega) (by omega) (by omega) (by omega) (by omega) (by omega) (by omega) (by omega) (by omega) (by omega) (by omega) (by omega) (by omega) (by omega)) (cwV 1 hts g_M_isKept_M_isWord rfl rfl rfl (by decide +kernel) ⟨Nat.le_of_ble_eq_true rfl, Nat.le_of_ble_eq_true rfl⟩) ⟨pu_bl, va_recv hK hP (ci := 9) (q0 := 0) rfl rfl, pu_in hP hK hD⟩ rfl rfl hl.1 rfl (lv_room (Nat.le_of_ble_eq_true rfl)) dX9_isKept_39 ⟨Nat.le_of_ble_eq_true rfl, Nat.le_of_ble_eq_true rfl⟩) hS (fun q _ h => pu_fr hS hA q h) (pu_fr hS hA) (fun r_9 u t H1 locs ht hvm hw hB hz1 hk1 hS => ?_)
          have hP := pu_keep hP hk1
          clear hk1 hz1 ht hvm
          generalize H1 = H at hP hS ⊢
          have hbr_9 := hw
          refine lv_if_ne (tgt := 72) hx hb dX9_isKept_42 (by decide) (fun c_10 => ?_) (fun c_10 => ?_)
          · refine lv_iconst (v := 1) hx hb dX9_isKept_72 (by decide) ?_
            refine lv_goto (tgt := 77) hx hb dX9_isKept_73 (by decide) ?_
            exact W.zret (v := 1) (ty := .boolean) hx hb hr (rfl) (fun t ht hW => ⟨⟨1, (), rfl, Or.inr rfl, trivial⟩, hS.F ht⟩) hS.2.2 dX9_isKept_77
          · refine lv_aload_n hx hb dX9_isKept_45 rfl (lv_at hl 0 rfl) ?_
            refine lv_ldc hx hb hown v_13 dX9_isKept_46 ?_
            refine va_calli (va_runV (As := [.int 168165]) (rest := []) ⟨hx, hb, hml, hown, hts⟩ (c_M_isWord l dC dI _ ad ck x0 x16 x18 x19 x20 x21 x22 x23 x24 x25 x26 x27 x28 x29 x30 x33 x45 x46 x52 x53 x61 x62 x63 x65 x66 f1 f2 f3 q4 q5 q6 q7 f8 q9 f10 f11 q12 q13 q14 q15 f17 f31 f32 f34 f35 f36 f37 q38 f39 f40 f41 m42_0 m42_1 f43 f44 f47 f48 f49 f50 f51 q54 f55 f56 f57 q58 f59 f60 f64 168165 (by omega) (by omega) (by omega) (by omega) (by omega) (by omega) (by omega) (by omega) (by omega) (by omega) (by omega) (by omega) (by omega) (by omega)) (cwV 1 hts g_M_isKept_M_isWord rfl rfl rfl (by decide +kernel) ⟨Nat.le_of_ble_eq_true rfl, Nat.le_of_ble_eq_true rfl⟩) ⟨pu_bl, va_recv hK hP (ci := 9) (q0 := 0) rfl rfl, pu_in hP hK hD⟩ rfl rfl hl.1 rfl (lv_room (Nat.le_of_ble_eq_true rfl)) dX9_isKept_48 ⟨Nat.le_of_ble_eq_true rfl, Nat.le_of_ble_eq_true rfl⟩) hS (fun q _ h => pu_fr hS hA q h) (pu_fr hS hA) (fun r_11 u t H1 locs ht hvm hw hB hz1 hk1 hS => ?_)
            have hP := pu_keep hP hk1
            clear hk1 hz1 ht hvm
            generalize H1 = H at hP hS ⊢
            have hbr_11 := hw
            refine lv_if_ne (tgt := 72) hx hb dX9_isKept_51 (by decide) (fun c_12 => ?_) (fun c_12 => ?_)
            · refine lv_iconst (v := 1) hx hb dX9_isKept_72 (by decide) ?_
              refine lv_goto (tgt := 77) hx hb dX9_isKept_73 (by decide) ?_
              exact W.zret (v := 1) (ty := .boolean) hx hb hr (rfl) (fun t ht hW => ⟨⟨1, (), rfl, Or.inr rfl, trivial⟩, hS.F ht⟩) hS.2.2 dX9_isKept_77
            · refine lv_aload_n hx hb dX9_isKept_54 rfl (lv_at hl 0 rfl) ?_
              refine lv_ldc hx hb hown v_14 dX9_isKept_55 ?_
              refine va_calli (va_runV (As := [.int 762030]) (rest := []) ⟨hx, hb, hml, hown, hts⟩ (c_M_isWord l dC dI _ ad ck x0 x16 x18 x19 x20 x21 x22 x23 x24 x25 x26 x27 x28 x29 x30 x33 x45 x46 x52 x53 x61 x62 x63 x65 x66 f1 f2 f3 q4 q5 q6 q7 f8 q9 f10 f11 q12 q13 q14 q15 f17 f31 f32 f34 f35 f36 f37 q38 f39 f40 f41 m42_0 m42_1 f43 f44 f47 f48 f49 f50 f51 q54 f55 f56 f57 q58 f59 f60 f64 762030 (by omega) (by omega) (by omega) (by omega) (by omega) (by omega) (by omega) (by omega) (by omega) (by omega) (by omega) (by omega) (by omega) (by omega)) (cwV 1 hts g_M_isKept_M_isWord rfl rfl rfl (by decide +kernel) ⟨Nat.le_of_ble_eq_true rfl, Nat.le_of_ble_eq_true rfl⟩) ⟨pu_bl, va_recv hK hP (ci := 9) (q0 := 0) rfl rfl, pu_in hP hK hD⟩ rfl rfl hl.1 rfl (lv_room (Nat.le_of_ble_eq_true rfl)) dX9_isKept_57 ⟨Nat.le_of_ble_eq_true rfl, Nat.le_of_ble_eq_true rfl⟩) hS (fun q _ h => pu_fr hS hA q h) (pu_fr hS hA) (fun r_13 u t H1 locs ht hvm hw hB hz1 hk1 hS => ?_)
              have hP := pu_keep hP hk1
              clear hk1 hz1 ht hvm
              generalize H1 = H at hP hS ⊢
              have hbr_13 := hw
              refine lv_if_ne (tgt := 72) hx hb dX9_isKept_60 (by decide) (fun c_14 => ?_) (fun c_14 => ?_)
              · refine lv_iconst (v := 1) hx hb dX9_isKept_72 (by decide) ?_
                refine lv_goto (tgt := 77) hx hb dX9_isKept_73 (by decide) ?_
                exact W.zret (v := 1) (ty := .boolean) hx hb hr (rfl) (fun t ht hW => ⟨⟨1, (), rfl, Or.inr rfl, trivial⟩, hS.F ht⟩) hS.2.2 dX9_isKept_77
              · refine lv_aload_n hx hb dX9_isKept_63 rfl (lv_at hl 0 rfl) ?_
                refine lv_ldc hx hb hown v_15 dX9_isKept_64 ?_
                refine va_calli (va_runV (As := [.int 19057844]) (rest := []) ⟨hx, hb, hml, hown, hts⟩ (c_M_isWord l dC dI _ ad ck x0 x16 x18 x19 x20 x21 x22 x23 x24 x25 x26 x27 x28 x29 x30 x33 x45 x46 x52 x53 x61 x62 x63 x65 x66 f1 f2 f3 q4 q5 q6 q7 f8 q9 f10 f11 q12 q13 q14 q15 f17 f31 f32 f34 f35 f36 f37 q38 f39 f40 f41 m42_0 m42_1 f43 f44 f47 f48 f49 f50 f51 q54 f55 f56 f57 q58 f59 f60 f64 19057844 (by omega) (by omega) (by omega) (by omega) (by omega) (by omega) (by omega) (by omega) (by omega) (by omega) (by omega) (by omega) (by omega) (by omega)) (cwV 1 hts g_M_isKept_M_isWord rfl rfl rfl (by decide +kernel) ⟨Nat.le_of_ble_eq_true rfl, Nat.le_of_ble_eq_true rfl⟩) ⟨pu_bl, va_recv hK hP (ci := 9) (q0 := 0) rfl rfl, pu_in hP hK hD⟩ rfl rfl hl.1 rfl (lv_room (Nat.le_of_ble_eq_true rfl)) dX9_isKept_66 ⟨Nat.le_of_ble_eq_true rfl, Nat.le_of_ble_eq_true rfl⟩) hS (fun q _ h => pu_fr hS hA q h) (pu_fr hS hA) (fun r_15 u t H1 locs ht hvm hw hB hz1 hk1 hS => ?_)
                have hP := pu_keep hP hk1
                clear hk1 hz1 ht hvm
                generalize H1 = H at hP hS ⊢
                have hbr_15 := hw
                refine lv_if_eq (tgt := 76) hx hb dX9_isKept_69 (by decide) (fun c_16 => ?_) (fun c_16 => ?_)
                · refine lv_iconst (v := 0) hx hb dX9_isKept_76 (by decide) ?_
                  exact W.zret (v := 0) (ty := .boolean) hx hb hr (rfl) (fun t ht hW => ⟨⟨0, (), rfl, Or.inl rfl, trivial⟩, hS.F ht⟩) hS.2.2 dX9_isKept_77
                · refine lv_iconst (v := 1) hx hb dX9_isKept_72 (by decide) ?_
                  refine lv_goto (tgt := 77) hx hb dX9_isKept_73 (by decide) ?_
                  exact W.zret (v := 1) (ty := .boolean) hx hb hr (rfl) (fun t ht hW => ⟨⟨1, (), rfl, Or.inr rfl, trivial⟩, hS.F ht⟩) hS.2.2 dX9_isKept_77
theorem dX9_mustBeName_0 : decode cX9_mustBeName 0 = .ok (.aload_n 0, 1) := by decide +kernel
theorem dX9_mustBeName_1 : decode cX9_mustBeName 1 = .ok (.getfield 172, 3) := by decide +kernel
theorem dX9_mustBeName_4 : decode cX9_mustBeName 4 = .ok (.iconst 1, 1) := by decide +kernel
theorem dX9_mustBeName_5 : decode cX9_mustBeName 5 = .ok (.if_icmp .ne 10, 3) := by decide +kernel
theorem dX9_mustBeName_8 : decode cX9_mustBeName 8 = .ok (.aload_n 0, 1) := by decide +kernel
theorem dX9_mustBeName_9 : decode cX9_mustBeName 9 = .ok (.invokevirtual 206, 3) := by decide +kernel
theorem dX9_mustBeName_12 : decode cX9_mustBeName 12 = .ok (.ifCond .eq 8, 3) := by decide +kernel
theorem dX9_mustBeName_15 : decode cX9_mustBeName 15 = .ok (.aload_n 0, 1) := by decide +kernel
theorem dX9_mustBeName_16 : decode cX9_mustBeName 16 = .ok (.iconst 2, 1) := by decide +kernel
theorem dX9_mustBeName_17 : decode cX9_mustBeName 17 = .ok (.invokevirtual 210, 3) := by decide +kernel
theorem dX9_mustBeName_20 : decode cX9_mustBeName 20 = .ok (.return_, 1) := by decide +kernel
def vs_M_mustBeName : List Cond := .code yX9_mustBeName cX9_mustBeName 1 none :: ([.fieldLink RX9 172 "ClockReachModel" "token" "I", .methodLink RX9 210 yX9_fails, .instanceMethod yX9_fails, .selects RX9 yX9_fails yX9_fails, .initialized RX9, .code yX9_fails cX9_fails 2 none, .fieldLink RX9 186 "ClockReachModel" "wrong" "I", .fieldLink RX9 166 "ClockReachModel" "at" "I", .fieldLink RX9 189 "ClockReachModel" "wrongAt" "I", .methodLink RX9 206 yX9_isKept, .instanceMethod yX9_isKept, .selects RX9 yX9_isKept yX9_isKept, .code yX9_isKept cX9_isKept 1 (some .boolean), .constant RX9 192 (3554411), .methodLink RX9 193 yX9_isWord, .instanceMethod yX9_isWord, .selects RX9 yX9_isWord yX9_isWord, .code yX9_isWord cX9_isWord 2 (some .boolean), .fieldLink RX9 169 "ClockReachModel" "value" "I", .constant RX9 196 (17171557), .constant RX9 197 (723752404), .constant RX9 198 (22499628), .constant RX9 199 (20579924), .constant RX9 200 (168165), .constant RX9 201 (762030), .constant RX9 202 (19057844)] ++ wsX90)
theorem g_M_mustBeName_M_fails : GoodIn vs_M_mustBeName (wsV RX9 210 RX9 yX9_fails vs_M_fails) := goodIn_r _ [2, 3, 4, 5, 6, 7, 1, 8, 9, 27, 28, 29, 30, 31, 32, 33, 34, 35, 36, 37, 38, 39, 40, 41, 42, 43, 44, 45, 46, 47, 48, 49, 50, 51, 52, 53, 54, 55, 56, 57, 58, 59, 60, 61, 62, 63, 64, 65, 66, 67, 68, 69, 70, 71, 72, 73, 74, 75, 76, 77, 78, 79, 80, 81, 82, 83, 84, 85, 86, 87, 88, 89, 90, 91, 92, 93] (by decide +kernel) (by decide +kernel)
theorem g_M_mustBeName_M_isKept : GoodIn vs_M_mustBeName (wsV RX9 206 RX9 yX9_isKept vs_M_isKept) := goodIn_r _ [10, 11, 12, 5, 13, 14, 15, 16, 17, 5, 18, 1, 19, 20, 21, 22, 23, 24, 25, 26, 27, 28, 29, 30, 31, 32, 33, 34, 35, 36, 37, 38, 39, 40, 41, 42, 43, 44, 45, 46, 47, 48, 49, 50, 51, 52, 53, 54, 55, 56, 57, 58, 59, 60, 61, 62, 63, 64, 65, 66, 67, 68, 69, 70, 71, 72, 73, 74, 75, 76, 77, 78, 79, 80, 81, 82, 83, 84, 85, 86, 87, 88, 89, 90, 91, 92, 93] (by decide +kernel) (by decide +kernel)
set_option maxHeartbeats 4000000 in
set_option maxRecDepth 100000 in
theorem c_M_mustBeName (l : Launch) (dC : Nat → ClassId) (dI : Nat → Nat → Nat) (sz : Nat) (ad : Nat → Nat) (ck : Nat → ClassId) (x0 : Int32) (x16 : Nat) (x18 : Nat) (x19 : Nat) (x20 : Int32) (x21 : Nat) (x22 : Int32) (x23 : Int32) (x24 : Int32) (x25 : Int32) (x26 : Int32) (x27 : Int32) (x28 : Nat) (x29 : Int32) (x30 : Int32) (x33 : Nat) (x45 : Int32) (x46 : Nat) (x52 : Nat) (x53 : Nat) (x61 : Nat) (x62 : Nat) (x63 : Int32) (x65 : Nat) (x66 : Int32) (f1 : Nat → Int32) (f2 : Nat → Int32) (f3 : Nat → Int32) (q4 : Nat → Nat) (q5 : Nat → Nat) (q6 : Nat → Nat) (q7 : Nat → Nat) (f8 : Nat → Int32) (q9 : Nat → Nat) (f10 : Nat → Int32) (f11 : Nat → Int32) (q12 : Nat → Nat) (q13 : Nat → Nat) (q14 : Nat → Nat) (q15 : Nat → Nat) (f17 : Nat → Int32) (f31 : Nat → Int32) (f32 : Nat → Int32) (f34 : Nat → Int32) (f35 : Nat → Int32) (f36 : Nat → Int32) (f37 : Nat → Int32) (q38 : Nat → Nat) (f39 : Nat → Int32) (f40 : Nat → Int32) (f41 : Nat → Int32) (m42_0 m42_1 : Nat) (f43 : Nat → Int32) (f44 : Nat → Int32) (f47 : Nat → Int32) (f48 : Nat → Int32) (f49 : Nat → Int32) (f50 : Nat → Int32) (f51 : Nat → Int32) (q54 : Nat → Nat) (f55 : Nat → Int32) (f56 : Nat → Int32) (f57 : Nat → Int32) (q58 : Nat → Nat) (f59 : Nat → Int32) (f60 : Nat → Int32) (f64 : Nat → Int32) (hx16 : x16 ≤ 1) (hx18 : x18 ≤ 900) (hx19 : x19 ≤ 900) (hx21 : x21 ≤ 900) (hx28 : x28 ≤ 1) (hx33 : x33 ≤ 20) (hx46 : x46 ≤ 5) (hx52 : x52 ≤ 2400) (hx53 : x53 ≤ 120) (hx61 : x61 ≤ 119) (hx62 : x62 ≤ 2000) (hx65 : x65 ≤ 7) (hm42_0 : m42_0 ≤ 120) (hm42_1 : m42_1 ≤ 400) : Met l yX9_mustBeName vs_M_mustBeName ({ frames := 2, cells := 0, slots := 0, locals := 41 }) (va_Pc [.ref (ad 0)] (pu_B (dC, dI) (mo_w ad ck x0 (nI x16) (nI x18) (nI x19) x20 (nI x21) x22 x23 x24 x25 x26 x27 (nI x28) x29 x30 (nI x33) x45 (nI x46) (nI x52) (nI x53) (nI x61) (nI x62) x63 (nI x65) x66 f1 f2 f3 (bN 3 q4) (bN 7 q5) (bN 7 q6) (bN 4 q7) f8 (bN 2 q9) f10 f11 (bN 3 q12) (bN 8 q13) (bN 14 q14) (bM 7 q15) f17 f31 f32 f34 f35 f36 f37 (bN 7 q38) f39 f40 f41 (b2 m42_0 m42_1) f43 f44 f47 f48 f49 f50 f51 (bN 13 q54) f55 f56 f57 (bN 119 q58) f59 f60 f64) (mo_t ck) sz)) (va_Qv (fun (_ : Unit) => True) (fun _ t => ∃ (z26 : Int32) (z27 : Int32), pu_E (dC, dI) (mo_w ad ck x0 (nI x16) (nI x18) (nI x19) x20 (nI x21) x22 x23 x24 x25 z26 z27 (nI x28) x29 x30 (nI x33) x45 (nI x46) (nI x52) (nI x53) (nI x61) (nI x62) x63 (nI x65) x66 f1 f2 f3 (bN 3 q4) (bN 7 q5) (bN 7 q6) (bN 4 q7) f8 (bN 2 q9) f10 f11 (bN 3 q12) (bN 8 q13) (bN 14 q14) (bM 7 q15) f17 f31 f32 f34 f35 f36 f37 (bN 7 q38) f39 f40 f41 (b2 m42_0 m42_1) f43 f44 f47 f48 f49 f50 f51 (bN 13 q54) f55 f56 f57 (bN 119 q58) f59 f60 f64) (mo_t ck) (va_A ((mo_w ad ck x0 (nI x16) (nI x18) (nI x19) x20 (nI x21) x22 x23 x24 x25 x26 x27 (nI x28) x29 x30 (nI x33) x45 (nI x46) (nI x52) (nI x53) (nI x61) (nI x62) x63 (nI x65) x66 f1 f2 f3 (bN 3 q4) (bN 7 q5) (bN 7 q6) (bN 4 q7) f8 (bN 2 q9) f10 f11 (bN 3 q12) (bN 8 q13) (bN 14 q14) (bM 7 q15) f17 f31 f32 f34 f35 f36 f37 (bN 7 q38) f39 f40 f41 (b2 m42_0 m42_1) f43 f44 f47 f48 f49 f50 f51 (bN 13 q54) f55 f56 f57 (bN 119 q58) f59 f60 f64)) sz) t) (va_A ((mo_w ad ck x0 (nI x16) (nI x18) (nI x19) x20 (nI x21) x22 x23 x24 x25 x26 x27 (nI x28) x29 x30 (nI x33) x45 (nI x46) (nI x52) (nI x53) (nI x61) (nI x62) x63 (nI x65) x66 f1 f2 f3 (bN 3 q4) (bN 7 q5) (bN 7 q6) (bN 4 q7) f8 (bN 2 q9) f10 f11 (bN 3 q12) (bN 8 q13) (bN 14 q14) (bM 7 q15) f17 f31 f32 f34 f35 f36 f37 (bN 7 q38) f39 f40 f41 (b2 m42_0 m42_1) f43 f44 f47 f48 f49 f50 f51 (bN 13 q54) f55 f56 f57 (bN 119 q58) f59 f60 f64)) sz)) 0 0 (va_A ((mo_w ad ck x0 (nI x16) (nI x18) (nI x19) x20 (nI x21) x22 x23 x24 x25 x26 x27 (nI x28) x29 x30 (nI x33) x45 (nI x46) (nI x52) (nI x53) (nI x61) (nI x62) x63 (nI x65) x66 f1 f2 f3 (bN 3 q4) (bN 7 q5) (bN 7 q6) (bN 4 q7) f8 (bN 2 q9) f10 f11 (bN 3 q12) (bN 8 q13) (bN 14 q14) (bM 7 q15) f17 f31 f32 f34 f35 f36 f37 (bN 7 q38) f39 f40 f41 (b2 m42_0 m42_1) f43 f44 f47 f48 f49 f50 f51 (bN 13 q54) f55 f56 f57 (bN 119 q58) f59 f60 f64)) sz) := by
  refine Met.ofW (cc := cX9_mustBeName) (maxL := 1) (ret := none) (by decide) rfl ?_
  intro p e s m args below meth c s₁ B hml hv
  obtain ⟨rfl, rfl, hP, hK, hD0⟩ := hv
  have hx := B.exec
  have hb := B.bytes
  have hr := B.returns
  have hts := atoms_spec (ws := vs_M_mustBeName) B.pre
  have v_1 := hts (.fieldLink RX9 172 "ClockReachModel" "token" "I") (List.mem_of_getElem? (i := 1) rfl)
  have hown : s.vm.findClass RX9 = some m.cls := findClass_of_methodNamed B.named
  have hlocks := B.notSynchronized
  have hiX9 : ∀ w ∈ wsX90, w ∈ vs_M_mustBeName := fun _ h => List.mem_cons_of_mem _ (List.mem_append_right _ h)
  have hD := hD0.self (sz := s.heap.size)
  generalize hAe : va_A ((mo_w ad ck x0 (nI x16) (nI x18) (nI x19) x20 (nI x21) x22 x23 x24 x25 x26 x27 (nI x28) x29 x30 (nI x33) x45 (nI x46) (nI x52) (nI x53) (nI x61) (nI x62) x63 (nI x65) x66 f1 f2 f3 (bN 3 q4) (bN 7 q5) (bN 7 q6) (bN 4 q7) f8 (bN 2 q9) f10 f11 (bN 3 q12) (bN 8 q13) (bN 14 q14) (bM 7 q15) f17 f31 f32 f34 f35 f36 f37 (bN 7 q38) f39 f40 f41 (b2 m42_0 m42_1) f43 f44 f47 f48 f49 f50 f51 (bN 13 q54) f55 f56 f57 (bN 119 q58) f59 f60 f64)) s.heap.size = A at hD ⊢
  have hA : ∀ q : Nat, s.heap.size ≤ q → A q := fun q h => by rw [← hAe]; exact Or.inr h
  have hS : va_S A s.heap s.heap [] := va_S.rf
  have hl := lv_entry ([.ref (ad 0)]) (n := 1) (Nat.le_of_ble_eq_true rfl)
  rw [lg_entry_eq]
  generalize (lg_sl ([.ref (ad 0)]) ++ List.replicate (1 - (lg_sl ([.ref (ad 0)])).length) Slot.unset).toArray = ls at hl ⊢
  have hl : lv_has ls 1 [(0, .ref (ad 0))] := hl
  refine lv_aload_n hx hb dX9_mustBeName_0 rfl (lv_at hl 0 rfl) ?_
  refine va_get (D := (dC, dI)) (ci := 9) (v := .int x22) (C := RX9) (T := TX9) (N := 67) hx hb hts hiX9 hown hK hP 0 rfl rfl 22 (by decide) v_1 (fun _ h9 => h9) rfl dX9_mustBeName_1 ?_
  refine lv_iconst (v := 1) hx hb dX9_mustBeName_4 (by decide) ?_
  refine lv_icmp_ne (tgt := 15) hx hb dX9_mustBeName_5 (by decide) (fun c_1 => ?_) (fun c_1 => ?_)
  · refine lv_aload_n hx hb dX9_mustBeName_15 rfl (lv_at hl 0 rfl) ?_
    refine lv_iconst (v := 2) hx hb dX9_mustBeName_16 (by decide) ?_
    have hFc := pu_free hD hS hA
    refine va_callv (va_runV (As := [.int 2]) (rest := []) ⟨hx, hb, hml, hown, hts⟩ (c_M_fails l dC dI _ ad ck x0 x16 x18 x19 x20 x21 x22 x23 x24 x25 x26 x27 x28 x29 x30 x33 x45 x46 x52 x53 x61 x62 x63 x65 x66 f1 f2 f3 q4 q5 q6 q7 f8 q9 f10 f11 q12 q13 q14 q15 f17 f31 f32 f34 f35 f36 f37 q38 f39 f40 f41 m42_0 m42_1 f43 f44 f47 f48 f49 f50 f51 q54 f55 f56 f57 q58 f59 f60 f64 2 (by omega) (by omega) (by omega) (by omega) (by omega) (by omega) (by omega) (by omega) (by omega) (by omega) (by omega) (by omega) (by omega) (by omega)) (cwV 1 hts g_M_mustBeName_M_fails rfl rfl rfl (by decide +kernel) ⟨Nat.le_of_ble_eq_true rfl, Nat.le_of_ble_eq_true rfl⟩) ⟨pu_bl, va_recv hK hP (ci := 9) (q0 := 0) rfl rfl, pu_in hP hK hD⟩ rfl rfl hl.1 rfl (lv_room (Nat.le_of_ble_eq_true rfl)) dX9_mustBeName_17 ⟨Nat.le_of_ble_eq_true rfl, Nat.le_of_ble_eq_true rfl⟩) hS (fun q _ h => hFc q h) hFc (fun u t H1 locs ht hvm hw hB hz1 hk1 hS => ?_)
    obtain ⟨z26_3, z27_4, ⟨hP1, -, hD1⟩⟩ := hB
    rw [ht] at hP1
    have hP := hP1
    have hD := pu_all hFc hD1
    clear hP1 hD1 hFc
    clear hk1 hz1 ht hvm
    generalize H1 = H at hP hS ⊢
    exact W.vret hx hb hr (fun t ht hW => ⟨⟨(), rfl, trivial, ⟨z26_3, z27_4, ⟨by rw [ht]; exact hP, va_K.moved hW.alike hK, hD⟩⟩⟩, hS.F ht⟩) hS.2.2 dX9_mustBeName_20
  · refine lv_aload_n hx hb dX9_mustBeName_8 rfl (lv_at hl 0 rfl) ?_
    refine va_calli (va_runV (As := []) (rest := []) ⟨hx, hb, hml, hown, hts⟩ (c_M_isKept l dC dI _ ad ck x0 x16 x18 x19 x20 x21 x22 x23 x24 x25 x26 x27 x28 x29 x30 x33 x45 x46 x52 x53 x61 x62 x63 x65 x66 f1 f2 f3 q4 q5 q6 q7 f8 q9 f10 f11 q12 q13 q14 q15 f17 f31 f32 f34 f35 f36 f37 q38 f39 f40 f41 m42_0 m42_1 f43 f44 f47 f48 f49 f50 f51 q54 f55 f56 f57 q58 f59 f60 f64 (by omega) (by omega) (by omega) (by omega) (by omega) (by omega) (by omega) (by omega) (by omega) (by omega) (by omega) (by omega) (by omega) (by omega)) (cwV 0 hts g_M_mustBeName_M_isKept rfl rfl rfl (by decide +kernel) ⟨Nat.le_of_ble_eq_true rfl, Nat.le_of_ble_eq_true rfl⟩) ⟨pu_bl, va_recv hK hP (ci := 9) (q0 := 0) rfl rfl, pu_in hP hK hD⟩ rfl rfl hl.1 rfl (lv_room (Nat.le_of_ble_eq_true rfl)) dX9_mustBeName_9 ⟨Nat.le_of_ble_eq_true rfl, Nat.le_of_ble_eq_true rfl⟩) hS (fun q _ h => pu_fr hS hA q h) (pu_fr hS hA) (fun r_5 u t H1 locs ht hvm hw hB hz1 hk1 hS => ?_)
    have hP := pu_keep hP hk1
    clear hk1 hz1 ht hvm
    generalize H1 = H at hP hS ⊢
    have hbr_5 := hw
    refine lv_if_eq (tgt := 20) hx hb dX9_mustBeName_12 (by decide) (fun c_6 => ?_) (fun c_6 => ?_)
    · exact W.vret hx hb hr (fun t ht hW => ⟨⟨(), rfl, trivial, ⟨x26, x27, ⟨by rw [ht]; exact hP, va_K.moved hW.alike hK, hD⟩⟩⟩, hS.F ht⟩) hS.2.2 dX9_mustBeName_20
    · refine lv_aload_n hx hb dX9_mustBeName_15 rfl (lv_at hl 0 rfl) ?_
      refine lv_iconst (v := 2) hx hb dX9_mustBeName_16 (by decide) ?_
      have hFc := pu_free hD hS hA
      refine va_callv (va_runV (As := [.int 2]) (rest := []) ⟨hx, hb, hml, hown, hts⟩ (c_M_fails l dC dI _ ad ck x0 x16 x18 x19 x20 x21 x22 x23 x24 x25 x26 x27 x28 x29 x30 x33 x45 x46 x52 x53 x61 x62 x63 x65 x66 f1 f2 f3 q4 q5 q6 q7 f8 q9 f10 f11 q12 q13 q14 q15 f17 f31 f32 f34 f35 f36 f37 q38 f39 f40 f41 m42_0 m42_1 f43 f44 f47 f48 f49 f50 f51 q54 f55 f56 f57 q58 f59 f60 f64 2 (by omega) (by omega) (by omega) (by omega) (by omega) (by omega) (by omega) (by omega) (by omega) (by omega) (by omega) (by omega) (by omega) (by omega)) (cwV 1 hts g_M_mustBeName_M_fails rfl rfl rfl (by decide +kernel) ⟨Nat.le_of_ble_eq_true rfl, Nat.le_of_ble_eq_true rfl⟩) ⟨pu_bl, va_recv hK hP (ci := 9) (q0 := 0) rfl rfl, pu_in hP hK hD⟩ rfl rfl hl.1 rfl (lv_room (Nat.le_of_ble_eq_true rfl)) dX9_mustBeName_17 ⟨Nat.le_of_ble_eq_true rfl, Nat.le_of_ble_eq_true rfl⟩) hS (fun q _ h => hFc q h) hFc (fun u t H1 locs ht hvm hw hB hz1 hk1 hS => ?_)
      obtain ⟨z26_8, z27_9, ⟨hP1, -, hD1⟩⟩ := hB
      rw [ht] at hP1
      have hP := hP1
      have hD := pu_all hFc hD1
      clear hP1 hD1 hFc
      clear hk1 hz1 ht hvm
      generalize H1 = H at hP hS ⊢
      exact W.vret hx hb hr (fun t ht hW => ⟨⟨(), rfl, trivial, ⟨z26_8, z27_9, ⟨by rw [ht]; exact hP, va_K.moved hW.alike hK, hD⟩⟩⟩, hS.F ht⟩) hS.2.2 dX9_mustBeName_20
theorem dX9_clockCalled_0 : decode cX9_clockCalled 0 = .ok (.iconst 0, 1) := by decide +kernel
theorem dX9_clockCalled_1 : decode cX9_clockCalled 1 = .ok (.istore_n 1, 1) := by decide +kernel
theorem dX9_clockCalled_2 : decode cX9_clockCalled 2 = .ok (.iload_n 1, 1) := by decide +kernel
theorem dX9_clockCalled_3 : decode cX9_clockCalled 3 = .ok (.aload_n 0, 1) := by decide +kernel
theorem dX9_clockCalled_4 : decode cX9_clockCalled 4 = .ok (.getfield 43, 3) := by decide +kernel
theorem dX9_clockCalled_7 : decode cX9_clockCalled 7 = .ok (.aload_n 0, 1) := by decide +kernel
theorem dX9_clockCalled_8 : decode cX9_clockCalled 8 = .ok (.getfield 203, 3) := by decide +kernel
theorem dX9_clockCalled_11 : decode cX9_clockCalled 11 = .ok (.iaload, 1) := by decide +kernel
theorem dX9_clockCalled_12 : decode cX9_clockCalled 12 = .ok (.if_icmp .ge 31, 3) := by decide +kernel
theorem dX9_clockCalled_15 : decode cX9_clockCalled 15 = .ok (.aload_n 0, 1) := by decide +kernel
theorem dX9_clockCalled_16 : decode cX9_clockCalled 16 = .ok (.getfield 7, 3) := by decide +kernel
theorem dX9_clockCalled_19 : decode cX9_clockCalled 19 = .ok (.iconst 3, 1) := by decide +kernel
theorem dX9_clockCalled_20 : decode cX9_clockCalled 20 = .ok (.aload_n 0, 1) := by decide +kernel
theorem dX9_clockCalled_21 : decode cX9_clockCalled 21 = .ok (.getfield 203, 3) := by decide +kernel
theorem dX9_clockCalled_24 : decode cX9_clockCalled 24 = .ok (.imul, 1) := by decide +kernel
theorem dX9_clockCalled_25 : decode cX9_clockCalled 25 = .ok (.iload_n 1, 1) := by decide +kernel
theorem dX9_clockCalled_26 : decode cX9_clockCalled 26 = .ok (.iadd, 1) := by decide +kernel
theorem dX9_clockCalled_27 : decode cX9_clockCalled 27 = .ok (.iaload, 1) := by decide +kernel
theorem dX9_clockCalled_28 : decode cX9_clockCalled 28 = .ok (.aload_n 0, 1) := by decide +kernel
theorem dX9_clockCalled_29 : decode cX9_clockCalled 29 = .ok (.getfield 169, 3) := by decide +kernel
theorem dX9_clockCalled_32 : decode cX9_clockCalled 32 = .ok (.if_icmp .ne 5, 3) := by decide +kernel
theorem dX9_clockCalled_35 : decode cX9_clockCalled 35 = .ok (.iload_n 1, 1) := by decide +kernel
theorem dX9_clockCalled_36 : decode cX9_clockCalled 36 = .ok (.ireturn, 1) := by decide +kernel
theorem dX9_clockCalled_37 : decode cX9_clockCalled 37 = .ok (.iinc 1 1, 3) := by decide +kernel
theorem dX9_clockCalled_40 : decode cX9_clockCalled 40 = .ok (.goto (-38), 3) := by decide +kernel
theorem dX9_clockCalled_43 : decode cX9_clockCalled 43 = .ok (.iconst (-1), 1) := by decide +kernel
theorem dX9_clockCalled_44 : decode cX9_clockCalled 44 = .ok (.ireturn, 1) := by decide +kernel
def vs_M_clockCalled : List Cond := .code yX9_clockCalled cX9_clockCalled 2 (some .int) :: ([.fieldLink RX9 43 "ClockReachModel" "clockMany" "[I", .fieldLink RX9 203 "ClockReachModel" "rb" "I", .fieldLink RX9 7 "ClockReachModel" "clockName" "[I", .fieldLink RX9 169 "ClockReachModel" "value" "I"] ++ wsX90)
set_option maxHeartbeats 4000000 in
set_option maxRecDepth 100000 in
theorem c_M_clockCalled (l : Launch) (dC : Nat → ClassId) (dI : Nat → Nat → Nat) (sz : Nat) (ad : Nat → Nat) (ck : Nat → ClassId) (x0 : Int32) (x16 : Nat) (x18 : Nat) (x19 : Nat) (x20 : Int32) (x21 : Nat) (x22 : Int32) (x23 : Int32) (x24 : Int32) (x25 : Int32) (x26 : Int32) (x27 : Int32) (x28 : Nat) (x29 : Int32) (x30 : Int32) (x33 : Nat) (x45 : Int32) (x46 : Nat) (x52 : Nat) (x53 : Nat) (x61 : Nat) (x62 : Nat) (x63 : Int32) (x65 : Nat) (x66 : Int32) (f1 : Nat → Int32) (f2 : Nat → Int32) (f3 : Nat → Int32) (q4 : Nat → Nat) (q5 : Nat → Nat) (q6 : Nat → Nat) (q7 : Nat → Nat) (f8 : Nat → Int32) (q9 : Nat → Nat) (f10 : Nat → Int32) (f11 : Nat → Int32) (q12 : Nat → Nat) (q13 : Nat → Nat) (q14 : Nat → Nat) (q15 : Nat → Nat) (f17 : Nat → Int32) (f31 : Nat → Int32) (f32 : Nat → Int32) (f34 : Nat → Int32) (f35 : Nat → Int32) (f36 : Nat → Int32) (f37 : Nat → Int32) (q38 : Nat → Nat) (f39 : Nat → Int32) (f40 : Nat → Int32) (f41 : Nat → Int32) (m42_0 m42_1 : Nat) (f43 : Nat → Int32) (f44 : Nat → Int32) (f47 : Nat → Int32) (f48 : Nat → Int32) (f49 : Nat → Int32) (f50 : Nat → Int32) (f51 : Nat → Int32) (q54 : Nat → Nat) (f55 : Nat → Int32) (f56 : Nat → Int32) (f57 : Nat → Int32) (q58 : Nat → Nat) (f59 : Nat → Int32) (f60 : Nat → Int32) (f64 : Nat → Int32) (hx16 : x16 ≤ 1) (hx18 : x18 ≤ 900) (hx19 : x19 ≤ 900) (hx21 : x21 ≤ 900) (hx28 : x28 ≤ 1) (hx33 : x33 ≤ 20) (hx46 : x46 ≤ 5) (hx52 : x52 ≤ 2400) (hx53 : x53 ≤ 120) (hx61 : x61 ≤ 119) (hx62 : x62 ≤ 2000) (hx65 : x65 ≤ 7) (hm42_0 : m42_0 ≤ 120) (hm42_1 : m42_1 ≤ 400) : Met l yX9_clockCalled vs_M_clockCalled ({ frames := 0, cells := 0, slots := 0, locals := 0 }) (va_Pc [.ref (ad 0)] (pu_B (dC, dI) (mo_w ad ck x0 (nI x16) (nI x18) (nI x19) x20 (nI x21) x22 x23 x24 x25 x26 x27 (nI x28) x29 x30 (nI x33) x45 (nI x46) (nI x52) (nI x53) (nI x61) (nI x62) x63 (nI x65) x66 f1 f2 f3 (bN 3 q4) (bN 7 q5) (bN 7 q6) (bN 4 q7) f8 (bN 2 q9) f10 f11 (bN 3 q12) (bN 8 q13) (bN 14 q14) (bM 7 q15) f17 f31 f32 f34 f35 f36 f37 (bN 7 q38) f39 f40 f41 (b2 m42_0 m42_1) f43 f44 f47 f48 f49 f50 f51 (bN 13 q54) f55 f56 f57 (bN 119 q58) f59 f60 f64) (mo_t ck) sz)) (va_Qi (fun (r : Int32) (_ : Unit) => r = -1 ∨ ∃ v : Nat, v ≤ 2 ∧ r = nI v) (fun _ _ => True) (va_A [] sz)) 0 0 (va_A [] sz) := by
  refine Met.ofW (cc := cX9_clockCalled) (maxL := 2) (ret := (some .int)) (by decide) rfl ?_
  intro p e s m args below meth c s₁ B hml hv
  obtain ⟨rfl, rfl, hP, hK, hD0⟩ := hv
  have hx := B.exec
  have hb := B.bytes
  have hr := B.returns
  have hts := atoms_spec (ws := vs_M_clockCalled) B.pre
  have v_1 := hts (.fieldLink RX9 43 "ClockReachModel" "clockMany" "[I") (List.mem_of_getElem? (i := 1) rfl)
  have v_2 := hts (.fieldLink RX9 203 "ClockReachModel" "rb" "I") (List.mem_of_getElem? (i := 2) rfl)
  have v_3 := hts (.fieldLink RX9 7 "ClockReachModel" "clockName" "[I") (List.mem_of_getElem? (i := 3) rfl)
  have v_4 := hts (.fieldLink RX9 169 "ClockReachModel" "value" "I") (List.mem_of_getElem? (i := 4) rfl)
  have hown : s.vm.findClass RX9 = some m.cls := findClass_of_methodNamed B.named
  have hlocks := B.notSynchronized
  have hiX9 : ∀ w ∈ wsX90, w ∈ vs_M_clockCalled := fun _ h => List.mem_cons_of_mem _ (List.mem_append_right _ h)
  have hD := hD0
  have hA : ∀ q : Nat, s.heap.size ≤ q → va_A [] s.heap.size q := fun _ h => Or.inr h
  have hS : va_S (va_A [] s.heap.size) s.heap s.heap [] := va_S.rf
  have hl := lv_entry ([.ref (ad 0)]) (n := 2) (Nat.le_of_ble_eq_true rfl)
  rw [lg_entry_eq]
  generalize (lg_sl ([.ref (ad 0)]) ++ List.replicate (2 - (lg_sl ([.ref (ad 0)])).length) Slot.unset).toArray = ls at hl ⊢
  have hl : lv_has ls 2 [(0, .ref (ad 0))] := hl
  refine lv_iconst (v := 0) hx hb dX9_clockCalled_0 (by decide) ?_
  refine lv_istore_n (lv' := [(1, .int 0), (0, .ref (ad 0))]) hx hb dX9_clockCalled_1 rfl hl (by decide) rfl (fun ls hl => ?_)
  refine pu_while (fun nn H locs ls => ∃ (g_2 : Nat), nn = 3 - g_2 ∧ g_2 ≤ 3 ∧ va_P (dC, dI) vwCl (mo_w ad ck x0 (nI x16) (nI x18) (nI x19) x20 (nI x21) x22 x23 x24 x25 x26 x27 (nI x28) x29 x30 (nI x33) x45 (nI x46) (nI x52) (nI x53) (nI x61) (nI x62) x63 (nI x65) x66 f1 f2 f3 (bN 3 q4) (bN 7 q5) (bN 7 q6) (bN 4 q7) f8 (bN 2 q9) f10 f11 (bN 3 q12) (bN 8 q13) (bN 14 q14) (bM 7 q15) f17 f31 f32 f34 f35 f36 f37 (bN 7 q38) f39 f40 f41 (b2 m42_0 m42_1) f43 f44 f47 f48 f49 f50 f51 (bN 13 q54) f55 f56 f57 (bN 119 q58) f59 f60 f64) H ∧ va_D (fun _ => True) (mo_w ad ck x0 (nI x16) (nI x18) (nI x19) x20 (nI x21) x22 x23 x24 x25 x26 x27 (nI x28) x29 x30 (nI x33) x45 (nI x46) (nI x52) (nI x53) (nI x61) (nI x62) x63 (nI x65) x66 f1 f2 f3 (bN 3 q4) (bN 7 q5) (bN 7 q6) (bN 4 q7) f8 (bN 2 q9) f10 f11 (bN 3 q12) (bN 8 q13) (bN 14 q14) (bM 7 q15) f17 f31 f32 f34 f35 f36 f37 (bN 7 q38) f39 f40 f41 (b2 m42_0 m42_1) f43 f44 f47 f48 f49 f50 f51 (bN 13 q54) f55 f56 f57 (bN 119 q58) f59 f60 f64) ∧ va_S (va_A [] s.heap.size) s.heap H locs ∧ lv_has ls 2 [(0, .ref (ad 0)), (1, .int (nI g_2))]) 2 ?_ _ _ _ _ ⟨0, rfl, by omega, hP, hD, hS, lv_sub hl [1, 0] rfl⟩
  rintro nn ih_3 H locs ls ⟨g_2, rfl, hg_2, hP, hD, hS, hl⟩
  refine lv_iload_n hx hb dX9_clockCalled_2 rfl (lv_at hl 1 rfl) ?_
  refine lv_aload_n hx hb dX9_clockCalled_3 rfl (lv_at hl 0 rfl) ?_
  refine va_get (D := (dC, dI)) (ci := 9) (v := .ref (ad 12)) (C := RX9) (T := TX9) (N := 67) hx hb hts hiX9 hown hK hP 0 rfl rfl 12 (by decide) v_1 (fun _ h9 => h9) rfl dX9_clockCalled_4 ?_
  refine lv_aload_n hx hb dX9_clockCalled_7 rfl (lv_at hl 0 rfl) ?_
  refine va_get (D := (dC, dI)) (ci := 9) (v := .int (nI x28)) (C := RX9) (T := TX9) (N := 67) hx hb hts hiX9 hown hK hP 0 rfl rfl 28 (by decide) v_2 (fun _ h9 => h9) rfl dX9_clockCalled_8 ?_
  refine va_iald hx hb hK hP 12 11 rfl rfl (vp_in_nI (n := x28) (by omega) (by omega)) dX9_clockCalled_11 ?_
  refine lv_topi (fun y_4 ey_4 => ?_)
  obtain ⟨v_5, hv_5, qv_5⟩ := bN_get 3 q12 (((nI x28) : Int32).toNatClampNeg)
  obtain rfl : y_4 = nI v_5 := ey_4.trans qv_5
  refine lv_icmp_ge (tgt := 43) hx hb dX9_clockCalled_12 (by decide) (fun c_6 => ?_) (fun c_6 => ?_)
  · have c_6 : v_5 ≤ g_2 := (nI_leI (a := v_5) (b := g_2) (by omega) (by omega)).mp c_6
    refine lv_iconst (v := (-1)) hx hb dX9_clockCalled_43 (by decide) ?_
    exact W.iret (v := (-1)) hx hb hr (fun t ht hW => ⟨⟨(-1), (), rfl, Or.inl rfl, trivial⟩, hS.F ht⟩) hS.2.2 dX9_clockCalled_44
  · have c_6 : ¬ v_5 ≤ g_2 := fun z => c_6 ((nI_leI (a := v_5) (b := g_2) (by omega) (by omega)).mpr z)
    refine lv_aload_n hx hb dX9_clockCalled_15 rfl (lv_at hl 0 rfl) ?_
    refine va_get (D := (dC, dI)) (ci := 9) (v := .ref (ad 1)) (C := RX9) (T := TX9) (N := 67) hx hb hts hiX9 hown hK hP 0 rfl rfl 1 (by decide) v_3 (fun _ h9 => h9) rfl dX9_clockCalled_16 ?_
    refine lv_iconst (v := 3) hx hb dX9_clockCalled_19 (by decide) ?_
    refine lv_aload_n hx hb dX9_clockCalled_20 rfl (lv_at hl 0 rfl) ?_
    refine va_get (D := (dC, dI)) (ci := 9) (v := .int (nI x28)) (C := RX9) (T := TX9) (N := 67) hx hb hts hiX9 hown hK hP 0 rfl rfl 28 (by decide) v_2 (fun _ h9 => h9) rfl dX9_clockCalled_21 ?_
    refine lv_imul hx hb dX9_clockCalled_24 ?_
    refine lv_topi (fun y_7 ey_7 => ?_)
    obtain rfl : y_7 = (nI (3 * x28)) := ey_7.trans (pk_mul 3 x28)
    refine lv_iload_n hx hb dX9_clockCalled_25 rfl (lv_at hl 1 rfl) ?_
    refine lv_iadd hx hb dX9_clockCalled_26 ?_
    refine lv_topi (fun y_8 ey_8 => ?_)
    obtain rfl : y_8 = (nI ((3 * x28) + g_2)) := ey_8.trans (nI_add (3 * x28) g_2)
    refine va_iald hx hb hK hP 1 0 rfl rfl (vp_in_nI (n := ((3 * x28) + g_2)) (by omega) (by omega)) dX9_clockCalled_27 ?_
    refine lv_topi (fun y_9 ey_9 => ?_)
    refine lv_aload_n hx hb dX9_clockCalled_28 rfl (lv_at hl 0 rfl) ?_
    refine va_get (D := (dC, dI)) (ci := 9) (v := .int x23) (C := RX9) (T := TX9) (N := 67) hx hb hts hiX9 hown hK hP 0 rfl rfl 23 (by decide) v_4 (fun _ h9 => h9) rfl dX9_clockCalled_29 ?_
    refine lv_icmp_ne (tgt := 37) hx hb dX9_clockCalled_32 (by decide) (fun c_10 => ?_) (fun c_10 => ?_)
    · refine lv_iinc (v := (nI (g_2 + 1))) (lv' := [(1, .int (nI (g_2 + 1))), (0, .ref (ad 0))]) hx hb dX9_clockCalled_37 hl (k := 1) rfl (nI_1 _) (by decide) rfl (fun ls hl => ?_)
      refine lv_goto (tgt := 2) hx hb dX9_clockCalled_40 (by decide) ?_
      exact ih_3 (3 - (g_2 + 1)) (by omega) _ _ _ ⟨(g_2 + 1), rfl, by omega, hP, hD, hS, lv_sub hl [1, 0] rfl⟩
    · refine lv_iload_n hx hb dX9_clockCalled_35 rfl (lv_at hl 1 rfl) ?_
      exact W.iret (v := (nI g_2)) hx hb hr (fun t ht hW => ⟨⟨(nI g_2), (), rfl, Or.inr ⟨g_2, by omega, rfl⟩, trivial⟩, hS.F ht⟩) hS.2.2 dX9_clockCalled_36
theorem dX9_placeCalled_0 : decode cX9_placeCalled 0 = .ok (.iconst 0, 1) := by decide +kernel
theorem dX9_placeCalled_1 : decode cX9_placeCalled 1 = .ok (.istore_n 1, 1) := by decide +kernel
theorem dX9_placeCalled_2 : decode cX9_placeCalled 2 = .ok (.iload_n 1, 1) := by decide +kernel
theorem dX9_placeCalled_3 : decode cX9_placeCalled 3 = .ok (.aload_n 0, 1) := by decide +kernel
theorem dX9_placeCalled_4 : decode cX9_placeCalled 4 = .ok (.getfield 46, 3) := by decide +kernel
theorem dX9_placeCalled_7 : decode cX9_placeCalled 7 = .ok (.aload_n 0, 1) := by decide +kernel
theorem dX9_placeCalled_8 : decode cX9_placeCalled 8 = .ok (.getfield 203, 3) := by decide +kernel
theorem dX9_placeCalled_11 : decode cX9_placeCalled 11 = .ok (.iaload, 1) := by decide +kernel
theorem dX9_placeCalled_12 : decode cX9_placeCalled 12 = .ok (.if_icmp .ge 32, 3) := by decide +kernel
theorem dX9_placeCalled_15 : decode cX9_placeCalled 15 = .ok (.aload_n 0, 1) := by decide +kernel
theorem dX9_placeCalled_16 : decode cX9_placeCalled 16 = .ok (.getfield 13, 3) := by decide +kernel
theorem dX9_placeCalled_19 : decode cX9_placeCalled 19 = .ok (.bipush 8, 2) := by decide +kernel
theorem dX9_placeCalled_21 : decode cX9_placeCalled 21 = .ok (.aload_n 0, 1) := by decide +kernel
theorem dX9_placeCalled_22 : decode cX9_placeCalled 22 = .ok (.getfield 203, 3) := by decide +kernel
theorem dX9_placeCalled_25 : decode cX9_placeCalled 25 = .ok (.imul, 1) := by decide +kernel
theorem dX9_placeCalled_26 : decode cX9_placeCalled 26 = .ok (.iload_n 1, 1) := by decide +kernel
theorem dX9_placeCalled_27 : decode cX9_placeCalled 27 = .ok (.iadd, 1) := by decide +kernel
theorem dX9_placeCalled_28 : decode cX9_placeCalled 28 = .ok (.iaload, 1) := by decide +kernel
theorem dX9_placeCalled_29 : decode cX9_placeCalled 29 = .ok (.aload_n 0, 1) := by decide +kernel
theorem dX9_placeCalled_30 : decode cX9_placeCalled 30 = .ok (.getfield 169, 3) := by decide +kernel
theorem dX9_placeCalled_33 : decode cX9_placeCalled 33 = .ok (.if_icmp .ne 5, 3) := by decide +kernel
theorem dX9_placeCalled_36 : decode cX9_placeCalled 36 = .ok (.iload_n 1, 1) := by decide +kernel
theorem dX9_placeCalled_37 : decode cX9_placeCalled 37 = .ok (.ireturn, 1) := by decide +kernel
theorem dX9_placeCalled_38 : decode cX9_placeCalled 38 = .ok (.iinc 1 1, 3) := by decide +kernel
theorem dX9_placeCalled_41 : decode cX9_placeCalled 41 = .ok (.goto (-39), 3) := by decide +kernel
theorem dX9_placeCalled_44 : decode cX9_placeCalled 44 = .ok (.iconst (-1), 1) := by decide +kernel
theorem dX9_placeCalled_45 : decode cX9_placeCalled 45 = .ok (.ireturn, 1) := by decide +kernel
def vs_M_placeCalled : List Cond := .code yX9_placeCalled cX9_placeCalled 2 (some .int) :: ([.fieldLink RX9 46 "ClockReachModel" "placeMany" "[I", .fieldLink RX9 203 "ClockReachModel" "rb" "I", .fieldLink RX9 13 "ClockReachModel" "placeName" "[I", .fieldLink RX9 169 "ClockReachModel" "value" "I"] ++ wsX90)
set_option maxHeartbeats 4000000 in
set_option maxRecDepth 100000 in
theorem c_M_placeCalled (l : Launch) (dC : Nat → ClassId) (dI : Nat → Nat → Nat) (sz : Nat) (ad : Nat → Nat) (ck : Nat → ClassId) (x0 : Int32) (x16 : Nat) (x18 : Nat) (x19 : Nat) (x20 : Int32) (x21 : Nat) (x22 : Int32) (x23 : Int32) (x24 : Int32) (x25 : Int32) (x26 : Int32) (x27 : Int32) (x28 : Nat) (x29 : Int32) (x30 : Int32) (x33 : Nat) (x45 : Int32) (x46 : Nat) (x52 : Nat) (x53 : Nat) (x61 : Nat) (x62 : Nat) (x63 : Int32) (x65 : Nat) (x66 : Int32) (f1 : Nat → Int32) (f2 : Nat → Int32) (f3 : Nat → Int32) (q4 : Nat → Nat) (q5 : Nat → Nat) (q6 : Nat → Nat) (q7 : Nat → Nat) (f8 : Nat → Int32) (q9 : Nat → Nat) (f10 : Nat → Int32) (f11 : Nat → Int32) (q12 : Nat → Nat) (q13 : Nat → Nat) (q14 : Nat → Nat) (q15 : Nat → Nat) (f17 : Nat → Int32) (f31 : Nat → Int32) (f32 : Nat → Int32) (f34 : Nat → Int32) (f35 : Nat → Int32) (f36 : Nat → Int32) (f37 : Nat → Int32) (q38 : Nat → Nat) (f39 : Nat → Int32) (f40 : Nat → Int32) (f41 : Nat → Int32) (m42_0 m42_1 : Nat) (f43 : Nat → Int32) (f44 : Nat → Int32) (f47 : Nat → Int32) (f48 : Nat → Int32) (f49 : Nat → Int32) (f50 : Nat → Int32) (f51 : Nat → Int32) (q54 : Nat → Nat) (f55 : Nat → Int32) (f56 : Nat → Int32) (f57 : Nat → Int32) (q58 : Nat → Nat) (f59 : Nat → Int32) (f60 : Nat → Int32) (f64 : Nat → Int32) (hx16 : x16 ≤ 1) (hx18 : x18 ≤ 900) (hx19 : x19 ≤ 900) (hx21 : x21 ≤ 900) (hx28 : x28 ≤ 1) (hx33 : x33 ≤ 20) (hx46 : x46 ≤ 5) (hx52 : x52 ≤ 2400) (hx53 : x53 ≤ 120) (hx61 : x61 ≤ 119) (hx62 : x62 ≤ 2000) (hx65 : x65 ≤ 7) (hm42_0 : m42_0 ≤ 120) (hm42_1 : m42_1 ≤ 400) : Met l yX9_placeCalled vs_M_placeCalled ({ frames := 0, cells := 0, slots := 0, locals := 0 }) (va_Pc [.ref (ad 0)] (pu_B (dC, dI) (mo_w ad ck x0 (nI x16) (nI x18) (nI x19) x20 (nI x21) x22 x23 x24 x25 x26 x27 (nI x28) x29 x30 (nI x33) x45 (nI x46) (nI x52) (nI x53) (nI x61) (nI x62) x63 (nI x65) x66 f1 f2 f3 (bN 3 q4) (bN 7 q5) (bN 7 q6) (bN 4 q7) f8 (bN 2 q9) f10 f11 (bN 3 q12) (bN 8 q13) (bN 14 q14) (bM 7 q15) f17 f31 f32 f34 f35 f36 f37 (bN 7 q38) f39 f40 f41 (b2 m42_0 m42_1) f43 f44 f47 f48 f49 f50 f51 (bN 13 q54) f55 f56 f57 (bN 119 q58) f59 f60 f64) (mo_t ck) sz)) (va_Qi (fun (r : Int32) (_ : Unit) => r = -1 ∨ ∃ v : Nat, v ≤ 7 ∧ r = nI v) (fun _ _ => True) (va_A [] sz)) 0 0 (va_A [] sz) := by
  refine Met.ofW (cc := cX9_placeCalled) (maxL := 2) (ret := (some .int)) (by decide) rfl ?_
  intro p e s m args below meth c s₁ B hml hv
  obtain ⟨rfl, rfl, hP, hK, hD0⟩ := hv
  have hx := B.exec
  have hb := B.bytes
  have hr := B.returns
  have hts := atoms_spec (ws := vs_M_placeCalled) B.pre
  have v_1 := hts (.fieldLink RX9 46 "ClockReachModel" "placeMany" "[I") (List.mem_of_getElem? (i := 1) rfl)
  have v_2 := hts (.fieldLink RX9 203 "ClockReachModel" "rb" "I") (List.mem_of_getElem? (i := 2) rfl)
  have v_3 := hts (.fieldLink RX9 13 "ClockReachModel" "placeName" "[I") (List.mem_of_getElem? (i := 3) rfl)
  have v_4 := hts (.fieldLink RX9 169 "ClockReachModel" "value" "I") (List.mem_of_getElem? (i := 4) rfl)
  have hown : s.vm.findClass RX9 = some m.cls := findClass_of_methodNamed B.named
  have hlocks := B.notSynchronized
  have hiX9 : ∀ w ∈ wsX90, w ∈ vs_M_placeCalled := fun _ h => List.mem_cons_of_mem _ (List.mem_append_right _ h)
  have hD := hD0
  have hA : ∀ q : Nat, s.heap.size ≤ q → va_A [] s.heap.size q := fun _ h => Or.inr h
  have hS : va_S (va_A [] s.heap.size) s.heap s.heap [] := va_S.rf
  have hl := lv_entry ([.ref (ad 0)]) (n := 2) (Nat.le_of_ble_eq_true rfl)
  rw [lg_entry_eq]
  generalize (lg_sl ([.ref (ad 0)]) ++ List.replicate (2 - (lg_sl ([.ref (ad 0)])).length) Slot.unset).toArray = ls at hl ⊢
  have hl : lv_has ls 2 [(0, .ref (ad 0))] := hl
  refine lv_iconst (v := 0) hx hb dX9_placeCalled_0 (by decide) ?_
  refine lv_istore_n (lv' := [(1, .int 0), (0, .ref (ad 0))]) hx hb dX9_placeCalled_1 rfl hl (by decide) rfl (fun ls hl => ?_)
  refine pu_while (fun nn H locs ls => ∃ (g_2 : Nat), nn = 8 - g_2 ∧ g_2 ≤ 8 ∧ va_P (dC, dI) vwCl (mo_w ad ck x0 (nI x16) (nI x18) (nI x19) x20 (nI x21) x22 x23 x24 x25 x26 x27 (nI x28) x29 x30 (nI x33) x45 (nI x46) (nI x52) (nI x53) (nI x61) (nI x62) x63 (nI x65) x66 f1 f2 f3 (bN 3 q4) (bN 7 q5) (bN 7 q6) (bN 4 q7) f8 (bN 2 q9) f10 f11 (bN 3 q12) (bN 8 q13) (bN 14 q14) (bM 7 q15) f17 f31 f32 f34 f35 f36 f37 (bN 7 q38) f39 f40 f41 (b2 m42_0 m42_1) f43 f44 f47 f48 f49 f50 f51 (bN 13 q54) f55 f56 f57 (bN 119 q58) f59 f60 f64) H ∧ va_D (fun _ => True) (mo_w ad ck x0 (nI x16) (nI x18) (nI x19) x20 (nI x21) x22 x23 x24 x25 x26 x27 (nI x28) x29 x30 (nI x33) x45 (nI x46) (nI x52) (nI x53) (nI x61) (nI x62) x63 (nI x65) x66 f1 f2 f3 (bN 3 q4) (bN 7 q5) (bN 7 q6) (bN 4 q7) f8 (bN 2 q9) f10 f11 (bN 3 q12) (bN 8 q13) (bN 14 q14) (bM 7 q15) f17 f31 f32 f34 f35 f36 f37 (bN 7 q38) f39 f40 f41 (b2 m42_0 m42_1) f43 f44 f47 f48 f49 f50 f51 (bN 13 q54) f55 f56 f57 (bN 119 q58) f59 f60 f64) ∧ va_S (va_A [] s.heap.size) s.heap H locs ∧ lv_has ls 2 [(0, .ref (ad 0)), (1, .int (nI g_2))]) 2 ?_ _ _ _ _ ⟨0, rfl, by omega, hP, hD, hS, lv_sub hl [1, 0] rfl⟩
  rintro nn ih_3 H locs ls ⟨g_2, rfl, hg_2, hP, hD, hS, hl⟩
  refine lv_iload_n hx hb dX9_placeCalled_2 rfl (lv_at hl 1 rfl) ?_
  refine lv_aload_n hx hb dX9_placeCalled_3 rfl (lv_at hl 0 rfl) ?_
  refine va_get (D := (dC, dI)) (ci := 9) (v := .ref (ad 13)) (C := RX9) (T := TX9) (N := 67) hx hb hts hiX9 hown hK hP 0 rfl rfl 13 (by decide) v_1 (fun _ h9 => h9) rfl dX9_placeCalled_4 ?_
  refine lv_aload_n hx hb dX9_placeCalled_7 rfl (lv_at hl 0 rfl) ?_
  refine va_get (D := (dC, dI)) (ci := 9) (v := .int (nI x28)) (C := RX9) (T := TX9) (N := 67) hx hb hts hiX9 hown hK hP 0 rfl rfl 28 (by decide) v_2 (fun _ h9 => h9) rfl dX9_placeCalled_8 ?_
  refine va_iald hx hb hK hP 13 12 rfl rfl (vp_in_nI (n := x28) (by omega) (by omega)) dX9_placeCalled_11 ?_
  refine lv_topi (fun y_4 ey_4 => ?_)
  obtain ⟨v_5, hv_5, qv_5⟩ := bN_get 8 q13 (((nI x28) : Int32).toNatClampNeg)
  obtain rfl : y_4 = nI v_5 := ey_4.trans qv_5
  refine lv_icmp_ge (tgt := 44) hx hb dX9_placeCalled_12 (by decide) (fun c_6 => ?_) (fun c_6 => ?_)
  · have c_6 : v_5 ≤ g_2 := (nI_leI (a := v_5) (b := g_2) (by omega) (by omega)).mp c_6
    refine lv_iconst (v := (-1)) hx hb dX9_placeCalled_44 (by decide) ?_
    exact W.iret (v := (-1)) hx hb hr (fun t ht hW => ⟨⟨(-1), (), rfl, Or.inl rfl, trivial⟩, hS.F ht⟩) hS.2.2 dX9_placeCalled_45
  · have c_6 : ¬ v_5 ≤ g_2 := fun z => c_6 ((nI_leI (a := v_5) (b := g_2) (by omega) (by omega)).mpr z)
    refine lv_aload_n hx hb dX9_placeCalled_15 rfl (lv_at hl 0 rfl) ?_
    refine va_get (D := (dC, dI)) (ci := 9) (v := .ref (ad 2)) (C := RX9) (T := TX9) (N := 67) hx hb hts hiX9 hown hK hP 0 rfl rfl 2 (by decide) v_3 (fun _ h9 => h9) rfl dX9_placeCalled_16 ?_
    refine lv_bipush (v := 8) hx hb dX9_placeCalled_19 (by decide) ?_
    refine lv_aload_n hx hb dX9_placeCalled_21 rfl (lv_at hl 0 rfl) ?_
    refine va_get (D := (dC, dI)) (ci := 9) (v := .int (nI x28)) (C := RX9) (T := TX9) (N := 67) hx hb hts hiX9 hown hK hP 0 rfl rfl 28 (by decide) v_2 (fun _ h9 => h9) rfl dX9_placeCalled_22 ?_
    refine lv_imul hx hb dX9_placeCalled_25 ?_
    refine lv_topi (fun y_7 ey_7 => ?_)
    obtain rfl : y_7 = (nI (8 * x28)) := ey_7.trans (pk_mul 8 x28)
    refine lv_iload_n hx hb dX9_placeCalled_26 rfl (lv_at hl 1 rfl) ?_
    refine lv_iadd hx hb dX9_placeCalled_27 ?_
    refine lv_topi (fun y_8 ey_8 => ?_)
    obtain rfl : y_8 = (nI ((8 * x28) + g_2)) := ey_8.trans (nI_add (8 * x28) g_2)
    refine va_iald hx hb hK hP 2 1 rfl rfl (vp_in_nI (n := ((8 * x28) + g_2)) (by omega) (by omega)) dX9_placeCalled_28 ?_
    refine lv_topi (fun y_9 ey_9 => ?_)
    refine lv_aload_n hx hb dX9_placeCalled_29 rfl (lv_at hl 0 rfl) ?_
    refine va_get (D := (dC, dI)) (ci := 9) (v := .int x23) (C := RX9) (T := TX9) (N := 67) hx hb hts hiX9 hown hK hP 0 rfl rfl 23 (by decide) v_4 (fun _ h9 => h9) rfl dX9_placeCalled_30 ?_
    refine lv_icmp_ne (tgt := 38) hx hb dX9_placeCalled_33 (by decide) (fun c_10 => ?_) (fun c_10 => ?_)
    · refine lv_iinc (v := (nI (g_2 + 1))) (lv' := [(1, .int (nI (g_2 + 1))), (0, .ref (ad 0))]) hx hb dX9_placeCalled_38 hl (k := 1) rfl (nI_1 _) (by decide) rfl (fun ls hl => ?_)
      refine lv_goto (tgt := 2) hx hb dX9_placeCalled_41 (by decide) ?_
      exact ih_3 (8 - (g_2 + 1)) (by omega) _ _ _ ⟨(g_2 + 1), rfl, by omega, hP, hD, hS, lv_sub hl [1, 0] rfl⟩
    · refine lv_iload_n hx hb dX9_placeCalled_36 rfl (lv_at hl 1 rfl) ?_
      exact W.iret (v := (nI g_2)) hx hb hr (fun t ht hW => ⟨⟨(nI g_2), (), rfl, Or.inr ⟨g_2, by omega, rfl⟩, trivial⟩, hS.F ht⟩) hS.2.2 dX9_placeCalled_37
theorem dX9_edgesOf_0 : decode cX9_edgesOf 0 = .ok (.iconst 0, 1) := by decide +kernel
theorem dX9_edgesOf_1 : decode cX9_edgesOf 1 = .ok (.istore_n 3, 1) := by decide +kernel
theorem dX9_edgesOf_2 : decode cX9_edgesOf 2 = .ok (.iconst 0, 1) := by decide +kernel
theorem dX9_edgesOf_3 : decode cX9_edgesOf 3 = .ok (.istore 4, 2) := by decide +kernel
theorem dX9_edgesOf_5 : decode cX9_edgesOf 5 = .ok (.iload 4, 2) := by decide +kernel
theorem dX9_edgesOf_7 : decode cX9_edgesOf 7 = .ok (.aload_n 0, 1) := by decide +kernel
theorem dX9_edgesOf_8 : decode cX9_edgesOf 8 = .ok (.getfield 49, 3) := by decide +kernel
theorem dX9_edgesOf_11 : decode cX9_edgesOf 11 = .ok (.aload_n 0, 1) := by decide +kernel
theorem dX9_edgesOf_12 : decode cX9_edgesOf 12 = .ok (.getfield 258, 3) := by decide +kernel
theorem dX9_edgesOf_15 : decode cX9_edgesOf 15 = .ok (.iaload, 1) := by decide +kernel
theorem dX9_edgesOf_16 : decode cX9_edgesOf 16 = .ok (.if_icmp .ge 43, 3) := by decide +kernel
theorem dX9_edgesOf_19 : decode cX9_edgesOf 19 = .ok (.iload_n 3, 1) := by decide +kernel
theorem dX9_edgesOf_20 : decode cX9_edgesOf 20 = .ok (.iload_n 2, 1) := by decide +kernel
theorem dX9_edgesOf_21 : decode cX9_edgesOf 21 = .ok (.ifCond .eq 12, 3) := by decide +kernel
theorem dX9_edgesOf_24 : decode cX9_edgesOf 24 = .ok (.aload_n 0, 1) := by decide +kernel
theorem dX9_edgesOf_25 : decode cX9_edgesOf 25 = .ok (.iload 4, 2) := by decide +kernel
theorem dX9_edgesOf_27 : decode cX9_edgesOf 27 = .ok (.invokevirtual 289, 3) := by decide +kernel
theorem dX9_edgesOf_30 : decode cX9_edgesOf 30 = .ok (.goto 9, 3) := by decide +kernel
theorem dX9_edgesOf_33 : decode cX9_edgesOf 33 = .ok (.aload_n 0, 1) := by decide +kernel
theorem dX9_edgesOf_34 : decode cX9_edgesOf 34 = .ok (.iload 4, 2) := by decide +kernel
theorem dX9_edgesOf_36 : decode cX9_edgesOf 36 = .ok (.invokevirtual 292, 3) := by decide +kernel
theorem dX9_edgesOf_39 : decode cX9_edgesOf 39 = .ok (.iload_n 1, 1) := by decide +kernel
theorem dX9_edgesOf_40 : decode cX9_edgesOf 40 = .ok (.if_icmp .ne 10, 3) := by decide +kernel
theorem dX9_edgesOf_43 : decode cX9_edgesOf 43 = .ok (.iconst 1, 1) := by decide +kernel
theorem dX9_edgesOf_44 : decode cX9_edgesOf 44 = .ok (.iload 4, 2) := by decide +kernel
theorem dX9_edgesOf_46 : decode cX9_edgesOf 46 = .ok (.ishl, 1) := by decide +kernel
theorem dX9_edgesOf_47 : decode cX9_edgesOf 47 = .ok (.goto 4, 3) := by decide +kernel
theorem dX9_edgesOf_50 : decode cX9_edgesOf 50 = .ok (.iconst 0, 1) := by decide +kernel
theorem dX9_edgesOf_51 : decode cX9_edgesOf 51 = .ok (.ior, 1) := by decide +kernel
theorem dX9_edgesOf_52 : decode cX9_edgesOf 52 = .ok (.istore_n 3, 1) := by decide +kernel
theorem dX9_edgesOf_53 : decode cX9_edgesOf 53 = .ok (.iinc 4 1, 3) := by decide +kernel
theorem dX9_edgesOf_56 : decode cX9_edgesOf 56 = .ok (.goto (-51), 3) := by decide +kernel
theorem dX9_edgesOf_59 : decode cX9_edgesOf 59 = .ok (.iload_n 3, 1) := by decide +kernel
theorem dX9_edgesOf_60 : decode cX9_edgesOf 60 = .ok (.ireturn, 1) := by decide +kernel
def vs_M_edgesOf : List Cond := .code yX9_edgesOf cX9_edgesOf 5 (some .int) :: ([.fieldLink RX9 49 "ClockReachModel" "edgeMany" "[I", .fieldLink RX9 258 "ClockReachModel" "bank" "I", .methodLink RX9 292 yX9_into, .instanceMethod yX9_into, .selects RX9 yX9_into yX9_into, .initialized RX9, .code yX9_into cX9_into 2 (some .int), .fieldLink RX9 25 "ClockReachModel" "edgeTo" "[I", .methodLink RX9 289 yX9_outOf, .instanceMethod yX9_outOf, .selects RX9 yX9_outOf yX9_outOf, .code yX9_outOf cX9_outOf 2 (some .int), .fieldLink RX9 22 "ClockReachModel" "edgeFrom" "[I"] ++ wsX90)
theorem g_M_edgesOf_M_into : GoodIn vs_M_edgesOf (wsV RX9 292 RX9 yX9_into vs_M_into) := goodIn_r _ [3, 4, 5, 6, 7, 8, 2, 14, 15, 16, 17, 18, 19, 20, 21, 22, 23, 24, 25, 26, 27, 28, 29, 30, 31, 32, 33, 34, 35, 36, 37, 38, 39, 40, 41, 42, 43, 44, 45, 46, 47, 48, 49, 50, 51, 52, 53, 54, 55, 56, 57, 58, 59, 60, 61, 62, 63, 64, 65, 66, 67, 68, 69, 70, 71, 72, 73, 74, 75, 76, 77, 78, 79, 80] (by decide +kernel) (by decide +kernel)
theorem g_M_edgesOf_M_outOf : GoodIn vs_M_edgesOf (wsV RX9 289 RX9 yX9_outOf vs_M_outOf) := goodIn_r _ [9, 10, 11, 6, 12, 13, 2, 14, 15, 16, 17, 18, 19, 20, 21, 22, 23, 24, 25, 26, 27, 28, 29, 30, 31, 32, 33, 34, 35, 36, 37, 38, 39, 40, 41, 42, 43, 44, 45, 46, 47, 48, 49, 50, 51, 52, 53, 54, 55, 56, 57, 58, 59, 60, 61, 62, 63, 64, 65, 66, 67, 68, 69, 70, 71, 72, 73, 74, 75, 76, 77, 78, 79, 80] (by decide +kernel) (by decide +kernel)
set_option maxHeartbeats 4000000 in
set_option maxRecDepth 100000 in
theorem c_M_edgesOf (l : Launch) (dC : Nat → ClassId) (dI : Nat → Nat → Nat) (sz : Nat) (ad : Nat → Nat) (ck : Nat → ClassId) (x0 : Int32) (x16 : Nat) (x18 : Nat) (x19 : Nat) (x20 : Int32) (x21 : Nat) (x22 : Int32) (x23 : Int32) (x24 : Int32) (x25 : Int32) (x26 : Int32) (x27 : Int32) (x28 : Nat) (x29 : Int32) (x30 : Int32) (x33 : Nat) (x45 : Int32) (x46 : Nat) (x52 : Nat) (x53 : Nat) (x61 : Nat) (x62 : Nat) (x63 : Int32) (x65 : Nat) (x66 : Int32) (f1 : Nat → Int32) (f2 : Nat → Int32) (f3 : Nat → Int32) (q4 : Nat → Nat) (q5 : Nat → Nat) (q6 : Nat → Nat) (q7 : Nat → Nat) (f8 : Nat → Int32) (q9 : Nat → Nat) (f10 : Nat → Int32) (f11 : Nat → Int32) (q12 : Nat → Nat) (q13 : Nat → Nat) (q14 : Nat → Nat) (q15 : Nat → Nat) (f17 : Nat → Int32) (f31 : Nat → Int32) (f32 : Nat → Int32) (f34 : Nat → Int32) (f35 : Nat → Int32) (f36 : Nat → Int32) (f37 : Nat → Int32) (q38 : Nat → Nat) (f39 : Nat → Int32) (f40 : Nat → Int32) (f41 : Nat → Int32) (m42_0 m42_1 : Nat) (f43 : Nat → Int32) (f44 : Nat → Int32) (f47 : Nat → Int32) (f48 : Nat → Int32) (f49 : Nat → Int32) (f50 : Nat → Int32) (f51 : Nat → Int32) (q54 : Nat → Nat) (f55 : Nat → Int32) (f56 : Nat → Int32) (f57 : Nat → Int32) (q58 : Nat → Nat) (f59 : Nat → Int32) (f60 : Nat → Int32) (f64 : Nat → Int32) (p0 : Int32) (p1 : Int32) (hx16 : x16 ≤ 1) (hx18 : x18 ≤ 900) (hx19 : x19 ≤ 900) (hx21 : x21 ≤ 900) (hx28 : x28 ≤ 1) (hx33 : x33 ≤ 20) (hx46 : x46 ≤ 5) (hx52 : x52 ≤ 2400) (hx53 : x53 ≤ 120) (hx61 : x61 ≤ 119) (hx62 : x62 ≤ 2000) (hx65 : x65 ≤ 7) (hm42_0 : m42_0 ≤ 120) (hm42_1 : m42_1 ≤ 400) (hp1 : p1 = 0 ∨ p1 = 1) : Met l yX9_edgesOf vs_M_edgesOf ({ frames := 1, cells := 0, slots := 0, locals := 21 }) (va_Pc [.ref (ad 0), .int p0, .int p1] (pu_B (dC, dI) (mo_w ad ck x0 (nI x16) (nI x18) (nI x19) x20 (nI x21) x22 x23 x24 x25 x26 x27 (nI x28) x29 x30 (nI x33) x45 (nI x46) (nI x52) (nI x53) (nI x61) (nI x62) x63 (nI x65) x66 f1 f2 f3 (bN 3 q4) (bN 7 q5) (bN 7 q6) (bN 4 q7) f8 (bN 2 q9) f10 f11 (bN 3 q12) (bN 8 q13) (bN 14 q14) (bM 7 q15) f17 f31 f32 f34 f35 f36 f37 (bN 7 q38) f39 f40 f41 (b2 m42_0 m42_1) f43 f44 f47 f48 f49 f50 f51 (bN 13 q54) f55 f56 f57 (bN 119 q58) f59 f60 f64) (mo_t ck) sz)) (va_Qi (fun (r : Int32) (_ : Unit) => True) (fun _ _ => True) (va_A [] sz)) 0 0 (va_A [] sz) := by
  refine Met.ofW (cc := cX9_edgesOf) (maxL := 5) (ret := (some .int)) (by decide) rfl ?_
  intro p e s m args below meth c s₁ B hml hv
  obtain ⟨rfl, rfl, hP, hK, hD0⟩ := hv
  have hx := B.exec
  have hb := B.bytes
  have hr := B.returns
  have hts := atoms_spec (ws := vs_M_edgesOf) B.pre
  have v_1 := hts (.fieldLink RX9 49 "ClockReachModel" "edgeMany" "[I") (List.mem_of_getElem? (i := 1) rfl)
  have v_2 := hts (.fieldLink RX9 258 "ClockReachModel" "bank" "I") (List.mem_of_getElem? (i := 2) rfl)
  have v_7 := hts (.code yX9_into cX9_into 2 (some .int)) (List.mem_of_getElem? (i := 7) rfl)
  have hown : s.vm.findClass RX9 = some m.cls := findClass_of_methodNamed B.named
  have hlocks := B.notSynchronized
  have hiX9 : ∀ w ∈ wsX90, w ∈ vs_M_edgesOf := fun _ h => List.mem_cons_of_mem _ (List.mem_append_right _ h)
  have hD := hD0
  have hA : ∀ q : Nat, s.heap.size ≤ q → va_A [] s.heap.size q := fun _ h => Or.inr h
  have hS : va_S (va_A [] s.heap.size) s.heap s.heap [] := va_S.rf
  have hl := lv_entry ([.ref (ad 0), .int p0, .int p1]) (n := 5) (Nat.le_of_ble_eq_true rfl)
  rw [lg_entry_eq]
  generalize (lg_sl ([.ref (ad 0), .int p0, .int p1]) ++ List.replicate (5 - (lg_sl ([.ref (ad 0), .int p0, .int p1])).length) Slot.unset).toArray = ls at hl ⊢
  have hl : lv_has ls 5 [(0, .ref (ad 0)), (1, .int p0), (2, .int p1)] := hl
  refine lv_iconst (v := 0) hx hb dX9_edgesOf_0 (by decide) ?_
  refine lv_istore_n (lv' := [(3, .int 0), (0, .ref (ad 0)), (1, .int p0), (2, .int p1)]) hx hb dX9_edgesOf_1 rfl hl (by decide) rfl (fun ls hl => ?_)
  refine lv_iconst (v := 0) hx hb dX9_edgesOf_2 (by decide) ?_
  refine lv_istore (lv' := [(4, .int 0), (3, .int 0), (0, .ref (ad 0)), (1, .int p0), (2, .int p1)]) hx hb dX9_edgesOf_3 hl (by decide) rfl (fun ls hl => ?_)
  refine pu_while (fun nn H locs ls => ∃ (g_3 : Int32) (g_4 : Nat), nn = 14 - g_4 ∧ g_4 ≤ 14 ∧ va_P (dC, dI) vwCl (mo_w ad ck x0 (nI x16) (nI x18) (nI x19) x20 (nI x21) x22 x23 x24 x25 x26 x27 (nI x28) x29 x30 (nI x33) x45 (nI x46) (nI x52) (nI x53) (nI x61) (nI x62) x63 (nI x65) x66 f1 f2 f3 (bN 3 q4) (bN 7 q5) (bN 7 q6) (bN 4 q7) f8 (bN 2 q9) f10 f11 (bN 3 q12) (bN 8 q13) (bN 14 q14) (bM 7 q15) f17 f31 f32 f34 f35 f36 f37 (bN 7 q38) f39 f40 f41 (b2 m42_0 m42_1) f43 f44 f47 f48 f49 f50 f51 (bN 13 q54) f55 f56 f57 (bN 119 q58) f59 f60 f64) H ∧ va_D (fun _ => True) (mo_w ad ck x0 (nI x16) (nI x18) (nI x19) x20 (nI x21) x22 x23 x24 x25 x26 x27 (nI x28) x29 x30 (nI x33) x45 (nI x46) (nI x52) (nI x53) (nI x61) (nI x62) x63 (nI x65) x66 f1 f2 f3 (bN 3 q4) (bN 7 q5) (bN 7 q6) (bN 4 q7) f8 (bN 2 q9) f10 f11 (bN 3 q12) (bN 8 q13) (bN 14 q14) (bM 7 q15) f17 f31 f32 f34 f35 f36 f37 (bN 7 q38) f39 f40 f41 (b2 m42_0 m42_1) f43 f44 f47 f48 f49 f50 f51 (bN 13 q54) f55 f56 f57 (bN 119 q58) f59 f60 f64) ∧ va_S (va_A [] s.heap.size) s.heap H locs ∧ lv_has ls 5 [(0, .ref (ad 0)), (1, .int p0), (2, .int p1), (3, .int g_3), (4, .int (nI g_4))]) 5 ?_ _ _ _ _ ⟨0, 0, rfl, by omega, hP, hD, hS, lv_sub hl [2, 3, 4, 1, 0] rfl⟩
  rintro nn ih_5 H locs ls ⟨g_3, g_4, rfl, hg_4, hP, hD, hS, hl⟩
  refine lv_iload hx hb dX9_edgesOf_5 (lv_at hl 4 rfl) ?_
  refine lv_aload_n hx hb dX9_edgesOf_7 rfl (lv_at hl 0 rfl) ?_
  refine va_get (D := (dC, dI)) (ci := 9) (v := .ref (ad 14)) (C := RX9) (T := TX9) (N := 67) hx hb hts hiX9 hown hK hP 0 rfl rfl 14 (by decide) v_1 (fun _ h9 => h9) rfl dX9_edgesOf_8 ?_
  refine lv_aload_n hx hb dX9_edgesOf_11 rfl (lv_at hl 0 rfl) ?_
  refine va_get (D := (dC, dI)) (ci := 9) (v := .int (nI x16)) (C := RX9) (T := TX9) (N := 67) hx hb hts hiX9 hown hK hP 0 rfl rfl 16 (by decide) v_2 (fun _ h9 => h9) rfl dX9_edgesOf_12 ?_
  refine va_iald hx hb hK hP 14 13 rfl rfl (vp_in_nI (n := x16) (by omega) (by omega)) dX9_edgesOf_15 ?_
  refine lv_topi (fun y_6 ey_6 => ?_)
  obtain ⟨v_7, hv_7, qv_7⟩ := bN_get 14 q14 (((nI x16) : Int32).toNatClampNeg)
  obtain rfl : y_6 = nI v_7 := ey_6.trans qv_7
  refine lv_icmp_ge (tgt := 59) hx hb dX9_edgesOf_16 (by decide) (fun c_8 => ?_) (fun c_8 => ?_)
  · have c_8 : v_7 ≤ g_4 := (nI_leI (a := v_7) (b := g_4) (by omega) (by omega)).mp c_8
    refine lv_iload_n hx hb dX9_edgesOf_59 rfl (lv_at hl 3 rfl) ?_
    exact W.iret (v := g_3) hx hb hr (fun t ht hW => ⟨⟨g_3, (), rfl, trivial, trivial⟩, hS.F ht⟩) hS.2.2 dX9_edgesOf_60
  · have c_8 : ¬ v_7 ≤ g_4 := fun z => c_8 ((nI_leI (a := v_7) (b := g_4) (by omega) (by omega)).mpr z)
    refine lv_iload_n hx hb dX9_edgesOf_19 rfl (lv_at hl 3 rfl) ?_
    refine lv_iload_n hx hb dX9_edgesOf_20 rfl (lv_at hl 2 rfl) ?_
    refine pu_join (fun H locs ls st => ∃ (g_9 : Nat), st = [.int (nI g_9), .int g_3] ∧ g_9 ≤ 7 ∧ va_P (dC, dI) vwCl (mo_w ad ck x0 (nI x16) (nI x18) (nI x19) x20 (nI x21) x22 x23 x24 x25 x26 x27 (nI x28) x29 x30 (nI x33) x45 (nI x46) (nI x52) (nI x53) (nI x61) (nI x62) x63 (nI x65) x66 f1 f2 f3 (bN 3 q4) (bN 7 q5) (bN 7 q6) (bN 4 q7) f8 (bN 2 q9) f10 f11 (bN 3 q12) (bN 8 q13) (bN 14 q14) (bM 7 q15) f17 f31 f32 f34 f35 f36 f37 (bN 7 q38) f39 f40 f41 (b2 m42_0 m42_1) f43 f44 f47 f48 f49 f50 f51 (bN 13 q54) f55 f56 f57 (bN 119 q58) f59 f60 f64) H ∧ va_D (fun _ => True) (mo_w ad ck x0 (nI x16) (nI x18) (nI x19) x20 (nI x21) x22 x23 x24 x25 x26 x27 (nI x28) x29 x30 (nI x33) x45 (nI x46) (nI x52) (nI x53) (nI x61) (nI x62) x63 (nI x65) x66 f1 f2 f3 (bN 3 q4) (bN 7 q5) (bN 7 q6) (bN 4 q7) f8 (bN 2 q9) f10 f11 (bN 3 q12) (bN 8 q13) (bN 14 q14) (bM 7 q15) f17 f31 f32 f34 f35 f36 f37 (bN 7 q38) f39 f40 f41 (b2 m42_0 m42_1) f43 f44 f47 f48 f49 f50 f51 (bN 13 q54) f55 f56 f57 (bN 119 q58) f59 f60 f64) ∧ va_S (va_A [] s.heap.size) s.heap H locs ∧ lv_has ls 5 [(0, .ref (ad 0)), (1, .int p0), (2, .int p1), (3, .int g_3), (4, .int (nI g_4))]) 39 ?_ (fun j_10 => ?_)
    · rintro H locs ls st ⟨g_9, rfl, hg_9, hP, hD, hS, hl⟩
      refine lv_iload_n hx hb dX9_edgesOf_39 rfl (lv_at hl 1 rfl) ?_
      refine pu_join (fun H locs ls st => ∃ (g_11 : Int32), st = [.int g_11, .int g_3] ∧ va_P (dC, dI) vwCl (mo_w ad ck x0 (nI x16) (nI x18) (nI x19) x20 (nI x21) x22 x23 x24 x25 x26 x27 (nI x28) x29 x30 (nI x33) x45 (nI x46) (nI x52) (nI x53) (nI x61) (nI x62) x63 (nI x65) x66 f1 f2 f3 (bN 3 q4) (bN 7 q5) (bN 7 q6) (bN 4 q7) f8 (bN 2 q9) f10 f11 (bN 3 q12) (bN 8 q13) (bN 14 q14) (bM 7 q15) f17 f31 f32 f34 f35 f36 f37 (bN 7 q38) f39 f40 f41 (b2 m42_0 m42_1) f43 f44 f47 f48 f49 f50 f51 (bN 13 q54) f55 f56 f57 (bN 119 q58) f59 f60 f64) H ∧ va_D (fun _ => True) (mo_w ad ck x0 (nI x16) (nI x18) (nI x19) x20 (nI x21) x22 x23 x24 x25 x26 x27 (nI x28) x29 x30 (nI x33) x45 (nI x46) (nI x52) (nI x53) (nI x61) (nI x62) x63 (nI x65) x66 f1 f2 f3 (bN 3 q4) (bN 7 q5) (bN 7 q6) (bN 4 q7) f8 (bN 2 q9) f10 f11 (bN 3 q12) (bN 8 q13) (bN 14 q14) (bM 7 q15) f17 f31 f32 f34 f35 f36 f37 (bN 7 q38) f39 f40 f41 (b2 m42_0 m42_1) f43 f44 f47 f48 f49 f50 f51 (bN 13 q54) f55 f56 f57 (bN 119 q58) f59 f60 f64) ∧ va_S (va_A [] s.heap.size) s.heap H locs ∧ lv_has ls 5 [(0, .ref (ad 0)), (1, .int p0), (2, .int p1), (3, .int g_3), (4, .int (nI g_4))]) 51 ?_ (fun j_12 => ?_)
      · rintro H locs ls st ⟨g_11, rfl, hP, hD, hS, hl⟩
        refine lv_ior hx hb dX9_edgesOf_51 ?_
        refine lv_topi (fun y_13 ey_13 => ?_)
        refine lv_istore_n (lv' := [(3, .int y_13), (0, .ref (ad 0)), (1, .int p0), (2, .int p1), (4, .int (nI g_4))]) hx hb dX9_edgesOf_52 rfl hl (by decide) rfl (fun ls hl => ?_)
        refine lv_iinc (v := (nI (g_4 + 1))) (lv' := [(4, .int (nI (g_4 + 1))), (3, .int y_13), (0, .ref (ad 0)), (1, .int p0), (2, .int p1)]) hx hb dX9_edgesOf_53 hl (k := 4) rfl (nI_1 _) (by decide) rfl (fun ls hl => ?_)
        refine lv_goto (tgt := 5) hx hb dX9_edgesOf_56 (by decide) ?_
        exact ih_5 (14 - (g_4 + 1)) (by omega) _ _ _ ⟨y_13, (g_4 + 1), rfl, by omega, hP, hD, hS, lv_sub hl [2, 3, 4, 1, 0] rfl⟩
      refine lv_icmp_ne (tgt := 50) hx hb dX9_edgesOf_40 (by decide) (fun c_14 => ?_) (fun c_14 => ?_)
      · refine lv_iconst (v := 0) hx hb dX9_edgesOf_50 (by decide) ?_
        exact j_12 _ _ _ _ ⟨0, rfl, hP, hD, hS, lv_sub hl [0, 1, 2, 3, 4] rfl⟩
      · refine lv_iconst (v := 1) hx hb dX9_edgesOf_43 (by decide) ?_
        refine lv_iload hx hb dX9_edgesOf_44 (lv_at hl 4 rfl) ?_
        refine lv_ishl hx hb dX9_edgesOf_46 ?_
        refine lv_topi (fun y_15 ey_15 => ?_)
        refine lv_goto (tgt := 51) hx hb dX9_edgesOf_47 (by decide) ?_
        exact j_12 _ _ _ _ ⟨y_15, rfl, hP, hD, hS, lv_sub hl [0, 1, 2, 3, 4] rfl⟩
    refine lv_if_eq (tgt := 33) hx hb dX9_edgesOf_21 (by decide) (fun c_16 => ?_) (fun c_16 => ?_)
    · refine lv_aload_n hx hb dX9_edgesOf_33 rfl (lv_at hl 0 rfl) ?_
      refine lv_iload hx hb dX9_edgesOf_34 (lv_at hl 4 rfl) ?_
      refine va_calli (va_runV (As := [.int (nI g_4)]) (rest := [.int g_3]) ⟨hx, hb, hml, hown, hts⟩ (c_M_into l dC dI _ ad ck x0 x16 x18 x19 x20 x21 x22 x23 x24 x25 x26 x27 x28 x29 x30 x33 x45 x46 x52 x53 x61 x62 x63 x65 x66 f1 f2 f3 q4 q5 q6 q7 f8 q9 f10 f11 q12 q13 q14 q15 f17 f31 f32 f34 f35 f36 f37 q38 f39 f40 f41 m42_0 m42_1 f43 f44 f47 f48 f49 f50 f51 q54 f55 f56 f57 q58 f59 f60 f64 g_4 (by omega) (by omega) (by omega) (by omega) (by omega) (by omega) (by omega) (by omega) (by omega) (by omega) (by omega) (by omega) (by omega) (by omega) (by omega)) (cwV 1 hts g_M_edgesOf_M_into rfl rfl rfl (by decide +kernel) ⟨Nat.le_of_ble_eq_true rfl, Nat.le_of_ble_eq_true rfl⟩) ⟨pu_bl, va_recv hK hP (ci := 9) (q0 := 0) rfl rfl, pu_in hP hK hD⟩ rfl rfl hl.1 rfl (lv_room (Nat.le_of_ble_eq_true rfl)) dX9_edgesOf_36 ⟨Nat.le_of_ble_eq_true rfl, Nat.le_of_ble_eq_true rfl⟩) hS (fun q _ h => pu_fr hS hA q h) (pu_fr hS hA) (fun r_17 u t H1 locs ht hvm hw hB hz1 hk1 hS => ?_)
      have hP := pu_keep hP hk1
      clear hk1 hz1 ht hvm
      generalize H1 = H at hP hS ⊢
      obtain ⟨v_18, hv_18, rfl⟩ := hw
      exact j_10 _ _ _ _ ⟨v_18, rfl, by omega, hP, hD, hS, lv_sub hl [0, 1, 2, 3, 4] rfl⟩
    · refine lv_aload_n hx hb dX9_edgesOf_24 rfl (lv_at hl 0 rfl) ?_
      refine lv_iload hx hb dX9_edgesOf_25 (lv_at hl 4 rfl) ?_
      refine va_calli (va_runV (As := [.int (nI g_4)]) (rest := [.int g_3]) ⟨hx, hb, hml, hown, hts⟩ (c_M_outOf l dC dI _ ad ck x0 x16 x18 x19 x20 x21 x22 x23 x24 x25 x26 x27 x28 x29 x30 x33 x45 x46 x52 x53 x61 x62 x63 x65 x66 f1 f2 f3 q4 q5 q6 q7 f8 q9 f10 f11 q12 q13 q14 q15 f17 f31 f32 f34 f35 f36 f37 q38 f39 f40 f41 m42_0 m42_1 f43 f44 f47 f48 f49 f50 f51 q54 f55 f56 f57 q58 f59 f60 f64 g_4 (by omega) (by omega) (by omega) (by omega) (by omega) (by omega) (by omega) (by omega) (by omega) (by omega) (by omega) (by omega) (by omega) (by omega) (by omega)) (cwV 1 hts g_M_edgesOf_M_outOf rfl rfl rfl (by decide +kernel) ⟨Nat.le_of_ble_eq_true rfl, Nat.le_of_ble_eq_true rfl⟩) ⟨pu_bl, va_recv hK hP (ci := 9) (q0 := 0) rfl rfl, pu_in hP hK hD⟩ rfl rfl hl.1 rfl (lv_room (Nat.le_of_ble_eq_true rfl)) dX9_edgesOf_27 ⟨Nat.le_of_ble_eq_true rfl, Nat.le_of_ble_eq_true rfl⟩) hS (fun q _ h => pu_fr hS hA q h) (pu_fr hS hA) (fun r_19 u t H1 locs ht hvm hw hB hz1 hk1 hS => ?_)
      have hP := pu_keep hP hk1
      clear hk1 hz1 ht hvm
      generalize H1 = H at hP hS ⊢
      obtain ⟨v_20, hv_20, rfl⟩ := hw
      refine lv_goto (tgt := 39) hx hb dX9_edgesOf_30 (by decide) ?_
      exact j_10 _ _ _ _ ⟨v_20, rfl, by omega, hP, hD, hS, lv_sub hl [0, 1, 2, 3, 4] rfl⟩
