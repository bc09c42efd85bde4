theorem dX9_goesBack_0 : decode cX9_goesBack 0 = .ok (.iconst 0, 1) := by decide +kernel
theorem dX9_goesBack_1 : decode cX9_goesBack 1 = .ok (.istore_n 3, 1) := by decide +kernel
theorem dX9_goesBack_2 : decode cX9_goesBack 2 = .ok (.iload_n 3, 1) := by decide +kernel
theorem dX9_goesBack_3 : decode cX9_goesBack 3 = .ok (.aload_n 0, 1) := by decide +kernel
theorem dX9_goesBack_4 : decode cX9_goesBack 4 = .ok (.getfield 328, 3) := by decide +kernel
theorem dX9_goesBack_7 : decode cX9_goesBack 7 = .ok (.if_icmp .ge 31, 3) := by decide +kernel
theorem dX9_goesBack_10 : decode cX9_goesBack 10 = .ok (.aload_n 1, 1) := by decide +kernel
theorem dX9_goesBack_11 : decode cX9_goesBack 11 = .ok (.iconst 5, 1) := by decide +kernel
theorem dX9_goesBack_12 : decode cX9_goesBack 12 = .ok (.iload_n 2, 1) := by decide +kernel
theorem dX9_goesBack_13 : decode cX9_goesBack 13 = .ok (.imul, 1) := by decide +kernel
theorem dX9_goesBack_14 : decode cX9_goesBack 14 = .ok (.iload_n 3, 1) := by decide +kernel
theorem dX9_goesBack_15 : decode cX9_goesBack 15 = .ok (.iadd, 1) := by decide +kernel
theorem dX9_goesBack_16 : decode cX9_goesBack 16 = .ok (.aload_n 1, 1) := by decide +kernel
theorem dX9_goesBack_17 : decode cX9_goesBack 17 = .ok (.iload_n 3, 1) := by decide +kernel
theorem dX9_goesBack_18 : decode cX9_goesBack 18 = .ok (.iaload, 1) := by decide +kernel
theorem dX9_goesBack_19 : decode cX9_goesBack 19 = .ok (.iastore, 1) := by decide +kernel
theorem dX9_goesBack_20 : decode cX9_goesBack 20 = .ok (.aload_n 1, 1) := by decide +kernel
theorem dX9_goesBack_21 : decode cX9_goesBack 21 = .ok (.iconst 5, 1) := by decide +kernel
theorem dX9_goesBack_22 : decode cX9_goesBack 22 = .ok (.iload_n 3, 1) := by decide +kernel
theorem dX9_goesBack_23 : decode cX9_goesBack 23 = .ok (.imul, 1) := by decide +kernel
theorem dX9_goesBack_24 : decode cX9_goesBack 24 = .ok (.iload_n 2, 1) := by decide +kernel
theorem dX9_goesBack_25 : decode cX9_goesBack 25 = .ok (.iadd, 1) := by decide +kernel
theorem dX9_goesBack_26 : decode cX9_goesBack 26 = .ok (.aload_n 1, 1) := by decide +kernel
theorem dX9_goesBack_27 : decode cX9_goesBack 27 = .ok (.iconst 5, 1) := by decide +kernel
theorem dX9_goesBack_28 : decode cX9_goesBack 28 = .ok (.iload_n 3, 1) := by decide +kernel
theorem dX9_goesBack_29 : decode cX9_goesBack 29 = .ok (.imul, 1) := by decide +kernel
theorem dX9_goesBack_30 : decode cX9_goesBack 30 = .ok (.iaload, 1) := by decide +kernel
theorem dX9_goesBack_31 : decode cX9_goesBack 31 = .ok (.iastore, 1) := by decide +kernel
theorem dX9_goesBack_32 : decode cX9_goesBack 32 = .ok (.iinc 3 1, 3) := by decide +kernel
theorem dX9_goesBack_35 : decode cX9_goesBack 35 = .ok (.goto (-33), 3) := by decide +kernel
theorem dX9_goesBack_38 : decode cX9_goesBack 38 = .ok (.aload_n 1, 1) := by decide +kernel
theorem dX9_goesBack_39 : decode cX9_goesBack 39 = .ok (.iconst 5, 1) := by decide +kernel
theorem dX9_goesBack_40 : decode cX9_goesBack 40 = .ok (.iload_n 2, 1) := by decide +kernel
theorem dX9_goesBack_41 : decode cX9_goesBack 41 = .ok (.imul, 1) := by decide +kernel
theorem dX9_goesBack_42 : decode cX9_goesBack 42 = .ok (.iload_n 2, 1) := by decide +kernel
theorem dX9_goesBack_43 : decode cX9_goesBack 43 = .ok (.iadd, 1) := by decide +kernel
theorem dX9_goesBack_44 : decode cX9_goesBack 44 = .ok (.iconst 1, 1) := by decide +kernel
theorem dX9_goesBack_45 : decode cX9_goesBack 45 = .ok (.iastore, 1) := by decide +kernel
theorem dX9_goesBack_46 : decode cX9_goesBack 46 = .ok (.return_, 1) := by decide +kernel
abbrev vs_EM_goesBack : List Cond := .code yX9_goesBack cX9_goesBack 4 none :: VM
noncomputable def sp_EM_goesBack_L1 (x46 : Nat) (a1 : Nat) : ((Nat → Int32) × Nat) → ((Nat → Int32) × Nat) ⊕ ((Nat → Int32)) := fun (g_3, g_4) => (if x46 ≤ g_4 then (Sum.inr (slet (upd g_3 ((5 * a1) + a1) 1) (fun f_14 => f_14))) else (slet (g_3 g_4) (fun y_17 => (slet (upd g_3 ((5 * a1) + g_4) y_17) (fun f_18 => (slet (f_18 (5 * g_4)) (fun y_22 => (slet (upd f_18 ((5 * g_4) + a1) y_22) (fun f_23 => (Sum.inl (f_23, (g_4 + 1))))))))))))
noncomputable def sp_EM_goesBack (x46 : Nat) (f35 : Nat → Int32) (a1 : Nat) : (Nat → Int32) := (itrv (α := (Nat → Int32) × Nat) (β := ((Nat → Int32))) default (sp_EM_goesBack_L1 x46 a1) (f35, 0))
set_option maxHeartbeats 4000000 in
set_option maxRecDepth 100000 in
theorem c_EM_goesBack (l : Launch) (dC : Nat → ClassId) (dI : Nat → Nat → Nat) (sz : Nat) (ad : Nat → Nat) (ck : Nat → ClassId) (x0 : Int32) (x16 : Nat) (x18 : Nat) (x19 : Nat) (x20 : Int32) (x21 : Nat) (x22 : Nat) (x23 : Int32) (x24 : Int32) (x25 : Int32) (x26 : Nat) (x27 : Int32) (x28 : Nat) (x29 : Nat) (x30 : Nat) (x33 : Nat) (x45 : Int32) (x46 : Nat) (x52 : Nat) (x53 : Nat) (x61 : Nat) (x62 : Nat) (x63 : Nat) (x65 : Nat) (x66 : Int32) (f1 : Nat → Int32) (f2 : Nat → Int32) (f3 : Nat → Int32) (q4 : Nat → Nat) (q5 : Nat → Nat) (q6 : Nat → Nat) (q7 : Nat → Nat) (f8 : Nat → Int32) (q9 : Nat → Nat) (q10 : Nat → Nat) (f11 : Nat → Int32) (m12_0 m12_1 : Nat) (m13_0 m13_1 : Nat) (m14_0 m14_1 : Nat) (m15_0 m15_1 : Nat) (f17 : Nat → Int32) (q31 : Nat → Nat) (f32 : Nat → Int32) (f34 : Nat → Int32) (f35 : Nat → Int32) (f36 : Nat → Int32) (f37 : Nat → Int32) (q38 : Nat → Nat) (f39 : Nat → Int32) (f40 : Nat → Int32) (f41 : Nat → Int32) (m42_0 m42_1 : Nat) (f43 : Nat → Int32) (f44 : Nat → Int32) (f47 : Nat → Int32) (f48 : Nat → Int32) (f49 : Nat → Int32) (f50 : Nat → Int32) (f51 : Nat → Int32) (q54 : Nat → Nat) (q55 : Nat → Nat) (q56 : Nat → Nat) (f57 : Nat → Int32) (q58 : Nat → Nat) (f59 : Nat → Int32) (f60 : Nat → Int32) (f64 : Nat → Int32) (a1 : Nat) (hx16 : x16 ≤ 1) (hx18 : x18 ≤ 900) (hx19 : x19 ≤ 900) (hx21 : x21 ≤ 900) (hx22 : x22 ≤ 4) (hx26 : x26 ≤ 6) (hx28 : x28 ≤ 1) (hx29 : x29 ≤ 1) (hx30 : x30 ≤ 1) (hx33 : x33 ≤ 20) (hx46 : x46 ≤ 5) (hx52 : x52 ≤ 2400) (hx53 : x53 ≤ 119) (hx61 : x61 ≤ 119) (hx62 : x62 ≤ 2000) (hx63 : x63 ≤ 1) (hx65 : x65 ≤ 7) (hm12_0 : m12_0 ≤ 3) (hm12_1 : m12_1 ≤ 3) (hm13_0 : m13_0 ≤ 8) (hm13_1 : m13_1 ≤ 8) (hm14_0 : m14_0 ≤ 14) (hm14_1 : m14_1 ≤ 14) (hm15_0 : m15_0 ≤ 8) (hm15_1 : m15_1 ≤ 8) (hm42_0 : m42_0 ≤ 120) (hm42_1 : m42_1 ≤ 400) (ha1 : a1 ≤ 3) : Met l yX9_goesBack vs_EM_goesBack ({ frames := 0, cells := 0, slots := 0, locals := 0 }) (va_Pc [.ref (ad 0), .ref (ad 35), .int (nI a1)] (pu_B (dC, dI) (mo_w ad ck x0 (nI x16) (nI x18) (nI x19) x20 (nI x21) (nI x22) x23 x24 x25 (nI x26) x27 (nI x28) (nI x29) (nI x30) (nI x33) x45 (nI x46) (nI x52) (nI x53) (nI x61) (nI x62) (nI x63) (nI x65) x66 f1 f2 f3 (bN 3 q4) (bN 7 q5) (bN 7 q6) (bN 4 q7) f8 (bN 2 q9) (bH q10) f11 (b2 m12_0 m12_1) (b2 m13_0 m13_1) (b2 m14_0 m14_1) (b2m m15_0 m15_1) f17 (bA 159 q31) f32 f34 f35 f36 f37 (bN 7 q38) f39 f40 f41 (b2 m42_0 m42_1) f43 f44 f47 f48 f49 f50 f51 (bN 13 q54) (bN 120 q55) (bN 120 q56) f57 (bN 120 q58) f59 f60 f64) (mo_t ck) sz)) (va_Qv (fun (_ : Unit) => True) (fun _ t => ∃ (z35 : Nat → Int32), pu_E (dC, dI) (mo_w ad ck x0 (nI x16) (nI x18) (nI x19) x20 (nI x21) (nI x22) x23 x24 x25 (nI x26) x27 (nI x28) (nI x29) (nI x30) (nI x33) x45 (nI x46) (nI x52) (nI x53) (nI x61) (nI x62) (nI x63) (nI x65) x66 f1 f2 f3 (bN 3 q4) (bN 7 q5) (bN 7 q6) (bN 4 q7) f8 (bN 2 q9) (bH q10) f11 (b2 m12_0 m12_1) (b2 m13_0 m13_1) (b2 m14_0 m14_1) (b2m m15_0 m15_1) f17 (bA 159 q31) f32 f34 z35 f36 f37 (bN 7 q38) f39 f40 f41 (b2 m42_0 m42_1) f43 f44 f47 f48 f49 f50 f51 (bN 13 q54) (bN 120 q55) (bN 120 q56) f57 (bN 120 q58) f59 f60 f64) (mo_t ck) (va_A ((mo_w ad ck x0 (nI x16) (nI x18) (nI x19) x20 (nI x21) (nI x22) x23 x24 x25 (nI x26) x27 (nI x28) (nI x29) (nI x30) (nI x33) x45 (nI x46) (nI x52) (nI x53) (nI x61) (nI x62) (nI x63) (nI x65) x66 f1 f2 f3 (bN 3 q4) (bN 7 q5) (bN 7 q6) (bN 4 q7) f8 (bN 2 q9) (bH q10) f11 (b2 m12_0 m12_1) (b2 m13_0 m13_1) (b2 m14_0 m14_1) (b2m m15_0 m15_1) f17 (bA 159 q31) f32 f34 f35 f36 f37 (bN 7 q38) f39 f40 f41 (b2 m42_0 m42_1) f43 f44 f47 f48 f49 f50 f51 (bN 13 q54) (bN 120 q55) (bN 120 q56) f57 (bN 120 q58) f59 f60 f64)) sz) t ∧ (z35 = (sp_EM_goesBack x46 f35 a1))) (va_A ((mo_w ad ck x0 (nI x16) (nI x18) (nI x19) x20 (nI x21) (nI x22) x23 x24 x25 (nI x26) x27 (nI x28) (nI x29) (nI x30) (nI x33) x45 (nI x46) (nI x52) (nI x53) (nI x61) (nI x62) (nI x63) (nI x65) x66 f1 f2 f3 (bN 3 q4) (bN 7 q5) (bN 7 q6) (bN 4 q7) f8 (bN 2 q9) (bH q10) f11 (b2 m12_0 m12_1) (b2 m13_0 m13_1) (b2 m14_0 m14_1) (b2m m15_0 m15_1) f17 (bA 159 q31) f32 f34 f35 f36 f37 (bN 7 q38) f39 f40 f41 (b2 m42_0 m42_1) f43 f44 f47 f48 f49 f50 f51 (bN 13 q54) (bN 120 q55) (bN 120 q56) f57 (bN 120 q58) f59 f60 f64)) sz)) 0 0 (va_A ((mo_w ad ck x0 (nI x16) (nI x18) (nI x19) x20 (nI x21) (nI x22) x23 x24 x25 (nI x26) x27 (nI x28) (nI x29) (nI x30) (nI x33) x45 (nI x46) (nI x52) (nI x53) (nI x61) (nI x62) (nI x63) (nI x65) x66 f1 f2 f3 (bN 3 q4) (bN 7 q5) (bN 7 q6) (bN 4 q7) f8 (bN 2 q9) (bH q10) f11 (b2 m12_0 m12_1) (b2 m13_0 m13_1) (b2 m14_0 m14_1) (b2m m15_0 m15_1) f17 (bA 159 q31) f32 f34 f35 f36 f37 (bN 7 q38) f39 f40 f41 (b2 m42_0 m42_1) f43 f44 f47 f48 f49 f50 f51 (bN 13 q54) (bN 120 q55) (bN 120 q56) f57 (bN 120 q58) f59 f60 f64)) sz) := by
  refine Met.ofW (cc := cX9_goesBack) (maxL := 4) (ret := none) (by decide) rfl ?_
  intro p e s m args below meth c s₁ B hml hv
  obtain ⟨rfl, rfl, hP, hK, hD0⟩ := hv
  have hx := B.exec
  have hb := B.bytes
  have hr := B.returns
  have hts := atoms_spec (ws := vs_EM_goesBack) B.pre
  have v_1 := hts (.fieldLink RX9 328 "ClockReachModel" "side" "I") (List.mem_cons_of_mem _ vm_196)
  have hown : s.vm.findClass RX9 = some m.cls := findClass_of_methodNamed B.named
  have hlocks := B.notSynchronized
  have hiX9 : ∀ w ∈ wsX90, w ∈ vs_EM_goesBack := fun _ h => List.mem_cons_of_mem _ (vmi_L h)
  have hD := hD0.self (sz := s.heap.size)
  generalize hAe : va_A ((mo_w ad ck x0 (nI x16) (nI x18) (nI x19) x20 (nI x21) (nI x22) x23 x24 x25 (nI x26) x27 (nI x28) (nI x29) (nI x30) (nI x33) x45 (nI x46) (nI x52) (nI x53) (nI x61) (nI x62) (nI x63) (nI x65) x66 f1 f2 f3 (bN 3 q4) (bN 7 q5) (bN 7 q6) (bN 4 q7) f8 (bN 2 q9) (bH q10) f11 (b2 m12_0 m12_1) (b2 m13_0 m13_1) (b2 m14_0 m14_1) (b2m m15_0 m15_1) f17 (bA 159 q31) f32 f34 f35 f36 f37 (bN 7 q38) f39 f40 f41 (b2 m42_0 m42_1) f43 f44 f47 f48 f49 f50 f51 (bN 13 q54) (bN 120 q55) (bN 120 q56) f57 (bN 120 q58) f59 f60 f64)) s.heap.size = A at hD ⊢
  have hA : ∀ q : Nat, s.heap.size ≤ q → A q := fun q h => by rw [← hAe]; exact Or.inr h
  have hS : va_S A s.heap s.heap [] := va_S.rf
  have hl := lv_entry ([.ref (ad 0), .ref (ad 35), .int (nI a1)]) (n := 4) (Nat.le_of_ble_eq_true rfl)
  rw [lg_entry_eq]
  generalize (lg_sl ([.ref (ad 0), .ref (ad 35), .int (nI a1)]) ++ List.replicate (4 - (lg_sl ([.ref (ad 0), .ref (ad 35), .int (nI a1)])).length) Slot.unset).toArray = ls at hl ⊢
  have hl : lv_has ls 4 [(0, .ref (ad 0)), (1, .ref (ad 35)), (2, .int (nI a1))] := hl
  obtain ⟨RR, hRR⟩ : ∃ x, x = (sp_EM_goesBack x46 f35 a1) := ⟨_, rfl⟩
  have hsp := hRR
  refine lv_iconst (v := 0) hx hb dX9_goesBack_0 (by decide) ?_
  refine lv_istore_n (lv' := [(3, .int 0), (0, .ref (ad 0)), (1, .ref (ad 35)), (2, .int (nI a1))]) hx hb dX9_goesBack_1 rfl hl (by decide) rfl (fun ls hl => ?_)
  obtain ⟨lf_6, dlf_6, hlf_6, hsp⟩ := itr_ex hsp
  delta sp_EM_goesBack_L1 at hlf_6
  refine pu_while (fun nn H locs ls => ∃ (g_3 : Nat → Int32) (g_4 : Nat), nn = 5 - g_4 ∧ g_4 ≤ 5 ∧ RR = itrv dlf_6 lf_6 (g_3, g_4) ∧ va_P (dC, dI) vwCl (mo_w ad ck x0 (nI x16) (nI x18) (nI x19) x20 (nI x21) (nI x22) x23 x24 x25 (nI x26) x27 (nI x28) (nI x29) (nI x30) (nI x33) x45 (nI x46) (nI x52) (nI x53) (nI x61) (nI x62) (nI x63) (nI x65) x66 f1 f2 f3 (bN 3 q4) (bN 7 q5) (bN 7 q6) (bN 4 q7) f8 (bN 2 q9) (bH q10) f11 (b2 m12_0 m12_1) (b2 m13_0 m13_1) (b2 m14_0 m14_1) (b2m m15_0 m15_1) f17 (bA 159 q31) f32 f34 g_3 f36 f37 (bN 7 q38) f39 f40 f41 (b2 m42_0 m42_1) f43 f44 f47 f48 f49 f50 f51 (bN 13 q54) (bN 120 q55) (bN 120 q56) f57 (bN 120 q58) f59 f60 f64) H ∧ va_D A (mo_w ad ck x0 (nI x16) (nI x18) (nI x19) x20 (nI x21) (nI x22) x23 x24 x25 (nI x26) x27 (nI x28) (nI x29) (nI x30) (nI x33) x45 (nI x46) (nI x52) (nI x53) (nI x61) (nI x62) (nI x63) (nI x65) x66 f1 f2 f3 (bN 3 q4) (bN 7 q5) (bN 7 q6) (bN 4 q7) f8 (bN 2 q9) (bH q10) f11 (b2 m12_0 m12_1) (b2 m13_0 m13_1) (b2 m14_0 m14_1) (b2m m15_0 m15_1) f17 (bA 159 q31) f32 f34 g_3 f36 f37 (bN 7 q38) f39 f40 f41 (b2 m42_0 m42_1) f43 f44 f47 f48 f49 f50 f51 (bN 13 q54) (bN 120 q55) (bN 120 q56) f57 (bN 120 q58) f59 f60 f64) ∧ va_S A s.heap H locs ∧ lv_has ls 4 [(0, .ref (ad 0)), (1, .ref (ad 35)), (2, .int (nI a1)), (3, .int (nI g_4))]) 2 ?_ _ _ _ _ ⟨f35, 0, rfl, (Nat.le_of_ble_eq_true rfl), hsp, hP, hD, hS, lv_sub hl [1, 2, 3, 0] rfl⟩
  rintro nn ih_5 H locs ls ⟨g_3, g_4, rfl, hg_4, he_8, hP, hD, hS, hl⟩
  obtain ⟨S_7, hsp, hin_9, hout_10⟩ := itr_step hlf_6 he_8
  refine lv_iload_n hx hb dX9_goesBack_2 rfl (lv_at hl 3 rfl) ?_
  refine lv_aload_n hx hb dX9_goesBack_3 rfl (lv_at hl 0 rfl) ?_
  refine va_get (D := (dC, dI)) (ci := 9) (v := .int (nI x46)) (C := RX9) (T := TX9) (N := 67) hx hb hts hiX9 hown hK hP 0 rfl rfl 46 (by decide) v_1 (fun _ h9 => h9) rfl dX9_goesBack_4 ?_
  refine lv_icmp_ge (tgt := 38) hx hb dX9_goesBack_7 (by decide) (fun c_11 => ?_) (fun c_11 => ?_)
  · have c_11 : x46 ≤ g_4 := (nI_leI (a := x46) (b := g_4) (Nat.lt_of_le_of_lt hx46 (Nat.le_of_ble_eq_true rfl)) (Nat.lt_of_le_of_lt hg_4 (Nat.le_of_ble_eq_true rfl))).mp c_11
    replace hsp := hsp.trans (if_pos c_11)
    have hsp := hout_10 _ hsp
    refine lv_aload_n hx hb dX9_goesBack_38 rfl (lv_at hl 1 rfl) ?_
    refine lv_iconst (v := 5) hx hb dX9_goesBack_39 (by decide) ?_
    refine lv_iload_n hx hb dX9_goesBack_40 rfl (lv_at hl 2 rfl) ?_
    refine lv_imul hx hb dX9_goesBack_41 ?_
    refine lv_topi (fun y_12 ey_12 => ?_)
    obtain rfl : y_12 = (nI (5 * a1)) := ey_12.trans (pk_mul 5 a1)
    refine lv_iload_n hx hb dX9_goesBack_42 rfl (lv_at hl 2 rfl) ?_
    refine lv_iadd hx hb dX9_goesBack_43 ?_
    refine lv_topi (fun y_13 ey_13 => ?_)
    obtain rfl : y_13 = (nI ((5 * a1) + a1)) := ey_13.trans (nI_add (5 * a1) a1)
    refine lv_iconst (v := 1) hx hb dX9_goesBack_44 (by decide) ?_
    refine va_iast hx hb hK hP hD hS 20 19 rfl rfl (vp_in_nI (n := ((5 * a1) + a1)) (by omega) (Nat.le_of_ble_eq_true rfl)) dX9_goesBack_45 (fun H locs hP hD hS => ?_)
    obtain ⟨f_14, ef_14, xf_14⟩ := up_x g_3 (n := ((5 * a1) + a1)) 1 (by first | omega | exact Nat.lt_trans (zx16 (by omega) (by omega) (by omega)) (Nat.le_of_ble_eq_true rfl) | exact Nat.lt_trans (zy16 (by omega) (by omega)) (Nat.le_of_ble_eq_true rfl) | exact Nat.lt_trans (zx25 (by omega) (by omega) (by omega)) (Nat.le_of_ble_eq_true rfl) | exact Nat.lt_trans (zy25 (by omega) (by omega)) (Nat.le_of_ble_eq_true rfl))
    have hP : va_P (dC, dI) vwCl (mo_w ad ck x0 (nI x16) (nI x18) (nI x19) x20 (nI x21) (nI x22) x23 x24 x25 (nI x26) x27 (nI x28) (nI x29) (nI x30) (nI x33) x45 (nI x46) (nI x52) (nI x53) (nI x61) (nI x62) (nI x63) (nI x65) x66 f1 f2 f3 (bN 3 q4) (bN 7 q5) (bN 7 q6) (bN 4 q7) f8 (bN 2 q9) (bH q10) f11 (b2 m12_0 m12_1) (b2 m13_0 m13_1) (b2 m14_0 m14_1) (b2m m15_0 m15_1) f17 (bA 159 q31) f32 f34 f_14 f36 f37 (bN 7 q38) f39 f40 f41 (b2 m42_0 m42_1) f43 f44 f47 f48 f49 f50 f51 (bN 13 q54) (bN 120 q55) (bN 120 q56) f57 (bN 120 q58) f59 f60 f64) H := by rw [← ef_14]; exact hP
    have hD : va_D A (mo_w ad ck x0 (nI x16) (nI x18) (nI x19) x20 (nI x21) (nI x22) x23 x24 x25 (nI x26) x27 (nI x28) (nI x29) (nI x30) (nI x33) x45 (nI x46) (nI x52) (nI x53) (nI x61) (nI x62) (nI x63) (nI x65) x66 f1 f2 f3 (bN 3 q4) (bN 7 q5) (bN 7 q6) (bN 4 q7) f8 (bN 2 q9) (bH q10) f11 (b2 m12_0 m12_1) (b2 m13_0 m13_1) (b2 m14_0 m14_1) (b2m m15_0 m15_1) f17 (bA 159 q31) f32 f34 f_14 f36 f37 (bN 7 q38) f39 f40 f41 (b2 m42_0 m42_1) f43 f44 f47 f48 f49 f50 f51 (bN 13 q54) (bN 120 q55) (bN 120 q56) f57 (bN 120 q58) f59 f60 f64) := by rw [← ef_14]; exact hD
    replace hsp := hsp.trans (slet_eq xf_14)
    exact W.vret hx hb hr (fun t ht hW => ⟨⟨(), rfl, trivial, ⟨f_14, ⟨by rw [ht]; exact hP, va_K.moved hW.alike hK, hD⟩, (hsp.symm.trans hRR)⟩⟩, hS.F ht⟩) hS.2.2 dX9_goesBack_46
  · have c_11 : ¬ x46 ≤ g_4 := fun z => c_11 ((nI_leI (a := x46) (b := g_4) (Nat.lt_of_le_of_lt hx46 (Nat.le_of_ble_eq_true rfl)) (Nat.lt_of_le_of_lt hg_4 (Nat.le_of_ble_eq_true rfl))).mpr z)
    replace hsp := hsp.trans (if_neg c_11)
    refine lv_aload_n hx hb dX9_goesBack_10 rfl (lv_at hl 1 rfl) ?_
    refine lv_iconst (v := 5) hx hb dX9_goesBack_11 (by decide) ?_
    refine lv_iload_n hx hb dX9_goesBack_12 rfl (lv_at hl 2 rfl) ?_
    refine lv_imul hx hb dX9_goesBack_13 ?_
    refine lv_topi (fun y_15 ey_15 => ?_)
    obtain rfl : y_15 = (nI (5 * a1)) := ey_15.trans (pk_mul 5 a1)
    refine lv_iload_n hx hb dX9_goesBack_14 rfl (lv_at hl 3 rfl) ?_
    refine lv_iadd hx hb dX9_goesBack_15 ?_
    refine lv_topi (fun y_16 ey_16 => ?_)
    obtain rfl : y_16 = (nI ((5 * a1) + g_4)) := ey_16.trans (nI_add (5 * a1) g_4)
    refine lv_aload_n hx hb dX9_goesBack_16 rfl (lv_at hl 1 rfl) ?_
    refine lv_iload_n hx hb dX9_goesBack_17 rfl (lv_at hl 3 rfl) ?_
    refine va_iald hx hb hK hP 20 19 rfl rfl (vp_in_nI (n := g_4) (Nat.lt_of_le_of_lt hg_4 (Nat.le_of_ble_eq_true rfl)) (Nat.le_of_ble_eq_true rfl)) dX9_goesBack_18 ?_
    refine lv_topi (fun y_17 ey_17 => ?_)
    have ey_17 : y_17 = g_3 g_4 := ey_17.trans (congrArg g_3 (nI_clamp (n := g_4) (Nat.lt_of_le_of_lt hg_4 (Nat.le_of_ble_eq_true rfl))))
    replace hsp := hsp.trans (slet_eq ey_17)
    refine va_iast hx hb hK hP hD hS 20 19 rfl rfl (vp_in_nI (n := ((5 * a1) + g_4)) (by omega) (Nat.le_of_ble_eq_true rfl)) dX9_goesBack_19 (fun H locs hP hD hS => ?_)
    obtain ⟨f_18, ef_18, xf_18⟩ := up_x g_3 (n := ((5 * a1) + g_4)) y_17 (by first | omega | exact Nat.lt_trans (zx16 (by omega) (by omega) (by omega)) (Nat.le_of_ble_eq_true rfl) | exact Nat.lt_trans (zy16 (by omega) (by omega)) (Nat.le_of_ble_eq_true rfl) | exact Nat.lt_trans (zx25 (by omega) (by omega) (by omega)) (Nat.le_of_ble_eq_true rfl) | exact Nat.lt_trans (zy25 (by omega) (by omega)) (Nat.le_of_ble_eq_true rfl))
    have hP : va_P (dC, dI) vwCl (mo_w ad ck x0 (nI x16) (nI x18) (nI x19) x20 (nI x21) (nI x22) x23 x24 x25 (nI x26) x27 (nI x28) (nI x29) (nI x30) (nI x33) x45 (nI x46) (nI x52) (nI x53) (nI x61) (nI x62) (nI x63) (nI x65) x66 f1 f2 f3 (bN 3 q4) (bN 7 q5) (bN 7 q6) (bN 4 q7) f8 (bN 2 q9) (bH q10) f11 (b2 m12_0 m12_1) (b2 m13_0 m13_1) (b2 m14_0 m14_1) (b2m m15_0 m15_1) f17 (bA 159 q31) f32 f34 f_18 f36 f37 (bN 7 q38) f39 f40 f41 (b2 m42_0 m42_1) f43 f44 f47 f48 f49 f50 f51 (bN 13 q54) (bN 120 q55) (bN 120 q56) f57 (bN 120 q58) f59 f60 f64) H := by rw [← ef_18]; exact hP
    have hD : va_D A (mo_w ad ck x0 (nI x16) (nI x18) (nI x19) x20 (nI x21) (nI x22) x23 x24 x25 (nI x26) x27 (nI x28) (nI x29) (nI x30) (nI x33) x45 (nI x46) (nI x52) (nI x53) (nI x61) (nI x62) (nI x63) (nI x65) x66 f1 f2 f3 (bN 3 q4) (bN 7 q5) (bN 7 q6) (bN 4 q7) f8 (bN 2 q9) (bH q10) f11 (b2 m12_0 m12_1) (b2 m13_0 m13_1) (b2 m14_0 m14_1) (b2m m15_0 m15_1) f17 (bA 159 q31) f32 f34 f_18 f36 f37 (bN 7 q38) f39 f40 f41 (b2 m42_0 m42_1) f43 f44 f47 f48 f49 f50 f51 (bN 13 q54) (bN 120 q55) (bN 120 q56) f57 (bN 120 q58) f59 f60 f64) := by rw [← ef_18]; exact hD
    replace hsp := hsp.trans (slet_eq xf_18)
    refine lv_aload_n hx hb dX9_goesBack_20 rfl (lv_at hl 1 rfl) ?_
    refine lv_iconst (v := 5) hx hb dX9_goesBack_21 (by decide) ?_
    refine lv_iload_n hx hb dX9_goesBack_22 rfl (lv_at hl 3 rfl) ?_
    refine lv_imul hx hb dX9_goesBack_23 ?_
    refine lv_topi (fun y_19 ey_19 => ?_)
    obtain rfl : y_19 = (nI (5 * g_4)) := ey_19.trans (pk_mul 5 g_4)
    refine lv_iload_n hx hb dX9_goesBack_24 rfl (lv_at hl 2 rfl) ?_
    refine lv_iadd hx hb dX9_goesBack_25 ?_
    refine lv_topi (fun y_20 ey_20 => ?_)
    obtain rfl : y_20 = (nI ((5 * g_4) + a1)) := ey_20.trans (nI_add (5 * g_4) a1)
    refine lv_aload_n hx hb dX9_goesBack_26 rfl (lv_at hl 1 rfl) ?_
    refine lv_iconst (v := 5) hx hb dX9_goesBack_27 (by decide) ?_
    refine lv_iload_n hx hb dX9_goesBack_28 rfl (lv_at hl 3 rfl) ?_
    refine lv_imul hx hb dX9_goesBack_29 ?_
    refine lv_topi (fun y_21 ey_21 => ?_)
    obtain rfl : y_21 = (nI (5 * g_4)) := ey_21.trans (pk_mul 5 g_4)
    refine va_iald hx hb hK hP 20 19 rfl rfl (vp_in_nI (n := (5 * g_4)) (by omega) (Nat.le_of_ble_eq_true rfl)) dX9_goesBack_30 ?_
    refine lv_topi (fun y_22 ey_22 => ?_)
    have ey_22 : y_22 = f_18 (5 * g_4) := ey_22.trans (congrArg f_18 (nI_clamp (n := (5 * g_4)) (by first | omega | exact Nat.lt_trans (zx16 (by omega) (by omega) (by omega)) (Nat.le_of_ble_eq_true rfl) | exact Nat.lt_trans (zy16 (by omega) (by omega)) (Nat.le_of_ble_eq_true rfl) | exact Nat.lt_trans (zx25 (by omega) (by omega) (by omega)) (Nat.le_of_ble_eq_true rfl) | exact Nat.lt_trans (zy25 (by omega) (by omega)) (Nat.le_of_ble_eq_true rfl))))
    replace hsp := hsp.trans (slet_eq ey_22)
    refine va_iast hx hb hK hP hD hS 20 19 rfl rfl (vp_in_nI (n := ((5 * g_4) + a1)) (by omega) (Nat.le_of_ble_eq_true rfl)) dX9_goesBack_31 (fun H locs hP hD hS => ?_)
    obtain ⟨f_23, ef_23, xf_23⟩ := up_x f_18 (n := ((5 * g_4) + a1)) y_22 (by first | omega | exact Nat.lt_trans (zx16 (by omega) (by omega) (by omega)) (Nat.le_of_ble_eq_true rfl) | exact Nat.lt_trans (zy16 (by omega) (by omega)) (Nat.le_of_ble_eq_true rfl) | exact Nat.lt_trans (zx25 (by omega) (by omega) (by omega)) (Nat.le_of_ble_eq_true rfl) | exact Nat.lt_trans (zy25 (by omega) (by omega)) (Nat.le_of_ble_eq_true rfl))
    have hP : va_P (dC, dI) vwCl (mo_w ad ck x0 (nI x16) (nI x18) (nI x19) x20 (nI x21) (nI x22) x23 x24 x25 (nI x26) x27 (nI x28) (nI x29) (nI x30) (nI x33) x45 (nI x46) (nI x52) (nI x53) (nI x61) (nI x62) (nI x63) (nI x65) x66 f1 f2 f3 (bN 3 q4) (bN 7 q5) (bN 7 q6) (bN 4 q7) f8 (bN 2 q9) (bH q10) f11 (b2 m12_0 m12_1) (b2 m13_0 m13_1) (b2 m14_0 m14_1) (b2m m15_0 m15_1) f17 (bA 159 q31) f32 f34 f_23 f36 f37 (bN 7 q38) f39 f40 f41 (b2 m42_0 m42_1) f43 f44 f47 f48 f49 f50 f51 (bN 13 q54) (bN 120 q55) (bN 120 q56) f57 (bN 120 q58) f59 f60 f64) H := by rw [← ef_23]; exact hP
    have hD : va_D A (mo_w ad ck x0 (nI x16) (nI x18) (nI x19) x20 (nI x21) (nI x22) x23 x24 x25 (nI x26) x27 (nI x28) (nI x29) (nI x30) (nI x33) x45 (nI x46) (nI x52) (nI x53) (nI x61) (nI x62) (nI x63) (nI x65) x66 f1 f2 f3 (bN 3 q4) (bN 7 q5) (bN 7 q6) (bN 4 q7) f8 (bN 2 q9) (bH q10) f11 (b2 m12_0 m12_1) (b2 m13_0 m13_1) (b2 m14_0 m14_1) (b2m m15_0 m15_1) f17 (bA 159 q31) f32 f34 f_23 f36 f37 (bN 7 q38) f39 f40 f41 (b2 m42_0 m42_1) f43 f44 f47 f48 f49 f50 f51 (bN 13 q54) (bN 120 q55) (bN 120 q56) f57 (bN 120 q58) f59 f60 f64) := by rw [← ef_23]; exact hD
    replace hsp := hsp.trans (slet_eq xf_23)
    refine lv_iinc (v := (nI (g_4 + 1))) (lv' := [(3, .int (nI (g_4 + 1))), (0, .ref (ad 0)), (1, .ref (ad 35)), (2, .int (nI a1))]) hx hb dX9_goesBack_32 hl (k := 3) rfl (nI_1 _) (by decide) rfl (fun ls hl => ?_)
    refine lv_goto (tgt := 2) hx hb dX9_goesBack_35 (by decide) ?_
    exact ih_5 (5 - (g_4 + 1)) (by omega) _ _ _ ⟨f_23, (g_4 + 1), rfl, (by omega), hin_9 _ hsp, hP, hD, hS, lv_sub hl [1, 2, 3, 0] rfl⟩
