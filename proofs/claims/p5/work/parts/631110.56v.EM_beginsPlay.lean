theorem dX9_beginsPlay_0 : decode cX9_beginsPlay 0 = .ok (.aload_n 0, 1) := by decide +kernel
theorem dX9_beginsPlay_1 : decode cX9_beginsPlay 1 = .ok (.iconst 0, 1) := by decide +kernel
theorem dX9_beginsPlay_2 : decode cX9_beginsPlay 2 = .ok (.putfield 277, 3) := by decide +kernel
theorem dX9_beginsPlay_5 : decode cX9_beginsPlay 5 = .ok (.aload_n 0, 1) := by decide +kernel
theorem dX9_beginsPlay_6 : decode cX9_beginsPlay 6 = .ok (.getfield 46, 3) := by decide +kernel
theorem dX9_beginsPlay_9 : decode cX9_beginsPlay 9 = .ok (.aload_n 0, 1) := by decide +kernel
theorem dX9_beginsPlay_10 : decode cX9_beginsPlay 10 = .ok (.getfield 258, 3) := by decide +kernel
theorem dX9_beginsPlay_13 : decode cX9_beginsPlay 13 = .ok (.iaload, 1) := by decide +kernel
theorem dX9_beginsPlay_14 : decode cX9_beginsPlay 14 = .ok (.ifCond .ne 5, 3) := by decide +kernel
theorem dX9_beginsPlay_17 : decode cX9_beginsPlay 17 = .ok (.iconst 0, 1) := by decide +kernel
theorem dX9_beginsPlay_18 : decode cX9_beginsPlay 18 = .ok (.ireturn, 1) := by decide +kernel
theorem dX9_beginsPlay_19 : decode cX9_beginsPlay 19 = .ok (.iconst 0, 1) := by decide +kernel
theorem dX9_beginsPlay_20 : decode cX9_beginsPlay 20 = .ok (.istore_n 1, 1) := by decide +kernel
theorem dX9_beginsPlay_21 : decode cX9_beginsPlay 21 = .ok (.iload_n 1, 1) := by decide +kernel
theorem dX9_beginsPlay_22 : decode cX9_beginsPlay 22 = .ok (.iconst 3, 1) := by decide +kernel
theorem dX9_beginsPlay_23 : decode cX9_beginsPlay 23 = .ok (.if_icmp .ge 16, 3) := by decide +kernel
theorem dX9_beginsPlay_26 : decode cX9_beginsPlay 26 = .ok (.aload_n 0, 1) := by decide +kernel
theorem dX9_beginsPlay_27 : decode cX9_beginsPlay 27 = .ok (.getfield 139, 3) := by decide +kernel
theorem dX9_beginsPlay_30 : decode cX9_beginsPlay 30 = .ok (.iload_n 1, 1) := by decide +kernel
theorem dX9_beginsPlay_31 : decode cX9_beginsPlay 31 = .ok (.iconst 0, 1) := by decide +kernel
theorem dX9_beginsPlay_32 : decode cX9_beginsPlay 32 = .ok (.iastore, 1) := by decide +kernel
theorem dX9_beginsPlay_33 : decode cX9_beginsPlay 33 = .ok (.iinc 1 1, 3) := by decide +kernel
theorem dX9_beginsPlay_36 : decode cX9_beginsPlay 36 = .ok (.goto (-15), 3) := by decide +kernel
theorem dX9_beginsPlay_39 : decode cX9_beginsPlay 39 = .ok (.aload_n 0, 1) := by decide +kernel
theorem dX9_beginsPlay_40 : decode cX9_beginsPlay 40 = .ok (.aload_n 0, 1) := by decide +kernel
theorem dX9_beginsPlay_41 : decode cX9_beginsPlay 41 = .ok (.getfield 52, 3) := by decide +kernel
theorem dX9_beginsPlay_44 : decode cX9_beginsPlay 44 = .ok (.aload_n 0, 1) := by decide +kernel
theorem dX9_beginsPlay_45 : decode cX9_beginsPlay 45 = .ok (.getfield 258, 3) := by decide +kernel
theorem dX9_beginsPlay_48 : decode cX9_beginsPlay 48 = .ok (.iaload, 1) := by decide +kernel
theorem dX9_beginsPlay_49 : decode cX9_beginsPlay 49 = .ok (.putfield 466, 3) := by decide +kernel
theorem dX9_beginsPlay_52 : decode cX9_beginsPlay 52 = .ok (.aload_n 0, 1) := by decide +kernel
theorem dX9_beginsPlay_53 : decode cX9_beginsPlay 53 = .ok (.iconst 0, 1) := by decide +kernel
theorem dX9_beginsPlay_54 : decode cX9_beginsPlay 54 = .ok (.putfield 469, 3) := by decide +kernel
theorem dX9_beginsPlay_57 : decode cX9_beginsPlay 57 = .ok (.aload_n 0, 1) := by decide +kernel
theorem dX9_beginsPlay_58 : decode cX9_beginsPlay 58 = .ok (.aload_n 0, 1) := by decide +kernel
theorem dX9_beginsPlay_59 : decode cX9_beginsPlay 59 = .ok (.bipush 100, 2) := by decide +kernel
theorem dX9_beginsPlay_61 : decode cX9_beginsPlay 61 = .ok (.aload_n 0, 1) := by decide +kernel
theorem dX9_beginsPlay_62 : decode cX9_beginsPlay 62 = .ok (.getfield 466, 3) := by decide +kernel
theorem dX9_beginsPlay_65 : decode cX9_beginsPlay 65 = .ok (.iadd, 1) := by decide +kernel
theorem dX9_beginsPlay_66 : decode cX9_beginsPlay 66 = .ok (.iconst 0, 1) := by decide +kernel
theorem dX9_beginsPlay_67 : decode cX9_beginsPlay 67 = .ok (.invokevirtual 472, 3) := by decide +kernel
theorem dX9_beginsPlay_70 : decode cX9_beginsPlay 70 = .ok (.putfield 277, 3) := by decide +kernel
theorem dX9_beginsPlay_73 : decode cX9_beginsPlay 73 = .ok (.aload_n 0, 1) := by decide +kernel
theorem dX9_beginsPlay_74 : decode cX9_beginsPlay 74 = .ok (.getfield 277, 3) := by decide +kernel
theorem dX9_beginsPlay_77 : decode cX9_beginsPlay 77 = .ok (.ireturn, 1) := by decide +kernel
abbrev vs_EM_beginsPlay : List Cond := .code yX9_beginsPlay cX9_beginsPlay 2 (some .boolean) :: VM
theorem g_EM_beginsPlay_EM_isHeld_p : GoodIn vs_EM_beginsPlay (wsV RX9 472 RX9 yX9_isHeld vs_EM_isHeld_p) := gm_V vm_359 vm_360 vm_361 vm_19 vm_362
noncomputable def sp_EM_beginsPlay_L1 (x16 : Nat) (q4 : Nat → Nat) (q9 : Nat → Nat) (q10 : Nat → Nat) (f11 : Nat → Int32) (m13_0 : Nat) (m13_1 : Nat) (m15_0 : Nat) (m15_1 : Nat) : ((Nat → Int32) × Nat) → ((Nat → Int32) × Nat) ⊕ (Nat × (Nat → Int32) × Nat × Nat × Int32) := fun (g_6, g_7) => (if 3 ≤ g_7 then (Sum.inr (slet (if x16 = 0 then m15_0 else m15_1) (fun u_16 => (slet (u_16 - 1) (fun vy_15 => (slet (sp_EM_isHeld_p x16 q4 q9 q10 f11 m13_0 m13_1 g_6 (100 + vy_15) 0) (fun u_19 => (u_19, g_6, u_19, vy_15, 0)))))))) else (slet (upd g_6 g_7 0) (fun f_20 => (Sum.inl (f_20, (g_7 + 1))))))
noncomputable def sp_EM_beginsPlay (x16 : Nat) (x65 : Nat) (x66 : Int32) (q4 : Nat → Nat) (q9 : Nat → Nat) (q10 : Nat → Nat) (f11 : Nat → Int32) (m13_0 : Nat) (m13_1 : Nat) (m15_0 : Nat) (m15_1 : Nat) (f64 : Nat → Int32) : Nat × (Nat → Int32) × Nat × Nat × Int32 := (slet (if x16 = 0 then m13_0 else m13_1) (fun u_2 => (if u_2 = 0 then (0, f64, 0, x65, x66) else (itrv (α := (Nat → Int32) × Nat) (β := (Nat × (Nat → Int32) × Nat × Nat × Int32)) default (sp_EM_beginsPlay_L1 x16 q4 q9 q10 f11 m13_0 m13_1 m15_0 m15_1) (f64, 0)))))
set_option maxHeartbeats 4000000 in
set_option maxRecDepth 100000 in
theorem c_EM_beginsPlay (l : Launch) (dC : Nat → ClassId) (dI : Nat → Nat → Nat) (sz : Nat) (ad : Nat → Nat) (ck : Nat → ClassId) (x0 : Int32) (x16 : Nat) (x18 : Nat) (x19 : Nat) (x20 : Int32) (x21 : Nat) (x22 : Nat) (x23 : Int32) (x24 : Int32) (x25 : Int32) (x26 : Nat) (x27 : Int32) (x28 : Nat) (x29 : Nat) (x30 : Nat) (x33 : Nat) (x45 : Int32) (x46 : Nat) (x52 : Nat) (x53 : Nat) (x61 : Nat) (x62 : Nat) (x63 : Nat) (x65 : Nat) (x66 : Int32) (f1 : Nat → Int32) (f2 : Nat → Int32) (f3 : Nat → Int32) (q4 : Nat → Nat) (q5 : Nat → Nat) (q6 : Nat → Nat) (q7 : Nat → Nat) (f8 : Nat → Int32) (q9 : Nat → Nat) (q10 : Nat → Nat) (f11 : Nat → Int32) (m12_0 m12_1 : Nat) (m13_0 m13_1 : Nat) (m14_0 m14_1 : Nat) (m15_0 m15_1 : Nat) (f17 : Nat → Int32) (q31 : Nat → Nat) (f32 : Nat → Int32) (f34 : Nat → Int32) (f35 : Nat → Int32) (f36 : Nat → Int32) (f37 : Nat → Int32) (q38 : Nat → Nat) (f39 : Nat → Int32) (f40 : Nat → Int32) (f41 : Nat → Int32) (m42_0 m42_1 : Nat) (f43 : Nat → Int32) (f44 : Nat → Int32) (f47 : Nat → Int32) (f48 : Nat → Int32) (f49 : Nat → Int32) (f50 : Nat → Int32) (f51 : Nat → Int32) (q54 : Nat → Nat) (q55 : Nat → Nat) (q56 : Nat → Nat) (f57 : Nat → Int32) (q58 : Nat → Nat) (f59 : Nat → Int32) (f60 : Nat → Int32) (f64 : Nat → Int32) (hx16 : x16 ≤ 1) (hx18 : x18 ≤ 900) (hx19 : x19 ≤ 900) (hx21 : x21 ≤ 900) (hx22 : x22 ≤ 4) (hx26 : x26 ≤ 6) (hx28 : x28 ≤ 1) (hx29 : x29 ≤ 1) (hx30 : x30 ≤ 1) (hx33 : x33 ≤ 20) (hx46 : x46 ≤ 5) (hx52 : x52 ≤ 2400) (hx53 : x53 ≤ 119) (hx61 : x61 ≤ 119) (hx62 : x62 ≤ 2000) (hx63 : x63 ≤ 1) (hx65 : x65 ≤ 7) (hm12_0 : m12_0 ≤ 3) (hm12_1 : m12_1 ≤ 3) (hm13_0 : m13_0 ≤ 8) (hm13_1 : m13_1 ≤ 8) (hm14_0 : m14_0 ≤ 14) (hm14_1 : m14_1 ≤ 14) (hm15_0 : m15_0 ≤ 8) (hm15_1 : m15_1 ≤ 8) (hm42_0 : m42_0 ≤ 120) (hm42_1 : m42_1 ≤ 400) (hbg : (x16 = 0 ∧ (m13_0 = 0 ∨ 1 ≤ m15_0)) ∨ (x16 = 1 ∧ (m13_1 = 0 ∨ 1 ≤ m15_1))) : Met l yX9_beginsPlay vs_EM_beginsPlay ({ frames := 4, cells := 0, slots := 0, locals := 91 }) (va_Pc [.ref (ad 0)] (pu_B (dC, dI) (mo_w ad ck x0 (nI x16) (nI x18) (nI x19) x20 (nI x21) (nI x22) x23 x24 x25 (nI x26) x27 (nI x28) (nI x29) (nI x30) (nI x33) x45 (nI x46) (nI x52) (nI x53) (nI x61) (nI x62) (nI x63) (nI x65) x66 f1 f2 f3 (bN 3 q4) (bN 7 q5) (bN 7 q6) (bN 4 q7) f8 (bN 2 q9) (bH q10) f11 (b2 m12_0 m12_1) (b2 m13_0 m13_1) (b2 m14_0 m14_1) (b2m m15_0 m15_1) f17 (bA 159 q31) f32 f34 f35 f36 f37 (bN 7 q38) f39 f40 f41 (b2 m42_0 m42_1) f43 f44 f47 f48 f49 f50 f51 (bN 13 q54) (bN 120 q55) (bN 120 q56) f57 (bN 120 q58) f59 f60 f64) (mo_t ck) sz)) (va_Qi (fun (r : Int32) (_ : Unit) => ∃ v : Nat, v ≤ 1 ∧ r = nI v ∧ v = (sp_EM_beginsPlay x16 x65 x66 q4 q9 q10 f11 m13_0 m13_1 m15_0 m15_1 f64).1) (fun _ t => ∃ (z64 : Nat → Int32) (z30 : Nat) (z65 : Nat) (z66 : Int32), pu_E (dC, dI) (mo_w ad ck x0 (nI x16) (nI x18) (nI x19) x20 (nI x21) (nI x22) x23 x24 x25 (nI x26) x27 (nI x28) (nI x29) (nI z30) (nI x33) x45 (nI x46) (nI x52) (nI x53) (nI x61) (nI x62) (nI x63) (nI z65) z66 f1 f2 f3 (bN 3 q4) (bN 7 q5) (bN 7 q6) (bN 4 q7) f8 (bN 2 q9) (bH q10) f11 (b2 m12_0 m12_1) (b2 m13_0 m13_1) (b2 m14_0 m14_1) (b2m m15_0 m15_1) f17 (bA 159 q31) f32 f34 f35 f36 f37 (bN 7 q38) f39 f40 f41 (b2 m42_0 m42_1) f43 f44 f47 f48 f49 f50 f51 (bN 13 q54) (bN 120 q55) (bN 120 q56) f57 (bN 120 q58) f59 f60 z64) (mo_t ck) (va_A ((mo_w ad ck x0 (nI x16) (nI x18) (nI x19) x20 (nI x21) (nI x22) x23 x24 x25 (nI x26) x27 (nI x28) (nI x29) (nI x30) (nI x33) x45 (nI x46) (nI x52) (nI x53) (nI x61) (nI x62) (nI x63) (nI x65) x66 f1 f2 f3 (bN 3 q4) (bN 7 q5) (bN 7 q6) (bN 4 q7) f8 (bN 2 q9) (bH q10) f11 (b2 m12_0 m12_1) (b2 m13_0 m13_1) (b2 m14_0 m14_1) (b2m m15_0 m15_1) f17 (bA 159 q31) f32 f34 f35 f36 f37 (bN 7 q38) f39 f40 f41 (b2 m42_0 m42_1) f43 f44 f47 f48 f49 f50 f51 (bN 13 q54) (bN 120 q55) (bN 120 q56) f57 (bN 120 q58) f59 f60 f64)) sz) t ∧ (z30 ≤ 1) ∧ (z65 ≤ 7) ∧ ((z64, z30, z65, z66) = (sp_EM_beginsPlay x16 x65 x66 q4 q9 q10 f11 m13_0 m13_1 m15_0 m15_1 f64).2)) (va_A ((mo_w ad ck x0 (nI x16) (nI x18) (nI x19) x20 (nI x21) (nI x22) x23 x24 x25 (nI x26) x27 (nI x28) (nI x29) (nI x30) (nI x33) x45 (nI x46) (nI x52) (nI x53) (nI x61) (nI x62) (nI x63) (nI x65) x66 f1 f2 f3 (bN 3 q4) (bN 7 q5) (bN 7 q6) (bN 4 q7) f8 (bN 2 q9) (bH q10) f11 (b2 m12_0 m12_1) (b2 m13_0 m13_1) (b2 m14_0 m14_1) (b2m m15_0 m15_1) f17 (bA 159 q31) f32 f34 f35 f36 f37 (bN 7 q38) f39 f40 f41 (b2 m42_0 m42_1) f43 f44 f47 f48 f49 f50 f51 (bN 13 q54) (bN 120 q55) (bN 120 q56) f57 (bN 120 q58) f59 f60 f64)) sz)) 0 0 (va_A ((mo_w ad ck x0 (nI x16) (nI x18) (nI x19) x20 (nI x21) (nI x22) x23 x24 x25 (nI x26) x27 (nI x28) (nI x29) (nI x30) (nI x33) x45 (nI x46) (nI x52) (nI x53) (nI x61) (nI x62) (nI x63) (nI x65) x66 f1 f2 f3 (bN 3 q4) (bN 7 q5) (bN 7 q6) (bN 4 q7) f8 (bN 2 q9) (bH q10) f11 (b2 m12_0 m12_1) (b2 m13_0 m13_1) (b2 m14_0 m14_1) (b2m m15_0 m15_1) f17 (bA 159 q31) f32 f34 f35 f36 f37 (bN 7 q38) f39 f40 f41 (b2 m42_0 m42_1) f43 f44 f47 f48 f49 f50 f51 (bN 13 q54) (bN 120 q55) (bN 120 q56) f57 (bN 120 q58) f59 f60 f64)) sz) := by
  refine Met.ofW (cc := cX9_beginsPlay) (maxL := 2) (ret := (some .boolean)) (by decide) rfl ?_
  intro p e s m args below meth c s₁ B hml hv
  obtain ⟨rfl, rfl, hP, hK, hD0⟩ := hv
  have hx := B.exec
  have hb := B.bytes
  have hr := B.returns
  have hts := atoms_spec (ws := vs_EM_beginsPlay) B.pre
  have v_1 := hts (.fieldLink RX9 277 "ClockReachModel" "isPlayed" "Z") (List.mem_cons_of_mem _ vm_2)
  have v_2 := hts (.fieldLink RX9 46 "ClockReachModel" "placeMany" "[I") (List.mem_cons_of_mem _ vm_65)
  have v_3 := hts (.fieldLink RX9 258 "ClockReachModel" "bank" "I") (List.mem_cons_of_mem _ vm_4)
  have v_4 := hts (.fieldLink RX9 139 "ClockReachModel" "clockTime" "[I") (List.mem_cons_of_mem _ vm_358)
  have v_5 := hts (.fieldLink RX9 52 "ClockReachModel" "begins" "[I") (List.mem_cons_of_mem _ vm_126)
  have v_6 := hts (.fieldLink RX9 466 "ClockReachModel" "playPlace" "I") (List.mem_cons_of_mem _ vm_363)
  have v_7 := hts (.fieldLink RX9 469 "ClockReachModel" "played" "I") (List.mem_cons_of_mem _ vm_364)
  have hown : s.vm.findClass RX9 = some m.cls := findClass_of_methodNamed B.named
  have hlocks := B.notSynchronized
  have hiX9 : ∀ w ∈ wsX90, w ∈ vs_EM_beginsPlay := fun _ h => List.mem_cons_of_mem _ (vmi_L h)
  have hD := hD0.self (sz := s.heap.size)
  generalize hAe : va_A ((mo_w ad ck x0 (nI x16) (nI x18) (nI x19) x20 (nI x21) (nI x22) x23 x24 x25 (nI x26) x27 (nI x28) (nI x29) (nI x30) (nI x33) x45 (nI x46) (nI x52) (nI x53) (nI x61) (nI x62) (nI x63) (nI x65) x66 f1 f2 f3 (bN 3 q4) (bN 7 q5) (bN 7 q6) (bN 4 q7) f8 (bN 2 q9) (bH q10) f11 (b2 m12_0 m12_1) (b2 m13_0 m13_1) (b2 m14_0 m14_1) (b2m m15_0 m15_1) f17 (bA 159 q31) f32 f34 f35 f36 f37 (bN 7 q38) f39 f40 f41 (b2 m42_0 m42_1) f43 f44 f47 f48 f49 f50 f51 (bN 13 q54) (bN 120 q55) (bN 120 q56) f57 (bN 120 q58) f59 f60 f64)) s.heap.size = A at hD ⊢
  have hA : ∀ q : Nat, s.heap.size ≤ q → A q := fun q h => by rw [← hAe]; exact Or.inr h
  have hS : va_S A s.heap s.heap [] := va_S.rf
  have hl := lv_entry ([.ref (ad 0)]) (n := 2) (Nat.le_of_ble_eq_true rfl)
  rw [lg_entry_eq]
  generalize (lg_sl ([.ref (ad 0)]) ++ List.replicate (2 - (lg_sl ([.ref (ad 0)])).length) Slot.unset).toArray = ls at hl ⊢
  have hl : lv_has ls 2 [(0, .ref (ad 0))] := hl
  obtain ⟨RR, hRR⟩ : ∃ x, x = (sp_EM_beginsPlay x16 x65 x66 q4 q9 q10 f11 m13_0 m13_1 m15_0 m15_1 f64) := ⟨_, rfl⟩
  have hsp := hRR
  refine lv_aload_n hx hb dX9_beginsPlay_0 rfl (lv_at hl 0 rfl) ?_
  refine lv_iconst (v := 0) hx hb dX9_beginsPlay_1 (by decide) ?_
  refine va_put (D := (dC, dI)) (ci := 9) (v := .int 0) (ty := .boolean) (C := RX9) (T := TX9) (N := 67) hx hb hts hiX9 tyX9 tyX9_ok nmX9 hown hK hP hD hS 0 rfl rfl 30 (by decide) v_1 (fun _ h9 => h9) rfl (by decide +kernel) rfl rfl (Nat.le_of_ble_eq_true rfl) dX9_beginsPlay_2 (fun H locs hP hD hS => ?_)
  have hP : va_P (dC, dI) vwCl (mo_w ad ck x0 (nI x16) (nI x18) (nI x19) x20 (nI x21) (nI x22) x23 x24 x25 (nI x26) x27 (nI x28) (nI x29) 0 (nI x33) x45 (nI x46) (nI x52) (nI x53) (nI x61) (nI x62) (nI x63) (nI x65) x66 f1 f2 f3 (bN 3 q4) (bN 7 q5) (bN 7 q6) (bN 4 q7) f8 (bN 2 q9) (bH q10) f11 (b2 m12_0 m12_1) (b2 m13_0 m13_1) (b2 m14_0 m14_1) (b2m m15_0 m15_1) f17 (bA 159 q31) f32 f34 f35 f36 f37 (bN 7 q38) f39 f40 f41 (b2 m42_0 m42_1) f43 f44 f47 f48 f49 f50 f51 (bN 13 q54) (bN 120 q55) (bN 120 q56) f57 (bN 120 q58) f59 f60 f64) H := hP
  have hD : va_D A (mo_w ad ck x0 (nI x16) (nI x18) (nI x19) x20 (nI x21) (nI x22) x23 x24 x25 (nI x26) x27 (nI x28) (nI x29) 0 (nI x33) x45 (nI x46) (nI x52) (nI x53) (nI x61) (nI x62) (nI x63) (nI x65) x66 f1 f2 f3 (bN 3 q4) (bN 7 q5) (bN 7 q6) (bN 4 q7) f8 (bN 2 q9) (bH q10) f11 (b2 m12_0 m12_1) (b2 m13_0 m13_1) (b2 m14_0 m14_1) (b2m m15_0 m15_1) f17 (bA 159 q31) f32 f34 f35 f36 f37 (bN 7 q38) f39 f40 f41 (b2 m42_0 m42_1) f43 f44 f47 f48 f49 f50 f51 (bN 13 q54) (bN 120 q55) (bN 120 q56) f57 (bN 120 q58) f59 f60 f64) := hD
  refine lv_aload_n hx hb dX9_beginsPlay_5 rfl (lv_at hl 0 rfl) ?_
  refine va_get (D := (dC, dI)) (ci := 9) (v := .ref (ad 13)) (C := RX9) (T := TX9) (N := 67) hx hb hts hiX9 hown hK hP 0 rfl rfl 13 (by decide) v_2 (fun _ h9 => h9) rfl dX9_beginsPlay_6 ?_
  refine lv_aload_n hx hb dX9_beginsPlay_9 rfl (lv_at hl 0 rfl) ?_
  refine va_get (D := (dC, dI)) (ci := 9) (v := .int (nI x16)) (C := RX9) (T := TX9) (N := 67) hx hb hts hiX9 hown hK hP 0 rfl rfl 16 (by decide) v_3 (fun _ h9 => h9) rfl dX9_beginsPlay_10 ?_
  refine va_iald hx hb hK hP 13 12 rfl rfl (vp_in_nI (n := x16) (Nat.lt_of_le_of_lt hx16 (Nat.le_of_ble_eq_true rfl)) (Nat.le_of_ble_eq_true rfl)) dX9_beginsPlay_13 ?_
  refine lv_topi (fun y_1 ey_1 => ?_)
  obtain ⟨u_2, hu_2, fu_2, xu_2⟩ := b2_getx (a := m13_0) (b := m13_1) (i := x16) (by omega)
  have qy_1 := ey_1.trans fu_2
  replace hsp := hsp.trans (slet_eq xu_2)
  obtain rfl : y_1 = nI u_2 := qy_1
  refine lv_if_ne (tgt := 19) hx hb dX9_beginsPlay_14 (by decide) (fun c_3 => ?_) (fun c_3 => ?_)
  · have c_3 : ¬ u_2 = 0 := fun z => c_3 ((nI_eq (a := u_2) (b := 0) (by omega) (Nat.le_of_ble_eq_true rfl)).mpr z)
    replace hsp := hsp.trans (if_neg c_3)
    refine lv_iconst (v := 0) hx hb dX9_beginsPlay_19 (by decide) ?_
    refine lv_istore_n (lv' := [(1, .int 0), (0, .ref (ad 0))]) hx hb dX9_beginsPlay_20 rfl hl (by decide) rfl (fun ls hl => ?_)
    obtain ⟨lf_9, dlf_9, hlf_9, hsp⟩ := itr_ex hsp
    delta sp_EM_beginsPlay_L1 at hlf_9
    refine pu_while (fun nn H locs ls => ∃ (g_6 : Nat → Int32) (g_7 : Nat), nn = 3 - g_7 ∧ g_7 ≤ 3 ∧ RR = itrv dlf_9 lf_9 (g_6, g_7) ∧ va_P (dC, dI) vwCl (mo_w ad ck x0 (nI x16) (nI x18) (nI x19) x20 (nI x21) (nI x22) x23 x24 x25 (nI x26) x27 (nI x28) (nI x29) 0 (nI x33) x45 (nI x46) (nI x52) (nI x53) (nI x61) (nI x62) (nI x63) (nI x65) x66 f1 f2 f3 (bN 3 q4) (bN 7 q5) (bN 7 q6) (bN 4 q7) f8 (bN 2 q9) (bH q10) f11 (b2 m12_0 m12_1) (b2 m13_0 m13_1) (b2 m14_0 m14_1) (b2m m15_0 m15_1) f17 (bA 159 q31) f32 f34 f35 f36 f37 (bN 7 q38) f39 f40 f41 (b2 m42_0 m42_1) f43 f44 f47 f48 f49 f50 f51 (bN 13 q54) (bN 120 q55) (bN 120 q56) f57 (bN 120 q58) f59 f60 g_6) H ∧ va_D A (mo_w ad ck x0 (nI x16) (nI x18) (nI x19) x20 (nI x21) (nI x22) x23 x24 x25 (nI x26) x27 (nI x28) (nI x29) 0 (nI x33) x45 (nI x46) (nI x52) (nI x53) (nI x61) (nI x62) (nI x63) (nI x65) x66 f1 f2 f3 (bN 3 q4) (bN 7 q5) (bN 7 q6) (bN 4 q7) f8 (bN 2 q9) (bH q10) f11 (b2 m12_0 m12_1) (b2 m13_0 m13_1) (b2 m14_0 m14_1) (b2m m15_0 m15_1) f17 (bA 159 q31) f32 f34 f35 f36 f37 (bN 7 q38) f39 f40 f41 (b2 m42_0 m42_1) f43 f44 f47 f48 f49 f50 f51 (bN 13 q54) (bN 120 q55) (bN 120 q56) f57 (bN 120 q58) f59 f60 g_6) ∧ va_S A s.heap H locs ∧ lv_has ls 2 [(0, .ref (ad 0)), (1, .int (nI g_7))]) 21 ?_ _ _ _ _ ⟨f64, 0, rfl, (Nat.le_of_ble_eq_true rfl), hsp, hP, hD, hS, lv_sub hl [1, 0] rfl⟩
    rintro nn ih_8 H locs ls ⟨g_6, g_7, rfl, hg_7, he_11, hP, hD, hS, hl⟩
    obtain ⟨S_10, hsp, hin_12, hout_13⟩ := itr_step hlf_9 he_11
    refine lv_iload_n hx hb dX9_beginsPlay_21 rfl (lv_at hl 1 rfl) ?_
    refine lv_iconst (v := 3) hx hb dX9_beginsPlay_22 (by decide) ?_
    refine lv_icmp_ge (tgt := 39) hx hb dX9_beginsPlay_23 (by decide) (fun c_14 => ?_) (fun c_14 => ?_)
    · have c_14 : 3 ≤ g_7 := (nI_leI (a := 3) (b := g_7) (Nat.le_of_ble_eq_true rfl) (Nat.lt_of_le_of_lt hg_7 (Nat.le_of_ble_eq_true rfl))).mp c_14
      replace hsp := hsp.trans (if_pos c_14)
      replace hsp := hout_13 _ hsp
      refine lv_aload_n hx hb dX9_beginsPlay_39 rfl (lv_at hl 0 rfl) ?_
      refine lv_aload_n hx hb dX9_beginsPlay_40 rfl (lv_at hl 0 rfl) ?_
      refine va_get (D := (dC, dI)) (ci := 9) (v := .ref (ad 15)) (C := RX9) (T := TX9) (N := 67) hx hb hts hiX9 hown hK hP 0 rfl rfl 15 (by decide) v_5 (fun _ h9 => h9) rfl dX9_beginsPlay_41 ?_
      refine lv_aload_n hx hb dX9_beginsPlay_44 rfl (lv_at hl 0 rfl) ?_
      refine va_get (D := (dC, dI)) (ci := 9) (v := .int (nI x16)) (C := RX9) (T := TX9) (N := 67) hx hb hts hiX9 hown hK hP 0 rfl rfl 16 (by decide) v_3 (fun _ h9 => h9) rfl dX9_beginsPlay_45 ?_
      refine va_iald hx hb hK hP 15 14 rfl rfl (vp_in_nI (n := x16) (Nat.lt_of_le_of_lt hx16 (Nat.le_of_ble_eq_true rfl)) (Nat.le_of_ble_eq_true rfl)) dX9_beginsPlay_48 ?_
      refine lv_topi (fun y_15 ey_15 => ?_)
      obtain ⟨u_16, hu_16, fu_16, xu_16⟩ := b2m_getx (a := m15_0) (b := m15_1) (i := x16) (by omega)
      have qy_15 := ey_15.trans fu_16
      replace hsp := hsp.trans (slet_eq xu_16)
      rcases mI_get u_16 with ⟨zy_15, wy_15⟩ | ⟨vy_15, zy_15, wy_15⟩
      · exfalso
        have hbq : bkN x16 m13_0 m13_1 = (if x16 = 0 then m13_0 else m13_1) := rfl
        have hbk := hbg_bk hbg
        omega
      · obtain rfl : y_15 = nI vy_15 := qy_15.trans wy_15
        replace hsp := hsp.trans (slet_eq (by omega : vy_15 = u_16 - 1))
        refine va_put (D := (dC, dI)) (ci := 9) (v := .int (nI vy_15)) (ty := .int) (C := RX9) (T := TX9) (N := 67) hx hb hts hiX9 tyX9 tyX9_ok nmX9 hown hK hP hD hS 0 rfl rfl 65 (by decide) v_6 (fun _ h9 => h9) rfl (by decide +kernel) rfl rfl (Nat.le_of_ble_eq_true rfl) dX9_beginsPlay_49 (fun H locs hP hD hS => ?_)
        have hP : va_P (dC, dI) vwCl (mo_w ad ck x0 (nI x16) (nI x18) (nI x19) x20 (nI x21) (nI x22) x23 x24 x25 (nI x26) x27 (nI x28) (nI x29) 0 (nI x33) x45 (nI x46) (nI x52) (nI x53) (nI x61) (nI x62) (nI x63) (nI vy_15) x66 f1 f2 f3 (bN 3 q4) (bN 7 q5) (bN 7 q6) (bN 4 q7) f8 (bN 2 q9) (bH q10) f11 (b2 m12_0 m12_1) (b2 m13_0 m13_1) (b2 m14_0 m14_1) (b2m m15_0 m15_1) f17 (bA 159 q31) f32 f34 f35 f36 f37 (bN 7 q38) f39 f40 f41 (b2 m42_0 m42_1) f43 f44 f47 f48 f49 f50 f51 (bN 13 q54) (bN 120 q55) (bN 120 q56) f57 (bN 120 q58) f59 f60 g_6) H := hP
        have hD : va_D A (mo_w ad ck x0 (nI x16) (nI x18) (nI x19) x20 (nI x21) (nI x22) x23 x24 x25 (nI x26) x27 (nI x28) (nI x29) 0 (nI x33) x45 (nI x46) (nI x52) (nI x53) (nI x61) (nI x62) (nI x63) (nI vy_15) x66 f1 f2 f3 (bN 3 q4) (bN 7 q5) (bN 7 q6) (bN 4 q7) f8 (bN 2 q9) (bH q10) f11 (b2 m12_0 m12_1) (b2 m13_0 m13_1) (b2 m14_0 m14_1) (b2m m15_0 m15_1) f17 (bA 159 q31) f32 f34 f35 f36 f37 (bN 7 q38) f39 f40 f41 (b2 m42_0 m42_1) f43 f44 f47 f48 f49 f50 f51 (bN 13 q54) (bN 120 q55) (bN 120 q56) f57 (bN 120 q58) f59 f60 g_6) := hD
        refine lv_aload_n hx hb dX9_beginsPlay_52 rfl (lv_at hl 0 rfl) ?_
        refine lv_iconst (v := 0) hx hb dX9_beginsPlay_53 (by decide) ?_
        refine va_put (D := (dC, dI)) (ci := 9) (v := .int 0) (ty := .int) (C := RX9) (T := TX9) (N := 67) hx hb hts hiX9 tyX9 tyX9_ok nmX9 hown hK hP hD hS 0 rfl rfl 66 (by decide) v_7 (fun _ h9 => h9) rfl (by decide +kernel) rfl rfl (Nat.le_of_ble_eq_true rfl) dX9_beginsPlay_54 (fun H locs hP hD hS => ?_)
        have hP : va_P (dC, dI) vwCl (mo_w ad ck x0 (nI x16) (nI x18) (nI x19) x20 (nI x21) (nI x22) x23 x24 x25 (nI x26) x27 (nI x28) (nI x29) 0 (nI x33) x45 (nI x46) (nI x52) (nI x53) (nI x61) (nI x62) (nI x63) (nI vy_15) 0 f1 f2 f3 (bN 3 q4) (bN 7 q5) (bN 7 q6) (bN 4 q7) f8 (bN 2 q9) (bH q10) f11 (b2 m12_0 m12_1) (b2 m13_0 m13_1) (b2 m14_0 m14_1) (b2m m15_0 m15_1) f17 (bA 159 q31) f32 f34 f35 f36 f37 (bN 7 q38) f39 f40 f41 (b2 m42_0 m42_1) f43 f44 f47 f48 f49 f50 f51 (bN 13 q54) (bN 120 q55) (bN 120 q56) f57 (bN 120 q58) f59 f60 g_6) H := hP
        have hD : va_D A (mo_w ad ck x0 (nI x16) (nI x18) (nI x19) x20 (nI x21) (nI x22) x23 x24 x25 (nI x26) x27 (nI x28) (nI x29) 0 (nI x33) x45 (nI x46) (nI x52) (nI x53) (nI x61) (nI x62) (nI x63) (nI vy_15) 0 f1 f2 f3 (bN 3 q4) (bN 7 q5) (bN 7 q6) (bN 4 q7) f8 (bN 2 q9) (bH q10) f11 (b2 m12_0 m12_1) (b2 m13_0 m13_1) (b2 m14_0 m14_1) (b2m m15_0 m15_1) f17 (bA 159 q31) f32 f34 f35 f36 f37 (bN 7 q38) f39 f40 f41 (b2 m42_0 m42_1) f43 f44 f47 f48 f49 f50 f51 (bN 13 q54) (bN 120 q55) (bN 120 q56) f57 (bN 120 q58) f59 f60 g_6) := hD
        refine lv_aload_n hx hb dX9_beginsPlay_57 rfl (lv_at hl 0 rfl) ?_
        refine lv_aload_n hx hb dX9_beginsPlay_58 rfl (lv_at hl 0 rfl) ?_
        refine lv_bipush (v := 100) hx hb dX9_beginsPlay_59 (by decide) ?_
        refine lv_aload_n hx hb dX9_beginsPlay_61 rfl (lv_at hl 0 rfl) ?_
        refine va_get (D := (dC, dI)) (ci := 9) (v := .int (nI vy_15)) (C := RX9) (T := TX9) (N := 67) hx hb hts hiX9 hown hK hP 0 rfl rfl 65 (by decide) v_6 (fun _ h9 => h9) rfl dX9_beginsPlay_62 ?_
        refine lv_iadd hx hb dX9_beginsPlay_65 ?_
        refine lv_topi (fun y_17 ey_17 => ?_)
        obtain rfl : y_17 = (nI (100 + vy_15)) := ey_17.trans (nI_add 100 vy_15)
        refine lv_iconst (v := 0) hx hb dX9_beginsPlay_66 (by decide) ?_
        refine va_calli (va_runV (As := [.int (nI (100 + vy_15)), .int 0]) (rest := [.ref (ad 0)]) ⟨hx, hb, hml, hown, hts⟩ (c_EM_isHeld_p l dC dI _ ad ck x0 x16 x18 x19 x20 x21 x22 x23 x24 x25 x26 x27 x28 x29 0 x33 x45 x46 x52 x53 x61 x62 x63 vy_15 0 f1 f2 f3 q4 q5 q6 q7 f8 q9 q10 f11 m12_0 m12_1 m13_0 m13_1 m14_0 m14_1 m15_0 m15_1 f17 q31 f32 f34 f35 f36 f37 q38 f39 f40 f41 m42_0 m42_1 f43 f44 f47 f48 f49 f50 f51 q54 q55 q56 f57 q58 f59 f60 g_6 (100 + vy_15) 0 hx16 hx18 hx19 hx21 hx22 hx26 hx28 hx29 (Nat.le_of_ble_eq_true rfl) hx33 hx46 hx52 hx53 hx61 hx62 hx63 (by omega) hm12_0 hm12_1 hm13_0 hm13_1 hm14_0 hm14_1 hm15_0 hm15_1 hm42_0 hm42_1 (by omega) (by omega)) (cwV 2 hts g_EM_beginsPlay_EM_isHeld_p rfl rfl rfl (by decide +kernel) ⟨Nat.le_of_ble_eq_true rfl, Nat.le_of_ble_eq_true rfl⟩) ⟨pu_bl, va_recv hK hP (ci := 9) (q0 := 0) rfl rfl, pu_in hP hK hD⟩ rfl rfl hl.1 rfl (lv_room (Nat.le_of_ble_eq_true rfl)) dX9_beginsPlay_67 ⟨Nat.le_of_ble_eq_true rfl, Nat.le_of_ble_eq_true rfl⟩) hS (fun q _ h => pu_fr hS hA q h) (pu_fr hS hA) (fun r_18 u t H1 locs ht hvm hw hB hz1 hk1 hS => ?_)
        have hP := pu_keep hP hk1
        clear hk1 hz1 ht hvm
        generalize H1 = H at hP hS ⊢
        obtain ⟨u_19, hu_19, rfl, iu_19⟩ := hw
        replace hsp := hsp.trans (slet_eq iu_19)
        refine va_put (D := (dC, dI)) (ci := 9) (v := .int (nI u_19)) (ty := .boolean) (C := RX9) (T := TX9) (N := 67) hx hb hts hiX9 tyX9 tyX9_ok nmX9 hown hK hP hD hS 0 rfl rfl 30 (by decide) v_1 (fun _ h9 => h9) rfl (by decide +kernel) (pu_nz (pu_b1 (n := u_19) (by omega))) (pu_fz (pu_b1 (n := u_19) (by omega))) (Nat.le_of_ble_eq_true rfl) dX9_beginsPlay_70 (fun H locs hP hD hS => ?_)
        have hP : va_P (dC, dI) vwCl (mo_w ad ck x0 (nI x16) (nI x18) (nI x19) x20 (nI x21) (nI x22) x23 x24 x25 (nI x26) x27 (nI x28) (nI x29) (nI u_19) (nI x33) x45 (nI x46) (nI x52) (nI x53) (nI x61) (nI x62) (nI x63) (nI vy_15) 0 f1 f2 f3 (bN 3 q4) (bN 7 q5) (bN 7 q6) (bN 4 q7) f8 (bN 2 q9) (bH q10) f11 (b2 m12_0 m12_1) (b2 m13_0 m13_1) (b2 m14_0 m14_1) (b2m m15_0 m15_1) f17 (bA 159 q31) f32 f34 f35 f36 f37 (bN 7 q38) f39 f40 f41 (b2 m42_0 m42_1) f43 f44 f47 f48 f49 f50 f51 (bN 13 q54) (bN 120 q55) (bN 120 q56) f57 (bN 120 q58) f59 f60 g_6) H := hP
        have hD : va_D A (mo_w ad ck x0 (nI x16) (nI x18) (nI x19) x20 (nI x21) (nI x22) x23 x24 x25 (nI x26) x27 (nI x28) (nI x29) (nI u_19) (nI x33) x45 (nI x46) (nI x52) (nI x53) (nI x61) (nI x62) (nI x63) (nI vy_15) 0 f1 f2 f3 (bN 3 q4) (bN 7 q5) (bN 7 q6) (bN 4 q7) f8 (bN 2 q9) (bH q10) f11 (b2 m12_0 m12_1) (b2 m13_0 m13_1) (b2 m14_0 m14_1) (b2m m15_0 m15_1) f17 (bA 159 q31) f32 f34 f35 f36 f37 (bN 7 q38) f39 f40 f41 (b2 m42_0 m42_1) f43 f44 f47 f48 f49 f50 f51 (bN 13 q54) (bN 120 q55) (bN 120 q56) f57 (bN 120 q58) f59 f60 g_6) := hD
        refine lv_aload_n hx hb dX9_beginsPlay_73 rfl (lv_at hl 0 rfl) ?_
        refine va_get (D := (dC, dI)) (ci := 9) (v := .int (nI u_19)) (C := RX9) (T := TX9) (N := 67) hx hb hts hiX9 hown hK hP 0 rfl rfl 30 (by decide) v_1 (fun _ h9 => h9) rfl dX9_beginsPlay_74 ?_
        exact W.zret (v := (nI u_19)) (ty := .boolean) hx hb hr (pu_nz (pu_b1 (n := u_19) (by omega))) (fun t ht hW => ⟨⟨(nI u_19), (), rfl, ⟨u_19, hu_19, rfl, (congrArg Prod.fst (hsp.symm.trans hRR))⟩, ⟨g_6, u_19, vy_15, 0, ⟨by rw [ht]; exact hP, va_K.moved hW.alike hK, hD⟩, hu_19, (by omega), (congrArg Prod.snd (hsp.symm.trans hRR))⟩⟩, hS.F ht⟩) hS.2.2 dX9_beginsPlay_77
    · have c_14 : ¬ 3 ≤ g_7 := fun z => c_14 ((nI_leI (a := 3) (b := g_7) (Nat.le_of_ble_eq_true rfl) (Nat.lt_of_le_of_lt hg_7 (Nat.le_of_ble_eq_true rfl))).mpr z)
      replace hsp := hsp.trans (if_neg c_14)
      refine lv_aload_n hx hb dX9_beginsPlay_26 rfl (lv_at hl 0 rfl) ?_
      refine va_get (D := (dC, dI)) (ci := 9) (v := .ref (ad 64)) (C := RX9) (T := TX9) (N := 67) hx hb hts hiX9 hown hK hP 0 rfl rfl 64 (by decide) v_4 (fun _ h9 => h9) rfl dX9_beginsPlay_27 ?_
      refine lv_iload_n hx hb dX9_beginsPlay_30 rfl (lv_at hl 1 rfl) ?_
      refine lv_iconst (v := 0) hx hb dX9_beginsPlay_31 (by decide) ?_
      refine va_iast hx hb hK hP hD hS 42 41 rfl rfl (vp_in_nI (n := g_7) (by omega) (Nat.le_of_ble_eq_true rfl)) dX9_beginsPlay_32 (fun H locs hP hD hS => ?_)
      obtain ⟨f_20, ef_20, xf_20⟩ := up_x g_6 (n := g_7) 0 (Nat.lt_of_le_of_lt hg_7 (Nat.le_of_ble_eq_true rfl))
      have hP : va_P (dC, dI) vwCl (mo_w ad ck x0 (nI x16) (nI x18) (nI x19) x20 (nI x21) (nI x22) x23 x24 x25 (nI x26) x27 (nI x28) (nI x29) 0 (nI x33) x45 (nI x46) (nI x52) (nI x53) (nI x61) (nI x62) (nI x63) (nI x65) x66 f1 f2 f3 (bN 3 q4) (bN 7 q5) (bN 7 q6) (bN 4 q7) f8 (bN 2 q9) (bH q10) f11 (b2 m12_0 m12_1) (b2 m13_0 m13_1) (b2 m14_0 m14_1) (b2m m15_0 m15_1) f17 (bA 159 q31) f32 f34 f35 f36 f37 (bN 7 q38) f39 f40 f41 (b2 m42_0 m42_1) f43 f44 f47 f48 f49 f50 f51 (bN 13 q54) (bN 120 q55) (bN 120 q56) f57 (bN 120 q58) f59 f60 f_20) H := by rw [← ef_20]; exact hP
      have hD : va_D A (mo_w ad ck x0 (nI x16) (nI x18) (nI x19) x20 (nI x21) (nI x22) x23 x24 x25 (nI x26) x27 (nI x28) (nI x29) 0 (nI x33) x45 (nI x46) (nI x52) (nI x53) (nI x61) (nI x62) (nI x63) (nI x65) x66 f1 f2 f3 (bN 3 q4) (bN 7 q5) (bN 7 q6) (bN 4 q7) f8 (bN 2 q9) (bH q10) f11 (b2 m12_0 m12_1) (b2 m13_0 m13_1) (b2 m14_0 m14_1) (b2m m15_0 m15_1) f17 (bA 159 q31) f32 f34 f35 f36 f37 (bN 7 q38) f39 f40 f41 (b2 m42_0 m42_1) f43 f44 f47 f48 f49 f50 f51 (bN 13 q54) (bN 120 q55) (bN 120 q56) f57 (bN 120 q58) f59 f60 f_20) := by rw [← ef_20]; exact hD
      replace hsp := hsp.trans (slet_eq xf_20)
      refine lv_iinc (v := (nI (g_7 + 1))) (lv' := [(1, .int (nI (g_7 + 1))), (0, .ref (ad 0))]) hx hb dX9_beginsPlay_33 hl (k := 1) rfl (nI_1 _) (by decide) rfl (fun ls hl => ?_)
      refine lv_goto (tgt := 21) hx hb dX9_beginsPlay_36 (by decide) ?_
      exact ih_8 (3 - (g_7 + 1)) (by omega) _ _ _ ⟨f_20, (g_7 + 1), rfl, (by omega), hin_12 _ hsp, hP, hD, hS, lv_sub hl [1, 0] rfl⟩
  · have c_3 : u_2 = 0 := (nI_eq (a := u_2) (b := 0) (by omega) (Nat.le_of_ble_eq_true rfl)).mp c_3
    replace hsp := hsp.trans (if_pos c_3)
    refine lv_iconst (v := 0) hx hb dX9_beginsPlay_17 (by decide) ?_
    exact W.zret (v := 0) (ty := .boolean) hx hb hr (rfl) (fun t ht hW => ⟨⟨0, (), rfl, ⟨0, (Nat.le_of_ble_eq_true rfl), rfl, (congrArg Prod.fst (hsp.symm.trans hRR))⟩, ⟨f64, 0, x65, x66, ⟨by rw [ht]; exact hP, va_K.moved hW.alike hK, hD⟩, (Nat.le_of_ble_eq_true rfl), hx65, (congrArg Prod.snd (hsp.symm.trans hRR))⟩⟩, hS.F ht⟩) hS.2.2 dX9_beginsPlay_18
