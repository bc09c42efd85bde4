theorem dX9_now_0 : decode cX9_now 0 = .ok (.aload_n 0, 1) := by decide +kernel
theorem dX9_now_1 : decode cX9_now 1 = .ok (.iconst 0, 1) := by decide +kernel
theorem dX9_now_2 : decode cX9_now 2 = .ok (.putfield 142, 3) := by decide +kernel
theorem dX9_now_5 : decode cX9_now 5 = .ok (.aload_n 0, 1) := by decide +kernel
theorem dX9_now_6 : decode cX9_now 6 = .ok (.getfield 277, 3) := by decide +kernel
theorem dX9_now_9 : decode cX9_now 9 = .ok (.ifCond .eq 12, 3) := by decide +kernel
theorem dX9_now_12 : decode cX9_now 12 = .ok (.iload_n 1, 1) := by decide +kernel
theorem dX9_now_13 : decode cX9_now 13 = .ok (.iconst 0, 1) := by decide +kernel
theorem dX9_now_14 : decode cX9_now 14 = .ok (.iconst 3, 1) := by decide +kernel
theorem dX9_now_15 : decode cX9_now 15 = .ok (.invokestatic 152, 3) := by decide +kernel
theorem dX9_now_18 : decode cX9_now 18 = .ok (.ifCond .ne 5, 3) := by decide +kernel
theorem dX9_now_21 : decode cX9_now 21 = .ok (.iconst (-1), 1) := by decide +kernel
theorem dX9_now_22 : decode cX9_now 22 = .ok (.ireturn, 1) := by decide +kernel
theorem dX9_now_23 : decode cX9_now 23 = .ok (.iconst 0, 1) := by decide +kernel
theorem dX9_now_24 : decode cX9_now 24 = .ok (.istore_n 2, 1) := by decide +kernel
theorem dX9_now_25 : decode cX9_now 25 = .ok (.iconst 0, 1) := by decide +kernel
theorem dX9_now_26 : decode cX9_now 26 = .ok (.istore_n 3, 1) := by decide +kernel
theorem dX9_now_27 : decode cX9_now 27 = .ok (.iload_n 3, 1) := by decide +kernel
theorem dX9_now_28 : decode cX9_now 28 = .ok (.aload_n 0, 1) := by decide +kernel
theorem dX9_now_29 : decode cX9_now 29 = .ok (.getfield 49, 3) := by decide +kernel
theorem dX9_now_32 : decode cX9_now 32 = .ok (.aload_n 0, 1) := by decide +kernel
theorem dX9_now_33 : decode cX9_now 33 = .ok (.getfield 258, 3) := by decide +kernel
theorem dX9_now_36 : decode cX9_now 36 = .ok (.iaload, 1) := by decide +kernel
theorem dX9_now_37 : decode cX9_now 37 = .ok (.if_icmp .ge 27, 3) := by decide +kernel
theorem dX9_now_40 : decode cX9_now 40 = .ok (.iload_n 2, 1) := by decide +kernel
theorem dX9_now_41 : decode cX9_now 41 = .ok (.aload_n 0, 1) := by decide +kernel
theorem dX9_now_42 : decode cX9_now 42 = .ok (.iload_n 3, 1) := by decide +kernel
theorem dX9_now_43 : decode cX9_now 43 = .ok (.invokevirtual 484, 3) := by decide +kernel
theorem dX9_now_46 : decode cX9_now 46 = .ok (.ifCond .eq 9, 3) := by decide +kernel
theorem dX9_now_49 : decode cX9_now 49 = .ok (.iconst 1, 1) := by decide +kernel
theorem dX9_now_50 : decode cX9_now 50 = .ok (.iload_n 3, 1) := by decide +kernel
theorem dX9_now_51 : decode cX9_now 51 = .ok (.ishl, 1) := by decide +kernel
theorem dX9_now_52 : decode cX9_now 52 = .ok (.goto 4, 3) := by decide +kernel
theorem dX9_now_55 : decode cX9_now 55 = .ok (.iconst 0, 1) := by decide +kernel
theorem dX9_now_56 : decode cX9_now 56 = .ok (.ior, 1) := by decide +kernel
theorem dX9_now_57 : decode cX9_now 57 = .ok (.istore_n 2, 1) := by decide +kernel
theorem dX9_now_58 : decode cX9_now 58 = .ok (.iinc 3 1, 3) := by decide +kernel
theorem dX9_now_61 : decode cX9_now 61 = .ok (.goto (-34), 3) := by decide +kernel
theorem dX9_now_64 : decode cX9_now 64 = .ok (.iload_n 1, 1) := by decide +kernel
theorem dX9_now_65 : decode cX9_now 65 = .ok (.ifCond .ne 10, 3) := by decide +kernel
theorem dX9_now_68 : decode cX9_now 68 = .ok (.aload_n 0, 1) := by decide +kernel
theorem dX9_now_69 : decode cX9_now 69 = .ok (.getfield 466, 3) := by decide +kernel
theorem dX9_now_72 : decode cX9_now 72 = .ok (.goto 28, 3) := by decide +kernel
theorem dX9_now_75 : decode cX9_now 75 = .ok (.iload_n 1, 1) := by decide +kernel
theorem dX9_now_76 : decode cX9_now 76 = .ok (.iconst 1, 1) := by decide +kernel
theorem dX9_now_77 : decode cX9_now 77 = .ok (.if_icmp .ne 10, 3) := by decide +kernel
theorem dX9_now_80 : decode cX9_now 80 = .ok (.aload_n 0, 1) := by decide +kernel
theorem dX9_now_81 : decode cX9_now 81 = .ok (.getfield 469, 3) := by decide +kernel
theorem dX9_now_84 : decode cX9_now 84 = .ok (.goto 16, 3) := by decide +kernel
theorem dX9_now_87 : decode cX9_now 87 = .ok (.iload_n 1, 1) := by decide +kernel
theorem dX9_now_88 : decode cX9_now 88 = .ok (.iconst 2, 1) := by decide +kernel
theorem dX9_now_89 : decode cX9_now 89 = .ok (.if_icmp .ne 7, 3) := by decide +kernel
theorem dX9_now_92 : decode cX9_now 92 = .ok (.iload_n 2, 1) := by decide +kernel
theorem dX9_now_93 : decode cX9_now 93 = .ok (.goto 7, 3) := by decide +kernel
theorem dX9_now_96 : decode cX9_now 96 = .ok (.aload_n 0, 1) := by decide +kernel
theorem dX9_now_97 : decode cX9_now 97 = .ok (.invokevirtual 478, 3) := by decide +kernel
theorem dX9_now_100 : decode cX9_now 100 = .ok (.ireturn, 1) := by decide +kernel
abbrev vs_EM_now : List Cond := .code yX9_now cX9_now 4 (some .int) :: VM
theorem g_EM_now_X9_in : GoodIn vs_EM_now (va_wsS RX9 152 yX9_in vs_X9_in) := gm_0 (fun w h => by
  rcases List.mem_cons.mp h with rfl | h
  · exact vm_137
  rcases List.mem_cons.mp h with rfl | h
  · exact vm_138
  rcases List.mem_cons.mp h with rfl | h
  · exact vm_19
  rcases List.mem_cons.mp h with rfl | h
  · exact vm_139
  exact absurd h (List.not_mem_nil))
theorem g_EM_now_EM_mayWait : GoodIn vs_EM_now (wsV RX9 478 RX9 yX9_mayWait vs_EM_mayWait) := gm_V vm_369 vm_370 vm_371 vm_19 vm_372
theorem g_EM_now_EM_canTake : GoodIn vs_EM_now (wsV RX9 484 RX9 yX9_canTake vs_EM_canTake) := gm_V vm_377 vm_378 vm_379 vm_19 vm_380
noncomputable def sp_EM_now_L1 (x16 : Nat) (x65 : Nat) (x66 : Int32) (f3 : Nat → Int32) (q4 : Nat → Nat) (q5 : Nat → Nat) (q6 : Nat → Nat) (q7 : Nat → Nat) (f8 : Nat → Int32) (q9 : Nat → Nat) (q10 : Nat → Nat) (f11 : Nat → Int32) (m13_0 : Nat) (m13_1 : Nat) (m14_0 : Nat) (m14_1 : Nat) (f64 : Nat → Int32) (n_3 : Nat) : (Int32 × Nat) → (Int32 × Nat) ⊕ (Int32 × Int32) := fun (g_6, g_7) => (slet (if x16 = 0 then m14_0 else m14_1) (fun u_15 => (if u_15 ≤ g_7 then (Sum.inr (if n_3 = 0 then ((nI x65), 0) else (if n_3 = 1 then (x66, 0) else (if n_3 = 2 then (g_6, 0) else (slet (sp_EM_mayWait x16 x65 f3 q4 q9 q10 f11 m13_0 m13_1 f64) (fun r_20 => (r_20, 0))))))) else (slet (sp_EM_canTake x16 x65 q4 q5 q6 q7 f8 q9 q10 f11 m13_0 m13_1 m14_0 m14_1 f64 g_7) (fun u_22 => (slet (α := Int32) (if u_22 = 0 then 0 else (slet ((1 : Int32) <<< (((nI g_7) : Int32) &&& 31)) (fun y_29 => y_29))) (fun g_23 => (slet ((g_6 : Int32) ||| (g_23 : Int32)) (fun y_27 => (Sum.inl (y_27, (g_7 + 1))))))))))))
noncomputable def sp_EM_now (x16 : Nat) (x30 : Nat) (x65 : Nat) (x66 : Int32) (f3 : Nat → Int32) (q4 : Nat → Nat) (q5 : Nat → Nat) (q6 : Nat → Nat) (q7 : Nat → Nat) (f8 : Nat → Int32) (q9 : Nat → Nat) (q10 : Nat → Nat) (f11 : Nat → Int32) (m13_0 : Nat) (m13_1 : Nat) (m14_0 : Nat) (m14_1 : Nat) (f64 : Nat → Int32) (p0 : Int32) : Int32 × Int32 := (if x30 = 0 then ((-1), 0) else (if (0 : Int32) ≤ p0 ∧ p0 ≤ 3 then (slet ((p0 : Int32).toNatClampNeg) (fun n_3 => (itrv (α := Int32 × Nat) (β := (Int32 × Int32)) default (sp_EM_now_L1 x16 x65 x66 f3 q4 q5 q6 q7 f8 q9 q10 f11 m13_0 m13_1 m14_0 m14_1 f64 n_3) (0, 0)))) else ((-1), 0)))
set_option maxHeartbeats 4000000 in
set_option maxRecDepth 100000 in
theorem c_EM_now (l : Launch) (dC : Nat → ClassId) (dI : Nat → Nat → Nat) (sz : Nat) (ad : Nat → Nat) (ck : Nat → ClassId) (x0 : Int32) (x16 : Nat) (x18 : Nat) (x19 : Nat) (x20 : Int32) (x21 : Nat) (x22 : Nat) (x23 : Int32) (x24 : Int32) (x25 : Int32) (x26 : Nat) (x27 : Int32) (x28 : Nat) (x29 : Nat) (x30 : Nat) (x33 : Nat) (x45 : Int32) (x46 : Nat) (x52 : Nat) (x53 : Nat) (x61 : Nat) (x62 : Nat) (x63 : Nat) (x65 : Nat) (x66 : Int32) (f1 : Nat → Int32) (f2 : Nat → Int32) (f3 : Nat → Int32) (q4 : Nat → Nat) (q5 : Nat → Nat) (q6 : Nat → Nat) (q7 : Nat → Nat) (f8 : Nat → Int32) (q9 : Nat → Nat) (q10 : Nat → Nat) (f11 : Nat → Int32) (m12_0 m12_1 : Nat) (m13_0 m13_1 : Nat) (m14_0 m14_1 : Nat) (m15_0 m15_1 : Nat) (f17 : Nat → Int32) (q31 : Nat → Nat) (f32 : Nat → Int32) (f34 : Nat → Int32) (f35 : Nat → Int32) (f36 : Nat → Int32) (f37 : Nat → Int32) (q38 : Nat → Nat) (f39 : Nat → Int32) (f40 : Nat → Int32) (f41 : Nat → Int32) (m42_0 m42_1 : Nat) (f43 : Nat → Int32) (f44 : Nat → Int32) (f47 : Nat → Int32) (f48 : Nat → Int32) (f49 : Nat → Int32) (f50 : Nat → Int32) (f51 : Nat → Int32) (q54 : Nat → Nat) (q55 : Nat → Nat) (q56 : Nat → Nat) (f57 : Nat → Int32) (q58 : Nat → Nat) (f59 : Nat → Int32) (f60 : Nat → Int32) (f64 : Nat → Int32) (p0 : Int32) (hx16 : x16 ≤ 1) (hx18 : x18 ≤ 900) (hx19 : x19 ≤ 900) (hx21 : x21 ≤ 900) (hx22 : x22 ≤ 4) (hx26 : x26 ≤ 6) (hx28 : x28 ≤ 1) (hx29 : x29 ≤ 1) (hx30 : x30 ≤ 1) (hx33 : x33 ≤ 20) (hx46 : x46 ≤ 5) (hx52 : x52 ≤ 2400) (hx53 : x53 ≤ 119) (hx61 : x61 ≤ 119) (hx62 : x62 ≤ 2000) (hx63 : x63 ≤ 1) (hx65 : x65 ≤ 7) (hm12_0 : m12_0 ≤ 3) (hm12_1 : m12_1 ≤ 3) (hm13_0 : m13_0 ≤ 8) (hm13_1 : m13_1 ≤ 8) (hm14_0 : m14_0 ≤ 14) (hm14_1 : m14_1 ≤ 14) (hm15_0 : m15_0 ≤ 8) (hm15_1 : m15_1 ≤ 8) (hm42_0 : m42_0 ≤ 120) (hm42_1 : m42_1 ≤ 400) : Met l yX9_now vs_EM_now ({ frames := 5, cells := 0, slots := 0, locals := 112 }) (va_Pc [.ref (ad 0), .int p0] (pu_B (dC, dI) (mo_w ad ck x0 (nI x16) (nI x18) (nI x19) x20 (nI x21) (nI x22) x23 x24 x25 (nI x26) x27 (nI x28) (nI x29) (nI x30) (nI x33) x45 (nI x46) (nI x52) (nI x53) (nI x61) (nI x62) (nI x63) (nI x65) x66 f1 f2 f3 (bN 3 q4) (bN 7 q5) (bN 7 q6) (bN 4 q7) f8 (bN 2 q9) (bH q10) f11 (b2 m12_0 m12_1) (b2 m13_0 m13_1) (b2 m14_0 m14_1) (b2m m15_0 m15_1) f17 (bA 159 q31) f32 f34 f35 f36 f37 (bN 7 q38) f39 f40 f41 (b2 m42_0 m42_1) f43 f44 f47 f48 f49 f50 f51 (bN 13 q54) (bN 120 q55) (bN 120 q56) f57 (bN 120 q58) f59 f60 f64) (mo_t ck) sz)) (va_Qi (fun (r : Int32) (_ : Unit) => r = (sp_EM_now x16 x30 x65 x66 f3 q4 q5 q6 q7 f8 q9 q10 f11 m13_0 m13_1 m14_0 m14_1 f64 p0).1) (fun _ t => ∃ (z0 : Int32), pu_E (dC, dI) (mo_w ad ck z0 (nI x16) (nI x18) (nI x19) x20 (nI x21) (nI x22) x23 x24 x25 (nI x26) x27 (nI x28) (nI x29) (nI x30) (nI x33) x45 (nI x46) (nI x52) (nI x53) (nI x61) (nI x62) (nI x63) (nI x65) x66 f1 f2 f3 (bN 3 q4) (bN 7 q5) (bN 7 q6) (bN 4 q7) f8 (bN 2 q9) (bH q10) f11 (b2 m12_0 m12_1) (b2 m13_0 m13_1) (b2 m14_0 m14_1) (b2m m15_0 m15_1) f17 (bA 159 q31) f32 f34 f35 f36 f37 (bN 7 q38) f39 f40 f41 (b2 m42_0 m42_1) f43 f44 f47 f48 f49 f50 f51 (bN 13 q54) (bN 120 q55) (bN 120 q56) f57 (bN 120 q58) f59 f60 f64) (mo_t ck) (va_A ((mo_w ad ck x0 (nI x16) (nI x18) (nI x19) x20 (nI x21) (nI x22) x23 x24 x25 (nI x26) x27 (nI x28) (nI x29) (nI x30) (nI x33) x45 (nI x46) (nI x52) (nI x53) (nI x61) (nI x62) (nI x63) (nI x65) x66 f1 f2 f3 (bN 3 q4) (bN 7 q5) (bN 7 q6) (bN 4 q7) f8 (bN 2 q9) (bH q10) f11 (b2 m12_0 m12_1) (b2 m13_0 m13_1) (b2 m14_0 m14_1) (b2m m15_0 m15_1) f17 (bA 159 q31) f32 f34 f35 f36 f37 (bN 7 q38) f39 f40 f41 (b2 m42_0 m42_1) f43 f44 f47 f48 f49 f50 f51 (bN 13 q54) (bN 120 q55) (bN 120 q56) f57 (bN 120 q58) f59 f60 f64)) sz) t ∧ (z0 = (sp_EM_now x16 x30 x65 x66 f3 q4 q5 q6 q7 f8 q9 q10 f11 m13_0 m13_1 m14_0 m14_1 f64 p0).2)) (va_A ((mo_w ad ck x0 (nI x16) (nI x18) (nI x19) x20 (nI x21) (nI x22) x23 x24 x25 (nI x26) x27 (nI x28) (nI x29) (nI x30) (nI x33) x45 (nI x46) (nI x52) (nI x53) (nI x61) (nI x62) (nI x63) (nI x65) x66 f1 f2 f3 (bN 3 q4) (bN 7 q5) (bN 7 q6) (bN 4 q7) f8 (bN 2 q9) (bH q10) f11 (b2 m12_0 m12_1) (b2 m13_0 m13_1) (b2 m14_0 m14_1) (b2m m15_0 m15_1) f17 (bA 159 q31) f32 f34 f35 f36 f37 (bN 7 q38) f39 f40 f41 (b2 m42_0 m42_1) f43 f44 f47 f48 f49 f50 f51 (bN 13 q54) (bN 120 q55) (bN 120 q56) f57 (bN 120 q58) f59 f60 f64)) sz)) 0 0 (va_A ((mo_w ad ck x0 (nI x16) (nI x18) (nI x19) x20 (nI x21) (nI x22) x23 x24 x25 (nI x26) x27 (nI x28) (nI x29) (nI x30) (nI x33) x45 (nI x46) (nI x52) (nI x53) (nI x61) (nI x62) (nI x63) (nI x65) x66 f1 f2 f3 (bN 3 q4) (bN 7 q5) (bN 7 q6) (bN 4 q7) f8 (bN 2 q9) (bH q10) f11 (b2 m12_0 m12_1) (b2 m13_0 m13_1) (b2 m14_0 m14_1) (b2m m15_0 m15_1) f17 (bA 159 q31) f32 f34 f35 f36 f37 (bN 7 q38) f39 f40 f41 (b2 m42_0 m42_1) f43 f44 f47 f48 f49 f50 f51 (bN 13 q54) (bN 120 q55) (bN 120 q56) f57 (bN 120 q58) f59 f60 f64)) sz) := by
  refine Met.ofW (cc := cX9_now) (maxL := 4) (ret := (some .int)) (by decide) rfl ?_
  intro p e s m args below meth c s₁ B hml hv
  obtain ⟨rfl, rfl, hP, hK, hD0⟩ := hv
  have hx := B.exec
  have hb := B.bytes
  have hr := B.returns
  have hts := atoms_spec (ws := vs_EM_now) B.pre
  have v_1 := hts (.fieldLink RX9 142 "ClockReachModel" "thrown" "I") (List.mem_cons_of_mem _ vm_5)
  have v_2 := hts (.fieldLink RX9 277 "ClockReachModel" "isPlayed" "Z") (List.mem_cons_of_mem _ vm_2)
  have v_7 := hts (.fieldLink RX9 49 "ClockReachModel" "edgeMany" "[I") (List.mem_cons_of_mem _ vm_45)
  have v_8 := hts (.fieldLink RX9 258 "ClockReachModel" "bank" "I") (List.mem_cons_of_mem _ vm_4)
  have v_17 := hts (.fieldLink RX9 469 "ClockReachModel" "played" "I") (List.mem_cons_of_mem _ vm_364)
  have v_18 := hts (.fieldLink RX9 466 "ClockReachModel" "playPlace" "I") (List.mem_cons_of_mem _ vm_363)
  have hown : s.vm.findClass RX9 = some m.cls := findClass_of_methodNamed B.named
  have hlocks := B.notSynchronized
  have hiX9 : ∀ w ∈ wsX90, w ∈ vs_EM_now := fun _ h => List.mem_cons_of_mem _ (vmi_L h)
  have hD := hD0.self (sz := s.heap.size)
  generalize hAe : va_A ((mo_w ad ck x0 (nI x16) (nI x18) (nI x19) x20 (nI x21) (nI x22) x23 x24 x25 (nI x26) x27 (nI x28) (nI x29) (nI x30) (nI x33) x45 (nI x46) (nI x52) (nI x53) (nI x61) (nI x62) (nI x63) (nI x65) x66 f1 f2 f3 (bN 3 q4) (bN 7 q5) (bN 7 q6) (bN 4 q7) f8 (bN 2 q9) (bH q10) f11 (b2 m12_0 m12_1) (b2 m13_0 m13_1) (b2 m14_0 m14_1) (b2m m15_0 m15_1) f17 (bA 159 q31) f32 f34 f35 f36 f37 (bN 7 q38) f39 f40 f41 (b2 m42_0 m42_1) f43 f44 f47 f48 f49 f50 f51 (bN 13 q54) (bN 120 q55) (bN 120 q56) f57 (bN 120 q58) f59 f60 f64)) s.heap.size = A at hD ⊢
  have hA : ∀ q : Nat, s.heap.size ≤ q → A q := fun q h => by rw [← hAe]; exact Or.inr h
  have hS : va_S A s.heap s.heap [] := va_S.rf
  have hl := lv_entry ([.ref (ad 0), .int p0]) (n := 4) (Nat.le_of_ble_eq_true rfl)
  rw [lg_entry_eq]
  generalize (lg_sl ([.ref (ad 0), .int p0]) ++ List.replicate (4 - (lg_sl ([.ref (ad 0), .int p0])).length) Slot.unset).toArray = ls at hl ⊢
  have hl : lv_has ls 4 [(0, .ref (ad 0)), (1, .int p0)] := hl
  obtain ⟨RR, hRR⟩ : ∃ x, x = (sp_EM_now x16 x30 x65 x66 f3 q4 q5 q6 q7 f8 q9 q10 f11 m13_0 m13_1 m14_0 m14_1 f64 p0) := ⟨_, rfl⟩
  have hsp := hRR
  refine lv_aload_n hx hb dX9_now_0 rfl (lv_at hl 0 rfl) ?_
  refine lv_iconst (v := 0) hx hb dX9_now_1 (by decide) ?_
  refine va_put (D := (dC, dI)) (ci := 9) (v := .int 0) (ty := .int) (C := RX9) (T := TX9) (N := 67) hx hb hts hiX9 tyX9 tyX9_ok nmX9 hown hK hP hD hS 0 rfl rfl 0 (by decide) v_1 (fun _ h9 => h9) rfl (by decide +kernel) rfl rfl (Nat.le_of_ble_eq_true rfl) dX9_now_2 (fun H locs hP hD hS => ?_)
  have hP : va_P (dC, dI) vwCl (mo_w ad ck 0 (nI x16) (nI x18) (nI x19) x20 (nI x21) (nI x22) x23 x24 x25 (nI x26) x27 (nI x28) (nI x29) (nI x30) (nI x33) x45 (nI x46) (nI x52) (nI x53) (nI x61) (nI x62) (nI x63) (nI x65) x66 f1 f2 f3 (bN 3 q4) (bN 7 q5) (bN 7 q6) (bN 4 q7) f8 (bN 2 q9) (bH q10) f11 (b2 m12_0 m12_1) (b2 m13_0 m13_1) (b2 m14_0 m14_1) (b2m m15_0 m15_1) f17 (bA 159 q31) f32 f34 f35 f36 f37 (bN 7 q38) f39 f40 f41 (b2 m42_0 m42_1) f43 f44 f47 f48 f49 f50 f51 (bN 13 q54) (bN 120 q55) (bN 120 q56) f57 (bN 120 q58) f59 f60 f64) H := hP
  have hD : va_D A (mo_w ad ck 0 (nI x16) (nI x18) (nI x19) x20 (nI x21) (nI x22) x23 x24 x25 (nI x26) x27 (nI x28) (nI x29) (nI x30) (nI x33) x45 (nI x46) (nI x52) (nI x53) (nI x61) (nI x62) (nI x63) (nI x65) x66 f1 f2 f3 (bN 3 q4) (bN 7 q5) (bN 7 q6) (bN 4 q7) f8 (bN 2 q9) (bH q10) f11 (b2 m12_0 m12_1) (b2 m13_0 m13_1) (b2 m14_0 m14_1) (b2m m15_0 m15_1) f17 (bA 159 q31) f32 f34 f35 f36 f37 (bN 7 q38) f39 f40 f41 (b2 m42_0 m42_1) f43 f44 f47 f48 f49 f50 f51 (bN 13 q54) (bN 120 q55) (bN 120 q56) f57 (bN 120 q58) f59 f60 f64) := hD
  refine lv_aload_n hx hb dX9_now_5 rfl (lv_at hl 0 rfl) ?_
  refine va_get (D := (dC, dI)) (ci := 9) (v := .int (nI x30)) (C := RX9) (T := TX9) (N := 67) hx hb hts hiX9 hown hK hP 0 rfl rfl 30 (by decide) v_2 (fun _ h9 => h9) rfl dX9_now_6 ?_
  refine lv_if_eq (tgt := 21) hx hb dX9_now_9 (by decide) (fun c_1 => ?_) (fun c_1 => ?_)
  · have c_1 : x30 = 0 := (nI_eq (a := x30) (b := 0) (Nat.lt_of_le_of_lt hx30 (Nat.le_of_ble_eq_true rfl)) (Nat.le_of_ble_eq_true rfl)).mp c_1
    replace hsp := hsp.trans (if_pos c_1)
    refine lv_iconst (v := (-1)) hx hb dX9_now_21 (by decide) ?_
    exact W.iret (v := (-1)) hx hb hr (fun t ht hW => ⟨⟨(-1), (), rfl, (congrArg Prod.fst (hsp.symm.trans hRR)), ⟨0, ⟨by rw [ht]; exact hP, va_K.moved hW.alike hK, hD⟩, (congrArg Prod.snd (hsp.symm.trans hRR))⟩⟩, hS.F ht⟩) hS.2.2 dX9_now_22
  · have c_1 : ¬ x30 = 0 := fun z => c_1 ((nI_eq (a := x30) (b := 0) (Nat.lt_of_le_of_lt hx30 (Nat.le_of_ble_eq_true rfl)) (Nat.le_of_ble_eq_true rfl)).mpr z)
    replace hsp := hsp.trans (if_neg c_1)
    refine lv_iload_n hx hb dX9_now_12 rfl (lv_at hl 1 rfl) ?_
    refine lv_iconst (v := 0) hx hb dX9_now_13 (by decide) ?_
    refine lv_iconst (v := 3) hx hb dX9_now_14 (by decide) ?_
    refine va_calli (va_runS (As := [.int p0, .int 0, .int 3]) (rest := []) ⟨hx, hb, hml, hown, hts⟩ (c_X9_in l dC dI _ p0 0 3) (va_cwS 3 hts g_EM_now_X9_in rfl rfl rfl (by decide +kernel) ⟨Nat.le_of_ble_eq_true rfl, Nat.le_of_ble_eq_true rfl⟩) ⟨pu_bl, pu_in (hP.sub [] rfl) (hK.sub [] rfl) (hD.sub [] (by decide) rfl)⟩ rfl rfl hl.1 rfl (lv_room (Nat.le_of_ble_eq_true rfl)) dX9_now_15 ⟨Nat.le_of_ble_eq_true rfl, Nat.le_of_ble_eq_true rfl⟩) hS (fun q _ h => pu_fr hS hA q h) (pu_fr hS hA) (fun r_2 u t H1 locs ht hvm hw hB hz1 hk1 hS => ?_)
    have hP := pu_keep hP hk1
    clear hk1 hz1 ht hvm
    generalize H1 = H at hP hS ⊢
    rcases hw with ⟨rfl, hi1, hi2⟩ | ⟨rfl, hi3⟩
    · replace hsp := hsp.trans (if_pos ⟨hi1, hi2⟩)
      obtain ⟨n_3, hn_3, rfl⟩ := pu_in0 (n := 3) (by omega) hi1 hi2
      replace hsp := hsp.trans (slet_eq (nI_cl (n := n_3) (by omega)))
      refine lv_if_ne (tgt := 23) hx hb dX9_now_18 (by decide) (fun _ => ?_) (fun z => absurd z (by decide))
      refine lv_iconst (v := 0) hx hb dX9_now_23 (by decide) ?_
      refine lv_istore_n (lv' := [(2, .int 0), (0, .ref (ad 0)), (1, .int (nI n_3))]) hx hb dX9_now_24 rfl hl (by decide) rfl (fun ls hl => ?_)
      refine lv_iconst (v := 0) hx hb dX9_now_25 (by decide) ?_
      refine lv_istore_n (lv' := [(3, .int 0), (2, .int 0), (0, .ref (ad 0)), (1, .int (nI n_3))]) hx hb dX9_now_26 rfl hl (by decide) rfl (fun ls hl => ?_)
      obtain ⟨lf_9, dlf_9, hlf_9, hsp⟩ := itr_ex hsp
      delta sp_EM_now_L1 at hlf_9
      refine pu_while (fun nn H locs ls => ∃ (g_6 : Int32) (g_7 : Nat), nn = 14 - g_7 ∧ g_7 ≤ 14 ∧ RR = itrv dlf_9 lf_9 (g_6, g_7) ∧ va_P (dC, dI) vwCl (mo_w ad ck 0 (nI x16) (nI x18) (nI x19) x20 (nI x21) (nI x22) x23 x24 x25 (nI x26) x27 (nI x28) (nI x29) (nI x30) (nI x33) x45 (nI x46) (nI x52) (nI x53) (nI x61) (nI x62) (nI x63) (nI x65) x66 f1 f2 f3 (bN 3 q4) (bN 7 q5) (bN 7 q6) (bN 4 q7) f8 (bN 2 q9) (bH q10) f11 (b2 m12_0 m12_1) (b2 m13_0 m13_1) (b2 m14_0 m14_1) (b2m m15_0 m15_1) f17 (bA 159 q31) f32 f34 f35 f36 f37 (bN 7 q38) f39 f40 f41 (b2 m42_0 m42_1) f43 f44 f47 f48 f49 f50 f51 (bN 13 q54) (bN 120 q55) (bN 120 q56) f57 (bN 120 q58) f59 f60 f64) H ∧ va_D A (mo_w ad ck 0 (nI x16) (nI x18) (nI x19) x20 (nI x21) (nI x22) x23 x24 x25 (nI x26) x27 (nI x28) (nI x29) (nI x30) (nI x33) x45 (nI x46) (nI x52) (nI x53) (nI x61) (nI x62) (nI x63) (nI x65) x66 f1 f2 f3 (bN 3 q4) (bN 7 q5) (bN 7 q6) (bN 4 q7) f8 (bN 2 q9) (bH q10) f11 (b2 m12_0 m12_1) (b2 m13_0 m13_1) (b2 m14_0 m14_1) (b2m m15_0 m15_1) f17 (bA 159 q31) f32 f34 f35 f36 f37 (bN 7 q38) f39 f40 f41 (b2 m42_0 m42_1) f43 f44 f47 f48 f49 f50 f51 (bN 13 q54) (bN 120 q55) (bN 120 q56) f57 (bN 120 q58) f59 f60 f64) ∧ va_S A s.heap H locs ∧ lv_has ls 4 [(0, .ref (ad 0)), (1, .int (nI n_3)), (2, .int g_6), (3, .int (nI g_7))]) 27 ?_ _ _ _ _ ⟨0, 0, rfl, (Nat.le_of_ble_eq_true rfl), hsp, hP, hD, hS, lv_sub hl [2, 3, 1, 0] rfl⟩
      rintro nn ih_8 H locs ls ⟨g_6, g_7, rfl, hg_7, he_11, hP, hD, hS, hl⟩
      obtain ⟨S_10, hsp, hin_12, hout_13⟩ := itr_step hlf_9 he_11
      refine lv_iload_n hx hb dX9_now_27 rfl (lv_at hl 3 rfl) ?_
      refine lv_aload_n hx hb dX9_now_28 rfl (lv_at hl 0 rfl) ?_
      refine va_get (D := (dC, dI)) (ci := 9) (v := .ref (ad 14)) (C := RX9) (T := TX9) (N := 67) hx hb hts hiX9 hown hK hP 0 rfl rfl 14 (by decide) v_7 (fun _ h9 => h9) rfl dX9_now_29 ?_
      refine lv_aload_n hx hb dX9_now_32 rfl (lv_at hl 0 rfl) ?_
      refine va_get (D := (dC, dI)) (ci := 9) (v := .int (nI x16)) (C := RX9) (T := TX9) (N := 67) hx hb hts hiX9 hown hK hP 0 rfl rfl 16 (by decide) v_8 (fun _ h9 => h9) rfl dX9_now_33 ?_
      refine va_iald hx hb hK hP 14 13 rfl rfl (vp_in_nI (n := x16) (Nat.lt_of_le_of_lt hx16 (Nat.le_of_ble_eq_true rfl)) (Nat.le_of_ble_eq_true rfl)) dX9_now_36 ?_
      refine lv_topi (fun y_14 ey_14 => ?_)
      obtain ⟨u_15, hu_15, fu_15, xu_15⟩ := b2_getx (a := m14_0) (b := m14_1) (i := x16) (by omega)
      have qy_14 := ey_14.trans fu_15
      replace hsp := hsp.trans (slet_eq xu_15)
      obtain rfl : y_14 = nI u_15 := qy_14
      refine lv_icmp_ge (tgt := 64) hx hb dX9_now_37 (by decide) (fun c_16 => ?_) (fun c_16 => ?_)
      · have c_16 : u_15 ≤ g_7 := (nI_leI (a := u_15) (b := g_7) (by omega) (Nat.lt_of_le_of_lt hg_7 (Nat.le_of_ble_eq_true rfl))).mp c_16
        replace hsp := hsp.trans (if_pos c_16)
        replace hsp := hout_13 _ hsp
        refine lv_iload_n hx hb dX9_now_64 rfl (lv_at hl 1 rfl) ?_
        refine lv_if_ne (tgt := 75) hx hb dX9_now_65 (by decide) (fun c_17 => ?_) (fun c_17 => ?_)
        · have c_17 : ¬ n_3 = 0 := fun z => c_17 ((nI_eq (a := n_3) (b := 0) (by omega) (Nat.le_of_ble_eq_true rfl)).mpr z)
          replace hsp := hsp.trans (if_neg c_17)
          refine lv_iload_n hx hb dX9_now_75 rfl (lv_at hl 1 rfl) ?_
          refine lv_iconst (v := 1) hx hb dX9_now_76 (by decide) ?_
          refine lv_icmp_ne (tgt := 87) hx hb dX9_now_77 (by decide) (fun c_18 => ?_) (fun c_18 => ?_)
          · have c_18 : ¬ n_3 = 1 := fun z => c_18 ((nI_eq (a := n_3) (b := 1) (by omega) (Nat.le_of_ble_eq_true rfl)).mpr z)
            replace hsp := hsp.trans (if_neg c_18)
            refine lv_iload_n hx hb dX9_now_87 rfl (lv_at hl 1 rfl) ?_
            refine lv_iconst (v := 2) hx hb dX9_now_88 (by decide) ?_
            refine lv_icmp_ne (tgt := 96) hx hb dX9_now_89 (by decide) (fun c_19 => ?_) (fun c_19 => ?_)
            · have c_19 : ¬ n_3 = 2 := fun z => c_19 ((nI_eq (a := n_3) (b := 2) (by omega) (Nat.le_of_ble_eq_true rfl)).mpr z)
              replace hsp := hsp.trans (if_neg c_19)
              refine lv_aload_n hx hb dX9_now_96 rfl (lv_at hl 0 rfl) ?_
              refine va_calli (va_runV (As := []) (rest := []) ⟨hx, hb, hml, hown, hts⟩ (c_EM_mayWait l dC dI _ ad ck 0 x16 x18 x19 x20 x21 x22 x23 x24 x25 x26 x27 x28 x29 x30 x33 x45 x46 x52 x53 x61 x62 x63 x65 x66 f1 f2 f3 q4 q5 q6 q7 f8 q9 q10 f11 m12_0 m12_1 m13_0 m13_1 m14_0 m14_1 m15_0 m15_1 f17 q31 f32 f34 f35 f36 f37 q38 f39 f40 f41 m42_0 m42_1 f43 f44 f47 f48 f49 f50 f51 q54 q55 q56 f57 q58 f59 f60 f64 hx16 hx18 hx19 hx21 hx22 hx26 hx28 hx29 hx30 hx33 hx46 hx52 hx53 hx61 hx62 hx63 hx65 hm12_0 hm12_1 hm13_0 hm13_1 hm14_0 hm14_1 hm15_0 hm15_1 hm42_0 hm42_1) (cwV 0 hts g_EM_now_EM_mayWait rfl rfl rfl (by decide +kernel) ⟨Nat.le_of_ble_eq_true rfl, Nat.le_of_ble_eq_true rfl⟩) ⟨pu_bl, va_recv hK hP (ci := 9) (q0 := 0) rfl rfl, pu_in hP hK hD⟩ rfl rfl hl.1 rfl (lv_room (Nat.le_of_ble_eq_true rfl)) dX9_now_97 ⟨Nat.le_of_ble_eq_true rfl, Nat.le_of_ble_eq_true rfl⟩) hS (fun q _ h => pu_fr hS hA q h) (pu_fr hS hA) (fun r_20 u t H1 locs ht hvm hw hB hz1 hk1 hS => ?_)
              have hP := pu_keep hP hk1
              clear hk1 hz1 ht hvm
              generalize H1 = H at hP hS ⊢
              have ir_20 := hw
              replace hsp := hsp.trans (slet_eq ir_20)
              exact W.iret (v := r_20) hx hb hr (fun t ht hW => ⟨⟨r_20, (), rfl, (congrArg Prod.fst (hsp.symm.trans hRR)), ⟨0, ⟨by rw [ht]; exact hP, va_K.moved hW.alike hK, hD⟩, (congrArg Prod.snd (hsp.symm.trans hRR))⟩⟩, hS.F ht⟩) hS.2.2 dX9_now_100
            · have c_19 : n_3 = 2 := (nI_eq (a := n_3) (b := 2) (by omega) (Nat.le_of_ble_eq_true rfl)).mp c_19
              replace hsp := hsp.trans (if_pos c_19)
              refine lv_iload_n hx hb dX9_now_92 rfl (lv_at hl 2 rfl) ?_
              refine lv_goto (tgt := 100) hx hb dX9_now_93 (by decide) ?_
              exact W.iret (v := g_6) hx hb hr (fun t ht hW => ⟨⟨g_6, (), rfl, (congrArg Prod.fst (hsp.symm.trans hRR)), ⟨0, ⟨by rw [ht]; exact hP, va_K.moved hW.alike hK, hD⟩, (congrArg Prod.snd (hsp.symm.trans hRR))⟩⟩, hS.F ht⟩) hS.2.2 dX9_now_100
          · have c_18 : n_3 = 1 := (nI_eq (a := n_3) (b := 1) (by omega) (Nat.le_of_ble_eq_true rfl)).mp c_18
            replace hsp := hsp.trans (if_pos c_18)
            refine lv_aload_n hx hb dX9_now_80 rfl (lv_at hl 0 rfl) ?_
            refine va_get (D := (dC, dI)) (ci := 9) (v := .int x66) (C := RX9) (T := TX9) (N := 67) hx hb hts hiX9 hown hK hP 0 rfl rfl 66 (by decide) v_17 (fun _ h9 => h9) rfl dX9_now_81 ?_
            refine lv_goto (tgt := 100) hx hb dX9_now_84 (by decide) ?_
            exact W.iret (v := x66) hx hb hr (fun t ht hW => ⟨⟨x66, (), rfl, (congrArg Prod.fst (hsp.symm.trans hRR)), ⟨0, ⟨by rw [ht]; exact hP, va_K.moved hW.alike hK, hD⟩, (congrArg Prod.snd (hsp.symm.trans hRR))⟩⟩, hS.F ht⟩) hS.2.2 dX9_now_100
        · have c_17 : n_3 = 0 := (nI_eq (a := n_3) (b := 0) (by omega) (Nat.le_of_ble_eq_true rfl)).mp c_17
          replace hsp := hsp.trans (if_pos c_17)
          refine lv_aload_n hx hb dX9_now_68 rfl (lv_at hl 0 rfl) ?_
          refine va_get (D := (dC, dI)) (ci := 9) (v := .int (nI x65)) (C := RX9) (T := TX9) (N := 67) hx hb hts hiX9 hown hK hP 0 rfl rfl 65 (by decide) v_18 (fun _ h9 => h9) rfl dX9_now_69 ?_
          refine lv_goto (tgt := 100) hx hb dX9_now_72 (by decide) ?_
          exact W.iret (v := (nI x65)) hx hb hr (fun t ht hW => ⟨⟨(nI x65), (), rfl, (congrArg Prod.fst (hsp.symm.trans hRR)), ⟨0, ⟨by rw [ht]; exact hP, va_K.moved hW.alike hK, hD⟩, (congrArg Prod.snd (hsp.symm.trans hRR))⟩⟩, hS.F ht⟩) hS.2.2 dX9_now_100
      · have c_16 : ¬ u_15 ≤ g_7 := fun z => c_16 ((nI_leI (a := u_15) (b := g_7) (by omega) (Nat.lt_of_le_of_lt hg_7 (Nat.le_of_ble_eq_true rfl))).mpr z)
        replace hsp := hsp.trans (if_neg c_16)
        refine lv_iload_n hx hb dX9_now_40 rfl (lv_at hl 2 rfl) ?_
        refine lv_aload_n hx hb dX9_now_41 rfl (lv_at hl 0 rfl) ?_
        refine lv_iload_n hx hb dX9_now_42 rfl (lv_at hl 3 rfl) ?_
        refine va_calli (va_runV (As := [.int (nI g_7)]) (rest := [.int g_6]) ⟨hx, hb, hml, hown, hts⟩ (c_EM_canTake l dC dI _ ad ck 0 x16 x18 x19 x20 x21 x22 x23 x24 x25 x26 x27 x28 x29 x30 x33 x45 x46 x52 x53 x61 x62 x63 x65 x66 f1 f2 f3 q4 q5 q6 q7 f8 q9 q10 f11 m12_0 m12_1 m13_0 m13_1 m14_0 m14_1 m15_0 m15_1 f17 q31 f32 f34 f35 f36 f37 q38 f39 f40 f41 m42_0 m42_1 f43 f44 f47 f48 f49 f50 f51 q54 q55 q56 f57 q58 f59 f60 f64 g_7 hx16 hx18 hx19 hx21 hx22 hx26 hx28 hx29 hx30 hx33 hx46 hx52 hx53 hx61 hx62 hx63 hx65 hm12_0 hm12_1 hm13_0 hm13_1 hm14_0 hm14_1 hm15_0 hm15_1 hm42_0 hm42_1 (by omega)) (cwV 1 hts g_EM_now_EM_canTake rfl rfl rfl (by decide +kernel) ⟨Nat.le_of_ble_eq_true rfl, Nat.le_of_ble_eq_true rfl⟩) ⟨pu_bl, va_recv hK hP (ci := 9) (q0 := 0) rfl rfl, pu_in hP hK hD⟩ rfl rfl hl.1 rfl (lv_room (Nat.le_of_ble_eq_true rfl)) dX9_now_43 ⟨Nat.le_of_ble_eq_true rfl, Nat.le_of_ble_eq_true rfl⟩) hS (fun q _ h => pu_fr hS hA q h) (pu_fr hS hA) (fun r_21 u t H1 locs ht hvm hw hB hz1 hk1 hS => ?_)
        have hP := pu_keep hP hk1
        clear hk1 hz1 ht hvm
        generalize H1 = H at hP hS ⊢
        obtain ⟨u_22, hu_22, rfl, iu_22⟩ := hw
        replace hsp := hsp.trans (slet_eq iu_22)
        obtain ⟨JR_25, hJR_25, hsp⟩ := slet_ex hsp
        refine pu_join (fun H locs ls st => ∃ (g_23 : Int32), st = [.int g_23, .int g_6] ∧ g_23 = JR_25 ∧ va_P (dC, dI) vwCl (mo_w ad ck 0 (nI x16) (nI x18) (nI x19) x20 (nI x21) (nI x22) x23 x24 x25 (nI x26) x27 (nI x28) (nI x29) (nI x30) (nI x33) x45 (nI x46) (nI x52) (nI x53) (nI x61) (nI x62) (nI x63) (nI x65) x66 f1 f2 f3 (bN 3 q4) (bN 7 q5) (bN 7 q6) (bN 4 q7) f8 (bN 2 q9) (bH q10) f11 (b2 m12_0 m12_1) (b2 m13_0 m13_1) (b2 m14_0 m14_1) (b2m m15_0 m15_1) f17 (bA 159 q31) f32 f34 f35 f36 f37 (bN 7 q38) f39 f40 f41 (b2 m42_0 m42_1) f43 f44 f47 f48 f49 f50 f51 (bN 13 q54) (bN 120 q55) (bN 120 q56) f57 (bN 120 q58) f59 f60 f64) H ∧ va_D A (mo_w ad ck 0 (nI x16) (nI x18) (nI x19) x20 (nI x21) (nI x22) x23 x24 x25 (nI x26) x27 (nI x28) (nI x29) (nI x30) (nI x33) x45 (nI x46) (nI x52) (nI x53) (nI x61) (nI x62) (nI x63) (nI x65) x66 f1 f2 f3 (bN 3 q4) (bN 7 q5) (bN 7 q6) (bN 4 q7) f8 (bN 2 q9) (bH q10) f11 (b2 m12_0 m12_1) (b2 m13_0 m13_1) (b2 m14_0 m14_1) (b2m m15_0 m15_1) f17 (bA 159 q31) f32 f34 f35 f36 f37 (bN 7 q38) f39 f40 f41 (b2 m42_0 m42_1) f43 f44 f47 f48 f49 f50 f51 (bN 13 q54) (bN 120 q55) (bN 120 q56) f57 (bN 120 q58) f59 f60 f64) ∧ va_S A s.heap H locs ∧ lv_has ls 4 [(0, .ref (ad 0)), (1, .int (nI n_3)), (2, .int g_6), (3, .int (nI g_7))]) 56 ?_ (fun j_24 => ?_)
        · rintro H locs ls st ⟨g_23, rfl, he_26, hP, hD, hS, hl⟩
          rw [← he_26] at hsp
          refine lv_ior hx hb dX9_now_56 ?_
          refine lv_topi (fun y_27 ey_27 => ?_)
          replace hsp := hsp.trans (slet_eq ey_27)
          refine lv_istore_n (lv' := [(2, .int y_27), (0, .ref (ad 0)), (1, .int (nI n_3)), (3, .int (nI g_7))]) hx hb dX9_now_57 rfl hl (by decide) rfl (fun ls hl => ?_)
          refine lv_iinc (v := (nI (g_7 + 1))) (lv' := [(3, .int (nI (g_7 + 1))), (2, .int y_27), (0, .ref (ad 0)), (1, .int (nI n_3))]) hx hb dX9_now_58 hl (k := 3) rfl (nI_1 _) (by decide) rfl (fun ls hl => ?_)
          refine lv_goto (tgt := 27) hx hb dX9_now_61 (by decide) ?_
          exact ih_8 (14 - (g_7 + 1)) (by omega) _ _ _ ⟨y_27, (g_7 + 1), rfl, (by omega), hin_12 _ hsp, hP, hD, hS, lv_sub hl [2, 3, 1, 0] rfl⟩
        have hsp := hJR_25
        refine lv_if_eq (tgt := 55) hx hb dX9_now_46 (by decide) (fun c_28 => ?_) (fun c_28 => ?_)
        · have c_28 : u_22 = 0 := (nI_eq (a := u_22) (b := 0) (Nat.lt_of_le_of_lt hu_22 (Nat.le_of_ble_eq_true rfl)) (Nat.le_of_ble_eq_true rfl)).mp c_28
          replace hsp := hsp.trans (if_pos c_28)
          refine lv_iconst (v := 0) hx hb dX9_now_55 (by decide) ?_
          exact j_24 _ _ _ _ ⟨0, rfl, hsp.symm, hP, hD, hS, lv_sub hl [0, 1, 2, 3] rfl⟩
        · have c_28 : ¬ u_22 = 0 := fun z => c_28 ((nI_eq (a := u_22) (b := 0) (Nat.lt_of_le_of_lt hu_22 (Nat.le_of_ble_eq_true rfl)) (Nat.le_of_ble_eq_true rfl)).mpr z)
          replace hsp := hsp.trans (if_neg c_28)
          refine lv_iconst (v := 1) hx hb dX9_now_49 (by decide) ?_
          refine lv_iload_n hx hb dX9_now_50 rfl (lv_at hl 3 rfl) ?_
          refine lv_ishl hx hb dX9_now_51 ?_
          refine lv_topi (fun y_29 ey_29 => ?_)
          replace hsp := hsp.trans (slet_eq ey_29)
          refine lv_goto (tgt := 56) hx hb dX9_now_52 (by decide) ?_
          exact j_24 _ _ _ _ ⟨y_29, rfl, hsp.symm, hP, hD, hS, lv_sub hl [0, 1, 2, 3] rfl⟩
    · replace hsp := hsp.trans (if_neg hi3)
      refine lv_if_ne (tgt := 23) hx hb dX9_now_18 (by decide) (fun z => absurd z (by decide)) (fun _ => ?_)
      refine lv_iconst (v := (-1)) hx hb dX9_now_21 (by decide) ?_
      exact W.iret (v := (-1)) hx hb hr (fun t ht hW => ⟨⟨(-1), (), rfl, (congrArg Prod.fst (hsp.symm.trans hRR)), ⟨0, ⟨by rw [ht]; exact hP, va_K.moved hW.alike hK, hD⟩, (congrArg Prod.snd (hsp.symm.trans hRR))⟩⟩, hS.F ht⟩) hS.2.2 dX9_now_22
theorem dX9_clock_0 : decode cX9_clock 0 = .ok (.aload_n 0, 1) := by decide +kernel
theorem dX9_clock_1 : decode cX9_clock 1 = .ok (.aload_n 0, 1) := by decide +kernel
theorem dX9_clock_2 : decode cX9_clock 2 = .ok (.getfield 277, 3) := by decide +kernel
theorem dX9_clock_5 : decode cX9_clock 5 = .ok (.ifCond .eq 11, 3) := by decide +kernel
theorem dX9_clock_8 : decode cX9_clock 8 = .ok (.aload_n 0, 1) := by decide +kernel
theorem dX9_clock_9 : decode cX9_clock 9 = .ok (.iload_n 1, 1) := by decide +kernel
theorem dX9_clock_10 : decode cX9_clock 10 = .ok (.invokevirtual 314, 3) := by decide +kernel
theorem dX9_clock_13 : decode cX9_clock 13 = .ok (.ifCond .ne 7, 3) := by decide +kernel
theorem dX9_clock_16 : decode cX9_clock 16 = .ok (.iconst 1, 1) := by decide +kernel
theorem dX9_clock_17 : decode cX9_clock 17 = .ok (.goto 4, 3) := by decide +kernel
theorem dX9_clock_20 : decode cX9_clock 20 = .ok (.iconst 0, 1) := by decide +kernel
theorem dX9_clock_21 : decode cX9_clock 21 = .ok (.putfield 142, 3) := by decide +kernel
theorem dX9_clock_24 : decode cX9_clock 24 = .ok (.aload_n 0, 1) := by decide +kernel
theorem dX9_clock_25 : decode cX9_clock 25 = .ok (.getfield 142, 3) := by decide +kernel
theorem dX9_clock_28 : decode cX9_clock 28 = .ok (.ifCond .ne 12, 3) := by decide +kernel
theorem dX9_clock_31 : decode cX9_clock 31 = .ok (.aload_n 0, 1) := by decide +kernel
theorem dX9_clock_32 : decode cX9_clock 32 = .ok (.getfield 139, 3) := by decide +kernel
theorem dX9_clock_35 : decode cX9_clock 35 = .ok (.iload_n 1, 1) := by decide +kernel
theorem dX9_clock_36 : decode cX9_clock 36 = .ok (.iaload, 1) := by decide +kernel
theorem dX9_clock_37 : decode cX9_clock 37 = .ok (.goto 4, 3) := by decide +kernel
theorem dX9_clock_40 : decode cX9_clock 40 = .ok (.iconst 0, 1) := by decide +kernel
theorem dX9_clock_41 : decode cX9_clock 41 = .ok (.ireturn, 1) := by decide +kernel
abbrev vs_EM_clock : List Cond := .code yX9_clock cX9_clock 2 (some .int) :: VM
theorem g_EM_clock_EM_isClock : GoodIn vs_EM_clock (wsV RX9 314 RX9 yX9_isClock vs_EM_isClock) := gm_V vm_175 vm_176 vm_177 vm_19 vm_178
noncomputable def sp_EM_clock (x16 : Nat) (x30 : Nat) (m12_0 : Nat) (m12_1 : Nat) (f64 : Nat → Int32) (p0 : Int32) : Int32 × Int32 := (if x30 = 0 then (0, 1) else (if (0 : Int32) ≤ p0 ∧ p0 < nI (bkN x16 m12_0 m12_1) then (slet ((p0 : Int32).toNatClampNeg) (fun n_3 => (slet (f64 n_3) (fun y_4 => (y_4, 0))))) else (0, 1)))
set_option maxHeartbeats 4000000 in
set_option maxRecDepth 100000 in
theorem c_EM_clock (l : Launch) (dC : Nat → ClassId) (dI : Nat → Nat → Nat) (sz : Nat) (ad : Nat → Nat) (ck : Nat → ClassId) (x0 : Int32) (x16 : Nat) (x18 : Nat) (x19 : Nat) (x20 : Int32) (x21 : Nat) (x22 : Nat) (x23 : Int32) (x24 : Int32) (x25 : Int32) (x26 : Nat) (x27 : Int32) (x28 : Nat) (x29 : Nat) (x30 : Nat) (x33 : Nat) (x45 : Int32) (x46 : Nat) (x52 : Nat) (x53 : Nat) (x61 : Nat) (x62 : Nat) (x63 : Nat) (x65 : Nat) (x66 : Int32) (f1 : Nat → Int32) (f2 : Nat → Int32) (f3 : Nat → Int32) (q4 : Nat → Nat) (q5 : Nat → Nat) (q6 : Nat → Nat) (q7 : Nat → Nat) (f8 : Nat → Int32) (q9 : Nat → Nat) (q10 : Nat → Nat) (f11 : Nat → Int32) (m12_0 m12_1 : Nat) (m13_0 m13_1 : Nat) (m14_0 m14_1 : Nat) (m15_0 m15_1 : Nat) (f17 : Nat → Int32) (q31 : Nat → Nat) (f32 : Nat → Int32) (f34 : Nat → Int32) (f35 : Nat → Int32) (f36 : Nat → Int32) (f37 : Nat → Int32) (q38 : Nat → Nat) (f39 : Nat → Int32) (f40 : Nat → Int32) (f41 : Nat → Int32) (m42_0 m42_1 : Nat) (f43 : Nat → Int32) (f44 : Nat → Int32) (f47 : Nat → Int32) (f48 : Nat → Int32) (f49 : Nat → Int32) (f50 : Nat → Int32) (f51 : Nat → Int32) (q54 : Nat → Nat) (q55 : Nat → Nat) (q56 : Nat → Nat) (f57 : Nat → Int32) (q58 : Nat → Nat) (f59 : Nat → Int32) (f60 : Nat → Int32) (f64 : Nat → Int32) (p0 : Int32) (hx16 : x16 ≤ 1) (hx18 : x18 ≤ 900) (hx19 : x19 ≤ 900) (hx21 : x21 ≤ 900) (hx22 : x22 ≤ 4) (hx26 : x26 ≤ 6) (hx28 : x28 ≤ 1) (hx29 : x29 ≤ 1) (hx30 : x30 ≤ 1) (hx33 : x33 ≤ 20) (hx46 : x46 ≤ 5) (hx52 : x52 ≤ 2400) (hx53 : x53 ≤ 119) (hx61 : x61 ≤ 119) (hx62 : x62 ≤ 2000) (hx63 : x63 ≤ 1) (hx65 : x65 ≤ 7) (hm12_0 : m12_0 ≤ 3) (hm12_1 : m12_1 ≤ 3) (hm13_0 : m13_0 ≤ 8) (hm13_1 : m13_1 ≤ 8) (hm14_0 : m14_0 ≤ 14) (hm14_1 : m14_1 ≤ 14) (hm15_0 : m15_0 ≤ 8) (hm15_1 : m15_1 ≤ 8) (hm42_0 : m42_0 ≤ 120) (hm42_1 : m42_1 ≤ 400) : Met l yX9_clock vs_EM_clock ({ frames := 2, cells := 0, slots := 0, locals := 43 }) (va_Pc [.ref (ad 0), .int p0] (pu_B (dC, dI) (mo_w ad ck x0 (nI x16) (nI x18) (nI x19) x20 (nI x21) (nI x22) x23 x24 x25 (nI x26) x27 (nI x28) (nI x29) (nI x30) (nI x33) x45 (nI x46) (nI x52) (nI x53) (nI x61) (nI x62) (nI x63) (nI x65) x66 f1 f2 f3 (bN 3 q4) (bN 7 q5) (bN 7 q6) (bN 4 q7) f8 (bN 2 q9) (bH q10) f11 (b2 m12_0 m12_1) (b2 m13_0 m13_1) (b2 m14_0 m14_1) (b2m m15_0 m15_1) f17 (bA 159 q31) f32 f34 f35 f36 f37 (bN 7 q38) f39 f40 f41 (b2 m42_0 m42_1) f43 f44 f47 f48 f49 f50 f51 (bN 13 q54) (bN 120 q55) (bN 120 q56) f57 (bN 120 q58) f59 f60 f64) (mo_t ck) sz)) (va_Qi (fun (r : Int32) (_ : Unit) => r = (sp_EM_clock x16 x30 m12_0 m12_1 f64 p0).1) (fun _ t => ∃ (z0 : Int32), pu_E (dC, dI) (mo_w ad ck z0 (nI x16) (nI x18) (nI x19) x20 (nI x21) (nI x22) x23 x24 x25 (nI x26) x27 (nI x28) (nI x29) (nI x30) (nI x33) x45 (nI x46) (nI x52) (nI x53) (nI x61) (nI x62) (nI x63) (nI x65) x66 f1 f2 f3 (bN 3 q4) (bN 7 q5) (bN 7 q6) (bN 4 q7) f8 (bN 2 q9) (bH q10) f11 (b2 m12_0 m12_1) (b2 m13_0 m13_1) (b2 m14_0 m14_1) (b2m m15_0 m15_1) f17 (bA 159 q31) f32 f34 f35 f36 f37 (bN 7 q38) f39 f40 f41 (b2 m42_0 m42_1) f43 f44 f47 f48 f49 f50 f51 (bN 13 q54) (bN 120 q55) (bN 120 q56) f57 (bN 120 q58) f59 f60 f64) (mo_t ck) (va_A ((mo_w ad ck x0 (nI x16) (nI x18) (nI x19) x20 (nI x21) (nI x22) x23 x24 x25 (nI x26) x27 (nI x28) (nI x29) (nI x30) (nI x33) x45 (nI x46) (nI x52) (nI x53) (nI x61) (nI x62) (nI x63) (nI x65) x66 f1 f2 f3 (bN 3 q4) (bN 7 q5) (bN 7 q6) (bN 4 q7) f8 (bN 2 q9) (bH q10) f11 (b2 m12_0 m12_1) (b2 m13_0 m13_1) (b2 m14_0 m14_1) (b2m m15_0 m15_1) f17 (bA 159 q31) f32 f34 f35 f36 f37 (bN 7 q38) f39 f40 f41 (b2 m42_0 m42_1) f43 f44 f47 f48 f49 f50 f51 (bN 13 q54) (bN 120 q55) (bN 120 q56) f57 (bN 120 q58) f59 f60 f64)) sz) t ∧ (z0 = (sp_EM_clock x16 x30 m12_0 m12_1 f64 p0).2)) (va_A ((mo_w ad ck x0 (nI x16) (nI x18) (nI x19) x20 (nI x21) (nI x22) x23 x24 x25 (nI x26) x27 (nI x28) (nI x29) (nI x30) (nI x33) x45 (nI x46) (nI x52) (nI x53) (nI x61) (nI x62) (nI x63) (nI x65) x66 f1 f2 f3 (bN 3 q4) (bN 7 q5) (bN 7 q6) (bN 4 q7) f8 (bN 2 q9) (bH q10) f11 (b2 m12_0 m12_1) (b2 m13_0 m13_1) (b2 m14_0 m14_1) (b2m m15_0 m15_1) f17 (bA 159 q31) f32 f34 f35 f36 f37 (bN 7 q38) f39 f40 f41 (b2 m42_0 m42_1) f43 f44 f47 f48 f49 f50 f51 (bN 13 q54) (bN 120 q55) (bN 120 q56) f57 (bN 120 q58) f59 f60 f64)) sz)) 0 0 (va_A ((mo_w ad ck x0 (nI x16) (nI x18) (nI x19) x20 (nI x21) (nI x22) x23 x24 x25 (nI x26) x27 (nI x28) (nI x29) (nI x30) (nI x33) x45 (nI x46) (nI x52) (nI x53) (nI x61) (nI x62) (nI x63) (nI x65) x66 f1 f2 f3 (bN 3 q4) (bN 7 q5) (bN 7 q6) (bN 4 q7) f8 (bN 2 q9) (bH q10) f11 (b2 m12_0 m12_1) (b2 m13_0 m13_1) (b2 m14_0 m14_1) (b2m m15_0 m15_1) f17 (bA 159 q31) f32 f34 f35 f36 f37 (bN 7 q38) f39 f40 f41 (b2 m42_0 m42_1) f43 f44 f47 f48 f49 f50 f51 (bN 13 q54) (bN 120 q55) (bN 120 q56) f57 (bN 120 q58) f59 f60 f64)) sz) := by
  refine Met.ofW (cc := cX9_clock) (maxL := 2) (ret := (some .int)) (by decide) rfl ?_
  intro p e s m args below meth c s₁ B hml hv
  obtain ⟨rfl, rfl, hP, hK, hD0⟩ := hv
  have hx := B.exec
  have hb := B.bytes
  have hr := B.returns
  have hts := atoms_spec (ws := vs_EM_clock) B.pre
  have v_1 := hts (.fieldLink RX9 277 "ClockReachModel" "isPlayed" "Z") (List.mem_cons_of_mem _ vm_2)
  have v_2 := hts (.fieldLink RX9 142 "ClockReachModel" "thrown" "I") (List.mem_cons_of_mem _ vm_5)
  have v_8 := hts (.fieldLink RX9 139 "ClockReachModel" "clockTime" "[I") (List.mem_cons_of_mem _ vm_358)
  have hown : s.vm.findClass RX9 = some m.cls := findClass_of_methodNamed B.named
  have hlocks := B.notSynchronized
  have hiX9 : ∀ w ∈ wsX90, w ∈ vs_EM_clock := fun _ h => List.mem_cons_of_mem _ (vmi_L h)
  have hD := hD0.self (sz := s.heap.size)
  generalize hAe : va_A ((mo_w ad ck x0 (nI x16) (nI x18) (nI x19) x20 (nI x21) (nI x22) x23 x24 x25 (nI x26) x27 (nI x28) (nI x29) (nI x30) (nI x33) x45 (nI x46) (nI x52) (nI x53) (nI x61) (nI x62) (nI x63) (nI x65) x66 f1 f2 f3 (bN 3 q4) (bN 7 q5) (bN 7 q6) (bN 4 q7) f8 (bN 2 q9) (bH q10) f11 (b2 m12_0 m12_1) (b2 m13_0 m13_1) (b2 m14_0 m14_1) (b2m m15_0 m15_1) f17 (bA 159 q31) f32 f34 f35 f36 f37 (bN 7 q38) f39 f40 f41 (b2 m42_0 m42_1) f43 f44 f47 f48 f49 f50 f51 (bN 13 q54) (bN 120 q55) (bN 120 q56) f57 (bN 120 q58) f59 f60 f64)) s.heap.size = A at hD ⊢
  have hA : ∀ q : Nat, s.heap.size ≤ q → A q := fun q h => by rw [← hAe]; exact Or.inr h
  have hS : va_S A s.heap s.heap [] := va_S.rf
  have hl := lv_entry ([.ref (ad 0), .int p0]) (n := 2) (Nat.le_of_ble_eq_true rfl)
  rw [lg_entry_eq]
  generalize (lg_sl ([.ref (ad 0), .int p0]) ++ List.replicate (2 - (lg_sl ([.ref (ad 0), .int p0])).length) Slot.unset).toArray = ls at hl ⊢
  have hl : lv_has ls 2 [(0, .ref (ad 0)), (1, .int p0)] := hl
  obtain ⟨RR, hRR⟩ : ∃ x, x = (sp_EM_clock x16 x30 m12_0 m12_1 f64 p0) := ⟨_, rfl⟩
  have hsp := hRR
  refine lv_aload_n hx hb dX9_clock_0 rfl (lv_at hl 0 rfl) ?_
  refine lv_aload_n hx hb dX9_clock_1 rfl (lv_at hl 0 rfl) ?_
  refine va_get (D := (dC, dI)) (ci := 9) (v := .int (nI x30)) (C := RX9) (T := TX9) (N := 67) hx hb hts hiX9 hown hK hP 0 rfl rfl 30 (by decide) v_1 (fun _ h9 => h9) rfl dX9_clock_2 ?_
  refine lv_if_eq (tgt := 16) hx hb dX9_clock_5 (by decide) (fun c_1 => ?_) (fun c_1 => ?_)
  · have c_1 : x30 = 0 := (nI_eq (a := x30) (b := 0) (Nat.lt_of_le_of_lt hx30 (Nat.le_of_ble_eq_true rfl)) (Nat.le_of_ble_eq_true rfl)).mp c_1
    replace hsp := hsp.trans (if_pos c_1)
    refine lv_iconst (v := 1) hx hb dX9_clock_16 (by decide) ?_
    refine lv_goto (tgt := 21) hx hb dX9_clock_17 (by decide) ?_
    refine va_put (D := (dC, dI)) (ci := 9) (v := .int 1) (ty := .int) (C := RX9) (T := TX9) (N := 67) hx hb hts hiX9 tyX9 tyX9_ok nmX9 hown hK hP hD hS 0 rfl rfl 0 (by decide) v_2 (fun _ h9 => h9) rfl (by decide +kernel) rfl rfl (Nat.le_of_ble_eq_true rfl) dX9_clock_21 (fun H locs hP hD hS => ?_)
    have hP : va_P (dC, dI) vwCl (mo_w ad ck 1 (nI x16) (nI x18) (nI x19) x20 (nI x21) (nI x22) x23 x24 x25 (nI x26) x27 (nI x28) (nI x29) (nI x30) (nI x33) x45 (nI x46) (nI x52) (nI x53) (nI x61) (nI x62) (nI x63) (nI x65) x66 f1 f2 f3 (bN 3 q4) (bN 7 q5) (bN 7 q6) (bN 4 q7) f8 (bN 2 q9) (bH q10) f11 (b2 m12_0 m12_1) (b2 m13_0 m13_1) (b2 m14_0 m14_1) (b2m m15_0 m15_1) f17 (bA 159 q31) f32 f34 f35 f36 f37 (bN 7 q38) f39 f40 f41 (b2 m42_0 m42_1) f43 f44 f47 f48 f49 f50 f51 (bN 13 q54) (bN 120 q55) (bN 120 q56) f57 (bN 120 q58) f59 f60 f64) H := hP
    have hD : va_D A (mo_w ad ck 1 (nI x16) (nI x18) (nI x19) x20 (nI x21) (nI x22) x23 x24 x25 (nI x26) x27 (nI x28) (nI x29) (nI x30) (nI x33) x45 (nI x46) (nI x52) (nI x53) (nI x61) (nI x62) (nI x63) (nI x65) x66 f1 f2 f3 (bN 3 q4) (bN 7 q5) (bN 7 q6) (bN 4 q7) f8 (bN 2 q9) (bH q10) f11 (b2 m12_0 m12_1) (b2 m13_0 m13_1) (b2 m14_0 m14_1) (b2m m15_0 m15_1) f17 (bA 159 q31) f32 f34 f35 f36 f37 (bN 7 q38) f39 f40 f41 (b2 m42_0 m42_1) f43 f44 f47 f48 f49 f50 f51 (bN 13 q54) (bN 120 q55) (bN 120 q56) f57 (bN 120 q58) f59 f60 f64) := hD
    refine lv_aload_n hx hb dX9_clock_24 rfl (lv_at hl 0 rfl) ?_
    refine va_get (D := (dC, dI)) (ci := 9) (v := .int 1) (C := RX9) (T := TX9) (N := 67) hx hb hts hiX9 hown hK hP 0 rfl rfl 0 (by decide) v_2 (fun _ h9 => h9) rfl dX9_clock_25 ?_
    refine lv_if_ne (tgt := 40) hx hb dX9_clock_28 (by decide) (fun _ => ?_) (fun z => absurd z (by decide))
    refine lv_iconst (v := 0) hx hb dX9_clock_40 (by decide) ?_
    exact W.iret (v := 0) hx hb hr (fun t ht hW => ⟨⟨0, (), rfl, (congrArg Prod.fst (hsp.symm.trans hRR)), ⟨1, ⟨by rw [ht]; exact hP, va_K.moved hW.alike hK, hD⟩, (congrArg Prod.snd (hsp.symm.trans hRR))⟩⟩, hS.F ht⟩) hS.2.2 dX9_clock_41
  · have c_1 : ¬ x30 = 0 := fun z => c_1 ((nI_eq (a := x30) (b := 0) (Nat.lt_of_le_of_lt hx30 (Nat.le_of_ble_eq_true rfl)) (Nat.le_of_ble_eq_true rfl)).mpr z)
    replace hsp := hsp.trans (if_neg c_1)
    refine lv_aload_n hx hb dX9_clock_8 rfl (lv_at hl 0 rfl) ?_
    refine lv_iload_n hx hb dX9_clock_9 rfl (lv_at hl 1 rfl) ?_
    refine va_calli (va_runV (As := [.int p0]) (rest := [.ref (ad 0)]) ⟨hx, hb, hml, hown, hts⟩ (c_EM_isClock l dC dI _ ad ck x0 x16 x18 x19 x20 x21 x22 x23 x24 x25 x26 x27 x28 x29 x30 x33 x45 x46 x52 x53 x61 x62 x63 x65 x66 f1 f2 f3 q4 q5 q6 q7 f8 q9 q10 f11 m12_0 m12_1 m13_0 m13_1 m14_0 m14_1 m15_0 m15_1 f17 q31 f32 f34 f35 f36 f37 q38 f39 f40 f41 m42_0 m42_1 f43 f44 f47 f48 f49 f50 f51 q54 q55 q56 f57 q58 f59 f60 f64 p0 hx16 hx18 hx19 hx21 hx22 hx26 hx28 hx29 hx30 hx33 hx46 hx52 hx53 hx61 hx62 hx63 hx65 hm12_0 hm12_1 hm13_0 hm13_1 hm14_0 hm14_1 hm15_0 hm15_1 hm42_0 hm42_1) (cwV 1 hts g_EM_clock_EM_isClock rfl rfl rfl (by decide +kernel) ⟨Nat.le_of_ble_eq_true rfl, Nat.le_of_ble_eq_true rfl⟩) ⟨pu_bl, va_recv hK hP (ci := 9) (q0 := 0) rfl rfl, pu_in hP hK hD⟩ rfl rfl hl.1 rfl (lv_room (Nat.le_of_ble_eq_true rfl)) dX9_clock_10 ⟨Nat.le_of_ble_eq_true rfl, Nat.le_of_ble_eq_true rfl⟩) hS (fun q _ h => pu_fr hS hA q h) (pu_fr hS hA) (fun r_2 u t H1 locs ht hvm hw hB hz1 hk1 hS => ?_)
    have hP := pu_keep hP hk1
    clear hk1 hz1 ht hvm
    generalize H1 = H at hP hS ⊢
    rcases hw with ⟨rfl, hw⟩ | ⟨rfl, hn⟩
    · obtain ⟨n_3, hn_3, en_3⟩ := hw
      replace hsp := hsp.trans (if_pos (in_c hn_3 ⟨by omega, by omega⟩ en_3))
      subst en_3
      replace hsp := hsp.trans (slet_eq (nI_cl (n := n_3) (by omega)))
      refine lv_if_ne (tgt := 20) hx hb dX9_clock_13 (by decide) (fun _ => ?_) (fun z => absurd z (by decide))
      refine lv_iconst (v := 0) hx hb dX9_clock_20 (by decide) ?_
      refine va_put (D := (dC, dI)) (ci := 9) (v := .int 0) (ty := .int) (C := RX9) (T := TX9) (N := 67) hx hb hts hiX9 tyX9 tyX9_ok nmX9 hown hK hP hD hS 0 rfl rfl 0 (by decide) v_2 (fun _ h9 => h9) rfl (by decide +kernel) rfl rfl (Nat.le_of_ble_eq_true rfl) dX9_clock_21 (fun H locs hP hD hS => ?_)
      have hP : va_P (dC, dI) vwCl (mo_w ad ck 0 (nI x16) (nI x18) (nI x19) x20 (nI x21) (nI x22) x23 x24 x25 (nI x26) x27 (nI x28) (nI x29) (nI x30) (nI x33) x45 (nI x46) (nI x52) (nI x53) (nI x61) (nI x62) (nI x63) (nI x65) x66 f1 f2 f3 (bN 3 q4) (bN 7 q5) (bN 7 q6) (bN 4 q7) f8 (bN 2 q9) (bH q10) f11 (b2 m12_0 m12_1) (b2 m13_0 m13_1) (b2 m14_0 m14_1) (b2m m15_0 m15_1) f17 (bA 159 q31) f32 f34 f35 f36 f37 (bN 7 q38) f39 f40 f41 (b2 m42_0 m42_1) f43 f44 f47 f48 f49 f50 f51 (bN 13 q54) (bN 120 q55) (bN 120 q56) f57 (bN 120 q58) f59 f60 f64) H := hP
      have hD : va_D A (mo_w ad ck 0 (nI x16) (nI x18) (nI x19) x20 (nI x21) (nI x22) x23 x24 x25 (nI x26) x27 (nI x28) (nI x29) (nI x30) (nI x33) x45 (nI x46) (nI x52) (nI x53) (nI x61) (nI x62) (nI x63) (nI x65) x66 f1 f2 f3 (bN 3 q4) (bN 7 q5) (bN 7 q6) (bN 4 q7) f8 (bN 2 q9) (bH q10) f11 (b2 m12_0 m12_1) (b2 m13_0 m13_1) (b2 m14_0 m14_1) (b2m m15_0 m15_1) f17 (bA 159 q31) f32 f34 f35 f36 f37 (bN 7 q38) f39 f40 f41 (b2 m42_0 m42_1) f43 f44 f47 f48 f49 f50 f51 (bN 13 q54) (bN 120 q55) (bN 120 q56) f57 (bN 120 q58) f59 f60 f64) := hD
      refine lv_aload_n hx hb dX9_clock_24 rfl (lv_at hl 0 rfl) ?_
      refine va_get (D := (dC, dI)) (ci := 9) (v := .int 0) (C := RX9) (T := TX9) (N := 67) hx hb hts hiX9 hown hK hP 0 rfl rfl 0 (by decide) v_2 (fun _ h9 => h9) rfl dX9_clock_25 ?_
      refine lv_if_ne (tgt := 40) hx hb dX9_clock_28 (by decide) (fun z => absurd z (by decide)) (fun _ => ?_)
      refine lv_aload_n hx hb dX9_clock_31 rfl (lv_at hl 0 rfl) ?_
      refine va_get (D := (dC, dI)) (ci := 9) (v := .ref (ad 64)) (C := RX9) (T := TX9) (N := 67) hx hb hts hiX9 hown hK hP 0 rfl rfl 64 (by decide) v_8 (fun _ h9 => h9) rfl dX9_clock_32 ?_
      refine lv_iload_n hx hb dX9_clock_35 rfl (lv_at hl 1 rfl) ?_
      refine va_iald hx hb hK hP 42 41 rfl rfl (vp_in_nI (n := n_3) (by omega) (Nat.le_of_ble_eq_true rfl)) dX9_clock_36 ?_
      refine lv_topi (fun y_4 ey_4 => ?_)
      have ey_4 : y_4 = f64 n_3 := ey_4.trans (congrArg f64 (nI_clamp (n := n_3) (by omega)))
      replace hsp := hsp.trans (slet_eq ey_4)
      refine lv_goto (tgt := 41) hx hb dX9_clock_37 (by decide) ?_
      exact W.iret (v := y_4) hx hb hr (fun t ht hW => ⟨⟨y_4, (), rfl, (congrArg Prod.fst (hsp.symm.trans hRR)), ⟨0, ⟨by rw [ht]; exact hP, va_K.moved hW.alike hK, hD⟩, (congrArg Prod.snd (hsp.symm.trans hRR))⟩⟩, hS.F ht⟩) hS.2.2 dX9_clock_41
    · replace hsp := hsp.trans (if_neg hn)
      refine lv_if_ne (tgt := 20) hx hb dX9_clock_13 (by decide) (fun z => absurd z (by decide)) (fun _ => ?_)
      refine lv_iconst (v := 1) hx hb dX9_clock_16 (by decide) ?_
      refine lv_goto (tgt := 21) hx hb dX9_clock_17 (by decide) ?_
      refine va_put (D := (dC, dI)) (ci := 9) (v := .int 1) (ty := .int) (C := RX9) (T := TX9) (N := 67) hx hb hts hiX9 tyX9 tyX9_ok nmX9 hown hK hP hD hS 0 rfl rfl 0 (by decide) v_2 (fun _ h9 => h9) rfl (by decide +kernel) rfl rfl (Nat.le_of_ble_eq_true rfl) dX9_clock_21 (fun H locs hP hD hS => ?_)
      have hP : va_P (dC, dI) vwCl (mo_w ad ck 1 (nI x16) (nI x18) (nI x19) x20 (nI x21) (nI x22) x23 x24 x25 (nI x26) x27 (nI x28) (nI x29) (nI x30) (nI x33) x45 (nI x46) (nI x52) (nI x53) (nI x61) (nI x62) (nI x63) (nI x65) x66 f1 f2 f3 (bN 3 q4) (bN 7 q5) (bN 7 q6) (bN 4 q7) f8 (bN 2 q9) (bH q10) f11 (b2 m12_0 m12_1) (b2 m13_0 m13_1) (b2 m14_0 m14_1) (b2m m15_0 m15_1) f17 (bA 159 q31) f32 f34 f35 f36 f37 (bN 7 q38) f39 f40 f41 (b2 m42_0 m42_1) f43 f44 f47 f48 f49 f50 f51 (bN 13 q54) (bN 120 q55) (bN 120 q56) f57 (bN 120 q58) f59 f60 f64) H := hP
      have hD : va_D A (mo_w ad ck 1 (nI x16) (nI x18) (nI x19) x20 (nI x21) (nI x22) x23 x24 x25 (nI x26) x27 (nI x28) (nI x29) (nI x30) (nI x33) x45 (nI x46) (nI x52) (nI x53) (nI x61) (nI x62) (nI x63) (nI x65) x66 f1 f2 f3 (bN 3 q4) (bN 7 q5) (bN 7 q6) (bN 4 q7) f8 (bN 2 q9) (bH q10) f11 (b2 m12_0 m12_1) (b2 m13_0 m13_1) (b2 m14_0 m14_1) (b2m m15_0 m15_1) f17 (bA 159 q31) f32 f34 f35 f36 f37 (bN 7 q38) f39 f40 f41 (b2 m42_0 m42_1) f43 f44 f47 f48 f49 f50 f51 (bN 13 q54) (bN 120 q55) (bN 120 q56) f57 (bN 120 q58) f59 f60 f64) := hD
      refine lv_aload_n hx hb dX9_clock_24 rfl (lv_at hl 0 rfl) ?_
      refine va_get (D := (dC, dI)) (ci := 9) (v := .int 1) (C := RX9) (T := TX9) (N := 67) hx hb hts hiX9 hown hK hP 0 rfl rfl 0 (by decide) v_2 (fun _ h9 => h9) rfl dX9_clock_25 ?_
      refine lv_if_ne (tgt := 40) hx hb dX9_clock_28 (by decide) (fun _ => ?_) (fun z => absurd z (by decide))
      refine lv_iconst (v := 0) hx hb dX9_clock_40 (by decide) ?_
      exact W.iret (v := 0) hx hb hr (fun t ht hW => ⟨⟨0, (), rfl, (congrArg Prod.fst (hsp.symm.trans hRR)), ⟨1, ⟨by rw [ht]; exact hP, va_K.moved hW.alike hK, hD⟩, (congrArg Prod.snd (hsp.symm.trans hRR))⟩⟩, hS.F ht⟩) hS.2.2 dX9_clock_41
theorem dX9_replays_0 : decode cX9_replays 0 = .ok (.aload_n 0, 1) := by decide +kernel
theorem dX9_replays_1 : decode cX9_replays 1 = .ok (.iconst 0, 1) := by decide +kernel
theorem dX9_replays_2 : decode cX9_replays 2 = .ok (.putfield 142, 3) := by decide +kernel
theorem dX9_replays_5 : decode cX9_replays 5 = .ok (.aload_n 0, 1) := by decide +kernel
theorem dX9_replays_6 : decode cX9_replays 6 = .ok (.iconst 0, 1) := by decide +kernel
theorem dX9_replays_7 : decode cX9_replays 7 = .ok (.putfield 277, 3) := by decide +kernel
theorem dX9_replays_10 : decode cX9_replays 10 = .ok (.aload_n 0, 1) := by decide +kernel
theorem dX9_replays_11 : decode cX9_replays 11 = .ok (.iload_n 1, 1) := by decide +kernel
theorem dX9_replays_12 : decode cX9_replays 12 = .ok (.invokevirtual 387, 3) := by decide +kernel
theorem dX9_replays_15 : decode cX9_replays 15 = .ok (.ifCond .ne 5, 3) := by decide +kernel
theorem dX9_replays_18 : decode cX9_replays 18 = .ok (.iconst 0, 1) := by decide +kernel
theorem dX9_replays_19 : decode cX9_replays 19 = .ok (.ireturn, 1) := by decide +kernel
theorem dX9_replays_20 : decode cX9_replays 20 = .ok (.aload_n 0, 1) := by decide +kernel
theorem dX9_replays_21 : decode cX9_replays 21 = .ok (.iload_n 1, 1) := by decide +kernel
theorem dX9_replays_22 : decode cX9_replays 22 = .ok (.invokevirtual 451, 3) := by decide +kernel
theorem dX9_replays_25 : decode cX9_replays 25 = .ok (.aload_n 0, 1) := by decide +kernel
theorem dX9_replays_26 : decode cX9_replays 26 = .ok (.invokevirtual 457, 3) := by decide +kernel
theorem dX9_replays_29 : decode cX9_replays 29 = .ok (.ifCond .eq 10, 3) := by decide +kernel
theorem dX9_replays_32 : decode cX9_replays 32 = .ok (.aload_n 0, 1) := by decide +kernel
theorem dX9_replays_33 : decode cX9_replays 33 = .ok (.invokevirtual 475, 3) := by decide +kernel
theorem dX9_replays_36 : decode cX9_replays 36 = .ok (.ifCond .ne 5, 3) := by decide +kernel
theorem dX9_replays_39 : decode cX9_replays 39 = .ok (.iconst 0, 1) := by decide +kernel
theorem dX9_replays_40 : decode cX9_replays 40 = .ok (.ireturn, 1) := by decide +kernel
theorem dX9_replays_41 : decode cX9_replays 41 = .ok (.iconst 0, 1) := by decide +kernel
theorem dX9_replays_42 : decode cX9_replays 42 = .ok (.istore_n 2, 1) := by decide +kernel
theorem dX9_replays_43 : decode cX9_replays 43 = .ok (.iload_n 2, 1) := by decide +kernel
theorem dX9_replays_44 : decode cX9_replays 44 = .ok (.aload_n 0, 1) := by decide +kernel
theorem dX9_replays_45 : decode cX9_replays 45 = .ok (.getfield 429, 3) := by decide +kernel
theorem dX9_replays_48 : decode cX9_replays 48 = .ok (.if_icmp .ge 93, 3) := by decide +kernel
theorem dX9_replays_51 : decode cX9_replays 51 = .ok (.aload_n 0, 1) := by decide +kernel
theorem dX9_replays_52 : decode cX9_replays 52 = .ok (.getfield 277, 3) := by decide +kernel
theorem dX9_replays_55 : decode cX9_replays 55 = .ok (.ifCond .eq 86, 3) := by decide +kernel
theorem dX9_replays_58 : decode cX9_replays 58 = .ok (.aload_n 0, 1) := by decide +kernel
theorem dX9_replays_59 : decode cX9_replays 59 = .ok (.getfield 133, 3) := by decide +kernel
theorem dX9_replays_62 : decode cX9_replays 62 = .ok (.iload_n 2, 1) := by decide +kernel
theorem dX9_replays_63 : decode cX9_replays 63 = .ok (.iconst 1, 1) := by decide +kernel
theorem dX9_replays_64 : decode cX9_replays 64 = .ok (.iadd, 1) := by decide +kernel
theorem dX9_replays_65 : decode cX9_replays 65 = .ok (.iaload, 1) := by decide +kernel
theorem dX9_replays_66 : decode cX9_replays 66 = .ok (.aload_n 0, 1) := by decide +kernel
theorem dX9_replays_67 : decode cX9_replays 67 = .ok (.getfield 133, 3) := by decide +kernel
theorem dX9_replays_70 : decode cX9_replays 70 = .ok (.iload_n 2, 1) := by decide +kernel
theorem dX9_replays_71 : decode cX9_replays 71 = .ok (.iaload, 1) := by decide +kernel
theorem dX9_replays_72 : decode cX9_replays 72 = .ok (.isub, 1) := by decide +kernel
theorem dX9_replays_73 : decode cX9_replays 73 = .ok (.istore_n 3, 1) := by decide +kernel
theorem dX9_replays_74 : decode cX9_replays 74 = .ok (.aload_n 0, 1) := by decide +kernel
theorem dX9_replays_75 : decode cX9_replays 75 = .ok (.iload_n 3, 1) := by decide +kernel
theorem dX9_replays_76 : decode cX9_replays 76 = .ok (.aload_n 0, 1) := by decide +kernel
theorem dX9_replays_77 : decode cX9_replays 77 = .ok (.invokevirtual 478, 3) := by decide +kernel
theorem dX9_replays_80 : decode cX9_replays 80 = .ok (.if_icmp .gt 7, 3) := by decide +kernel
theorem dX9_replays_83 : decode cX9_replays 83 = .ok (.iconst 1, 1) := by decide +kernel
theorem dX9_replays_84 : decode cX9_replays 84 = .ok (.goto 4, 3) := by decide +kernel
theorem dX9_replays_87 : decode cX9_replays 87 = .ok (.iconst 0, 1) := by decide +kernel
theorem dX9_replays_88 : decode cX9_replays 88 = .ok (.putfield 277, 3) := by decide +kernel
theorem dX9_replays_91 : decode cX9_replays 91 = .ok (.aload_n 0, 1) := by decide +kernel
theorem dX9_replays_92 : decode cX9_replays 92 = .ok (.iload_n 3, 1) := by decide +kernel
theorem dX9_replays_93 : decode cX9_replays 93 = .ok (.invokevirtual 481, 3) := by decide +kernel
theorem dX9_replays_96 : decode cX9_replays 96 = .ok (.aload_n 0, 1) := by decide +kernel
theorem dX9_replays_97 : decode cX9_replays 97 = .ok (.aload_n 0, 1) := by decide +kernel
theorem dX9_replays_98 : decode cX9_replays 98 = .ok (.getfield 277, 3) := by decide +kernel
theorem dX9_replays_101 : decode cX9_replays 101 = .ok (.ifCond .eq 20, 3) := by decide +kernel
theorem dX9_replays_104 : decode cX9_replays 104 = .ok (.aload_n 0, 1) := by decide +kernel
theorem dX9_replays_105 : decode cX9_replays 105 = .ok (.aload_n 0, 1) := by decide +kernel
theorem dX9_replays_106 : decode cX9_replays 106 = .ok (.getfield 118, 3) := by decide +kernel
theorem dX9_replays_109 : decode cX9_replays 109 = .ok (.iload_n 2, 1) := by decide +kernel
theorem dX9_replays_110 : decode cX9_replays 110 = .ok (.iaload, 1) := by decide +kernel
theorem dX9_replays_111 : decode cX9_replays 111 = .ok (.invokevirtual 484, 3) := by decide +kernel
theorem dX9_replays_114 : decode cX9_replays 114 = .ok (.ifCond .eq 7, 3) := by decide +kernel
theorem dX9_replays_117 : decode cX9_replays 117 = .ok (.iconst 1, 1) := by decide +kernel
theorem dX9_replays_118 : decode cX9_replays 118 = .ok (.goto 4, 3) := by decide +kernel
theorem dX9_replays_121 : decode cX9_replays 121 = .ok (.iconst 0, 1) := by decide +kernel
theorem dX9_replays_122 : decode cX9_replays 122 = .ok (.putfield 277, 3) := by decide +kernel
theorem dX9_replays_125 : decode cX9_replays 125 = .ok (.aload_n 0, 1) := by decide +kernel
theorem dX9_replays_126 : decode cX9_replays 126 = .ok (.aload_n 0, 1) := by decide +kernel
theorem dX9_replays_127 : decode cX9_replays 127 = .ok (.getfield 118, 3) := by decide +kernel
theorem dX9_replays_130 : decode cX9_replays 130 = .ok (.iload_n 2, 1) := by decide +kernel
theorem dX9_replays_131 : decode cX9_replays 131 = .ok (.iaload, 1) := by decide +kernel
theorem dX9_replays_132 : decode cX9_replays 132 = .ok (.invokevirtual 487, 3) := by decide +kernel
theorem dX9_replays_135 : decode cX9_replays 135 = .ok (.iinc 2 1, 3) := by decide +kernel
theorem dX9_replays_138 : decode cX9_replays 138 = .ok (.goto (-95), 3) := by decide +kernel
theorem dX9_replays_141 : decode cX9_replays 141 = .ok (.aload_n 0, 1) := by decide +kernel
theorem dX9_replays_142 : decode cX9_replays 142 = .ok (.getfield 277, 3) := by decide +kernel
theorem dX9_replays_145 : decode cX9_replays 145 = .ok (.ireturn, 1) := by decide +kernel
abbrev vs_EM_replays : List Cond := .code yX9_replays cX9_replays 4 (some .boolean) :: VM
theorem g_EM_replays_EM_isState : GoodIn vs_EM_replays (wsV RX9 387 RX9 yX9_isState vs_EM_isState) := gm_V vm_263 vm_264 vm_265 vm_19 vm_266
theorem g_EM_replays_EM_layPath : GoodIn vs_EM_replays (wsV RX9 451 RX9 yX9_layPath vs_EM_layPath) := gm_V vm_328 vm_329 vm_330 vm_19 vm_331
theorem g_EM_replays_EM_laysLeast : GoodIn vs_EM_replays (wsV RX9 457 RX9 yX9_laysLeast vs_EM_laysLeast) := gm_V vm_336 vm_337 vm_338 vm_19 vm_339
theorem g_EM_replays_EM_beginsPlay : GoodIn vs_EM_replays (wsV RX9 475 RX9 yX9_beginsPlay vs_EM_beginsPlay) := gm_V vm_365 vm_366 vm_367 vm_19 vm_368
theorem g_EM_replays_EM_mayWait : GoodIn vs_EM_replays (wsV RX9 478 RX9 yX9_mayWait vs_EM_mayWait) := gm_V vm_369 vm_370 vm_371 vm_19 vm_372
theorem g_EM_replays_EM_passes : GoodIn vs_EM_replays (wsV RX9 481 RX9 yX9_passes vs_EM_passes) := gm_V vm_373 vm_374 vm_375 vm_19 vm_376
theorem g_EM_replays_EM_take : GoodIn vs_EM_replays (wsV RX9 487 RX9 yX9_take vs_EM_take) := gm_V vm_381 vm_382 vm_383 vm_19 vm_384
theorem g_EM_replays_EM_canTake : GoodIn vs_EM_replays (wsV RX9 484 RX9 yX9_canTake vs_EM_canTake) := gm_V vm_377 vm_378 vm_379 vm_19 vm_380
noncomputable def sp_EM_replays_L1 (x16 : Nat) (f3 : Nat → Int32) (q4 : Nat → Nat) (q5 : Nat → Nat) (q6 : Nat → Nat) (q7 : Nat → Nat) (f8 : Nat → Int32) (q9 : Nat → Nat) (q10 : Nat → Nat) (f11 : Nat → Int32) (m12_0 : Nat) (m12_1 : Nat) (m13_0 : Nat) (m13_1 : Nat) (m14_0 : Nat) (m14_1 : Nat) (z54_5 : Nat → Nat) (z61_6 : Nat) (z59_12 : Nat → Int32) : ((Nat → Int32) × Nat × Nat × Int32 × Nat) → ((Nat → Int32) × Nat × Nat × Int32 × Nat) ⊕ (Nat × Nat × Nat × Int32 × (Nat → Int32)) := fun (g_37, g_38, g_39, g_40, g_41) => (if z61_6 ≤ g_41 then (Sum.inr (g_41, g_38, g_39, g_40, g_37)) else (if g_38 = 0 then (Sum.inr (g_41, g_38, g_39, g_40, g_37)) else (slet (z59_12 (g_41 + 1)) (fun y_51 => (slet (z59_12 g_41) (fun y_52 => (slet ((y_51 : Int32) - y_52) (fun y_53 => (slet (sp_EM_mayWait x16 g_39 f3 q4 q9 q10 f11 m13_0 m13_1 g_37) (fun r_54 => (slet (α := Nat) (if (r_54 : Int32) < y_53 then 0 else 1) (fun g_55 => (slet (sp_EM_passes g_40 g_37 y_53) (fun (z64_60, z66_61) => (slet (α := Nat) (if g_55 = 0 then 0 else (slet (min (z54_5 g_41) 13) (fun u_73 => (slet (sp_EM_canTake x16 g_39 q4 q5 q6 q7 f8 q9 q10 f11 m13_0 m13_1 m14_0 m14_1 z64_60 u_73) (fun u_75 => (if u_75 = 0 then 0 else 1)))))) (fun g_62 => (slet (min (z54_5 g_41) 13) (fun u_67 => (slet (sp_EM_take x16 q6 f8 m12_0 m12_1 z64_60 u_67) (fun (z64_69, z65_70) => (Sum.inl (z64_69, g_62, z65_70, z66_61, (g_41 + 1)))))))))))))))))))))))
noncomputable def sp_EM_replays (x16 : Nat) (x29 : Nat) (x61 : Nat) (x62 : Nat) (x63 : Nat) (x65 : Nat) (x66 : Int32) (f3 : Nat → Int32) (q4 : Nat → Nat) (q5 : Nat → Nat) (q6 : Nat → Nat) (q7 : Nat → Nat) (f8 : Nat → Int32) (q9 : Nat → Nat) (q10 : Nat → Nat) (f11 : Nat → Int32) (m12_0 : Nat) (m12_1 : Nat) (m13_0 : Nat) (m13_1 : Nat) (m14_0 : Nat) (m14_1 : Nat) (m15_0 : Nat) (m15_1 : Nat) (f39 : Nat → Int32) (f40 : Nat → Int32) (f41 : Nat → Int32) (m42_0 : Nat) (q54 : Nat → Nat) (q55 : Nat → Nat) (q56 : Nat → Nat) (f57 : Nat → Int32) (q58 : Nat → Nat) (f59 : Nat → Int32) (f64 : Nat → Int32) (p0 : Int32) : Nat × (Nat → Nat) × (Nat → Nat) × (Nat → Nat) × (Nat → Int32) × (Nat → Nat) × (Nat → Int32) × (Nat → Int32) × Int32 × Nat × Nat × Nat × Nat × Nat × Nat × Int32 := (slet (sp_EM_isState x16 x29 m12_0 m12_1 m42_0 p0) (fun z46_2 => (if x29 = 1 ∧ (0 : Int32) ≤ p0 ∧ p0 < nI m42_0 then (slet ((p0 : Int32).toNatClampNeg) (fun n_3 => (slet (sp_EM_layPath f39 f40 f41 q54 n_3) (fun (z54_5, z61_6) => (slet (sp_EM_laysLeast x16 z61_6 f3 q4 q5 q6 q7 f8 q9 q10 f11 m12_0 m12_1 m13_0 m13_1 m14_0 m14_1 m15_0 m15_1 z54_5 q55 q56 f57 q58 f59) (fun (u_15, z55_8, z56_9, z57_10, z58_11, z59_12, z62_13, z63_14) => (if u_15 = 0 then (0, z54_5, z55_8, z56_9, z57_10, z58_11, z59_12, f64, 0, 0, z46_2, z61_6, z62_13, z63_14, x65, x66) else (slet (sp_EM_beginsPlay x16 x65 x66 q4 q9 q10 f11 m13_0 m13_1 m15_0 m15_1 f64) (fun (u_22, z64_18, z30_19, z65_20, z66_21) => (if u_22 = 0 then (0, z54_5, z55_8, z56_9, z57_10, z58_11, z59_12, z64_18, 0, z30_19, z46_2, z61_6, z62_13, z63_14, z65_20, z66_21) else (slet (α := Nat × Nat × Nat × Int32 × (Nat → Int32)) (itrv (α := (Nat → Int32) × Nat × Nat × Int32 × Nat) (β := (Nat × Nat × Nat × Int32 × (Nat → Int32))) default (sp_EM_replays_L1 x16 f3 q4 q5 q6 q7 f8 q9 q10 f11 m12_0 m12_1 m13_0 m13_1 m14_0 m14_1 z54_5 z61_6 z59_12) (z64_18, z30_19, z65_20, z66_21, 0)) (fun (g_24, g_25, g_26, g_27, g_28) => (g_25, z54_5, z55_8, z56_9, z57_10, z58_11, z59_12, g_28, 0, g_25, z46_2, z61_6, z62_13, z63_14, g_26, g_27))))))))))))) else (0, q54, q55, q56, f57, q58, f59, f64, 0, 0, z46_2, x61, x62, x63, x65, x66))))
set_option maxHeartbeats 4000000 in
set_option maxRecDepth 100000 in
theorem c_EM_replays (l : Launch) (dC : Nat → ClassId) (dI : Nat → Nat → Nat) (sz : Nat) (ad : Nat → Nat) (ck : Nat → ClassId) (x0 : Int32) (x16 : Nat) (x18 : Nat) (x19 : Nat) (x20 : Int32) (x21 : Nat) (x22 : Nat) (x23 : Int32) (x24 : Int32) (x25 : Int32) (x26 : Nat) (x27 : Int32) (x28 : Nat) (x29 : Nat) (x30 : Nat) (x33 : Nat) (x45 : Int32) (x46 : Nat) (x52 : Nat) (x53 : Nat) (x61 : Nat) (x62 : Nat) (x63 : Nat) (x65 : Nat) (x66 : Int32) (f1 : Nat → Int32) (f2 : Nat → Int32) (f3 : Nat → Int32) (q4 : Nat → Nat) (q5 : Nat → Nat) (q6 : Nat → Nat) (q7 : Nat → Nat) (f8 : Nat → Int32) (q9 : Nat → Nat) (q10 : Nat → Nat) (f11 : Nat → Int32) (m12_0 m12_1 : Nat) (m13_0 m13_1 : Nat) (m14_0 m14_1 : Nat) (m15_0 m15_1 : Nat) (f17 : Nat → Int32) (q31 : Nat → Nat) (f32 : Nat → Int32) (f34 : Nat → Int32) (f35 : Nat → Int32) (f36 : Nat → Int32) (f37 : Nat → Int32) (q38 : Nat → Nat) (f39 : Nat → Int32) (f40 : Nat → Int32) (f41 : Nat → Int32) (m42_0 m42_1 : Nat) (f43 : Nat → Int32) (f44 : Nat → Int32) (f47 : Nat → Int32) (f48 : Nat → Int32) (f49 : Nat → Int32) (f50 : Nat → Int32) (f51 : Nat → Int32) (q54 : Nat → Nat) (q55 : Nat → Nat) (q56 : Nat → Nat) (f57 : Nat → Int32) (q58 : Nat → Nat) (f59 : Nat → Int32) (f60 : Nat → Int32) (f64 : Nat → Int32) (p0 : Int32) (hx16 : x16 ≤ 1) (hx18 : x18 ≤ 900) (hx19 : x19 ≤ 900) (hx21 : x21 ≤ 900) (hx22 : x22 ≤ 4) (hx26 : x26 ≤ 6) (hx28 : x28 ≤ 1) (hx29 : x29 ≤ 1) (hx30 : x30 ≤ 1) (hx33 : x33 ≤ 20) (hx46 : x46 ≤ 5) (hx52 : x52 ≤ 2400) (hx53 : x53 ≤ 119) (hx61 : x61 ≤ 119) (hx62 : x62 ≤ 2000) (hx63 : x63 ≤ 1) (hx65 : x65 ≤ 7) (hm12_0 : m12_0 ≤ 3) (hm12_1 : m12_1 ≤ 3) (hm13_0 : m13_0 ≤ 8) (hm13_1 : m13_1 ≤ 8) (hm14_0 : m14_0 ≤ 14) (hm14_1 : m14_1 ≤ 14) (hm15_0 : m15_0 ≤ 8) (hm15_1 : m15_1 ≤ 8) (hm42_0 : m42_0 ≤ 120) (hm42_1 : m42_1 ≤ 400) (hbg : (x16 = 0 ∧ (m13_0 = 0 ∨ 1 ≤ m15_0)) ∨ (x16 = 1 ∧ (m13_1 = 0 ∨ 1 ≤ m15_1))) (hgr : gz_ok m42_0 f39 f40 f41) : Met l yX9_replays vs_EM_replays ({ frames := 6, cells := 0, slots := 0, locals := 136 }) (va_Pc [.ref (ad 0), .int p0] (pu_B (dC, dI) (mo_w ad ck x0 (nI x16) (nI x18) (nI x19) x20 (nI x21) (nI x22) x23 x24 x25 (nI x26) x27 (nI x28) (nI x29) (nI x30) (nI x33) x45 (nI x46) (nI x52) (nI x53) (nI x61) (nI x62) (nI x63) (nI x65) x66 f1 f2 f3 (bN 3 q4) (bN 7 q5) (bN 7 q6) (bN 4 q7) f8 (bN 2 q9) (bH q10) f11 (b2 m12_0 m12_1) (b2 m13_0 m13_1) (b2 m14_0 m14_1) (b2m m15_0 m15_1) f17 (bA 159 q31) f32 f34 f35 f36 f37 (bN 7 q38) f39 f40 f41 (b2 m42_0 m42_1) f43 f44 f47 f48 f49 f50 f51 (bN 13 q54) (bN 120 q55) (bN 120 q56) f57 (bN 120 q58) f59 f60 f64) (mo_t ck) sz)) (va_Qi (fun (r : Int32) (_ : Unit) => ∃ v : Nat, v ≤ 1 ∧ r = nI v ∧ v = (sp_EM_replays x16 x29 x61 x62 x63 x65 x66 f3 q4 q5 q6 q7 f8 q9 q10 f11 m12_0 m12_1 m13_0 m13_1 m14_0 m14_1 m15_0 m15_1 f39 f40 f41 m42_0 q54 q55 q56 f57 q58 f59 f64 p0).1) (fun _ t => ∃ (z54 : Nat → Nat) (z55 : Nat → Nat) (z56 : Nat → Nat) (z57 : Nat → Int32) (z58 : Nat → Nat) (z59 : Nat → Int32) (z64 : Nat → Int32) (z0 : Int32) (z30 : Nat) (z46 : Nat) (z61 : Nat) (z62 : Nat) (z63 : Nat) (z65 : Nat) (z66 : Int32), pu_E (dC, dI) (mo_w ad ck z0 (nI x16) (nI x18) (nI x19) x20 (nI x21) (nI x22) x23 x24 x25 (nI x26) x27 (nI x28) (nI x29) (nI z30) (nI x33) x45 (nI z46) (nI x52) (nI x53) (nI z61) (nI z62) (nI z63) (nI z65) z66 f1 f2 f3 (bN 3 q4) (bN 7 q5) (bN 7 q6) (bN 4 q7) f8 (bN 2 q9) (bH q10) f11 (b2 m12_0 m12_1) (b2 m13_0 m13_1) (b2 m14_0 m14_1) (b2m m15_0 m15_1) f17 (bA 159 q31) f32 f34 f35 f36 f37 (bN 7 q38) f39 f40 f41 (b2 m42_0 m42_1) f43 f44 f47 f48 f49 f50 f51 (bN 13 z54) (bN 120 z55) (bN 120 z56) z57 (bN 120 z58) z59 f60 z64) (mo_t ck) (va_A ((mo_w ad ck x0 (nI x16) (nI x18) (nI x19) x20 (nI x21) (nI x22) x23 x24 x25 (nI x26) x27 (nI x28) (nI x29) (nI x30) (nI x33) x45 (nI x46) (nI x52) (nI x53) (nI x61) (nI x62) (nI x63) (nI x65) x66 f1 f2 f3 (bN 3 q4) (bN 7 q5) (bN 7 q6) (bN 4 q7) f8 (bN 2 q9) (bH q10) f11 (b2 m12_0 m12_1) (b2 m13_0 m13_1) (b2 m14_0 m14_1) (b2m m15_0 m15_1) f17 (bA 159 q31) f32 f34 f35 f36 f37 (bN 7 q38) f39 f40 f41 (b2 m42_0 m42_1) f43 f44 f47 f48 f49 f50 f51 (bN 13 q54) (bN 120 q55) (bN 120 q56) f57 (bN 120 q58) f59 f60 f64)) sz) t ∧ (z30 ≤ 1) ∧ (z46 ≤ 5) ∧ (z61 ≤ 119) ∧ (z62 ≤ 2000) ∧ (z63 ≤ 1) ∧ (z65 ≤ 7) ∧ ((z54, z55, z56, z57, z58, z59, z64, z0, z30, z46, z61, z62, z63, z65, z66) = (sp_EM_replays x16 x29 x61 x62 x63 x65 x66 f3 q4 q5 q6 q7 f8 q9 q10 f11 m12_0 m12_1 m13_0 m13_1 m14_0 m14_1 m15_0 m15_1 f39 f40 f41 m42_0 q54 q55 q56 f57 q58 f59 f64 p0).2)) (va_A ((mo_w ad ck x0 (nI x16) (nI x18) (nI x19) x20 (nI x21) (nI x22) x23 x24 x25 (nI x26) x27 (nI x28) (nI x29) (nI x30) (nI x33) x45 (nI x46) (nI x52) (nI x53) (nI x61) (nI x62) (nI x63) (nI x65) x66 f1 f2 f3 (bN 3 q4) (bN 7 q5) (bN 7 q6) (bN 4 q7) f8 (bN 2 q9) (bH q10) f11 (b2 m12_0 m12_1) (b2 m13_0 m13_1) (b2 m14_0 m14_1) (b2m m15_0 m15_1) f17 (bA 159 q31) f32 f34 f35 f36 f37 (bN 7 q38) f39 f40 f41 (b2 m42_0 m42_1) f43 f44 f47 f48 f49 f50 f51 (bN 13 q54) (bN 120 q55) (bN 120 q56) f57 (bN 120 q58) f59 f60 f64)) sz)) 0 0 (va_A ((mo_w ad ck x0 (nI x16) (nI x18) (nI x19) x20 (nI x21) (nI x22) x23 x24 x25 (nI x26) x27 (nI x28) (nI x29) (nI x30) (nI x33) x45 (nI x46) (nI x52) (nI x53) (nI x61) (nI x62) (nI x63) (nI x65) x66 f1 f2 f3 (bN 3 q4) (bN 7 q5) (bN 7 q6) (bN 4 q7) f8 (bN 2 q9) (bH q10) f11 (b2 m12_0 m12_1) (b2 m13_0 m13_1) (b2 m14_0 m14_1) (b2m m15_0 m15_1) f17 (bA 159 q31) f32 f34 f35 f36 f37 (bN 7 q38) f39 f40 f41 (b2 m42_0 m42_1) f43 f44 f47 f48 f49 f50 f51 (bN 13 q54) (bN 120 q55) (bN 120 q56) f57 (bN 120 q58) f59 f60 f64)) sz) := by
  refine Met.ofW (cc := cX9_replays) (maxL := 4) (ret := (some .boolean)) (by decide) rfl ?_
  intro p e s m args below meth c s₁ B hml hv
  obtain ⟨rfl, rfl, hP, hK, hD0⟩ := hv
  have hx := B.exec
  have hb := B.bytes
  have hr := B.returns
  have hts := atoms_spec (ws := vs_EM_replays) B.pre
  have v_1 := hts (.fieldLink RX9 142 "ClockReachModel" "thrown" "I") (List.mem_cons_of_mem _ vm_5)
  have v_2 := hts (.fieldLink RX9 277 "ClockReachModel" "isPlayed" "Z") (List.mem_cons_of_mem _ vm_2)
  have v_20 := hts (.fieldLink RX9 429 "ClockReachModel" "pathMany" "I") (List.mem_cons_of_mem _ vm_303)
  have v_21 := hts (.fieldLink RX9 133 "ClockReachModel" "time" "[I") (List.mem_cons_of_mem _ vm_326)
  have v_30 := hts (.fieldLink RX9 118 "ClockReachModel" "path" "[I") (List.mem_cons_of_mem _ vm_304)
  have hown : s.vm.findClass RX9 = some m.cls := findClass_of_methodNamed B.named
  have hlocks := B.notSynchronized
  have hiX9 : ∀ w ∈ wsX90, w ∈ vs_EM_replays := fun _ h => List.mem_cons_of_mem _ (vmi_L h)
  have hD := hD0.self (sz := s.heap.size)
  generalize hAe : va_A ((mo_w ad ck x0 (nI x16) (nI x18) (nI x19) x20 (nI x21) (nI x22) x23 x24 x25 (nI x26) x27 (nI x28) (nI x29) (nI x30) (nI x33) x45 (nI x46) (nI x52) (nI x53) (nI x61) (nI x62) (nI x63) (nI x65) x66 f1 f2 f3 (bN 3 q4) (bN 7 q5) (bN 7 q6) (bN 4 q7) f8 (bN 2 q9) (bH q10) f11 (b2 m12_0 m12_1) (b2 m13_0 m13_1) (b2 m14_0 m14_1) (b2m m15_0 m15_1) f17 (bA 159 q31) f32 f34 f35 f36 f37 (bN 7 q38) f39 f40 f41 (b2 m42_0 m42_1) f43 f44 f47 f48 f49 f50 f51 (bN 13 q54) (bN 120 q55) (bN 120 q56) f57 (bN 120 q58) f59 f60 f64)) s.heap.size = A at hD ⊢
  have hA : ∀ q : Nat, s.heap.size ≤ q → A q := fun q h => by rw [← hAe]; exact Or.inr h
  have hS : va_S A s.heap s.heap [] := va_S.rf
  have hl := lv_entry ([.ref (ad 0), .int p0]) (n := 4) (Nat.le_of_ble_eq_true rfl)
  rw [lg_entry_eq]
  generalize (lg_sl ([.ref (ad 0), .int p0]) ++ List.replicate (4 - (lg_sl ([.ref (ad 0), .int p0])).length) Slot.unset).toArray = ls at hl ⊢
  have hl : lv_has ls 4 [(0, .ref (ad 0)), (1, .int p0)] := hl
  obtain ⟨RR, hRR⟩ : ∃ x, x = (sp_EM_replays x16 x29 x61 x62 x63 x65 x66 f3 q4 q5 q6 q7 f8 q9 q10 f11 m12_0 m12_1 m13_0 m13_1 m14_0 m14_1 m15_0 m15_1 f39 f40 f41 m42_0 q54 q55 q56 f57 q58 f59 f64 p0) := ⟨_, rfl⟩
  have hsp := hRR
  refine lv_aload_n hx hb dX9_replays_0 rfl (lv_at hl 0 rfl) ?_
  refine lv_iconst (v := 0) hx hb dX9_replays_1 (by decide) ?_
  refine va_put (D := (dC, dI)) (ci := 9) (v := .int 0) (ty := .int) (C := RX9) (T := TX9) (N := 67) hx hb hts hiX9 tyX9 tyX9_ok nmX9 hown hK hP hD hS 0 rfl rfl 0 (by decide) v_1 (fun _ h9 => h9) rfl (by decide +kernel) rfl rfl (Nat.le_of_ble_eq_true rfl) dX9_replays_2 (fun H locs hP hD hS => ?_)
  have hP : va_P (dC, dI) vwCl (mo_w ad ck 0 (nI x16) (nI x18) (nI x19) x20 (nI x21) (nI x22) x23 x24 x25 (nI x26) x27 (nI x28) (nI x29) (nI x30) (nI x33) x45 (nI x46) (nI x52) (nI x53) (nI x61) (nI x62) (nI x63) (nI x65) x66 f1 f2 f3 (bN 3 q4) (bN 7 q5) (bN 7 q6) (bN 4 q7) f8 (bN 2 q9) (bH q10) f11 (b2 m12_0 m12_1) (b2 m13_0 m13_1) (b2 m14_0 m14_1) (b2m m15_0 m15_1) f17 (bA 159 q31) f32 f34 f35 f36 f37 (bN 7 q38) f39 f40 f41 (b2 m42_0 m42_1) f43 f44 f47 f48 f49 f50 f51 (bN 13 q54) (bN 120 q55) (bN 120 q56) f57 (bN 120 q58) f59 f60 f64) H := hP
  have hD : va_D A (mo_w ad ck 0 (nI x16) (nI x18) (nI x19) x20 (nI x21) (nI x22) x23 x24 x25 (nI x26) x27 (nI x28) (nI x29) (nI x30) (nI x33) x45 (nI x46) (nI x52) (nI x53) (nI x61) (nI x62) (nI x63) (nI x65) x66 f1 f2 f3 (bN 3 q4) (bN 7 q5) (bN 7 q6) (bN 4 q7) f8 (bN 2 q9) (bH q10) f11 (b2 m12_0 m12_1) (b2 m13_0 m13_1) (b2 m14_0 m14_1) (b2m m15_0 m15_1) f17 (bA 159 q31) f32 f34 f35 f36 f37 (bN 7 q38) f39 f40 f41 (b2 m42_0 m42_1) f43 f44 f47 f48 f49 f50 f51 (bN 13 q54) (bN 120 q55) (bN 120 q56) f57 (bN 120 q58) f59 f60 f64) := hD
  refine lv_aload_n hx hb dX9_replays_5 rfl (lv_at hl 0 rfl) ?_
  refine lv_iconst (v := 0) hx hb dX9_replays_6 (by decide) ?_
  refine va_put (D := (dC, dI)) (ci := 9) (v := .int 0) (ty := .boolean) (C := RX9) (T := TX9) (N := 67) hx hb hts hiX9 tyX9 tyX9_ok nmX9 hown hK hP hD hS 0 rfl rfl 30 (by decide) v_2 (fun _ h9 => h9) rfl (by decide +kernel) rfl rfl (Nat.le_of_ble_eq_true rfl) dX9_replays_7 (fun H locs hP hD hS => ?_)
  have hP : va_P (dC, dI) vwCl (mo_w ad ck 0 (nI x16) (nI x18) (nI x19) x20 (nI x21) (nI x22) x23 x24 x25 (nI x26) x27 (nI x28) (nI x29) 0 (nI x33) x45 (nI x46) (nI x52) (nI x53) (nI x61) (nI x62) (nI x63) (nI x65) x66 f1 f2 f3 (bN 3 q4) (bN 7 q5) (bN 7 q6) (bN 4 q7) f8 (bN 2 q9) (bH q10) f11 (b2 m12_0 m12_1) (b2 m13_0 m13_1) (b2 m14_0 m14_1) (b2m m15_0 m15_1) f17 (bA 159 q31) f32 f34 f35 f36 f37 (bN 7 q38) f39 f40 f41 (b2 m42_0 m42_1) f43 f44 f47 f48 f49 f50 f51 (bN 13 q54) (bN 120 q55) (bN 120 q56) f57 (bN 120 q58) f59 f60 f64) H := hP
  have hD : va_D A (mo_w ad ck 0 (nI x16) (nI x18) (nI x19) x20 (nI x21) (nI x22) x23 x24 x25 (nI x26) x27 (nI x28) (nI x29) 0 (nI x33) x45 (nI x46) (nI x52) (nI x53) (nI x61) (nI x62) (nI x63) (nI x65) x66 f1 f2 f3 (bN 3 q4) (bN 7 q5) (bN 7 q6) (bN 4 q7) f8 (bN 2 q9) (bH q10) f11 (b2 m12_0 m12_1) (b2 m13_0 m13_1) (b2 m14_0 m14_1) (b2m m15_0 m15_1) f17 (bA 159 q31) f32 f34 f35 f36 f37 (bN 7 q38) f39 f40 f41 (b2 m42_0 m42_1) f43 f44 f47 f48 f49 f50 f51 (bN 13 q54) (bN 120 q55) (bN 120 q56) f57 (bN 120 q58) f59 f60 f64) := hD
  refine lv_aload_n hx hb dX9_replays_10 rfl (lv_at hl 0 rfl) ?_
  refine lv_iload_n hx hb dX9_replays_11 rfl (lv_at hl 1 rfl) ?_
  have hFc := pu_free hD hS hA
  refine va_calli (va_runV (As := [.int p0]) (rest := []) ⟨hx, hb, hml, hown, hts⟩ (c_EM_isState l dC dI _ ad ck 0 x16 x18 x19 x20 x21 x22 x23 x24 x25 x26 x27 x28 x29 0 x33 x45 x46 x52 x53 x61 x62 x63 x65 x66 f1 f2 f3 q4 q5 q6 q7 f8 q9 q10 f11 m12_0 m12_1 m13_0 m13_1 m14_0 m14_1 m15_0 m15_1 f17 q31 f32 f34 f35 f36 f37 q38 f39 f40 f41 m42_0 m42_1 f43 f44 f47 f48 f49 f50 f51 q54 q55 q56 f57 q58 f59 f60 f64 p0 hx16 hx18 hx19 hx21 hx22 hx26 hx28 hx29 (Nat.le_of_ble_eq_true rfl) hx33 hx46 hx52 hx53 hx61 hx62 hx63 hx65 hm12_0 hm12_1 hm13_0 hm13_1 hm14_0 hm14_1 hm15_0 hm15_1 hm42_0 hm42_1) (cwV 1 hts g_EM_replays_EM_isState rfl rfl rfl (by decide +kernel) ⟨Nat.le_of_ble_eq_true rfl, Nat.le_of_ble_eq_true rfl⟩) ⟨pu_bl, va_recv hK hP (ci := 9) (q0 := 0) rfl rfl, pu_in hP hK hD⟩ rfl rfl hl.1 rfl (lv_room (Nat.le_of_ble_eq_true rfl)) dX9_replays_12 ⟨Nat.le_of_ble_eq_true rfl, Nat.le_of_ble_eq_true rfl⟩) hS (fun q _ h => hFc q h) hFc (fun r_1 u t H1 locs ht hvm hw hB hz1 hk1 hS => ?_)
  obtain ⟨z46_2, ⟨hP1, -, hD1⟩, hz46_2, xr_1_0⟩ := hB
  rw [ht] at hP1
  have hP := hP1
  have hD := pu_all hFc hD1
  clear hP1 hD1 hFc
  clear hk1 hz1 ht hvm
  generalize H1 = H at hP hS ⊢
  replace hsp := hsp.trans (slet_eq xr_1_0)
  rcases hw with ⟨rfl, hw⟩ | ⟨rfl, hn⟩
  · obtain ⟨hs1, n_3, hn_3, rfl⟩ := hw
    replace hsp := hsp.trans (if_pos ⟨hs1, in_q hn_3 (by omega)⟩)
    replace hsp := hsp.trans (slet_eq (nI_cl (n := n_3) (by omega)))
    refine lv_if_ne (tgt := 20) hx hb dX9_replays_15 (by decide) (fun _ => ?_) (fun z => absurd z (by decide))
    refine lv_aload_n hx hb dX9_replays_20 rfl (lv_at hl 0 rfl) ?_
    refine lv_iload_n hx hb dX9_replays_21 rfl (lv_at hl 1 rfl) ?_
    have hFc := pu_free hD hS hA
    refine va_callv (va_runV (As := [.int (nI n_3)]) (rest := []) ⟨hx, hb, hml, hown, hts⟩ (c_EM_layPath l dC dI _ ad ck 0 x16 x18 x19 x20 x21 x22 x23 x24 x25 x26 x27 x28 x29 0 x33 x45 z46_2 x52 x53 x61 x62 x63 x65 x66 f1 f2 f3 q4 q5 q6 q7 f8 q9 q10 f11 m12_0 m12_1 m13_0 m13_1 m14_0 m14_1 m15_0 m15_1 f17 q31 f32 f34 f35 f36 f37 q38 f39 f40 f41 m42_0 m42_1 f43 f44 f47 f48 f49 f50 f51 q54 q55 q56 f57 q58 f59 f60 f64 n_3 hx16 hx18 hx19 hx21 hx22 hx26 hx28 hx29 (Nat.le_of_ble_eq_true rfl) hx33 (Nat.le_trans hz46_2 (Nat.le_of_ble_eq_true rfl)) hx52 hx53 hx61 hx62 hx63 hx65 hm12_0 hm12_1 hm13_0 hm13_1 hm14_0 hm14_1 hm15_0 hm15_1 hm42_0 hm42_1 (by omega) (by first | assumption | exact gz_0) (by omega)) (cwV 1 hts g_EM_replays_EM_layPath rfl rfl rfl (by decide +kernel) ⟨Nat.le_of_ble_eq_true rfl, Nat.le_of_ble_eq_true rfl⟩) ⟨pu_bl, va_recv hK hP (ci := 9) (q0 := 0) rfl rfl, pu_in hP hK hD⟩ rfl rfl hl.1 rfl (lv_room (Nat.le_of_ble_eq_true rfl)) dX9_replays_22 ⟨Nat.le_of_ble_eq_true rfl, Nat.le_of_ble_eq_true rfl⟩) hS (fun q _ h => hFc q h) hFc (fun u t H1 locs ht hvm hw hB hz1 hk1 hS => ?_)
    obtain ⟨z54_5, z61_6, ⟨hP1, -, hD1⟩, hz61_6, xr_4_0, xr_4_1⟩ := hB
    rw [ht] at hP1
    have hP := hP1
    have hD := pu_all hFc hD1
    clear hP1 hD1 hFc
    clear hk1 hz1 ht hvm
    generalize H1 = H at hP hS ⊢
    replace hsp := hsp.trans (slet_eq xr_4_1)
    refine lv_aload_n hx hb dX9_replays_25 rfl (lv_at hl 0 rfl) ?_
    have hFc := pu_free hD hS hA
    refine va_calli (va_runV (As := []) (rest := []) ⟨hx, hb, hml, hown, hts⟩ (c_EM_laysLeast l dC dI _ ad ck 0 x16 x18 x19 x20 x21 x22 x23 x24 x25 x26 x27 x28 x29 0 x33 x45 z46_2 x52 x53 z61_6 x62 x63 x65 x66 f1 f2 f3 q4 q5 q6 q7 f8 q9 q10 f11 m12_0 m12_1 m13_0 m13_1 m14_0 m14_1 m15_0 m15_1 f17 q31 f32 f34 f35 f36 f37 q38 f39 f40 f41 m42_0 m42_1 f43 f44 f47 f48 f49 f50 f51 z54_5 q55 q56 f57 q58 f59 f60 f64 hx16 hx18 hx19 hx21 hx22 hx26 hx28 hx29 (Nat.le_of_ble_eq_true rfl) hx33 (Nat.le_trans hz46_2 (Nat.le_of_ble_eq_true rfl)) hx52 hx53 hz61_6 hx62 hx63 hx65 hm12_0 hm12_1 hm13_0 hm13_1 hm14_0 hm14_1 hm15_0 hm15_1 hm42_0 hm42_1 (by first | assumption | omega)) (cwV 0 hts g_EM_replays_EM_laysLeast rfl rfl rfl (by decide +kernel) ⟨Nat.le_of_ble_eq_true rfl, Nat.le_of_ble_eq_true rfl⟩) ⟨pu_bl, va_recv hK hP (ci := 9) (q0 := 0) rfl rfl, pu_in hP hK hD⟩ rfl rfl hl.1 rfl (lv_room (Nat.le_of_ble_eq_true rfl)) dX9_replays_26 ⟨Nat.le_of_ble_eq_true rfl, Nat.le_of_ble_eq_true rfl⟩) hS (fun q _ h => hFc q h) hFc (fun r_7 u t H1 locs ht hvm hw hB hz1 hk1 hS => ?_)
    obtain ⟨z55_8, z56_9, z57_10, z58_11, z59_12, z62_13, z63_14, ⟨hP1, -, hD1⟩, hz62_13, hz63_14, xr_7_0⟩ := hB
    rw [ht] at hP1
    have hP := hP1
    have hD := pu_all hFc hD1
    clear hP1 hD1 hFc
    clear hk1 hz1 ht hvm
    generalize H1 = H at hP hS ⊢
    obtain ⟨u_15, hu_15, rfl, iu_15⟩ := hw
    have iu_15 : (u_15, z55_8, z56_9, z57_10, z58_11, z59_12, z62_13, z63_14) = (sp_EM_laysLeast x16 z61_6 f3 q4 q5 q6 q7 f8 q9 q10 f11 m12_0 m12_1 m13_0 m13_1 m14_0 m14_1 m15_0 m15_1 z54_5 q55 q56 f57 q58 f59) := Prod.ext iu_15 xr_7_0
    replace hsp := hsp.trans (slet_eq iu_15)
    refine lv_if_eq (tgt := 39) hx hb dX9_replays_29 (by decide) (fun c_16 => ?_) (fun c_16 => ?_)
    · have c_16 : u_15 = 0 := (nI_eq (a := u_15) (b := 0) (Nat.lt_of_le_of_lt hu_15 (Nat.le_of_ble_eq_true rfl)) (Nat.le_of_ble_eq_true rfl)).mp c_16
      replace hsp := hsp.trans (if_pos c_16)
      refine lv_iconst (v := 0) hx hb dX9_replays_39 (by decide) ?_
      exact W.zret (v := 0) (ty := .boolean) hx hb hr (rfl) (fun t ht hW => ⟨⟨0, (), rfl, ⟨0, (Nat.le_of_ble_eq_true rfl), rfl, (congrArg Prod.fst (hsp.symm.trans hRR))⟩, ⟨z54_5, z55_8, z56_9, z57_10, z58_11, z59_12, f64, 0, 0, z46_2, z61_6, z62_13, z63_14, x65, x66, ⟨by rw [ht]; exact hP, va_K.moved hW.alike hK, hD⟩, (Nat.le_of_ble_eq_true rfl), (Nat.le_trans hz46_2 (Nat.le_of_ble_eq_true rfl)), hz61_6, hz62_13, hz63_14, hx65, (congrArg Prod.snd (hsp.symm.trans hRR))⟩⟩, hS.F ht⟩) hS.2.2 dX9_replays_40
    · have c_16 : ¬ u_15 = 0 := fun z => c_16 ((nI_eq (a := u_15) (b := 0) (Nat.lt_of_le_of_lt hu_15 (Nat.le_of_ble_eq_true rfl)) (Nat.le_of_ble_eq_true rfl)).mpr z)
      replace hsp := hsp.trans (if_neg c_16)
      refine lv_aload_n hx hb dX9_replays_32 rfl (lv_at hl 0 rfl) ?_
      have hFc := pu_free hD hS hA
      refine va_calli (va_runV (As := []) (rest := []) ⟨hx, hb, hml, hown, hts⟩ (c_EM_beginsPlay l dC dI _ ad ck 0 x16 x18 x19 x20 x21 x22 x23 x24 x25 x26 x27 x28 x29 0 x33 x45 z46_2 x52 x53 z61_6 z62_13 z63_14 x65 x66 f1 f2 f3 q4 q5 q6 q7 f8 q9 q10 f11 m12_0 m12_1 m13_0 m13_1 m14_0 m14_1 m15_0 m15_1 f17 q31 f32 f34 f35 f36 f37 q38 f39 f40 f41 m42_0 m42_1 f43 f44 f47 f48 f49 f50 f51 z54_5 z55_8 z56_9 z57_10 z58_11 z59_12 f60 f64 hx16 hx18 hx19 hx21 hx22 hx26 hx28 hx29 (Nat.le_of_ble_eq_true rfl) hx33 (Nat.le_trans hz46_2 (Nat.le_of_ble_eq_true rfl)) hx52 hx53 hz61_6 hz62_13 hz63_14 hx65 hm12_0 hm12_1 hm13_0 hm13_1 hm14_0 hm14_1 hm15_0 hm15_1 hm42_0 hm42_1 (by first | assumption | omega)) (cwV 0 hts g_EM_replays_EM_beginsPlay rfl rfl rfl (by decide +kernel) ⟨Nat.le_of_ble_eq_true rfl, Nat.le_of_ble_eq_true rfl⟩) ⟨pu_bl, va_recv hK hP (ci := 9) (q0 := 0) rfl rfl, pu_in hP hK hD⟩ rfl rfl hl.1 rfl (lv_room (Nat.le_of_ble_eq_true rfl)) dX9_replays_33 ⟨Nat.le_of_ble_eq_true rfl, Nat.le_of_ble_eq_true rfl⟩) hS (fun q _ h => hFc q h) hFc (fun r_17 u t H1 locs ht hvm hw hB hz1 hk1 hS => ?_)
      obtain ⟨z64_18, z30_19, z65_20, z66_21, ⟨hP1, -, hD1⟩, hz30_19, hz65_20, xr_17_0⟩ := hB
      rw [ht] at hP1
      have hP := hP1
      have hD := pu_all hFc hD1
      clear hP1 hD1 hFc
      clear hk1 hz1 ht hvm
      generalize H1 = H at hP hS ⊢
      obtain ⟨u_22, hu_22, rfl, iu_22⟩ := hw
      have iu_22 : (u_22, z64_18, z30_19, z65_20, z66_21) = (sp_EM_beginsPlay x16 x65 x66 q4 q9 q10 f11 m13_0 m13_1 m15_0 m15_1 f64) := Prod.ext iu_22 xr_17_0
      replace hsp := hsp.trans (slet_eq iu_22)
      refine lv_if_ne (tgt := 41) hx hb dX9_replays_36 (by decide) (fun c_23 => ?_) (fun c_23 => ?_)
      · have c_23 : ¬ u_22 = 0 := fun z => c_23 ((nI_eq (a := u_22) (b := 0) (Nat.lt_of_le_of_lt hu_22 (Nat.le_of_ble_eq_true rfl)) (Nat.le_of_ble_eq_true rfl)).mpr z)
        replace hsp := hsp.trans (if_neg c_23)
        refine lv_iconst (v := 0) hx hb dX9_replays_41 (by decide) ?_
        refine lv_istore_n (lv' := [(2, .int 0), (0, .ref (ad 0)), (1, .int (nI n_3))]) hx hb dX9_replays_42 rfl hl (by decide) rfl (fun ls hl => ?_)
        obtain ⟨JR_30, hJR_30, hsp⟩ := slet_ex hsp
        refine pu_join (fun H locs ls st => ∃ (g_24 : Nat) (g_25 : Nat) (g_26 : Nat) (g_27 : Int32) (g_28 : Nat → Int32), st = [] ∧ g_24 ≤ 119 ∧ g_25 ≤ 1 ∧ g_26 ≤ 7 ∧ (g_24, g_25, g_26, g_27, g_28) = JR_30 ∧ va_P (dC, dI) vwCl (mo_w ad ck 0 (nI x16) (nI x18) (nI x19) x20 (nI x21) (nI x22) x23 x24 x25 (nI x26) x27 (nI x28) (nI x29) (nI g_25) (nI x33) x45 (nI z46_2) (nI x52) (nI x53) (nI z61_6) (nI z62_13) (nI z63_14) (nI g_26) g_27 f1 f2 f3 (bN 3 q4) (bN 7 q5) (bN 7 q6) (bN 4 q7) f8 (bN 2 q9) (bH q10) f11 (b2 m12_0 m12_1) (b2 m13_0 m13_1) (b2 m14_0 m14_1) (b2m m15_0 m15_1) f17 (bA 159 q31) f32 f34 f35 f36 f37 (bN 7 q38) f39 f40 f41 (b2 m42_0 m42_1) f43 f44 f47 f48 f49 f50 f51 (bN 13 z54_5) (bN 120 z55_8) (bN 120 z56_9) z57_10 (bN 120 z58_11) z59_12 f60 g_28) H ∧ va_D A (mo_w ad ck 0 (nI x16) (nI x18) (nI x19) x20 (nI x21) (nI x22) x23 x24 x25 (nI x26) x27 (nI x28) (nI x29) (nI g_25) (nI x33) x45 (nI z46_2) (nI x52) (nI x53) (nI z61_6) (nI z62_13) (nI z63_14) (nI g_26) g_27 f1 f2 f3 (bN 3 q4) (bN 7 q5) (bN 7 q6) (bN 4 q7) f8 (bN 2 q9) (bH q10) f11 (b2 m12_0 m12_1) (b2 m13_0 m13_1) (b2 m14_0 m14_1) (b2m m15_0 m15_1) f17 (bA 159 q31) f32 f34 f35 f36 f37 (bN 7 q38) f39 f40 f41 (b2 m42_0 m42_1) f43 f44 f47 f48 f49 f50 f51 (bN 13 z54_5) (bN 120 z55_8) (bN 120 z56_9) z57_10 (bN 120 z58_11) z59_12 f60 g_28) ∧ va_S A s.heap H locs ∧ lv_has ls 4 [(0, .ref (ad 0)), (1, .int (nI n_3)), (2, .int (nI g_24))]) 141 ?_ (fun j_29 => ?_)
        · rintro H locs ls st ⟨g_24, g_25, g_26, g_27, g_28, rfl, hg_24, hg_25, hg_26, he_31, hP, hD, hS, hl⟩
          rw [← he_31] at hsp
          refine lv_aload_n hx hb dX9_replays_141 rfl (lv_at hl 0 rfl) ?_
          refine va_get (D := (dC, dI)) (ci := 9) (v := .int (nI g_25)) (C := RX9) (T := TX9) (N := 67) hx hb hts hiX9 hown hK hP 0 rfl rfl 30 (by decide) v_2 (fun _ h9 => h9) rfl dX9_replays_142 ?_
          exact W.zret (v := (nI g_25)) (ty := .boolean) hx hb hr (pu_nz (pu_b1 (n := g_25) (by omega))) (fun t ht hW => ⟨⟨(nI g_25), (), rfl, ⟨g_25, hg_25, rfl, (congrArg Prod.fst (hsp.symm.trans hRR))⟩, ⟨z54_5, z55_8, z56_9, z57_10, z58_11, z59_12, g_28, 0, g_25, z46_2, z61_6, z62_13, z63_14, g_26, g_27, ⟨by rw [ht]; exact hP, va_K.moved hW.alike hK, hD⟩, hg_25, (Nat.le_trans hz46_2 (Nat.le_of_ble_eq_true rfl)), hz61_6, hz62_13, hz63_14, hg_26, (congrArg Prod.snd (hsp.symm.trans hRR))⟩⟩, hS.F ht⟩) hS.2.2 dX9_replays_145
        have hsp := hJR_30
        obtain ⟨lf_43, dlf_43, hlf_43, hsp⟩ := itr_ex hsp
        delta sp_EM_replays_L1 at hlf_43
        refine pu_while (fun nn H locs ls => ∃ (g_37 : Nat → Int32) (g_38 : Nat) (g_39 : Nat) (g_40 : Int32) (g_41 : Nat), nn = 119 - g_41 ∧ g_38 ≤ 1 ∧ g_39 ≤ 7 ∧ g_41 ≤ 119 ∧ JR_30 = itrv dlf_43 lf_43 (g_37, g_38, g_39, g_40, g_41) ∧ va_P (dC, dI) vwCl (mo_w ad ck 0 (nI x16) (nI x18) (nI x19) x20 (nI x21) (nI x22) x23 x24 x25 (nI x26) x27 (nI x28) (nI x29) (nI g_38) (nI x33) x45 (nI z46_2) (nI x52) (nI x53) (nI z61_6) (nI z62_13) (nI z63_14) (nI g_39) g_40 f1 f2 f3 (bN 3 q4) (bN 7 q5) (bN 7 q6) (bN 4 q7) f8 (bN 2 q9) (bH q10) f11 (b2 m12_0 m12_1) (b2 m13_0 m13_1) (b2 m14_0 m14_1) (b2m m15_0 m15_1) f17 (bA 159 q31) f32 f34 f35 f36 f37 (bN 7 q38) f39 f40 f41 (b2 m42_0 m42_1) f43 f44 f47 f48 f49 f50 f51 (bN 13 z54_5) (bN 120 z55_8) (bN 120 z56_9) z57_10 (bN 120 z58_11) z59_12 f60 g_37) H ∧ va_D A (mo_w ad ck 0 (nI x16) (nI x18) (nI x19) x20 (nI x21) (nI x22) x23 x24 x25 (nI x26) x27 (nI x28) (nI x29) (nI g_38) (nI x33) x45 (nI z46_2) (nI x52) (nI x53) (nI z61_6) (nI z62_13) (nI z63_14) (nI g_39) g_40 f1 f2 f3 (bN 3 q4) (bN 7 q5) (bN 7 q6) (bN 4 q7) f8 (bN 2 q9) (bH q10) f11 (b2 m12_0 m12_1) (b2 m13_0 m13_1) (b2 m14_0 m14_1) (b2m m15_0 m15_1) f17 (bA 159 q31) f32 f34 f35 f36 f37 (bN 7 q38) f39 f40 f41 (b2 m42_0 m42_1) f43 f44 f47 f48 f49 f50 f51 (bN 13 z54_5) (bN 120 z55_8) (bN 120 z56_9) z57_10 (bN 120 z58_11) z59_12 f60 g_37) ∧ va_S A s.heap H locs ∧ lv_has ls 4 [(0, .ref (ad 0)), (1, .int (nI n_3)), (2, .int (nI g_41))]) 43 ?_ _ _ _ _ ⟨z64_18, z30_19, z65_20, z66_21, 0, rfl, hz30_19, hz65_20, (Nat.le_of_ble_eq_true rfl), hsp, hP, hD, hS, lv_sub hl [1, 2, 0] rfl⟩
        rintro nn ih_42 H locs ls ⟨g_37, g_38, g_39, g_40, g_41, rfl, hg_38, hg_39, hg_41, he_45, hP, hD, hS, hl⟩
        obtain ⟨S_44, hsp, hin_46, hout_47⟩ := itr_step hlf_43 he_45
        refine lv_iload_n hx hb dX9_replays_43 rfl (lv_at hl 2 rfl) ?_
        refine lv_aload_n hx hb dX9_replays_44 rfl (lv_at hl 0 rfl) ?_
        refine va_get (D := (dC, dI)) (ci := 9) (v := .int (nI z61_6)) (C := RX9) (T := TX9) (N := 67) hx hb hts hiX9 hown hK hP 0 rfl rfl 61 (by decide) v_20 (fun _ h9 => h9) rfl dX9_replays_45 ?_
        refine lv_icmp_ge (tgt := 141) hx hb dX9_replays_48 (by decide) (fun c_48 => ?_) (fun c_48 => ?_)
        · have c_48 : z61_6 ≤ g_41 := (nI_leI (a := z61_6) (b := g_41) (Nat.lt_of_le_of_lt hz61_6 (Nat.le_of_ble_eq_true rfl)) (Nat.lt_of_le_of_lt hg_41 (Nat.le_of_ble_eq_true rfl))).mp c_48
          replace hsp := hsp.trans (if_pos c_48)
          replace hsp := hout_47 _ hsp
          exact j_29 _ _ _ _ ⟨g_41, g_38, g_39, g_40, g_37, rfl, hg_41, hg_38, hg_39, hsp.symm, hP, hD, hS, lv_sub hl [0, 1, 2] rfl⟩
        · have c_48 : ¬ z61_6 ≤ g_41 := fun z => c_48 ((nI_leI (a := z61_6) (b := g_41) (Nat.lt_of_le_of_lt hz61_6 (Nat.le_of_ble_eq_true rfl)) (Nat.lt_of_le_of_lt hg_41 (Nat.le_of_ble_eq_true rfl))).mpr z)
          replace hsp := hsp.trans (if_neg c_48)
          refine lv_aload_n hx hb dX9_replays_51 rfl (lv_at hl 0 rfl) ?_
          refine va_get (D := (dC, dI)) (ci := 9) (v := .int (nI g_38)) (C := RX9) (T := TX9) (N := 67) hx hb hts hiX9 hown hK hP 0 rfl rfl 30 (by decide) v_2 (fun _ h9 => h9) rfl dX9_replays_52 ?_
          refine lv_if_eq (tgt := 141) hx hb dX9_replays_55 (by decide) (fun c_49 => ?_) (fun c_49 => ?_)
          · have c_49 : g_38 = 0 := (nI_eq (a := g_38) (b := 0) (Nat.lt_of_le_of_lt hg_38 (Nat.le_of_ble_eq_true rfl)) (Nat.le_of_ble_eq_true rfl)).mp c_49
            replace hsp := hsp.trans (if_pos c_49)
            replace hsp := hout_47 _ hsp
            exact j_29 _ _ _ _ ⟨g_41, g_38, g_39, g_40, g_37, rfl, hg_41, hg_38, hg_39, hsp.symm, hP, hD, hS, lv_sub hl [0, 1, 2] rfl⟩
          · have c_49 : ¬ g_38 = 0 := fun z => c_49 ((nI_eq (a := g_38) (b := 0) (Nat.lt_of_le_of_lt hg_38 (Nat.le_of_ble_eq_true rfl)) (Nat.le_of_ble_eq_true rfl)).mpr z)
            replace hsp := hsp.trans (if_neg c_49)
            refine lv_aload_n hx hb dX9_replays_58 rfl (lv_at hl 0 rfl) ?_
            refine va_get (D := (dC, dI)) (ci := 9) (v := .ref (ad 59)) (C := RX9) (T := TX9) (N := 67) hx hb hts hiX9 hown hK hP 0 rfl rfl 59 (by decide) v_21 (fun _ h9 => h9) rfl dX9_replays_59 ?_
            refine lv_iload_n hx hb dX9_replays_62 rfl (lv_at hl 2 rfl) ?_
            refine lv_iconst (v := 1) hx hb dX9_replays_63 (by decide) ?_
            refine lv_iadd hx hb dX9_replays_64 ?_
            refine lv_topi (fun y_50 ey_50 => ?_)
            obtain rfl : y_50 = (nI (g_41 + 1)) := ey_50.trans (nI_add g_41 1)
            refine va_iald hx hb hK hP 40 39 rfl rfl (vp_in_nI (n := (g_41 + 1)) (by omega) (Nat.le_of_ble_eq_true rfl)) dX9_replays_65 ?_
            refine lv_topi (fun y_51 ey_51 => ?_)
            have ey_51 : y_51 = z59_12 (g_41 + 1) := ey_51.trans (congrArg z59_12 (nI_clamp (n := (g_41 + 1)) (by omega)))
            replace hsp := hsp.trans (slet_eq ey_51)
            refine lv_aload_n hx hb dX9_replays_66 rfl (lv_at hl 0 rfl) ?_
            refine va_get (D := (dC, dI)) (ci := 9) (v := .ref (ad 59)) (C := RX9) (T := TX9) (N := 67) hx hb hts hiX9 hown hK hP 0 rfl rfl 59 (by decide) v_21 (fun _ h9 => h9) rfl dX9_replays_67 ?_
            refine lv_iload_n hx hb dX9_replays_70 rfl (lv_at hl 2 rfl) ?_
            refine va_iald hx hb hK hP 40 39 rfl rfl (vp_in_nI (n := g_41) (Nat.lt_of_le_of_lt hg_41 (Nat.le_of_ble_eq_true rfl)) (Nat.le_of_ble_eq_true rfl)) dX9_replays_71 ?_
            refine lv_topi (fun y_52 ey_52 => ?_)
            have ey_52 : y_52 = z59_12 g_41 := ey_52.trans (congrArg z59_12 (nI_clamp (n := g_41) (Nat.lt_of_le_of_lt hg_41 (Nat.le_of_ble_eq_true rfl))))
            replace hsp := hsp.trans (slet_eq ey_52)
            refine lv_isub hx hb dX9_replays_72 ?_
            refine lv_topi (fun y_53 ey_53 => ?_)
            replace hsp := hsp.trans (slet_eq ey_53)
            refine lv_istore_n (lv' := [(3, .int y_53), (0, .ref (ad 0)), (1, .int (nI n_3)), (2, .int (nI g_41))]) hx hb dX9_replays_73 rfl hl (by decide) rfl (fun ls hl => ?_)
            refine lv_aload_n hx hb dX9_replays_74 rfl (lv_at hl 1 rfl) ?_
            refine lv_iload_n hx hb dX9_replays_75 rfl (lv_at hl 0 rfl) ?_
            refine lv_aload_n hx hb dX9_replays_76 rfl (lv_at hl 1 rfl) ?_
            refine va_calli (va_runV (As := []) (rest := [.int y_53, .ref (ad 0)]) ⟨hx, hb, hml, hown, hts⟩ (c_EM_mayWait l dC dI _ ad ck 0 x16 x18 x19 x20 x21 x22 x23 x24 x25 x26 x27 x28 x29 g_38 x33 x45 z46_2 x52 x53 z61_6 z62_13 z63_14 g_39 g_40 f1 f2 f3 q4 q5 q6 q7 f8 q9 q10 f11 m12_0 m12_1 m13_0 m13_1 m14_0 m14_1 m15_0 m15_1 f17 q31 f32 f34 f35 f36 f37 q38 f39 f40 f41 m42_0 m42_1 f43 f44 f47 f48 f49 f50 f51 z54_5 z55_8 z56_9 z57_10 z58_11 z59_12 f60 g_37 hx16 hx18 hx19 hx21 hx22 hx26 hx28 hx29 hg_38 hx33 (Nat.le_trans hz46_2 (Nat.le_of_ble_eq_true rfl)) hx52 hx53 hz61_6 hz62_13 hz63_14 hg_39 hm12_0 hm12_1 hm13_0 hm13_1 hm14_0 hm14_1 hm15_0 hm15_1 hm42_0 hm42_1) (cwV 0 hts g_EM_replays_EM_mayWait rfl rfl rfl (by decide +kernel) ⟨Nat.le_of_ble_eq_true rfl, Nat.le_of_ble_eq_true rfl⟩) ⟨pu_bl, va_recv hK hP (ci := 9) (q0 := 0) rfl rfl, pu_in hP hK hD⟩ rfl rfl hl.1 rfl (lv_room (Nat.le_of_ble_eq_true rfl)) dX9_replays_77 ⟨Nat.le_of_ble_eq_true rfl, Nat.le_of_ble_eq_true rfl⟩) hS (fun q _ h => pu_fr hS hA q h) (pu_fr hS hA) (fun r_54 u t H1 locs ht hvm hw hB hz1 hk1 hS => ?_)
            have hP := pu_keep hP hk1
            clear hk1 hz1 ht hvm
            generalize H1 = H at hP hS ⊢
            have ir_54 := hw
            replace hsp := hsp.trans (slet_eq ir_54)
            obtain ⟨JR_57, hJR_57, hsp⟩ := slet_ex hsp
            refine pu_join (fun H locs ls st => ∃ (g_55 : Nat), st = [.int (nI g_55), .ref (ad 0)] ∧ g_55 ≤ 1 ∧ g_55 = JR_57 ∧ va_P (dC, dI) vwCl (mo_w ad ck 0 (nI x16) (nI x18) (nI x19) x20 (nI x21) (nI x22) x23 x24 x25 (nI x26) x27 (nI x28) (nI x29) (nI g_38) (nI x33) x45 (nI z46_2) (nI x52) (nI x53) (nI z61_6) (nI z62_13) (nI z63_14) (nI g_39) g_40 f1 f2 f3 (bN 3 q4) (bN 7 q5) (bN 7 q6) (bN 4 q7) f8 (bN 2 q9) (bH q10) f11 (b2 m12_0 m12_1) (b2 m13_0 m13_1) (b2 m14_0 m14_1) (b2m m15_0 m15_1) f17 (bA 159 q31) f32 f34 f35 f36 f37 (bN 7 q38) f39 f40 f41 (b2 m42_0 m42_1) f43 f44 f47 f48 f49 f50 f51 (bN 13 z54_5) (bN 120 z55_8) (bN 120 z56_9) z57_10 (bN 120 z58_11) z59_12 f60 g_37) H ∧ va_D A (mo_w ad ck 0 (nI x16) (nI x18) (nI x19) x20 (nI x21) (nI x22) x23 x24 x25 (nI x26) x27 (nI x28) (nI x29) (nI g_38) (nI x33) x45 (nI z46_2) (nI x52) (nI x53) (nI z61_6) (nI z62_13) (nI z63_14) (nI g_39) g_40 f1 f2 f3 (bN 3 q4) (bN 7 q5) (bN 7 q6) (bN 4 q7) f8 (bN 2 q9) (bH q10) f11 (b2 m12_0 m12_1) (b2 m13_0 m13_1) (b2 m14_0 m14_1) (b2m m15_0 m15_1) f17 (bA 159 q31) f32 f34 f35 f36 f37 (bN 7 q38) f39 f40 f41 (b2 m42_0 m42_1) f43 f44 f47 f48 f49 f50 f51 (bN 13 z54_5) (bN 120 z55_8) (bN 120 z56_9) z57_10 (bN 120 z58_11) z59_12 f60 g_37) ∧ va_S A s.heap H locs ∧ lv_has ls 4 [(0, .ref (ad 0)), (1, .int (nI n_3)), (2, .int (nI g_41)), (3, .int y_53)]) 88 ?_ (fun j_56 => ?_)
            · rintro H locs ls st ⟨g_55, rfl, hg_55, he_58, hP, hD, hS, hl⟩
              rw [← he_58] at hsp
              refine va_put (D := (dC, dI)) (ci := 9) (v := .int (nI g_55)) (ty := .boolean) (C := RX9) (T := TX9) (N := 67) hx hb hts hiX9 tyX9 tyX9_ok nmX9 hown hK hP hD hS 0 rfl rfl 30 (by decide) v_2 (fun _ h9 => h9) rfl (by decide +kernel) (pu_nz (pu_b1 (n := g_55) (by omega))) (pu_fz (pu_b1 (n := g_55) (by omega))) (Nat.le_of_ble_eq_true rfl) dX9_replays_88 (fun H locs hP hD hS => ?_)
              have hP : va_P (dC, dI) vwCl (mo_w ad ck 0 (nI x16) (nI x18) (nI x19) x20 (nI x21) (nI x22) x23 x24 x25 (nI x26) x27 (nI x28) (nI x29) (nI g_55) (nI x33) x45 (nI z46_2) (nI x52) (nI x53) (nI z61_6) (nI z62_13) (nI z63_14) (nI g_39) g_40 f1 f2 f3 (bN 3 q4) (bN 7 q5) (bN 7 q6) (bN 4 q7) f8 (bN 2 q9) (bH q10) f11 (b2 m12_0 m12_1) (b2 m13_0 m13_1) (b2 m14_0 m14_1) (b2m m15_0 m15_1) f17 (bA 159 q31) f32 f34 f35 f36 f37 (bN 7 q38) f39 f40 f41 (b2 m42_0 m42_1) f43 f44 f47 f48 f49 f50 f51 (bN 13 z54_5) (bN 120 z55_8) (bN 120 z56_9) z57_10 (bN 120 z58_11) z59_12 f60 g_37) H := hP
              have hD : va_D A (mo_w ad ck 0 (nI x16) (nI x18) (nI x19) x20 (nI x21) (nI x22) x23 x24 x25 (nI x26) x27 (nI x28) (nI x29) (nI g_55) (nI x33) x45 (nI z46_2) (nI x52) (nI x53) (nI z61_6) (nI z62_13) (nI z63_14) (nI g_39) g_40 f1 f2 f3 (bN 3 q4) (bN 7 q5) (bN 7 q6) (bN 4 q7) f8 (bN 2 q9) (bH q10) f11 (b2 m12_0 m12_1) (b2 m13_0 m13_1) (b2 m14_0 m14_1) (b2m m15_0 m15_1) f17 (bA 159 q31) f32 f34 f35 f36 f37 (bN 7 q38) f39 f40 f41 (b2 m42_0 m42_1) f43 f44 f47 f48 f49 f50 f51 (bN 13 z54_5) (bN 120 z55_8) (bN 120 z56_9) z57_10 (bN 120 z58_11) z59_12 f60 g_37) := hD
              refine lv_aload_n hx hb dX9_replays_91 rfl (lv_at hl 0 rfl) ?_
              refine lv_iload_n hx hb dX9_replays_92 rfl (lv_at hl 3 rfl) ?_
              have hFc := pu_free hD hS hA
              refine va_callv (va_runV (As := [.int y_53]) (rest := []) ⟨hx, hb, hml, hown, hts⟩ (c_EM_passes l dC dI _ ad ck 0 x16 x18 x19 x20 x21 x22 x23 x24 x25 x26 x27 x28 x29 g_55 x33 x45 z46_2 x52 x53 z61_6 z62_13 z63_14 g_39 g_40 f1 f2 f3 q4 q5 q6 q7 f8 q9 q10 f11 m12_0 m12_1 m13_0 m13_1 m14_0 m14_1 m15_0 m15_1 f17 q31 f32 f34 f35 f36 f37 q38 f39 f40 f41 m42_0 m42_1 f43 f44 f47 f48 f49 f50 f51 z54_5 z55_8 z56_9 z57_10 z58_11 z59_12 f60 g_37 y_53 hx16 hx18 hx19 hx21 hx22 hx26 hx28 hx29 hg_55 hx33 (Nat.le_trans hz46_2 (Nat.le_of_ble_eq_true rfl)) hx52 hx53 hz61_6 hz62_13 hz63_14 hg_39 hm12_0 hm12_1 hm13_0 hm13_1 hm14_0 hm14_1 hm15_0 hm15_1 hm42_0 hm42_1) (cwV 1 hts g_EM_replays_EM_passes rfl rfl rfl (by decide +kernel) ⟨Nat.le_of_ble_eq_true rfl, Nat.le_of_ble_eq_true rfl⟩) ⟨pu_bl, va_recv hK hP (ci := 9) (q0 := 0) rfl rfl, pu_in hP hK hD⟩ rfl rfl hl.1 rfl (lv_room (Nat.le_of_ble_eq_true rfl)) dX9_replays_93 ⟨Nat.le_of_ble_eq_true rfl, Nat.le_of_ble_eq_true rfl⟩) hS (fun q _ h => hFc q h) hFc (fun u t H1 locs ht hvm hw hB hz1 hk1 hS => ?_)
              obtain ⟨z64_60, z66_61, ⟨hP1, -, hD1⟩, xr_59_0⟩ := hB
              rw [ht] at hP1
              have hP := hP1
              have hD := pu_all hFc hD1
              clear hP1 hD1 hFc
              clear hk1 hz1 ht hvm
              generalize H1 = H at hP hS ⊢
              replace hsp := hsp.trans (slet_eq xr_59_0)
              refine lv_aload_n hx hb dX9_replays_96 rfl (lv_at hl 0 rfl) ?_
              refine lv_aload_n hx hb dX9_replays_97 rfl (lv_at hl 0 rfl) ?_
              refine va_get (D := (dC, dI)) (ci := 9) (v := .int (nI g_55)) (C := RX9) (T := TX9) (N := 67) hx hb hts hiX9 hown hK hP 0 rfl rfl 30 (by decide) v_2 (fun _ h9 => h9) rfl dX9_replays_98 ?_
              obtain ⟨JR_64, hJR_64, hsp⟩ := slet_ex hsp
              refine pu_join (fun H locs ls st => ∃ (g_62 : Nat), st = [.int (nI g_62), .ref (ad 0)] ∧ g_62 ≤ 1 ∧ g_62 = JR_64 ∧ va_P (dC, dI) vwCl (mo_w ad ck 0 (nI x16) (nI x18) (nI x19) x20 (nI x21) (nI x22) x23 x24 x25 (nI x26) x27 (nI x28) (nI x29) (nI g_55) (nI x33) x45 (nI z46_2) (nI x52) (nI x53) (nI z61_6) (nI z62_13) (nI z63_14) (nI g_39) z66_61 f1 f2 f3 (bN 3 q4) (bN 7 q5) (bN 7 q6) (bN 4 q7) f8 (bN 2 q9) (bH q10) f11 (b2 m12_0 m12_1) (b2 m13_0 m13_1) (b2 m14_0 m14_1) (b2m m15_0 m15_1) f17 (bA 159 q31) f32 f34 f35 f36 f37 (bN 7 q38) f39 f40 f41 (b2 m42_0 m42_1) f43 f44 f47 f48 f49 f50 f51 (bN 13 z54_5) (bN 120 z55_8) (bN 120 z56_9) z57_10 (bN 120 z58_11) z59_12 f60 z64_60) H ∧ va_D A (mo_w ad ck 0 (nI x16) (nI x18) (nI x19) x20 (nI x21) (nI x22) x23 x24 x25 (nI x26) x27 (nI x28) (nI x29) (nI g_55) (nI x33) x45 (nI z46_2) (nI x52) (nI x53) (nI z61_6) (nI z62_13) (nI z63_14) (nI g_39) z66_61 f1 f2 f3 (bN 3 q4) (bN 7 q5) (bN 7 q6) (bN 4 q7) f8 (bN 2 q9) (bH q10) f11 (b2 m12_0 m12_1) (b2 m13_0 m13_1) (b2 m14_0 m14_1) (b2m m15_0 m15_1) f17 (bA 159 q31) f32 f34 f35 f36 f37 (bN 7 q38) f39 f40 f41 (b2 m42_0 m42_1) f43 f44 f47 f48 f49 f50 f51 (bN 13 z54_5) (bN 120 z55_8) (bN 120 z56_9) z57_10 (bN 120 z58_11) z59_12 f60 z64_60) ∧ va_S A s.heap H locs ∧ lv_has ls 4 [(0, .ref (ad 0)), (1, .int (nI n_3)), (2, .int (nI g_41)), (3, .int y_53)]) 122 ?_ (fun j_63 => ?_)
              · rintro H locs ls st ⟨g_62, rfl, hg_62, he_65, hP, hD, hS, hl⟩
                rw [← he_65] at hsp
                refine va_put (D := (dC, dI)) (ci := 9) (v := .int (nI g_62)) (ty := .boolean) (C := RX9) (T := TX9) (N := 67) hx hb hts hiX9 tyX9 tyX9_ok nmX9 hown hK hP hD hS 0 rfl rfl 30 (by decide) v_2 (fun _ h9 => h9) rfl (by decide +kernel) (pu_nz (pu_b1 (n := g_62) (by omega))) (pu_fz (pu_b1 (n := g_62) (by omega))) (Nat.le_of_ble_eq_true rfl) dX9_replays_122 (fun H locs hP hD hS => ?_)
                have hP : va_P (dC, dI) vwCl (mo_w ad ck 0 (nI x16) (nI x18) (nI x19) x20 (nI x21) (nI x22) x23 x24 x25 (nI x26) x27 (nI x28) (nI x29) (nI g_62) (nI x33) x45 (nI z46_2) (nI x52) (nI x53) (nI z61_6) (nI z62_13) (nI z63_14) (nI g_39) z66_61 f1 f2 f3 (bN 3 q4) (bN 7 q5) (bN 7 q6) (bN 4 q7) f8 (bN 2 q9) (bH q10) f11 (b2 m12_0 m12_1) (b2 m13_0 m13_1) (b2 m14_0 m14_1) (b2m m15_0 m15_1) f17 (bA 159 q31) f32 f34 f35 f36 f37 (bN 7 q38) f39 f40 f41 (b2 m42_0 m42_1) f43 f44 f47 f48 f49 f50 f51 (bN 13 z54_5) (bN 120 z55_8) (bN 120 z56_9) z57_10 (bN 120 z58_11) z59_12 f60 z64_60) H := hP
                have hD : va_D A (mo_w ad ck 0 (nI x16) (nI x18) (nI x19) x20 (nI x21) (nI x22) x23 x24 x25 (nI x26) x27 (nI x28) (nI x29) (nI g_62) (nI x33) x45 (nI z46_2) (nI x52) (nI x53) (nI z61_6) (nI z62_13) (nI z63_14) (nI g_39) z66_61 f1 f2 f3 (bN 3 q4) (bN 7 q5) (bN 7 q6) (bN 4 q7) f8 (bN 2 q9) (bH q10) f11 (b2 m12_0 m12_1) (b2 m13_0 m13_1) (b2 m14_0 m14_1) (b2m m15_0 m15_1) f17 (bA 159 q31) f32 f34 f35 f36 f37 (bN 7 q38) f39 f40 f41 (b2 m42_0 m42_1) f43 f44 f47 f48 f49 f50 f51 (bN 13 z54_5) (bN 120 z55_8) (bN 120 z56_9) z57_10 (bN 120 z58_11) z59_12 f60 z64_60) := hD
                refine lv_aload_n hx hb dX9_replays_125 rfl (lv_at hl 0 rfl) ?_
                refine lv_aload_n hx hb dX9_replays_126 rfl (lv_at hl 0 rfl) ?_
                refine va_get (D := (dC, dI)) (ci := 9) (v := .ref (ad 54)) (C := RX9) (T := TX9) (N := 67) hx hb hts hiX9 hown hK hP 0 rfl rfl 54 (by decide) v_30 (fun _ h9 => h9) rfl dX9_replays_127 ?_
                refine lv_iload_n hx hb dX9_replays_130 rfl (lv_at hl 2 rfl) ?_
                refine va_iald hx hb hK hP 35 34 rfl rfl (vp_in_nI (n := g_41) (Nat.lt_of_le_of_lt hg_41 (Nat.le_of_ble_eq_true rfl)) (Nat.le_of_ble_eq_true rfl)) dX9_replays_131 ?_
                refine lv_topi (fun y_66 ey_66 => ?_)
                obtain ⟨u_67, hu_67, qu_67, xu_67⟩ := bN_getx 13 z54_5 (n := g_41) (Nat.lt_of_le_of_lt hg_41 (Nat.le_of_ble_eq_true rfl))
                obtain rfl : y_66 = nI u_67 := ey_66.trans qu_67
                replace hsp := hsp.trans (slet_eq xu_67)
                have hFc := pu_free hD hS hA
                refine va_callv (va_runV (As := [.int (nI u_67)]) (rest := []) ⟨hx, hb, hml, hown, hts⟩ (c_EM_take l dC dI _ ad ck 0 x16 x18 x19 x20 x21 x22 x23 x24 x25 x26 x27 x28 x29 g_62 x33 x45 z46_2 x52 x53 z61_6 z62_13 z63_14 g_39 z66_61 f1 f2 f3 q4 q5 q6 q7 f8 q9 q10 f11 m12_0 m12_1 m13_0 m13_1 m14_0 m14_1 m15_0 m15_1 f17 q31 f32 f34 f35 f36 f37 q38 f39 f40 f41 m42_0 m42_1 f43 f44 f47 f48 f49 f50 f51 z54_5 z55_8 z56_9 z57_10 z58_11 z59_12 f60 z64_60 u_67 hx16 hx18 hx19 hx21 hx22 hx26 hx28 hx29 hg_62 hx33 (Nat.le_trans hz46_2 (Nat.le_of_ble_eq_true rfl)) hx52 hx53 hz61_6 hz62_13 hz63_14 hg_39 hm12_0 hm12_1 hm13_0 hm13_1 hm14_0 hm14_1 hm15_0 hm15_1 hm42_0 hm42_1 hu_67) (cwV 1 hts g_EM_replays_EM_take rfl rfl rfl (by decide +kernel) ⟨Nat.le_of_ble_eq_true rfl, Nat.le_of_ble_eq_true rfl⟩) ⟨pu_bl, va_recv hK hP (ci := 9) (q0 := 0) rfl rfl, pu_in hP hK hD⟩ rfl rfl hl.1 rfl (lv_room (Nat.le_of_ble_eq_true rfl)) dX9_replays_132 ⟨Nat.le_of_ble_eq_true rfl, Nat.le_of_ble_eq_true rfl⟩) hS (fun q _ h => hFc q h) hFc (fun u t H1 locs ht hvm hw hB hz1 hk1 hS => ?_)
                obtain ⟨z64_69, z65_70, ⟨hP1, -, hD1⟩, hz65_70, xr_68_0⟩ := hB
                rw [ht] at hP1
                have hP := hP1
                have hD := pu_all hFc hD1
                clear hP1 hD1 hFc
                clear hk1 hz1 ht hvm
                generalize H1 = H at hP hS ⊢
                replace hsp := hsp.trans (slet_eq xr_68_0)
                refine lv_iinc (v := (nI (g_41 + 1))) (lv' := [(2, .int (nI (g_41 + 1))), (0, .ref (ad 0)), (1, .int (nI n_3)), (3, .int y_53)]) hx hb dX9_replays_135 hl (k := 2) rfl (nI_1 _) (by decide) rfl (fun ls hl => ?_)
                refine lv_goto (tgt := 43) hx hb dX9_replays_138 (by decide) ?_
                exact ih_42 (119 - (g_41 + 1)) (by omega) _ _ _ ⟨z64_69, g_62, z65_70, z66_61, (g_41 + 1), rfl, hg_62, hz65_70, (by omega), hin_46 _ hsp, hP, hD, hS, lv_sub hl [1, 2, 0] rfl⟩
              have hsp := hJR_64
              refine lv_if_eq (tgt := 121) hx hb dX9_replays_101 (by decide) (fun c_71 => ?_) (fun c_71 => ?_)
              · have c_71 : g_55 = 0 := (nI_eq (a := g_55) (b := 0) (Nat.lt_of_le_of_lt hg_55 (Nat.le_of_ble_eq_true rfl)) (Nat.le_of_ble_eq_true rfl)).mp c_71
                replace hsp := hsp.trans (if_pos c_71)
                refine lv_iconst (v := 0) hx hb dX9_replays_121 (by decide) ?_
                exact j_63 _ _ _ _ ⟨0, rfl, (Nat.le_of_ble_eq_true rfl), hsp.symm, hP, hD, hS, lv_sub hl [0, 1, 2, 3] rfl⟩
              · have c_71 : ¬ g_55 = 0 := fun z => c_71 ((nI_eq (a := g_55) (b := 0) (Nat.lt_of_le_of_lt hg_55 (Nat.le_of_ble_eq_true rfl)) (Nat.le_of_ble_eq_true rfl)).mpr z)
                replace hsp := hsp.trans (if_neg c_71)
                refine lv_aload_n hx hb dX9_replays_104 rfl (lv_at hl 0 rfl) ?_
                refine lv_aload_n hx hb dX9_replays_105 rfl (lv_at hl 0 rfl) ?_
                refine va_get (D := (dC, dI)) (ci := 9) (v := .ref (ad 54)) (C := RX9) (T := TX9) (N := 67) hx hb hts hiX9 hown hK hP 0 rfl rfl 54 (by decide) v_30 (fun _ h9 => h9) rfl dX9_replays_106 ?_
                refine lv_iload_n hx hb dX9_replays_109 rfl (lv_at hl 2 rfl) ?_
                refine va_iald hx hb hK hP 35 34 rfl rfl (vp_in_nI (n := g_41) (Nat.lt_of_le_of_lt hg_41 (Nat.le_of_ble_eq_true rfl)) (Nat.le_of_ble_eq_true rfl)) dX9_replays_110 ?_
                refine lv_topi (fun y_72 ey_72 => ?_)
                obtain ⟨u_73, hu_73, qu_73, xu_73⟩ := bN_getx 13 z54_5 (n := g_41) (Nat.lt_of_le_of_lt hg_41 (Nat.le_of_ble_eq_true rfl))
                obtain rfl : y_72 = nI u_73 := ey_72.trans qu_73
                replace hsp := hsp.trans (slet_eq xu_73)
                refine va_calli (va_runV (As := [.int (nI u_73)]) (rest := [.ref (ad 0)]) ⟨hx, hb, hml, hown, hts⟩ (c_EM_canTake l dC dI _ ad ck 0 x16 x18 x19 x20 x21 x22 x23 x24 x25 x26 x27 x28 x29 g_55 x33 x45 z46_2 x52 x53 z61_6 z62_13 z63_14 g_39 z66_61 f1 f2 f3 q4 q5 q6 q7 f8 q9 q10 f11 m12_0 m12_1 m13_0 m13_1 m14_0 m14_1 m15_0 m15_1 f17 q31 f32 f34 f35 f36 f37 q38 f39 f40 f41 m42_0 m42_1 f43 f44 f47 f48 f49 f50 f51 z54_5 z55_8 z56_9 z57_10 z58_11 z59_12 f60 z64_60 u_73 hx16 hx18 hx19 hx21 hx22 hx26 hx28 hx29 hg_55 hx33 (Nat.le_trans hz46_2 (Nat.le_of_ble_eq_true rfl)) hx52 hx53 hz61_6 hz62_13 hz63_14 hg_39 hm12_0 hm12_1 hm13_0 hm13_1 hm14_0 hm14_1 hm15_0 hm15_1 hm42_0 hm42_1 hu_73) (cwV 1 hts g_EM_replays_EM_canTake rfl rfl rfl (by decide +kernel) ⟨Nat.le_of_ble_eq_true rfl, Nat.le_of_ble_eq_true rfl⟩) ⟨pu_bl, va_recv hK hP (ci := 9) (q0 := 0) rfl rfl, pu_in hP hK hD⟩ rfl rfl hl.1 rfl (lv_room (Nat.le_of_ble_eq_true rfl)) dX9_replays_111 ⟨Nat.le_of_ble_eq_true rfl, Nat.le_of_ble_eq_true rfl⟩) hS (fun q _ h => pu_fr hS hA q h) (pu_fr hS hA) (fun r_74 u t H1 locs ht hvm hw hB hz1 hk1 hS => ?_)
                have hP := pu_keep hP hk1
                clear hk1 hz1 ht hvm
                generalize H1 = H at hP hS ⊢
                obtain ⟨u_75, hu_75, rfl, iu_75⟩ := hw
                replace hsp := hsp.trans (slet_eq iu_75)
                refine lv_if_eq (tgt := 121) hx hb dX9_replays_114 (by decide) (fun c_76 => ?_) (fun c_76 => ?_)
                · have c_76 : u_75 = 0 := (nI_eq (a := u_75) (b := 0) (Nat.lt_of_le_of_lt hu_75 (Nat.le_of_ble_eq_true rfl)) (Nat.le_of_ble_eq_true rfl)).mp c_76
                  replace hsp := hsp.trans (if_pos c_76)
                  refine lv_iconst (v := 0) hx hb dX9_replays_121 (by decide) ?_
                  exact j_63 _ _ _ _ ⟨0, rfl, (Nat.le_of_ble_eq_true rfl), hsp.symm, hP, hD, hS, lv_sub hl [0, 1, 2, 3] rfl⟩
                · have c_76 : ¬ u_75 = 0 := fun z => c_76 ((nI_eq (a := u_75) (b := 0) (Nat.lt_of_le_of_lt hu_75 (Nat.le_of_ble_eq_true rfl)) (Nat.le_of_ble_eq_true rfl)).mpr z)
                  replace hsp := hsp.trans (if_neg c_76)
                  refine lv_iconst (v := 1) hx hb dX9_replays_117 (by decide) ?_
                  refine lv_goto (tgt := 122) hx hb dX9_replays_118 (by decide) ?_
                  exact j_63 _ _ _ _ ⟨1, rfl, (Nat.le_of_ble_eq_true rfl), hsp.symm, hP, hD, hS, lv_sub hl [0, 1, 2, 3] rfl⟩
            have hsp := hJR_57
            refine lv_icmp_gt (tgt := 87) hx hb dX9_replays_80 (by decide) (fun c_77 => ?_) (fun c_77 => ?_)
            · have hcc_77 := c_77
              replace hsp := hsp.trans (if_pos c_77)
              refine lv_iconst (v := 0) hx hb dX9_replays_87 (by decide) ?_
              exact j_56 _ _ _ _ ⟨0, rfl, (Nat.le_of_ble_eq_true rfl), hsp.symm, hP, hD, hS, lv_sub hl [1, 2, 3, 0] rfl⟩
            · have hcc_77 := c_77
              replace hsp := hsp.trans (if_neg c_77)
              refine lv_iconst (v := 1) hx hb dX9_replays_83 (by decide) ?_
              refine lv_goto (tgt := 88) hx hb dX9_replays_84 (by decide) ?_
              exact j_56 _ _ _ _ ⟨1, rfl, (Nat.le_of_ble_eq_true rfl), hsp.symm, hP, hD, hS, lv_sub hl [1, 2, 3, 0] rfl⟩
      · have c_23 : u_22 = 0 := (nI_eq (a := u_22) (b := 0) (Nat.lt_of_le_of_lt hu_22 (Nat.le_of_ble_eq_true rfl)) (Nat.le_of_ble_eq_true rfl)).mp c_23
        replace hsp := hsp.trans (if_pos c_23)
        refine lv_iconst (v := 0) hx hb dX9_replays_39 (by decide) ?_
        exact W.zret (v := 0) (ty := .boolean) hx hb hr (rfl) (fun t ht hW => ⟨⟨0, (), rfl, ⟨0, (Nat.le_of_ble_eq_true rfl), rfl, (congrArg Prod.fst (hsp.symm.trans hRR))⟩, ⟨z54_5, z55_8, z56_9, z57_10, z58_11, z59_12, z64_18, 0, z30_19, z46_2, z61_6, z62_13, z63_14, z65_20, z66_21, ⟨by rw [ht]; exact hP, va_K.moved hW.alike hK, hD⟩, hz30_19, (Nat.le_trans hz46_2 (Nat.le_of_ble_eq_true rfl)), hz61_6, hz62_13, hz63_14, hz65_20, (congrArg Prod.snd (hsp.symm.trans hRR))⟩⟩, hS.F ht⟩) hS.2.2 dX9_replays_40
  · replace hsp := hsp.trans (if_neg hn)
    refine lv_if_ne (tgt := 20) hx hb dX9_replays_15 (by decide) (fun z => absurd z (by decide)) (fun _ => ?_)
    refine lv_iconst (v := 0) hx hb dX9_replays_18 (by decide) ?_
    exact W.zret (v := 0) (ty := .boolean) hx hb hr (rfl) (fun t ht hW => ⟨⟨0, (), rfl, ⟨0, (Nat.le_of_ble_eq_true rfl), rfl, (congrArg Prod.fst (hsp.symm.trans hRR))⟩, ⟨q54, q55, q56, f57, q58, f59, f64, 0, 0, z46_2, x61, x62, x63, x65, x66, ⟨by rw [ht]; exact hP, va_K.moved hW.alike hK, hD⟩, (Nat.le_of_ble_eq_true rfl), (Nat.le_trans hz46_2 (Nat.le_of_ble_eq_true rfl)), hx61, hx62, hx63, hx65, (congrArg Prod.snd (hsp.symm.trans hRR))⟩⟩, hS.F ht⟩) hS.2.2 dX9_replays_19
theorem dX9_four_0 : decode cX9_four 0 = .ok (.bipush 24, 2) := by decide +kernel
theorem dX9_four_2 : decode cX9_four 2 = .ok (.istore_n 2, 1) := by decide +kernel
theorem dX9_four_3 : decode cX9_four 3 = .ok (.iload_n 2, 1) := by decide +kernel
theorem dX9_four_4 : decode cX9_four 4 = .ok (.ifCond .lt 35, 3) := by decide +kernel
theorem dX9_four_7 : decode cX9_four 7 = .ok (.aload_n 0, 1) := by decide +kernel
theorem dX9_four_8 : decode cX9_four 8 = .ok (.getfield 55, 3) := by decide +kernel
theorem dX9_four_11 : decode cX9_four 11 = .ok (.aload_n 0, 1) := by decide +kernel
theorem dX9_four_12 : decode cX9_four 12 = .ok (.getfield 145, 3) := by decide +kernel
theorem dX9_four_15 : decode cX9_four 15 = .ok (.iload_n 1, 1) := by decide +kernel
theorem dX9_four_16 : decode cX9_four 16 = .ok (.iload_n 2, 1) := by decide +kernel
theorem dX9_four_17 : decode cX9_four 17 = .ok (.ishr, 1) := by decide +kernel
theorem dX9_four_18 : decode cX9_four 18 = .ok (.sipush 255, 3) := by decide +kernel
theorem dX9_four_21 : decode cX9_four 21 = .ok (.iand, 1) := by decide +kernel
theorem dX9_four_22 : decode cX9_four 22 = .ok (.iastore, 1) := by decide +kernel
theorem dX9_four_23 : decode cX9_four 23 = .ok (.aload_n 0, 1) := by decide +kernel
theorem dX9_four_24 : decode cX9_four 24 = .ok (.dup, 1) := by decide +kernel
theorem dX9_four_25 : decode cX9_four 25 = .ok (.getfield 145, 3) := by decide +kernel
theorem dX9_four_28 : decode cX9_four 28 = .ok (.iconst 1, 1) := by decide +kernel
theorem dX9_four_29 : decode cX9_four 29 = .ok (.iadd, 1) := by decide +kernel
theorem dX9_four_30 : decode cX9_four 30 = .ok (.putfield 145, 3) := by decide +kernel
theorem dX9_four_33 : decode cX9_four 33 = .ok (.iinc 2 (-8), 3) := by decide +kernel
theorem dX9_four_36 : decode cX9_four 36 = .ok (.goto (-33), 3) := by decide +kernel
theorem dX9_four_39 : decode cX9_four 39 = .ok (.return_, 1) := by decide +kernel
abbrev vs_EM_four : List Cond := .code yX9_four cX9_four 3 none :: VM
noncomputable def sp_EM_four (x18 : Nat) (f17 : Nat → Int32) (p0 : Int32) : (Nat → Int32) := (slet ((p0 : Int32) >>> ((24 : Int32) &&& 31)) (fun y_1 => (slet ((y_1 : Int32) &&& (255 : Int32)) (fun y_2 => (slet (upd f17 x18 y_2) (fun f_3 => (slet ((p0 : Int32) >>> ((16 : Int32) &&& 31)) (fun y_5 => (slet ((y_5 : Int32) &&& (255 : Int32)) (fun y_6 => (slet (upd f_3 (x18 + 1) y_6) (fun f_7 => (slet ((p0 : Int32) >>> ((8 : Int32) &&& 31)) (fun y_9 => (slet ((y_9 : Int32) &&& (255 : Int32)) (fun y_10 => (slet (upd f_7 ((x18 + 1) + 1) y_10) (fun f_11 => (slet ((p0 : Int32) >>> ((0 : Int32) &&& 31)) (fun y_13 => (slet ((y_13 : Int32) &&& (255 : Int32)) (fun y_14 => (slet (upd f_11 (((x18 + 1) + 1) + 1) y_14) (fun f_15 => f_15))))))))))))))))))))))))
set_option maxHeartbeats 4000000 in
set_option maxRecDepth 100000 in
theorem c_EM_four (l : Launch) (dC : Nat → ClassId) (dI : Nat → Nat → Nat) (sz : Nat) (ad : Nat → Nat) (ck : Nat → ClassId) (x0 : Int32) (x16 : Nat) (x18 : Nat) (x19 : Nat) (x20 : Int32) (x21 : Nat) (x22 : Nat) (x23 : Int32) (x24 : Int32) (x25 : Int32) (x26 : Nat) (x27 : Int32) (x28 : Nat) (x29 : Nat) (x30 : Nat) (x33 : Nat) (x45 : Int32) (x46 : Nat) (x52 : Nat) (x53 : Nat) (x61 : Nat) (x62 : Nat) (x63 : Nat) (x65 : Nat) (x66 : Int32) (f1 : Nat → Int32) (f2 : Nat → Int32) (f3 : Nat → Int32) (q4 : Nat → Nat) (q5 : Nat → Nat) (q6 : Nat → Nat) (q7 : Nat → Nat) (f8 : Nat → Int32) (q9 : Nat → Nat) (q10 : Nat → Nat) (f11 : Nat → Int32) (m12_0 m12_1 : Nat) (m13_0 m13_1 : Nat) (m14_0 m14_1 : Nat) (m15_0 m15_1 : Nat) (f17 : Nat → Int32) (q31 : Nat → Nat) (f32 : Nat → Int32) (f34 : Nat → Int32) (f35 : Nat → Int32) (f36 : Nat → Int32) (f37 : Nat → Int32) (q38 : Nat → Nat) (f39 : Nat → Int32) (f40 : Nat → Int32) (f41 : Nat → Int32) (m42_0 m42_1 : Nat) (f43 : Nat → Int32) (f44 : Nat → Int32) (f47 : Nat → Int32) (f48 : Nat → Int32) (f49 : Nat → Int32) (f50 : Nat → Int32) (f51 : Nat → Int32) (q54 : Nat → Nat) (q55 : Nat → Nat) (q56 : Nat → Nat) (f57 : Nat → Int32) (q58 : Nat → Nat) (f59 : Nat → Int32) (f60 : Nat → Int32) (f64 : Nat → Int32) (p0 : Int32) (hx16 : x16 ≤ 1) (hx18 : x18 ≤ 896) (hx19 : x19 ≤ 900) (hx21 : x21 ≤ 900) (hx22 : x22 ≤ 4) (hx26 : x26 ≤ 6) (hx28 : x28 ≤ 1) (hx29 : x29 ≤ 1) (hx30 : x30 ≤ 1) (hx33 : x33 ≤ 20) (hx46 : x46 ≤ 5) (hx52 : x52 ≤ 2400) (hx53 : x53 ≤ 119) (hx61 : x61 ≤ 119) (hx62 : x62 ≤ 2000) (hx63 : x63 ≤ 1) (hx65 : x65 ≤ 7) (hm12_0 : m12_0 ≤ 3) (hm12_1 : m12_1 ≤ 3) (hm13_0 : m13_0 ≤ 8) (hm13_1 : m13_1 ≤ 8) (hm14_0 : m14_0 ≤ 14) (hm14_1 : m14_1 ≤ 14) (hm15_0 : m15_0 ≤ 8) (hm15_1 : m15_1 ≤ 8) (hm42_0 : m42_0 ≤ 120) (hm42_1 : m42_1 ≤ 400) : Met l yX9_four vs_EM_four ({ frames := 0, cells := 0, slots := 0, locals := 0 }) (va_Pc [.ref (ad 0), .int p0] (pu_B (dC, dI) (mo_w ad ck x0 (nI x16) (nI x18) (nI x19) x20 (nI x21) (nI x22) x23 x24 x25 (nI x26) x27 (nI x28) (nI x29) (nI x30) (nI x33) x45 (nI x46) (nI x52) (nI x53) (nI x61) (nI x62) (nI x63) (nI x65) x66 f1 f2 f3 (bN 3 q4) (bN 7 q5) (bN 7 q6) (bN 4 q7) f8 (bN 2 q9) (bH q10) f11 (b2 m12_0 m12_1) (b2 m13_0 m13_1) (b2 m14_0 m14_1) (b2m m15_0 m15_1) f17 (bA 159 q31) f32 f34 f35 f36 f37 (bN 7 q38) f39 f40 f41 (b2 m42_0 m42_1) f43 f44 f47 f48 f49 f50 f51 (bN 13 q54) (bN 120 q55) (bN 120 q56) f57 (bN 120 q58) f59 f60 f64) (mo_t ck) sz)) (va_Qv (fun (_ : Unit) => True) (fun _ t => ∃ (z17 : Nat → Int32), pu_E (dC, dI) (mo_w ad ck x0 (nI x16) (nI (x18 + 4)) (nI x19) x20 (nI x21) (nI x22) x23 x24 x25 (nI x26) x27 (nI x28) (nI x29) (nI x30) (nI x33) x45 (nI x46) (nI x52) (nI x53) (nI x61) (nI x62) (nI x63) (nI x65) x66 f1 f2 f3 (bN 3 q4) (bN 7 q5) (bN 7 q6) (bN 4 q7) f8 (bN 2 q9) (bH q10) f11 (b2 m12_0 m12_1) (b2 m13_0 m13_1) (b2 m14_0 m14_1) (b2m m15_0 m15_1) z17 (bA 159 q31) f32 f34 f35 f36 f37 (bN 7 q38) f39 f40 f41 (b2 m42_0 m42_1) f43 f44 f47 f48 f49 f50 f51 (bN 13 q54) (bN 120 q55) (bN 120 q56) f57 (bN 120 q58) f59 f60 f64) (mo_t ck) (va_A ((mo_w ad ck x0 (nI x16) (nI x18) (nI x19) x20 (nI x21) (nI x22) x23 x24 x25 (nI x26) x27 (nI x28) (nI x29) (nI x30) (nI x33) x45 (nI x46) (nI x52) (nI x53) (nI x61) (nI x62) (nI x63) (nI x65) x66 f1 f2 f3 (bN 3 q4) (bN 7 q5) (bN 7 q6) (bN 4 q7) f8 (bN 2 q9) (bH q10) f11 (b2 m12_0 m12_1) (b2 m13_0 m13_1) (b2 m14_0 m14_1) (b2m m15_0 m15_1) f17 (bA 159 q31) f32 f34 f35 f36 f37 (bN 7 q38) f39 f40 f41 (b2 m42_0 m42_1) f43 f44 f47 f48 f49 f50 f51 (bN 13 q54) (bN 120 q55) (bN 120 q56) f57 (bN 120 q58) f59 f60 f64)) sz) t ∧ (z17 = (sp_EM_four x18 f17 p0))) (va_A ((mo_w ad ck x0 (nI x16) (nI x18) (nI x19) x20 (nI x21) (nI x22) x23 x24 x25 (nI x26) x27 (nI x28) (nI x29) (nI x30) (nI x33) x45 (nI x46) (nI x52) (nI x53) (nI x61) (nI x62) (nI x63) (nI x65) x66 f1 f2 f3 (bN 3 q4) (bN 7 q5) (bN 7 q6) (bN 4 q7) f8 (bN 2 q9) (bH q10) f11 (b2 m12_0 m12_1) (b2 m13_0 m13_1) (b2 m14_0 m14_1) (b2m m15_0 m15_1) f17 (bA 159 q31) f32 f34 f35 f36 f37 (bN 7 q38) f39 f40 f41 (b2 m42_0 m42_1) f43 f44 f47 f48 f49 f50 f51 (bN 13 q54) (bN 120 q55) (bN 120 q56) f57 (bN 120 q58) f59 f60 f64)) sz)) 0 0 (va_A ((mo_w ad ck x0 (nI x16) (nI x18) (nI x19) x20 (nI x21) (nI x22) x23 x24 x25 (nI x26) x27 (nI x28) (nI x29) (nI x30) (nI x33) x45 (nI x46) (nI x52) (nI x53) (nI x61) (nI x62) (nI x63) (nI x65) x66 f1 f2 f3 (bN 3 q4) (bN 7 q5) (bN 7 q6) (bN 4 q7) f8 (bN 2 q9) (bH q10) f11 (b2 m12_0 m12_1) (b2 m13_0 m13_1) (b2 m14_0 m14_1) (b2m m15_0 m15_1) f17 (bA 159 q31) f32 f34 f35 f36 f37 (bN 7 q38) f39 f40 f41 (b2 m42_0 m42_1) f43 f44 f47 f48 f49 f50 f51 (bN 13 q54) (bN 120 q55) (bN 120 q56) f57 (bN 120 q58) f59 f60 f64)) sz) := by
  refine Met.ofW (cc := cX9_four) (maxL := 3) (ret := none) (by decide) rfl ?_
  intro p e s m args below meth c s₁ B hml hv
  obtain ⟨rfl, rfl, hP, hK, hD0⟩ := hv
  have hx := B.exec
  have hb := B.bytes
  have hr := B.returns
  have hts := atoms_spec (ws := vs_EM_four) B.pre
  have v_1 := hts (.fieldLink RX9 55 "ClockReachModel" "tape" "[I") (List.mem_cons_of_mem _ vm_48)
  have v_2 := hts (.fieldLink RX9 145 "ClockReachModel" "taped" "I") (List.mem_cons_of_mem _ vm_135)
  have hown : s.vm.findClass RX9 = some m.cls := findClass_of_methodNamed B.named
  have hlocks := B.notSynchronized
  have hiX9 : ∀ w ∈ wsX90, w ∈ vs_EM_four := fun _ h => List.mem_cons_of_mem _ (vmi_L h)
  have hD := hD0.self (sz := s.heap.size)
  generalize hAe : va_A ((mo_w ad ck x0 (nI x16) (nI x18) (nI x19) x20 (nI x21) (nI x22) x23 x24 x25 (nI x26) x27 (nI x28) (nI x29) (nI x30) (nI x33) x45 (nI x46) (nI x52) (nI x53) (nI x61) (nI x62) (nI x63) (nI x65) x66 f1 f2 f3 (bN 3 q4) (bN 7 q5) (bN 7 q6) (bN 4 q7) f8 (bN 2 q9) (bH q10) f11 (b2 m12_0 m12_1) (b2 m13_0 m13_1) (b2 m14_0 m14_1) (b2m m15_0 m15_1) f17 (bA 159 q31) f32 f34 f35 f36 f37 (bN 7 q38) f39 f40 f41 (b2 m42_0 m42_1) f43 f44 f47 f48 f49 f50 f51 (bN 13 q54) (bN 120 q55) (bN 120 q56) f57 (bN 120 q58) f59 f60 f64)) s.heap.size = A at hD ⊢
  have hA : ∀ q : Nat, s.heap.size ≤ q → A q := fun q h => by rw [← hAe]; exact Or.inr h
  have hS : va_S A s.heap s.heap [] := va_S.rf
  have hl := lv_entry ([.ref (ad 0), .int p0]) (n := 3) (Nat.le_of_ble_eq_true rfl)
  rw [lg_entry_eq]
  generalize (lg_sl ([.ref (ad 0), .int p0]) ++ List.replicate (3 - (lg_sl ([.ref (ad 0), .int p0])).length) Slot.unset).toArray = ls at hl ⊢
  have hl : lv_has ls 3 [(0, .ref (ad 0)), (1, .int p0)] := hl
  obtain ⟨RR, hRR⟩ : ∃ x, x = (sp_EM_four x18 f17 p0) := ⟨_, rfl⟩
  have hsp := hRR
  refine lv_bipush (v := 24) hx hb dX9_four_0 (by decide) ?_
  refine lv_istore_n (lv' := [(2, .int 24), (0, .ref (ad 0)), (1, .int p0)]) hx hb dX9_four_2 rfl hl (by decide) rfl (fun ls hl => ?_)
  refine lv_iload_n hx hb dX9_four_3 rfl (lv_at hl 0 rfl) ?_
  refine lv_if_lt (tgt := 39) hx hb dX9_four_4 (by decide) (fun z => absurd z (by decide)) (fun _ => ?_)
  refine lv_aload_n hx hb dX9_four_7 rfl (lv_at hl 1 rfl) ?_
  refine va_get (D := (dC, dI)) (ci := 9) (v := .ref (ad 17)) (C := RX9) (T := TX9) (N := 67) hx hb hts hiX9 hown hK hP 0 rfl rfl 17 (by decide) v_1 (fun _ h9 => h9) rfl dX9_four_8 ?_
  refine lv_aload_n hx hb dX9_four_11 rfl (lv_at hl 1 rfl) ?_
  refine va_get (D := (dC, dI)) (ci := 9) (v := .int (nI x18)) (C := RX9) (T := TX9) (N := 67) hx hb hts hiX9 hown hK hP 0 rfl rfl 18 (by decide) v_2 (fun _ h9 => h9) rfl dX9_four_12 ?_
  refine lv_iload_n hx hb dX9_four_15 rfl (lv_at hl 2 rfl) ?_
  refine lv_iload_n hx hb dX9_four_16 rfl (lv_at hl 0 rfl) ?_
  refine lv_ishr hx hb dX9_four_17 ?_
  refine lv_topi (fun y_1 ey_1 => ?_)
  replace hsp := hsp.trans (slet_eq ey_1)
  refine lv_sipush (v := 255) hx hb dX9_four_18 (by decide) ?_
  refine lv_iand hx hb dX9_four_21 ?_
  refine lv_topi (fun y_2 ey_2 => ?_)
  replace hsp := hsp.trans (slet_eq ey_2)
  refine va_iast hx hb hK hP hD hS 16 15 rfl rfl (vp_in_nI (n := x18) (Nat.lt_of_le_of_lt hx18 (Nat.le_of_ble_eq_true rfl)) (Nat.le_of_ble_eq_true rfl)) dX9_four_22 (fun H locs hP hD hS => ?_)
  obtain ⟨f_3, ef_3, xf_3⟩ := up_x f17 (n := x18) y_2 (Nat.lt_of_le_of_lt hx18 (Nat.le_of_ble_eq_true rfl))
  have hP : va_P (dC, dI) vwCl (mo_w ad ck x0 (nI x16) (nI x18) (nI x19) x20 (nI x21) (nI x22) x23 x24 x25 (nI x26) x27 (nI x28) (nI x29) (nI x30) (nI x33) x45 (nI x46) (nI x52) (nI x53) (nI x61) (nI x62) (nI x63) (nI x65) x66 f1 f2 f3 (bN 3 q4) (bN 7 q5) (bN 7 q6) (bN 4 q7) f8 (bN 2 q9) (bH q10) f11 (b2 m12_0 m12_1) (b2 m13_0 m13_1) (b2 m14_0 m14_1) (b2m m15_0 m15_1) f_3 (bA 159 q31) f32 f34 f35 f36 f37 (bN 7 q38) f39 f40 f41 (b2 m42_0 m42_1) f43 f44 f47 f48 f49 f50 f51 (bN 13 q54) (bN 120 q55) (bN 120 q56) f57 (bN 120 q58) f59 f60 f64) H := by rw [← ef_3]; exact hP
  have hD : va_D A (mo_w ad ck x0 (nI x16) (nI x18) (nI x19) x20 (nI x21) (nI x22) x23 x24 x25 (nI x26) x27 (nI x28) (nI x29) (nI x30) (nI x33) x45 (nI x46) (nI x52) (nI x53) (nI x61) (nI x62) (nI x63) (nI x65) x66 f1 f2 f3 (bN 3 q4) (bN 7 q5) (bN 7 q6) (bN 4 q7) f8 (bN 2 q9) (bH q10) f11 (b2 m12_0 m12_1) (b2 m13_0 m13_1) (b2 m14_0 m14_1) (b2m m15_0 m15_1) f_3 (bA 159 q31) f32 f34 f35 f36 f37 (bN 7 q38) f39 f40 f41 (b2 m42_0 m42_1) f43 f44 f47 f48 f49 f50 f51 (bN 13 q54) (bN 120 q55) (bN 120 q56) f57 (bN 120 q58) f59 f60 f64) := by rw [← ef_3]; exact hD
  replace hsp := hsp.trans (slet_eq xf_3)
  refine lv_aload_n hx hb dX9_four_23 rfl (lv_at hl 1 rfl) ?_
  refine lv_dup hx hb dX9_four_24 rfl ?_
  refine va_get (D := (dC, dI)) (ci := 9) (v := .int (nI x18)) (C := RX9) (T := TX9) (N := 67) hx hb hts hiX9 hown hK hP 0 rfl rfl 18 (by decide) v_2 (fun _ h9 => h9) rfl dX9_four_25 ?_
  refine lv_iconst (v := 1) hx hb dX9_four_28 (by decide) ?_
  refine lv_iadd hx hb dX9_four_29 ?_
  refine lv_topi (fun y_4 ey_4 => ?_)
  obtain rfl : y_4 = (nI (x18 + 1)) := ey_4.trans (nI_add x18 1)
  refine va_put (D := (dC, dI)) (ci := 9) (v := .int (nI (x18 + 1))) (ty := .int) (C := RX9) (T := TX9) (N := 67) hx hb hts hiX9 tyX9 tyX9_ok nmX9 hown hK hP hD hS 0 rfl rfl 18 (by decide) v_2 (fun _ h9 => h9) rfl (by decide +kernel) rfl rfl (Nat.le_of_ble_eq_true rfl) dX9_four_30 (fun H locs hP hD hS => ?_)
  have hP : va_P (dC, dI) vwCl (mo_w ad ck x0 (nI x16) (nI (x18 + 1)) (nI x19) x20 (nI x21) (nI x22) x23 x24 x25 (nI x26) x27 (nI x28) (nI x29) (nI x30) (nI x33) x45 (nI x46) (nI x52) (nI x53) (nI x61) (nI x62) (nI x63) (nI x65) x66 f1 f2 f3 (bN 3 q4) (bN 7 q5) (bN 7 q6) (bN 4 q7) f8 (bN 2 q9) (bH q10) f11 (b2 m12_0 m12_1) (b2 m13_0 m13_1) (b2 m14_0 m14_1) (b2m m15_0 m15_1) f_3 (bA 159 q31) f32 f34 f35 f36 f37 (bN 7 q38) f39 f40 f41 (b2 m42_0 m42_1) f43 f44 f47 f48 f49 f50 f51 (bN 13 q54) (bN 120 q55) (bN 120 q56) f57 (bN 120 q58) f59 f60 f64) H := hP
  have hD : va_D A (mo_w ad ck x0 (nI x16) (nI (x18 + 1)) (nI x19) x20 (nI x21) (nI x22) x23 x24 x25 (nI x26) x27 (nI x28) (nI x29) (nI x30) (nI x33) x45 (nI x46) (nI x52) (nI x53) (nI x61) (nI x62) (nI x63) (nI x65) x66 f1 f2 f3 (bN 3 q4) (bN 7 q5) (bN 7 q6) (bN 4 q7) f8 (bN 2 q9) (bH q10) f11 (b2 m12_0 m12_1) (b2 m13_0 m13_1) (b2 m14_0 m14_1) (b2m m15_0 m15_1) f_3 (bA 159 q31) f32 f34 f35 f36 f37 (bN 7 q38) f39 f40 f41 (b2 m42_0 m42_1) f43 f44 f47 f48 f49 f50 f51 (bN 13 q54) (bN 120 q55) (bN 120 q56) f57 (bN 120 q58) f59 f60 f64) := hD
  refine lv_iinc (v := 16) (lv' := [(2, .int 16), (0, .ref (ad 0)), (1, .int p0)]) hx hb dX9_four_33 hl (k := 0) rfl (by decide) (by decide) rfl (fun ls hl => ?_)
  refine lv_goto (tgt := 3) hx hb dX9_four_36 (by decide) ?_
  refine lv_iload_n hx hb dX9_four_3 rfl (lv_at hl 0 rfl) ?_
  refine lv_if_lt (tgt := 39) hx hb dX9_four_4 (by decide) (fun z => absurd z (by decide)) (fun _ => ?_)
  refine lv_aload_n hx hb dX9_four_7 rfl (lv_at hl 1 rfl) ?_
  refine va_get (D := (dC, dI)) (ci := 9) (v := .ref (ad 17)) (C := RX9) (T := TX9) (N := 67) hx hb hts hiX9 hown hK hP 0 rfl rfl 17 (by decide) v_1 (fun _ h9 => h9) rfl dX9_four_8 ?_
  refine lv_aload_n hx hb dX9_four_11 rfl (lv_at hl 1 rfl) ?_
  refine va_get (D := (dC, dI)) (ci := 9) (v := .int (nI (x18 + 1))) (C := RX9) (T := TX9) (N := 67) hx hb hts hiX9 hown hK hP 0 rfl rfl 18 (by decide) v_2 (fun _ h9 => h9) rfl dX9_four_12 ?_
  refine lv_iload_n hx hb dX9_four_15 rfl (lv_at hl 2 rfl) ?_
  refine lv_iload_n hx hb dX9_four_16 rfl (lv_at hl 0 rfl) ?_
  refine lv_ishr hx hb dX9_four_17 ?_
  refine lv_topi (fun y_5 ey_5 => ?_)
  replace hsp := hsp.trans (slet_eq ey_5)
  refine lv_sipush (v := 255) hx hb dX9_four_18 (by decide) ?_
  refine lv_iand hx hb dX9_four_21 ?_
  refine lv_topi (fun y_6 ey_6 => ?_)
  replace hsp := hsp.trans (slet_eq ey_6)
  refine va_iast hx hb hK hP hD hS 16 15 rfl rfl (vp_in_nI (n := (x18 + 1)) (by omega) (Nat.le_of_ble_eq_true rfl)) dX9_four_22 (fun H locs hP hD hS => ?_)
  obtain ⟨f_7, ef_7, xf_7⟩ := up_x f_3 (n := (x18 + 1)) y_6 (by omega)
  have hP : va_P (dC, dI) vwCl (mo_w ad ck x0 (nI x16) (nI (x18 + 1)) (nI x19) x20 (nI x21) (nI x22) x23 x24 x25 (nI x26) x27 (nI x28) (nI x29) (nI x30) (nI x33) x45 (nI x46) (nI x52) (nI x53) (nI x61) (nI x62) (nI x63) (nI x65) x66 f1 f2 f3 (bN 3 q4) (bN 7 q5) (bN 7 q6) (bN 4 q7) f8 (bN 2 q9) (bH q10) f11 (b2 m12_0 m12_1) (b2 m13_0 m13_1) (b2 m14_0 m14_1) (b2m m15_0 m15_1) f_7 (bA 159 q31) f32 f34 f35 f36 f37 (bN 7 q38) f39 f40 f41 (b2 m42_0 m42_1) f43 f44 f47 f48 f49 f50 f51 (bN 13 q54) (bN 120 q55) (bN 120 q56) f57 (bN 120 q58) f59 f60 f64) H := by rw [← ef_7]; exact hP
  have hD : va_D A (mo_w ad ck x0 (nI x16) (nI (x18 + 1)) (nI x19) x20 (nI x21) (nI x22) x23 x24 x25 (nI x26) x27 (nI x28) (nI x29) (nI x30) (nI x33) x45 (nI x46) (nI x52) (nI x53) (nI x61) (nI x62) (nI x63) (nI x65) x66 f1 f2 f3 (bN 3 q4) (bN 7 q5) (bN 7 q6) (bN 4 q7) f8 (bN 2 q9) (bH q10) f11 (b2 m12_0 m12_1) (b2 m13_0 m13_1) (b2 m14_0 m14_1) (b2m m15_0 m15_1) f_7 (bA 159 q31) f32 f34 f35 f36 f37 (bN 7 q38) f39 f40 f41 (b2 m42_0 m42_1) f43 f44 f47 f48 f49 f50 f51 (bN 13 q54) (bN 120 q55) (bN 120 q56) f57 (bN 120 q58) f59 f60 f64) := by rw [← ef_7]; exact hD
  replace hsp := hsp.trans (slet_eq xf_7)
  refine lv_aload_n hx hb dX9_four_23 rfl (lv_at hl 1 rfl) ?_
  refine lv_dup hx hb dX9_four_24 rfl ?_
  refine va_get (D := (dC, dI)) (ci := 9) (v := .int (nI (x18 + 1))) (C := RX9) (T := TX9) (N := 67) hx hb hts hiX9 hown hK hP 0 rfl rfl 18 (by decide) v_2 (fun _ h9 => h9) rfl dX9_four_25 ?_
  refine lv_iconst (v := 1) hx hb dX9_four_28 (by decide) ?_
  refine lv_iadd hx hb dX9_four_29 ?_
  refine lv_topi (fun y_8 ey_8 => ?_)
  obtain rfl : y_8 = (nI ((x18 + 1) + 1)) := ey_8.trans (nI_add (x18 + 1) 1)
  refine va_put (D := (dC, dI)) (ci := 9) (v := .int (nI ((x18 + 1) + 1))) (ty := .int) (C := RX9) (T := TX9) (N := 67) hx hb hts hiX9 tyX9 tyX9_ok nmX9 hown hK hP hD hS 0 rfl rfl 18 (by decide) v_2 (fun _ h9 => h9) rfl (by decide +kernel) rfl rfl (Nat.le_of_ble_eq_true rfl) dX9_four_30 (fun H locs hP hD hS => ?_)
  have hP : va_P (dC, dI) vwCl (mo_w ad ck x0 (nI x16) (nI ((x18 + 1) + 1)) (nI x19) x20 (nI x21) (nI x22) x23 x24 x25 (nI x26) x27 (nI x28) (nI x29) (nI x30) (nI x33) x45 (nI x46) (nI x52) (nI x53) (nI x61) (nI x62) (nI x63) (nI x65) x66 f1 f2 f3 (bN 3 q4) (bN 7 q5) (bN 7 q6) (bN 4 q7) f8 (bN 2 q9) (bH q10) f11 (b2 m12_0 m12_1) (b2 m13_0 m13_1) (b2 m14_0 m14_1) (b2m m15_0 m15_1) f_7 (bA 159 q31) f32 f34 f35 f36 f37 (bN 7 q38) f39 f40 f41 (b2 m42_0 m42_1) f43 f44 f47 f48 f49 f50 f51 (bN 13 q54) (bN 120 q55) (bN 120 q56) f57 (bN 120 q58) f59 f60 f64) H := hP
  have hD : va_D A (mo_w ad ck x0 (nI x16) (nI ((x18 + 1) + 1)) (nI x19) x20 (nI x21) (nI x22) x23 x24 x25 (nI x26) x27 (nI x28) (nI x29) (nI x30) (nI x33) x45 (nI x46) (nI x52) (nI x53) (nI x61) (nI x62) (nI x63) (nI x65) x66 f1 f2 f3 (bN 3 q4) (bN 7 q5) (bN 7 q6) (bN 4 q7) f8 (bN 2 q9) (bH q10) f11 (b2 m12_0 m12_1) (b2 m13_0 m13_1) (b2 m14_0 m14_1) (b2m m15_0 m15_1) f_7 (bA 159 q31) f32 f34 f35 f36 f37 (bN 7 q38) f39 f40 f41 (b2 m42_0 m42_1) f43 f44 f47 f48 f49 f50 f51 (bN 13 q54) (bN 120 q55) (bN 120 q56) f57 (bN 120 q58) f59 f60 f64) := hD
  refine lv_iinc (v := 8) (lv' := [(2, .int 8), (0, .ref (ad 0)), (1, .int p0)]) hx hb dX9_four_33 hl (k := 0) rfl (by decide) (by decide) rfl (fun ls hl => ?_)
  refine lv_goto (tgt := 3) hx hb dX9_four_36 (by decide) ?_
  refine lv_iload_n hx hb dX9_four_3 rfl (lv_at hl 0 rfl) ?_
  refine lv_if_lt (tgt := 39) hx hb dX9_four_4 (by decide) (fun z => absurd z (by decide)) (fun _ => ?_)
  refine lv_aload_n hx hb dX9_four_7 rfl (lv_at hl 1 rfl) ?_
  refine va_get (D := (dC, dI)) (ci := 9) (v := .ref (ad 17)) (C := RX9) (T := TX9) (N := 67) hx hb hts hiX9 hown hK hP 0 rfl rfl 17 (by decide) v_1 (fun _ h9 => h9) rfl dX9_four_8 ?_
  refine lv_aload_n hx hb dX9_four_11 rfl (lv_at hl 1 rfl) ?_
  refine va_get (D := (dC, dI)) (ci := 9) (v := .int (nI ((x18 + 1) + 1))) (C := RX9) (T := TX9) (N := 67) hx hb hts hiX9 hown hK hP 0 rfl rfl 18 (by decide) v_2 (fun _ h9 => h9) rfl dX9_four_12 ?_
  refine lv_iload_n hx hb dX9_four_15 rfl (lv_at hl 2 rfl) ?_
  refine lv_iload_n hx hb dX9_four_16 rfl (lv_at hl 0 rfl) ?_
  refine lv_ishr hx hb dX9_four_17 ?_
  refine lv_topi (fun y_9 ey_9 => ?_)
  replace hsp := hsp.trans (slet_eq ey_9)
  refine lv_sipush (v := 255) hx hb dX9_four_18 (by decide) ?_
  refine lv_iand hx hb dX9_four_21 ?_
  refine lv_topi (fun y_10 ey_10 => ?_)
  replace hsp := hsp.trans (slet_eq ey_10)
  refine va_iast hx hb hK hP hD hS 16 15 rfl rfl (vp_in_nI (n := ((x18 + 1) + 1)) (by omega) (Nat.le_of_ble_eq_true rfl)) dX9_four_22 (fun H locs hP hD hS => ?_)
  obtain ⟨f_11, ef_11, xf_11⟩ := up_x f_7 (n := ((x18 + 1) + 1)) y_10 (by omega)
  have hP : va_P (dC, dI) vwCl (mo_w ad ck x0 (nI x16) (nI ((x18 + 1) + 1)) (nI x19) x20 (nI x21) (nI x22) x23 x24 x25 (nI x26) x27 (nI x28) (nI x29) (nI x30) (nI x33) x45 (nI x46) (nI x52) (nI x53) (nI x61) (nI x62) (nI x63) (nI x65) x66 f1 f2 f3 (bN 3 q4) (bN 7 q5) (bN 7 q6) (bN 4 q7) f8 (bN 2 q9) (bH q10) f11 (b2 m12_0 m12_1) (b2 m13_0 m13_1) (b2 m14_0 m14_1) (b2m m15_0 m15_1) f_11 (bA 159 q31) f32 f34 f35 f36 f37 (bN 7 q38) f39 f40 f41 (b2 m42_0 m42_1) f43 f44 f47 f48 f49 f50 f51 (bN 13 q54) (bN 120 q55) (bN 120 q56) f57 (bN 120 q58) f59 f60 f64) H := by rw [← ef_11]; exact hP
  have hD : va_D A (mo_w ad ck x0 (nI x16) (nI ((x18 + 1) + 1)) (nI x19) x20 (nI x21) (nI x22) x23 x24 x25 (nI x26) x27 (nI x28) (nI x29) (nI x30) (nI x33) x45 (nI x46) (nI x52) (nI x53) (nI x61) (nI x62) (nI x63) (nI x65) x66 f1 f2 f3 (bN 3 q4) (bN 7 q5) (bN 7 q6) (bN 4 q7) f8 (bN 2 q9) (bH q10) f11 (b2 m12_0 m12_1) (b2 m13_0 m13_1) (b2 m14_0 m14_1) (b2m m15_0 m15_1) f_11 (bA 159 q31) f32 f34 f35 f36 f37 (bN 7 q38) f39 f40 f41 (b2 m42_0 m42_1) f43 f44 f47 f48 f49 f50 f51 (bN 13 q54) (bN 120 q55) (bN 120 q56) f57 (bN 120 q58) f59 f60 f64) := by rw [← ef_11]; exact hD
  replace hsp := hsp.trans (slet_eq xf_11)
  refine lv_aload_n hx hb dX9_four_23 rfl (lv_at hl 1 rfl) ?_
  refine lv_dup hx hb dX9_four_24 rfl ?_
  refine va_get (D := (dC, dI)) (ci := 9) (v := .int (nI ((x18 + 1) + 1))) (C := RX9) (T := TX9) (N := 67) hx hb hts hiX9 hown hK hP 0 rfl rfl 18 (by decide) v_2 (fun _ h9 => h9) rfl dX9_four_25 ?_
  refine lv_iconst (v := 1) hx hb dX9_four_28 (by decide) ?_
  refine lv_iadd hx hb dX9_four_29 ?_
  refine lv_topi (fun y_12 ey_12 => ?_)
  obtain rfl : y_12 = (nI (((x18 + 1) + 1) + 1)) := ey_12.trans (nI_add ((x18 + 1) + 1) 1)
  refine va_put (D := (dC, dI)) (ci := 9) (v := .int (nI (((x18 + 1) + 1) + 1))) (ty := .int) (C := RX9) (T := TX9) (N := 67) hx hb hts hiX9 tyX9 tyX9_ok nmX9 hown hK hP hD hS 0 rfl rfl 18 (by decide) v_2 (fun _ h9 => h9) rfl (by decide +kernel) rfl rfl (Nat.le_of_ble_eq_true rfl) dX9_four_30 (fun H locs hP hD hS => ?_)
  have hP : va_P (dC, dI) vwCl (mo_w ad ck x0 (nI x16) (nI (((x18 + 1) + 1) + 1)) (nI x19) x20 (nI x21) (nI x22) x23 x24 x25 (nI x26) x27 (nI x28) (nI x29) (nI x30) (nI x33) x45 (nI x46) (nI x52) (nI x53) (nI x61) (nI x62) (nI x63) (nI x65) x66 f1 f2 f3 (bN 3 q4) (bN 7 q5) (bN 7 q6) (bN 4 q7) f8 (bN 2 q9) (bH q10) f11 (b2 m12_0 m12_1) (b2 m13_0 m13_1) (b2 m14_0 m14_1) (b2m m15_0 m15_1) f_11 (bA 159 q31) f32 f34 f35 f36 f37 (bN 7 q38) f39 f40 f41 (b2 m42_0 m42_1) f43 f44 f47 f48 f49 f50 f51 (bN 13 q54) (bN 120 q55) (bN 120 q56) f57 (bN 120 q58) f59 f60 f64) H := hP
  have hD : va_D A (mo_w ad ck x0 (nI x16) (nI (((x18 + 1) + 1) + 1)) (nI x19) x20 (nI x21) (nI x22) x23 x24 x25 (nI x26) x27 (nI x28) (nI x29) (nI x30) (nI x33) x45 (nI x46) (nI x52) (nI x53) (nI x61) (nI x62) (nI x63) (nI x65) x66 f1 f2 f3 (bN 3 q4) (bN 7 q5) (bN 7 q6) (bN 4 q7) f8 (bN 2 q9) (bH q10) f11 (b2 m12_0 m12_1) (b2 m13_0 m13_1) (b2 m14_0 m14_1) (b2m m15_0 m15_1) f_11 (bA 159 q31) f32 f34 f35 f36 f37 (bN 7 q38) f39 f40 f41 (b2 m42_0 m42_1) f43 f44 f47 f48 f49 f50 f51 (bN 13 q54) (bN 120 q55) (bN 120 q56) f57 (bN 120 q58) f59 f60 f64) := hD
  refine lv_iinc (v := 0) (lv' := [(2, .int 0), (0, .ref (ad 0)), (1, .int p0)]) hx hb dX9_four_33 hl (k := 0) rfl (by decide) (by decide) rfl (fun ls hl => ?_)
  refine lv_goto (tgt := 3) hx hb dX9_four_36 (by decide) ?_
  refine lv_iload_n hx hb dX9_four_3 rfl (lv_at hl 0 rfl) ?_
  refine lv_if_lt (tgt := 39) hx hb dX9_four_4 (by decide) (fun z => absurd z (by decide)) (fun _ => ?_)
  refine lv_aload_n hx hb dX9_four_7 rfl (lv_at hl 1 rfl) ?_
  refine va_get (D := (dC, dI)) (ci := 9) (v := .ref (ad 17)) (C := RX9) (T := TX9) (N := 67) hx hb hts hiX9 hown hK hP 0 rfl rfl 17 (by decide) v_1 (fun _ h9 => h9) rfl dX9_four_8 ?_
  refine lv_aload_n hx hb dX9_four_11 rfl (lv_at hl 1 rfl) ?_
  refine va_get (D := (dC, dI)) (ci := 9) (v := .int (nI (((x18 + 1) + 1) + 1))) (C := RX9) (T := TX9) (N := 67) hx hb hts hiX9 hown hK hP 0 rfl rfl 18 (by decide) v_2 (fun _ h9 => h9) rfl dX9_four_12 ?_
  refine lv_iload_n hx hb dX9_four_15 rfl (lv_at hl 2 rfl) ?_
  refine lv_iload_n hx hb dX9_four_16 rfl (lv_at hl 0 rfl) ?_
  refine lv_ishr hx hb dX9_four_17 ?_
  refine lv_topi (fun y_13 ey_13 => ?_)
  replace hsp := hsp.trans (slet_eq ey_13)
  refine lv_sipush (v := 255) hx hb dX9_four_18 (by decide) ?_
  refine lv_iand hx hb dX9_four_21 ?_
  refine lv_topi (fun y_14 ey_14 => ?_)
  replace hsp := hsp.trans (slet_eq ey_14)
  refine va_iast hx hb hK hP hD hS 16 15 rfl rfl (vp_in_nI (n := (((x18 + 1) + 1) + 1)) (by omega) (Nat.le_of_ble_eq_true rfl)) dX9_four_22 (fun H locs hP hD hS => ?_)
  obtain ⟨f_15, ef_15, xf_15⟩ := up_x f_11 (n := (((x18 + 1) + 1) + 1)) y_14 (by omega)
  have hP : va_P (dC, dI) vwCl (mo_w ad ck x0 (nI x16) (nI (((x18 + 1) + 1) + 1)) (nI x19) x20 (nI x21) (nI x22) x23 x24 x25 (nI x26) x27 (nI x28) (nI x29) (nI x30) (nI x33) x45 (nI x46) (nI x52) (nI x53) (nI x61) (nI x62) (nI x63) (nI x65) x66 f1 f2 f3 (bN 3 q4) (bN 7 q5) (bN 7 q6) (bN 4 q7) f8 (bN 2 q9) (bH q10) f11 (b2 m12_0 m12_1) (b2 m13_0 m13_1) (b2 m14_0 m14_1) (b2m m15_0 m15_1) f_15 (bA 159 q31) f32 f34 f35 f36 f37 (bN 7 q38) f39 f40 f41 (b2 m42_0 m42_1) f43 f44 f47 f48 f49 f50 f51 (bN 13 q54) (bN 120 q55) (bN 120 q56) f57 (bN 120 q58) f59 f60 f64) H := by rw [← ef_15]; exact hP
  have hD : va_D A (mo_w ad ck x0 (nI x16) (nI (((x18 + 1) + 1) + 1)) (nI x19) x20 (nI x21) (nI x22) x23 x24 x25 (nI x26) x27 (nI x28) (nI x29) (nI x30) (nI x33) x45 (nI x46) (nI x52) (nI x53) (nI x61) (nI x62) (nI x63) (nI x65) x66 f1 f2 f3 (bN 3 q4) (bN 7 q5) (bN 7 q6) (bN 4 q7) f8 (bN 2 q9) (bH q10) f11 (b2 m12_0 m12_1) (b2 m13_0 m13_1) (b2 m14_0 m14_1) (b2m m15_0 m15_1) f_15 (bA 159 q31) f32 f34 f35 f36 f37 (bN 7 q38) f39 f40 f41 (b2 m42_0 m42_1) f43 f44 f47 f48 f49 f50 f51 (bN 13 q54) (bN 120 q55) (bN 120 q56) f57 (bN 120 q58) f59 f60 f64) := by rw [← ef_15]; exact hD
  replace hsp := hsp.trans (slet_eq xf_15)
  refine lv_aload_n hx hb dX9_four_23 rfl (lv_at hl 1 rfl) ?_
  refine lv_dup hx hb dX9_four_24 rfl ?_
  refine va_get (D := (dC, dI)) (ci := 9) (v := .int (nI (((x18 + 1) + 1) + 1))) (C := RX9) (T := TX9) (N := 67) hx hb hts hiX9 hown hK hP 0 rfl rfl 18 (by decide) v_2 (fun _ h9 => h9) rfl dX9_four_25 ?_
  refine lv_iconst (v := 1) hx hb dX9_four_28 (by decide) ?_
  refine lv_iadd hx hb dX9_four_29 ?_
  refine lv_topi (fun y_16 ey_16 => ?_)
  obtain rfl : y_16 = (nI ((((x18 + 1) + 1) + 1) + 1)) := ey_16.trans (nI_add (((x18 + 1) + 1) + 1) 1)
  refine va_put (D := (dC, dI)) (ci := 9) (v := .int (nI ((((x18 + 1) + 1) + 1) + 1))) (ty := .int) (C := RX9) (T := TX9) (N := 67) hx hb hts hiX9 tyX9 tyX9_ok nmX9 hown hK hP hD hS 0 rfl rfl 18 (by decide) v_2 (fun _ h9 => h9) rfl (by decide +kernel) rfl rfl (Nat.le_of_ble_eq_true rfl) dX9_four_30 (fun H locs hP hD hS => ?_)
  have hP : va_P (dC, dI) vwCl (mo_w ad ck x0 (nI x16) (nI ((((x18 + 1) + 1) + 1) + 1)) (nI x19) x20 (nI x21) (nI x22) x23 x24 x25 (nI x26) x27 (nI x28) (nI x29) (nI x30) (nI x33) x45 (nI x46) (nI x52) (nI x53) (nI x61) (nI x62) (nI x63) (nI x65) x66 f1 f2 f3 (bN 3 q4) (bN 7 q5) (bN 7 q6) (bN 4 q7) f8 (bN 2 q9) (bH q10) f11 (b2 m12_0 m12_1) (b2 m13_0 m13_1) (b2 m14_0 m14_1) (b2m m15_0 m15_1) f_15 (bA 159 q31) f32 f34 f35 f36 f37 (bN 7 q38) f39 f40 f41 (b2 m42_0 m42_1) f43 f44 f47 f48 f49 f50 f51 (bN 13 q54) (bN 120 q55) (bN 120 q56) f57 (bN 120 q58) f59 f60 f64) H := hP
  have hD : va_D A (mo_w ad ck x0 (nI x16) (nI ((((x18 + 1) + 1) + 1) + 1)) (nI x19) x20 (nI x21) (nI x22) x23 x24 x25 (nI x26) x27 (nI x28) (nI x29) (nI x30) (nI x33) x45 (nI x46) (nI x52) (nI x53) (nI x61) (nI x62) (nI x63) (nI x65) x66 f1 f2 f3 (bN 3 q4) (bN 7 q5) (bN 7 q6) (bN 4 q7) f8 (bN 2 q9) (bH q10) f11 (b2 m12_0 m12_1) (b2 m13_0 m13_1) (b2 m14_0 m14_1) (b2m m15_0 m15_1) f_15 (bA 159 q31) f32 f34 f35 f36 f37 (bN 7 q38) f39 f40 f41 (b2 m42_0 m42_1) f43 f44 f47 f48 f49 f50 f51 (bN 13 q54) (bN 120 q55) (bN 120 q56) f57 (bN 120 q58) f59 f60 f64) := hD
  refine lv_iinc (v := (-8)) (lv' := [(2, .int (-8)), (0, .ref (ad 0)), (1, .int p0)]) hx hb dX9_four_33 hl (k := 0) rfl (by decide) (by decide) rfl (fun ls hl => ?_)
  refine lv_goto (tgt := 3) hx hb dX9_four_36 (by decide) ?_
  refine lv_iload_n hx hb dX9_four_3 rfl (lv_at hl 0 rfl) ?_
  refine lv_if_lt (tgt := 39) hx hb dX9_four_4 (by decide) (fun _ => ?_) (fun z => absurd z (by decide))
  exact W.vret hx hb hr (fun t ht hW => ⟨⟨(), rfl, trivial, ⟨f_15, ⟨by rw [ht]; exact hP, va_K.moved hW.alike hK, hD⟩, (hsp.symm.trans hRR)⟩⟩, hS.F ht⟩) hS.2.2 dX9_four_39
