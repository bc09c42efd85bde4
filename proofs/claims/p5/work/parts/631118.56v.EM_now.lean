theorem dX9_now_0 : decode cX9_now 0 = .ok (.aload_n 0, 1) := by decide +kernel
theorem dX9_now_1 : decode cX9_now 1 = .ok (.iconst 0, 1) := by decide +kernel
theorem dX9_now_2 : decode cX9_now 2 = .ok (.putfield 142, 3) := by decide +kernel
theorem dX9_now_5 : decode cX9_now 5 = .ok (.aload_n 0, 1) := by decide +kernel
theorem dX9_now_6 : decode cX9_now 6 = .ok (.getfield 277, 3) := by decide +kernel
theorem dX9_now_9 : decode cX9_now 9 = .ok (.ifCond .eq 12, 3) := by decide +kernel
theorem dX9_now_12 : decode cX9_now 12 = .ok (.iload_n 1, 1) := by decide +kernel
theorem dX9_now_13 : decode cX9_now 13 = .ok (.iconst 0, 1) := by decide +kernel
theorem dX9_now_14 : decode cX9_now 14 = .ok (.iconst 3, 1) := by decide +kernel
theorem dX9_now_15 : decode cX9_now 15 = .ok (.invokestatic 152, 3) := by decide +kernel
theorem dX9_now_18 : decode cX9_now 18 = .ok (.ifCond .ne 5, 3) := by decide +kernel
theorem dX9_now_21 : decode cX9_now 21 = .ok (.iconst (-1), 1) := by decide +kernel
theorem dX9_now_22 : decode cX9_now 22 = .ok (.ireturn, 1) := by decide +kernel
theorem dX9_now_23 : decode cX9_now 23 = .ok (.iconst 0, 1) := by decide +kernel
theorem dX9_now_24 : decode cX9_now 24 = .ok (.istore_n 2, 1) := by decide +kernel
theorem dX9_now_25 : decode cX9_now 25 = .ok (.iconst 0, 1) := by decide +kernel
theorem dX9_now_26 : decode cX9_now 26 = .ok (.istore_n 3, 1) := by decide +kernel
theorem dX9_now_27 : decode cX9_now 27 = .ok (.iload_n 3, 1) := by decide +kernel
theorem dX9_now_28 : decode cX9_now 28 = .ok (.aload_n 0, 1) := by decide +kernel
theorem dX9_now_29 : decode cX9_now 29 = .ok (.getfield 49, 3) := by decide +kernel
theorem dX9_now_32 : decode cX9_now 32 = .ok (.aload_n 0, 1) := by decide +kernel
theorem dX9_now_33 : decode cX9_now 33 = .ok (.getfield 258, 3) := by decide +kernel
theorem dX9_now_36 : decode cX9_now 36 = .ok (.iaload, 1) := by decide +kernel
theorem dX9_now_37 : decode cX9_now 37 = .ok (.if_icmp .ge 27, 3) := by decide +kernel
theorem dX9_now_40 : decode cX9_now 40 = .ok (.iload_n 2, 1) := by decide +kernel
theorem dX9_now_41 : decode cX9_now 41 = .ok (.aload_n 0, 1) := by decide +kernel
theorem dX9_now_42 : decode cX9_now 42 = .ok (.iload_n 3, 1) := by decide +kernel
theorem dX9_now_43 : decode cX9_now 43 = .ok (.invokevirtual 484, 3) := by decide +kernel
theorem dX9_now_46 : decode cX9_now 46 = .ok (.ifCond .eq 9, 3) := by decide +kernel
theorem dX9_now_49 : decode cX9_now 49 = .ok (.iconst 1, 1) := by decide +kernel
theorem dX9_now_50 : decode cX9_now 50 = .ok (.iload_n 3, 1) := by decide +kernel
theorem dX9_now_51 : decode cX9_now 51 = .ok (.ishl, 1) := by decide +kernel
theorem dX9_now_52 : decode cX9_now 52 = .ok (.goto 4, 3) := by decide +kernel
theorem dX9_now_55 : decode cX9_now 55 = .ok (.iconst 0, 1) := by decide +kernel
theorem dX9_now_56 : decode cX9_now 56 = .ok (.ior, 1) := by decide +kernel
theorem dX9_now_57 : decode cX9_now 57 = .ok (.istore_n 2, 1) := by decide +kernel
theorem dX9_now_58 : decode cX9_now 58 = .ok (.iinc 3 1, 3) := by decide +kernel
theorem dX9_now_61 : decode cX9_now 61 = .ok (.goto (-34), 3) := by decide +kernel
theorem dX9_now_64 : decode cX9_now 64 = .ok (.iload_n 1, 1) := by decide +kernel
theorem dX9_now_65 : decode cX9_now 65 = .ok (.ifCond .ne 10, 3) := by decide +kernel
theorem dX9_now_68 : decode cX9_now 68 = .ok (.aload_n 0, 1) := by decide +kernel
theorem dX9_now_69 : decode cX9_now 69 = .ok (.getfield 466, 3) := by decide +kernel
theorem dX9_now_72 : decode cX9_now 72 = .ok (.goto 28, 3) := by decide +kernel
theorem dX9_now_75 : decode cX9_now 75 = .ok (.iload_n 1, 1) := by decide +kernel
theorem dX9_now_76 : decode cX9_now 76 = .ok (.iconst 1, 1) := by decide +kernel
theorem dX9_now_77 : decode cX9_now 77 = .ok (.if_icmp .ne 10, 3) := by decide +kernel
theorem dX9_now_80 : decode cX9_now 80 = .ok (.aload_n 0, 1) := by decide +kernel
theorem dX9_now_81 : decode cX9_now 81 = .ok (.getfield 469, 3) := by decide +kernel
theorem dX9_now_84 : decode cX9_now 84 = .ok (.goto 16, 3) := by decide +kernel
theorem dX9_now_87 : decode cX9_now 87 = .ok (.iload_n 1, 1) := by decide +kernel
theorem dX9_now_88 : decode cX9_now 88 = .ok (.iconst 2, 1) := by decide +kernel
theorem dX9_now_89 : decode cX9_now 89 = .ok (.if_icmp .ne 7, 3) := by decide +kernel
theorem dX9_now_92 : decode cX9_now 92 = .ok (.iload_n 2, 1) := by decide +kernel
theorem dX9_now_93 : decode cX9_now 93 = .ok (.goto 7, 3) := by decide +kernel
theorem dX9_now_96 : decode cX9_now 96 = .ok (.aload_n 0, 1) := by decide +kernel
theorem dX9_now_97 : decode cX9_now 97 = .ok (.invokevirtual 478, 3) := by decide +kernel
theorem dX9_now_100 : decode cX9_now 100 = .ok (.ireturn, 1) := by decide +kernel
abbrev vs_EM_now : List Cond := .code yX9_now cX9_now 4 (some .int) :: VM
theorem g_EM_now_X9_in : GoodIn vs_EM_now (va_wsS RX9 152 yX9_in vs_X9_in) := gm_0 (fun w h => by
  rcases List.mem_cons.mp h with rfl | h
  · exact vm_137
  rcases List.mem_cons.mp h with rfl | h
  · exact vm_138
  rcases List.mem_cons.mp h with rfl | h
  · exact vm_19
  rcases List.mem_cons.mp h with rfl | h
  · exact vm_139
  exact absurd h (List.not_mem_nil))
theorem g_EM_now_EM_mayWait : GoodIn vs_EM_now (wsV RX9 478 RX9 yX9_mayWait vs_EM_mayWait) := gm_V vm_369 vm_370 vm_371 vm_19 vm_372
theorem g_EM_now_EM_canTake : GoodIn vs_EM_now (wsV RX9 484 RX9 yX9_canTake vs_EM_canTake) := gm_V vm_377 vm_378 vm_379 vm_19 vm_380
noncomputable def sp_EM_now_L1 (x16 : Nat) (x65 : Nat) (x66 : Int32) (f3 : Nat → Int32) (q4 : Nat → Nat) (q5 : Nat → Nat) (q6 : Nat → Nat) (q7 : Nat → Nat) (f8 : Nat → Int32) (q9 : Nat → Nat) (q10 : Nat → Nat) (f11 : Nat → Int32) (m13_0 : Nat) (m13_1 : Nat) (m14_0 : Nat) (m14_1 : Nat) (f64 : Nat → Int32) (n_3 : Nat) : (Int32 × Nat) → (Int32 × Nat) ⊕ (Int32 × Int32) := fun (g_6, g_7) => (slet (if x16 = 0 then m14_0 else m14_1) (fun u_15 => (if u_15 ≤ g_7 then (Sum.inr (if n_3 = 0 then ((nI x65), 0) else (if n_3 = 1 then (x66, 0) else (if n_3 = 2 then (g_6, 0) else (slet (sp_EM_mayWait x16 x65 f3 q4 q9 q10 f11 m13_0 m13_1 f64) (fun r_20 => (r_20, 0))))))) else (slet (sp_EM_canTake x16 x65 q4 q5 q6 q7 f8 q9 q10 f11 m13_0 m13_1 m14_0 m14_1 f64 g_7) (fun u_22 => (slet (α := Int32) (if u_22 = 0 then 0 else (slet ((1 : Int32) <<< (((nI g_7) : Int32) &&& 31)) (fun y_29 => y_29))) (fun g_23 => (slet ((g_6 : Int32) ||| (g_23 : Int32)) (fun y_27 => (Sum.inl (y_27, (g_7 + 1))))))))))))
noncomputable def sp_EM_now (x16 : Nat) (x30 : Nat) (x65 : Nat) (x66 : Int32) (f3 : Nat → Int32) (q4 : Nat → Nat) (q5 : Nat → Nat) (q6 : Nat → Nat) (q7 : Nat → Nat) (f8 : Nat → Int32) (q9 : Nat → Nat) (q10 : Nat → Nat) (f11 : Nat → Int32) (m13_0 : Nat) (m13_1 : Nat) (m14_0 : Nat) (m14_1 : Nat) (f64 : Nat → Int32) (p0 : Int32) : Int32 × Int32 := (if x30 = 0 then ((-1), 0) else (if (0 : Int32) ≤ p0 ∧ p0 ≤ 3 then (slet ((p0 : Int32).toNatClampNeg) (fun n_3 => (itrv (α := Int32 × Nat) (β := (Int32 × Int32)) default (sp_EM_now_L1 x16 x65 x66 f3 q4 q5 q6 q7 f8 q9 q10 f11 m13_0 m13_1 m14_0 m14_1 f64 n_3) (0, 0)))) else ((-1), 0)))
set_option maxHeartbeats 4000000 in
set_option maxRecDepth 100000 in
theorem c_EM_now (l : Launch) (dC : Nat → ClassId) (dI : Nat → Nat → Nat) (sz : Nat) (ad : Nat → Nat) (ck : Nat → ClassId) (x0 : Int32) (x16 : Nat) (x18 : Nat) (x19 : Nat) (x20 : Int32) (x21 : Nat) (x22 : Nat) (x23 : Int32) (x24 : Int32) (x25 : Int32) (x26 : Nat) (x27 : Int32) (x28 : Nat) (x29 : Nat) (x30 : Nat) (x33 : Nat) (x45 : Int32) (x46 : Nat) (x52 : Nat) (x53 : Nat) (x61 : Nat) (x62 : Nat) (x63 : Nat) (x65 : Nat) (x66 : Int32) (f1 : Nat → Int32) (f2 : Nat → Int32) (f3 : Nat → Int32) (q4 : Nat → Nat) (q5 : Nat → Nat) (q6 : Nat → Nat) (q7 : Nat → Nat) (f8 : Nat → Int32) (q9 : Nat → Nat) (q10 : Nat → Nat) (f11 : Nat → Int32) (m12_0 m12_1 : Nat) (m13_0 m13_1 : Nat) (m14_0 m14_1 : Nat) (m15_0 m15_1 : Nat) (f17 : Nat → Int32) (q31 : Nat → Nat) (f32 : Nat → Int32) (f34 : Nat → Int32) (f35 : Nat → Int32) (f36 : Nat → Int32) (f37 : Nat → Int32) (q38 : Nat → Nat) (f39 : Nat → Int32) (f40 : Nat → Int32) (f41 : Nat → Int32) (m42_0 m42_1 : Nat) (f43 : Nat → Int32) (f44 : Nat → Int32) (f47 : Nat → Int32) (f48 : Nat → Int32) (f49 : Nat → Int32) (f50 : Nat → Int32) (f51 : Nat → Int32) (q54 : Nat → Nat) (q55 : Nat → Nat) (q56 : Nat → Nat) (f57 : Nat → Int32) (q58 : Nat → Nat) (f59 : Nat → Int32) (f60 : Nat → Int32) (f64 : Nat → Int32) (p0 : Int32) (hx16 : x16 ≤ 1) (hx18 : x18 ≤ 900) (hx19 : x19 ≤ 900) (hx21 : x21 ≤ 900) (hx22 : x22 ≤ 4) (hx26 : x26 ≤ 6) (hx28 : x28 ≤ 1) (hx29 : x29 ≤ 1) (hx30 : x30 ≤ 1) (hx33 : x33 ≤ 20) (hx46 : x46 ≤ 5) (hx52 : x52 ≤ 2400) (hx53 : x53 ≤ 119) (hx61 : x61 ≤ 119) (hx62 : x62 ≤ 2000) (hx63 : x63 ≤ 1) (hx65 : x65 ≤ 7) (hm12_0 : m12_0 ≤ 3) (hm12_1 : m12_1 ≤ 3) (hm13_0 : m13_0 ≤ 8) (hm13_1 : m13_1 ≤ 8) (hm14_0 : m14_0 ≤ 14) (hm14_1 : m14_1 ≤ 14) (hm15_0 : m15_0 ≤ 8) (hm15_1 : m15_1 ≤ 8) (hm42_0 : m42_0 ≤ 120) (hm42_1 : m42_1 ≤ 400) : Met l yX9_now vs_EM_now ({ frames := 5, cells := 0, slots := 0, locals := 112 }) (va_Pc [.ref (ad 0), .int p0] (pu_B (dC, dI) (mo_w ad ck x0 (nI x16) (nI x18) (nI x19) x20 (nI x21) (nI x22) x23 x24 x25 (nI x26) x27 (nI x28) (nI x29) (nI x30) (nI x33) x45 (nI x46) (nI x52) (nI x53) (nI x61) (nI x62) (nI x63) (nI x65) x66 f1 f2 f3 (bN 3 q4) (bN 7 q5) (bN 7 q6) (bN 4 q7) f8 (bN 2 q9) (bH q10) f11 (b2 m12_0 m12_1) (b2 m13_0 m13_1) (b2 m14_0 m14_1) (b2m m15_0 m15_1) f17 (bA 159 q31) f32 f34 f35 f36 f37 (bN 7 q38) f39 f40 f41 (b2 m42_0 m42_1) f43 f44 f47 f48 f49 f50 f51 (bN 13 q54) (bN 120 q55) (bN 120 q56) f57 (bN 120 q58) f59 f60 f64) (mo_t ck) sz)) (va_Qi (fun (r : Int32) (_ : Unit) => r = (sp_EM_now x16 x30 x65 x66 f3 q4 q5 q6 q7 f8 q9 q10 f11 m13_0 m13_1 m14_0 m14_1 f64 p0).1) (fun _ t => ∃ (z0 : Int32), pu_E (dC, dI) (mo_w ad ck z0 (nI x16) (nI x18) (nI x19) x20 (nI x21) (nI x22) x23 x24 x25 (nI x26) x27 (nI x28) (nI x29) (nI x30) (nI x33) x45 (nI x46) (nI x52) (nI x53) (nI x61) (nI x62) (nI x63) (nI x65) x66 f1 f2 f3 (bN 3 q4) (bN 7 q5) (bN 7 q6) (bN 4 q7) f8 (bN 2 q9) (bH q10) f11 (b2 m12_0 m12_1) (b2 m13_0 m13_1) (b2 m14_0 m14_1) (b2m m15_0 m15_1) f17 (bA 159 q31) f32 f34 f35 f36 f37 (bN 7 q38) f39 f40 f41 (b2 m42_0 m42_1) f43 f44 f47 f48 f49 f50 f51 (bN 13 q54) (bN 120 q55) (bN 120 q56) f57 (bN 120 q58) f59 f60 f64) (mo_t ck) (va_A ((mo_w ad ck x0 (nI x16) (nI x18) (nI x19) x20 (nI x21) (nI x22) x23 x24 x25 (nI x26) x27 (nI x28) (nI x29) (nI x30) (nI x33) x45 (nI x46) (nI x52) (nI x53) (nI x61) (nI x62) (nI x63) (nI x65) x66 f1 f2 f3 (bN 3 q4) (bN 7 q5) (bN 7 q6) (bN 4 q7) f8 (bN 2 q9) (bH q10) f11 (b2 m12_0 m12_1) (b2 m13_0 m13_1) (b2 m14_0 m14_1) (b2m m15_0 m15_1) f17 (bA 159 q31) f32 f34 f35 f36 f37 (bN 7 q38) f39 f40 f41 (b2 m42_0 m42_1) f43 f44 f47 f48 f49 f50 f51 (bN 13 q54) (bN 120 q55) (bN 120 q56) f57 (bN 120 q58) f59 f60 f64)) sz) t ∧ (z0 = (sp_EM_now x16 x30 x65 x66 f3 q4 q5 q6 q7 f8 q9 q10 f11 m13_0 m13_1 m14_0 m14_1 f64 p0).2)) (va_A ((mo_w ad ck x0 (nI x16) (nI x18) (nI x19) x20 (nI x21) (nI x22) x23 x24 x25 (nI x26) x27 (nI x28) (nI x29) (nI x30) (nI x33) x45 (nI x46) (nI x52) (nI x53) (nI x61) (nI x62) (nI x63) (nI x65) x66 f1 f2 f3 (bN 3 q4) (bN 7 q5) (bN 7 q6) (bN 4 q7) f8 (bN 2 q9) (bH q10) f11 (b2 m12_0 m12_1) (b2 m13_0 m13_1) (b2 m14_0 m14_1) (b2m m15_0 m15_1) f17 (bA 159 q31) f32 f34 f35 f36 f37 (bN 7 q38) f39 f40 f41 (b2 m42_0 m42_1) f43 f44 f47 f48 f49 f50 f51 (bN 13 q54) (bN 120 q55) (bN 120 q56) f57 (bN 120 q58) f59 f60 f64)) sz)) 0 0 (va_A ((mo_w ad ck x0 (nI x16) (nI x18) (nI x19) x20 (nI x21) (nI x22) x23 x24 x25 (nI x26) x27 (nI x28) (nI x29) (nI x30) (nI x33) x45 (nI x46) (nI x52) (nI x53) (nI x61) (nI x62) (nI x63) (nI x65) x66 f1 f2 f3 (bN 3 q4) (bN 7 q5) (bN 7 q6) (bN 4 q7) f8 (bN 2 q9) (bH q10) f11 (b2 m12_0 m12_1) (b2 m13_0 m13_1) (b2 m14_0 m14_1) (b2m m15_0 m15_1) f17 (bA 159 q31) f32 f34 f35 f36 f37 (bN 7 q38) f39 f40 f41 (b2 m42_0 m42_1) f43 f44 f47 f48 f49 f50 f51 (bN 13 q54) (bN 120 q55) (bN 120 q56) f57 (bN 120 q58) f59 f60 f64)) sz) := by
  refine Met.ofW (cc := cX9_now) (maxL := 4) (ret := (some .int)) (by decide) rfl ?_
  intro p e s m args below meth c s₁ B hml hv
  obtain ⟨rfl, rfl, hP, hK, hD0⟩ := hv
  have hx := B.exec
  have hb := B.bytes
  have hr := B.returns
  have hts := atoms_spec (ws := vs_EM_now) B.pre
  have v_1 := hts (.fieldLink RX9 142 "ClockReachModel" "thrown" "I") (List.mem_cons_of_mem _ vm_5)
  have v_2 := hts (.fieldLink RX9 277 "ClockReachModel" "isPlayed" "Z") (List.mem_cons_of_mem _ vm_2)
  have v_7 := hts (.fieldLink RX9 49 "ClockReachModel" "edgeMany" "[I") (List.mem_cons_of_mem _ vm_45)
  have v_8 := hts (.fieldLink RX9 258 "ClockReachModel" "bank" "I") (List.mem_cons_of_mem _ vm_4)
  have v_17 := hts (.fieldLink RX9 469 "ClockReachModel" "played" "I") (List.mem_cons_of_mem _ vm_364)
  have v_18 := hts (.fieldLink RX9 466 "ClockReachModel" "playPlace" "I") (List.mem_cons_of_mem _ vm_363)
  have hown : s.vm.findClass RX9 = some m.cls := findClass_of_methodNamed B.named
  have hlocks := B.notSynchronized
  have hiX9 : ∀ w ∈ wsX90, w ∈ vs_EM_now := fun _ h => List.mem_cons_of_mem _ (vmi_L h)
  have hD := hD0.self (sz := s.heap.size)
  generalize hAe : va_A ((mo_w ad ck x0 (nI x16) (nI x18) (nI x19) x20 (nI x21) (nI x22) x23 x24 x25 (nI x26) x27 (nI x28) (nI x29) (nI x30) (nI x33) x45 (nI x46) (nI x52) (nI x53) (nI x61) (nI x62) (nI x63) (nI x65) x66 f1 f2 f3 (bN 3 q4) (bN 7 q5) (bN 7 q6) (bN 4 q7) f8 (bN 2 q9) (bH q10) f11 (b2 m12_0 m12_1) (b2 m13_0 m13_1) (b2 m14_0 m14_1) (b2m m15_0 m15_1) f17 (bA 159 q31) f32 f34 f35 f36 f37 (bN 7 q38) f39 f40 f41 (b2 m42_0 m42_1) f43 f44 f47 f48 f49 f50 f51 (bN 13 q54) (bN 120 q55) (bN 120 q56) f57 (bN 120 q58) f59 f60 f64)) s.heap.size = A at hD ⊢
  have hA : ∀ q : Nat, s.heap.size ≤ q → A q := fun q h => by rw [← hAe]; exact Or.inr h
  have hS : va_S A s.heap s.heap [] := va_S.rf
  have hl := lv_entry ([.ref (ad 0), .int p0]) (n := 4) (Nat.le_of_ble_eq_true rfl)
  rw [lg_entry_eq]
  generalize (lg_sl ([.ref (ad 0), .int p0]) ++ List.replicate (4 - (lg_sl ([.ref (ad 0), .int p0])).length) Slot.unset).toArray = ls at hl ⊢
  have hl : lv_has ls 4 [(0, .ref (ad 0)), (1, .int p0)] := hl
  obtain ⟨RR, hRR⟩ : ∃ x, x = (sp_EM_now x16 x30 x65 x66 f3 q4 q5 q6 q7 f8 q9 q10 f11 m13_0 m13_1 m14_0 m14_1 f64 p0) := ⟨_, rfl⟩
  have hsp := hRR
  refine lv_aload_n hx hb dX9_now_0 rfl (lv_at hl 0 rfl) ?_
  refine lv_iconst (v := 0) hx hb dX9_now_1 (by decide) ?_
  refine va_put (D := (dC, dI)) (ci := 9) (v := .int 0) (ty := .int) (C := RX9) (T := TX9) (N := 67) hx hb hts hiX9 tyX9 tyX9_ok nmX9 hown hK hP hD hS 0 rfl rfl 0 (by decide) v_1 (fun _ h9 => h9) rfl (by decide +kernel) rfl rfl (Nat.le_of_ble_eq_true rfl) dX9_now_2 (fun H locs hP hD hS => ?_)
  have hP : va_P (dC, dI) vwCl (mo_w ad ck 0 (nI x16) (nI x18) (nI x19) x20 (nI x21) (nI x22) x23 x24 x25 (nI x26) x27 (nI x28) (nI x29) (nI x30) (nI x33) x45 (nI x46) (nI x52) (nI x53) (nI x61) (nI x62) (nI x63) (nI x65) x66 f1 f2 f3 (bN 3 q4) (bN 7 q5) (bN 7 q6) (bN 4 q7) f8 (bN 2 q9) (bH q10) f11 (b2 m12_0 m12_1) (b2 m13_0 m13_1) (b2 m14_0 m14_1) (b2m m15_0 m15_1) f17 (bA 159 q31) f32 f34 f35 f36 f37 (bN 7 q38) f39 f40 f41 (b2 m42_0 m42_1) f43 f44 f47 f48 f49 f50 f51 (bN 13 q54) (bN 120 q55) (bN 120 q56) f57 (bN 120 q58) f59 f60 f64) H := hP
  have hD : va_D A (mo_w ad ck 0 (nI x16) (nI x18) (nI x19) x20 (nI x21) (nI x22) x23 x24 x25 (nI x26) x27 (nI x28) (nI x29) (nI x30) (nI x33) x45 (nI x46) (nI x52) (nI x53) (nI x61) (nI x62) (nI x63) (nI x65) x66 f1 f2 f3 (bN 3 q4) (bN 7 q5) (bN 7 q6) (bN 4 q7) f8 (bN 2 q9) (bH q10) f11 (b2 m12_0 m12_1) (b2 m13_0 m13_1) (b2 m14_0 m14_1) (b2m m15_0 m15_1) f17 (bA 159 q31) f32 f34 f35 f36 f37 (bN 7 q38) f39 f40 f41 (b2 m42_0 m42_1) f43 f44 f47 f48 f49 f50 f51 (bN 13 q54) (bN 120 q55) (bN 120 q56) f57 (bN 120 q58) f59 f60 f64) := hD
  refine lv_aload_n hx hb dX9_now_5 rfl (lv_at hl 0 rfl) ?_
  refine va_get (D := (dC, dI)) (ci := 9) (v := .int (nI x30)) (C := RX9) (T := TX9) (N := 67) hx hb hts hiX9 hown hK hP 0 rfl rfl 30 (by decide) v_2 (fun _ h9 => h9) rfl dX9_now_6 ?_
  refine lv_if_eq (tgt := 21) hx hb dX9_now_9 (by decide) (fun c_1 => ?_) (fun c_1 => ?_)
  · have c_1 : x30 = 0 := (nI_eq (a := x30) (b := 0) (Nat.lt_of_le_of_lt hx30 (Nat.le_of_ble_eq_true rfl)) (Nat.le_of_ble_eq_true rfl)).mp c_1
    replace hsp := hsp.trans (if_pos c_1)
    refine lv_iconst (v := (-1)) hx hb dX9_now_21 (by decide) ?_
    exact W.iret (v := (-1)) hx hb hr (fun t ht hW => ⟨⟨(-1), (), rfl, (congrArg Prod.fst (hsp.symm.trans hRR)), ⟨0, ⟨by rw [ht]; exact hP, va_K.moved hW.alike hK, hD⟩, (congrArg Prod.snd (hsp.symm.trans hRR))⟩⟩, hS.F ht⟩) hS.2.2 dX9_now_22
  · have c_1 : ¬ x30 = 0 := fun z => c_1 ((nI_eq (a := x30) (b := 0) (Nat.lt_of_le_of_lt hx30 (Nat.le_of_ble_eq_true rfl)) (Nat.le_of_ble_eq_true rfl)).mpr z)
    replace hsp := hsp.trans (if_neg c_1)
    refine lv_iload_n hx hb dX9_now_12 rfl (lv_at hl 1 rfl) ?_
    refine lv_iconst (v := 0) hx hb dX9_now_13 (by decide) ?_
    refine lv_iconst (v := 3) hx hb dX9_now_14 (by decide) ?_
    refine va_calli (va_runS (As := [.int p0, .int 0, .int 3]) (rest := []) ⟨hx, hb, hml, hown, hts⟩ (c_X9_in l dC dI _ p0 0 3) (va_cwS 3 hts g_EM_now_X9_in rfl rfl rfl (by decide +kernel) ⟨Nat.le_of_ble_eq_true rfl, Nat.le_of_ble_eq_true rfl⟩) ⟨pu_bl, pu_in (hP.sub [] rfl) (hK.sub [] rfl) (hD.sub [] (by decide) rfl)⟩ rfl rfl hl.1 rfl (lv_room (Nat.le_of_ble_eq_true rfl)) dX9_now_15 ⟨Nat.le_of_ble_eq_true rfl, Nat.le_of_ble_eq_true rfl⟩) hS (fun q _ h => pu_fr hS hA q h) (pu_fr hS hA) (fun r_2 u t H1 locs ht hvm hw hB hz1 hk1 hS => ?_)
    have hP := pu_keep hP hk1
    clear hk1 hz1 ht hvm
    generalize H1 = H at hP hS ⊢
    rcases hw with ⟨rfl, hi1, hi2⟩ | ⟨rfl, hi3⟩
    · replace hsp := hsp.trans (if_pos ⟨hi1, hi2⟩)
      obtain ⟨n_3, hn_3, rfl⟩ := pu_in0 (n := 3) (by omega) hi1 hi2
      replace hsp := hsp.trans (slet_eq (nI_cl (n := n_3) (by omega)))
      refine lv_if_ne (tgt := 23) hx hb dX9_now_18 (by decide) (fun _ => ?_) (fun z => absurd z (by decide))
      refine lv_iconst (v := 0) hx hb dX9_now_23 (by decide) ?_
      refine lv_istore_n (lv' := [(2, .int 0), (0, .ref (ad 0)), (1, .int (nI n_3))]) hx hb dX9_now_24 rfl hl (by decide) rfl (fun ls hl => ?_)
      refine lv_iconst (v := 0) hx hb dX9_now_25 (by decide) ?_
      refine lv_istore_n (lv' := [(3, .int 0), (2, .int 0), (0, .ref (ad 0)), (1, .int (nI n_3))]) hx hb dX9_now_26 rfl hl (by decide) rfl (fun ls hl => ?_)
      obtain ⟨lf_9, dlf_9, hlf_9, hsp⟩ := itr_ex hsp
      delta sp_EM_now_L1 at hlf_9
      refine pu_while (fun nn H locs ls => ∃ (g_6 : Int32) (g_7 : Nat), nn = 14 - g_7 ∧ g_7 ≤ 14 ∧ RR = itrv dlf_9 lf_9 (g_6, g_7) ∧ va_P (dC, dI) vwCl (mo_w ad ck 0 (nI x16) (nI x18) (nI x19) x20 (nI x21) (nI x22) x23 x24 x25 (nI x26) x27 (nI x28) (nI x29) (nI x30) (nI x33) x45 (nI x46) (nI x52) (nI x53) (nI x61) (nI x62) (nI x63) (nI x65) x66 f1 f2 f3 (bN 3 q4) (bN 7 q5) (bN 7 q6) (bN 4 q7) f8 (bN 2 q9) (bH q10) f11 (b2 m12_0 m12_1) (b2 m13_0 m13_1) (b2 m14_0 m14_1) (b2m m15_0 m15_1) f17 (bA 159 q31) f32 f34 f35 f36 f37 (bN 7 q38) f39 f40 f41 (b2 m42_0 m42_1) f43 f44 f47 f48 f49 f50 f51 (bN 13 q54) (bN 120 q55) (bN 120 q56) f57 (bN 120 q58) f59 f60 f64) H ∧ va_D A (mo_w ad ck 0 (nI x16) (nI x18) (nI x19) x20 (nI x21) (nI x22) x23 x24 x25 (nI x26) x27 (nI x28) (nI x29) (nI x30) (nI x33) x45 (nI x46) (nI x52) (nI x53) (nI x61) (nI x62) (nI x63) (nI x65) x66 f1 f2 f3 (bN 3 q4) (bN 7 q5) (bN 7 q6) (bN 4 q7) f8 (bN 2 q9) (bH q10) f11 (b2 m12_0 m12_1) (b2 m13_0 m13_1) (b2 m14_0 m14_1) (b2m m15_0 m15_1) f17 (bA 159 q31) f32 f34 f35 f36 f37 (bN 7 q38) f39 f40 f41 (b2 m42_0 m42_1) f43 f44 f47 f48 f49 f50 f51 (bN 13 q54) (bN 120 q55) (bN 120 q56) f57 (bN 120 q58) f59 f60 f64) ∧ va_S A s.heap H locs ∧ lv_has ls 4 [(0, .ref (ad 0)), (1, .int (nI n_3)), (2, .int g_6), (3, .int (nI g_7))]) 27 ?_ _ _ _ _ ⟨0, 0, rfl, (Nat.le_of_ble_eq_true rfl), hsp, hP, hD, hS, lv_sub hl [2, 3, 1, 0] rfl⟩
      rintro nn ih_8 H locs ls ⟨g_6, g_7, rfl, hg_7, he_11, hP, hD, hS, hl⟩
      obtain ⟨S_10, hsp, hin_12, hout_13⟩ := itr_step hlf_9 he_11
      refine lv_iload_n hx hb dX9_now_27 rfl (lv_at hl 3 rfl) ?_
      refine lv_aload_n hx hb dX9_now_28 rfl (lv_at hl 0 rfl) ?_
      refine va_get (D := (dC, dI)) (ci := 9) (v := .ref (ad 14)) (C := RX9) (T := TX9) (N := 67) hx hb hts hiX9 hown hK hP 0 rfl rfl 14 (by decide) v_7 (fun _ h9 => h9) rfl dX9_now_29 ?_
      refine lv_aload_n hx hb dX9_now_32 rfl (lv_at hl 0 rfl) ?_
      refine va_get (D := (dC, dI)) (ci := 9) (v := .int (nI x16)) (C := RX9) (T := TX9) (N := 67) hx hb hts hiX9 hown hK hP 0 rfl rfl 16 (by decide) v_8 (fun _ h9 => h9) rfl dX9_now_33 ?_
      refine va_iald hx hb hK hP 14 13 rfl rfl (vp_in_nI (n := x16) (Nat.lt_of_le_of_lt hx16 (Nat.le_of_ble_eq_true rfl)) (Nat.le_of_ble_eq_true rfl)) dX9_now_36 ?_
      refine lv_topi (fun y_14 ey_14 => ?_)
      obtain ⟨u_15, hu_15, fu_15, xu_15⟩ := b2_getx (a := m14_0) (b := m14_1) (i := x16) (by omega)
      have qy_14 := ey_14.trans fu_15
      replace hsp := hsp.trans (slet_eq xu_15)
      obtain rfl : y_14 = nI u_15 := qy_14
      refine lv_icmp_ge (tgt := 64) hx hb dX9_now_37 (by decide) (fun c_16 => ?_) (fun c_16 => ?_)
      · have c_16 : u_15 ≤ g_7 := (nI_leI (a := u_15) (b := g_7) (by omega) (Nat.lt_of_le_of_lt hg_7 (Nat.le_of_ble_eq_true rfl))).mp c_16
        replace hsp := hsp.trans (if_pos c_16)
        replace hsp := hout_13 _ hsp
        refine lv_iload_n hx hb dX9_now_64 rfl (lv_at hl 1 rfl) ?_
        refine lv_if_ne (tgt := 75) hx hb dX9_now_65 (by decide) (fun c_17 => ?_) (fun c_17 => ?_)
        · have c_17 : ¬ n_3 = 0 := fun z => c_17 ((nI_eq (a := n_3) (b := 0) (by omega) (Nat.le_of_ble_eq_true rfl)).mpr z)
          replace hsp := hsp.trans (if_neg c_17)
          refine lv_iload_n hx hb dX9_now_75 rfl (lv_at hl 1 rfl) ?_
          refine lv_iconst (v := 1) hx hb dX9_now_76 (by decide) ?_
          refine lv_icmp_ne (tgt := 87) hx hb dX9_now_77 (by decide) (fun c_18 => ?_) (fun c_18 => ?_)
          · have c_18 : ¬ n_3 = 1 := fun z => c_18 ((nI_eq (a := n_3) (b := 1) (by omega) (Nat.le_of_ble_eq_true rfl)).mpr z)
            replace hsp := hsp.trans (if_neg c_18)
            refine lv_iload_n hx hb dX9_now_87 rfl (lv_at hl 1 rfl) ?_
            refine lv_iconst (v := 2) hx hb dX9_now_88 (by decide) ?_
            refine lv_icmp_ne (tgt := 96) hx hb dX9_now_89 (by decide) (fun c_19 => ?_) (fun c_19 => ?_)
            · have c_19 : ¬ n_3 = 2 := fun z => c_19 ((nI_eq (a := n_3) (b := 2) (by omega) (Nat.le_of_ble_eq_true rfl)).mpr z)
              replace hsp := hsp.trans (if_neg c_19)
              refine lv_aload_n hx hb dX9_now_96 rfl (lv_at hl 0 rfl) ?_
              refine va_calli (va_runV (As := []) (rest := []) ⟨hx, hb, hml, hown, hts⟩ (c_EM_mayWait l dC dI _ ad ck 0 x16 x18 x19 x20 x21 x22 x23 x24 x25 x26 x27 x28 x29 x30 x33 x45 x46 x52 x53 x61 x62 x63 x65 x66 f1 f2 f3 q4 q5 q6 q7 f8 q9 q10 f11 m12_0 m12_1 m13_0 m13_1 m14_0 m14_1 m15_0 m15_1 f17 q31 f32 f34 f35 f36 f37 q38 f39 f40 f41 m42_0 m42_1 f43 f44 f47 f48 f49 f50 f51 q54 q55 q56 f57 q58 f59 f60 f64 hx16 hx18 hx19 hx21 hx22 hx26 hx28 hx29 hx30 hx33 hx46 hx52 hx53 hx61 hx62 hx63 hx65 hm12_0 hm12_1 hm13_0 hm13_1 hm14_0 hm14_1 hm15_0 hm15_1 hm42_0 hm42_1) (cwV 0 hts g_EM_now_EM_mayWait rfl rfl rfl (by decide +kernel) ⟨Nat.le_of_ble_eq_true rfl, Nat.le_of_ble_eq_true rfl⟩) ⟨pu_bl, va_recv hK hP (ci := 9) (q0 := 0) rfl rfl, pu_in hP hK hD⟩ rfl rfl hl.1 rfl (lv_room (Nat.le_of_ble_eq_true rfl)) dX9_now_97 ⟨Nat.le_of_ble_eq_true rfl, Nat.le_of_ble_eq_true rfl⟩) hS (fun q _ h => pu_fr hS hA q h) (pu_fr hS hA) (fun r_20 u t H1 locs ht hvm hw hB hz1 hk1 hS => ?_)
              have hP := pu_keep hP hk1
              clear hk1 hz1 ht hvm
              generalize H1 = H at hP hS ⊢
              have ir_20 := hw
              replace hsp := hsp.trans (slet_eq ir_20)
              exact W.iret (v := r_20) hx hb hr (fun t ht hW => ⟨⟨r_20, (), rfl, (congrArg Prod.fst (hsp.symm.trans hRR)), ⟨0, ⟨by rw [ht]; exact hP, va_K.moved hW.alike hK, hD⟩, (congrArg Prod.snd (hsp.symm.trans hRR))⟩⟩, hS.F ht⟩) hS.2.2 dX9_now_100
            · have c_19 : n_3 = 2 := (nI_eq (a := n_3) (b := 2) (by omega) (Nat.le_of_ble_eq_true rfl)).mp c_19
              replace hsp := hsp.trans (if_pos c_19)
              refine lv_iload_n hx hb dX9_now_92 rfl (lv_at hl 2 rfl) ?_
              refine lv_goto (tgt := 100) hx hb dX9_now_93 (by decide) ?_
              exact W.iret (v := g_6) hx hb hr (fun t ht hW => ⟨⟨g_6, (), rfl, (congrArg Prod.fst (hsp.symm.trans hRR)), ⟨0, ⟨by rw [ht]; exact hP, va_K.moved hW.alike hK, hD⟩, (congrArg Prod.snd (hsp.symm.trans hRR))⟩⟩, hS.F ht⟩) hS.2.2 dX9_now_100
          · have c_18 : n_3 = 1 := (nI_eq (a := n_3) (b := 1) (by omega) (Nat.le_of_ble_eq_true rfl)).mp c_18
            replace hsp := hsp.trans (if_pos c_18)
            refine lv_aload_n hx hb dX9_now_80 rfl (lv_at hl 0 rfl) ?_
            refine va_get (D := (dC, dI)) (ci := 9) (v := .int x66) (C := RX9) (T := TX9) (N := 67) hx hb hts hiX9 hown hK hP 0 rfl rfl 66 (by decide) v_17 (fun _ h9 => h9) rfl dX9_now_81 ?_
            refine lv_goto (tgt := 100) hx hb dX9_now_84 (by decide) ?_
            exact W.iret (v := x66) hx hb hr (fun t ht hW => ⟨⟨x66, (), rfl, (congrArg Prod.fst (hsp.symm.trans hRR)), ⟨0, ⟨by rw [ht]; exact hP, va_K.moved hW.alike hK, hD⟩, (congrArg Prod.snd (hsp.symm.trans hRR))⟩⟩, hS.F ht⟩) hS.2.2 dX9_now_100
        · have c_17 : n_3 = 0 := (nI_eq (a := n_3) (b := 0) (by omega) (Nat.le_of_ble_eq_true rfl)).mp c_17
          replace hsp := hsp.trans (if_pos c_17)
          refine lv_aload_n hx hb dX9_now_68 rfl (lv_at hl 0 rfl) ?_
          refine va_get (D := (dC, dI)) (ci := 9) (v := .int (nI x65)) (C := RX9) (T := TX9) (N := 67) hx hb hts hiX9 hown hK hP 0 rfl rfl 65 (by decide) v_18 (fun _ h9 => h9) rfl dX9_now_69 ?_
          refine lv_goto (tgt := 100) hx hb dX9_now_72 (by decide) ?_
          exact W.iret (v := (nI x65)) hx hb hr (fun t ht hW => ⟨⟨(nI x65), (), rfl, (congrArg Prod.fst (hsp.symm.trans hRR)), ⟨0, ⟨by rw [ht]; exact hP, va_K.moved hW.alike hK, hD⟩, (congrArg Prod.snd (hsp.symm.trans hRR))⟩⟩, hS.F ht⟩) hS.2.2 dX9_now_100
      · have c_16 : ¬ u_15 ≤ g_7 := fun z => c_16 ((nI_leI (a := u_15) (b := g_7) (by omega) (Nat.lt_of_le_of_lt hg_7 (Nat.le_of_ble_eq_true rfl))).mpr z)
        replace hsp := hsp.trans (if_neg c_16)
        refine lv_iload_n hx hb dX9_now_40 rfl (lv_at hl 2 rfl) ?_
        refine lv_aload_n hx hb dX9_now_41 rfl (lv_at hl 0 rfl) ?_
        refine lv_iload_n hx hb dX9_now_42 rfl (lv_at hl 3 rfl) ?_
        refine va_calli (va_runV (As := [.int (nI g_7)]) (rest := [.int g_6]) ⟨hx, hb, hml, hown, hts⟩ (c_EM_canTake l dC dI _ ad ck 0 x16 x18 x19 x20 x21 x22 x23 x24 x25 x26 x27 x28 x29 x30 x33 x45 x46 x52 x53 x61 x62 x63 x65 x66 f1 f2 f3 q4 q5 q6 q7 f8 q9 q10 f11 m12_0 m12_1 m13_0 m13_1 m14_0 m14_1 m15_0 m15_1 f17 q31 f32 f34 f35 f36 f37 q38 f39 f40 f41 m42_0 m42_1 f43 f44 f47 f48 f49 f50 f51 q54 q55 q56 f57 q58 f59 f60 f64 g_7 hx16 hx18 hx19 hx21 hx22 hx26 hx28 hx29 hx30 hx33 hx46 hx52 hx53 hx61 hx62 hx63 hx65 hm12_0 hm12_1 hm13_0 hm13_1 hm14_0 hm14_1 hm15_0 hm15_1 hm42_0 hm42_1 (by omega)) (cwV 1 hts g_EM_now_EM_canTake rfl rfl rfl (by decide +kernel) ⟨Nat.le_of_ble_eq_true rfl, Nat.le_of_ble_eq_true rfl⟩) ⟨pu_bl, va_recv hK hP (ci := 9) (q0 := 0) rfl rfl, pu_in hP hK hD⟩ rfl rfl hl.1 rfl (lv_room (Nat.le_of_ble_eq_true rfl)) dX9_now_43 ⟨Nat.le_of_ble_eq_true rfl, Nat.le_of_ble_eq_true rfl⟩) hS (fun q _ h => pu_fr hS hA q h) (pu_fr hS hA) (fun r_21 u t H1 locs ht hvm hw hB hz1 hk1 hS => ?_)
        have hP := pu_keep hP hk1
        clear hk1 hz1 ht hvm
        generalize H1 = H at hP hS ⊢
        obtain ⟨u_22, hu_22, rfl, iu_22⟩ := hw
        replace hsp := hsp.trans (slet_eq iu_22)
        obtain ⟨JR_25, hJR_25, hsp⟩ := slet_ex hsp
        refine pu_join (fun H locs ls st => ∃ (g_23 : Int32), st = [.int g_23, .int g_6] ∧ g_23 = JR_25 ∧ va_P (dC, dI) vwCl (mo_w ad ck 0 (nI x16) (nI x18) (nI x19) x20 (nI x21) (nI x22) x23 x24 x25 (nI x26) x27 (nI x28) (nI x29) (nI x30) (nI x33) x45 (nI x46) (nI x52) (nI x53) (nI x61) (nI x62) (nI x63) (nI x65) x66 f1 f2 f3 (bN 3 q4) (bN 7 q5) (bN 7 q6) (bN 4 q7) f8 (bN 2 q9) (bH q10) f11 (b2 m12_0 m12_1) (b2 m13_0 m13_1) (b2 m14_0 m14_1) (b2m m15_0 m15_1) f17 (bA 159 q31) f32 f34 f35 f36 f37 (bN 7 q38) f39 f40 f41 (b2 m42_0 m42_1) f43 f44 f47 f48 f49 f50 f51 (bN 13 q54) (bN 120 q55) (bN 120 q56) f57 (bN 120 q58) f59 f60 f64) H ∧ va_D A (mo_w ad ck 0 (nI x16) (nI x18) (nI x19) x20 (nI x21) (nI x22) x23 x24 x25 (nI x26) x27 (nI x28) (nI x29) (nI x30) (nI x33) x45 (nI x46) (nI x52) (nI x53) (nI x61) (nI x62) (nI x63) (nI x65) x66 f1 f2 f3 (bN 3 q4) (bN 7 q5) (bN 7 q6) (bN 4 q7) f8 (bN 2 q9) (bH q10) f11 (b2 m12_0 m12_1) (b2 m13_0 m13_1) (b2 m14_0 m14_1) (b2m m15_0 m15_1) f17 (bA 159 q31) f32 f34 f35 f36 f37 (bN 7 q38) f39 f40 f41 (b2 m42_0 m42_1) f43 f44 f47 f48 f49 f50 f51 (bN 13 q54) (bN 120 q55) (bN 120 q56) f57 (bN 120 q58) f59 f60 f64) ∧ va_S A s.heap H locs ∧ lv_has ls 4 [(0, .ref (ad 0)), (1, .int (nI n_3)), (2, .int g_6), (3, .int (nI g_7))]) 56 ?_ (fun j_24 => ?_)
        · rintro H locs ls st ⟨g_23, rfl, he_26, hP, hD, hS, hl⟩
          rw [← he_26] at hsp
          refine lv_ior hx hb dX9_now_56 ?_
          refine lv_topi (fun y_27 ey_27 => ?_)
          replace hsp := hsp.trans (slet_eq ey_27)
          refine lv_istore_n (lv' := [(2, .int y_27), (0, .ref (ad 0)), (1, .int (nI n_3)), (3, .int (nI g_7))]) hx hb dX9_now_57 rfl hl (by decide) rfl (fun ls hl => ?_)
          refine lv_iinc (v := (nI (g_7 + 1))) (lv' := [(3, .int (nI (g_7 + 1))), (2, .int y_27), (0, .ref (ad 0)), (1, .int (nI n_3))]) hx hb dX9_now_58 hl (k := 3) rfl (nI_1 _) (by decide) rfl (fun ls hl => ?_)
          refine lv_goto (tgt := 27) hx hb dX9_now_61 (by decide) ?_
          exact ih_8 (14 - (g_7 + 1)) (by omega) _ _ _ ⟨y_27, (g_7 + 1), rfl, (by omega), hin_12 _ hsp, hP, hD, hS, lv_sub hl [2, 3, 1, 0] rfl⟩
        have hsp := hJR_25
        refine lv_if_eq (tgt := 55) hx hb dX9_now_46 (by decide) (fun c_28 => ?_) (fun c_28 => ?_)
        · have c_28 : u_22 = 0 := (nI_eq (a := u_22) (b := 0) (Nat.lt_of_le_of_lt hu_22 (Nat.le_of_ble_eq_true rfl)) (Nat.le_of_ble_eq_true rfl)).mp c_28
          replace hsp := hsp.trans (if_pos c_28)
          refine lv_iconst (v := 0) hx hb dX9_now_55 (by decide) ?_
          exact j_24 _ _ _ _ ⟨0, rfl, hsp.symm, hP, hD, hS, lv_sub hl [0, 1, 2, 3] rfl⟩
        · have c_28 : ¬ u_22 = 0 := fun z => c_28 ((nI_eq (a := u_22) (b := 0) (Nat.lt_of_le_of_lt hu_22 (Nat.le_of_ble_eq_true rfl)) (Nat.le_of_ble_eq_true rfl)).mpr z)
          replace hsp := hsp.trans (if_neg c_28)
          refine lv_iconst (v := 1) hx hb dX9_now_49 (by decide) ?_
          refine lv_iload_n hx hb dX9_now_50 rfl (lv_at hl 3 rfl) ?_
          refine lv_ishl hx hb dX9_now_51 ?_
          refine lv_topi (fun y_29 ey_29 => ?_)
          replace hsp := hsp.trans (slet_eq ey_29)
          refine lv_goto (tgt := 56) hx hb dX9_now_52 (by decide) ?_
          exact j_24 _ _ _ _ ⟨y_29, rfl, hsp.symm, hP, hD, hS, lv_sub hl [0, 1, 2, 3] rfl⟩
    · replace hsp := hsp.trans (if_neg hi3)
      refine lv_if_ne (tgt := 23) hx hb dX9_now_18 (by decide) (fun z => absurd z (by decide)) (fun _ => ?_)
      refine lv_iconst (v := (-1)) hx hb dX9_now_21 (by decide) ?_
      exact W.iret (v := (-1)) hx hb hr (fun t ht hW => ⟨⟨(-1), (), rfl, (congrArg Prod.fst (hsp.symm.trans hRR)), ⟨0, ⟨by rw [ht]; exact hP, va_K.moved hW.alike hK, hD⟩, (congrArg Prod.snd (hsp.symm.trans hRR))⟩⟩, hS.F ht⟩) hS.2.2 dX9_now_22
