theorem dX9_isOver_0 : decode cX9_isOver 0 = .ok (.aload_n 0, 1) := by decide +kernel
theorem dX9_isOver_1 : decode cX9_isOver 1 = .ok (.iconst 0, 1) := by decide +kernel
theorem dX9_isOver_2 : decode cX9_isOver 2 = .ok (.putfield 405, 3) := by decide +kernel
theorem dX9_isOver_5 : decode cX9_isOver 5 = .ok (.aload_n 0, 1) := by decide +kernel
theorem dX9_isOver_6 : decode cX9_isOver 6 = .ok (.getfield 71, 3) := by decide +kernel
theorem dX9_isOver_9 : decode cX9_isOver 9 = .ok (.iconst 0, 1) := by decide +kernel
theorem dX9_isOver_10 : decode cX9_isOver 10 = .ok (.aload_n 0, 1) := by decide +kernel
theorem dX9_isOver_11 : decode cX9_isOver 11 = .ok (.getfield 74, 3) := by decide +kernel
theorem dX9_isOver_14 : decode cX9_isOver 14 = .ok (.iconst 0, 1) := by decide +kernel
theorem dX9_isOver_15 : decode cX9_isOver 15 = .ok (.invokestatic 362, 3) := by decide +kernel
theorem dX9_isOver_18 : decode cX9_isOver 18 = .ok (.aload_n 0, 1) := by decide +kernel
theorem dX9_isOver_19 : decode cX9_isOver 19 = .ok (.iconst 0, 1) := by decide +kernel
theorem dX9_isOver_20 : decode cX9_isOver 20 = .ok (.invokevirtual 408, 3) := by decide +kernel
theorem dX9_isOver_23 : decode cX9_isOver 23 = .ok (.aload_n 0, 1) := by decide +kernel
theorem dX9_isOver_24 : decode cX9_isOver 24 = .ok (.getfield 405, 3) := by decide +kernel
theorem dX9_isOver_27 : decode cX9_isOver 27 = .ok (.ifCond .le 67, 3) := by decide +kernel
theorem dX9_isOver_30 : decode cX9_isOver 30 = .ok (.aload_n 0, 1) := by decide +kernel
theorem dX9_isOver_31 : decode cX9_isOver 31 = .ok (.dup, 1) := by decide +kernel
theorem dX9_isOver_32 : decode cX9_isOver 32 = .ok (.getfield 405, 3) := by decide +kernel
theorem dX9_isOver_35 : decode cX9_isOver 35 = .ok (.iconst 1, 1) := by decide +kernel
theorem dX9_isOver_36 : decode cX9_isOver 36 = .ok (.isub, 1) := by decide +kernel
theorem dX9_isOver_37 : decode cX9_isOver 37 = .ok (.putfield 405, 3) := by decide +kernel
theorem dX9_isOver_40 : decode cX9_isOver 40 = .ok (.aload_n 0, 1) := by decide +kernel
theorem dX9_isOver_41 : decode cX9_isOver 41 = .ok (.getfield 109, 3) := by decide +kernel
theorem dX9_isOver_44 : decode cX9_isOver 44 = .ok (.bipush 25, 2) := by decide +kernel
theorem dX9_isOver_46 : decode cX9_isOver 46 = .ok (.aload_n 0, 1) := by decide +kernel
theorem dX9_isOver_47 : decode cX9_isOver 47 = .ok (.getfield 405, 3) := by decide +kernel
theorem dX9_isOver_50 : decode cX9_isOver 50 = .ok (.imul, 1) := by decide +kernel
theorem dX9_isOver_51 : decode cX9_isOver 51 = .ok (.aload_n 0, 1) := by decide +kernel
theorem dX9_isOver_52 : decode cX9_isOver 52 = .ok (.getfield 71, 3) := by decide +kernel
theorem dX9_isOver_55 : decode cX9_isOver 55 = .ok (.iconst 0, 1) := by decide +kernel
theorem dX9_isOver_56 : decode cX9_isOver 56 = .ok (.invokestatic 362, 3) := by decide +kernel
theorem dX9_isOver_59 : decode cX9_isOver 59 = .ok (.aload_n 0, 1) := by decide +kernel
theorem dX9_isOver_60 : decode cX9_isOver 60 = .ok (.getfield 112, 3) := by decide +kernel
theorem dX9_isOver_63 : decode cX9_isOver 63 = .ok (.aload_n 0, 1) := by decide +kernel
theorem dX9_isOver_64 : decode cX9_isOver 64 = .ok (.getfield 405, 3) := by decide +kernel
theorem dX9_isOver_67 : decode cX9_isOver 67 = .ok (.iaload, 1) := by decide +kernel
theorem dX9_isOver_68 : decode cX9_isOver 68 = .ok (.aload_n 0, 1) := by decide +kernel
theorem dX9_isOver_69 : decode cX9_isOver 69 = .ok (.getfield 411, 3) := by decide +kernel
theorem dX9_isOver_72 : decode cX9_isOver 72 = .ok (.if_icmp .ne 5, 3) := by decide +kernel
theorem dX9_isOver_75 : decode cX9_isOver 75 = .ok (.iconst 1, 1) := by decide +kernel
theorem dX9_isOver_76 : decode cX9_isOver 76 = .ok (.ireturn, 1) := by decide +kernel
theorem dX9_isOver_77 : decode cX9_isOver 77 = .ok (.aload_n 0, 1) := by decide +kernel
theorem dX9_isOver_78 : decode cX9_isOver 78 = .ok (.aload_n 0, 1) := by decide +kernel
theorem dX9_isOver_79 : decode cX9_isOver 79 = .ok (.getfield 112, 3) := by decide +kernel
theorem dX9_isOver_82 : decode cX9_isOver 82 = .ok (.aload_n 0, 1) := by decide +kernel
theorem dX9_isOver_83 : decode cX9_isOver 83 = .ok (.getfield 405, 3) := by decide +kernel
theorem dX9_isOver_86 : decode cX9_isOver 86 = .ok (.iaload, 1) := by decide +kernel
theorem dX9_isOver_87 : decode cX9_isOver 87 = .ok (.invokevirtual 414, 3) := by decide +kernel
theorem dX9_isOver_90 : decode cX9_isOver 90 = .ok (.pop, 1) := by decide +kernel
theorem dX9_isOver_91 : decode cX9_isOver 91 = .ok (.goto (-68), 3) := by decide +kernel
theorem dX9_isOver_94 : decode cX9_isOver 94 = .ok (.iconst 0, 1) := by decide +kernel
theorem dX9_isOver_95 : decode cX9_isOver 95 = .ok (.ireturn, 1) := by decide +kernel
abbrev vs_EM_isOver : List Cond := .code yX9_isOver cX9_isOver 1 (some .boolean) :: VM
theorem g_EM_isOver_EM_copies_zy : GoodIn vs_EM_isOver (va_wsS RX9 362 yX9_copies vs_EM_copies_zy) := gm_S vm_228 vm_229 vm_19 vm_230
theorem g_EM_isOver_EM_keepsPiece : GoodIn vs_EM_isOver (wsV RX9 408 RX9 yX9_keepsPiece vs_EM_keepsPiece) := gm_V vm_281 vm_282 vm_283 vm_19 vm_284
theorem g_EM_isOver_EM_copies_pz : GoodIn vs_EM_isOver (va_wsS RX9 362 yX9_copies vs_EM_copies_pz) := gm_S vm_228 vm_229 vm_19 vm_230
theorem g_EM_isOver_EM_parts : GoodIn vs_EM_isOver (wsV RX9 414 RX9 yX9_parts vs_EM_parts) := gm_V vm_286 vm_287 vm_288 vm_19 vm_289
noncomputable def sp_EM_isOver_L1 (x46 : Nat) (x53 : Nat) (f51 : Nat → Int32) : ((Nat → Int32) × (Nat → Int32) × (Nat → Int32) × (Nat → Int32) × Nat) → ((Nat → Int32) × (Nat → Int32) × (Nat → Int32) × (Nat → Int32) × Nat) ⊕ (Nat × (Nat → Int32) × (Nat → Int32) × (Nat → Int32) × (Nat → Int32) × Nat) := fun (g_11, g_12, g_13, g_14, g_15) => (if g_15 ≤ 0 then (Sum.inr (0, g_11, g_12, g_13, g_14, g_15)) else (slet ((g_14 (g_15 - 1) : Int32).toNatClampNeg) (fun k_25 => (slet (sp_EM_copies_pz g_11 g_13 (25 * (g_15 - 1))) (fun z35_28 => (if k_25 = x53 then (Sum.inr (1, z35_28, g_12, g_13, g_14, (g_15 - 1))) else (slet (sp_EM_parts x46 (g_15 - 1) z35_28 g_12 g_13 g_14 f51 k_25) (fun (u_38, z35_33, z36_34, z49_35, z50_36, z52_37) => (Sum.inl (z35_33, z36_34, z49_35, z50_36, z52_37))))))))))
noncomputable def sp_EM_isOver (x46 : Nat) (x53 : Nat) (f35 : Nat → Int32) (f36 : Nat → Int32) (f49 : Nat → Int32) (f50 : Nat → Int32) (f51 : Nat → Int32) : Nat × (Nat → Int32) × (Nat → Int32) × (Nat → Int32) × (Nat → Int32) × Nat := (slet (sp_EM_copies_zy f35 f36) (fun z36_2 => (slet (sp_EM_keepsPiece 0 z36_2 f49 f50 0) (fun z49_4 => (itrv (α := (Nat → Int32) × (Nat → Int32) × (Nat → Int32) × (Nat → Int32) × Nat) (β := (Nat × (Nat → Int32) × (Nat → Int32) × (Nat → Int32) × (Nat → Int32) × Nat)) default (sp_EM_isOver_L1 x46 x53 f51) (f35, z36_2, z49_4, (upd f50 ((nI 0) : Int32).toNatClampNeg (nI 0)), (0 + 1)))))))
set_option maxHeartbeats 4000000 in
set_option maxRecDepth 100000 in
theorem c_EM_isOver (l : Launch) (dC : Nat → ClassId) (dI : Nat → Nat → Nat) (sz : Nat) (ad : Nat → Nat) (ck : Nat → ClassId) (x0 : Int32) (x16 : Nat) (x18 : Nat) (x19 : Nat) (x20 : Int32) (x21 : Nat) (x22 : Nat) (x23 : Int32) (x24 : Int32) (x25 : Int32) (x26 : Nat) (x27 : Int32) (x28 : Nat) (x29 : Nat) (x30 : Nat) (x33 : Nat) (x45 : Int32) (x46 : Nat) (x52 : Nat) (x53 : Nat) (x61 : Nat) (x62 : Nat) (x63 : Nat) (x65 : Nat) (x66 : Int32) (f1 : Nat → Int32) (f2 : Nat → Int32) (f3 : Nat → Int32) (q4 : Nat → Nat) (q5 : Nat → Nat) (q6 : Nat → Nat) (q7 : Nat → Nat) (f8 : Nat → Int32) (q9 : Nat → Nat) (q10 : Nat → Nat) (f11 : Nat → Int32) (m12_0 m12_1 : Nat) (m13_0 m13_1 : Nat) (m14_0 m14_1 : Nat) (m15_0 m15_1 : Nat) (f17 : Nat → Int32) (q31 : Nat → Nat) (f32 : Nat → Int32) (f34 : Nat → Int32) (f35 : Nat → Int32) (f36 : Nat → Int32) (f37 : Nat → Int32) (q38 : Nat → Nat) (f39 : Nat → Int32) (f40 : Nat → Int32) (f41 : Nat → Int32) (m42_0 m42_1 : Nat) (f43 : Nat → Int32) (f44 : Nat → Int32) (f47 : Nat → Int32) (f48 : Nat → Int32) (f49 : Nat → Int32) (f50 : Nat → Int32) (f51 : Nat → Int32) (q54 : Nat → Nat) (q55 : Nat → Nat) (q56 : Nat → Nat) (f57 : Nat → Int32) (q58 : Nat → Nat) (f59 : Nat → Int32) (f60 : Nat → Int32) (f64 : Nat → Int32) (hx16 : x16 ≤ 1) (hx18 : x18 ≤ 900) (hx19 : x19 ≤ 900) (hx21 : x21 ≤ 900) (hx22 : x22 ≤ 4) (hx26 : x26 ≤ 6) (hx28 : x28 ≤ 1) (hx29 : x29 ≤ 1) (hx30 : x30 ≤ 1) (hx33 : x33 ≤ 20) (hx46 : x46 ≤ 5) (hx52 : x52 ≤ 2400) (hx53 : x53 ≤ 119) (hx61 : x61 ≤ 119) (hx62 : x62 ≤ 2000) (hx63 : x63 ≤ 1) (hx65 : x65 ≤ 7) (hm12_0 : m12_0 ≤ 3) (hm12_1 : m12_1 ≤ 3) (hm13_0 : m13_0 ≤ 8) (hm13_1 : m13_1 ≤ 8) (hm14_0 : m14_0 ≤ 14) (hm14_1 : m14_1 ≤ 14) (hm15_0 : m15_0 ≤ 8) (hm15_1 : m15_1 ≤ 8) (hm42_0 : m42_0 ≤ 120) (hm42_1 : m42_1 ≤ 400) : Met l yX9_isOver vs_EM_isOver ({ frames := 3, cells := 0, slots := 0, locals := 69 }) (va_Pc [.ref (ad 0)] (pu_B (dC, dI) (mo_w ad ck x0 (nI x16) (nI x18) (nI x19) x20 (nI x21) (nI x22) x23 x24 x25 (nI x26) x27 (nI x28) (nI x29) (nI x30) (nI x33) x45 (nI x46) (nI x52) (nI x53) (nI x61) (nI x62) (nI x63) (nI x65) x66 f1 f2 f3 (bN 3 q4) (bN 7 q5) (bN 7 q6) (bN 4 q7) f8 (bN 2 q9) (bH q10) f11 (b2 m12_0 m12_1) (b2 m13_0 m13_1) (b2 m14_0 m14_1) (b2m m15_0 m15_1) f17 (bA 159 q31) f32 f34 f35 f36 f37 (bN 7 q38) f39 f40 f41 (b2 m42_0 m42_1) f43 f44 f47 f48 f49 f50 f51 (bN 13 q54) (bN 120 q55) (bN 120 q56) f57 (bN 120 q58) f59 f60 f64) (mo_t ck) sz)) (va_Qi (fun (r : Int32) (_ : Unit) => ∃ v : Nat, v ≤ 1 ∧ r = nI v ∧ v = (sp_EM_isOver x46 x53 f35 f36 f49 f50 f51).1) (fun _ t => ∃ (z35 : Nat → Int32) (z36 : Nat → Int32) (z49 : Nat → Int32) (z50 : Nat → Int32) (z52 : Nat), pu_E (dC, dI) (mo_w ad ck x0 (nI x16) (nI x18) (nI x19) x20 (nI x21) (nI x22) x23 x24 x25 (nI x26) x27 (nI x28) (nI x29) (nI x30) (nI x33) x45 (nI x46) (nI z52) (nI x53) (nI x61) (nI x62) (nI x63) (nI x65) x66 f1 f2 f3 (bN 3 q4) (bN 7 q5) (bN 7 q6) (bN 4 q7) f8 (bN 2 q9) (bH q10) f11 (b2 m12_0 m12_1) (b2 m13_0 m13_1) (b2 m14_0 m14_1) (b2m m15_0 m15_1) f17 (bA 159 q31) f32 f34 z35 z36 f37 (bN 7 q38) f39 f40 f41 (b2 m42_0 m42_1) f43 f44 f47 f48 z49 z50 f51 (bN 13 q54) (bN 120 q55) (bN 120 q56) f57 (bN 120 q58) f59 f60 f64) (mo_t ck) (va_A ((mo_w ad ck x0 (nI x16) (nI x18) (nI x19) x20 (nI x21) (nI x22) x23 x24 x25 (nI x26) x27 (nI x28) (nI x29) (nI x30) (nI x33) x45 (nI x46) (nI x52) (nI x53) (nI x61) (nI x62) (nI x63) (nI x65) x66 f1 f2 f3 (bN 3 q4) (bN 7 q5) (bN 7 q6) (bN 4 q7) f8 (bN 2 q9) (bH q10) f11 (b2 m12_0 m12_1) (b2 m13_0 m13_1) (b2 m14_0 m14_1) (b2m m15_0 m15_1) f17 (bA 159 q31) f32 f34 f35 f36 f37 (bN 7 q38) f39 f40 f41 (b2 m42_0 m42_1) f43 f44 f47 f48 f49 f50 f51 (bN 13 q54) (bN 120 q55) (bN 120 q56) f57 (bN 120 q58) f59 f60 f64)) sz) t ∧ (z52 ≤ 2400) ∧ ((z35, z36, z49, z50, z52) = (sp_EM_isOver x46 x53 f35 f36 f49 f50 f51).2)) (va_A ((mo_w ad ck x0 (nI x16) (nI x18) (nI x19) x20 (nI x21) (nI x22) x23 x24 x25 (nI x26) x27 (nI x28) (nI x29) (nI x30) (nI x33) x45 (nI x46) (nI x52) (nI x53) (nI x61) (nI x62) (nI x63) (nI x65) x66 f1 f2 f3 (bN 3 q4) (bN 7 q5) (bN 7 q6) (bN 4 q7) f8 (bN 2 q9) (bH q10) f11 (b2 m12_0 m12_1) (b2 m13_0 m13_1) (b2 m14_0 m14_1) (b2m m15_0 m15_1) f17 (bA 159 q31) f32 f34 f35 f36 f37 (bN 7 q38) f39 f40 f41 (b2 m42_0 m42_1) f43 f44 f47 f48 f49 f50 f51 (bN 13 q54) (bN 120 q55) (bN 120 q56) f57 (bN 120 q58) f59 f60 f64)) sz)) 0 0 (va_A ((mo_w ad ck x0 (nI x16) (nI x18) (nI x19) x20 (nI x21) (nI x22) x23 x24 x25 (nI x26) x27 (nI x28) (nI x29) (nI x30) (nI x33) x45 (nI x46) (nI x52) (nI x53) (nI x61) (nI x62) (nI x63) (nI x65) x66 f1 f2 f3 (bN 3 q4) (bN 7 q5) (bN 7 q6) (bN 4 q7) f8 (bN 2 q9) (bH q10) f11 (b2 m12_0 m12_1) (b2 m13_0 m13_1) (b2 m14_0 m14_1) (b2m m15_0 m15_1) f17 (bA 159 q31) f32 f34 f35 f36 f37 (bN 7 q38) f39 f40 f41 (b2 m42_0 m42_1) f43 f44 f47 f48 f49 f50 f51 (bN 13 q54) (bN 120 q55) (bN 120 q56) f57 (bN 120 q58) f59 f60 f64)) sz) := by
  refine Met.ofW (cc := cX9_isOver) (maxL := 1) (ret := (some .boolean)) (by decide) rfl ?_
  intro p e s m args below meth c s₁ B hml hv
  obtain ⟨rfl, rfl, hP, hK, hD0⟩ := hv
  have hx := B.exec
  have hb := B.bytes
  have hr := B.returns
  have hts := atoms_spec (ws := vs_EM_isOver) B.pre
  have v_1 := hts (.fieldLink RX9 405 "ClockReachModel" "pieces" "I") (List.mem_cons_of_mem _ vm_279)
  have v_2 := hts (.fieldLink RX9 71 "ClockReachModel" "z" "[I") (List.mem_cons_of_mem _ vm_219)
  have v_3 := hts (.fieldLink RX9 74 "ClockReachModel" "y" "[I") (List.mem_cons_of_mem _ vm_277)
  have v_12 := hts (.fieldLink RX9 109 "ClockReachModel" "piece" "[I") (List.mem_cons_of_mem _ vm_278)
  have v_13 := hts (.fieldLink RX9 112 "ClockReachModel" "pieceFrom" "[I") (List.mem_cons_of_mem _ vm_280)
  have v_14 := hts (.fieldLink RX9 411 "ClockReachModel" "coverMany" "I") (List.mem_cons_of_mem _ vm_290)
  have hown : s.vm.findClass RX9 = some m.cls := findClass_of_methodNamed B.named
  have hlocks := B.notSynchronized
  have hiX9 : ∀ w ∈ wsX90, w ∈ vs_EM_isOver := fun _ h => List.mem_cons_of_mem _ (vmi_L h)
  have hD := hD0.self (sz := s.heap.size)
  generalize hAe : va_A ((mo_w ad ck x0 (nI x16) (nI x18) (nI x19) x20 (nI x21) (nI x22) x23 x24 x25 (nI x26) x27 (nI x28) (nI x29) (nI x30) (nI x33) x45 (nI x46) (nI x52) (nI x53) (nI x61) (nI x62) (nI x63) (nI x65) x66 f1 f2 f3 (bN 3 q4) (bN 7 q5) (bN 7 q6) (bN 4 q7) f8 (bN 2 q9) (bH q10) f11 (b2 m12_0 m12_1) (b2 m13_0 m13_1) (b2 m14_0 m14_1) (b2m m15_0 m15_1) f17 (bA 159 q31) f32 f34 f35 f36 f37 (bN 7 q38) f39 f40 f41 (b2 m42_0 m42_1) f43 f44 f47 f48 f49 f50 f51 (bN 13 q54) (bN 120 q55) (bN 120 q56) f57 (bN 120 q58) f59 f60 f64)) s.heap.size = A at hD ⊢
  have hA : ∀ q : Nat, s.heap.size ≤ q → A q := fun q h => by rw [← hAe]; exact Or.inr h
  have hS : va_S A s.heap s.heap [] := va_S.rf
  have hl := lv_entry ([.ref (ad 0)]) (n := 1) (Nat.le_of_ble_eq_true rfl)
  rw [lg_entry_eq]
  generalize (lg_sl ([.ref (ad 0)]) ++ List.replicate (1 - (lg_sl ([.ref (ad 0)])).length) Slot.unset).toArray = ls at hl ⊢
  have hl : lv_has ls 1 [(0, .ref (ad 0))] := hl
  obtain ⟨RR, hRR⟩ : ∃ x, x = (sp_EM_isOver x46 x53 f35 f36 f49 f50 f51) := ⟨_, rfl⟩
  have hsp := hRR
  refine lv_aload_n hx hb dX9_isOver_0 rfl (lv_at hl 0 rfl) ?_
  refine lv_iconst (v := 0) hx hb dX9_isOver_1 (by decide) ?_
  refine va_put (D := (dC, dI)) (ci := 9) (v := .int 0) (ty := .int) (C := RX9) (T := TX9) (N := 67) hx hb hts hiX9 tyX9 tyX9_ok nmX9 hown hK hP hD hS 0 rfl rfl 52 (by decide) v_1 (fun _ h9 => h9) rfl (by decide +kernel) rfl rfl (Nat.le_of_ble_eq_true rfl) dX9_isOver_2 (fun H locs hP hD hS => ?_)
  have hP : va_P (dC, dI) vwCl (mo_w ad ck x0 (nI x16) (nI x18) (nI x19) x20 (nI x21) (nI x22) x23 x24 x25 (nI x26) x27 (nI x28) (nI x29) (nI x30) (nI x33) x45 (nI x46) 0 (nI x53) (nI x61) (nI x62) (nI x63) (nI x65) x66 f1 f2 f3 (bN 3 q4) (bN 7 q5) (bN 7 q6) (bN 4 q7) f8 (bN 2 q9) (bH q10) f11 (b2 m12_0 m12_1) (b2 m13_0 m13_1) (b2 m14_0 m14_1) (b2m m15_0 m15_1) f17 (bA 159 q31) f32 f34 f35 f36 f37 (bN 7 q38) f39 f40 f41 (b2 m42_0 m42_1) f43 f44 f47 f48 f49 f50 f51 (bN 13 q54) (bN 120 q55) (bN 120 q56) f57 (bN 120 q58) f59 f60 f64) H := hP
  have hD : va_D A (mo_w ad ck x0 (nI x16) (nI x18) (nI x19) x20 (nI x21) (nI x22) x23 x24 x25 (nI x26) x27 (nI x28) (nI x29) (nI x30) (nI x33) x45 (nI x46) 0 (nI x53) (nI x61) (nI x62) (nI x63) (nI x65) x66 f1 f2 f3 (bN 3 q4) (bN 7 q5) (bN 7 q6) (bN 4 q7) f8 (bN 2 q9) (bH q10) f11 (b2 m12_0 m12_1) (b2 m13_0 m13_1) (b2 m14_0 m14_1) (b2m m15_0 m15_1) f17 (bA 159 q31) f32 f34 f35 f36 f37 (bN 7 q38) f39 f40 f41 (b2 m42_0 m42_1) f43 f44 f47 f48 f49 f50 f51 (bN 13 q54) (bN 120 q55) (bN 120 q56) f57 (bN 120 q58) f59 f60 f64) := hD
  refine lv_aload_n hx hb dX9_isOver_5 rfl (lv_at hl 0 rfl) ?_
  refine va_get (D := (dC, dI)) (ci := 9) (v := .ref (ad 35)) (C := RX9) (T := TX9) (N := 67) hx hb hts hiX9 hown hK hP 0 rfl rfl 35 (by decide) v_2 (fun _ h9 => h9) rfl dX9_isOver_6 ?_
  refine lv_iconst (v := 0) hx hb dX9_isOver_9 (by decide) ?_
  refine lv_aload_n hx hb dX9_isOver_10 rfl (lv_at hl 0 rfl) ?_
  refine va_get (D := (dC, dI)) (ci := 9) (v := .ref (ad 36)) (C := RX9) (T := TX9) (N := 67) hx hb hts hiX9 hown hK hP 0 rfl rfl 36 (by decide) v_3 (fun _ h9 => h9) rfl dX9_isOver_11 ?_
  refine lv_iconst (v := 0) hx hb dX9_isOver_14 (by decide) ?_
  have hFc := pu_free hD hS hA
  refine va_callv (va_runS (As := [.ref (ad 35), .int 0, .ref (ad 36), .int 0]) (rest := []) ⟨hx, hb, hml, hown, hts⟩ (c_EM_copies_zy l dC dI _ ad ck x0 x16 x18 x19 x20 x21 x22 x23 x24 x25 x26 x27 x28 x29 x30 x33 x45 x46 0 x53 x61 x62 x63 x65 x66 f1 f2 f3 q4 q5 q6 q7 f8 q9 q10 f11 m12_0 m12_1 m13_0 m13_1 m14_0 m14_1 m15_0 m15_1 f17 q31 f32 f34 f35 f36 f37 q38 f39 f40 f41 m42_0 m42_1 f43 f44 f47 f48 f49 f50 f51 q54 q55 q56 f57 q58 f59 f60 f64 hx16 hx18 hx19 hx21 hx22 hx26 hx28 hx29 hx30 hx33 hx46 (Nat.le_of_ble_eq_true rfl) hx53 hx61 hx62 hx63 hx65 hm12_0 hm12_1 hm13_0 hm13_1 hm14_0 hm14_1 hm15_0 hm15_1 hm42_0 hm42_1) (va_cwS 4 hts g_EM_isOver_EM_copies_zy rfl rfl rfl (by decide +kernel) ⟨Nat.le_of_ble_eq_true rfl, Nat.le_of_ble_eq_true rfl⟩) ⟨pu_bl, pu_in hP hK hD⟩ rfl rfl hl.1 rfl (lv_room (Nat.le_of_ble_eq_true rfl)) dX9_isOver_15 ⟨Nat.le_of_ble_eq_true rfl, Nat.le_of_ble_eq_true rfl⟩) hS (fun q _ h => hFc q h) hFc (fun u t H1 locs ht hvm hw hB hz1 hk1 hS => ?_)
  obtain ⟨z36_2, ⟨hP1, -, hD1⟩, xr_1_0⟩ := hB
  rw [ht] at hP1
  have hP := hP1
  have hD := pu_all hFc hD1
  clear hP1 hD1 hFc
  clear hk1 hz1 ht hvm
  generalize H1 = H at hP hS ⊢
  replace hsp := hsp.trans (slet_eq xr_1_0)
  refine lv_aload_n hx hb dX9_isOver_18 rfl (lv_at hl 0 rfl) ?_
  refine lv_iconst (v := 0) hx hb dX9_isOver_19 (by decide) ?_
  have hFc := pu_free hD hS hA
  refine va_callv (va_runV (As := [.int 0]) (rest := []) ⟨hx, hb, hml, hown, hts⟩ (c_EM_keepsPiece l dC dI _ ad ck x0 x16 x18 x19 x20 x21 x22 x23 x24 x25 x26 x27 x28 x29 x30 x33 x45 x46 0 x53 x61 x62 x63 x65 x66 f1 f2 f3 q4 q5 q6 q7 f8 q9 q10 f11 m12_0 m12_1 m13_0 m13_1 m14_0 m14_1 m15_0 m15_1 f17 q31 f32 f34 f35 z36_2 f37 q38 f39 f40 f41 m42_0 m42_1 f43 f44 f47 f48 f49 f50 f51 q54 q55 q56 f57 q58 f59 f60 f64 0 hx16 hx18 hx19 hx21 hx22 hx26 hx28 hx29 hx30 hx33 hx46 (Nat.le_of_ble_eq_true rfl) hx53 hx61 hx62 hx63 hx65 hm12_0 hm12_1 hm13_0 hm13_1 hm14_0 hm14_1 hm15_0 hm15_1 hm42_0 hm42_1 (Nat.le_of_ble_eq_true rfl)) (cwV 1 hts g_EM_isOver_EM_keepsPiece rfl rfl rfl (by decide +kernel) ⟨Nat.le_of_ble_eq_true rfl, Nat.le_of_ble_eq_true rfl⟩) ⟨pu_bl, va_recv hK hP (ci := 9) (q0 := 0) rfl rfl, pu_in hP hK hD⟩ rfl rfl hl.1 rfl (lv_room (Nat.le_of_ble_eq_true rfl)) dX9_isOver_20 ⟨Nat.le_of_ble_eq_true rfl, Nat.le_of_ble_eq_true rfl⟩) hS (fun q _ h => hFc q h) hFc (fun u t H1 locs ht hvm hw hB hz1 hk1 hS => ?_)
  obtain ⟨z49_4, ⟨hP1, -, hD1⟩, xr_3_0⟩ := hB
  rw [ht] at hP1
  have hP := hP1
  have hD := pu_all hFc hD1
  clear hP1 hD1 hFc
  clear hk1 hz1 ht hvm
  generalize H1 = H at hP hS ⊢
  replace hsp := hsp.trans (slet_eq xr_3_0)
  obtain ⟨lf_18, dlf_18, hlf_18, hsp⟩ := itr_ex hsp
  delta sp_EM_isOver_L1 at hlf_18
  refine pu_while (fun nn H locs ls => ∃ (g_11 : Nat → Int32) (g_12 : Nat → Int32) (g_13 : Nat → Int32) (g_14 : Nat → Int32) (g_15 : Nat), nn = wt x53 g_14 g_15 ∧ g_15 ≤ 2400 ∧ pf_ok g_15 x53 g_14 ∧ RR = itrv dlf_18 lf_18 (g_11, g_12, g_13, g_14, g_15) ∧ va_P (dC, dI) vwCl (mo_w ad ck x0 (nI x16) (nI x18) (nI x19) x20 (nI x21) (nI x22) x23 x24 x25 (nI x26) x27 (nI x28) (nI x29) (nI x30) (nI x33) x45 (nI x46) (nI g_15) (nI x53) (nI x61) (nI x62) (nI x63) (nI x65) x66 f1 f2 f3 (bN 3 q4) (bN 7 q5) (bN 7 q6) (bN 4 q7) f8 (bN 2 q9) (bH q10) f11 (b2 m12_0 m12_1) (b2 m13_0 m13_1) (b2 m14_0 m14_1) (b2m m15_0 m15_1) f17 (bA 159 q31) f32 f34 g_11 g_12 f37 (bN 7 q38) f39 f40 f41 (b2 m42_0 m42_1) f43 f44 f47 f48 g_13 g_14 f51 (bN 13 q54) (bN 120 q55) (bN 120 q56) f57 (bN 120 q58) f59 f60 f64) H ∧ va_D A (mo_w ad ck x0 (nI x16) (nI x18) (nI x19) x20 (nI x21) (nI x22) x23 x24 x25 (nI x26) x27 (nI x28) (nI x29) (nI x30) (nI x33) x45 (nI x46) (nI g_15) (nI x53) (nI x61) (nI x62) (nI x63) (nI x65) x66 f1 f2 f3 (bN 3 q4) (bN 7 q5) (bN 7 q6) (bN 4 q7) f8 (bN 2 q9) (bH q10) f11 (b2 m12_0 m12_1) (b2 m13_0 m13_1) (b2 m14_0 m14_1) (b2m m15_0 m15_1) f17 (bA 159 q31) f32 f34 g_11 g_12 f37 (bN 7 q38) f39 f40 f41 (b2 m42_0 m42_1) f43 f44 f47 f48 g_13 g_14 f51 (bN 13 q54) (bN 120 q55) (bN 120 q56) f57 (bN 120 q58) f59 f60 f64) ∧ va_S A s.heap H locs ∧ lv_has ls 1 [(0, .ref (ad 0))]) 23 ?_ _ _ _ _ ⟨f35, z36_2, z49_4, (upd f50 ((nI 0) : Int32).toNatClampNeg (nI 0)), (0 + 1), rfl, (by omega), by first | assumption | exact pf_refl | exact pf_step (by assumption) (by omega) | exact pf_one | exact pf_app (by assumption) (by assumption) (by omega) (by omega) (by omega) (by omega), hsp, hP, hD, hS, lv_sub hl [0] rfl⟩
  rintro nn ih_17 H locs ls ⟨g_11, g_12, g_13, g_14, g_15, rfl, hg_15, he_16, he_20, hP, hD, hS, hl⟩
  obtain ⟨S_19, hsp, hin_21, hout_22⟩ := itr_step hlf_18 he_20
  refine lv_aload_n hx hb dX9_isOver_23 rfl (lv_at hl 0 rfl) ?_
  refine va_get (D := (dC, dI)) (ci := 9) (v := .int (nI g_15)) (C := RX9) (T := TX9) (N := 67) hx hb hts hiX9 hown hK hP 0 rfl rfl 52 (by decide) v_1 (fun _ h9 => h9) rfl dX9_isOver_24 ?_
  refine lv_if_le (tgt := 94) hx hb dX9_isOver_27 (by decide) (fun c_23 => ?_) (fun c_23 => ?_)
  · have c_23 : g_15 ≤ 0 := (nI_leI (a := g_15) (b := 0) (Nat.lt_of_le_of_lt hg_15 (Nat.le_of_ble_eq_true rfl)) (Nat.le_of_ble_eq_true rfl)).mp c_23
    replace hsp := hsp.trans (if_pos c_23)
    have hsp := hout_22 _ hsp
    refine lv_iconst (v := 0) hx hb dX9_isOver_94 (by decide) ?_
    exact W.zret (v := 0) (ty := .boolean) hx hb hr (rfl) (fun t ht hW => ⟨⟨0, (), rfl, ⟨0, (Nat.le_of_ble_eq_true rfl), rfl, (congrArg Prod.fst (hsp.symm.trans hRR))⟩, ⟨g_11, g_12, g_13, g_14, g_15, ⟨by rw [ht]; exact hP, va_K.moved hW.alike hK, hD⟩, hg_15, (congrArg Prod.snd (hsp.symm.trans hRR))⟩⟩, hS.F ht⟩) hS.2.2 dX9_isOver_95
  · have c_23 : ¬ g_15 ≤ 0 := fun z => c_23 ((nI_leI (a := g_15) (b := 0) (Nat.lt_of_le_of_lt hg_15 (Nat.le_of_ble_eq_true rfl)) (Nat.le_of_ble_eq_true rfl)).mpr z)
    replace hsp := hsp.trans (if_neg c_23)
    refine lv_aload_n hx hb dX9_isOver_30 rfl (lv_at hl 0 rfl) ?_
    refine lv_dup hx hb dX9_isOver_31 rfl ?_
    refine va_get (D := (dC, dI)) (ci := 9) (v := .int (nI g_15)) (C := RX9) (T := TX9) (N := 67) hx hb hts hiX9 hown hK hP 0 rfl rfl 52 (by decide) v_1 (fun _ h9 => h9) rfl dX9_isOver_32 ?_
    refine lv_iconst (v := 1) hx hb dX9_isOver_35 (by decide) ?_
    refine lv_isub hx hb dX9_isOver_36 ?_
    refine lv_topi (fun y_24 ey_24 => ?_)
    obtain rfl : y_24 = (nI (g_15 - 1)) := ey_24.trans (pk_sub (a := g_15) (b := 1) (by omega))
    refine va_put (D := (dC, dI)) (ci := 9) (v := .int (nI (g_15 - 1))) (ty := .int) (C := RX9) (T := TX9) (N := 67) hx hb hts hiX9 tyX9 tyX9_ok nmX9 hown hK hP hD hS 0 rfl rfl 52 (by decide) v_1 (fun _ h9 => h9) rfl (by decide +kernel) rfl rfl (Nat.le_of_ble_eq_true rfl) dX9_isOver_37 (fun H locs hP hD hS => ?_)
    have hP : va_P (dC, dI) vwCl (mo_w ad ck x0 (nI x16) (nI x18) (nI x19) x20 (nI x21) (nI x22) x23 x24 x25 (nI x26) x27 (nI x28) (nI x29) (nI x30) (nI x33) x45 (nI x46) (nI (g_15 - 1)) (nI x53) (nI x61) (nI x62) (nI x63) (nI x65) x66 f1 f2 f3 (bN 3 q4) (bN 7 q5) (bN 7 q6) (bN 4 q7) f8 (bN 2 q9) (bH q10) f11 (b2 m12_0 m12_1) (b2 m13_0 m13_1) (b2 m14_0 m14_1) (b2m m15_0 m15_1) f17 (bA 159 q31) f32 f34 g_11 g_12 f37 (bN 7 q38) f39 f40 f41 (b2 m42_0 m42_1) f43 f44 f47 f48 g_13 g_14 f51 (bN 13 q54) (bN 120 q55) (bN 120 q56) f57 (bN 120 q58) f59 f60 f64) H := hP
    have hD : va_D A (mo_w ad ck x0 (nI x16) (nI x18) (nI x19) x20 (nI x21) (nI x22) x23 x24 x25 (nI x26) x27 (nI x28) (nI x29) (nI x30) (nI x33) x45 (nI x46) (nI (g_15 - 1)) (nI x53) (nI x61) (nI x62) (nI x63) (nI x65) x66 f1 f2 f3 (bN 3 q4) (bN 7 q5) (bN 7 q6) (bN 4 q7) f8 (bN 2 q9) (bH q10) f11 (b2 m12_0 m12_1) (b2 m13_0 m13_1) (b2 m14_0 m14_1) (b2m m15_0 m15_1) f17 (bA 159 q31) f32 f34 g_11 g_12 f37 (bN 7 q38) f39 f40 f41 (b2 m42_0 m42_1) f43 f44 f47 f48 g_13 g_14 f51 (bN 13 q54) (bN 120 q55) (bN 120 q56) f57 (bN 120 q58) f59 f60 f64) := hD
    obtain ⟨k_25, fk_25, ak_25, bk_25, gk_25⟩ := pf_get (i := (g_15 - 1)) (by assumption) (by omega) (by omega)
    replace hsp := hsp.trans (slet_eq (cl_of fk_25 (by omega) (by omega)))
    refine lv_aload_n hx hb dX9_isOver_40 rfl (lv_at hl 0 rfl) ?_
    refine va_get (D := (dC, dI)) (ci := 9) (v := .ref (ad 49)) (C := RX9) (T := TX9) (N := 67) hx hb hts hiX9 hown hK hP 0 rfl rfl 49 (by decide) v_12 (fun _ h9 => h9) rfl dX9_isOver_41 ?_
    refine lv_bipush (v := 25) hx hb dX9_isOver_44 (by decide) ?_
    refine lv_aload_n hx hb dX9_isOver_46 rfl (lv_at hl 0 rfl) ?_
    refine va_get (D := (dC, dI)) (ci := 9) (v := .int (nI (g_15 - 1))) (C := RX9) (T := TX9) (N := 67) hx hb hts hiX9 hown hK hP 0 rfl rfl 52 (by decide) v_1 (fun _ h9 => h9) rfl dX9_isOver_47 ?_
    refine lv_imul hx hb dX9_isOver_50 ?_
    refine lv_topi (fun y_26 ey_26 => ?_)
    obtain rfl : y_26 = (nI (25 * (g_15 - 1))) := ey_26.trans (pk_mul 25 (g_15 - 1))
    refine lv_aload_n hx hb dX9_isOver_51 rfl (lv_at hl 0 rfl) ?_
    refine va_get (D := (dC, dI)) (ci := 9) (v := .ref (ad 35)) (C := RX9) (T := TX9) (N := 67) hx hb hts hiX9 hown hK hP 0 rfl rfl 35 (by decide) v_2 (fun _ h9 => h9) rfl dX9_isOver_52 ?_
    refine lv_iconst (v := 0) hx hb dX9_isOver_55 (by decide) ?_
    have hFc := pu_free hD hS hA
    refine va_callv (va_runS (As := [.ref (ad 49), .int (nI (25 * (g_15 - 1))), .ref (ad 35), .int 0]) (rest := []) ⟨hx, hb, hml, hown, hts⟩ (c_EM_copies_pz l dC dI _ ad ck x0 x16 x18 x19 x20 x21 x22 x23 x24 x25 x26 x27 x28 x29 x30 x33 x45 x46 (g_15 - 1) x53 x61 x62 x63 x65 x66 f1 f2 f3 q4 q5 q6 q7 f8 q9 q10 f11 m12_0 m12_1 m13_0 m13_1 m14_0 m14_1 m15_0 m15_1 f17 q31 f32 f34 g_11 g_12 f37 q38 f39 f40 f41 m42_0 m42_1 f43 f44 f47 f48 g_13 g_14 f51 q54 q55 q56 f57 q58 f59 f60 f64 (25 * (g_15 - 1)) hx16 hx18 hx19 hx21 hx22 hx26 hx28 hx29 hx30 hx33 hx46 (by omega) hx53 hx61 hx62 hx63 hx65 hm12_0 hm12_1 hm13_0 hm13_1 hm14_0 hm14_1 hm15_0 hm15_1 hm42_0 hm42_1 (by omega)) (va_cwS 4 hts g_EM_isOver_EM_copies_pz rfl rfl rfl (by decide +kernel) ⟨Nat.le_of_ble_eq_true rfl, Nat.le_of_ble_eq_true rfl⟩) ⟨pu_bl, pu_in hP hK hD⟩ rfl rfl hl.1 rfl (lv_room (Nat.le_of_ble_eq_true rfl)) dX9_isOver_56 ⟨Nat.le_of_ble_eq_true rfl, Nat.le_of_ble_eq_true rfl⟩) hS (fun q _ h => hFc q h) hFc (fun u t H1 locs ht hvm hw hB hz1 hk1 hS => ?_)
    obtain ⟨z35_28, ⟨hP1, -, hD1⟩, xr_27_0⟩ := hB
    rw [ht] at hP1
    have hP := hP1
    have hD := pu_all hFc hD1
    clear hP1 hD1 hFc
    clear hk1 hz1 ht hvm
    generalize H1 = H at hP hS ⊢
    replace hsp := hsp.trans (slet_eq xr_27_0)
    refine lv_aload_n hx hb dX9_isOver_59 rfl (lv_at hl 0 rfl) ?_
    refine va_get (D := (dC, dI)) (ci := 9) (v := .ref (ad 50)) (C := RX9) (T := TX9) (N := 67) hx hb hts hiX9 hown hK hP 0 rfl rfl 50 (by decide) v_13 (fun _ h9 => h9) rfl dX9_isOver_60 ?_
    refine lv_aload_n hx hb dX9_isOver_63 rfl (lv_at hl 0 rfl) ?_
    refine va_get (D := (dC, dI)) (ci := 9) (v := .int (nI (g_15 - 1))) (C := RX9) (T := TX9) (N := 67) hx hb hts hiX9 hown hK hP 0 rfl rfl 52 (by decide) v_1 (fun _ h9 => h9) rfl dX9_isOver_64 ?_
    refine va_iald hx hb hK hP 33 32 rfl rfl (vp_in_nI (n := (g_15 - 1)) (by omega) (Nat.le_of_ble_eq_true rfl)) dX9_isOver_67 ?_
    refine lv_topi (fun y_29 ey_29 => ?_)
    obtain rfl : y_29 = nI k_25 := ey_29.trans fk_25
    refine lv_aload_n hx hb dX9_isOver_68 rfl (lv_at hl 0 rfl) ?_
    refine va_get (D := (dC, dI)) (ci := 9) (v := .int (nI x53)) (C := RX9) (T := TX9) (N := 67) hx hb hts hiX9 hown hK hP 0 rfl rfl 53 (by decide) v_14 (fun _ h9 => h9) rfl dX9_isOver_69 ?_
    refine lv_icmp_ne (tgt := 77) hx hb dX9_isOver_72 (by decide) (fun c_30 => ?_) (fun c_30 => ?_)
    · have c_30 : ¬ k_25 = x53 := fun z => c_30 ((nI_eq (a := k_25) (b := x53) (by omega) (Nat.lt_of_le_of_lt hx53 (Nat.le_of_ble_eq_true rfl))).mpr z)
      replace hsp := hsp.trans (if_neg c_30)
      refine lv_aload_n hx hb dX9_isOver_77 rfl (lv_at hl 0 rfl) ?_
      refine lv_aload_n hx hb dX9_isOver_78 rfl (lv_at hl 0 rfl) ?_
      refine va_get (D := (dC, dI)) (ci := 9) (v := .ref (ad 50)) (C := RX9) (T := TX9) (N := 67) hx hb hts hiX9 hown hK hP 0 rfl rfl 50 (by decide) v_13 (fun _ h9 => h9) rfl dX9_isOver_79 ?_
      refine lv_aload_n hx hb dX9_isOver_82 rfl (lv_at hl 0 rfl) ?_
      refine va_get (D := (dC, dI)) (ci := 9) (v := .int (nI (g_15 - 1))) (C := RX9) (T := TX9) (N := 67) hx hb hts hiX9 hown hK hP 0 rfl rfl 52 (by decide) v_1 (fun _ h9 => h9) rfl dX9_isOver_83 ?_
      refine va_iald hx hb hK hP 33 32 rfl rfl (vp_in_nI (n := (g_15 - 1)) (by omega) (Nat.le_of_ble_eq_true rfl)) dX9_isOver_86 ?_
      refine lv_topi (fun y_31 ey_31 => ?_)
      obtain rfl : y_31 = nI k_25 := ey_31.trans fk_25
      have hFc := pu_free hD hS hA
      refine va_calli (va_runV (As := [.int (nI k_25)]) (rest := []) ⟨hx, hb, hml, hown, hts⟩ (c_EM_parts l dC dI _ ad ck x0 x16 x18 x19 x20 x21 x22 x23 x24 x25 x26 x27 x28 x29 x30 x33 x45 x46 (g_15 - 1) x53 x61 x62 x63 x65 x66 f1 f2 f3 q4 q5 q6 q7 f8 q9 q10 f11 m12_0 m12_1 m13_0 m13_1 m14_0 m14_1 m15_0 m15_1 f17 q31 f32 f34 z35_28 g_12 f37 q38 f39 f40 f41 m42_0 m42_1 f43 f44 f47 f48 g_13 g_14 f51 q54 q55 q56 f57 q58 f59 f60 f64 k_25 hx16 hx18 hx19 hx21 hx22 hx26 hx28 hx29 hx30 hx33 hx46 (by omega) hx53 hx61 hx62 hx63 hx65 hm12_0 hm12_1 hm13_0 hm13_1 hm14_0 hm14_1 hm15_0 hm15_1 hm42_0 hm42_1 (by omega) (by omega)) (cwV 1 hts g_EM_isOver_EM_parts rfl rfl rfl (by decide +kernel) ⟨Nat.le_of_ble_eq_true rfl, Nat.le_of_ble_eq_true rfl⟩) ⟨pu_bl, va_recv hK hP (ci := 9) (q0 := 0) rfl rfl, pu_in hP hK hD⟩ rfl rfl hl.1 rfl (lv_room (Nat.le_of_ble_eq_true rfl)) dX9_isOver_87 ⟨Nat.le_of_ble_eq_true rfl, Nat.le_of_ble_eq_true rfl⟩) hS (fun q _ h => hFc q h) hFc (fun r_32 u t H1 locs ht hvm hw hB hz1 hk1 hS => ?_)
      obtain ⟨z35_33, z36_34, z49_35, z50_36, z52_37, ⟨hP1, -, hD1⟩, hz52_37, xr_32_0, xr_32_1, xr_32_2⟩ := hB
      rw [ht] at hP1
      have hP := hP1
      have hD := pu_all hFc hD1
      clear hP1 hD1 hFc
      clear hk1 hz1 ht hvm
      generalize H1 = H at hP hS ⊢
      obtain ⟨u_38, hu_38, rfl, iu_38⟩ := hw
      have iu_38 : (u_38, z35_33, z36_34, z49_35, z50_36, z52_37) = (sp_EM_parts x46 (g_15 - 1) z35_28 g_12 g_13 g_14 f51 k_25) := Prod.ext iu_38 xr_32_2
      replace hsp := hsp.trans (slet_eq iu_38)
      refine lv_pop hx hb dX9_isOver_90 rfl ?_
      refine lv_goto (tgt := 23) hx hb dX9_isOver_91 (by decide) ?_
      exact ih_17 (wt x53 z50_36 z52_37) (wt_falls (by assumption) (by assumption) (by omega) (by omega) (by omega) (by omega)) _ _ _ ⟨z35_33, z36_34, z49_35, z50_36, z52_37, rfl, hz52_37, by first | assumption | exact pf_refl | exact pf_step (by assumption) (by omega) | exact pf_one | exact pf_app (by assumption) (by assumption) (by omega) (by omega) (by omega) (by omega), hin_21 _ hsp, hP, hD, hS, lv_sub hl [0] rfl⟩
    · have c_30 : k_25 = x53 := (nI_eq (a := k_25) (b := x53) (by omega) (Nat.lt_of_le_of_lt hx53 (Nat.le_of_ble_eq_true rfl))).mp c_30
      replace hsp := hsp.trans (if_pos c_30)
      have hsp := hout_22 _ hsp
      refine lv_iconst (v := 1) hx hb dX9_isOver_75 (by decide) ?_
      exact W.zret (v := 1) (ty := .boolean) hx hb hr (rfl) (fun t ht hW => ⟨⟨1, (), rfl, ⟨1, (Nat.le_of_ble_eq_true rfl), rfl, (congrArg Prod.fst (hsp.symm.trans hRR))⟩, ⟨z35_28, g_12, g_13, g_14, (g_15 - 1), ⟨by rw [ht]; exact hP, va_K.moved hW.alike hK, hD⟩, (by omega), (congrArg Prod.snd (hsp.symm.trans hRR))⟩⟩, hS.F ht⟩) hS.2.2 dX9_isOver_76
