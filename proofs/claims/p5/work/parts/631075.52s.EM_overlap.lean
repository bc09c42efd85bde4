theorem dX9_overlap_0 : decode cX9_overlap 0 = .ok (.aload_n 0, 1) := by decide +kernel
theorem dX9_overlap_1 : decode cX9_overlap 1 = .ok (.iconst 0, 1) := by decide +kernel
theorem dX9_overlap_2 : decode cX9_overlap 2 = .ok (.putfield 142, 3) := by decide +kernel
theorem dX9_overlap_5 : decode cX9_overlap 5 = .ok (.aload_n 0, 1) := by decide +kernel
theorem dX9_overlap_6 : decode cX9_overlap 6 = .ok (.iload_n 1, 1) := by decide +kernel
theorem dX9_overlap_7 : decode cX9_overlap 7 = .ok (.invokevirtual 387, 3) := by decide +kernel
theorem dX9_overlap_10 : decode cX9_overlap 10 = .ok (.ifCond .eq 11, 3) := by decide +kernel
theorem dX9_overlap_13 : decode cX9_overlap 13 = .ok (.aload_n 0, 1) := by decide +kernel
theorem dX9_overlap_14 : decode cX9_overlap 14 = .ok (.iload_n 2, 1) := by decide +kernel
theorem dX9_overlap_15 : decode cX9_overlap 15 = .ok (.invokevirtual 387, 3) := by decide +kernel
theorem dX9_overlap_18 : decode cX9_overlap 18 = .ok (.ifCond .ne 5, 3) := by decide +kernel
theorem dX9_overlap_21 : decode cX9_overlap 21 = .ok (.iconst (-1), 1) := by decide +kernel
theorem dX9_overlap_22 : decode cX9_overlap 22 = .ok (.ireturn, 1) := by decide +kernel
theorem dX9_overlap_23 : decode cX9_overlap 23 = .ok (.iconst 0, 1) := by decide +kernel
theorem dX9_overlap_24 : decode cX9_overlap 24 = .ok (.istore_n 3, 1) := by decide +kernel
theorem dX9_overlap_25 : decode cX9_overlap 25 = .ok (.iload_n 3, 1) := by decide +kernel
theorem dX9_overlap_26 : decode cX9_overlap 26 = .ok (.bipush 25, 2) := by decide +kernel
theorem dX9_overlap_28 : decode cX9_overlap 28 = .ok (.if_icmp .ge 40, 3) := by decide +kernel
theorem dX9_overlap_31 : decode cX9_overlap 31 = .ok (.aload_n 0, 1) := by decide +kernel
theorem dX9_overlap_32 : decode cX9_overlap 32 = .ok (.getfield 71, 3) := by decide +kernel
theorem dX9_overlap_35 : decode cX9_overlap 35 = .ok (.iload_n 3, 1) := by decide +kernel
theorem dX9_overlap_36 : decode cX9_overlap 36 = .ok (.aload_n 0, 1) := by decide +kernel
theorem dX9_overlap_37 : decode cX9_overlap 37 = .ok (.getfield 68, 3) := by decide +kernel
theorem dX9_overlap_40 : decode cX9_overlap 40 = .ok (.bipush 25, 2) := by decide +kernel
theorem dX9_overlap_42 : decode cX9_overlap 42 = .ok (.iload_n 1, 1) := by decide +kernel
theorem dX9_overlap_43 : decode cX9_overlap 43 = .ok (.imul, 1) := by decide +kernel
theorem dX9_overlap_44 : decode cX9_overlap 44 = .ok (.iload_n 3, 1) := by decide +kernel
theorem dX9_overlap_45 : decode cX9_overlap 45 = .ok (.iadd, 1) := by decide +kernel
theorem dX9_overlap_46 : decode cX9_overlap 46 = .ok (.iaload, 1) := by decide +kernel
theorem dX9_overlap_47 : decode cX9_overlap 47 = .ok (.aload_n 0, 1) := by decide +kernel
theorem dX9_overlap_48 : decode cX9_overlap 48 = .ok (.getfield 68, 3) := by decide +kernel
theorem dX9_overlap_51 : decode cX9_overlap 51 = .ok (.bipush 25, 2) := by decide +kernel
theorem dX9_overlap_53 : decode cX9_overlap 53 = .ok (.iload_n 2, 1) := by decide +kernel
theorem dX9_overlap_54 : decode cX9_overlap 54 = .ok (.imul, 1) := by decide +kernel
theorem dX9_overlap_55 : decode cX9_overlap 55 = .ok (.iload_n 3, 1) := by decide +kernel
theorem dX9_overlap_56 : decode cX9_overlap 56 = .ok (.iadd, 1) := by decide +kernel
theorem dX9_overlap_57 : decode cX9_overlap 57 = .ok (.iaload, 1) := by decide +kernel
theorem dX9_overlap_58 : decode cX9_overlap 58 = .ok (.invokestatic 182, 3) := by decide +kernel
theorem dX9_overlap_61 : decode cX9_overlap 61 = .ok (.iastore, 1) := by decide +kernel
theorem dX9_overlap_62 : decode cX9_overlap 62 = .ok (.iinc 3 1, 3) := by decide +kernel
theorem dX9_overlap_65 : decode cX9_overlap 65 = .ok (.goto (-40), 3) := by decide +kernel
theorem dX9_overlap_68 : decode cX9_overlap 68 = .ok (.aload_n 0, 1) := by decide +kernel
theorem dX9_overlap_69 : decode cX9_overlap 69 = .ok (.aload_n 0, 1) := by decide +kernel
theorem dX9_overlap_70 : decode cX9_overlap 70 = .ok (.getfield 71, 3) := by decide +kernel
theorem dX9_overlap_73 : decode cX9_overlap 73 = .ok (.invokevirtual 345, 3) := by decide +kernel
theorem dX9_overlap_76 : decode cX9_overlap 76 = .ok (.ifCond .eq 7, 3) := by decide +kernel
theorem dX9_overlap_79 : decode cX9_overlap 79 = .ok (.iconst 1, 1) := by decide +kernel
theorem dX9_overlap_80 : decode cX9_overlap 80 = .ok (.goto 4, 3) := by decide +kernel
theorem dX9_overlap_83 : decode cX9_overlap 83 = .ok (.iconst 0, 1) := by decide +kernel
theorem dX9_overlap_84 : decode cX9_overlap 84 = .ok (.ireturn, 1) := by decide +kernel
abbrev vs_EM_overlap : List Cond := .code yX9_overlap cX9_overlap 4 (some .int) :: VM
theorem g_EM_overlap_EM_isState : GoodIn vs_EM_overlap (wsV RX9 387 RX9 yX9_isState vs_EM_isState) := gm_V vm_263 vm_264 vm_265 vm_19 vm_266
theorem g_EM_overlap_EM_closes_z : GoodIn vs_EM_overlap (wsV RX9 345 RX9 yX9_closes vs_EM_closes_z) := gm_V vm_208 vm_209 vm_210 vm_19 vm_211
theorem g_EM_overlap_EM_lesser : GoodIn vs_EM_overlap (va_wsS RX9 182 yX9_lesser vs_EM_lesser) := gm_S vm_59 vm_60 vm_19 vm_61
noncomputable def sp_EM_overlap_L1 (f34 : Nat → Int32) (n_3 : Nat) (z46_5 : Nat) (n_6 : Nat) : ((Nat → Int32) × Nat) → ((Nat → Int32) × Nat) ⊕ (Int32 × (Nat → Int32) × Int32 × Nat) := fun (g_9, g_10) => (if 25 ≤ g_10 then (Sum.inr (slet (sp_EM_closes_z z46_5 g_9) (fun (u_20, z35_19) => (if u_20 = 0 then (0, z35_19, 0, z46_5) else (1, z35_19, 0, z46_5))))) else (slet (f34 ((25 * n_3) + g_10)) (fun y_24 => (slet (f34 ((25 * n_6) + g_10)) (fun y_27 => (slet (sp_EM_lesser y_24 y_27) (fun r_28 => (slet (upd g_9 g_10 r_28) (fun f_29 => (Sum.inl (f_29, (g_10 + 1))))))))))))
noncomputable def sp_EM_overlap (x16 : Nat) (x29 : Nat) (m12_0 : Nat) (m12_1 : Nat) (f34 : Nat → Int32) (f35 : Nat → Int32) (m42_0 : Nat) (p0 : Int32) (p1 : Int32) : Int32 × (Nat → Int32) × Int32 × Nat := (slet (sp_EM_isState x16 x29 m12_0 m12_1 m42_0 p0) (fun z46_2 => (if x29 = 1 ∧ (0 : Int32) ≤ p0 ∧ p0 < nI m42_0 then (slet ((p0 : Int32).toNatClampNeg) (fun n_3 => (slet (sp_EM_isState x16 x29 m12_0 m12_1 m42_0 p1) (fun z46_5 => (if x29 = 1 ∧ (0 : Int32) ≤ p1 ∧ p1 < nI m42_0 then (slet ((p1 : Int32).toNatClampNeg) (fun n_6 => (itrv (α := (Nat → Int32) × Nat) (β := (Int32 × (Nat → Int32) × Int32 × Nat)) default (sp_EM_overlap_L1 f34 n_3 z46_5 n_6) (f35, 0)))) else ((-1), f35, 0, z46_5)))))) else ((-1), f35, 0, z46_2))))
set_option maxHeartbeats 4000000 in
set_option maxRecDepth 100000 in
theorem c_EM_overlap (l : Launch) (dC : Nat → ClassId) (dI : Nat → Nat → Nat) (sz : Nat) (ad : Nat → Nat) (ck : Nat → ClassId) (x0 : Int32) (x16 : Nat) (x18 : Nat) (x19 : Nat) (x20 : Int32) (x21 : Nat) (x22 : Nat) (x23 : Int32) (x24 : Int32) (x25 : Int32) (x26 : Nat) (x27 : Int32) (x28 : Nat) (x29 : Nat) (x30 : Nat) (x33 : Nat) (x45 : Int32) (x46 : Nat) (x52 : Nat) (x53 : Nat) (x61 : Nat) (x62 : Nat) (x63 : Nat) (x65 : Nat) (x66 : Int32) (f1 : Nat → Int32) (f2 : Nat → Int32) (f3 : Nat → Int32) (q4 : Nat → Nat) (q5 : Nat → Nat) (q6 : Nat → Nat) (q7 : Nat → Nat) (f8 : Nat → Int32) (q9 : Nat → Nat) (q10 : Nat → Nat) (f11 : Nat → Int32) (m12_0 m12_1 : Nat) (m13_0 m13_1 : Nat) (m14_0 m14_1 : Nat) (m15_0 m15_1 : Nat) (f17 : Nat → Int32) (q31 : Nat → Nat) (f32 : Nat → Int32) (f34 : Nat → Int32) (f35 : Nat → Int32) (f36 : Nat → Int32) (f37 : Nat → Int32) (q38 : Nat → Nat) (f39 : Nat → Int32) (f40 : Nat → Int32) (f41 : Nat → Int32) (m42_0 m42_1 : Nat) (f43 : Nat → Int32) (f44 : Nat → Int32) (f47 : Nat → Int32) (f48 : Nat → Int32) (f49 : Nat → Int32) (f50 : Nat → Int32) (f51 : Nat → Int32) (q54 : Nat → Nat) (q55 : Nat → Nat) (q56 : Nat → Nat) (f57 : Nat → Int32) (q58 : Nat → Nat) (f59 : Nat → Int32) (f60 : Nat → Int32) (f64 : Nat → Int32) (p0 : Int32) (p1 : Int32) (hx16 : x16 ≤ 1) (hx18 : x18 ≤ 900) (hx19 : x19 ≤ 900) (hx21 : x21 ≤ 900) (hx22 : x22 ≤ 4) (hx26 : x26 ≤ 6) (hx28 : x28 ≤ 1) (hx29 : x29 ≤ 1) (hx30 : x30 ≤ 1) (hx33 : x33 ≤ 20) (hx46 : x46 ≤ 5) (hx52 : x52 ≤ 2400) (hx53 : x53 ≤ 119) (hx61 : x61 ≤ 119) (hx62 : x62 ≤ 2000) (hx63 : x63 ≤ 1) (hx65 : x65 ≤ 7) (hm12_0 : m12_0 ≤ 3) (hm12_1 : m12_1 ≤ 3) (hm13_0 : m13_0 ≤ 8) (hm13_1 : m13_1 ≤ 8) (hm14_0 : m14_0 ≤ 14) (hm14_1 : m14_1 ≤ 14) (hm15_0 : m15_0 ≤ 8) (hm15_1 : m15_1 ≤ 8) (hm42_0 : m42_0 ≤ 120) (hm42_1 : m42_1 ≤ 400) : Met l yX9_overlap vs_EM_overlap ({ frames := 2, cells := 0, slots := 0, locals := 45 }) (va_Pc [.ref (ad 0), .int p0, .int p1] (pu_B (dC, dI) (mo_w ad ck x0 (nI x16) (nI x18) (nI x19) x20 (nI x21) (nI x22) x23 x24 x25 (nI x26) x27 (nI x28) (nI x29) (nI x30) (nI x33) x45 (nI x46) (nI x52) (nI x53) (nI x61) (nI x62) (nI x63) (nI x65) x66 f1 f2 f3 (bN 3 q4) (bN 7 q5) (bN 7 q6) (bN 4 q7) f8 (bN 2 q9) (bH q10) f11 (b2 m12_0 m12_1) (b2 m13_0 m13_1) (b2 m14_0 m14_1) (b2m m15_0 m15_1) f17 (bA 159 q31) f32 f34 f35 f36 f37 (bN 7 q38) f39 f40 f41 (b2 m42_0 m42_1) f43 f44 f47 f48 f49 f50 f51 (bN 13 q54) (bN 120 q55) (bN 120 q56) f57 (bN 120 q58) f59 f60 f64) (mo_t ck) sz)) (va_Qi (fun (r : Int32) (_ : Unit) => r = (sp_EM_overlap x16 x29 m12_0 m12_1 f34 f35 m42_0 p0 p1).1) (fun _ t => ∃ (z35 : Nat → Int32) (z0 : Int32) (z46 : Nat), pu_E (dC, dI) (mo_w ad ck z0 (nI x16) (nI x18) (nI x19) x20 (nI x21) (nI x22) x23 x24 x25 (nI x26) x27 (nI x28) (nI x29) (nI x30) (nI x33) x45 (nI z46) (nI x52) (nI x53) (nI x61) (nI x62) (nI x63) (nI x65) x66 f1 f2 f3 (bN 3 q4) (bN 7 q5) (bN 7 q6) (bN 4 q7) f8 (bN 2 q9) (bH q10) f11 (b2 m12_0 m12_1) (b2 m13_0 m13_1) (b2 m14_0 m14_1) (b2m m15_0 m15_1) f17 (bA 159 q31) f32 f34 z35 f36 f37 (bN 7 q38) f39 f40 f41 (b2 m42_0 m42_1) f43 f44 f47 f48 f49 f50 f51 (bN 13 q54) (bN 120 q55) (bN 120 q56) f57 (bN 120 q58) f59 f60 f64) (mo_t ck) (va_A ((mo_w ad ck x0 (nI x16) (nI x18) (nI x19) x20 (nI x21) (nI x22) x23 x24 x25 (nI x26) x27 (nI x28) (nI x29) (nI x30) (nI x33) x45 (nI x46) (nI x52) (nI x53) (nI x61) (nI x62) (nI x63) (nI x65) x66 f1 f2 f3 (bN 3 q4) (bN 7 q5) (bN 7 q6) (bN 4 q7) f8 (bN 2 q9) (bH q10) f11 (b2 m12_0 m12_1) (b2 m13_0 m13_1) (b2 m14_0 m14_1) (b2m m15_0 m15_1) f17 (bA 159 q31) f32 f34 f35 f36 f37 (bN 7 q38) f39 f40 f41 (b2 m42_0 m42_1) f43 f44 f47 f48 f49 f50 f51 (bN 13 q54) (bN 120 q55) (bN 120 q56) f57 (bN 120 q58) f59 f60 f64)) sz) t ∧ (z46 ≤ 5) ∧ ((z35, z0, z46) = (sp_EM_overlap x16 x29 m12_0 m12_1 f34 f35 m42_0 p0 p1).2)) (va_A ((mo_w ad ck x0 (nI x16) (nI x18) (nI x19) x20 (nI x21) (nI x22) x23 x24 x25 (nI x26) x27 (nI x28) (nI x29) (nI x30) (nI x33) x45 (nI x46) (nI x52) (nI x53) (nI x61) (nI x62) (nI x63) (nI x65) x66 f1 f2 f3 (bN 3 q4) (bN 7 q5) (bN 7 q6) (bN 4 q7) f8 (bN 2 q9) (bH q10) f11 (b2 m12_0 m12_1) (b2 m13_0 m13_1) (b2 m14_0 m14_1) (b2m m15_0 m15_1) f17 (bA 159 q31) f32 f34 f35 f36 f37 (bN 7 q38) f39 f40 f41 (b2 m42_0 m42_1) f43 f44 f47 f48 f49 f50 f51 (bN 13 q54) (bN 120 q55) (bN 120 q56) f57 (bN 120 q58) f59 f60 f64)) sz)) 0 0 (va_A ((mo_w ad ck x0 (nI x16) (nI x18) (nI x19) x20 (nI x21) (nI x22) x23 x24 x25 (nI x26) x27 (nI x28) (nI x29) (nI x30) (nI x33) x45 (nI x46) (nI x52) (nI x53) (nI x61) (nI x62) (nI x63) (nI x65) x66 f1 f2 f3 (bN 3 q4) (bN 7 q5) (bN 7 q6) (bN 4 q7) f8 (bN 2 q9) (bH q10) f11 (b2 m12_0 m12_1) (b2 m13_0 m13_1) (b2 m14_0 m14_1) (b2m m15_0 m15_1) f17 (bA 159 q31) f32 f34 f35 f36 f37 (bN 7 q38) f39 f40 f41 (b2 m42_0 m42_1) f43 f44 f47 f48 f49 f50 f51 (bN 13 q54) (bN 120 q55) (bN 120 q56) f57 (bN 120 q58) f59 f60 f64)) sz) := by
  refine Met.ofW (cc := cX9_overlap) (maxL := 4) (ret := (some .int)) (by decide) rfl ?_
  intro p e s m args below meth c s₁ B hml hv
  obtain ⟨rfl, rfl, hP, hK, hD0⟩ := hv
  have hx := B.exec
  have hb := B.bytes
  have hr := B.returns
  have hts := atoms_spec (ws := vs_EM_overlap) B.pre
  have v_1 := hts (.fieldLink RX9 142 "ClockReachModel" "thrown" "I") (List.mem_cons_of_mem _ vm_5)
  have v_7 := hts (.fieldLink RX9 71 "ClockReachModel" "z" "[I") (List.mem_cons_of_mem _ vm_219)
  have v_8 := hts (.fieldLink RX9 68 "ClockReachModel" "zone" "[I") (List.mem_cons_of_mem _ vm_214)
  have hown : s.vm.findClass RX9 = some m.cls := findClass_of_methodNamed B.named
  have hlocks := B.notSynchronized
  have hiX9 : ∀ w ∈ wsX90, w ∈ vs_EM_overlap := fun _ h => List.mem_cons_of_mem _ (vmi_L h)
  have hD := hD0.self (sz := s.heap.size)
  generalize hAe : va_A ((mo_w ad ck x0 (nI x16) (nI x18) (nI x19) x20 (nI x21) (nI x22) x23 x24 x25 (nI x26) x27 (nI x28) (nI x29) (nI x30) (nI x33) x45 (nI x46) (nI x52) (nI x53) (nI x61) (nI x62) (nI x63) (nI x65) x66 f1 f2 f3 (bN 3 q4) (bN 7 q5) (bN 7 q6) (bN 4 q7) f8 (bN 2 q9) (bH q10) f11 (b2 m12_0 m12_1) (b2 m13_0 m13_1) (b2 m14_0 m14_1) (b2m m15_0 m15_1) f17 (bA 159 q31) f32 f34 f35 f36 f37 (bN 7 q38) f39 f40 f41 (b2 m42_0 m42_1) f43 f44 f47 f48 f49 f50 f51 (bN 13 q54) (bN 120 q55) (bN 120 q56) f57 (bN 120 q58) f59 f60 f64)) s.heap.size = A at hD ⊢
  have hA : ∀ q : Nat, s.heap.size ≤ q → A q := fun q h => by rw [← hAe]; exact Or.inr h
  have hS : va_S A s.heap s.heap [] := va_S.rf
  have hl := lv_entry ([.ref (ad 0), .int p0, .int p1]) (n := 4) (Nat.le_of_ble_eq_true rfl)
  rw [lg_entry_eq]
  generalize (lg_sl ([.ref (ad 0), .int p0, .int p1]) ++ List.replicate (4 - (lg_sl ([.ref (ad 0), .int p0, .int p1])).length) Slot.unset).toArray = ls at hl ⊢
  have hl : lv_has ls 4 [(0, .ref (ad 0)), (1, .int p0), (2, .int p1)] := hl
  obtain ⟨RR, hRR⟩ : ∃ x, x = (sp_EM_overlap x16 x29 m12_0 m12_1 f34 f35 m42_0 p0 p1) := ⟨_, rfl⟩
  have hsp := hRR
  refine lv_aload_n hx hb dX9_overlap_0 rfl (lv_at hl 0 rfl) ?_
  refine lv_iconst (v := 0) hx hb dX9_overlap_1 (by decide) ?_
  refine va_put (D := (dC, dI)) (ci := 9) (v := .int 0) (ty := .int) (C := RX9) (T := TX9) (N := 67) hx hb hts hiX9 tyX9 tyX9_ok nmX9 hown hK hP hD hS 0 rfl rfl 0 (by decide) v_1 (fun _ h9 => h9) rfl (by decide +kernel) rfl rfl (Nat.le_of_ble_eq_true rfl) dX9_overlap_2 (fun H locs hP hD hS => ?_)
  have hP : va_P (dC, dI) vwCl (mo_w ad ck 0 (nI x16) (nI x18) (nI x19) x20 (nI x21) (nI x22) x23 x24 x25 (nI x26) x27 (nI x28) (nI x29) (nI x30) (nI x33) x45 (nI x46) (nI x52) (nI x53) (nI x61) (nI x62) (nI x63) (nI x65) x66 f1 f2 f3 (bN 3 q4) (bN 7 q5) (bN 7 q6) (bN 4 q7) f8 (bN 2 q9) (bH q10) f11 (b2 m12_0 m12_1) (b2 m13_0 m13_1) (b2 m14_0 m14_1) (b2m m15_0 m15_1) f17 (bA 159 q31) f32 f34 f35 f36 f37 (bN 7 q38) f39 f40 f41 (b2 m42_0 m42_1) f43 f44 f47 f48 f49 f50 f51 (bN 13 q54) (bN 120 q55) (bN 120 q56) f57 (bN 120 q58) f59 f60 f64) H := hP
  have hD : va_D A (mo_w ad ck 0 (nI x16) (nI x18) (nI x19) x20 (nI x21) (nI x22) x23 x24 x25 (nI x26) x27 (nI x28) (nI x29) (nI x30) (nI x33) x45 (nI x46) (nI x52) (nI x53) (nI x61) (nI x62) (nI x63) (nI x65) x66 f1 f2 f3 (bN 3 q4) (bN 7 q5) (bN 7 q6) (bN 4 q7) f8 (bN 2 q9) (bH q10) f11 (b2 m12_0 m12_1) (b2 m13_0 m13_1) (b2 m14_0 m14_1) (b2m m15_0 m15_1) f17 (bA 159 q31) f32 f34 f35 f36 f37 (bN 7 q38) f39 f40 f41 (b2 m42_0 m42_1) f43 f44 f47 f48 f49 f50 f51 (bN 13 q54) (bN 120 q55) (bN 120 q56) f57 (bN 120 q58) f59 f60 f64) := hD
  refine lv_aload_n hx hb dX9_overlap_5 rfl (lv_at hl 0 rfl) ?_
  refine lv_iload_n hx hb dX9_overlap_6 rfl (lv_at hl 1 rfl) ?_
  have hFc := pu_free hD hS hA
  refine va_calli (va_runV (As := [.int p0]) (rest := []) ⟨hx, hb, hml, hown, hts⟩ (c_EM_isState l dC dI _ ad ck 0 x16 x18 x19 x20 x21 x22 x23 x24 x25 x26 x27 x28 x29 x30 x33 x45 x46 x52 x53 x61 x62 x63 x65 x66 f1 f2 f3 q4 q5 q6 q7 f8 q9 q10 f11 m12_0 m12_1 m13_0 m13_1 m14_0 m14_1 m15_0 m15_1 f17 q31 f32 f34 f35 f36 f37 q38 f39 f40 f41 m42_0 m42_1 f43 f44 f47 f48 f49 f50 f51 q54 q55 q56 f57 q58 f59 f60 f64 p0 hx16 hx18 hx19 hx21 hx22 hx26 hx28 hx29 hx30 hx33 hx46 hx52 hx53 hx61 hx62 hx63 hx65 hm12_0 hm12_1 hm13_0 hm13_1 hm14_0 hm14_1 hm15_0 hm15_1 hm42_0 hm42_1) (cwV 1 hts g_EM_overlap_EM_isState rfl rfl rfl (by decide +kernel) ⟨Nat.le_of_ble_eq_true rfl, Nat.le_of_ble_eq_true rfl⟩) ⟨pu_bl, va_recv hK hP (ci := 9) (q0 := 0) rfl rfl, pu_in hP hK hD⟩ rfl rfl hl.1 rfl (lv_room (Nat.le_of_ble_eq_true rfl)) dX9_overlap_7 ⟨Nat.le_of_ble_eq_true rfl, Nat.le_of_ble_eq_true rfl⟩) hS (fun q _ h => hFc q h) hFc (fun r_1 u t H1 locs ht hvm hw hB hz1 hk1 hS => ?_)
  obtain ⟨z46_2, ⟨hP1, -, hD1⟩, hz46_2, xr_1_0⟩ := hB
  rw [ht] at hP1
  have hP := hP1
  have hD := pu_all hFc hD1
  clear hP1 hD1 hFc
  clear hk1 hz1 ht hvm
  generalize H1 = H at hP hS ⊢
  replace hsp := hsp.trans (slet_eq xr_1_0)
  rcases hw with ⟨rfl, hw⟩ | ⟨rfl, hn⟩
  · obtain ⟨hs1, n_3, hn_3, rfl⟩ := hw
    replace hsp := hsp.trans (if_pos ⟨hs1, in_q hn_3 (by omega)⟩)
    replace hsp := hsp.trans (slet_eq (nI_cl (n := n_3) (by omega)))
    refine lv_if_eq (tgt := 21) hx hb dX9_overlap_10 (by decide) (fun z => absurd z (by decide)) (fun _ => ?_)
    refine lv_aload_n hx hb dX9_overlap_13 rfl (lv_at hl 0 rfl) ?_
    refine lv_iload_n hx hb dX9_overlap_14 rfl (lv_at hl 2 rfl) ?_
    have hFc := pu_free hD hS hA
    refine va_calli (va_runV (As := [.int p1]) (rest := []) ⟨hx, hb, hml, hown, hts⟩ (c_EM_isState l dC dI _ ad ck 0 x16 x18 x19 x20 x21 x22 x23 x24 x25 x26 x27 x28 x29 x30 x33 x45 z46_2 x52 x53 x61 x62 x63 x65 x66 f1 f2 f3 q4 q5 q6 q7 f8 q9 q10 f11 m12_0 m12_1 m13_0 m13_1 m14_0 m14_1 m15_0 m15_1 f17 q31 f32 f34 f35 f36 f37 q38 f39 f40 f41 m42_0 m42_1 f43 f44 f47 f48 f49 f50 f51 q54 q55 q56 f57 q58 f59 f60 f64 p1 hx16 hx18 hx19 hx21 hx22 hx26 hx28 hx29 hx30 hx33 (Nat.le_trans hz46_2 (Nat.le_of_ble_eq_true rfl)) hx52 hx53 hx61 hx62 hx63 hx65 hm12_0 hm12_1 hm13_0 hm13_1 hm14_0 hm14_1 hm15_0 hm15_1 hm42_0 hm42_1) (cwV 1 hts g_EM_overlap_EM_isState rfl rfl rfl (by decide +kernel) ⟨Nat.le_of_ble_eq_true rfl, Nat.le_of_ble_eq_true rfl⟩) ⟨pu_bl, va_recv hK hP (ci := 9) (q0 := 0) rfl rfl, pu_in hP hK hD⟩ rfl rfl hl.1 rfl (lv_room (Nat.le_of_ble_eq_true rfl)) dX9_overlap_15 ⟨Nat.le_of_ble_eq_true rfl, Nat.le_of_ble_eq_true rfl⟩) hS (fun q _ h => hFc q h) hFc (fun r_4 u t H1 locs ht hvm hw hB hz1 hk1 hS => ?_)
    obtain ⟨z46_5, ⟨hP1, -, hD1⟩, hz46_5, xr_4_0⟩ := hB
    rw [ht] at hP1
    have hP := hP1
    have hD := pu_all hFc hD1
    clear hP1 hD1 hFc
    clear hk1 hz1 ht hvm
    generalize H1 = H at hP hS ⊢
    replace hsp := hsp.trans (slet_eq xr_4_0)
    rcases hw with ⟨rfl, hw⟩ | ⟨rfl, hn⟩
    · obtain ⟨hs1, n_6, hn_6, rfl⟩ := hw
      replace hsp := hsp.trans (if_pos ⟨hs1, in_q hn_6 (by omega)⟩)
      replace hsp := hsp.trans (slet_eq (nI_cl (n := n_6) (by omega)))
      refine lv_if_ne (tgt := 23) hx hb dX9_overlap_18 (by decide) (fun _ => ?_) (fun z => absurd z (by decide))
      refine lv_iconst (v := 0) hx hb dX9_overlap_23 (by decide) ?_
      refine lv_istore_n (lv' := [(3, .int 0), (0, .ref (ad 0)), (1, .int (nI n_3)), (2, .int (nI n_6))]) hx hb dX9_overlap_24 rfl hl (by decide) rfl (fun ls hl => ?_)
      obtain ⟨lf_12, dlf_12, hlf_12, hsp⟩ := itr_ex hsp
      delta sp_EM_overlap_L1 at hlf_12
      refine pu_while (fun nn H locs ls => ∃ (g_9 : Nat → Int32) (g_10 : Nat), nn = 25 - g_10 ∧ g_10 ≤ 25 ∧ RR = itrv dlf_12 lf_12 (g_9, g_10) ∧ va_P (dC, dI) vwCl (mo_w ad ck 0 (nI x16) (nI x18) (nI x19) x20 (nI x21) (nI x22) x23 x24 x25 (nI x26) x27 (nI x28) (nI x29) (nI x30) (nI x33) x45 (nI z46_5) (nI x52) (nI x53) (nI x61) (nI x62) (nI x63) (nI x65) x66 f1 f2 f3 (bN 3 q4) (bN 7 q5) (bN 7 q6) (bN 4 q7) f8 (bN 2 q9) (bH q10) f11 (b2 m12_0 m12_1) (b2 m13_0 m13_1) (b2 m14_0 m14_1) (b2m m15_0 m15_1) f17 (bA 159 q31) f32 f34 g_9 f36 f37 (bN 7 q38) f39 f40 f41 (b2 m42_0 m42_1) f43 f44 f47 f48 f49 f50 f51 (bN 13 q54) (bN 120 q55) (bN 120 q56) f57 (bN 120 q58) f59 f60 f64) H ∧ va_D A (mo_w ad ck 0 (nI x16) (nI x18) (nI x19) x20 (nI x21) (nI x22) x23 x24 x25 (nI x26) x27 (nI x28) (nI x29) (nI x30) (nI x33) x45 (nI z46_5) (nI x52) (nI x53) (nI x61) (nI x62) (nI x63) (nI x65) x66 f1 f2 f3 (bN 3 q4) (bN 7 q5) (bN 7 q6) (bN 4 q7) f8 (bN 2 q9) (bH q10) f11 (b2 m12_0 m12_1) (b2 m13_0 m13_1) (b2 m14_0 m14_1) (b2m m15_0 m15_1) f17 (bA 159 q31) f32 f34 g_9 f36 f37 (bN 7 q38) f39 f40 f41 (b2 m42_0 m42_1) f43 f44 f47 f48 f49 f50 f51 (bN 13 q54) (bN 120 q55) (bN 120 q56) f57 (bN 120 q58) f59 f60 f64) ∧ va_S A s.heap H locs ∧ lv_has ls 4 [(0, .ref (ad 0)), (1, .int (nI n_3)), (2, .int (nI n_6)), (3, .int (nI g_10))]) 25 ?_ _ _ _ _ ⟨f35, 0, rfl, (Nat.le_of_ble_eq_true rfl), hsp, hP, hD, hS, lv_sub hl [1, 2, 3, 0] rfl⟩
      rintro nn ih_11 H locs ls ⟨g_9, g_10, rfl, hg_10, he_14, hP, hD, hS, hl⟩
      obtain ⟨S_13, hsp, hin_15, hout_16⟩ := itr_step hlf_12 he_14
      refine lv_iload_n hx hb dX9_overlap_25 rfl (lv_at hl 3 rfl) ?_
      refine lv_bipush (v := 25) hx hb dX9_overlap_26 (by decide) ?_
      refine lv_icmp_ge (tgt := 68) hx hb dX9_overlap_28 (by decide) (fun c_17 => ?_) (fun c_17 => ?_)
      · have c_17 : 25 ≤ g_10 := (nI_leI (a := 25) (b := g_10) (Nat.le_of_ble_eq_true rfl) (Nat.lt_of_le_of_lt hg_10 (Nat.le_of_ble_eq_true rfl))).mp c_17
        replace hsp := hsp.trans (if_pos c_17)
        have hsp := hout_16 _ hsp
        refine lv_aload_n hx hb dX9_overlap_68 rfl (lv_at hl 0 rfl) ?_
        refine lv_aload_n hx hb dX9_overlap_69 rfl (lv_at hl 0 rfl) ?_
        refine va_get (D := (dC, dI)) (ci := 9) (v := .ref (ad 35)) (C := RX9) (T := TX9) (N := 67) hx hb hts hiX9 hown hK hP 0 rfl rfl 35 (by decide) v_7 (fun _ h9 => h9) rfl dX9_overlap_70 ?_
        have hFc := pu_free hD hS hA
        refine va_calli (va_runV (As := [.ref (ad 35)]) (rest := []) ⟨hx, hb, hml, hown, hts⟩ (c_EM_closes_z l dC dI _ ad ck 0 x16 x18 x19 x20 x21 x22 x23 x24 x25 x26 x27 x28 x29 x30 x33 x45 z46_5 x52 x53 x61 x62 x63 x65 x66 f1 f2 f3 q4 q5 q6 q7 f8 q9 q10 f11 m12_0 m12_1 m13_0 m13_1 m14_0 m14_1 m15_0 m15_1 f17 q31 f32 f34 g_9 f36 f37 q38 f39 f40 f41 m42_0 m42_1 f43 f44 f47 f48 f49 f50 f51 q54 q55 q56 f57 q58 f59 f60 f64 hx16 hx18 hx19 hx21 hx22 hx26 hx28 hx29 hx30 hx33 (Nat.le_trans hz46_5 (Nat.le_of_ble_eq_true rfl)) hx52 hx53 hx61 hx62 hx63 hx65 hm12_0 hm12_1 hm13_0 hm13_1 hm14_0 hm14_1 hm15_0 hm15_1 hm42_0 hm42_1) (cwV 1 hts g_EM_overlap_EM_closes_z rfl rfl rfl (by decide +kernel) ⟨Nat.le_of_ble_eq_true rfl, Nat.le_of_ble_eq_true rfl⟩) ⟨pu_bl, va_recv hK hP (ci := 9) (q0 := 0) rfl rfl, pu_in hP hK hD⟩ rfl rfl hl.1 rfl (lv_room (Nat.le_of_ble_eq_true rfl)) dX9_overlap_73 ⟨Nat.le_of_ble_eq_true rfl, Nat.le_of_ble_eq_true rfl⟩) hS (fun q _ h => hFc q h) hFc (fun r_18 u t H1 locs ht hvm hw hB hz1 hk1 hS => ?_)
        obtain ⟨z35_19, ⟨hP1, -, hD1⟩, xr_18_0⟩ := hB
        rw [ht] at hP1
        have hP := hP1
        have hD := pu_all hFc hD1
        clear hP1 hD1 hFc
        clear hk1 hz1 ht hvm
        generalize H1 = H at hP hS ⊢
        obtain ⟨u_20, hu_20, rfl, iu_20⟩ := hw
        have iu_20 : (u_20, z35_19) = (sp_EM_closes_z z46_5 g_9) := Prod.ext iu_20 xr_18_0
        replace hsp := hsp.trans (slet_eq iu_20)
        refine lv_if_eq (tgt := 83) hx hb dX9_overlap_76 (by decide) (fun c_21 => ?_) (fun c_21 => ?_)
        · have c_21 : u_20 = 0 := (nI_eq (a := u_20) (b := 0) (Nat.lt_of_le_of_lt hu_20 (Nat.le_of_ble_eq_true rfl)) (Nat.le_of_ble_eq_true rfl)).mp c_21
          replace hsp := hsp.trans (if_pos c_21)
          refine lv_iconst (v := 0) hx hb dX9_overlap_83 (by decide) ?_
          exact W.iret (v := 0) hx hb hr (fun t ht hW => ⟨⟨0, (), rfl, (congrArg Prod.fst (hsp.symm.trans hRR)), ⟨z35_19, 0, z46_5, ⟨by rw [ht]; exact hP, va_K.moved hW.alike hK, hD⟩, (Nat.le_trans hz46_5 (Nat.le_of_ble_eq_true rfl)), (congrArg Prod.snd (hsp.symm.trans hRR))⟩⟩, hS.F ht⟩) hS.2.2 dX9_overlap_84
        · have c_21 : ¬ u_20 = 0 := fun z => c_21 ((nI_eq (a := u_20) (b := 0) (Nat.lt_of_le_of_lt hu_20 (Nat.le_of_ble_eq_true rfl)) (Nat.le_of_ble_eq_true rfl)).mpr z)
          replace hsp := hsp.trans (if_neg c_21)
          refine lv_iconst (v := 1) hx hb dX9_overlap_79 (by decide) ?_
          refine lv_goto (tgt := 84) hx hb dX9_overlap_80 (by decide) ?_
          exact W.iret (v := 1) hx hb hr (fun t ht hW => ⟨⟨1, (), rfl, (congrArg Prod.fst (hsp.symm.trans hRR)), ⟨z35_19, 0, z46_5, ⟨by rw [ht]; exact hP, va_K.moved hW.alike hK, hD⟩, (Nat.le_trans hz46_5 (Nat.le_of_ble_eq_true rfl)), (congrArg Prod.snd (hsp.symm.trans hRR))⟩⟩, hS.F ht⟩) hS.2.2 dX9_overlap_84
      · have c_17 : ¬ 25 ≤ g_10 := fun z => c_17 ((nI_leI (a := 25) (b := g_10) (Nat.le_of_ble_eq_true rfl) (Nat.lt_of_le_of_lt hg_10 (Nat.le_of_ble_eq_true rfl))).mpr z)
        replace hsp := hsp.trans (if_neg c_17)
        refine lv_aload_n hx hb dX9_overlap_31 rfl (lv_at hl 0 rfl) ?_
        refine va_get (D := (dC, dI)) (ci := 9) (v := .ref (ad 35)) (C := RX9) (T := TX9) (N := 67) hx hb hts hiX9 hown hK hP 0 rfl rfl 35 (by decide) v_7 (fun _ h9 => h9) rfl dX9_overlap_32 ?_
        refine lv_iload_n hx hb dX9_overlap_35 rfl (lv_at hl 3 rfl) ?_
        refine lv_aload_n hx hb dX9_overlap_36 rfl (lv_at hl 0 rfl) ?_
        refine va_get (D := (dC, dI)) (ci := 9) (v := .ref (ad 34)) (C := RX9) (T := TX9) (N := 67) hx hb hts hiX9 hown hK hP 0 rfl rfl 34 (by decide) v_8 (fun _ h9 => h9) rfl dX9_overlap_37 ?_
        refine lv_bipush (v := 25) hx hb dX9_overlap_40 (by decide) ?_
        refine lv_iload_n hx hb dX9_overlap_42 rfl (lv_at hl 1 rfl) ?_
        refine lv_imul hx hb dX9_overlap_43 ?_
        refine lv_topi (fun y_22 ey_22 => ?_)
        obtain rfl : y_22 = (nI (25 * n_3)) := ey_22.trans (pk_mul 25 n_3)
        refine lv_iload_n hx hb dX9_overlap_44 rfl (lv_at hl 3 rfl) ?_
        refine lv_iadd hx hb dX9_overlap_45 ?_
        refine lv_topi (fun y_23 ey_23 => ?_)
        obtain rfl : y_23 = (nI ((25 * n_3) + g_10)) := ey_23.trans (nI_add (25 * n_3) g_10)
        refine va_iald hx hb hK hP 19 18 rfl rfl (vp_in_nI (n := ((25 * n_3) + g_10)) (by omega) (Nat.le_of_ble_eq_true rfl)) dX9_overlap_46 ?_
        refine lv_topi (fun y_24 ey_24 => ?_)
        have ey_24 : y_24 = f34 ((25 * n_3) + g_10) := ey_24.trans (congrArg f34 (nI_clamp (n := ((25 * n_3) + g_10)) (by first | omega | exact Nat.lt_trans (zx16 (by omega) (by omega) (by omega)) (Nat.le_of_ble_eq_true rfl) | exact Nat.lt_trans (zy16 (by omega) (by omega)) (Nat.le_of_ble_eq_true rfl) | exact Nat.lt_trans (zx25 (by omega) (by omega) (by omega)) (Nat.le_of_ble_eq_true rfl) | exact Nat.lt_trans (zy25 (by omega) (by omega)) (Nat.le_of_ble_eq_true rfl))))
        replace hsp := hsp.trans (slet_eq ey_24)
        refine lv_aload_n hx hb dX9_overlap_47 rfl (lv_at hl 0 rfl) ?_
        refine va_get (D := (dC, dI)) (ci := 9) (v := .ref (ad 34)) (C := RX9) (T := TX9) (N := 67) hx hb hts hiX9 hown hK hP 0 rfl rfl 34 (by decide) v_8 (fun _ h9 => h9) rfl dX9_overlap_48 ?_
        refine lv_bipush (v := 25) hx hb dX9_overlap_51 (by decide) ?_
        refine lv_iload_n hx hb dX9_overlap_53 rfl (lv_at hl 2 rfl) ?_
        refine lv_imul hx hb dX9_overlap_54 ?_
        refine lv_topi (fun y_25 ey_25 => ?_)
        obtain rfl : y_25 = (nI (25 * n_6)) := ey_25.trans (pk_mul 25 n_6)
        refine lv_iload_n hx hb dX9_overlap_55 rfl (lv_at hl 3 rfl) ?_
        refine lv_iadd hx hb dX9_overlap_56 ?_
        refine lv_topi (fun y_26 ey_26 => ?_)
        obtain rfl : y_26 = (nI ((25 * n_6) + g_10)) := ey_26.trans (nI_add (25 * n_6) g_10)
        refine va_iald hx hb hK hP 19 18 rfl rfl (vp_in_nI (n := ((25 * n_6) + g_10)) (by omega) (Nat.le_of_ble_eq_true rfl)) dX9_overlap_57 ?_
        refine lv_topi (fun y_27 ey_27 => ?_)
        have ey_27 : y_27 = f34 ((25 * n_6) + g_10) := ey_27.trans (congrArg f34 (nI_clamp (n := ((25 * n_6) + g_10)) (by first | omega | exact Nat.lt_trans (zx16 (by omega) (by omega) (by omega)) (Nat.le_of_ble_eq_true rfl) | exact Nat.lt_trans (zy16 (by omega) (by omega)) (Nat.le_of_ble_eq_true rfl) | exact Nat.lt_trans (zx25 (by omega) (by omega) (by omega)) (Nat.le_of_ble_eq_true rfl) | exact Nat.lt_trans (zy25 (by omega) (by omega)) (Nat.le_of_ble_eq_true rfl))))
        replace hsp := hsp.trans (slet_eq ey_27)
        refine va_calli (va_runS (As := [.int y_24, .int y_27]) (rest := [.int (nI g_10), .ref (ad 35)]) ⟨hx, hb, hml, hown, hts⟩ (c_EM_lesser l dC dI _ ad ck 0 x16 x18 x19 x20 x21 x22 x23 x24 x25 x26 x27 x28 x29 x30 x33 x45 z46_5 x52 x53 x61 x62 x63 x65 x66 f1 f2 f3 q4 q5 q6 q7 f8 q9 q10 f11 m12_0 m12_1 m13_0 m13_1 m14_0 m14_1 m15_0 m15_1 f17 q31 f32 f34 g_9 f36 f37 q38 f39 f40 f41 m42_0 m42_1 f43 f44 f47 f48 f49 f50 f51 q54 q55 q56 f57 q58 f59 f60 f64 y_24 y_27 hx16 hx18 hx19 hx21 hx22 hx26 hx28 hx29 hx30 hx33 (Nat.le_trans hz46_5 (Nat.le_of_ble_eq_true rfl)) hx52 hx53 hx61 hx62 hx63 hx65 hm12_0 hm12_1 hm13_0 hm13_1 hm14_0 hm14_1 hm15_0 hm15_1 hm42_0 hm42_1) (va_cwS 2 hts g_EM_overlap_EM_lesser rfl rfl rfl (by decide +kernel) ⟨Nat.le_of_ble_eq_true rfl, Nat.le_of_ble_eq_true rfl⟩) ⟨pu_bl, pu_in hP hK hD⟩ rfl rfl hl.1 rfl (lv_room (Nat.le_of_ble_eq_true rfl)) dX9_overlap_58 ⟨Nat.le_of_ble_eq_true rfl, Nat.le_of_ble_eq_true rfl⟩) hS (fun q _ h => pu_fr hS hA q h) (pu_fr hS hA) (fun r_28 u t H1 locs ht hvm hw hB hz1 hk1 hS => ?_)
        have hP := pu_keep hP hk1
        clear hk1 hz1 ht hvm
        generalize H1 = H at hP hS ⊢
        have ir_28 := hw
        replace hsp := hsp.trans (slet_eq ir_28)
        refine va_iast hx hb hK hP hD hS 20 19 rfl rfl (vp_in_nI (n := g_10) (by omega) (Nat.le_of_ble_eq_true rfl)) dX9_overlap_61 (fun H locs hP hD hS => ?_)
        obtain ⟨f_29, ef_29, xf_29⟩ := up_x g_9 (n := g_10) r_28 (Nat.lt_of_le_of_lt hg_10 (Nat.le_of_ble_eq_true rfl))
        have hP : va_P (dC, dI) vwCl (mo_w ad ck 0 (nI x16) (nI x18) (nI x19) x20 (nI x21) (nI x22) x23 x24 x25 (nI x26) x27 (nI x28) (nI x29) (nI x30) (nI x33) x45 (nI z46_5) (nI x52) (nI x53) (nI x61) (nI x62) (nI x63) (nI x65) x66 f1 f2 f3 (bN 3 q4) (bN 7 q5) (bN 7 q6) (bN 4 q7) f8 (bN 2 q9) (bH q10) f11 (b2 m12_0 m12_1) (b2 m13_0 m13_1) (b2 m14_0 m14_1) (b2m m15_0 m15_1) f17 (bA 159 q31) f32 f34 f_29 f36 f37 (bN 7 q38) f39 f40 f41 (b2 m42_0 m42_1) f43 f44 f47 f48 f49 f50 f51 (bN 13 q54) (bN 120 q55) (bN 120 q56) f57 (bN 120 q58) f59 f60 f64) H := by rw [← ef_29]; exact hP
        have hD : va_D A (mo_w ad ck 0 (nI x16) (nI x18) (nI x19) x20 (nI x21) (nI x22) x23 x24 x25 (nI x26) x27 (nI x28) (nI x29) (nI x30) (nI x33) x45 (nI z46_5) (nI x52) (nI x53) (nI x61) (nI x62) (nI x63) (nI x65) x66 f1 f2 f3 (bN 3 q4) (bN 7 q5) (bN 7 q6) (bN 4 q7) f8 (bN 2 q9) (bH q10) f11 (b2 m12_0 m12_1) (b2 m13_0 m13_1) (b2 m14_0 m14_1) (b2m m15_0 m15_1) f17 (bA 159 q31) f32 f34 f_29 f36 f37 (bN 7 q38) f39 f40 f41 (b2 m42_0 m42_1) f43 f44 f47 f48 f49 f50 f51 (bN 13 q54) (bN 120 q55) (bN 120 q56) f57 (bN 120 q58) f59 f60 f64) := by rw [← ef_29]; exact hD
        replace hsp := hsp.trans (slet_eq xf_29)
        refine lv_iinc (v := (nI (g_10 + 1))) (lv' := [(3, .int (nI (g_10 + 1))), (0, .ref (ad 0)), (1, .int (nI n_3)), (2, .int (nI n_6))]) hx hb dX9_overlap_62 hl (k := 3) rfl (nI_1 _) (by decide) rfl (fun ls hl => ?_)
        refine lv_goto (tgt := 25) hx hb dX9_overlap_65 (by decide) ?_
        exact ih_11 (25 - (g_10 + 1)) (by omega) _ _ _ ⟨f_29, (g_10 + 1), rfl, (by omega), hin_15 _ hsp, hP, hD, hS, lv_sub hl [1, 2, 3, 0] rfl⟩
    · replace hsp := hsp.trans (if_neg hn)
      refine lv_if_ne (tgt := 23) hx hb dX9_overlap_18 (by decide) (fun z => absurd z (by decide)) (fun _ => ?_)
      refine lv_iconst (v := (-1)) hx hb dX9_overlap_21 (by decide) ?_
      exact W.iret (v := (-1)) hx hb hr (fun t ht hW => ⟨⟨(-1), (), rfl, (congrArg Prod.fst (hsp.symm.trans hRR)), ⟨f35, 0, z46_5, ⟨by rw [ht]; exact hP, va_K.moved hW.alike hK, hD⟩, (Nat.le_trans hz46_5 (Nat.le_of_ble_eq_true rfl)), (congrArg Prod.snd (hsp.symm.trans hRR))⟩⟩, hS.F ht⟩) hS.2.2 dX9_overlap_22
  · replace hsp := hsp.trans (if_neg hn)
    refine lv_if_eq (tgt := 21) hx hb dX9_overlap_10 (by decide) (fun _ => ?_) (fun z => absurd z (by decide))
    refine lv_iconst (v := (-1)) hx hb dX9_overlap_21 (by decide) ?_
    exact W.iret (v := (-1)) hx hb hr (fun t ht hW => ⟨⟨(-1), (), rfl, (congrArg Prod.fst (hsp.symm.trans hRR)), ⟨f35, 0, z46_2, ⟨by rw [ht]; exact hP, va_K.moved hW.alike hK, hD⟩, (Nat.le_trans hz46_2 (Nat.le_of_ble_eq_true rfl)), (congrArg Prod.snd (hsp.symm.trans hRR))⟩⟩, hS.F ht⟩) hS.2.2 dX9_overlap_22
