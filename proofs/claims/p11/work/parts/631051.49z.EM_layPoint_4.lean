theorem dX9_layPoint_0 : decode cX9_layPoint 0 = .ok (.iconst 0, 1) := by decide +kernel
theorem dX9_layPoint_1 : decode cX9_layPoint 1 = .ok (.istore 4, 2) := by decide +kernel
theorem dX9_layPoint_3 : decode cX9_layPoint 3 = .ok (.iload 4, 2) := by decide +kernel
theorem dX9_layPoint_5 : decode cX9_layPoint 5 = .ok (.iconst 5, 1) := by decide +kernel
theorem dX9_layPoint_6 : decode cX9_layPoint 6 = .ok (.if_icmp .ge 111, 3) := by decide +kernel
theorem dX9_layPoint_9 : decode cX9_layPoint 9 = .ok (.iconst 0, 1) := by decide +kernel
theorem dX9_layPoint_10 : decode cX9_layPoint 10 = .ok (.istore 5, 2) := by decide +kernel
theorem dX9_layPoint_12 : decode cX9_layPoint 12 = .ok (.iload 5, 2) := by decide +kernel
theorem dX9_layPoint_14 : decode cX9_layPoint 14 = .ok (.iconst 5, 1) := by decide +kernel
theorem dX9_layPoint_15 : decode cX9_layPoint 15 = .ok (.if_icmp .ge 96, 3) := by decide +kernel
theorem dX9_layPoint_18 : decode cX9_layPoint 18 = .ok (.iload 4, 2) := by decide +kernel
theorem dX9_layPoint_20 : decode cX9_layPoint 20 = .ok (.iconst 1, 1) := by decide +kernel
theorem dX9_layPoint_21 : decode cX9_layPoint 21 = .ok (.if_icmp .ne 7, 3) := by decide +kernel
theorem dX9_layPoint_24 : decode cX9_layPoint 24 = .ok (.iload_n 1, 1) := by decide +kernel
theorem dX9_layPoint_25 : decode cX9_layPoint 25 = .ok (.goto 24, 3) := by decide +kernel
theorem dX9_layPoint_28 : decode cX9_layPoint 28 = .ok (.iload 4, 2) := by decide +kernel
theorem dX9_layPoint_30 : decode cX9_layPoint 30 = .ok (.iconst 2, 1) := by decide +kernel
theorem dX9_layPoint_31 : decode cX9_layPoint 31 = .ok (.if_icmp .ne 7, 3) := by decide +kernel
theorem dX9_layPoint_34 : decode cX9_layPoint 34 = .ok (.iload_n 2, 1) := by decide +kernel
theorem dX9_layPoint_35 : decode cX9_layPoint 35 = .ok (.goto 14, 3) := by decide +kernel
theorem dX9_layPoint_38 : decode cX9_layPoint 38 = .ok (.iload 4, 2) := by decide +kernel
theorem dX9_layPoint_40 : decode cX9_layPoint 40 = .ok (.iconst 3, 1) := by decide +kernel
theorem dX9_layPoint_41 : decode cX9_layPoint 41 = .ok (.if_icmp .ne 7, 3) := by decide +kernel
theorem dX9_layPoint_44 : decode cX9_layPoint 44 = .ok (.iload_n 3, 1) := by decide +kernel
theorem dX9_layPoint_45 : decode cX9_layPoint 45 = .ok (.goto 4, 3) := by decide +kernel
theorem dX9_layPoint_48 : decode cX9_layPoint 48 = .ok (.iconst 0, 1) := by decide +kernel
theorem dX9_layPoint_49 : decode cX9_layPoint 49 = .ok (.istore 6, 2) := by decide +kernel
theorem dX9_layPoint_51 : decode cX9_layPoint 51 = .ok (.iload 5, 2) := by decide +kernel
theorem dX9_layPoint_53 : decode cX9_layPoint 53 = .ok (.iconst 1, 1) := by decide +kernel
theorem dX9_layPoint_54 : decode cX9_layPoint 54 = .ok (.if_icmp .ne 7, 3) := by decide +kernel
theorem dX9_layPoint_57 : decode cX9_layPoint 57 = .ok (.iload_n 1, 1) := by decide +kernel
theorem dX9_layPoint_58 : decode cX9_layPoint 58 = .ok (.goto 24, 3) := by decide +kernel
theorem dX9_layPoint_61 : decode cX9_layPoint 61 = .ok (.iload 5, 2) := by decide +kernel
theorem dX9_layPoint_63 : decode cX9_layPoint 63 = .ok (.iconst 2, 1) := by decide +kernel
theorem dX9_layPoint_64 : decode cX9_layPoint 64 = .ok (.if_icmp .ne 7, 3) := by decide +kernel
theorem dX9_layPoint_67 : decode cX9_layPoint 67 = .ok (.iload_n 2, 1) := by decide +kernel
theorem dX9_layPoint_68 : decode cX9_layPoint 68 = .ok (.goto 14, 3) := by decide +kernel
theorem dX9_layPoint_71 : decode cX9_layPoint 71 = .ok (.iload 5, 2) := by decide +kernel
theorem dX9_layPoint_73 : decode cX9_layPoint 73 = .ok (.iconst 3, 1) := by decide +kernel
theorem dX9_layPoint_74 : decode cX9_layPoint 74 = .ok (.if_icmp .ne 7, 3) := by decide +kernel
theorem dX9_layPoint_77 : decode cX9_layPoint 77 = .ok (.iload_n 3, 1) := by decide +kernel
theorem dX9_layPoint_78 : decode cX9_layPoint 78 = .ok (.goto 4, 3) := by decide +kernel
theorem dX9_layPoint_81 : decode cX9_layPoint 81 = .ok (.iconst 0, 1) := by decide +kernel
theorem dX9_layPoint_82 : decode cX9_layPoint 82 = .ok (.istore 7, 2) := by decide +kernel
theorem dX9_layPoint_84 : decode cX9_layPoint 84 = .ok (.aload_n 0, 1) := by decide +kernel
theorem dX9_layPoint_85 : decode cX9_layPoint 85 = .ok (.getfield 71, 3) := by decide +kernel
theorem dX9_layPoint_88 : decode cX9_layPoint 88 = .ok (.iconst 5, 1) := by decide +kernel
theorem dX9_layPoint_89 : decode cX9_layPoint 89 = .ok (.iload 4, 2) := by decide +kernel
theorem dX9_layPoint_91 : decode cX9_layPoint 91 = .ok (.imul, 1) := by decide +kernel
theorem dX9_layPoint_92 : decode cX9_layPoint 92 = .ok (.iload 5, 2) := by decide +kernel
theorem dX9_layPoint_94 : decode cX9_layPoint 94 = .ok (.iadd, 1) := by decide +kernel
theorem dX9_layPoint_95 : decode cX9_layPoint 95 = .ok (.iconst 2, 1) := by decide +kernel
theorem dX9_layPoint_96 : decode cX9_layPoint 96 = .ok (.iload 6, 2) := by decide +kernel
theorem dX9_layPoint_98 : decode cX9_layPoint 98 = .ok (.iload 7, 2) := by decide +kernel
theorem dX9_layPoint_100 : decode cX9_layPoint 100 = .ok (.isub, 1) := by decide +kernel
theorem dX9_layPoint_101 : decode cX9_layPoint 101 = .ok (.imul, 1) := by decide +kernel
theorem dX9_layPoint_102 : decode cX9_layPoint 102 = .ok (.iconst 1, 1) := by decide +kernel
theorem dX9_layPoint_103 : decode cX9_layPoint 103 = .ok (.iadd, 1) := by decide +kernel
theorem dX9_layPoint_104 : decode cX9_layPoint 104 = .ok (.iastore, 1) := by decide +kernel
theorem dX9_layPoint_105 : decode cX9_layPoint 105 = .ok (.iinc 5 1, 3) := by decide +kernel
theorem dX9_layPoint_108 : decode cX9_layPoint 108 = .ok (.goto (-96), 3) := by decide +kernel
theorem dX9_layPoint_111 : decode cX9_layPoint 111 = .ok (.iinc 4 1, 3) := by decide +kernel
theorem dX9_layPoint_114 : decode cX9_layPoint 114 = .ok (.goto (-111), 3) := by decide +kernel
theorem dX9_layPoint_117 : decode cX9_layPoint 117 = .ok (.return_, 1) := by decide +kernel
abbrev vs_EM_layPoint : List Cond := .code yX9_layPoint cX9_layPoint 8 none :: VM
noncomputable def sp_EM_layPoint_L1 (p0 : Int32) (p1 : Int32) (p2 : Int32) (g_4 : Nat) : ((Nat → Int32) × Nat) → ((Nat → Int32) × Nat) ⊕ (((Nat → Int32) × Nat) ⊕ ((Nat → Int32))) := fun (g_14, g_15) => (if 5 ≤ g_15 then (Sum.inr (Sum.inl (g_14, (g_4 + 1)))) else (slet (α := Int32) (if g_4 = 1 then p0 else (if g_4 = 2 then p1 else (if g_4 = 3 then p2 else 0))) (fun g_23 => (slet (α := Int32) (if g_15 = 1 then p0 else (if g_15 = 2 then p1 else (if g_15 = 3 then p2 else 0))) (fun g_27 => (slet ((g_23 : Int32) - g_27) (fun y_33 => (slet ((2 : Int32) * y_33) (fun y_34 => (slet ((y_34 : Int32) + 1) (fun y_35 => (slet (upd g_14 ((5 * g_4) + g_15) y_35) (fun f_36 => (Sum.inl (f_36, (g_15 + 1))))))))))))))))
noncomputable def sp_EM_layPoint_L2 (p0 : Int32) (p1 : Int32) (p2 : Int32) : ((Nat → Int32) × Nat) → ((Nat → Int32) × Nat) ⊕ ((Nat → Int32)) := fun (g_3, g_4) => (if 5 ≤ g_4 then (Sum.inr g_3) else (itrv (α := (Nat → Int32) × Nat) (β := (((Nat → Int32) × Nat) ⊕ ((Nat → Int32)))) (Sum.inr default) (sp_EM_layPoint_L1 p0 p1 p2 g_4) (g_3, 0)))
noncomputable def sp_EM_layPoint (f35 : Nat → Int32) (p0 : Int32) (p1 : Int32) (p2 : Int32) : (Nat → Int32) := (itrv (α := (Nat → Int32) × Nat) (β := ((Nat → Int32))) default (sp_EM_layPoint_L2 p0 p1 p2) (f35, 0))
set_option maxHeartbeats 4000000 in
set_option maxRecDepth 100000 in
theorem c_EM_layPoint (l : Launch) (dC : Nat → ClassId) (dI : Nat → Nat → Nat) (sz : Nat) (ad : Nat → Nat) (ck : Nat → ClassId) (x0 : Int32) (x16 : Nat) (x18 : Nat) (x19 : Nat) (x20 : Int32) (x21 : Nat) (x22 : Nat) (x23 : Int32) (x24 : Int32) (x25 : Int32) (x26 : Nat) (x27 : Int32) (x28 : Nat) (x29 : Nat) (x30 : Nat) (x33 : Nat) (x45 : Int32) (x46 : Nat) (x52 : Nat) (x53 : Nat) (x61 : Nat) (x62 : Nat) (x63 : Nat) (x65 : Nat) (x66 : Int32) (f1 : Nat → Int32) (f2 : Nat → Int32) (f3 : Nat → Int32) (q4 : Nat → Nat) (q5 : Nat → Nat) (q6 : Nat → Nat) (q7 : Nat → Nat) (f8 : Nat → Int32) (q9 : Nat → Nat) (q10 : Nat → Nat) (f11 : Nat → Int32) (m12_0 m12_1 : Nat) (m13_0 m13_1 : Nat) (m14_0 m14_1 : Nat) (m15_0 m15_1 : Nat) (f17 : Nat → Int32) (q31 : Nat → Nat) (f32 : Nat → Int32) (f34 : Nat → Int32) (f35 : Nat → Int32) (f36 : Nat → Int32) (f37 : Nat → Int32) (q38 : Nat → Nat) (f39 : Nat → Int32) (f40 : Nat → Int32) (f41 : Nat → Int32) (m42_0 m42_1 : Nat) (f43 : Nat → Int32) (f44 : Nat → Int32) (f47 : Nat → Int32) (f48 : Nat → Int32) (f49 : Nat → Int32) (f50 : Nat → Int32) (f51 : Nat → Int32) (q54 : Nat → Nat) (q55 : Nat → Nat) (q56 : Nat → Nat) (f57 : Nat → Int32) (q58 : Nat → Nat) (f59 : Nat → Int32) (f60 : Nat → Int32) (f64 : Nat → Int32) (p0 : Int32) (p1 : Int32) (p2 : Int32) (hx16 : x16 ≤ 1) (hx18 : x18 ≤ 900) (hx19 : x19 ≤ 900) (hx21 : x21 ≤ 900) (hx22 : x22 ≤ 4) (hx26 : x26 ≤ 6) (hx28 : x28 ≤ 1) (hx29 : x29 ≤ 1) (hx30 : x30 ≤ 1) (hx33 : x33 ≤ 20) (hx46 : x46 ≤ 5) (hx52 : x52 ≤ 2400) (hx53 : x53 ≤ 119) (hx61 : x61 ≤ 119) (hx62 : x62 ≤ 2000) (hx63 : x63 ≤ 1) (hx65 : x65 ≤ 7) (hm12_0 : m12_0 ≤ 3) (hm12_1 : m12_1 ≤ 3) (hm13_0 : m13_0 ≤ 8) (hm13_1 : m13_1 ≤ 8) (hm14_0 : m14_0 ≤ 14) (hm14_1 : m14_1 ≤ 14) (hm15_0 : m15_0 ≤ 8) (hm15_1 : m15_1 ≤ 8) (hm42_0 : m42_0 ≤ 120) (hm42_1 : m42_1 ≤ 400) : Met l yX9_layPoint vs_EM_layPoint ({ frames := 0, cells := 0, slots := 0, locals := 0 }) (va_Pc [.ref (ad 0), .int p0, .int p1, .int p2] (pu_B (dC, dI) (mo_w ad ck x0 (nI x16) (nI x18) (nI x19) x20 (nI x21) (nI x22) x23 x24 x25 (nI x26) x27 (nI x28) (nI x29) (nI x30) (nI x33) x45 (nI x46) (nI x52) (nI x53) (nI x61) (nI x62) (nI x63) (nI x65) x66 f1 f2 f3 (bN 3 q4) (bN 7 q5) (bN 7 q6) (bN 4 q7) f8 (bN 2 q9) (bH q10) f11 (b2 m12_0 m12_1) (b2 m13_0 m13_1) (b2 m14_0 m14_1) (b2m m15_0 m15_1) f17 (bA 159 q31) f32 f34 f35 f36 f37 (bN 7 q38) f39 f40 f41 (b2 m42_0 m42_1) f43 f44 f47 f48 f49 f50 f51 (bN 13 q54) (bN 120 q55) (bN 120 q56) f57 (bN 120 q58) f59 f60 f64) (mo_t ck) sz)) (va_Qv (fun (_ : Unit) => True) (fun _ t => ∃ (z35 : Nat → Int32), pu_E (dC, dI) (mo_w ad ck x0 (nI x16) (nI x18) (nI x19) x20 (nI x21) (nI x22) x23 x24 x25 (nI x26) x27 (nI x28) (nI x29) (nI x30) (nI x33) x45 (nI x46) (nI x52) (nI x53) (nI x61) (nI x62) (nI x63) (nI x65) x66 f1 f2 f3 (bN 3 q4) (bN 7 q5) (bN 7 q6) (bN 4 q7) f8 (bN 2 q9) (bH q10) f11 (b2 m12_0 m12_1) (b2 m13_0 m13_1) (b2 m14_0 m14_1) (b2m m15_0 m15_1) f17 (bA 159 q31) f32 f34 z35 f36 f37 (bN 7 q38) f39 f40 f41 (b2 m42_0 m42_1) f43 f44 f47 f48 f49 f50 f51 (bN 13 q54) (bN 120 q55) (bN 120 q56) f57 (bN 120 q58) f59 f60 f64) (mo_t ck) (va_A ((mo_w ad ck x0 (nI x16) (nI x18) (nI x19) x20 (nI x21) (nI x22) x23 x24 x25 (nI x26) x27 (nI x28) (nI x29) (nI x30) (nI x33) x45 (nI x46) (nI x52) (nI x53) (nI x61) (nI x62) (nI x63) (nI x65) x66 f1 f2 f3 (bN 3 q4) (bN 7 q5) (bN 7 q6) (bN 4 q7) f8 (bN 2 q9) (bH q10) f11 (b2 m12_0 m12_1) (b2 m13_0 m13_1) (b2 m14_0 m14_1) (b2m m15_0 m15_1) f17 (bA 159 q31) f32 f34 f35 f36 f37 (bN 7 q38) f39 f40 f41 (b2 m42_0 m42_1) f43 f44 f47 f48 f49 f50 f51 (bN 13 q54) (bN 120 q55) (bN 120 q56) f57 (bN 120 q58) f59 f60 f64)) sz) t ∧ (z35 = (sp_EM_layPoint f35 p0 p1 p2))) (va_A ((mo_w ad ck x0 (nI x16) (nI x18) (nI x19) x20 (nI x21) (nI x22) x23 x24 x25 (nI x26) x27 (nI x28) (nI x29) (nI x30) (nI x33) x45 (nI x46) (nI x52) (nI x53) (nI x61) (nI x62) (nI x63) (nI x65) x66 f1 f2 f3 (bN 3 q4) (bN 7 q5) (bN 7 q6) (bN 4 q7) f8 (bN 2 q9) (bH q10) f11 (b2 m12_0 m12_1) (b2 m13_0 m13_1) (b2 m14_0 m14_1) (b2m m15_0 m15_1) f17 (bA 159 q31) f32 f34 f35 f36 f37 (bN 7 q38) f39 f40 f41 (b2 m42_0 m42_1) f43 f44 f47 f48 f49 f50 f51 (bN 13 q54) (bN 120 q55) (bN 120 q56) f57 (bN 120 q58) f59 f60 f64)) sz)) 0 0 (va_A ((mo_w ad ck x0 (nI x16) (nI x18) (nI x19) x20 (nI x21) (nI x22) x23 x24 x25 (nI x26) x27 (nI x28) (nI x29) (nI x30) (nI x33) x45 (nI x46) (nI x52) (nI x53) (nI x61) (nI x62) (nI x63) (nI x65) x66 f1 f2 f3 (bN 3 q4) (bN 7 q5) (bN 7 q6) (bN 4 q7) f8 (bN 2 q9) (bH q10) f11 (b2 m12_0 m12_1) (b2 m13_0 m13_1) (b2 m14_0 m14_1) (b2m m15_0 m15_1) f17 (bA 159 q31) f32 f34 f35 f36 f37 (bN 7 q38) f39 f40 f41 (b2 m42_0 m42_1) f43 f44 f47 f48 f49 f50 f51 (bN 13 q54) (bN 120 q55) (bN 120 q56) f57 (bN 120 q58) f59 f60 f64)) sz) := by
  refine Met.ofW (cc := cX9_layPoint) (maxL := 8) (ret := none) (by decide) rfl ?_
  intro p e s m args below meth c s₁ B hml hv
  obtain ⟨rfl, rfl, hP, hK, hD0⟩ := hv
  have hx := B.exec
  have hb := B.bytes
  have hr := B.returns
  have hts := atoms_spec (ws := vs_EM_layPoint) B.pre
  have v_1 := hts (.fieldLink RX9 71 "ClockReachModel" "z" "[I") (List.mem_cons_of_mem _ vm_219)
  have hown : s.vm.findClass RX9 = some m.cls := findClass_of_methodNamed B.named
  have hlocks := B.notSynchronized
  have hiX9 : ∀ w ∈ wsX90, w ∈ vs_EM_layPoint := fun _ h => List.mem_cons_of_mem _ (vmi_L h)
  have hD := hD0.self (sz := s.heap.size)
  generalize hAe : va_A ((mo_w ad ck x0 (nI x16) (nI x18) (nI x19) x20 (nI x21) (nI x22) x23 x24 x25 (nI x26) x27 (nI x28) (nI x29) (nI x30) (nI x33) x45 (nI x46) (nI x52) (nI x53) (nI x61) (nI x62) (nI x63) (nI x65) x66 f1 f2 f3 (bN 3 q4) (bN 7 q5) (bN 7 q6) (bN 4 q7) f8 (bN 2 q9) (bH q10) f11 (b2 m12_0 m12_1) (b2 m13_0 m13_1) (b2 m14_0 m14_1) (b2m m15_0 m15_1) f17 (bA 159 q31) f32 f34 f35 f36 f37 (bN 7 q38) f39 f40 f41 (b2 m42_0 m42_1) f43 f44 f47 f48 f49 f50 f51 (bN 13 q54) (bN 120 q55) (bN 120 q56) f57 (bN 120 q58) f59 f60 f64)) s.heap.size = A at hD ⊢
  have hA : ∀ q : Nat, s.heap.size ≤ q → A q := fun q h => by rw [← hAe]; exact Or.inr h
  have hS : va_S A s.heap s.heap [] := va_S.rf
  have hl := lv_entry ([.ref (ad 0), .int p0, .int p1, .int p2]) (n := 8) (Nat.le_of_ble_eq_true rfl)
  rw [lg_entry_eq]
  generalize (lg_sl ([.ref (ad 0), .int p0, .int p1, .int p2]) ++ List.replicate (8 - (lg_sl ([.ref (ad 0), .int p0, .int p1, .int p2])).length) Slot.unset).toArray = ls at hl ⊢
  have hl : lv_has ls 8 [(0, .ref (ad 0)), (1, .int p0), (2, .int p1), (3, .int p2)] := hl
  obtain ⟨RR, hRR⟩ : ∃ x, x = (sp_EM_layPoint f35 p0 p1 p2) := ⟨_, rfl⟩
  have hsp := hRR
  refine lv_iconst (v := 0) hx hb dX9_layPoint_0 (by decide) ?_
  refine lv_istore (lv' := [(4, .int 0), (0, .ref (ad 0)), (1, .int p0), (2, .int p1), (3, .int p2)]) hx hb dX9_layPoint_1 hl (by decide) rfl (fun ls hl => ?_)
  obtain ⟨lf_6, dlf_6, hlf_6, hsp⟩ := itr_ex hsp
  delta sp_EM_layPoint_L2 at hlf_6
  refine pu_while (fun nn H locs ls => ∃ (g_3 : Nat → Int32) (g_4 : Nat), nn = 5 - g_4 ∧ g_4 ≤ 5 ∧ RR = itrv dlf_6 lf_6 (g_3, g_4) ∧ va_P (dC, dI) vwCl (mo_w ad ck x0 (nI x16) (nI x18) (nI x19) x20 (nI x21) (nI x22) x23 x24 x25 (nI x26) x27 (nI x28) (nI x29) (nI x30) (nI x33) x45 (nI x46) (nI x52) (nI x53) (nI x61) (nI x62) (nI x63) (nI x65) x66 f1 f2 f3 (bN 3 q4) (bN 7 q5) (bN 7 q6) (bN 4 q7) f8 (bN 2 q9) (bH q10) f11 (b2 m12_0 m12_1) (b2 m13_0 m13_1) (b2 m14_0 m14_1) (b2m m15_0 m15_1) f17 (bA 159 q31) f32 f34 g_3 f36 f37 (bN 7 q38) f39 f40 f41 (b2 m42_0 m42_1) f43 f44 f47 f48 f49 f50 f51 (bN 13 q54) (bN 120 q55) (bN 120 q56) f57 (bN 120 q58) f59 f60 f64) H ∧ va_D A (mo_w ad ck x0 (nI x16) (nI x18) (nI x19) x20 (nI x21) (nI x22) x23 x24 x25 (nI x26) x27 (nI x28) (nI x29) (nI x30) (nI x33) x45 (nI x46) (nI x52) (nI x53) (nI x61) (nI x62) (nI x63) (nI x65) x66 f1 f2 f3 (bN 3 q4) (bN 7 q5) (bN 7 q6) (bN 4 q7) f8 (bN 2 q9) (bH q10) f11 (b2 m12_0 m12_1) (b2 m13_0 m13_1) (b2 m14_0 m14_1) (b2m m15_0 m15_1) f17 (bA 159 q31) f32 f34 g_3 f36 f37 (bN 7 q38) f39 f40 f41 (b2 m42_0 m42_1) f43 f44 f47 f48 f49 f50 f51 (bN 13 q54) (bN 120 q55) (bN 120 q56) f57 (bN 120 q58) f59 f60 f64) ∧ va_S A s.heap H locs ∧ lv_has ls 8 [(0, .ref (ad 0)), (1, .int p0), (2, .int p1), (3, .int p2), (4, .int (nI g_4))]) 3 ?_ _ _ _ _ ⟨f35, 0, rfl, (Nat.le_of_ble_eq_true rfl), hsp, hP, hD, hS, lv_sub hl [1, 2, 3, 4, 0] rfl⟩
  rintro nn ih_5 H locs ls ⟨g_3, g_4, rfl, hg_4, he_8, hP, hD, hS, hl⟩
  obtain ⟨S_7, hsp, hin_9, hout_10⟩ := itr_step hlf_6 he_8
  refine lv_iload hx hb dX9_layPoint_3 (lv_at hl 4 rfl) ?_
  refine lv_iconst (v := 5) hx hb dX9_layPoint_5 (by decide) ?_
  refine lv_icmp_ge (tgt := 117) hx hb dX9_layPoint_6 (by decide) (fun c_11 => ?_) (fun c_11 => ?_)
  · have c_11 : 5 ≤ g_4 := (nI_leI (a := 5) (b := g_4) (Nat.le_of_ble_eq_true rfl) (Nat.lt_of_le_of_lt hg_4 (Nat.le_of_ble_eq_true rfl))).mp c_11
    replace hsp := hsp.trans (if_pos c_11)
    have hsp := hout_10 _ hsp
    exact W.vret hx hb hr (fun t ht hW => ⟨⟨(), rfl, trivial, ⟨g_3, ⟨by rw [ht]; exact hP, va_K.moved hW.alike hK, hD⟩, (hsp.symm.trans hRR)⟩⟩, hS.F ht⟩) hS.2.2 dX9_layPoint_117
  · have c_11 : ¬ 5 ≤ g_4 := fun z => c_11 ((nI_leI (a := 5) (b := g_4) (Nat.le_of_ble_eq_true rfl) (Nat.lt_of_le_of_lt hg_4 (Nat.le_of_ble_eq_true rfl))).mpr z)
    replace hsp := hsp.trans (if_neg c_11)
    refine lv_iconst (v := 0) hx hb dX9_layPoint_9 (by decide) ?_
    refine lv_istore (lv' := [(5, .int 0), (0, .ref (ad 0)), (1, .int p0), (2, .int p1), (3, .int p2), (4, .int (nI g_4))]) hx hb dX9_layPoint_10 hl (by decide) rfl (fun ls hl => ?_)
    obtain ⟨lf_17, dlf_17, hlf_17, hsp⟩ := itr_ex hsp
    delta sp_EM_layPoint_L1 at hlf_17
    refine pu_while (fun nn H locs ls => ∃ (g_14 : Nat → Int32) (g_15 : Nat), nn = 5 - g_15 ∧ g_15 ≤ 5 ∧ S_7 = itrv dlf_17 lf_17 (g_14, g_15) ∧ va_P (dC, dI) vwCl (mo_w ad ck x0 (nI x16) (nI x18) (nI x19) x20 (nI x21) (nI x22) x23 x24 x25 (nI x26) x27 (nI x28) (nI x29) (nI x30) (nI x33) x45 (nI x46) (nI x52) (nI x53) (nI x61) (nI x62) (nI x63) (nI x65) x66 f1 f2 f3 (bN 3 q4) (bN 7 q5) (bN 7 q6) (bN 4 q7) f8 (bN 2 q9) (bH q10) f11 (b2 m12_0 m12_1) (b2 m13_0 m13_1) (b2 m14_0 m14_1) (b2m m15_0 m15_1) f17 (bA 159 q31) f32 f34 g_14 f36 f37 (bN 7 q38) f39 f40 f41 (b2 m42_0 m42_1) f43 f44 f47 f48 f49 f50 f51 (bN 13 q54) (bN 120 q55) (bN 120 q56) f57 (bN 120 q58) f59 f60 f64) H ∧ va_D A (mo_w ad ck x0 (nI x16) (nI x18) (nI x19) x20 (nI x21) (nI x22) x23 x24 x25 (nI x26) x27 (nI x28) (nI x29) (nI x30) (nI x33) x45 (nI x46) (nI x52) (nI x53) (nI x61) (nI x62) (nI x63) (nI x65) x66 f1 f2 f3 (bN 3 q4) (bN 7 q5) (bN 7 q6) (bN 4 q7) f8 (bN 2 q9) (bH q10) f11 (b2 m12_0 m12_1) (b2 m13_0 m13_1) (b2 m14_0 m14_1) (b2m m15_0 m15_1) f17 (bA 159 q31) f32 f34 g_14 f36 f37 (bN 7 q38) f39 f40 f41 (b2 m42_0 m42_1) f43 f44 f47 f48 f49 f50 f51 (bN 13 q54) (bN 120 q55) (bN 120 q56) f57 (bN 120 q58) f59 f60 f64) ∧ va_S A s.heap H locs ∧ lv_has ls 8 [(0, .ref (ad 0)), (1, .int p0), (2, .int p1), (3, .int p2), (4, .int (nI g_4)), (5, .int (nI g_15))]) 12 ?_ _ _ _ _ ⟨g_3, 0, rfl, (Nat.le_of_ble_eq_true rfl), hsp, hP, hD, hS, lv_sub hl [1, 2, 3, 4, 5, 0] rfl⟩
    rintro nn ih_16 H locs ls ⟨g_14, g_15, rfl, hg_15, he_19, hP, hD, hS, hl⟩
    obtain ⟨S_18, hsp, hin_20, hout_21⟩ := itr_step hlf_17 he_19
    refine lv_iload hx hb dX9_layPoint_12 (lv_at hl 5 rfl) ?_
    refine lv_iconst (v := 5) hx hb dX9_layPoint_14 (by decide) ?_
    refine lv_icmp_ge (tgt := 111) hx hb dX9_layPoint_15 (by decide) (fun c_22 => ?_) (fun c_22 => ?_)
    · have c_22 : 5 ≤ g_15 := (nI_leI (a := 5) (b := g_15) (Nat.le_of_ble_eq_true rfl) (Nat.lt_of_le_of_lt hg_15 (Nat.le_of_ble_eq_true rfl))).mp c_22
      replace hsp := hsp.trans (if_pos c_22)
      have hsp := hout_21 _ hsp
      refine lv_iinc (v := (nI (g_4 + 1))) (lv' := [(4, .int (nI (g_4 + 1))), (0, .ref (ad 0)), (1, .int p0), (2, .int p1), (3, .int p2), (5, .int (nI g_15))]) hx hb dX9_layPoint_111 hl (k := 4) rfl (nI_1 _) (by decide) rfl (fun ls hl => ?_)
      refine lv_goto (tgt := 3) hx hb dX9_layPoint_114 (by decide) ?_
      exact ih_5 (5 - (g_4 + 1)) (by omega) _ _ _ ⟨g_14, (g_4 + 1), rfl, (by omega), hin_9 _ hsp, hP, hD, hS, lv_sub hl [1, 2, 3, 4, 0] rfl⟩
    · have c_22 : ¬ 5 ≤ g_15 := fun z => c_22 ((nI_leI (a := 5) (b := g_15) (Nat.le_of_ble_eq_true rfl) (Nat.lt_of_le_of_lt hg_15 (Nat.le_of_ble_eq_true rfl))).mpr z)
      replace hsp := hsp.trans (if_neg c_22)
      refine lv_iload hx hb dX9_layPoint_18 (lv_at hl 4 rfl) ?_
      refine lv_iconst (v := 1) hx hb dX9_layPoint_20 (by decide) ?_
      obtain ⟨JR_25, hJR_25, hsp⟩ := slet_ex hsp
      refine pu_join (fun H locs ls st => ∃ (g_23 : Int32), st = [.int g_23] ∧ g_23 = JR_25 ∧ va_P (dC, dI) vwCl (mo_w ad ck x0 (nI x16) (nI x18) (nI x19) x20 (nI x21) (nI x22) x23 x24 x25 (nI x26) x27 (nI x28) (nI x29) (nI x30) (nI x33) x45 (nI x46) (nI x52) (nI x53) (nI x61) (nI x62) (nI x63) (nI x65) x66 f1 f2 f3 (bN 3 q4) (bN 7 q5) (bN 7 q6) (bN 4 q7) f8 (bN 2 q9) (bH q10) f11 (b2 m12_0 m12_1) (b2 m13_0 m13_1) (b2 m14_0 m14_1) (b2m m15_0 m15_1) f17 (bA 159 q31) f32 f34 g_14 f36 f37 (bN 7 q38) f39 f40 f41 (b2 m42_0 m42_1) f43 f44 f47 f48 f49 f50 f51 (bN 13 q54) (bN 120 q55) (bN 120 q56) f57 (bN 120 q58) f59 f60 f64) H ∧ va_D A (mo_w ad ck x0 (nI x16) (nI x18) (nI x19) x20 (nI x21) (nI x22) x23 x24 x25 (nI x26) x27 (nI x28) (nI x29) (nI x30) (nI x33) x45 (nI x46) (nI x52) (nI x53) (nI x61) (nI x62) (nI x63) (nI x65) x66 f1 f2 f3 (bN 3 q4) (bN 7 q5) (bN 7 q6) (bN 4 q7) f8 (bN 2 q9) (bH q10) f11 (b2 m12_0 m12_1) (b2 m13_0 m13_1) (b2 m14_0 m14_1) (b2m m15_0 m15_1) f17 (bA 159 q31) f32 f34 g_14 f36 f37 (bN 7 q38) f39 f40 f41 (b2 m42_0 m42_1) f43 f44 f47 f48 f49 f50 f51 (bN 13 q54) (bN 120 q55) (bN 120 q56) f57 (bN 120 q58) f59 f60 f64) ∧ va_S A s.heap H locs ∧ lv_has ls 8 [(0, .ref (ad 0)), (1, .int p0), (2, .int p1), (3, .int p2), (4, .int (nI g_4)), (5, .int (nI g_15))]) 49 ?_ (fun j_24 => ?_)
      · rintro H locs ls st ⟨g_23, rfl, he_26, hP, hD, hS, hl⟩
        rw [← he_26] at hsp
        refine lv_istore (lv' := [(6, .int g_23), (0, .ref (ad 0)), (1, .int p0), (2, .int p1), (3, .int p2), (4, .int (nI g_4)), (5, .int (nI g_15))]) hx hb dX9_layPoint_49 hl (by decide) rfl (fun ls hl => ?_)
        refine lv_iload hx hb dX9_layPoint_51 (lv_at hl 6 rfl) ?_
        refine lv_iconst (v := 1) hx hb dX9_layPoint_53 (by decide) ?_
        obtain ⟨JR_29, hJR_29, hsp⟩ := slet_ex hsp
        refine pu_join (fun H locs ls st => ∃ (g_27 : Int32), st = [.int g_27] ∧ g_27 = JR_29 ∧ va_P (dC, dI) vwCl (mo_w ad ck x0 (nI x16) (nI x18) (nI x19) x20 (nI x21) (nI x22) x23 x24 x25 (nI x26) x27 (nI x28) (nI x29) (nI x30) (nI x33) x45 (nI x46) (nI x52) (nI x53) (nI x61) (nI x62) (nI x63) (nI x65) x66 f1 f2 f3 (bN 3 q4) (bN 7 q5) (bN 7 q6) (bN 4 q7) f8 (bN 2 q9) (bH q10) f11 (b2 m12_0 m12_1) (b2 m13_0 m13_1) (b2 m14_0 m14_1) (b2m m15_0 m15_1) f17 (bA 159 q31) f32 f34 g_14 f36 f37 (bN 7 q38) f39 f40 f41 (b2 m42_0 m42_1) f43 f44 f47 f48 f49 f50 f51 (bN 13 q54) (bN 120 q55) (bN 120 q56) f57 (bN 120 q58) f59 f60 f64) H ∧ va_D A (mo_w ad ck x0 (nI x16) (nI x18) (nI x19) x20 (nI x21) (nI x22) x23 x24 x25 (nI x26) x27 (nI x28) (nI x29) (nI x30) (nI x33) x45 (nI x46) (nI x52) (nI x53) (nI x61) (nI x62) (nI x63) (nI x65) x66 f1 f2 f3 (bN 3 q4) (bN 7 q5) (bN 7 q6) (bN 4 q7) f8 (bN 2 q9) (bH q10) f11 (b2 m12_0 m12_1) (b2 m13_0 m13_1) (b2 m14_0 m14_1) (b2m m15_0 m15_1) f17 (bA 159 q31) f32 f34 g_14 f36 f37 (bN 7 q38) f39 f40 f41 (b2 m42_0 m42_1) f43 f44 f47 f48 f49 f50 f51 (bN 13 q54) (bN 120 q55) (bN 120 q56) f57 (bN 120 q58) f59 f60 f64) ∧ va_S A s.heap H locs ∧ lv_has ls 8 [(0, .ref (ad 0)), (1, .int p0), (2, .int p1), (3, .int p2), (4, .int (nI g_4)), (5, .int (nI g_15)), (6, .int g_23)]) 82 ?_ (fun j_28 => ?_)
        · rintro H locs ls st ⟨g_27, rfl, he_30, hP, hD, hS, hl⟩
          rw [← he_30] at hsp
          refine lv_istore (lv' := [(7, .int g_27), (0, .ref (ad 0)), (1, .int p0), (2, .int p1), (3, .int p2), (4, .int (nI g_4)), (5, .int (nI g_15)), (6, .int g_23)]) hx hb dX9_layPoint_82 hl (by decide) rfl (fun ls hl => ?_)
          refine lv_aload_n hx hb dX9_layPoint_84 rfl (lv_at hl 1 rfl) ?_
          refine va_get (D := (dC, dI)) (ci := 9) (v := .ref (ad 35)) (C := RX9) (T := TX9) (N := 67) hx hb hts hiX9 hown hK hP 0 rfl rfl 35 (by decide) v_1 (fun _ h9 => h9) rfl dX9_layPoint_85 ?_
          refine lv_iconst (v := 5) hx hb dX9_layPoint_88 (by decide) ?_
          refine lv_iload hx hb dX9_layPoint_89 (lv_at hl 5 rfl) ?_
          refine lv_imul hx hb dX9_layPoint_91 ?_
          refine lv_topi (fun y_31 ey_31 => ?_)
          obtain rfl : y_31 = (nI (5 * g_4)) := ey_31.trans (pk_mul 5 g_4)
          refine lv_iload hx hb dX9_layPoint_92 (lv_at hl 6 rfl) ?_
          refine lv_iadd hx hb dX9_layPoint_94 ?_
          refine lv_topi (fun y_32 ey_32 => ?_)
          obtain rfl : y_32 = (nI ((5 * g_4) + g_15)) := ey_32.trans (nI_add (5 * g_4) g_15)
          refine lv_iconst (v := 2) hx hb dX9_layPoint_95 (by decide) ?_
          refine lv_iload hx hb dX9_layPoint_96 (lv_at hl 7 rfl) ?_
          refine lv_iload hx hb dX9_layPoint_98 (lv_at hl 0 rfl) ?_
          refine lv_isub hx hb dX9_layPoint_100 ?_
          refine lv_topi (fun y_33 ey_33 => ?_)
          replace hsp := hsp.trans (slet_eq ey_33)
          refine lv_imul hx hb dX9_layPoint_101 ?_
          refine lv_topi (fun y_34 ey_34 => ?_)
          replace hsp := hsp.trans (slet_eq ey_34)
          refine lv_iconst (v := 1) hx hb dX9_layPoint_102 (by decide) ?_
          refine lv_iadd hx hb dX9_layPoint_103 ?_
          refine lv_topi (fun y_35 ey_35 => ?_)
          replace hsp := hsp.trans (slet_eq ey_35)
          refine va_iast hx hb hK hP hD hS 20 19 rfl rfl (vp_in_nI (n := ((5 * g_4) + g_15)) (by omega) (Nat.le_of_ble_eq_true rfl)) dX9_layPoint_104 (fun H locs hP hD hS => ?_)
          obtain ⟨f_36, ef_36, xf_36⟩ := up_x g_14 (n := ((5 * g_4) + g_15)) y_35 (by first | omega | exact Nat.lt_trans (zx16 (by omega) (by omega) (by omega)) (Nat.le_of_ble_eq_true rfl) | exact Nat.lt_trans (zy16 (by omega) (by omega)) (Nat.le_of_ble_eq_true rfl) | exact Nat.lt_trans (zx25 (by omega) (by omega) (by omega)) (Nat.le_of_ble_eq_true rfl) | exact Nat.lt_trans (zy25 (by omega) (by omega)) (Nat.le_of_ble_eq_true rfl))
          have hP : va_P (dC, dI) vwCl (mo_w ad ck x0 (nI x16) (nI x18) (nI x19) x20 (nI x21) (nI x22) x23 x24 x25 (nI x26) x27 (nI x28) (nI x29) (nI x30) (nI x33) x45 (nI x46) (nI x52) (nI x53) (nI x61) (nI x62) (nI x63) (nI x65) x66 f1 f2 f3 (bN 3 q4) (bN 7 q5) (bN 7 q6) (bN 4 q7) f8 (bN 2 q9) (bH q10) f11 (b2 m12_0 m12_1) (b2 m13_0 m13_1) (b2 m14_0 m14_1) (b2m m15_0 m15_1) f17 (bA 159 q31) f32 f34 f_36 f36 f37 (bN 7 q38) f39 f40 f41 (b2 m42_0 m42_1) f43 f44 f47 f48 f49 f50 f51 (bN 13 q54) (bN 120 q55) (bN 120 q56) f57 (bN 120 q58) f59 f60 f64) H := by rw [← ef_36]; exact hP
          have hD : va_D A (mo_w ad ck x0 (nI x16) (nI x18) (nI x19) x20 (nI x21) (nI x22) x23 x24 x25 (nI x26) x27 (nI x28) (nI x29) (nI x30) (nI x33) x45 (nI x46) (nI x52) (nI x53) (nI x61) (nI x62) (nI x63) (nI x65) x66 f1 f2 f3 (bN 3 q4) (bN 7 q5) (bN 7 q6) (bN 4 q7) f8 (bN 2 q9) (bH q10) f11 (b2 m12_0 m12_1) (b2 m13_0 m13_1) (b2 m14_0 m14_1) (b2m m15_0 m15_1) f17 (bA 159 q31) f32 f34 f_36 f36 f37 (bN 7 q38) f39 f40 f41 (b2 m42_0 m42_1) f43 f44 f47 f48 f49 f50 f51 (bN 13 q54) (bN 120 q55) (bN 120 q56) f57 (bN 120 q58) f59 f60 f64) := by rw [← ef_36]; exact hD
          replace hsp := hsp.trans (slet_eq xf_36)
          refine lv_iinc (v := (nI (g_15 + 1))) (lv' := [(5, .int (nI (g_15 + 1))), (7, .int g_27), (0, .ref (ad 0)), (1, .int p0), (2, .int p1), (3, .int p2), (4, .int (nI g_4)), (6, .int g_23)]) hx hb dX9_layPoint_105 hl (k := 6) rfl (nI_1 _) (by decide) rfl (fun ls hl => ?_)
          refine lv_goto (tgt := 12) hx hb dX9_layPoint_108 (by decide) ?_
          exact ih_16 (5 - (g_15 + 1)) (by omega) _ _ _ ⟨f_36, (g_15 + 1), rfl, (by omega), hin_20 _ hsp, hP, hD, hS, lv_sub hl [2, 3, 4, 5, 6, 0] rfl⟩
        have hsp := hJR_29
        refine lv_icmp_ne (tgt := 61) hx hb dX9_layPoint_54 (by decide) (fun c_37 => ?_) (fun c_37 => ?_)
        · have c_37 : ¬ g_15 = 1 := fun z => c_37 ((nI_eq (a := g_15) (b := 1) (Nat.lt_of_le_of_lt hg_15 (Nat.le_of_ble_eq_true rfl)) (Nat.le_of_ble_eq_true rfl)).mpr z)
          replace hsp := hsp.trans (if_neg c_37)
          refine lv_iload hx hb dX9_layPoint_61 (lv_at hl 6 rfl) ?_
          refine lv_iconst (v := 2) hx hb dX9_layPoint_63 (by decide) ?_
          refine lv_icmp_ne (tgt := 71) hx hb dX9_layPoint_64 (by decide) (fun c_38 => ?_) (fun c_38 => ?_)
          · have c_38 : ¬ g_15 = 2 := fun z => c_38 ((nI_eq (a := g_15) (b := 2) (Nat.lt_of_le_of_lt hg_15 (Nat.le_of_ble_eq_true rfl)) (Nat.le_of_ble_eq_true rfl)).mpr z)
            replace hsp := hsp.trans (if_neg c_38)
            refine lv_iload hx hb dX9_layPoint_71 (lv_at hl 6 rfl) ?_
            refine lv_iconst (v := 3) hx hb dX9_layPoint_73 (by decide) ?_
            refine lv_icmp_ne (tgt := 81) hx hb dX9_layPoint_74 (by decide) (fun c_39 => ?_) (fun c_39 => ?_)
            · have c_39 : ¬ g_15 = 3 := fun z => c_39 ((nI_eq (a := g_15) (b := 3) (Nat.lt_of_le_of_lt hg_15 (Nat.le_of_ble_eq_true rfl)) (Nat.le_of_ble_eq_true rfl)).mpr z)
              replace hsp := hsp.trans (if_neg c_39)
              refine lv_iconst (v := 0) hx hb dX9_layPoint_81 (by decide) ?_
              exact j_28 _ _ _ _ ⟨0, rfl, hsp.symm, hP, hD, hS, lv_sub hl [1, 2, 3, 4, 5, 6, 0] rfl⟩
            · have c_39 : g_15 = 3 := (nI_eq (a := g_15) (b := 3) (Nat.lt_of_le_of_lt hg_15 (Nat.le_of_ble_eq_true rfl)) (Nat.le_of_ble_eq_true rfl)).mp c_39
              replace hsp := hsp.trans (if_pos c_39)
              refine lv_iload_n hx hb dX9_layPoint_77 rfl (lv_at hl 4 rfl) ?_
              refine lv_goto (tgt := 82) hx hb dX9_layPoint_78 (by decide) ?_
              exact j_28 _ _ _ _ ⟨p2, rfl, hsp.symm, hP, hD, hS, lv_sub hl [1, 2, 3, 4, 5, 6, 0] rfl⟩
          · have c_38 : g_15 = 2 := (nI_eq (a := g_15) (b := 2) (Nat.lt_of_le_of_lt hg_15 (Nat.le_of_ble_eq_true rfl)) (Nat.le_of_ble_eq_true rfl)).mp c_38
            replace hsp := hsp.trans (if_pos c_38)
            refine lv_iload_n hx hb dX9_layPoint_67 rfl (lv_at hl 3 rfl) ?_
            refine lv_goto (tgt := 82) hx hb dX9_layPoint_68 (by decide) ?_
            exact j_28 _ _ _ _ ⟨p1, rfl, hsp.symm, hP, hD, hS, lv_sub hl [1, 2, 3, 4, 5, 6, 0] rfl⟩
        · have c_37 : g_15 = 1 := (nI_eq (a := g_15) (b := 1) (Nat.lt_of_le_of_lt hg_15 (Nat.le_of_ble_eq_true rfl)) (Nat.le_of_ble_eq_true rfl)).mp c_37
          replace hsp := hsp.trans (if_pos c_37)
          refine lv_iload_n hx hb dX9_layPoint_57 rfl (lv_at hl 2 rfl) ?_
          refine lv_goto (tgt := 82) hx hb dX9_layPoint_58 (by decide) ?_
          exact j_28 _ _ _ _ ⟨p0, rfl, hsp.symm, hP, hD, hS, lv_sub hl [1, 2, 3, 4, 5, 6, 0] rfl⟩
      have hsp := hJR_25
      refine lv_icmp_ne (tgt := 28) hx hb dX9_layPoint_21 (by decide) (fun c_40 => ?_) (fun c_40 => ?_)
      · have c_40 : ¬ g_4 = 1 := fun z => c_40 ((nI_eq (a := g_4) (b := 1) (Nat.lt_of_le_of_lt hg_4 (Nat.le_of_ble_eq_true rfl)) (Nat.le_of_ble_eq_true rfl)).mpr z)
        replace hsp := hsp.trans (if_neg c_40)
        refine lv_iload hx hb dX9_layPoint_28 (lv_at hl 4 rfl) ?_
        refine lv_iconst (v := 2) hx hb dX9_layPoint_30 (by decide) ?_
        refine lv_icmp_ne (tgt := 38) hx hb dX9_layPoint_31 (by decide) (fun c_41 => ?_) (fun c_41 => ?_)
        · have c_41 : ¬ g_4 = 2 := fun z => c_41 ((nI_eq (a := g_4) (b := 2) (Nat.lt_of_le_of_lt hg_4 (Nat.le_of_ble_eq_true rfl)) (Nat.le_of_ble_eq_true rfl)).mpr z)
          replace hsp := hsp.trans (if_neg c_41)
          refine lv_iload hx hb dX9_layPoint_38 (lv_at hl 4 rfl) ?_
          refine lv_iconst (v := 3) hx hb dX9_layPoint_40 (by decide) ?_
          refine lv_icmp_ne (tgt := 48) hx hb dX9_layPoint_41 (by decide) (fun c_42 => ?_) (fun c_42 => ?_)
          · have c_42 : ¬ g_4 = 3 := fun z => c_42 ((nI_eq (a := g_4) (b := 3) (Nat.lt_of_le_of_lt hg_4 (Nat.le_of_ble_eq_true rfl)) (Nat.le_of_ble_eq_true rfl)).mpr z)
            replace hsp := hsp.trans (if_neg c_42)
            refine lv_iconst (v := 0) hx hb dX9_layPoint_48 (by decide) ?_
            exact j_24 _ _ _ _ ⟨0, rfl, hsp.symm, hP, hD, hS, lv_sub hl [0, 1, 2, 3, 4, 5] rfl⟩
          · have c_42 : g_4 = 3 := (nI_eq (a := g_4) (b := 3) (Nat.lt_of_le_of_lt hg_4 (Nat.le_of_ble_eq_true rfl)) (Nat.le_of_ble_eq_true rfl)).mp c_42
            replace hsp := hsp.trans (if_pos c_42)
            refine lv_iload_n hx hb dX9_layPoint_44 rfl (lv_at hl 3 rfl) ?_
            refine lv_goto (tgt := 49) hx hb dX9_layPoint_45 (by decide) ?_
            exact j_24 _ _ _ _ ⟨p2, rfl, hsp.symm, hP, hD, hS, lv_sub hl [0, 1, 2, 3, 4, 5] rfl⟩
        · have c_41 : g_4 = 2 := (nI_eq (a := g_4) (b := 2) (Nat.lt_of_le_of_lt hg_4 (Nat.le_of_ble_eq_true rfl)) (Nat.le_of_ble_eq_true rfl)).mp c_41
          replace hsp := hsp.trans (if_pos c_41)
          refine lv_iload_n hx hb dX9_layPoint_34 rfl (lv_at hl 2 rfl) ?_
          refine lv_goto (tgt := 49) hx hb dX9_layPoint_35 (by decide) ?_
          exact j_24 _ _ _ _ ⟨p1, rfl, hsp.symm, hP, hD, hS, lv_sub hl [0, 1, 2, 3, 4, 5] rfl⟩
      · have c_40 : g_4 = 1 := (nI_eq (a := g_4) (b := 1) (Nat.lt_of_le_of_lt hg_4 (Nat.le_of_ble_eq_true rfl)) (Nat.le_of_ble_eq_true rfl)).mp c_40
        replace hsp := hsp.trans (if_pos c_40)
        refine lv_iload_n hx hb dX9_layPoint_24 rfl (lv_at hl 1 rfl) ?_
        refine lv_goto (tgt := 49) hx hb dX9_layPoint_25 (by decide) ?_
        exact j_24 _ _ _ _ ⟨p0, rfl, hsp.symm, hP, hD, hS, lv_sub hl [0, 1, 2, 3, 4, 5] rfl⟩
theorem dX9_hasPlace_0 : decode cX9_hasPlace 0 = .ok (.iconst 0, 1) := by decide +kernel
theorem dX9_hasPlace_1 : decode cX9_hasPlace 1 = .ok (.istore_n 3, 1) := by decide +kernel
theorem dX9_hasPlace_2 : decode cX9_hasPlace 2 = .ok (.iload_n 3, 1) := by decide +kernel
theorem dX9_hasPlace_3 : decode cX9_hasPlace 3 = .ok (.aload_n 0, 1) := by decide +kernel
theorem dX9_hasPlace_4 : decode cX9_hasPlace 4 = .ok (.getfield 92, 3) := by decide +kernel
theorem dX9_hasPlace_7 : decode cX9_hasPlace 7 = .ok (.iload_n 1, 1) := by decide +kernel
theorem dX9_hasPlace_8 : decode cX9_hasPlace 8 = .ok (.iaload, 1) := by decide +kernel
theorem dX9_hasPlace_9 : decode cX9_hasPlace 9 = .ok (.if_icmp .ge 25, 3) := by decide +kernel
theorem dX9_hasPlace_12 : decode cX9_hasPlace 12 = .ok (.aload_n 0, 1) := by decide +kernel
theorem dX9_hasPlace_13 : decode cX9_hasPlace 13 = .ok (.getfield 80, 3) := by decide +kernel
theorem dX9_hasPlace_16 : decode cX9_hasPlace 16 = .ok (.iload_n 1, 1) := by decide +kernel
theorem dX9_hasPlace_17 : decode cX9_hasPlace 17 = .ok (.iload_n 3, 1) := by decide +kernel
theorem dX9_hasPlace_18 : decode cX9_hasPlace 18 = .ok (.invokestatic 355, 3) := by decide +kernel
theorem dX9_hasPlace_21 : decode cX9_hasPlace 21 = .ok (.iaload, 1) := by decide +kernel
theorem dX9_hasPlace_22 : decode cX9_hasPlace 22 = .ok (.iload_n 2, 1) := by decide +kernel
theorem dX9_hasPlace_23 : decode cX9_hasPlace 23 = .ok (.if_icmp .ne 5, 3) := by decide +kernel
theorem dX9_hasPlace_26 : decode cX9_hasPlace 26 = .ok (.iconst 1, 1) := by decide +kernel
theorem dX9_hasPlace_27 : decode cX9_hasPlace 27 = .ok (.ireturn, 1) := by decide +kernel
theorem dX9_hasPlace_28 : decode cX9_hasPlace 28 = .ok (.iinc 3 1, 3) := by decide +kernel
theorem dX9_hasPlace_31 : decode cX9_hasPlace 31 = .ok (.goto (-29), 3) := by decide +kernel
theorem dX9_hasPlace_34 : decode cX9_hasPlace 34 = .ok (.iconst 0, 1) := by decide +kernel
theorem dX9_hasPlace_35 : decode cX9_hasPlace 35 = .ok (.ireturn, 1) := by decide +kernel
abbrev vs_EM_hasPlace_0 : List Cond := .code yX9_hasPlace cX9_hasPlace 4 (some .boolean) :: VM
theorem g_EM_hasPlace_0_EM_spotOf_0 : GoodIn vs_EM_hasPlace_0 (va_wsS RX9 355 yX9_spotOf vs_EM_spotOf_0) := gm_S vm_220 vm_221 vm_19 vm_222
noncomputable def sp_EM_hasPlace_0_L1 (q38 : Nat → Nat) (m42_0 : Nat) (p1 : Int32) : (Nat) → (Nat) ⊕ (Nat) := fun g_2 => (if m42_0 ≤ g_2 then (Sum.inr 0) else (slet (min (q38 g_2) 7) (fun u_13 => (if ((nI u_13) : Int32) = p1 then (Sum.inr 1) else (Sum.inl (g_2 + 1))))))
noncomputable def sp_EM_hasPlace_0 (q38 : Nat → Nat) (m42_0 : Nat) (p1 : Int32) : Nat := (itrv (α := Nat) (β := (Nat)) default (sp_EM_hasPlace_0_L1 q38 m42_0 p1) 0)
set_option maxHeartbeats 4000000 in
set_option maxRecDepth 100000 in
theorem c_EM_hasPlace_0 (l : Launch) (dC : Nat → ClassId) (dI : Nat → Nat → Nat) (sz : Nat) (ad : Nat → Nat) (ck : Nat → ClassId) (x0 : Int32) (x16 : Nat) (x18 : Nat) (x19 : Nat) (x20 : Int32) (x21 : Nat) (x22 : Nat) (x23 : Int32) (x24 : Int32) (x25 : Int32) (x26 : Nat) (x27 : Int32) (x28 : Nat) (x29 : Nat) (x30 : Nat) (x33 : Nat) (x45 : Int32) (x46 : Nat) (x52 : Nat) (x53 : Nat) (x61 : Nat) (x62 : Nat) (x63 : Nat) (x65 : Nat) (x66 : Int32) (f1 : Nat → Int32) (f2 : Nat → Int32) (f3 : Nat → Int32) (q4 : Nat → Nat) (q5 : Nat → Nat) (q6 : Nat → Nat) (q7 : Nat → Nat) (f8 : Nat → Int32) (q9 : Nat → Nat) (q10 : Nat → Nat) (f11 : Nat → Int32) (m12_0 m12_1 : Nat) (m13_0 m13_1 : Nat) (m14_0 m14_1 : Nat) (m15_0 m15_1 : Nat) (f17 : Nat → Int32) (q31 : Nat → Nat) (f32 : Nat → Int32) (f34 : Nat → Int32) (f35 : Nat → Int32) (f36 : Nat → Int32) (f37 : Nat → Int32) (q38 : Nat → Nat) (f39 : Nat → Int32) (f40 : Nat → Int32) (f41 : Nat → Int32) (m42_0 m42_1 : Nat) (f43 : Nat → Int32) (f44 : Nat → Int32) (f47 : Nat → Int32) (f48 : Nat → Int32) (f49 : Nat → Int32) (f50 : Nat → Int32) (f51 : Nat → Int32) (q54 : Nat → Nat) (q55 : Nat → Nat) (q56 : Nat → Nat) (f57 : Nat → Int32) (q58 : Nat → Nat) (f59 : Nat → Int32) (f60 : Nat → Int32) (f64 : Nat → Int32) (p1 : Int32) (hx16 : x16 ≤ 1) (hx18 : x18 ≤ 900) (hx19 : x19 ≤ 900) (hx21 : x21 ≤ 900) (hx22 : x22 ≤ 4) (hx26 : x26 ≤ 6) (hx28 : x28 ≤ 1) (hx29 : x29 ≤ 1) (hx30 : x30 ≤ 1) (hx33 : x33 ≤ 20) (hx46 : x46 ≤ 5) (hx52 : x52 ≤ 2400) (hx53 : x53 ≤ 119) (hx61 : x61 ≤ 119) (hx62 : x62 ≤ 2000) (hx63 : x63 ≤ 1) (hx65 : x65 ≤ 7) (hm12_0 : m12_0 ≤ 3) (hm12_1 : m12_1 ≤ 3) (hm13_0 : m13_0 ≤ 8) (hm13_1 : m13_1 ≤ 8) (hm14_0 : m14_0 ≤ 14) (hm14_1 : m14_1 ≤ 14) (hm15_0 : m15_0 ≤ 8) (hm15_1 : m15_1 ≤ 8) (hm42_0 : m42_0 ≤ 120) (hm42_1 : m42_1 ≤ 400) : Met l yX9_hasPlace vs_EM_hasPlace_0 ({ frames := 1, cells := 0, slots := 0, locals := 21 }) (va_Pc [.ref (ad 0), .int 0, .int p1] (pu_B (dC, dI) (mo_w ad ck x0 (nI x16) (nI x18) (nI x19) x20 (nI x21) (nI x22) x23 x24 x25 (nI x26) x27 (nI x28) (nI x29) (nI x30) (nI x33) x45 (nI x46) (nI x52) (nI x53) (nI x61) (nI x62) (nI x63) (nI x65) x66 f1 f2 f3 (bN 3 q4) (bN 7 q5) (bN 7 q6) (bN 4 q7) f8 (bN 2 q9) (bH q10) f11 (b2 m12_0 m12_1) (b2 m13_0 m13_1) (b2 m14_0 m14_1) (b2m m15_0 m15_1) f17 (bA 159 q31) f32 f34 f35 f36 f37 (bN 7 q38) f39 f40 f41 (b2 m42_0 m42_1) f43 f44 f47 f48 f49 f50 f51 (bN 13 q54) (bN 120 q55) (bN 120 q56) f57 (bN 120 q58) f59 f60 f64) (mo_t ck) sz)) (va_Qi (fun (r : Int32) (_ : Unit) => ∃ v : Nat, v ≤ 1 ∧ r = nI v ∧ v = (sp_EM_hasPlace_0 q38 m42_0 p1)) (fun _ _ => True) (va_A [] sz)) 0 0 (va_A [] sz) := by
  refine Met.ofW (cc := cX9_hasPlace) (maxL := 4) (ret := (some .boolean)) (by decide) rfl ?_
  intro p e s m args below meth c s₁ B hml hv
  obtain ⟨rfl, rfl, hP, hK, hD0⟩ := hv
  have hx := B.exec
  have hb := B.bytes
  have hr := B.returns
  have hts := atoms_spec (ws := vs_EM_hasPlace_0) B.pre
  have v_1 := hts (.fieldLink RX9 92 "ClockReachModel" "stateMany" "[I") (List.mem_cons_of_mem _ vm_164)
  have v_2 := hts (.fieldLink RX9 80 "ClockReachModel" "statePlace" "[I") (List.mem_cons_of_mem _ vm_223)
  have hown : s.vm.findClass RX9 = some m.cls := findClass_of_methodNamed B.named
  have hlocks := B.notSynchronized
  have hiX9 : ∀ w ∈ wsX90, w ∈ vs_EM_hasPlace_0 := fun _ h => List.mem_cons_of_mem _ (vmi_L h)
  have hD := hD0
  have hA : ∀ q : Nat, s.heap.size ≤ q → va_A [] s.heap.size q := fun _ h => Or.inr h
  have hS : va_S (va_A [] s.heap.size) s.heap s.heap [] := va_S.rf
  have hl := lv_entry ([.ref (ad 0), .int 0, .int p1]) (n := 4) (Nat.le_of_ble_eq_true rfl)
  rw [lg_entry_eq]
  generalize (lg_sl ([.ref (ad 0), .int 0, .int p1]) ++ List.replicate (4 - (lg_sl ([.ref (ad 0), .int 0, .int p1])).length) Slot.unset).toArray = ls at hl ⊢
  have hl : lv_has ls 4 [(0, .ref (ad 0)), (1, .int 0), (2, .int p1)] := hl
  obtain ⟨RR, hRR⟩ : ∃ x, x = (sp_EM_hasPlace_0 q38 m42_0 p1) := ⟨_, rfl⟩
  have hsp := hRR
  refine lv_iconst (v := 0) hx hb dX9_hasPlace_0 (by decide) ?_
  refine lv_istore_n (lv' := [(3, .int 0), (0, .ref (ad 0)), (1, .int 0), (2, .int p1)]) hx hb dX9_hasPlace_1 rfl hl (by decide) rfl (fun ls hl => ?_)
  obtain ⟨lf_4, dlf_4, hlf_4, hsp⟩ := itr_ex hsp
  delta sp_EM_hasPlace_0_L1 at hlf_4
  refine pu_while (fun nn H locs ls => ∃ (g_2 : Nat), nn = 120 - g_2 ∧ g_2 ≤ 120 ∧ RR = itrv dlf_4 lf_4 g_2 ∧ va_P (dC, dI) vwCl (mo_w ad ck x0 (nI x16) (nI x18) (nI x19) x20 (nI x21) (nI x22) x23 x24 x25 (nI x26) x27 (nI x28) (nI x29) (nI x30) (nI x33) x45 (nI x46) (nI x52) (nI x53) (nI x61) (nI x62) (nI x63) (nI x65) x66 f1 f2 f3 (bN 3 q4) (bN 7 q5) (bN 7 q6) (bN 4 q7) f8 (bN 2 q9) (bH q10) f11 (b2 m12_0 m12_1) (b2 m13_0 m13_1) (b2 m14_0 m14_1) (b2m m15_0 m15_1) f17 (bA 159 q31) f32 f34 f35 f36 f37 (bN 7 q38) f39 f40 f41 (b2 m42_0 m42_1) f43 f44 f47 f48 f49 f50 f51 (bN 13 q54) (bN 120 q55) (bN 120 q56) f57 (bN 120 q58) f59 f60 f64) H ∧ va_D (fun _ => True) (mo_w ad ck x0 (nI x16) (nI x18) (nI x19) x20 (nI x21) (nI x22) x23 x24 x25 (nI x26) x27 (nI x28) (nI x29) (nI x30) (nI x33) x45 (nI x46) (nI x52) (nI x53) (nI x61) (nI x62) (nI x63) (nI x65) x66 f1 f2 f3 (bN 3 q4) (bN 7 q5) (bN 7 q6) (bN 4 q7) f8 (bN 2 q9) (bH q10) f11 (b2 m12_0 m12_1) (b2 m13_0 m13_1) (b2 m14_0 m14_1) (b2m m15_0 m15_1) f17 (bA 159 q31) f32 f34 f35 f36 f37 (bN 7 q38) f39 f40 f41 (b2 m42_0 m42_1) f43 f44 f47 f48 f49 f50 f51 (bN 13 q54) (bN 120 q55) (bN 120 q56) f57 (bN 120 q58) f59 f60 f64) ∧ va_S (va_A [] s.heap.size) s.heap H locs ∧ lv_has ls 4 [(0, .ref (ad 0)), (1, .int 0), (2, .int p1), (3, .int (nI g_2))]) 2 ?_ _ _ _ _ ⟨0, rfl, (Nat.le_of_ble_eq_true rfl), hsp, hP, hD, hS, lv_sub hl [1, 2, 3, 0] rfl⟩
  rintro nn ih_3 H locs ls ⟨g_2, rfl, hg_2, he_6, hP, hD, hS, hl⟩
  obtain ⟨S_5, hsp, hin_7, hout_8⟩ := itr_step hlf_4 he_6
  refine lv_iload_n hx hb dX9_hasPlace_2 rfl (lv_at hl 3 rfl) ?_
  refine lv_aload_n hx hb dX9_hasPlace_3 rfl (lv_at hl 0 rfl) ?_
  refine va_get (D := (dC, dI)) (ci := 9) (v := .ref (ad 42)) (C := RX9) (T := TX9) (N := 67) hx hb hts hiX9 hown hK hP 0 rfl rfl 42 (by decide) v_1 (fun _ h9 => h9) rfl dX9_hasPlace_4 ?_
  refine lv_iload_n hx hb dX9_hasPlace_7 rfl (lv_at hl 1 rfl) ?_
  refine va_iald hx hb hK hP 27 26 rfl rfl (vp_in_nI (n := 0) (Nat.le_of_ble_eq_true rfl) (Nat.le_of_ble_eq_true rfl)) dX9_hasPlace_8 ?_
  refine lv_topi (fun y_9 ey_9 => ?_)
  have qy_9 := ey_9.trans b2_0
  clear ey_9
  obtain rfl : y_9 = nI m42_0 := qy_9
  refine lv_icmp_ge (tgt := 34) hx hb dX9_hasPlace_9 (by decide) (fun c_10 => ?_) (fun c_10 => ?_)
  · have c_10 : m42_0 ≤ g_2 := (nI_leI (a := m42_0) (b := g_2) (Nat.lt_of_le_of_lt hm42_0 (Nat.le_of_ble_eq_true rfl)) (Nat.lt_of_le_of_lt hg_2 (Nat.le_of_ble_eq_true rfl))).mp c_10
    replace hsp := hsp.trans (if_pos c_10)
    have hsp := hout_8 _ hsp
    refine lv_iconst (v := 0) hx hb dX9_hasPlace_34 (by decide) ?_
    exact W.zret (v := 0) (ty := .boolean) hx hb hr (rfl) (fun t ht hW => ⟨⟨0, (), rfl, ⟨0, (Nat.le_of_ble_eq_true rfl), rfl, (hsp.symm.trans hRR)⟩, trivial⟩, hS.F ht⟩) hS.2.2 dX9_hasPlace_35
  · have c_10 : ¬ m42_0 ≤ g_2 := fun z => c_10 ((nI_leI (a := m42_0) (b := g_2) (Nat.lt_of_le_of_lt hm42_0 (Nat.le_of_ble_eq_true rfl)) (Nat.lt_of_le_of_lt hg_2 (Nat.le_of_ble_eq_true rfl))).mpr z)
    replace hsp := hsp.trans (if_neg c_10)
    refine lv_aload_n hx hb dX9_hasPlace_12 rfl (lv_at hl 0 rfl) ?_
    refine va_get (D := (dC, dI)) (ci := 9) (v := .ref (ad 38)) (C := RX9) (T := TX9) (N := 67) hx hb hts hiX9 hown hK hP 0 rfl rfl 38 (by decide) v_2 (fun _ h9 => h9) rfl dX9_hasPlace_13 ?_
    refine lv_iload_n hx hb dX9_hasPlace_16 rfl (lv_at hl 1 rfl) ?_
    refine lv_iload_n hx hb dX9_hasPlace_17 rfl (lv_at hl 3 rfl) ?_
    refine va_calli (va_runS (As := [.int 0, .int (nI g_2)]) (rest := [.ref (ad 38)]) ⟨hx, hb, hml, hown, hts⟩ (c_EM_spotOf_0 l dC dI _ ad ck x0 x16 x18 x19 x20 x21 x22 x23 x24 x25 x26 x27 x28 x29 x30 x33 x45 x46 x52 x53 x61 x62 x63 x65 x66 f1 f2 f3 q4 q5 q6 q7 f8 q9 q10 f11 m12_0 m12_1 m13_0 m13_1 m14_0 m14_1 m15_0 m15_1 f17 q31 f32 f34 f35 f36 f37 q38 f39 f40 f41 m42_0 m42_1 f43 f44 f47 f48 f49 f50 f51 q54 q55 q56 f57 q58 f59 f60 f64 g_2 hx16 hx18 hx19 hx21 hx22 hx26 hx28 hx29 hx30 hx33 hx46 hx52 hx53 hx61 hx62 hx63 hx65 hm12_0 hm12_1 hm13_0 hm13_1 hm14_0 hm14_1 hm15_0 hm15_1 hm42_0 hm42_1 (Nat.le_trans hg_2 (Nat.le_of_ble_eq_true rfl))) (va_cwS 2 hts g_EM_hasPlace_0_EM_spotOf_0 rfl rfl rfl (by decide +kernel) ⟨Nat.le_of_ble_eq_true rfl, Nat.le_of_ble_eq_true rfl⟩) ⟨pu_bl, pu_in hP hK hD⟩ rfl rfl hl.1 rfl (lv_room (Nat.le_of_ble_eq_true rfl)) dX9_hasPlace_18 ⟨Nat.le_of_ble_eq_true rfl, Nat.le_of_ble_eq_true rfl⟩) hS (fun q _ h => pu_fr hS hA q h) (pu_fr hS hA) (fun r_11 u t H1 locs ht hvm hw hB hz1 hk1 hS => ?_)
    have hP := pu_keep hP hk1
    clear hk1 hz1 ht hvm
    generalize H1 = H at hP hS ⊢
    obtain rfl : r_11 = nI (g_2) := hw
    refine va_iald hx hb hK hP 23 22 rfl rfl (vp_in_nI (n := g_2) (Nat.lt_of_le_of_lt hg_2 (Nat.le_of_ble_eq_true rfl)) (Nat.le_of_ble_eq_true rfl)) dX9_hasPlace_21 ?_
    refine lv_topi (fun y_12 ey_12 => ?_)
    obtain ⟨u_13, hu_13, qu_13, xu_13⟩ := bN_getx 7 q38 (n := g_2) (Nat.lt_of_le_of_lt hg_2 (Nat.le_of_ble_eq_true rfl))
    obtain rfl : y_12 = nI u_13 := ey_12.trans qu_13
    replace hsp := hsp.trans (slet_eq xu_13)
    refine lv_iload_n hx hb dX9_hasPlace_22 rfl (lv_at hl 2 rfl) ?_
    refine lv_icmp_ne (tgt := 28) hx hb dX9_hasPlace_23 (by decide) (fun c_14 => ?_) (fun c_14 => ?_)
    · have hcc_14 := c_14
      replace hsp := hsp.trans (if_neg c_14)
      refine lv_iinc (v := (nI (g_2 + 1))) (lv' := [(3, .int (nI (g_2 + 1))), (0, .ref (ad 0)), (1, .int 0), (2, .int p1)]) hx hb dX9_hasPlace_28 hl (k := 3) rfl (nI_1 _) (by decide) rfl (fun ls hl => ?_)
      refine lv_goto (tgt := 2) hx hb dX9_hasPlace_31 (by decide) ?_
      exact ih_3 (120 - (g_2 + 1)) (by omega) _ _ _ ⟨(g_2 + 1), rfl, (by omega), hin_7 _ hsp, hP, hD, hS, lv_sub hl [1, 2, 3, 0] rfl⟩
    · have hcc_14 := c_14
      replace hsp := hsp.trans (if_pos c_14)
      have hsp := hout_8 _ hsp
      refine lv_iconst (v := 1) hx hb dX9_hasPlace_26 (by decide) ?_
      exact W.zret (v := 1) (ty := .boolean) hx hb hr (rfl) (fun t ht hW => ⟨⟨1, (), rfl, ⟨1, (Nat.le_of_ble_eq_true rfl), rfl, (hsp.symm.trans hRR)⟩, trivial⟩, hS.F ht⟩) hS.2.2 dX9_hasPlace_27
abbrev vs_EM_hasPlace_1 : List Cond := .code yX9_hasPlace cX9_hasPlace 4 (some .boolean) :: VM
theorem g_EM_hasPlace_1_EM_spotOf_1 : GoodIn vs_EM_hasPlace_1 (va_wsS RX9 355 yX9_spotOf vs_EM_spotOf_1) := gm_S vm_220 vm_221 vm_19 vm_222
noncomputable def sp_EM_hasPlace_1_L1 (q38 : Nat → Nat) (m42_1 : Nat) (p1 : Int32) : (Nat) → (Nat) ⊕ (Nat) := fun g_2 => (if m42_1 ≤ g_2 then (Sum.inr 0) else (slet (min (q38 (120 + g_2)) 7) (fun u_13 => (if ((nI u_13) : Int32) = p1 then (Sum.inr 1) else (Sum.inl (g_2 + 1))))))
noncomputable def sp_EM_hasPlace_1 (q38 : Nat → Nat) (m42_1 : Nat) (p1 : Int32) : Nat := (itrv (α := Nat) (β := (Nat)) default (sp_EM_hasPlace_1_L1 q38 m42_1 p1) 0)
set_option maxHeartbeats 4000000 in
set_option maxRecDepth 100000 in
theorem c_EM_hasPlace_1 (l : Launch) (dC : Nat → ClassId) (dI : Nat → Nat → Nat) (sz : Nat) (ad : Nat → Nat) (ck : Nat → ClassId) (x0 : Int32) (x16 : Nat) (x18 : Nat) (x19 : Nat) (x20 : Int32) (x21 : Nat) (x22 : Nat) (x23 : Int32) (x24 : Int32) (x25 : Int32) (x26 : Nat) (x27 : Int32) (x28 : Nat) (x29 : Nat) (x30 : Nat) (x33 : Nat) (x45 : Int32) (x46 : Nat) (x52 : Nat) (x53 : Nat) (x61 : Nat) (x62 : Nat) (x63 : Nat) (x65 : Nat) (x66 : Int32) (f1 : Nat → Int32) (f2 : Nat → Int32) (f3 : Nat → Int32) (q4 : Nat → Nat) (q5 : Nat → Nat) (q6 : Nat → Nat) (q7 : Nat → Nat) (f8 : Nat → Int32) (q9 : Nat → Nat) (q10 : Nat → Nat) (f11 : Nat → Int32) (m12_0 m12_1 : Nat) (m13_0 m13_1 : Nat) (m14_0 m14_1 : Nat) (m15_0 m15_1 : Nat) (f17 : Nat → Int32) (q31 : Nat → Nat) (f32 : Nat → Int32) (f34 : Nat → Int32) (f35 : Nat → Int32) (f36 : Nat → Int32) (f37 : Nat → Int32) (q38 : Nat → Nat) (f39 : Nat → Int32) (f40 : Nat → Int32) (f41 : Nat → Int32) (m42_0 m42_1 : Nat) (f43 : Nat → Int32) (f44 : Nat → Int32) (f47 : Nat → Int32) (f48 : Nat → Int32) (f49 : Nat → Int32) (f50 : Nat → Int32) (f51 : Nat → Int32) (q54 : Nat → Nat) (q55 : Nat → Nat) (q56 : Nat → Nat) (f57 : Nat → Int32) (q58 : Nat → Nat) (f59 : Nat → Int32) (f60 : Nat → Int32) (f64 : Nat → Int32) (p1 : Int32) (hx16 : x16 ≤ 1) (hx18 : x18 ≤ 900) (hx19 : x19 ≤ 900) (hx21 : x21 ≤ 900) (hx22 : x22 ≤ 4) (hx26 : x26 ≤ 6) (hx28 : x28 ≤ 1) (hx29 : x29 ≤ 1) (hx30 : x30 ≤ 1) (hx33 : x33 ≤ 20) (hx46 : x46 ≤ 5) (hx52 : x52 ≤ 2400) (hx53 : x53 ≤ 119) (hx61 : x61 ≤ 119) (hx62 : x62 ≤ 2000) (hx63 : x63 ≤ 1) (hx65 : x65 ≤ 7) (hm12_0 : m12_0 ≤ 3) (hm12_1 : m12_1 ≤ 3) (hm13_0 : m13_0 ≤ 8) (hm13_1 : m13_1 ≤ 8) (hm14_0 : m14_0 ≤ 14) (hm14_1 : m14_1 ≤ 14) (hm15_0 : m15_0 ≤ 8) (hm15_1 : m15_1 ≤ 8) (hm42_0 : m42_0 ≤ 120) (hm42_1 : m42_1 ≤ 400) : Met l yX9_hasPlace vs_EM_hasPlace_1 ({ frames := 1, cells := 0, slots := 0, locals := 21 }) (va_Pc [.ref (ad 0), .int 1, .int p1] (pu_B (dC, dI) (mo_w ad ck x0 (nI x16) (nI x18) (nI x19) x20 (nI x21) (nI x22) x23 x24 x25 (nI x26) x27 (nI x28) (nI x29) (nI x30) (nI x33) x45 (nI x46) (nI x52) (nI x53) (nI x61) (nI x62) (nI x63) (nI x65) x66 f1 f2 f3 (bN 3 q4) (bN 7 q5) (bN 7 q6) (bN 4 q7) f8 (bN 2 q9) (bH q10) f11 (b2 m12_0 m12_1) (b2 m13_0 m13_1) (b2 m14_0 m14_1) (b2m m15_0 m15_1) f17 (bA 159 q31) f32 f34 f35 f36 f37 (bN 7 q38) f39 f40 f41 (b2 m42_0 m42_1) f43 f44 f47 f48 f49 f50 f51 (bN 13 q54) (bN 120 q55) (bN 120 q56) f57 (bN 120 q58) f59 f60 f64) (mo_t ck) sz)) (va_Qi (fun (r : Int32) (_ : Unit) => ∃ v : Nat, v ≤ 1 ∧ r = nI v ∧ v = (sp_EM_hasPlace_1 q38 m42_1 p1)) (fun _ _ => True) (va_A [] sz)) 0 0 (va_A [] sz) := by
  refine Met.ofW (cc := cX9_hasPlace) (maxL := 4) (ret := (some .boolean)) (by decide) rfl ?_
  intro p e s m args below meth c s₁ B hml hv
  obtain ⟨rfl, rfl, hP, hK, hD0⟩ := hv
  have hx := B.exec
  have hb := B.bytes
  have hr := B.returns
  have hts := atoms_spec (ws := vs_EM_hasPlace_1) B.pre
  have v_1 := hts (.fieldLink RX9 92 "ClockReachModel" "stateMany" "[I") (List.mem_cons_of_mem _ vm_164)
  have v_2 := hts (.fieldLink RX9 80 "ClockReachModel" "statePlace" "[I") (List.mem_cons_of_mem _ vm_223)
  have hown : s.vm.findClass RX9 = some m.cls := findClass_of_methodNamed B.named
  have hlocks := B.notSynchronized
  have hiX9 : ∀ w ∈ wsX90, w ∈ vs_EM_hasPlace_1 := fun _ h => List.mem_cons_of_mem _ (vmi_L h)
  have hD := hD0
  have hA : ∀ q : Nat, s.heap.size ≤ q → va_A [] s.heap.size q := fun _ h => Or.inr h
  have hS : va_S (va_A [] s.heap.size) s.heap s.heap [] := va_S.rf
  have hl := lv_entry ([.ref (ad 0), .int 1, .int p1]) (n := 4) (Nat.le_of_ble_eq_true rfl)
  rw [lg_entry_eq]
  generalize (lg_sl ([.ref (ad 0), .int 1, .int p1]) ++ List.replicate (4 - (lg_sl ([.ref (ad 0), .int 1, .int p1])).length) Slot.unset).toArray = ls at hl ⊢
  have hl : lv_has ls 4 [(0, .ref (ad 0)), (1, .int 1), (2, .int p1)] := hl
  obtain ⟨RR, hRR⟩ : ∃ x, x = (sp_EM_hasPlace_1 q38 m42_1 p1) := ⟨_, rfl⟩
  have hsp := hRR
  refine lv_iconst (v := 0) hx hb dX9_hasPlace_0 (by decide) ?_
  refine lv_istore_n (lv' := [(3, .int 0), (0, .ref (ad 0)), (1, .int 1), (2, .int p1)]) hx hb dX9_hasPlace_1 rfl hl (by decide) rfl (fun ls hl => ?_)
  obtain ⟨lf_4, dlf_4, hlf_4, hsp⟩ := itr_ex hsp
  delta sp_EM_hasPlace_1_L1 at hlf_4
  refine pu_while (fun nn H locs ls => ∃ (g_2 : Nat), nn = 400 - g_2 ∧ g_2 ≤ 400 ∧ RR = itrv dlf_4 lf_4 g_2 ∧ va_P (dC, dI) vwCl (mo_w ad ck x0 (nI x16) (nI x18) (nI x19) x20 (nI x21) (nI x22) x23 x24 x25 (nI x26) x27 (nI x28) (nI x29) (nI x30) (nI x33) x45 (nI x46) (nI x52) (nI x53) (nI x61) (nI x62) (nI x63) (nI x65) x66 f1 f2 f3 (bN 3 q4) (bN 7 q5) (bN 7 q6) (bN 4 q7) f8 (bN 2 q9) (bH q10) f11 (b2 m12_0 m12_1) (b2 m13_0 m13_1) (b2 m14_0 m14_1) (b2m m15_0 m15_1) f17 (bA 159 q31) f32 f34 f35 f36 f37 (bN 7 q38) f39 f40 f41 (b2 m42_0 m42_1) f43 f44 f47 f48 f49 f50 f51 (bN 13 q54) (bN 120 q55) (bN 120 q56) f57 (bN 120 q58) f59 f60 f64) H ∧ va_D (fun _ => True) (mo_w ad ck x0 (nI x16) (nI x18) (nI x19) x20 (nI x21) (nI x22) x23 x24 x25 (nI x26) x27 (nI x28) (nI x29) (nI x30) (nI x33) x45 (nI x46) (nI x52) (nI x53) (nI x61) (nI x62) (nI x63) (nI x65) x66 f1 f2 f3 (bN 3 q4) (bN 7 q5) (bN 7 q6) (bN 4 q7) f8 (bN 2 q9) (bH q10) f11 (b2 m12_0 m12_1) (b2 m13_0 m13_1) (b2 m14_0 m14_1) (b2m m15_0 m15_1) f17 (bA 159 q31) f32 f34 f35 f36 f37 (bN 7 q38) f39 f40 f41 (b2 m42_0 m42_1) f43 f44 f47 f48 f49 f50 f51 (bN 13 q54) (bN 120 q55) (bN 120 q56) f57 (bN 120 q58) f59 f60 f64) ∧ va_S (va_A [] s.heap.size) s.heap H locs ∧ lv_has ls 4 [(0, .ref (ad 0)), (1, .int 1), (2, .int p1), (3, .int (nI g_2))]) 2 ?_ _ _ _ _ ⟨0, rfl, (Nat.le_of_ble_eq_true rfl), hsp, hP, hD, hS, lv_sub hl [1, 2, 3, 0] rfl⟩
  rintro nn ih_3 H locs ls ⟨g_2, rfl, hg_2, he_6, hP, hD, hS, hl⟩
  obtain ⟨S_5, hsp, hin_7, hout_8⟩ := itr_step hlf_4 he_6
  refine lv_iload_n hx hb dX9_hasPlace_2 rfl (lv_at hl 3 rfl) ?_
  refine lv_aload_n hx hb dX9_hasPlace_3 rfl (lv_at hl 0 rfl) ?_
  refine va_get (D := (dC, dI)) (ci := 9) (v := .ref (ad 42)) (C := RX9) (T := TX9) (N := 67) hx hb hts hiX9 hown hK hP 0 rfl rfl 42 (by decide) v_1 (fun _ h9 => h9) rfl dX9_hasPlace_4 ?_
  refine lv_iload_n hx hb dX9_hasPlace_7 rfl (lv_at hl 1 rfl) ?_
  refine va_iald hx hb hK hP 27 26 rfl rfl (vp_in_nI (n := 1) (Nat.le_of_ble_eq_true rfl) (Nat.le_of_ble_eq_true rfl)) dX9_hasPlace_8 ?_
  refine lv_topi (fun y_9 ey_9 => ?_)
  have qy_9 := ey_9.trans b2_1
  clear ey_9
  obtain rfl : y_9 = nI m42_1 := qy_9
  refine lv_icmp_ge (tgt := 34) hx hb dX9_hasPlace_9 (by decide) (fun c_10 => ?_) (fun c_10 => ?_)
  · have c_10 : m42_1 ≤ g_2 := (nI_leI (a := m42_1) (b := g_2) (Nat.lt_of_le_of_lt hm42_1 (Nat.le_of_ble_eq_true rfl)) (Nat.lt_of_le_of_lt hg_2 (Nat.le_of_ble_eq_true rfl))).mp c_10
    replace hsp := hsp.trans (if_pos c_10)
    have hsp := hout_8 _ hsp
    refine lv_iconst (v := 0) hx hb dX9_hasPlace_34 (by decide) ?_
    exact W.zret (v := 0) (ty := .boolean) hx hb hr (rfl) (fun t ht hW => ⟨⟨0, (), rfl, ⟨0, (Nat.le_of_ble_eq_true rfl), rfl, (hsp.symm.trans hRR)⟩, trivial⟩, hS.F ht⟩) hS.2.2 dX9_hasPlace_35
  · have c_10 : ¬ m42_1 ≤ g_2 := fun z => c_10 ((nI_leI (a := m42_1) (b := g_2) (Nat.lt_of_le_of_lt hm42_1 (Nat.le_of_ble_eq_true rfl)) (Nat.lt_of_le_of_lt hg_2 (Nat.le_of_ble_eq_true rfl))).mpr z)
    replace hsp := hsp.trans (if_neg c_10)
    refine lv_aload_n hx hb dX9_hasPlace_12 rfl (lv_at hl 0 rfl) ?_
    refine va_get (D := (dC, dI)) (ci := 9) (v := .ref (ad 38)) (C := RX9) (T := TX9) (N := 67) hx hb hts hiX9 hown hK hP 0 rfl rfl 38 (by decide) v_2 (fun _ h9 => h9) rfl dX9_hasPlace_13 ?_
    refine lv_iload_n hx hb dX9_hasPlace_16 rfl (lv_at hl 1 rfl) ?_
    refine lv_iload_n hx hb dX9_hasPlace_17 rfl (lv_at hl 3 rfl) ?_
    refine va_calli (va_runS (As := [.int 1, .int (nI g_2)]) (rest := [.ref (ad 38)]) ⟨hx, hb, hml, hown, hts⟩ (c_EM_spotOf_1 l dC dI _ ad ck x0 x16 x18 x19 x20 x21 x22 x23 x24 x25 x26 x27 x28 x29 x30 x33 x45 x46 x52 x53 x61 x62 x63 x65 x66 f1 f2 f3 q4 q5 q6 q7 f8 q9 q10 f11 m12_0 m12_1 m13_0 m13_1 m14_0 m14_1 m15_0 m15_1 f17 q31 f32 f34 f35 f36 f37 q38 f39 f40 f41 m42_0 m42_1 f43 f44 f47 f48 f49 f50 f51 q54 q55 q56 f57 q58 f59 f60 f64 g_2 hx16 hx18 hx19 hx21 hx22 hx26 hx28 hx29 hx30 hx33 hx46 hx52 hx53 hx61 hx62 hx63 hx65 hm12_0 hm12_1 hm13_0 hm13_1 hm14_0 hm14_1 hm15_0 hm15_1 hm42_0 hm42_1 (by omega)) (va_cwS 2 hts g_EM_hasPlace_1_EM_spotOf_1 rfl rfl rfl (by decide +kernel) ⟨Nat.le_of_ble_eq_true rfl, Nat.le_of_ble_eq_true rfl⟩) ⟨pu_bl, pu_in hP hK hD⟩ rfl rfl hl.1 rfl (lv_room (Nat.le_of_ble_eq_true rfl)) dX9_hasPlace_18 ⟨Nat.le_of_ble_eq_true rfl, Nat.le_of_ble_eq_true rfl⟩) hS (fun q _ h => pu_fr hS hA q h) (pu_fr hS hA) (fun r_11 u t H1 locs ht hvm hw hB hz1 hk1 hS => ?_)
    have hP := pu_keep hP hk1
    clear hk1 hz1 ht hvm
    generalize H1 = H at hP hS ⊢
    obtain rfl : r_11 = nI (120 + g_2) := hw
    refine va_iald hx hb hK hP 23 22 rfl rfl (vp_in_nI (n := (120 + g_2)) (by omega) (Nat.le_of_ble_eq_true rfl)) dX9_hasPlace_21 ?_
    refine lv_topi (fun y_12 ey_12 => ?_)
    obtain ⟨u_13, hu_13, qu_13, xu_13⟩ := bN_getx 7 q38 (n := (120 + g_2)) (by omega)
    obtain rfl : y_12 = nI u_13 := ey_12.trans qu_13
    replace hsp := hsp.trans (slet_eq xu_13)
    refine lv_iload_n hx hb dX9_hasPlace_22 rfl (lv_at hl 2 rfl) ?_
    refine lv_icmp_ne (tgt := 28) hx hb dX9_hasPlace_23 (by decide) (fun c_14 => ?_) (fun c_14 => ?_)
    · have hcc_14 := c_14
      replace hsp := hsp.trans (if_neg c_14)
      refine lv_iinc (v := (nI (g_2 + 1))) (lv' := [(3, .int (nI (g_2 + 1))), (0, .ref (ad 0)), (1, .int 1), (2, .int p1)]) hx hb dX9_hasPlace_28 hl (k := 3) rfl (nI_1 _) (by decide) rfl (fun ls hl => ?_)
      refine lv_goto (tgt := 2) hx hb dX9_hasPlace_31 (by decide) ?_
      exact ih_3 (400 - (g_2 + 1)) (by omega) _ _ _ ⟨(g_2 + 1), rfl, (by omega), hin_7 _ hsp, hP, hD, hS, lv_sub hl [1, 2, 3, 0] rfl⟩
    · have hcc_14 := c_14
      replace hsp := hsp.trans (if_pos c_14)
      have hsp := hout_8 _ hsp
      refine lv_iconst (v := 1) hx hb dX9_hasPlace_26 (by decide) ?_
      exact W.zret (v := 1) (ty := .boolean) hx hb hr (rfl) (fun t ht hW => ⟨⟨1, (), rfl, ⟨1, (Nat.le_of_ble_eq_true rfl), rfl, (hsp.symm.trans hRR)⟩, trivial⟩, hS.F ht⟩) hS.2.2 dX9_hasPlace_27
theorem dX9_comes_0 : decode cX9_comes 0 = .ok (.aload_n 0, 1) := by decide +kernel
theorem dX9_comes_1 : decode cX9_comes 1 = .ok (.iload_n 2, 1) := by decide +kernel
theorem dX9_comes_2 : decode cX9_comes 2 = .ok (.invokevirtual 324, 3) := by decide +kernel
theorem dX9_comes_5 : decode cX9_comes 5 = .ok (.ifCond .ne 12, 3) := by decide +kernel
theorem dX9_comes_8 : decode cX9_comes 8 = .ok (.aload_n 0, 1) := by decide +kernel
theorem dX9_comes_9 : decode cX9_comes 9 = .ok (.aload_n 0, 1) := by decide +kernel
theorem dX9_comes_10 : decode cX9_comes 10 = .ok (.getfield 71, 3) := by decide +kernel
theorem dX9_comes_13 : decode cX9_comes 13 = .ok (.iload_n 2, 1) := by decide +kernel
theorem dX9_comes_14 : decode cX9_comes 14 = .ok (.invokevirtual 349, 3) := by decide +kernel
theorem dX9_comes_17 : decode cX9_comes 17 = .ok (.aload_n 0, 1) := by decide +kernel
theorem dX9_comes_18 : decode cX9_comes 18 = .ok (.aload_n 0, 1) := by decide +kernel
theorem dX9_comes_19 : decode cX9_comes 19 = .ok (.getfield 71, 3) := by decide +kernel
theorem dX9_comes_22 : decode cX9_comes 22 = .ok (.iload 5, 2) := by decide +kernel
theorem dX9_comes_24 : decode cX9_comes 24 = .ok (.invokevirtual 352, 3) := by decide +kernel
theorem dX9_comes_27 : decode cX9_comes 27 = .ok (.iconst 0, 1) := by decide +kernel
theorem dX9_comes_28 : decode cX9_comes 28 = .ok (.istore 8, 2) := by decide +kernel
theorem dX9_comes_30 : decode cX9_comes 30 = .ok (.iload 8, 2) := by decide +kernel
theorem dX9_comes_32 : decode cX9_comes 32 = .ok (.aload_n 0, 1) := by decide +kernel
theorem dX9_comes_33 : decode cX9_comes 33 = .ok (.getfield 92, 3) := by decide +kernel
theorem dX9_comes_36 : decode cX9_comes 36 = .ok (.iload_n 1, 1) := by decide +kernel
theorem dX9_comes_37 : decode cX9_comes 37 = .ok (.iaload, 1) := by decide +kernel
theorem dX9_comes_38 : decode cX9_comes 38 = .ok (.if_icmp .ge 52, 3) := by decide +kernel
theorem dX9_comes_41 : decode cX9_comes 41 = .ok (.iload_n 1, 1) := by decide +kernel
theorem dX9_comes_42 : decode cX9_comes 42 = .ok (.iload 8, 2) := by decide +kernel
theorem dX9_comes_44 : decode cX9_comes 44 = .ok (.invokestatic 355, 3) := by decide +kernel
theorem dX9_comes_47 : decode cX9_comes 47 = .ok (.istore 9, 2) := by decide +kernel
theorem dX9_comes_49 : decode cX9_comes 49 = .ok (.aload_n 0, 1) := by decide +kernel
theorem dX9_comes_50 : decode cX9_comes 50 = .ok (.getfield 80, 3) := by decide +kernel
theorem dX9_comes_53 : decode cX9_comes 53 = .ok (.iload 9, 2) := by decide +kernel
theorem dX9_comes_55 : decode cX9_comes 55 = .ok (.iaload, 1) := by decide +kernel
theorem dX9_comes_56 : decode cX9_comes 56 = .ok (.iload_n 2, 1) := by decide +kernel
theorem dX9_comes_57 : decode cX9_comes 57 = .ok (.if_icmp .ne 27, 3) := by decide +kernel
theorem dX9_comes_60 : decode cX9_comes 60 = .ok (.aload_n 0, 1) := by decide +kernel
theorem dX9_comes_61 : decode cX9_comes 61 = .ok (.iload 9, 2) := by decide +kernel
theorem dX9_comes_63 : decode cX9_comes 63 = .ok (.aload_n 0, 1) := by decide +kernel
theorem dX9_comes_64 : decode cX9_comes 64 = .ok (.getfield 71, 3) := by decide +kernel
theorem dX9_comes_67 : decode cX9_comes 67 = .ok (.iload 6, 2) := by decide +kernel
theorem dX9_comes_69 : decode cX9_comes 69 = .ok (.ifCond .ne 7, 3) := by decide +kernel
theorem dX9_comes_72 : decode cX9_comes 72 = .ok (.iconst 1, 1) := by decide +kernel
theorem dX9_comes_73 : decode cX9_comes 73 = .ok (.goto 4, 3) := by decide +kernel
theorem dX9_comes_76 : decode cX9_comes 76 = .ok (.iconst 0, 1) := by decide +kernel
theorem dX9_comes_77 : decode cX9_comes 77 = .ok (.invokevirtual 358, 3) := by decide +kernel
theorem dX9_comes_80 : decode cX9_comes 80 = .ok (.ifCond .eq 4, 3) := by decide +kernel
theorem dX9_comes_83 : decode cX9_comes 83 = .ok (.return_, 1) := by decide +kernel
theorem dX9_comes_84 : decode cX9_comes 84 = .ok (.iinc 8 1, 3) := by decide +kernel
theorem dX9_comes_87 : decode cX9_comes 87 = .ok (.goto (-57), 3) := by decide +kernel
theorem dX9_comes_90 : decode cX9_comes 90 = .ok (.aload_n 0, 1) := by decide +kernel
theorem dX9_comes_91 : decode cX9_comes 91 = .ok (.getfield 92, 3) := by decide +kernel
theorem dX9_comes_94 : decode cX9_comes 94 = .ok (.iload_n 1, 1) := by decide +kernel
theorem dX9_comes_95 : decode cX9_comes 95 = .ok (.iaload, 1) := by decide +kernel
theorem dX9_comes_96 : decode cX9_comes 96 = .ok (.iload 7, 2) := by decide +kernel
theorem dX9_comes_98 : decode cX9_comes 98 = .ok (.if_icmp .eq 12, 3) := by decide +kernel
theorem dX9_comes_101 : decode cX9_comes 101 = .ok (.aload_n 0, 1) := by decide +kernel
theorem dX9_comes_102 : decode cX9_comes 102 = .ok (.getfield 98, 3) := by decide +kernel
theorem dX9_comes_105 : decode cX9_comes 105 = .ok (.iload_n 1, 1) := by decide +kernel
theorem dX9_comes_106 : decode cX9_comes 106 = .ok (.baload, 1) := by decide +kernel
theorem dX9_comes_107 : decode cX9_comes 107 = .ok (.ifCond .eq 11, 3) := by decide +kernel
theorem dX9_comes_110 : decode cX9_comes 110 = .ok (.aload_n 0, 1) := by decide +kernel
theorem dX9_comes_111 : decode cX9_comes 111 = .ok (.getfield 98, 3) := by decide +kernel
theorem dX9_comes_114 : decode cX9_comes 114 = .ok (.iload_n 1, 1) := by decide +kernel
theorem dX9_comes_115 : decode cX9_comes 115 = .ok (.iconst 1, 1) := by decide +kernel
theorem dX9_comes_116 : decode cX9_comes 116 = .ok (.bastore, 1) := by decide +kernel
theorem dX9_comes_117 : decode cX9_comes 117 = .ok (.return_, 1) := by decide +kernel
theorem dX9_comes_118 : decode cX9_comes 118 = .ok (.iload_n 1, 1) := by decide +kernel
theorem dX9_comes_119 : decode cX9_comes 119 = .ok (.aload_n 0, 1) := by decide +kernel
theorem dX9_comes_120 : decode cX9_comes 120 = .ok (.getfield 92, 3) := by decide +kernel
theorem dX9_comes_123 : decode cX9_comes 123 = .ok (.iload_n 1, 1) := by decide +kernel
theorem dX9_comes_124 : decode cX9_comes 124 = .ok (.iaload, 1) := by decide +kernel
theorem dX9_comes_125 : decode cX9_comes 125 = .ok (.invokestatic 355, 3) := by decide +kernel
theorem dX9_comes_128 : decode cX9_comes 128 = .ok (.istore 8, 2) := by decide +kernel
theorem dX9_comes_130 : decode cX9_comes 130 = .ok (.aload_n 0, 1) := by decide +kernel
theorem dX9_comes_131 : decode cX9_comes 131 = .ok (.getfield 71, 3) := by decide +kernel
theorem dX9_comes_134 : decode cX9_comes 134 = .ok (.iconst 0, 1) := by decide +kernel
theorem dX9_comes_135 : decode cX9_comes 135 = .ok (.aload_n 0, 1) := by decide +kernel
theorem dX9_comes_136 : decode cX9_comes 136 = .ok (.getfield 68, 3) := by decide +kernel
theorem dX9_comes_139 : decode cX9_comes 139 = .ok (.bipush 25, 2) := by decide +kernel
theorem dX9_comes_141 : decode cX9_comes 141 = .ok (.iload 8, 2) := by decide +kernel
theorem dX9_comes_143 : decode cX9_comes 143 = .ok (.imul, 1) := by decide +kernel
theorem dX9_comes_144 : decode cX9_comes 144 = .ok (.invokestatic 362, 3) := by decide +kernel
theorem dX9_comes_147 : decode cX9_comes 147 = .ok (.aload_n 0, 1) := by decide +kernel
theorem dX9_comes_148 : decode cX9_comes 148 = .ok (.getfield 80, 3) := by decide +kernel
theorem dX9_comes_151 : decode cX9_comes 151 = .ok (.iload 8, 2) := by decide +kernel
theorem dX9_comes_153 : decode cX9_comes 153 = .ok (.iload_n 2, 1) := by decide +kernel
theorem dX9_comes_154 : decode cX9_comes 154 = .ok (.iastore, 1) := by decide +kernel
theorem dX9_comes_155 : decode cX9_comes 155 = .ok (.aload_n 0, 1) := by decide +kernel
theorem dX9_comes_156 : decode cX9_comes 156 = .ok (.getfield 83, 3) := by decide +kernel
theorem dX9_comes_159 : decode cX9_comes 159 = .ok (.iload 8, 2) := by decide +kernel
theorem dX9_comes_161 : decode cX9_comes 161 = .ok (.iload_n 3, 1) := by decide +kernel
theorem dX9_comes_162 : decode cX9_comes 162 = .ok (.iastore, 1) := by decide +kernel
theorem dX9_comes_163 : decode cX9_comes 163 = .ok (.aload_n 0, 1) := by decide +kernel
theorem dX9_comes_164 : decode cX9_comes 164 = .ok (.getfield 86, 3) := by decide +kernel
theorem dX9_comes_167 : decode cX9_comes 167 = .ok (.iload 8, 2) := by decide +kernel
theorem dX9_comes_169 : decode cX9_comes 169 = .ok (.iload 4, 2) := by decide +kernel
theorem dX9_comes_171 : decode cX9_comes 171 = .ok (.iastore, 1) := by decide +kernel
theorem dX9_comes_172 : decode cX9_comes 172 = .ok (.aload_n 0, 1) := by decide +kernel
theorem dX9_comes_173 : decode cX9_comes 173 = .ok (.getfield 89, 3) := by decide +kernel
theorem dX9_comes_176 : decode cX9_comes 176 = .ok (.iload 8, 2) := by decide +kernel
theorem dX9_comes_178 : decode cX9_comes 178 = .ok (.iload_n 3, 1) := by decide +kernel
theorem dX9_comes_179 : decode cX9_comes 179 = .ok (.iconst (-1), 1) := by decide +kernel
theorem dX9_comes_180 : decode cX9_comes 180 = .ok (.if_icmp .ne 7, 3) := by decide +kernel
theorem dX9_comes_183 : decode cX9_comes 183 = .ok (.iconst 0, 1) := by decide +kernel
theorem dX9_comes_184 : decode cX9_comes 184 = .ok (.goto 15, 3) := by decide +kernel
theorem dX9_comes_199 : decode cX9_comes 199 = .ok (.iastore, 1) := by decide +kernel
theorem dX9_comes_200 : decode cX9_comes 200 = .ok (.aload_n 0, 1) := by decide +kernel
theorem dX9_comes_201 : decode cX9_comes 201 = .ok (.getfield 92, 3) := by decide +kernel
theorem dX9_comes_204 : decode cX9_comes 204 = .ok (.iload_n 1, 1) := by decide +kernel
theorem dX9_comes_205 : decode cX9_comes 205 = .ok (.dup2, 1) := by decide +kernel
theorem dX9_comes_206 : decode cX9_comes 206 = .ok (.iaload, 1) := by decide +kernel
theorem dX9_comes_207 : decode cX9_comes 207 = .ok (.iconst 1, 1) := by decide +kernel
theorem dX9_comes_208 : decode cX9_comes 208 = .ok (.iadd, 1) := by decide +kernel
theorem dX9_comes_209 : decode cX9_comes 209 = .ok (.iastore, 1) := by decide +kernel
theorem dX9_comes_210 : decode cX9_comes 210 = .ok (.return_, 1) := by decide +kernel
abbrev vs_EM_comes_0_120_0 : List Cond := .code yX9_comes cX9_comes 10 none :: VM
theorem g_EM_comes_0_120_0_EM_isUrgent : GoodIn vs_EM_comes_0_120_0 (wsV RX9 324 RX9 yX9_isUrgent vs_EM_isUrgent) := gm_V vm_189 vm_190 vm_191 vm_19 vm_192
theorem g_EM_comes_0_120_0_EM_forgets : GoodIn vs_EM_comes_0_120_0 (wsV RX9 352 RX9 yX9_forgets vs_EM_forgets) := gm_V vm_224 vm_225 vm_226 vm_19 vm_227
theorem g_EM_comes_0_120_0_EM_spotOf_0 : GoodIn vs_EM_comes_0_120_0 (va_wsS RX9 355 yX9_spotOf vs_EM_spotOf_0) := gm_S vm_220 vm_221 vm_19 vm_222
theorem g_EM_comes_0_120_0_EM_copies_zn : GoodIn vs_EM_comes_0_120_0 (va_wsS RX9 362 yX9_copies vs_EM_copies_zn) := gm_S vm_228 vm_229 vm_19 vm_230
theorem g_EM_comes_0_120_0_EM_hasAll : GoodIn vs_EM_comes_0_120_0 (wsV RX9 358 RX9 yX9_hasAll vs_EM_hasAll) := gm_V vm_231 vm_232 vm_233 vm_19 vm_234
theorem g_EM_comes_0_120_0_EM_delays : GoodIn vs_EM_comes_0_120_0 (wsV RX9 349 RX9 yX9_delays vs_EM_delays) := gm_V vm_235 vm_236 vm_237 vm_19 vm_238
noncomputable def sp_EM_comes_0_120_0_L1 (x46 : Nat) (f34 : Nat → Int32) (q38 : Nat → Nat) (f39 : Nat → Int32) (f40 : Nat → Int32) (f41 : Nat → Int32) (m42_0 : Nat) (f44 : Nat → Int32) (a1 : Nat) (a5 : Nat) (z35_8 : Nat → Int32) : (Nat) → (Nat) ⊕ ((Nat → Int32) × (Nat → Int32) × (Nat → Nat) × (Nat → Int32) × (Nat → Int32) × (Nat → Int32) × (Nat → Int32) × Nat) := fun g_10 => (if m42_0 ≤ g_10 then (Sum.inr (if m42_0 = 120 then (slet (upd f44 0 (vp_nar .boolean 1)) (fun f_21 => (f34, z35_8, q38, f39, f40, f41, f_21, m42_0))) else (slet (f44 0) (fun y_22 => (if (y_22 : Int32) = 0 then (slet (sp_EM_copies_zn f34 z35_8 (25 * m42_0)) (fun z34_28 => (slet (updN q38 m42_0 a1) (fun q_29 => (slet (upd f39 m42_0 (-1)) (fun f_30 => (slet (upd f40 m42_0 (-1)) (fun f_31 => (slet (upd f41 m42_0 0) (fun f_32 => (z34_28, z35_8, q_29, f_30, f_31, f_32, f44, (m42_0 + 1)))))))))))) else (slet (upd f44 0 (vp_nar .boolean 1)) (fun f_35 => (f34, z35_8, q38, f39, f40, f41, f_35, m42_0)))))))) else (slet (min (q38 g_10) 7) (fun u_38 => (if u_38 = a1 then (slet (α := Nat) (if a5 = 0 then 1 else 0) (fun g_40 => (slet (sp_EM_hasAll x46 f34 z35_8 g_10 g_40) (fun u_45 => (if u_45 = 0 then (Sum.inl (g_10 + 1)) else (Sum.inr (f34, z35_8, q38, f39, f40, f41, f44, m42_0))))))) else (Sum.inl (g_10 + 1))))))
noncomputable def sp_EM_comes_0_120_0 (x16 : Nat) (x46 : Nat) (f3 : Nat → Int32) (q4 : Nat → Nat) (q9 : Nat → Nat) (q10 : Nat → Nat) (f11 : Nat → Int32) (m13_0 : Nat) (m13_1 : Nat) (f34 : Nat → Int32) (f35 : Nat → Int32) (q38 : Nat → Nat) (f39 : Nat → Int32) (f40 : Nat → Int32) (f41 : Nat → Int32) (m42_0 : Nat) (f44 : Nat → Int32) (f47 : Nat → Int32) (f48 : Nat → Int32) (a1 : Nat) (p4 : Int32) (a5 : Nat) : (Nat → Int32) × (Nat → Int32) × (Nat → Nat) × (Nat → Int32) × (Nat → Int32) × (Nat → Int32) × (Nat → Int32) × Nat := (slet (sp_EM_isUrgent x16 f3 a1) (fun u_2 => (slet (α := (Nat → Int32)) (if u_2 = 0 then (slet (sp_EM_delays x16 x46 q4 q9 q10 f11 m13_0 m13_1 f35 a1) (fun z35_50 => z35_50)) else f35) (fun g_3 => (slet (sp_EM_forgets x46 g_3 f47 f48 p4) (fun z35_8 => (itrv (α := Nat) (β := ((Nat → Int32) × (Nat → Int32) × (Nat → Nat) × (Nat → Int32) × (Nat → Int32) × (Nat → Int32) × (Nat → Int32) × Nat)) default (sp_EM_comes_0_120_0_L1 x46 f34 q38 f39 f40 f41 m42_0 f44 a1 a5 z35_8) 0)))))))
set_option maxHeartbeats 4000000 in
set_option maxRecDepth 100000 in
theorem c_EM_comes_0_120_0 (l : Launch) (dC : Nat → ClassId) (dI : Nat → Nat → Nat) (sz : Nat) (ad : Nat → Nat) (ck : Nat → ClassId) (x0 : Int32) (x16 : Nat) (x18 : Nat) (x19 : Nat) (x20 : Int32) (x21 : Nat) (x22 : Nat) (x23 : Int32) (x24 : Int32) (x25 : Int32) (x26 : Nat) (x27 : Int32) (x28 : Nat) (x29 : Nat) (x30 : Nat) (x33 : Nat) (x45 : Int32) (x46 : Nat) (x52 : Nat) (x53 : Nat) (x61 : Nat) (x62 : Nat) (x63 : Nat) (x65 : Nat) (x66 : Int32) (f1 : Nat → Int32) (f2 : Nat → Int32) (f3 : Nat → Int32) (q4 : Nat → Nat) (q5 : Nat → Nat) (q6 : Nat → Nat) (q7 : Nat → Nat) (f8 : Nat → Int32) (q9 : Nat → Nat) (q10 : Nat → Nat) (f11 : Nat → Int32) (m12_0 m12_1 : Nat) (m13_0 m13_1 : Nat) (m14_0 m14_1 : Nat) (m15_0 m15_1 : Nat) (f17 : Nat → Int32) (q31 : Nat → Nat) (f32 : Nat → Int32) (f34 : Nat → Int32) (f35 : Nat → Int32) (f36 : Nat → Int32) (f37 : Nat → Int32) (q38 : Nat → Nat) (f39 : Nat → Int32) (f40 : Nat → Int32) (f41 : Nat → Int32) (m42_0 m42_1 : Nat) (f43 : Nat → Int32) (f44 : Nat → Int32) (f47 : Nat → Int32) (f48 : Nat → Int32) (f49 : Nat → Int32) (f50 : Nat → Int32) (f51 : Nat → Int32) (q54 : Nat → Nat) (q55 : Nat → Nat) (q56 : Nat → Nat) (f57 : Nat → Int32) (q58 : Nat → Nat) (f59 : Nat → Int32) (f60 : Nat → Int32) (f64 : Nat → Int32) (a1 : Nat) (p4 : Int32) (a5 : Nat) (hx16 : x16 ≤ 1) (hx18 : x18 ≤ 900) (hx19 : x19 ≤ 900) (hx21 : x21 ≤ 900) (hx22 : x22 ≤ 4) (hx26 : x26 ≤ 6) (hx28 : x28 ≤ 1) (hx29 : x29 ≤ 1) (hx30 : x30 ≤ 1) (hx33 : x33 ≤ 20) (hx46 : x46 ≤ 5) (hx52 : x52 ≤ 2400) (hx53 : x53 ≤ 119) (hx61 : x61 ≤ 119) (hx62 : x62 ≤ 2000) (hx63 : x63 ≤ 1) (hx65 : x65 ≤ 7) (hm12_0 : m12_0 ≤ 3) (hm12_1 : m12_1 ≤ 3) (hm13_0 : m13_0 ≤ 8) (hm13_1 : m13_1 ≤ 8) (hm14_0 : m14_0 ≤ 14) (hm14_1 : m14_1 ≤ 14) (hm15_0 : m15_0 ≤ 8) (hm15_1 : m15_1 ≤ 8) (hm42_0 : m42_0 ≤ 120) (hm42_1 : m42_1 ≤ 400) (ha1 : a1 ≤ 7) (ha5 : a5 ≤ 1) (hgr : gz_ok m42_0 f39 f40 f41) : Met l yX9_comes vs_EM_comes_0_120_0 ({ frames := 5, cells := 0, slots := 0, locals := 113 }) (va_Pc [.ref (ad 0), .int 0, .int (nI a1), .int (-1), .int (-1), .int p4, .int (nI a5), .int 120] (pu_B (dC, dI) (mo_w ad ck x0 (nI x16) (nI x18) (nI x19) x20 (nI x21) (nI x22) x23 x24 x25 (nI x26) x27 (nI x28) (nI x29) (nI x30) (nI x33) x45 (nI x46) (nI x52) (nI x53) (nI x61) (nI x62) (nI x63) (nI x65) x66 f1 f2 f3 (bN 3 q4) (bN 7 q5) (bN 7 q6) (bN 4 q7) f8 (bN 2 q9) (bH q10) f11 (b2 m12_0 m12_1) (b2 m13_0 m13_1) (b2 m14_0 m14_1) (b2m m15_0 m15_1) f17 (bA 159 q31) f32 f34 f35 f36 f37 (bN 7 q38) f39 f40 f41 (b2 m42_0 m42_1) f43 f44 f47 f48 f49 f50 f51 (bN 13 q54) (bN 120 q55) (bN 120 q56) f57 (bN 120 q58) f59 f60 f64) (mo_t ck) sz)) (va_Qv (fun (_ : Unit) => True) (fun _ t => ∃ (z34 : Nat → Int32) (z35 : Nat → Int32) (z38 : Nat → Nat) (z39 : Nat → Int32) (z40 : Nat → Int32) (z41 : Nat → Int32) (z44 : Nat → Int32) (z42_0 : Nat), pu_E (dC, dI) (mo_w ad ck x0 (nI x16) (nI x18) (nI x19) x20 (nI x21) (nI x22) x23 x24 x25 (nI x26) x27 (nI x28) (nI x29) (nI x30) (nI x33) x45 (nI x46) (nI x52) (nI x53) (nI x61) (nI x62) (nI x63) (nI x65) x66 f1 f2 f3 (bN 3 q4) (bN 7 q5) (bN 7 q6) (bN 4 q7) f8 (bN 2 q9) (bH q10) f11 (b2 m12_0 m12_1) (b2 m13_0 m13_1) (b2 m14_0 m14_1) (b2m m15_0 m15_1) f17 (bA 159 q31) f32 z34 z35 f36 f37 (bN 7 z38) z39 z40 z41 (b2 z42_0 m42_1) f43 z44 f47 f48 f49 f50 f51 (bN 13 q54) (bN 120 q55) (bN 120 q56) f57 (bN 120 q58) f59 f60 f64) (mo_t ck) (va_A ((mo_w ad ck x0 (nI x16) (nI x18) (nI x19) x20 (nI x21) (nI x22) x23 x24 x25 (nI x26) x27 (nI x28) (nI x29) (nI x30) (nI x33) x45 (nI x46) (nI x52) (nI x53) (nI x61) (nI x62) (nI x63) (nI x65) x66 f1 f2 f3 (bN 3 q4) (bN 7 q5) (bN 7 q6) (bN 4 q7) f8 (bN 2 q9) (bH q10) f11 (b2 m12_0 m12_1) (b2 m13_0 m13_1) (b2 m14_0 m14_1) (b2m m15_0 m15_1) f17 (bA 159 q31) f32 f34 f35 f36 f37 (bN 7 q38) f39 f40 f41 (b2 m42_0 m42_1) f43 f44 f47 f48 f49 f50 f51 (bN 13 q54) (bN 120 q55) (bN 120 q56) f57 (bN 120 q58) f59 f60 f64)) sz) t ∧ (z42_0 ≤ 120) ∧ (gz_ok z42_0 z39 z40 z41) ∧ (m42_0 ≤ z42_0) ∧ ((z34, z35, z38, z39, z40, z41, z44, z42_0) = (sp_EM_comes_0_120_0 x16 x46 f3 q4 q9 q10 f11 m13_0 m13_1 f34 f35 q38 f39 f40 f41 m42_0 f44 f47 f48 a1 p4 a5))) (va_A ((mo_w ad ck x0 (nI x16) (nI x18) (nI x19) x20 (nI x21) (nI x22) x23 x24 x25 (nI x26) x27 (nI x28) (nI x29) (nI x30) (nI x33) x45 (nI x46) (nI x52) (nI x53) (nI x61) (nI x62) (nI x63) (nI x65) x66 f1 f2 f3 (bN 3 q4) (bN 7 q5) (bN 7 q6) (bN 4 q7) f8 (bN 2 q9) (bH q10) f11 (b2 m12_0 m12_1) (b2 m13_0 m13_1) (b2 m14_0 m14_1) (b2m m15_0 m15_1) f17 (bA 159 q31) f32 f34 f35 f36 f37 (bN 7 q38) f39 f40 f41 (b2 m42_0 m42_1) f43 f44 f47 f48 f49 f50 f51 (bN 13 q54) (bN 120 q55) (bN 120 q56) f57 (bN 120 q58) f59 f60 f64)) sz)) 0 0 (va_A ((mo_w ad ck x0 (nI x16) (nI x18) (nI x19) x20 (nI x21) (nI x22) x23 x24 x25 (nI x26) x27 (nI x28) (nI x29) (nI x30) (nI x33) x45 (nI x46) (nI x52) (nI x53) (nI x61) (nI x62) (nI x63) (nI x65) x66 f1 f2 f3 (bN 3 q4) (bN 7 q5) (bN 7 q6) (bN 4 q7) f8 (bN 2 q9) (bH q10) f11 (b2 m12_0 m12_1) (b2 m13_0 m13_1) (b2 m14_0 m14_1) (b2m m15_0 m15_1) f17 (bA 159 q31) f32 f34 f35 f36 f37 (bN 7 q38) f39 f40 f41 (b2 m42_0 m42_1) f43 f44 f47 f48 f49 f50 f51 (bN 13 q54) (bN 120 q55) (bN 120 q56) f57 (bN 120 q58) f59 f60 f64)) sz) := by
  refine Met.ofW (cc := cX9_comes) (maxL := 10) (ret := none) (by decide) rfl ?_
  intro p e s m args below meth c s₁ B hml hv
  obtain ⟨rfl, rfl, hP, hK, hD0⟩ := hv
  have hx := B.exec
  have hb := B.bytes
  have hr := B.returns
  have hts := atoms_spec (ws := vs_EM_comes_0_120_0) B.pre
  have v_6 := hts (.fieldLink RX9 71 "ClockReachModel" "z" "[I") (List.mem_cons_of_mem _ vm_219)
  have v_15 := hts (.fieldLink RX9 92 "ClockReachModel" "stateMany" "[I") (List.mem_cons_of_mem _ vm_164)
  have v_16 := hts (.fieldLink RX9 98 "ClockReachModel" "isFull" "[Z") (List.mem_cons_of_mem _ vm_165)
  have v_20 := hts (.fieldLink RX9 68 "ClockReachModel" "zone" "[I") (List.mem_cons_of_mem _ vm_214)
  have v_24 := hts (.fieldLink RX9 80 "ClockReachModel" "statePlace" "[I") (List.mem_cons_of_mem _ vm_223)
  have v_25 := hts (.fieldLink RX9 83 "ClockReachModel" "stateFrom" "[I") (List.mem_cons_of_mem _ vm_239)
  have v_26 := hts (.fieldLink RX9 86 "ClockReachModel" "stateBy" "[I") (List.mem_cons_of_mem _ vm_240)
  have v_27 := hts (.fieldLink RX9 89 "ClockReachModel" "stateDeep" "[I") (List.mem_cons_of_mem _ vm_241)
  have hown : s.vm.findClass RX9 = some m.cls := findClass_of_methodNamed B.named
  have hlocks := B.notSynchronized
  have hiX9 : ∀ w ∈ wsX90, w ∈ vs_EM_comes_0_120_0 := fun _ h => List.mem_cons_of_mem _ (vmi_L h)
  have hD := hD0.self (sz := s.heap.size)
  generalize hAe : va_A ((mo_w ad ck x0 (nI x16) (nI x18) (nI x19) x20 (nI x21) (nI x22) x23 x24 x25 (nI x26) x27 (nI x28) (nI x29) (nI x30) (nI x33) x45 (nI x46) (nI x52) (nI x53) (nI x61) (nI x62) (nI x63) (nI x65) x66 f1 f2 f3 (bN 3 q4) (bN 7 q5) (bN 7 q6) (bN 4 q7) f8 (bN 2 q9) (bH q10) f11 (b2 m12_0 m12_1) (b2 m13_0 m13_1) (b2 m14_0 m14_1) (b2m m15_0 m15_1) f17 (bA 159 q31) f32 f34 f35 f36 f37 (bN 7 q38) f39 f40 f41 (b2 m42_0 m42_1) f43 f44 f47 f48 f49 f50 f51 (bN 13 q54) (bN 120 q55) (bN 120 q56) f57 (bN 120 q58) f59 f60 f64)) s.heap.size = A at hD ⊢
  have hA : ∀ q : Nat, s.heap.size ≤ q → A q := fun q h => by rw [← hAe]; exact Or.inr h
  have hS : va_S A s.heap s.heap [] := va_S.rf
  have hl := lv_entry ([.ref (ad 0), .int 0, .int (nI a1), .int (-1), .int (-1), .int p4, .int (nI a5), .int 120]) (n := 10) (Nat.le_of_ble_eq_true rfl)
  rw [lg_entry_eq]
  generalize (lg_sl ([.ref (ad 0), .int 0, .int (nI a1), .int (-1), .int (-1), .int p4, .int (nI a5), .int 120]) ++ List.replicate (10 - (lg_sl ([.ref (ad 0), .int 0, .int (nI a1), .int (-1), .int (-1), .int p4, .int (nI a5), .int 120])).length) Slot.unset).toArray = ls at hl ⊢
  have hl : lv_has ls 10 [(0, .ref (ad 0)), (1, .int 0), (2, .int (nI a1)), (3, .int (-1)), (4, .int (-1)), (5, .int p4), (6, .int (nI a5)), (7, .int 120)] := hl
  obtain ⟨RR, hRR⟩ : ∃ x, x = (sp_EM_comes_0_120_0 x16 x46 f3 q4 q9 q10 f11 m13_0 m13_1 f34 f35 q38 f39 f40 f41 m42_0 f44 f47 f48 a1 p4 a5) := ⟨_, rfl⟩
  have hsp := hRR
  refine lv_aload_n hx hb dX9_comes_0 rfl (lv_at hl 0 rfl) ?_
  refine lv_iload_n hx hb dX9_comes_1 rfl (lv_at hl 2 rfl) ?_
  refine va_calli (va_runV (As := [.int (nI a1)]) (rest := []) ⟨hx, hb, hml, hown, hts⟩ (c_EM_isUrgent l dC dI _ ad ck x0 x16 x18 x19 x20 x21 x22 x23 x24 x25 x26 x27 x28 x29 x30 x33 x45 x46 x52 x53 x61 x62 x63 x65 x66 f1 f2 f3 q4 q5 q6 q7 f8 q9 q10 f11 m12_0 m12_1 m13_0 m13_1 m14_0 m14_1 m15_0 m15_1 f17 q31 f32 f34 f35 f36 f37 q38 f39 f40 f41 m42_0 m42_1 f43 f44 f47 f48 f49 f50 f51 q54 q55 q56 f57 q58 f59 f60 f64 a1 hx16 hx18 hx19 hx21 hx22 hx26 hx28 hx29 hx30 hx33 hx46 hx52 hx53 hx61 hx62 hx63 hx65 hm12_0 hm12_1 hm13_0 hm13_1 hm14_0 hm14_1 hm15_0 hm15_1 hm42_0 hm42_1 ha1) (cwV 1 hts g_EM_comes_0_120_0_EM_isUrgent rfl rfl rfl (by decide +kernel) ⟨Nat.le_of_ble_eq_true rfl, Nat.le_of_ble_eq_true rfl⟩) ⟨pu_bl, va_recv hK hP (ci := 9) (q0 := 0) rfl rfl, pu_in hP hK hD⟩ rfl rfl hl.1 rfl (lv_room (Nat.le_of_ble_eq_true rfl)) dX9_comes_2 ⟨Nat.le_of_ble_eq_true rfl, Nat.le_of_ble_eq_true rfl⟩) hS (fun q _ h => pu_fr hS hA q h) (pu_fr hS hA) (fun r_1 u t H1 locs ht hvm hw hB hz1 hk1 hS => ?_)
  have hP := pu_keep hP hk1
  clear hk1 hz1 ht hvm
  generalize H1 = H at hP hS ⊢
  obtain ⟨u_2, hu_2, rfl, iu_2⟩ := hw
  replace hsp := hsp.trans (slet_eq iu_2)
  obtain ⟨JR_5, hJR_5, hsp⟩ := slet_ex hsp
  refine pu_join (fun H locs ls st => ∃ (g_3 : Nat → Int32), st = [] ∧ g_3 = JR_5 ∧ va_P (dC, dI) vwCl (mo_w ad ck x0 (nI x16) (nI x18) (nI x19) x20 (nI x21) (nI x22) x23 x24 x25 (nI x26) x27 (nI x28) (nI x29) (nI x30) (nI x33) x45 (nI x46) (nI x52) (nI x53) (nI x61) (nI x62) (nI x63) (nI x65) x66 f1 f2 f3 (bN 3 q4) (bN 7 q5) (bN 7 q6) (bN 4 q7) f8 (bN 2 q9) (bH q10) f11 (b2 m12_0 m12_1) (b2 m13_0 m13_1) (b2 m14_0 m14_1) (b2m m15_0 m15_1) f17 (bA 159 q31) f32 f34 g_3 f36 f37 (bN 7 q38) f39 f40 f41 (b2 m42_0 m42_1) f43 f44 f47 f48 f49 f50 f51 (bN 13 q54) (bN 120 q55) (bN 120 q56) f57 (bN 120 q58) f59 f60 f64) H ∧ va_D A (mo_w ad ck x0 (nI x16) (nI x18) (nI x19) x20 (nI x21) (nI x22) x23 x24 x25 (nI x26) x27 (nI x28) (nI x29) (nI x30) (nI x33) x45 (nI x46) (nI x52) (nI x53) (nI x61) (nI x62) (nI x63) (nI x65) x66 f1 f2 f3 (bN 3 q4) (bN 7 q5) (bN 7 q6) (bN 4 q7) f8 (bN 2 q9) (bH q10) f11 (b2 m12_0 m12_1) (b2 m13_0 m13_1) (b2 m14_0 m14_1) (b2m m15_0 m15_1) f17 (bA 159 q31) f32 f34 g_3 f36 f37 (bN 7 q38) f39 f40 f41 (b2 m42_0 m42_1) f43 f44 f47 f48 f49 f50 f51 (bN 13 q54) (bN 120 q55) (bN 120 q56) f57 (bN 120 q58) f59 f60 f64) ∧ va_S A s.heap H locs ∧ lv_has ls 10 [(0, .ref (ad 0)), (1, .int 0), (2, .int (nI a1)), (3, .int (-1)), (4, .int (-1)), (5, .int p4), (6, .int (nI a5)), (7, .int 120)]) 17 ?_ (fun j_4 => ?_)
  · rintro H locs ls st ⟨g_3, rfl, he_6, hP, hD, hS, hl⟩
    rw [← he_6] at hsp
    refine lv_aload_n hx hb dX9_comes_17 rfl (lv_at hl 0 rfl) ?_
    refine lv_aload_n hx hb dX9_comes_18 rfl (lv_at hl 0 rfl) ?_
    refine va_get (D := (dC, dI)) (ci := 9) (v := .ref (ad 35)) (C := RX9) (T := TX9) (N := 67) hx hb hts hiX9 hown hK hP 0 rfl rfl 35 (by decide) v_6 (fun _ h9 => h9) rfl dX9_comes_19 ?_
    refine lv_iload hx hb dX9_comes_22 (lv_at hl 5 rfl) ?_
    have hFc := pu_free hD hS hA
    refine va_callv (va_runV (As := [.ref (ad 35), .int p4]) (rest := []) ⟨hx, hb, hml, hown, hts⟩ (c_EM_forgets l dC dI _ ad ck x0 x16 x18 x19 x20 x21 x22 x23 x24 x25 x26 x27 x28 x29 x30 x33 x45 x46 x52 x53 x61 x62 x63 x65 x66 f1 f2 f3 q4 q5 q6 q7 f8 q9 q10 f11 m12_0 m12_1 m13_0 m13_1 m14_0 m14_1 m15_0 m15_1 f17 q31 f32 f34 g_3 f36 f37 q38 f39 f40 f41 m42_0 m42_1 f43 f44 f47 f48 f49 f50 f51 q54 q55 q56 f57 q58 f59 f60 f64 p4 hx16 hx18 hx19 hx21 hx22 hx26 hx28 hx29 hx30 hx33 hx46 hx52 hx53 hx61 hx62 hx63 hx65 hm12_0 hm12_1 hm13_0 hm13_1 hm14_0 hm14_1 hm15_0 hm15_1 hm42_0 hm42_1) (cwV 2 hts g_EM_comes_0_120_0_EM_forgets rfl rfl rfl (by decide +kernel) ⟨Nat.le_of_ble_eq_true rfl, Nat.le_of_ble_eq_true rfl⟩) ⟨pu_bl, va_recv hK hP (ci := 9) (q0 := 0) rfl rfl, pu_in hP hK hD⟩ rfl rfl hl.1 rfl (lv_room (Nat.le_of_ble_eq_true rfl)) dX9_comes_24 ⟨Nat.le_of_ble_eq_true rfl, Nat.le_of_ble_eq_true rfl⟩) hS (fun q _ h => hFc q h) hFc (fun u t H1 locs ht hvm hw hB hz1 hk1 hS => ?_)
    obtain ⟨z35_8, ⟨hP1, -, hD1⟩, xr_7_0⟩ := hB
    rw [ht] at hP1
    have hP := hP1
    have hD := pu_all hFc hD1
    clear hP1 hD1 hFc
    clear hk1 hz1 ht hvm
    generalize H1 = H at hP hS ⊢
    replace hsp := hsp.trans (slet_eq xr_7_0)
    refine lv_iconst (v := 0) hx hb dX9_comes_27 (by decide) ?_
    refine lv_istore (lv' := [(8, .int 0), (0, .ref (ad 0)), (1, .int 0), (2, .int (nI a1)), (3, .int (-1)), (4, .int (-1)), (5, .int p4), (6, .int (nI a5)), (7, .int 120)]) hx hb dX9_comes_28 hl (by decide) rfl (fun ls hl => ?_)
    obtain ⟨lf_12, dlf_12, hlf_12, hsp⟩ := itr_ex hsp
    delta sp_EM_comes_0_120_0_L1 at hlf_12
    refine pu_while (fun nn H locs ls => ∃ (g_10 : Nat), nn = 120 - g_10 ∧ g_10 ≤ 120 ∧ RR = itrv dlf_12 lf_12 g_10 ∧ va_P (dC, dI) vwCl (mo_w ad ck x0 (nI x16) (nI x18) (nI x19) x20 (nI x21) (nI x22) x23 x24 x25 (nI x26) x27 (nI x28) (nI x29) (nI x30) (nI x33) x45 (nI x46) (nI x52) (nI x53) (nI x61) (nI x62) (nI x63) (nI x65) x66 f1 f2 f3 (bN 3 q4) (bN 7 q5) (bN 7 q6) (bN 4 q7) f8 (bN 2 q9) (bH q10) f11 (b2 m12_0 m12_1) (b2 m13_0 m13_1) (b2 m14_0 m14_1) (b2m m15_0 m15_1) f17 (bA 159 q31) f32 f34 z35_8 f36 f37 (bN 7 q38) f39 f40 f41 (b2 m42_0 m42_1) f43 f44 f47 f48 f49 f50 f51 (bN 13 q54) (bN 120 q55) (bN 120 q56) f57 (bN 120 q58) f59 f60 f64) H ∧ va_D A (mo_w ad ck x0 (nI x16) (nI x18) (nI x19) x20 (nI x21) (nI x22) x23 x24 x25 (nI x26) x27 (nI x28) (nI x29) (nI x30) (nI x33) x45 (nI x46) (nI x52) (nI x53) (nI x61) (nI x62) (nI x63) (nI x65) x66 f1 f2 f3 (bN 3 q4) (bN 7 q5) (bN 7 q6) (bN 4 q7) f8 (bN 2 q9) (bH q10) f11 (b2 m12_0 m12_1) (b2 m13_0 m13_1) (b2 m14_0 m14_1) (b2m m15_0 m15_1) f17 (bA 159 q31) f32 f34 z35_8 f36 f37 (bN 7 q38) f39 f40 f41 (b2 m42_0 m42_1) f43 f44 f47 f48 f49 f50 f51 (bN 13 q54) (bN 120 q55) (bN 120 q56) f57 (bN 120 q58) f59 f60 f64) ∧ va_S A s.heap H locs ∧ lv_has ls 10 [(0, .ref (ad 0)), (1, .int 0), (2, .int (nI a1)), (3, .int (-1)), (4, .int (-1)), (5, .int p4), (6, .int (nI a5)), (7, .int 120), (8, .int (nI g_10))]) 30 ?_ _ _ _ _ ⟨0, rfl, (Nat.le_of_ble_eq_true rfl), hsp, hP, hD, hS, lv_sub hl [1, 2, 3, 4, 5, 6, 7, 8, 0] rfl⟩
    rintro nn ih_11 H locs ls ⟨g_10, rfl, hg_10, he_14, hP, hD, hS, hl⟩
    obtain ⟨S_13, hsp, hin_15, hout_16⟩ := itr_step hlf_12 he_14
    refine lv_iload hx hb dX9_comes_30 (lv_at hl 8 rfl) ?_
    refine lv_aload_n hx hb dX9_comes_32 rfl (lv_at hl 0 rfl) ?_
    refine va_get (D := (dC, dI)) (ci := 9) (v := .ref (ad 42)) (C := RX9) (T := TX9) (N := 67) hx hb hts hiX9 hown hK hP 0 rfl rfl 42 (by decide) v_15 (fun _ h9 => h9) rfl dX9_comes_33 ?_
    refine lv_iload_n hx hb dX9_comes_36 rfl (lv_at hl 1 rfl) ?_
    refine va_iald hx hb hK hP 27 26 rfl rfl (vp_in_nI (n := 0) (Nat.le_of_ble_eq_true rfl) (Nat.le_of_ble_eq_true rfl)) dX9_comes_37 ?_
    refine lv_topi (fun y_17 ey_17 => ?_)
    have qy_17 := ey_17.trans b2_0
    clear ey_17
    obtain rfl : y_17 = nI m42_0 := qy_17
    refine lv_icmp_ge (tgt := 90) hx hb dX9_comes_38 (by decide) (fun c_18 => ?_) (fun c_18 => ?_)
    · have c_18 : m42_0 ≤ g_10 := (nI_leI (a := m42_0) (b := g_10) (Nat.lt_of_le_of_lt hm42_0 (Nat.le_of_ble_eq_true rfl)) (Nat.lt_of_le_of_lt hg_10 (Nat.le_of_ble_eq_true rfl))).mp c_18
      replace hsp := hsp.trans (if_pos c_18)
      have hsp := hout_16 _ hsp
      refine lv_aload_n hx hb dX9_comes_90 rfl (lv_at hl 0 rfl) ?_
      refine va_get (D := (dC, dI)) (ci := 9) (v := .ref (ad 42)) (C := RX9) (T := TX9) (N := 67) hx hb hts hiX9 hown hK hP 0 rfl rfl 42 (by decide) v_15 (fun _ h9 => h9) rfl dX9_comes_91 ?_
      refine lv_iload_n hx hb dX9_comes_94 rfl (lv_at hl 1 rfl) ?_
      refine va_iald hx hb hK hP 27 26 rfl rfl (vp_in_nI (n := 0) (Nat.le_of_ble_eq_true rfl) (Nat.le_of_ble_eq_true rfl)) dX9_comes_95 ?_
      refine lv_topi (fun y_19 ey_19 => ?_)
      have qy_19 := ey_19.trans b2_0
      clear ey_19
      obtain rfl : y_19 = nI m42_0 := qy_19
      refine lv_iload hx hb dX9_comes_96 (lv_at hl 7 rfl) ?_
      refine lv_icmp_eq (tgt := 110) hx hb dX9_comes_98 (by decide) (fun c_20 => ?_) (fun c_20 => ?_)
      · have c_20 : m42_0 = 120 := (nI_eq (a := m42_0) (b := 120) (Nat.lt_of_le_of_lt hm42_0 (Nat.le_of_ble_eq_true rfl)) (Nat.le_of_ble_eq_true rfl)).mp c_20
        replace hsp := hsp.trans (if_pos c_20)
        refine lv_aload_n hx hb dX9_comes_110 rfl (lv_at hl 0 rfl) ?_
        refine va_get (D := (dC, dI)) (ci := 9) (v := .ref (ad 44)) (C := RX9) (T := TX9) (N := 67) hx hb hts hiX9 hown hK hP 0 rfl rfl 44 (by decide) v_16 (fun _ h9 => h9) rfl dX9_comes_111 ?_
        refine lv_iload_n hx hb dX9_comes_114 rfl (lv_at hl 1 rfl) ?_
        refine lv_iconst (v := 1) hx hb dX9_comes_115 (by decide) ?_
        refine va_zast hx hb hK hP hD hS 29 28 rfl rfl (vp_in_nI (n := 0) (Nat.le_of_ble_eq_true rfl) (Nat.le_of_ble_eq_true rfl)) dX9_comes_116 (fun H locs hP hD hS => ?_)
        obtain ⟨f_21, ef_21, xf_21⟩ := up_x f44 (n := 0) (vp_nar .boolean 1) (Nat.le_of_ble_eq_true rfl)
        have hP : va_P (dC, dI) vwCl (mo_w ad ck x0 (nI x16) (nI x18) (nI x19) x20 (nI x21) (nI x22) x23 x24 x25 (nI x26) x27 (nI x28) (nI x29) (nI x30) (nI x33) x45 (nI x46) (nI x52) (nI x53) (nI x61) (nI x62) (nI x63) (nI x65) x66 f1 f2 f3 (bN 3 q4) (bN 7 q5) (bN 7 q6) (bN 4 q7) f8 (bN 2 q9) (bH q10) f11 (b2 m12_0 m12_1) (b2 m13_0 m13_1) (b2 m14_0 m14_1) (b2m m15_0 m15_1) f17 (bA 159 q31) f32 f34 z35_8 f36 f37 (bN 7 q38) f39 f40 f41 (b2 m42_0 m42_1) f43 f_21 f47 f48 f49 f50 f51 (bN 13 q54) (bN 120 q55) (bN 120 q56) f57 (bN 120 q58) f59 f60 f64) H := by rw [← ef_21]; exact hP
        have hD : va_D A (mo_w ad ck x0 (nI x16) (nI x18) (nI x19) x20 (nI x21) (nI x22) x23 x24 x25 (nI x26) x27 (nI x28) (nI x29) (nI x30) (nI x33) x45 (nI x46) (nI x52) (nI x53) (nI x61) (nI x62) (nI x63) (nI x65) x66 f1 f2 f3 (bN 3 q4) (bN 7 q5) (bN 7 q6) (bN 4 q7) f8 (bN 2 q9) (bH q10) f11 (b2 m12_0 m12_1) (b2 m13_0 m13_1) (b2 m14_0 m14_1) (b2m m15_0 m15_1) f17 (bA 159 q31) f32 f34 z35_8 f36 f37 (bN 7 q38) f39 f40 f41 (b2 m42_0 m42_1) f43 f_21 f47 f48 f49 f50 f51 (bN 13 q54) (bN 120 q55) (bN 120 q56) f57 (bN 120 q58) f59 f60 f64) := by rw [← ef_21]; exact hD
        replace hsp := hsp.trans (slet_eq xf_21)
        exact W.vret hx hb hr (fun t ht hW => ⟨⟨(), rfl, trivial, ⟨f34, z35_8, q38, f39, f40, f41, f_21, m42_0, ⟨by rw [ht]; exact hP, va_K.moved hW.alike hK, hD⟩, hm42_0, hgr, by omega, (hsp.symm.trans hRR)⟩⟩, hS.F ht⟩) hS.2.2 dX9_comes_117
      · have c_20 : ¬ m42_0 = 120 := fun z => c_20 ((nI_eq (a := m42_0) (b := 120) (Nat.lt_of_le_of_lt hm42_0 (Nat.le_of_ble_eq_true rfl)) (Nat.le_of_ble_eq_true rfl)).mpr z)
        replace hsp := hsp.trans (if_neg c_20)
        refine lv_aload_n hx hb dX9_comes_101 rfl (lv_at hl 0 rfl) ?_
        refine va_get (D := (dC, dI)) (ci := 9) (v := .ref (ad 44)) (C := RX9) (T := TX9) (N := 67) hx hb hts hiX9 hown hK hP 0 rfl rfl 44 (by decide) v_16 (fun _ h9 => h9) rfl dX9_comes_102 ?_
        refine lv_iload_n hx hb dX9_comes_105 rfl (lv_at hl 1 rfl) ?_
        refine va_zald hx hb hK hP 29 28 rfl rfl (vp_in_nI (n := 0) (Nat.le_of_ble_eq_true rfl) (Nat.le_of_ble_eq_true rfl)) dX9_comes_106 ?_
        refine lv_topi (fun y_22 ey_22 => ?_)
        have ey_22 : y_22 = f44 0 := ey_22.trans (congrArg f44 (nI_clamp (n := 0) (Nat.le_of_ble_eq_true rfl)))
        replace hsp := hsp.trans (slet_eq ey_22)
        refine lv_if_eq (tgt := 118) hx hb dX9_comes_107 (by decide) (fun c_23 => ?_) (fun c_23 => ?_)
        · have hcc_23 := c_23
          replace hsp := hsp.trans (if_pos c_23)
          refine lv_iload_n hx hb dX9_comes_118 rfl (lv_at hl 1 rfl) ?_
          refine lv_aload_n hx hb dX9_comes_119 rfl (lv_at hl 0 rfl) ?_
          refine va_get (D := (dC, dI)) (ci := 9) (v := .ref (ad 42)) (C := RX9) (T := TX9) (N := 67) hx hb hts hiX9 hown hK hP 0 rfl rfl 42 (by decide) v_15 (fun _ h9 => h9) rfl dX9_comes_120 ?_
          refine lv_iload_n hx hb dX9_comes_123 rfl (lv_at hl 1 rfl) ?_
          refine va_iald hx hb hK hP 27 26 rfl rfl (vp_in_nI (n := 0) (Nat.le_of_ble_eq_true rfl) (Nat.le_of_ble_eq_true rfl)) dX9_comes_124 ?_
          refine lv_topi (fun y_24 ey_24 => ?_)
          have qy_24 := ey_24.trans b2_0
          clear ey_24
          obtain rfl : y_24 = nI m42_0 := qy_24
          refine va_calli (va_runS (As := [.int 0, .int (nI m42_0)]) (rest := []) ⟨hx, hb, hml, hown, hts⟩ (c_EM_spotOf_0 l dC dI _ ad ck x0 x16 x18 x19 x20 x21 x22 x23 x24 x25 x26 x27 x28 x29 x30 x33 x45 x46 x52 x53 x61 x62 x63 x65 x66 f1 f2 f3 q4 q5 q6 q7 f8 q9 q10 f11 m12_0 m12_1 m13_0 m13_1 m14_0 m14_1 m15_0 m15_1 f17 q31 f32 f34 z35_8 f36 f37 q38 f39 f40 f41 m42_0 m42_1 f43 f44 f47 f48 f49 f50 f51 q54 q55 q56 f57 q58 f59 f60 f64 m42_0 hx16 hx18 hx19 hx21 hx22 hx26 hx28 hx29 hx30 hx33 hx46 hx52 hx53 hx61 hx62 hx63 hx65 hm12_0 hm12_1 hm13_0 hm13_1 hm14_0 hm14_1 hm15_0 hm15_1 hm42_0 hm42_1 (Nat.le_trans hm42_0 (Nat.le_of_ble_eq_true rfl))) (va_cwS 2 hts g_EM_comes_0_120_0_EM_spotOf_0 rfl rfl rfl (by decide +kernel) ⟨Nat.le_of_ble_eq_true rfl, Nat.le_of_ble_eq_true rfl⟩) ⟨pu_bl, pu_in hP hK hD⟩ rfl rfl hl.1 rfl (lv_room (Nat.le_of_ble_eq_true rfl)) dX9_comes_125 ⟨Nat.le_of_ble_eq_true rfl, Nat.le_of_ble_eq_true rfl⟩) hS (fun q _ h => pu_fr hS hA q h) (pu_fr hS hA) (fun r_25 u t H1 locs ht hvm hw hB hz1 hk1 hS => ?_)
          have hP := pu_keep hP hk1
          clear hk1 hz1 ht hvm
          generalize H1 = H at hP hS ⊢
          obtain rfl : r_25 = nI (m42_0) := hw
          refine lv_istore (lv' := [(8, .int (nI m42_0)), (0, .ref (ad 0)), (1, .int 0), (2, .int (nI a1)), (3, .int (-1)), (4, .int (-1)), (5, .int p4), (6, .int (nI a5)), (7, .int 120)]) hx hb dX9_comes_128 hl (by decide) rfl (fun ls hl => ?_)
          refine lv_aload_n hx hb dX9_comes_130 rfl (lv_at hl 1 rfl) ?_
          refine va_get (D := (dC, dI)) (ci := 9) (v := .ref (ad 35)) (C := RX9) (T := TX9) (N := 67) hx hb hts hiX9 hown hK hP 0 rfl rfl 35 (by decide) v_6 (fun _ h9 => h9) rfl dX9_comes_131 ?_
          refine lv_iconst (v := 0) hx hb dX9_comes_134 (by decide) ?_
          refine lv_aload_n hx hb dX9_comes_135 rfl (lv_at hl 1 rfl) ?_
          refine va_get (D := (dC, dI)) (ci := 9) (v := .ref (ad 34)) (C := RX9) (T := TX9) (N := 67) hx hb hts hiX9 hown hK hP 0 rfl rfl 34 (by decide) v_20 (fun _ h9 => h9) rfl dX9_comes_136 ?_
          refine lv_bipush (v := 25) hx hb dX9_comes_139 (by decide) ?_
          refine lv_iload hx hb dX9_comes_141 (lv_at hl 0 rfl) ?_
          refine lv_imul hx hb dX9_comes_143 ?_
          refine lv_topi (fun y_26 ey_26 => ?_)
          obtain rfl : y_26 = (nI (25 * m42_0)) := ey_26.trans (pk_mul 25 m42_0)
          have hFc := pu_free hD hS hA
          refine va_callv (va_runS (As := [.ref (ad 35), .int 0, .ref (ad 34), .int (nI (25 * m42_0))]) (rest := []) ⟨hx, hb, hml, hown, hts⟩ (c_EM_copies_zn l dC dI _ ad ck x0 x16 x18 x19 x20 x21 x22 x23 x24 x25 x26 x27 x28 x29 x30 x33 x45 x46 x52 x53 x61 x62 x63 x65 x66 f1 f2 f3 q4 q5 q6 q7 f8 q9 q10 f11 m12_0 m12_1 m13_0 m13_1 m14_0 m14_1 m15_0 m15_1 f17 q31 f32 f34 z35_8 f36 f37 q38 f39 f40 f41 m42_0 m42_1 f43 f44 f47 f48 f49 f50 f51 q54 q55 q56 f57 q58 f59 f60 f64 (25 * m42_0) hx16 hx18 hx19 hx21 hx22 hx26 hx28 hx29 hx30 hx33 hx46 hx52 hx53 hx61 hx62 hx63 hx65 hm12_0 hm12_1 hm13_0 hm13_1 hm14_0 hm14_1 hm15_0 hm15_1 hm42_0 hm42_1 (by omega)) (va_cwS 4 hts g_EM_comes_0_120_0_EM_copies_zn rfl rfl rfl (by decide +kernel) ⟨Nat.le_of_ble_eq_true rfl, Nat.le_of_ble_eq_true rfl⟩) ⟨pu_bl, pu_in hP hK hD⟩ rfl rfl hl.1 rfl (lv_room (Nat.le_of_ble_eq_true rfl)) dX9_comes_144 ⟨Nat.le_of_ble_eq_true rfl, Nat.le_of_ble_eq_true rfl⟩) hS (fun q _ h => hFc q h) hFc (fun u t H1 locs ht hvm hw hB hz1 hk1 hS => ?_)
          obtain ⟨z34_28, ⟨hP1, -, hD1⟩, xr_27_0⟩ := hB
          rw [ht] at hP1
          have hP := hP1
          have hD := pu_all hFc hD1
          clear hP1 hD1 hFc
          clear hk1 hz1 ht hvm
          generalize H1 = H at hP hS ⊢
          replace hsp := hsp.trans (slet_eq xr_27_0)
          refine lv_aload_n hx hb dX9_comes_147 rfl (lv_at hl 1 rfl) ?_
          refine va_get (D := (dC, dI)) (ci := 9) (v := .ref (ad 38)) (C := RX9) (T := TX9) (N := 67) hx hb hts hiX9 hown hK hP 0 rfl rfl 38 (by decide) v_24 (fun _ h9 => h9) rfl dX9_comes_148 ?_
          refine lv_iload hx hb dX9_comes_151 (lv_at hl 0 rfl) ?_
          refine lv_iload_n hx hb dX9_comes_153 rfl (lv_at hl 3 rfl) ?_
          refine va_iast hx hb hK hP hD hS 23 22 rfl rfl (vp_in_nI (n := m42_0) (Nat.lt_of_le_of_lt hm42_0 (Nat.le_of_ble_eq_true rfl)) (Nat.le_of_ble_eq_true rfl)) dX9_comes_154 (fun H locs hP hD hS => ?_)
          obtain ⟨q_29, eq_29, kq_29, oq_29, xq_29⟩ := bN_upx 7 q38 (n := m42_0) (v := a1) (Nat.lt_of_le_of_lt hm42_0 (Nat.le_of_ble_eq_true rfl)) ha1
          have hP : va_P (dC, dI) vwCl (mo_w ad ck x0 (nI x16) (nI x18) (nI x19) x20 (nI x21) (nI x22) x23 x24 x25 (nI x26) x27 (nI x28) (nI x29) (nI x30) (nI x33) x45 (nI x46) (nI x52) (nI x53) (nI x61) (nI x62) (nI x63) (nI x65) x66 f1 f2 f3 (bN 3 q4) (bN 7 q5) (bN 7 q6) (bN 4 q7) f8 (bN 2 q9) (bH q10) f11 (b2 m12_0 m12_1) (b2 m13_0 m13_1) (b2 m14_0 m14_1) (b2m m15_0 m15_1) f17 (bA 159 q31) f32 z34_28 z35_8 f36 f37 (bN 7 q_29) f39 f40 f41 (b2 m42_0 m42_1) f43 f44 f47 f48 f49 f50 f51 (bN 13 q54) (bN 120 q55) (bN 120 q56) f57 (bN 120 q58) f59 f60 f64) H := by rw [← eq_29]; exact hP
          have hD : va_D A (mo_w ad ck x0 (nI x16) (nI x18) (nI x19) x20 (nI x21) (nI x22) x23 x24 x25 (nI x26) x27 (nI x28) (nI x29) (nI x30) (nI x33) x45 (nI x46) (nI x52) (nI x53) (nI x61) (nI x62) (nI x63) (nI x65) x66 f1 f2 f3 (bN 3 q4) (bN 7 q5) (bN 7 q6) (bN 4 q7) f8 (bN 2 q9) (bH q10) f11 (b2 m12_0 m12_1) (b2 m13_0 m13_1) (b2 m14_0 m14_1) (b2m m15_0 m15_1) f17 (bA 159 q31) f32 z34_28 z35_8 f36 f37 (bN 7 q_29) f39 f40 f41 (b2 m42_0 m42_1) f43 f44 f47 f48 f49 f50 f51 (bN 13 q54) (bN 120 q55) (bN 120 q56) f57 (bN 120 q58) f59 f60 f64) := by rw [← eq_29]; exact hD
          replace hsp := hsp.trans (slet_eq xq_29)
          refine lv_aload_n hx hb dX9_comes_155 rfl (lv_at hl 1 rfl) ?_
          refine va_get (D := (dC, dI)) (ci := 9) (v := .ref (ad 39)) (C := RX9) (T := TX9) (N := 67) hx hb hts hiX9 hown hK hP 0 rfl rfl 39 (by decide) v_25 (fun _ h9 => h9) rfl dX9_comes_156 ?_
          refine lv_iload hx hb dX9_comes_159 (lv_at hl 0 rfl) ?_
          refine lv_iload_n hx hb dX9_comes_161 rfl (lv_at hl 4 rfl) ?_
          refine va_iast hx hb hK hP hD hS 24 23 rfl rfl (vp_in_nI (n := m42_0) (Nat.lt_of_le_of_lt hm42_0 (Nat.le_of_ble_eq_true rfl)) (Nat.le_of_ble_eq_true rfl)) dX9_comes_162 (fun H locs hP hD hS => ?_)
          obtain ⟨f_30, ef_30, xf_30⟩ := up_x f39 (n := m42_0) (-1) (Nat.lt_of_le_of_lt hm42_0 (Nat.le_of_ble_eq_true rfl))
          have hP : va_P (dC, dI) vwCl (mo_w ad ck x0 (nI x16) (nI x18) (nI x19) x20 (nI x21) (nI x22) x23 x24 x25 (nI x26) x27 (nI x28) (nI x29) (nI x30) (nI x33) x45 (nI x46) (nI x52) (nI x53) (nI x61) (nI x62) (nI x63) (nI x65) x66 f1 f2 f3 (bN 3 q4) (bN 7 q5) (bN 7 q6) (bN 4 q7) f8 (bN 2 q9) (bH q10) f11 (b2 m12_0 m12_1) (b2 m13_0 m13_1) (b2 m14_0 m14_1) (b2m m15_0 m15_1) f17 (bA 159 q31) f32 z34_28 z35_8 f36 f37 (bN 7 q_29) f_30 f40 f41 (b2 m42_0 m42_1) f43 f44 f47 f48 f49 f50 f51 (bN 13 q54) (bN 120 q55) (bN 120 q56) f57 (bN 120 q58) f59 f60 f64) H := by rw [← ef_30]; exact hP
          have hD : va_D A (mo_w ad ck x0 (nI x16) (nI x18) (nI x19) x20 (nI x21) (nI x22) x23 x24 x25 (nI x26) x27 (nI x28) (nI x29) (nI x30) (nI x33) x45 (nI x46) (nI x52) (nI x53) (nI x61) (nI x62) (nI x63) (nI x65) x66 f1 f2 f3 (bN 3 q4) (bN 7 q5) (bN 7 q6) (bN 4 q7) f8 (bN 2 q9) (bH q10) f11 (b2 m12_0 m12_1) (b2 m13_0 m13_1) (b2 m14_0 m14_1) (b2m m15_0 m15_1) f17 (bA 159 q31) f32 z34_28 z35_8 f36 f37 (bN 7 q_29) f_30 f40 f41 (b2 m42_0 m42_1) f43 f44 f47 f48 f49 f50 f51 (bN 13 q54) (bN 120 q55) (bN 120 q56) f57 (bN 120 q58) f59 f60 f64) := by rw [← ef_30]; exact hD
          replace hsp := hsp.trans (slet_eq xf_30)
          refine lv_aload_n hx hb dX9_comes_163 rfl (lv_at hl 1 rfl) ?_
          refine va_get (D := (dC, dI)) (ci := 9) (v := .ref (ad 40)) (C := RX9) (T := TX9) (N := 67) hx hb hts hiX9 hown hK hP 0 rfl rfl 40 (by decide) v_26 (fun _ h9 => h9) rfl dX9_comes_164 ?_
          refine lv_iload hx hb dX9_comes_167 (lv_at hl 0 rfl) ?_
          refine lv_iload hx hb dX9_comes_169 (lv_at hl 5 rfl) ?_
          refine va_iast hx hb hK hP hD hS 25 24 rfl rfl (vp_in_nI (n := m42_0) (Nat.lt_of_le_of_lt hm42_0 (Nat.le_of_ble_eq_true rfl)) (Nat.le_of_ble_eq_true rfl)) dX9_comes_171 (fun H locs hP hD hS => ?_)
          obtain ⟨f_31, ef_31, xf_31⟩ := up_x f40 (n := m42_0) (-1) (Nat.lt_of_le_of_lt hm42_0 (Nat.le_of_ble_eq_true rfl))
          have hP : va_P (dC, dI) vwCl (mo_w ad ck x0 (nI x16) (nI x18) (nI x19) x20 (nI x21) (nI x22) x23 x24 x25 (nI x26) x27 (nI x28) (nI x29) (nI x30) (nI x33) x45 (nI x46) (nI x52) (nI x53) (nI x61) (nI x62) (nI x63) (nI x65) x66 f1 f2 f3 (bN 3 q4) (bN 7 q5) (bN 7 q6) (bN 4 q7) f8 (bN 2 q9) (bH q10) f11 (b2 m12_0 m12_1) (b2 m13_0 m13_1) (b2 m14_0 m14_1) (b2m m15_0 m15_1) f17 (bA 159 q31) f32 z34_28 z35_8 f36 f37 (bN 7 q_29) f_30 f_31 f41 (b2 m42_0 m42_1) f43 f44 f47 f48 f49 f50 f51 (bN 13 q54) (bN 120 q55) (bN 120 q56) f57 (bN 120 q58) f59 f60 f64) H := by rw [← ef_31]; exact hP
          have hD : va_D A (mo_w ad ck x0 (nI x16) (nI x18) (nI x19) x20 (nI x21) (nI x22) x23 x24 x25 (nI x26) x27 (nI x28) (nI x29) (nI x30) (nI x33) x45 (nI x46) (nI x52) (nI x53) (nI x61) (nI x62) (nI x63) (nI x65) x66 f1 f2 f3 (bN 3 q4) (bN 7 q5) (bN 7 q6) (bN 4 q7) f8 (bN 2 q9) (bH q10) f11 (b2 m12_0 m12_1) (b2 m13_0 m13_1) (b2 m14_0 m14_1) (b2m m15_0 m15_1) f17 (bA 159 q31) f32 z34_28 z35_8 f36 f37 (bN 7 q_29) f_30 f_31 f41 (b2 m42_0 m42_1) f43 f44 f47 f48 f49 f50 f51 (bN 13 q54) (bN 120 q55) (bN 120 q56) f57 (bN 120 q58) f59 f60 f64) := by rw [← ef_31]; exact hD
          replace hsp := hsp.trans (slet_eq xf_31)
          refine lv_aload_n hx hb dX9_comes_172 rfl (lv_at hl 1 rfl) ?_
          refine va_get (D := (dC, dI)) (ci := 9) (v := .ref (ad 41)) (C := RX9) (T := TX9) (N := 67) hx hb hts hiX9 hown hK hP 0 rfl rfl 41 (by decide) v_27 (fun _ h9 => h9) rfl dX9_comes_173 ?_
          refine lv_iload hx hb dX9_comes_176 (lv_at hl 0 rfl) ?_
          refine lv_iload_n hx hb dX9_comes_178 rfl (lv_at hl 4 rfl) ?_
          refine lv_iconst (v := (-1)) hx hb dX9_comes_179 (by decide) ?_
          refine lv_icmp_ne (tgt := 187) hx hb dX9_comes_180 (by decide) (fun z => absurd z (by decide)) (fun _ => ?_)
          refine lv_iconst (v := 0) hx hb dX9_comes_183 (by decide) ?_
          refine lv_goto (tgt := 199) hx hb dX9_comes_184 (by decide) ?_
          refine va_iast hx hb hK hP hD hS 26 25 rfl rfl (vp_in_nI (n := m42_0) (Nat.lt_of_le_of_lt hm42_0 (Nat.le_of_ble_eq_true rfl)) (Nat.le_of_ble_eq_true rfl)) dX9_comes_199 (fun H locs hP hD hS => ?_)
          obtain ⟨f_32, ef_32, xf_32⟩ := up_x f41 (n := m42_0) 0 (Nat.lt_of_le_of_lt hm42_0 (Nat.le_of_ble_eq_true rfl))
          have hP : va_P (dC, dI) vwCl (mo_w ad ck x0 (nI x16) (nI x18) (nI x19) x20 (nI x21) (nI x22) x23 x24 x25 (nI x26) x27 (nI x28) (nI x29) (nI x30) (nI x33) x45 (nI x46) (nI x52) (nI x53) (nI x61) (nI x62) (nI x63) (nI x65) x66 f1 f2 f3 (bN 3 q4) (bN 7 q5) (bN 7 q6) (bN 4 q7) f8 (bN 2 q9) (bH q10) f11 (b2 m12_0 m12_1) (b2 m13_0 m13_1) (b2 m14_0 m14_1) (b2m m15_0 m15_1) f17 (bA 159 q31) f32 z34_28 z35_8 f36 f37 (bN 7 q_29) f_30 f_31 f_32 (b2 m42_0 m42_1) f43 f44 f47 f48 f49 f50 f51 (bN 13 q54) (bN 120 q55) (bN 120 q56) f57 (bN 120 q58) f59 f60 f64) H := by rw [← ef_32]; exact hP
          have hD : va_D A (mo_w ad ck x0 (nI x16) (nI x18) (nI x19) x20 (nI x21) (nI x22) x23 x24 x25 (nI x26) x27 (nI x28) (nI x29) (nI x30) (nI x33) x45 (nI x46) (nI x52) (nI x53) (nI x61) (nI x62) (nI x63) (nI x65) x66 f1 f2 f3 (bN 3 q4) (bN 7 q5) (bN 7 q6) (bN 4 q7) f8 (bN 2 q9) (bH q10) f11 (b2 m12_0 m12_1) (b2 m13_0 m13_1) (b2 m14_0 m14_1) (b2m m15_0 m15_1) f17 (bA 159 q31) f32 z34_28 z35_8 f36 f37 (bN 7 q_29) f_30 f_31 f_32 (b2 m42_0 m42_1) f43 f44 f47 f48 f49 f50 f51 (bN 13 q54) (bN 120 q55) (bN 120 q56) f57 (bN 120 q58) f59 f60 f64) := by rw [← ef_32]; exact hD
          replace hsp := hsp.trans (slet_eq xf_32)
          refine lv_aload_n hx hb dX9_comes_200 rfl (lv_at hl 1 rfl) ?_
          refine va_get (D := (dC, dI)) (ci := 9) (v := .ref (ad 42)) (C := RX9) (T := TX9) (N := 67) hx hb hts hiX9 hown hK hP 0 rfl rfl 42 (by decide) v_15 (fun _ h9 => h9) rfl dX9_comes_201 ?_
          refine lv_iload_n hx hb dX9_comes_204 rfl (lv_at hl 2 rfl) ?_
          refine lv_dup2_11 hx hb dX9_comes_205 rfl rfl ?_
          refine va_iald hx hb hK hP 27 26 rfl rfl (vp_in_nI (n := 0) (Nat.le_of_ble_eq_true rfl) (Nat.le_of_ble_eq_true rfl)) dX9_comes_206 ?_
          refine lv_topi (fun y_33 ey_33 => ?_)
          have qy_33 := ey_33.trans b2_0
          clear ey_33
          obtain rfl : y_33 = nI m42_0 := qy_33
          refine lv_iconst (v := 1) hx hb dX9_comes_207 (by decide) ?_
          refine lv_iadd hx hb dX9_comes_208 ?_
          refine lv_topi (fun y_34 ey_34 => ?_)
          obtain rfl : y_34 = (nI (m42_0 + 1)) := ey_34.trans (nI_add m42_0 1)
          refine va_iast hx hb hK hP hD hS 27 26 rfl rfl (vp_in_nI (n := 0) (Nat.le_of_ble_eq_true rfl) (Nat.le_of_ble_eq_true rfl)) dX9_comes_209 (fun H locs hP hD hS => ?_)
          have hP : va_P (dC, dI) vwCl (mo_w ad ck x0 (nI x16) (nI x18) (nI x19) x20 (nI x21) (nI x22) x23 x24 x25 (nI x26) x27 (nI x28) (nI x29) (nI x30) (nI x33) x45 (nI x46) (nI x52) (nI x53) (nI x61) (nI x62) (nI x63) (nI x65) x66 f1 f2 f3 (bN 3 q4) (bN 7 q5) (bN 7 q6) (bN 4 q7) f8 (bN 2 q9) (bH q10) f11 (b2 m12_0 m12_1) (b2 m13_0 m13_1) (b2 m14_0 m14_1) (b2m m15_0 m15_1) f17 (bA 159 q31) f32 z34_28 z35_8 f36 f37 (bN 7 q_29) f_30 f_31 f_32 (b2 (m42_0 + 1) m42_1) f43 f44 f47 f48 f49 f50 f51 (bN 13 q54) (bN 120 q55) (bN 120 q56) f57 (bN 120 q58) f59 f60 f64) H := by rw [← b2_up0 (a := m42_0) (b := m42_1) (v := (m42_0 + 1))]; exact hP
          have hD : va_D A (mo_w ad ck x0 (nI x16) (nI x18) (nI x19) x20 (nI x21) (nI x22) x23 x24 x25 (nI x26) x27 (nI x28) (nI x29) (nI x30) (nI x33) x45 (nI x46) (nI x52) (nI x53) (nI x61) (nI x62) (nI x63) (nI x65) x66 f1 f2 f3 (bN 3 q4) (bN 7 q5) (bN 7 q6) (bN 4 q7) f8 (bN 2 q9) (bH q10) f11 (b2 m12_0 m12_1) (b2 m13_0 m13_1) (b2 m14_0 m14_1) (b2m m15_0 m15_1) f17 (bA 159 q31) f32 z34_28 z35_8 f36 f37 (bN 7 q_29) f_30 f_31 f_32 (b2 (m42_0 + 1) m42_1) f43 f44 f47 f48 f49 f50 f51 (bN 13 q54) (bN 120 q55) (bN 120 q56) f57 (bN 120 q58) f59 f60 f64) := by rw [← b2_up0 (a := m42_0) (b := m42_1) (v := (m42_0 + 1))]; exact hD
          exact W.vret hx hb hr (fun t ht hW => ⟨⟨(), rfl, trivial, ⟨z34_28, z35_8, q_29, f_30, f_31, f_32, f44, (m42_0 + 1), ⟨by rw [ht]; exact hP, va_K.moved hW.alike hK, hD⟩, (by omega), by simp only [xf_30, xf_31, xf_32]; exact gz_firstx hgr (by omega), by omega, (hsp.symm.trans hRR)⟩⟩, hS.F ht⟩) hS.2.2 dX9_comes_210
        · have hcc_23 := c_23
          replace hsp := hsp.trans (if_neg c_23)
          refine lv_aload_n hx hb dX9_comes_110 rfl (lv_at hl 0 rfl) ?_
          refine va_get (D := (dC, dI)) (ci := 9) (v := .ref (ad 44)) (C := RX9) (T := TX9) (N := 67) hx hb hts hiX9 hown hK hP 0 rfl rfl 44 (by decide) v_16 (fun _ h9 => h9) rfl dX9_comes_111 ?_
          refine lv_iload_n hx hb dX9_comes_114 rfl (lv_at hl 1 rfl) ?_
          refine lv_iconst (v := 1) hx hb dX9_comes_115 (by decide) ?_
          refine va_zast hx hb hK hP hD hS 29 28 rfl rfl (vp_in_nI (n := 0) (Nat.le_of_ble_eq_true rfl) (Nat.le_of_ble_eq_true rfl)) dX9_comes_116 (fun H locs hP hD hS => ?_)
          obtain ⟨f_35, ef_35, xf_35⟩ := up_x f44 (n := 0) (vp_nar .boolean 1) (Nat.le_of_ble_eq_true rfl)
          have hP : va_P (dC, dI) vwCl (mo_w ad ck x0 (nI x16) (nI x18) (nI x19) x20 (nI x21) (nI x22) x23 x24 x25 (nI x26) x27 (nI x28) (nI x29) (nI x30) (nI x33) x45 (nI x46) (nI x52) (nI x53) (nI x61) (nI x62) (nI x63) (nI x65) x66 f1 f2 f3 (bN 3 q4) (bN 7 q5) (bN 7 q6) (bN 4 q7) f8 (bN 2 q9) (bH q10) f11 (b2 m12_0 m12_1) (b2 m13_0 m13_1) (b2 m14_0 m14_1) (b2m m15_0 m15_1) f17 (bA 159 q31) f32 f34 z35_8 f36 f37 (bN 7 q38) f39 f40 f41 (b2 m42_0 m42_1) f43 f_35 f47 f48 f49 f50 f51 (bN 13 q54) (bN 120 q55) (bN 120 q56) f57 (bN 120 q58) f59 f60 f64) H := by rw [← ef_35]; exact hP
          have hD : va_D A (mo_w ad ck x0 (nI x16) (nI x18) (nI x19) x20 (nI x21) (nI x22) x23 x24 x25 (nI x26) x27 (nI x28) (nI x29) (nI x30) (nI x33) x45 (nI x46) (nI x52) (nI x53) (nI x61) (nI x62) (nI x63) (nI x65) x66 f1 f2 f3 (bN 3 q4) (bN 7 q5) (bN 7 q6) (bN 4 q7) f8 (bN 2 q9) (bH q10) f11 (b2 m12_0 m12_1) (b2 m13_0 m13_1) (b2 m14_0 m14_1) (b2m m15_0 m15_1) f17 (bA 159 q31) f32 f34 z35_8 f36 f37 (bN 7 q38) f39 f40 f41 (b2 m42_0 m42_1) f43 f_35 f47 f48 f49 f50 f51 (bN 13 q54) (bN 120 q55) (bN 120 q56) f57 (bN 120 q58) f59 f60 f64) := by rw [← ef_35]; exact hD
          replace hsp := hsp.trans (slet_eq xf_35)
          exact W.vret hx hb hr (fun t ht hW => ⟨⟨(), rfl, trivial, ⟨f34, z35_8, q38, f39, f40, f41, f_35, m42_0, ⟨by rw [ht]; exact hP, va_K.moved hW.alike hK, hD⟩, hm42_0, hgr, by omega, (hsp.symm.trans hRR)⟩⟩, hS.F ht⟩) hS.2.2 dX9_comes_117
    · have c_18 : ¬ m42_0 ≤ g_10 := fun z => c_18 ((nI_leI (a := m42_0) (b := g_10) (Nat.lt_of_le_of_lt hm42_0 (Nat.le_of_ble_eq_true rfl)) (Nat.lt_of_le_of_lt hg_10 (Nat.le_of_ble_eq_true rfl))).mpr z)
      replace hsp := hsp.trans (if_neg c_18)
      refine lv_iload_n hx hb dX9_comes_41 rfl (lv_at hl 1 rfl) ?_
      refine lv_iload hx hb dX9_comes_42 (lv_at hl 8 rfl) ?_
      refine va_calli (va_runS (As := [.int 0, .int (nI g_10)]) (rest := []) ⟨hx, hb, hml, hown, hts⟩ (c_EM_spotOf_0 l dC dI _ ad ck x0 x16 x18 x19 x20 x21 x22 x23 x24 x25 x26 x27 x28 x29 x30 x33 x45 x46 x52 x53 x61 x62 x63 x65 x66 f1 f2 f3 q4 q5 q6 q7 f8 q9 q10 f11 m12_0 m12_1 m13_0 m13_1 m14_0 m14_1 m15_0 m15_1 f17 q31 f32 f34 z35_8 f36 f37 q38 f39 f40 f41 m42_0 m42_1 f43 f44 f47 f48 f49 f50 f51 q54 q55 q56 f57 q58 f59 f60 f64 g_10 hx16 hx18 hx19 hx21 hx22 hx26 hx28 hx29 hx30 hx33 hx46 hx52 hx53 hx61 hx62 hx63 hx65 hm12_0 hm12_1 hm13_0 hm13_1 hm14_0 hm14_1 hm15_0 hm15_1 hm42_0 hm42_1 (Nat.le_trans hg_10 (Nat.le_of_ble_eq_true rfl))) (va_cwS 2 hts g_EM_comes_0_120_0_EM_spotOf_0 rfl rfl rfl (by decide +kernel) ⟨Nat.le_of_ble_eq_true rfl, Nat.le_of_ble_eq_true rfl⟩) ⟨pu_bl, pu_in hP hK hD⟩ rfl rfl hl.1 rfl (lv_room (Nat.le_of_ble_eq_true rfl)) dX9_comes_44 ⟨Nat.le_of_ble_eq_true rfl, Nat.le_of_ble_eq_true rfl⟩) hS (fun q _ h => pu_fr hS hA q h) (pu_fr hS hA) (fun r_36 u t H1 locs ht hvm hw hB hz1 hk1 hS => ?_)
      have hP := pu_keep hP hk1
      clear hk1 hz1 ht hvm
      generalize H1 = H at hP hS ⊢
      obtain rfl : r_36 = nI (g_10) := hw
      refine lv_istore (lv' := [(9, .int (nI g_10)), (0, .ref (ad 0)), (1, .int 0), (2, .int (nI a1)), (3, .int (-1)), (4, .int (-1)), (5, .int p4), (6, .int (nI a5)), (7, .int 120), (8, .int (nI g_10))]) hx hb dX9_comes_47 hl (by decide) rfl (fun ls hl => ?_)
      refine lv_aload_n hx hb dX9_comes_49 rfl (lv_at hl 1 rfl) ?_
      refine va_get (D := (dC, dI)) (ci := 9) (v := .ref (ad 38)) (C := RX9) (T := TX9) (N := 67) hx hb hts hiX9 hown hK hP 0 rfl rfl 38 (by decide) v_24 (fun _ h9 => h9) rfl dX9_comes_50 ?_
      refine lv_iload hx hb dX9_comes_53 (lv_at hl 0 rfl) ?_
      refine va_iald hx hb hK hP 23 22 rfl rfl (vp_in_nI (n := g_10) (Nat.lt_of_le_of_lt hg_10 (Nat.le_of_ble_eq_true rfl)) (Nat.le_of_ble_eq_true rfl)) dX9_comes_55 ?_
      refine lv_topi (fun y_37 ey_37 => ?_)
      obtain ⟨u_38, hu_38, qu_38, xu_38⟩ := bN_getx 7 q38 (n := g_10) (Nat.lt_of_le_of_lt hg_10 (Nat.le_of_ble_eq_true rfl))
      obtain rfl : y_37 = nI u_38 := ey_37.trans qu_38
      replace hsp := hsp.trans (slet_eq xu_38)
      refine lv_iload_n hx hb dX9_comes_56 rfl (lv_at hl 3 rfl) ?_
      refine lv_icmp_ne (tgt := 84) hx hb dX9_comes_57 (by decide) (fun c_39 => ?_) (fun c_39 => ?_)
      · have c_39 : ¬ u_38 = a1 := fun z => c_39 ((nI_eq (a := u_38) (b := a1) (Nat.lt_of_le_of_lt hu_38 (Nat.le_of_ble_eq_true rfl)) (Nat.lt_of_le_of_lt ha1 (Nat.le_of_ble_eq_true rfl))).mpr z)
        replace hsp := hsp.trans (if_neg c_39)
        refine lv_iinc (v := (nI (g_10 + 1))) (lv' := [(8, .int (nI (g_10 + 1))), (9, .int (nI g_10)), (0, .ref (ad 0)), (1, .int 0), (2, .int (nI a1)), (3, .int (-1)), (4, .int (-1)), (5, .int p4), (6, .int (nI a5)), (7, .int 120)]) hx hb dX9_comes_84 hl (k := 9) rfl (nI_1 _) (by decide) rfl (fun ls hl => ?_)
        refine lv_goto (tgt := 30) hx hb dX9_comes_87 (by decide) ?_
        exact ih_11 (120 - (g_10 + 1)) (by omega) _ _ _ ⟨(g_10 + 1), rfl, (by omega), hin_15 _ hsp, hP, hD, hS, lv_sub hl [2, 3, 4, 5, 6, 7, 8, 9, 0] rfl⟩
      · have c_39 : u_38 = a1 := (nI_eq (a := u_38) (b := a1) (Nat.lt_of_le_of_lt hu_38 (Nat.le_of_ble_eq_true rfl)) (Nat.lt_of_le_of_lt ha1 (Nat.le_of_ble_eq_true rfl))).mp c_39
        replace hsp := hsp.trans (if_pos c_39)
        refine lv_aload_n hx hb dX9_comes_60 rfl (lv_at hl 1 rfl) ?_
        refine lv_iload hx hb dX9_comes_61 (lv_at hl 0 rfl) ?_
        refine lv_aload_n hx hb dX9_comes_63 rfl (lv_at hl 1 rfl) ?_
        refine va_get (D := (dC, dI)) (ci := 9) (v := .ref (ad 35)) (C := RX9) (T := TX9) (N := 67) hx hb hts hiX9 hown hK hP 0 rfl rfl 35 (by decide) v_6 (fun _ h9 => h9) rfl dX9_comes_64 ?_
        refine lv_iload hx hb dX9_comes_67 (lv_at hl 7 rfl) ?_
        obtain ⟨JR_42, hJR_42, hsp⟩ := slet_ex hsp
        refine pu_join (fun H locs ls st => ∃ (g_40 : Nat), st = [.int (nI g_40), .ref (ad 35), .int (nI g_10), .ref (ad 0)] ∧ g_40 ≤ 1 ∧ g_40 = JR_42 ∧ va_P (dC, dI) vwCl (mo_w ad ck x0 (nI x16) (nI x18) (nI x19) x20 (nI x21) (nI x22) x23 x24 x25 (nI x26) x27 (nI x28) (nI x29) (nI x30) (nI x33) x45 (nI x46) (nI x52) (nI x53) (nI x61) (nI x62) (nI x63) (nI x65) x66 f1 f2 f3 (bN 3 q4) (bN 7 q5) (bN 7 q6) (bN 4 q7) f8 (bN 2 q9) (bH q10) f11 (b2 m12_0 m12_1) (b2 m13_0 m13_1) (b2 m14_0 m14_1) (b2m m15_0 m15_1) f17 (bA 159 q31) f32 f34 z35_8 f36 f37 (bN 7 q38) f39 f40 f41 (b2 m42_0 m42_1) f43 f44 f47 f48 f49 f50 f51 (bN 13 q54) (bN 120 q55) (bN 120 q56) f57 (bN 120 q58) f59 f60 f64) H ∧ va_D A (mo_w ad ck x0 (nI x16) (nI x18) (nI x19) x20 (nI x21) (nI x22) x23 x24 x25 (nI x26) x27 (nI x28) (nI x29) (nI x30) (nI x33) x45 (nI x46) (nI x52) (nI x53) (nI x61) (nI x62) (nI x63) (nI x65) x66 f1 f2 f3 (bN 3 q4) (bN 7 q5) (bN 7 q6) (bN 4 q7) f8 (bN 2 q9) (bH q10) f11 (b2 m12_0 m12_1) (b2 m13_0 m13_1) (b2 m14_0 m14_1) (b2m m15_0 m15_1) f17 (bA 159 q31) f32 f34 z35_8 f36 f37 (bN 7 q38) f39 f40 f41 (b2 m42_0 m42_1) f43 f44 f47 f48 f49 f50 f51 (bN 13 q54) (bN 120 q55) (bN 120 q56) f57 (bN 120 q58) f59 f60 f64) ∧ va_S A s.heap H locs ∧ lv_has ls 10 [(0, .ref (ad 0)), (1, .int 0), (2, .int (nI a1)), (3, .int (-1)), (4, .int (-1)), (5, .int p4), (6, .int (nI a5)), (7, .int 120), (8, .int (nI g_10)), (9, .int (nI g_10))]) 77 ?_ (fun j_41 => ?_)
        · rintro H locs ls st ⟨g_40, rfl, hg_40, he_43, hP, hD, hS, hl⟩
          rw [← he_43] at hsp
          refine va_calli (va_runV (As := [.int (nI g_10), .ref (ad 35), .int (nI g_40)]) (rest := []) ⟨hx, hb, hml, hown, hts⟩ (c_EM_hasAll l dC dI _ ad ck x0 x16 x18 x19 x20 x21 x22 x23 x24 x25 x26 x27 x28 x29 x30 x33 x45 x46 x52 x53 x61 x62 x63 x65 x66 f1 f2 f3 q4 q5 q6 q7 f8 q9 q10 f11 m12_0 m12_1 m13_0 m13_1 m14_0 m14_1 m15_0 m15_1 f17 q31 f32 f34 z35_8 f36 f37 q38 f39 f40 f41 m42_0 m42_1 f43 f44 f47 f48 f49 f50 f51 q54 q55 q56 f57 q58 f59 f60 f64 g_10 g_40 hx16 hx18 hx19 hx21 hx22 hx26 hx28 hx29 hx30 hx33 hx46 hx52 hx53 hx61 hx62 hx63 hx65 hm12_0 hm12_1 hm13_0 hm13_1 hm14_0 hm14_1 hm15_0 hm15_1 hm42_0 hm42_1 (Nat.le_trans hg_10 (Nat.le_of_ble_eq_true rfl)) hg_40) (cwV 3 hts g_EM_comes_0_120_0_EM_hasAll rfl rfl rfl (by decide +kernel) ⟨Nat.le_of_ble_eq_true rfl, Nat.le_of_ble_eq_true rfl⟩) ⟨pu_bl, va_recv hK hP (ci := 9) (q0 := 0) rfl rfl, pu_in hP hK hD⟩ rfl rfl hl.1 rfl (lv_room (Nat.le_of_ble_eq_true rfl)) dX9_comes_77 ⟨Nat.le_of_ble_eq_true rfl, Nat.le_of_ble_eq_true rfl⟩) hS (fun q _ h => pu_fr hS hA q h) (pu_fr hS hA) (fun r_44 u t H1 locs ht hvm hw hB hz1 hk1 hS => ?_)
          have hP := pu_keep hP hk1
          clear hk1 hz1 ht hvm
          generalize H1 = H at hP hS ⊢
          obtain ⟨u_45, hu_45, rfl, iu_45⟩ := hw
          replace hsp := hsp.trans (slet_eq iu_45)
          refine lv_if_eq (tgt := 84) hx hb dX9_comes_80 (by decide) (fun c_46 => ?_) (fun c_46 => ?_)
          · have c_46 : u_45 = 0 := (nI_eq (a := u_45) (b := 0) (Nat.lt_of_le_of_lt hu_45 (Nat.le_of_ble_eq_true rfl)) (Nat.le_of_ble_eq_true rfl)).mp c_46
            replace hsp := hsp.trans (if_pos c_46)
            refine lv_iinc (v := (nI (g_10 + 1))) (lv' := [(8, .int (nI (g_10 + 1))), (0, .ref (ad 0)), (1, .int 0), (2, .int (nI a1)), (3, .int (-1)), (4, .int (-1)), (5, .int p4), (6, .int (nI a5)), (7, .int 120), (9, .int (nI g_10))]) hx hb dX9_comes_84 hl (k := 8) rfl (nI_1 _) (by decide) rfl (fun ls hl => ?_)
            refine lv_goto (tgt := 30) hx hb dX9_comes_87 (by decide) ?_
            exact ih_11 (120 - (g_10 + 1)) (by omega) _ _ _ ⟨(g_10 + 1), rfl, (by omega), hin_15 _ hsp, hP, hD, hS, lv_sub hl [1, 2, 3, 4, 5, 6, 7, 8, 0] rfl⟩
          · have c_46 : ¬ u_45 = 0 := fun z => c_46 ((nI_eq (a := u_45) (b := 0) (Nat.lt_of_le_of_lt hu_45 (Nat.le_of_ble_eq_true rfl)) (Nat.le_of_ble_eq_true rfl)).mpr z)
            replace hsp := hsp.trans (if_neg c_46)
            have hsp := hout_16 _ hsp
            exact W.vret hx hb hr (fun t ht hW => ⟨⟨(), rfl, trivial, ⟨f34, z35_8, q38, f39, f40, f41, f44, m42_0, ⟨by rw [ht]; exact hP, va_K.moved hW.alike hK, hD⟩, hm42_0, hgr, by omega, (hsp.symm.trans hRR)⟩⟩, hS.F ht⟩) hS.2.2 dX9_comes_83
        have hsp := hJR_42
        refine lv_if_ne (tgt := 76) hx hb dX9_comes_69 (by decide) (fun c_47 => ?_) (fun c_47 => ?_)
        · have c_47 : ¬ a5 = 0 := fun z => c_47 ((nI_eq (a := a5) (b := 0) (Nat.lt_of_le_of_lt ha5 (Nat.le_of_ble_eq_true rfl)) (Nat.le_of_ble_eq_true rfl)).mpr z)
          replace hsp := hsp.trans (if_neg c_47)
          refine lv_iconst (v := 0) hx hb dX9_comes_76 (by decide) ?_
          exact j_41 _ _ _ _ ⟨0, rfl, (Nat.le_of_ble_eq_true rfl), hsp.symm, hP, hD, hS, lv_sub hl [1, 2, 3, 4, 5, 6, 7, 8, 9, 0] rfl⟩
        · have c_47 : a5 = 0 := (nI_eq (a := a5) (b := 0) (Nat.lt_of_le_of_lt ha5 (Nat.le_of_ble_eq_true rfl)) (Nat.le_of_ble_eq_true rfl)).mp c_47
          replace hsp := hsp.trans (if_pos c_47)
          refine lv_iconst (v := 1) hx hb dX9_comes_72 (by decide) ?_
          refine lv_goto (tgt := 77) hx hb dX9_comes_73 (by decide) ?_
          exact j_41 _ _ _ _ ⟨1, rfl, (Nat.le_of_ble_eq_true rfl), hsp.symm, hP, hD, hS, lv_sub hl [1, 2, 3, 4, 5, 6, 7, 8, 9, 0] rfl⟩
  have hsp := hJR_5
  refine lv_if_ne (tgt := 17) hx hb dX9_comes_5 (by decide) (fun c_48 => ?_) (fun c_48 => ?_)
  · have c_48 : ¬ u_2 = 0 := fun z => c_48 ((nI_eq (a := u_2) (b := 0) (Nat.lt_of_le_of_lt hu_2 (Nat.le_of_ble_eq_true rfl)) (Nat.le_of_ble_eq_true rfl)).mpr z)
    replace hsp := hsp.trans (if_neg c_48)
    exact j_4 _ _ _ _ ⟨f35, rfl, hsp.symm, hP, hD, hS, lv_sub hl [0, 1, 2, 3, 4, 5, 6, 7] rfl⟩
  · have c_48 : u_2 = 0 := (nI_eq (a := u_2) (b := 0) (Nat.lt_of_le_of_lt hu_2 (Nat.le_of_ble_eq_true rfl)) (Nat.le_of_ble_eq_true rfl)).mp c_48
    replace hsp := hsp.trans (if_pos c_48)
    refine lv_aload_n hx hb dX9_comes_8 rfl (lv_at hl 0 rfl) ?_
    refine lv_aload_n hx hb dX9_comes_9 rfl (lv_at hl 0 rfl) ?_
    refine va_get (D := (dC, dI)) (ci := 9) (v := .ref (ad 35)) (C := RX9) (T := TX9) (N := 67) hx hb hts hiX9 hown hK hP 0 rfl rfl 35 (by decide) v_6 (fun _ h9 => h9) rfl dX9_comes_10 ?_
    refine lv_iload_n hx hb dX9_comes_13 rfl (lv_at hl 2 rfl) ?_
    have hFc := pu_free hD hS hA
    refine va_callv (va_runV (As := [.ref (ad 35), .int (nI a1)]) (rest := []) ⟨hx, hb, hml, hown, hts⟩ (c_EM_delays l dC dI _ ad ck x0 x16 x18 x19 x20 x21 x22 x23 x24 x25 x26 x27 x28 x29 x30 x33 x45 x46 x52 x53 x61 x62 x63 x65 x66 f1 f2 f3 q4 q5 q6 q7 f8 q9 q10 f11 m12_0 m12_1 m13_0 m13_1 m14_0 m14_1 m15_0 m15_1 f17 q31 f32 f34 f35 f36 f37 q38 f39 f40 f41 m42_0 m42_1 f43 f44 f47 f48 f49 f50 f51 q54 q55 q56 f57 q58 f59 f60 f64 a1 hx16 hx18 hx19 hx21 hx22 hx26 hx28 hx29 hx30 hx33 hx46 hx52 hx53 hx61 hx62 hx63 hx65 hm12_0 hm12_1 hm13_0 hm13_1 hm14_0 hm14_1 hm15_0 hm15_1 hm42_0 hm42_1 ha1) (cwV 2 hts g_EM_comes_0_120_0_EM_delays rfl rfl rfl (by decide +kernel) ⟨Nat.le_of_ble_eq_true rfl, Nat.le_of_ble_eq_true rfl⟩) ⟨pu_bl, va_recv hK hP (ci := 9) (q0 := 0) rfl rfl, pu_in hP hK hD⟩ rfl rfl hl.1 rfl (lv_room (Nat.le_of_ble_eq_true rfl)) dX9_comes_14 ⟨Nat.le_of_ble_eq_true rfl, Nat.le_of_ble_eq_true rfl⟩) hS (fun q _ h => hFc q h) hFc (fun u t H1 locs ht hvm hw hB hz1 hk1 hS => ?_)
    obtain ⟨z35_50, ⟨hP1, -, hD1⟩, xr_49_0⟩ := hB
    rw [ht] at hP1
    have hP := hP1
    have hD := pu_all hFc hD1
    clear hP1 hD1 hFc
    clear hk1 hz1 ht hvm
    generalize H1 = H at hP hS ⊢
    replace hsp := hsp.trans (slet_eq xr_49_0)
    exact j_4 _ _ _ _ ⟨z35_50, rfl, hsp.symm, hP, hD, hS, lv_sub hl [0, 1, 2, 3, 4, 5, 6, 7] rfl⟩
