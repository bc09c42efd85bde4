theorem dX9_layPoint_0 : decode cX9_layPoint 0 = .ok (.iconst 0, 1) := by decide +kernel
theorem dX9_layPoint_1 : decode cX9_layPoint 1 = .ok (.istore 4, 2) := by decide +kernel
theorem dX9_layPoint_3 : decode cX9_layPoint 3 = .ok (.iload 4, 2) := by decide +kernel
theorem dX9_layPoint_5 : decode cX9_layPoint 5 = .ok (.iconst 5, 1) := by decide +kernel
theorem dX9_layPoint_6 : decode cX9_layPoint 6 = .ok (.if_icmp .ge 111, 3) := by decide +kernel
theorem dX9_layPoint_9 : decode cX9_layPoint 9 = .ok (.iconst 0, 1) := by decide +kernel
theorem dX9_layPoint_10 : decode cX9_layPoint 10 = .ok (.istore 5, 2) := by decide +kernel
theorem dX9_layPoint_12 : decode cX9_layPoint 12 = .ok (.iload 5, 2) := by decide +kernel
theorem dX9_layPoint_14 : decode cX9_layPoint 14 = .ok (.iconst 5, 1) := by decide +kernel
theorem dX9_layPoint_15 : decode cX9_layPoint 15 = .ok (.if_icmp .ge 96, 3) := by decide +kernel
theorem dX9_layPoint_18 : decode cX9_layPoint 18 = .ok (.iload 4, 2) := by decide +kernel
theorem dX9_layPoint_20 : decode cX9_layPoint 20 = .ok (.iconst 1, 1) := by decide +kernel
theorem dX9_layPoint_21 : decode cX9_layPoint 21 = .ok (.if_icmp .ne 7, 3) := by decide +kernel
theorem dX9_layPoint_24 : decode cX9_layPoint 24 = .ok (.iload_n 1, 1) := by decide +kernel
theorem dX9_layPoint_25 : decode cX9_layPoint 25 = .ok (.goto 24, 3) := by decide +kernel
theorem dX9_layPoint_28 : decode cX9_layPoint 28 = .ok (.iload 4, 2) := by decide +kernel
theorem dX9_layPoint_30 : decode cX9_layPoint 30 = .ok (.iconst 2, 1) := by decide +kernel
theorem dX9_layPoint_31 : decode cX9_layPoint 31 = .ok (.if_icmp .ne 7, 3) := by decide +kernel
theorem dX9_layPoint_34 : decode cX9_layPoint 34 = .ok (.iload_n 2, 1) := by decide +kernel
theorem dX9_layPoint_35 : decode cX9_layPoint 35 = .ok (.goto 14, 3) := by decide +kernel
theorem dX9_layPoint_38 : decode cX9_layPoint 38 = .ok (.iload 4, 2) := by decide +kernel
theorem dX9_layPoint_40 : decode cX9_layPoint 40 = .ok (.iconst 3, 1) := by decide +kernel
theorem dX9_layPoint_41 : decode cX9_layPoint 41 = .ok (.if_icmp .ne 7, 3) := by decide +kernel
theorem dX9_layPoint_44 : decode cX9_layPoint 44 = .ok (.iload_n 3, 1) := by decide +kernel
theorem dX9_layPoint_45 : decode cX9_layPoint 45 = .ok (.goto 4, 3) := by decide +kernel
theorem dX9_layPoint_48 : decode cX9_layPoint 48 = .ok (.iconst 0, 1) := by decide +kernel
theorem dX9_layPoint_49 : decode cX9_layPoint 49 = .ok (.istore 6, 2) := by decide +kernel
theorem dX9_layPoint_51 : decode cX9_layPoint 51 = .ok (.iload 5, 2) := by decide +kernel
theorem dX9_layPoint_53 : decode cX9_layPoint 53 = .ok (.iconst 1, 1) := by decide +kernel
theorem dX9_layPoint_54 : decode cX9_layPoint 54 = .ok (.if_icmp .ne 7, 3) := by decide +kernel
theorem dX9_layPoint_57 : decode cX9_layPoint 57 = .ok (.iload_n 1, 1) := by decide +kernel
theorem dX9_layPoint_58 : decode cX9_layPoint 58 = .ok (.goto 24, 3) := by decide +kernel
theorem dX9_layPoint_61 : decode cX9_layPoint 61 = .ok (.iload 5, 2) := by decide +kernel
theorem dX9_layPoint_63 : decode cX9_layPoint 63 = .ok (.iconst 2, 1) := by decide +kernel
theorem dX9_layPoint_64 : decode cX9_layPoint 64 = .ok (.if_icmp .ne 7, 3) := by decide +kernel
theorem dX9_layPoint_67 : decode cX9_layPoint 67 = .ok (.iload_n 2, 1) := by decide +kernel
theorem dX9_layPoint_68 : decode cX9_layPoint 68 = .ok (.goto 14, 3) := by decide +kernel
theorem dX9_layPoint_71 : decode cX9_layPoint 71 = .ok (.iload 5, 2) := by decide +kernel
theorem dX9_layPoint_73 : decode cX9_layPoint 73 = .ok (.iconst 3, 1) := by decide +kernel
theorem dX9_layPoint_74 : decode cX9_layPoint 74 = .ok (.if_icmp .ne 7, 3) := by decide +kernel
theorem dX9_layPoint_77 : decode cX9_layPoint 77 = .ok (.iload_n 3, 1) := by decide +kernel
theorem dX9_layPoint_78 : decode cX9_layPoint 78 = .ok (.goto 4, 3) := by decide +kernel
theorem dX9_layPoint_81 : decode cX9_layPoint 81 = .ok (.iconst 0, 1) := by decide +kernel
theorem dX9_layPoint_82 : decode cX9_layPoint 82 = .ok (.istore 7, 2) := by decide +kernel
theorem dX9_layPoint_84 : decode cX9_layPoint 84 = .ok (.aload_n 0, 1) := by decide +kernel
theorem dX9_layPoint_85 : decode cX9_layPoint 85 = .ok (.getfield 71, 3) := by decide +kernel
theorem dX9_layPoint_88 : decode cX9_layPoint 88 = .ok (.iconst 5, 1) := by decide +kernel
theorem dX9_layPoint_89 : decode cX9_layPoint 89 = .ok (.iload 4, 2) := by decide +kernel
theorem dX9_layPoint_91 : decode cX9_layPoint 91 = .ok (.imul, 1) := by decide +kernel
theorem dX9_layPoint_92 : decode cX9_layPoint 92 = .ok (.iload 5, 2) := by decide +kernel
theorem dX9_layPoint_94 : decode cX9_layPoint 94 = .ok (.iadd, 1) := by decide +kernel
theorem dX9_layPoint_95 : decode cX9_layPoint 95 = .ok (.iconst 2, 1) := by decide +kernel
theorem dX9_layPoint_96 : decode cX9_layPoint 96 = .ok (.iload 6, 2) := by decide +kernel
theorem dX9_layPoint_98 : decode cX9_layPoint 98 = .ok (.iload 7, 2) := by decide +kernel
theorem dX9_layPoint_100 : decode cX9_layPoint 100 = .ok (.isub, 1) := by decide +kernel
theorem dX9_layPoint_101 : decode cX9_layPoint 101 = .ok (.imul, 1) := by decide +kernel
theorem dX9_layPoint_102 : decode cX9_layPoint 102 = .ok (.iconst 1, 1) := by decide +kernel
theorem dX9_layPoint_103 : decode cX9_layPoint 103 = .ok (.iadd, 1) := by decide +kernel
theorem dX9_layPoint_104 : decode cX9_layPoint 104 = .ok (.iastore, 1) := by decide +kernel
theorem dX9_layPoint_105 : decode cX9_layPoint 105 = .ok (.iinc 5 1, 3) := by decide +kernel
theorem dX9_layPoint_108 : decode cX9_layPoint 108 = .ok (.goto (-96), 3) := by decide +kernel
theorem dX9_layPoint_111 : decode cX9_layPoint 111 = .ok (.iinc 4 1, 3) := by decide +kernel
theorem dX9_layPoint_114 : decode cX9_layPoint 114 = .ok (.goto (-111), 3) := by decide +kernel
theorem dX9_layPoint_117 : decode cX9_layPoint 117 = .ok (.return_, 1) := by decide +kernel
abbrev vs_EM_layPoint : List Cond := .code yX9_layPoint cX9_layPoint 8 none :: VM
noncomputable def sp_EM_layPoint_L1 (p0 : Int32) (p1 : Int32) (p2 : Int32) (g_4 : Nat) : ((Nat → Int32) × Nat) → ((Nat → Int32) × Nat) ⊕ (((Nat → Int32) × Nat) ⊕ ((Nat → Int32))) := fun (g_14, g_15) => (if 5 ≤ g_15 then (Sum.inr (Sum.inl (g_14, (g_4 + 1)))) else (slet (α := Int32) (if g_4 = 1 then p0 else (if g_4 = 2 then p1 else (if g_4 = 3 then p2 else 0))) (fun g_23 => (slet (α := Int32) (if g_15 = 1 then p0 else (if g_15 = 2 then p1 else (if g_15 = 3 then p2 else 0))) (fun g_27 => (slet ((g_23 : Int32) - g_27) (fun y_33 => (slet ((2 : Int32) * y_33) (fun y_34 => (slet ((y_34 : Int32) + 1) (fun y_35 => (slet (upd g_14 ((5 * g_4) + g_15) y_35) (fun f_36 => (Sum.inl (f_36, (g_15 + 1))))))))))))))))
noncomputable def sp_EM_layPoint_L2 (p0 : Int32) (p1 : Int32) (p2 : Int32) : ((Nat → Int32) × Nat) → ((Nat → Int32) × Nat) ⊕ ((Nat → Int32)) := fun (g_3, g_4) => (if 5 ≤ g_4 then (Sum.inr g_3) else (itrv (α := (Nat → Int32) × Nat) (β := (((Nat → Int32) × Nat) ⊕ ((Nat → Int32)))) (Sum.inr default) (sp_EM_layPoint_L1 p0 p1 p2 g_4) (g_3, 0)))
noncomputable def sp_EM_layPoint (f35 : Nat → Int32) (p0 : Int32) (p1 : Int32) (p2 : Int32) : (Nat → Int32) := (itrv (α := (Nat → Int32) × Nat) (β := ((Nat → Int32))) default (sp_EM_layPoint_L2 p0 p1 p2) (f35, 0))
set_option maxHeartbeats 4000000 in
set_option maxRecDepth 100000 in
theorem c_EM_layPoint (l : Launch) (dC : Nat → ClassId) (dI : Nat → Nat → Nat) (sz : Nat) (ad : Nat → Nat) (ck : Nat → ClassId) (x0 : Int32) (x16 : Nat) (x18 : Nat) (x19 : Nat) (x20 : Int32) (x21 : Nat) (x22 : Nat) (x23 : Int32) (x24 : Int32) (x25 : Int32) (x26 : Nat) (x27 : Int32) (x28 : Nat) (x29 : Nat) (x30 : Nat) (x33 : Nat) (x45 : Int32) (x46 : Nat) (x52 : Nat) (x53 : Nat) (x61 : Nat) (x62 : Nat) (x63 : Nat) (x65 : Nat) (x66 : Int32) (f1 : Nat → Int32) (f2 : Nat → Int32) (f3 : Nat → Int32) (q4 : Nat → Nat) (q5 : Nat → Nat) (q6 : Nat → Nat) (q7 : Nat → Nat) (f8 : Nat → Int32) (q9 : Nat → Nat) (q10 : Nat → Nat) (f11 : Nat → Int32) (m12_0 m12_1 : Nat) (m13_0 m13_1 : Nat) (m14_0 m14_1 : Nat) (m15_0 m15_1 : Nat) (f17 : Nat → Int32) (q31 : Nat → Nat) (f32 : Nat → Int32) (f34 : Nat → Int32) (f35 : Nat → Int32) (f36 : Nat → Int32) (f37 : Nat → Int32) (q38 : Nat → Nat) (f39 : Nat → Int32) (f40 : Nat → Int32) (f41 : Nat → Int32) (m42_0 m42_1 : Nat) (f43 : Nat → Int32) (f44 : Nat → Int32) (f47 : Nat → Int32) (f48 : Nat → Int32) (f49 : Nat → Int32) (f50 : Nat → Int32) (f51 : Nat → Int32) (q54 : Nat → Nat) (q55 : Nat → Nat) (q56 : Nat → Nat) (f57 : Nat → Int32) (q58 : Nat → Nat) (f59 : Nat → Int32) (f60 : Nat → Int32) (f64 : Nat → Int32) (p0 : Int32) (p1 : Int32) (p2 : Int32) (hx16 : x16 ≤ 1) (hx18 : x18 ≤ 900) (hx19 : x19 ≤ 900) (hx21 : x21 ≤ 900) (hx22 : x22 ≤ 4) (hx26 : x26 ≤ 6) (hx28 : x28 ≤ 1) (hx29 : x29 ≤ 1) (hx30 : x30 ≤ 1) (hx33 : x33 ≤ 20) (hx46 : x46 ≤ 5) (hx52 : x52 ≤ 2400) (hx53 : x53 ≤ 119) (hx61 : x61 ≤ 119) (hx62 : x62 ≤ 2000) (hx63 : x63 ≤ 1) (hx65 : x65 ≤ 7) (hm12_0 : m12_0 ≤ 3) (hm12_1 : m12_1 ≤ 3) (hm13_0 : m13_0 ≤ 8) (hm13_1 : m13_1 ≤ 8) (hm14_0 : m14_0 ≤ 14) (hm14_1 : m14_1 ≤ 14) (hm15_0 : m15_0 ≤ 8) (hm15_1 : m15_1 ≤ 8) (hm42_0 : m42_0 ≤ 120) (hm42_1 : m42_1 ≤ 400) : Met l yX9_layPoint vs_EM_layPoint ({ frames := 0, cells := 0, slots := 0, locals := 0 }) (va_Pc [.ref (ad 0), .int p0, .int p1, .int p2] (pu_B (dC, dI) (mo_w ad ck x0 (nI x16) (nI x18) (nI x19) x20 (nI x21) (nI x22) x23 x24 x25 (nI x26) x27 (nI x28) (nI x29) (nI x30) (nI x33) x45 (nI x46) (nI x52) (nI x53) (nI x61) (nI x62) (nI x63) (nI x65) x66 f1 f2 f3 (bN 3 q4) (bN 7 q5) (bN 7 q6) (bN 4 q7) f8 (bN 2 q9) (bH q10) f11 (b2 m12_0 m12_1) (b2 m13_0 m13_1) (b2 m14_0 m14_1) (b2m m15_0 m15_1) f17 (bA 159 q31) f32 f34 f35 f36 f37 (bN 7 q38) f39 f40 f41 (b2 m42_0 m42_1) f43 f44 f47 f48 f49 f50 f51 (bN 13 q54) (bN 120 q55) (bN 120 q56) f57 (bN 120 q58) f59 f60 f64) (mo_t ck) sz)) (va_Qv (fun (_ : Unit) => True) (fun _ t => ∃ (z35 : Nat → Int32), pu_E (dC, dI) (mo_w ad ck x0 (nI x16) (nI x18) (nI x19) x20 (nI x21) (nI x22) x23 x24 x25 (nI x26) x27 (nI x28) (nI x29) (nI x30) (nI x33) x45 (nI x46) (nI x52) (nI x53) (nI x61) (nI x62) (nI x63) (nI x65) x66 f1 f2 f3 (bN 3 q4) (bN 7 q5) (bN 7 q6) (bN 4 q7) f8 (bN 2 q9) (bH q10) f11 (b2 m12_0 m12_1) (b2 m13_0 m13_1) (b2 m14_0 m14_1) (b2m m15_0 m15_1) f17 (bA 159 q31) f32 f34 z35 f36 f37 (bN 7 q38) f39 f40 f41 (b2 m42_0 m42_1) f43 f44 f47 f48 f49 f50 f51 (bN 13 q54) (bN 120 q55) (bN 120 q56) f57 (bN 120 q58) f59 f60 f64) (mo_t ck) (va_A ((mo_w ad ck x0 (nI x16) (nI x18) (nI x19) x20 (nI x21) (nI x22) x23 x24 x25 (nI x26) x27 (nI x28) (nI x29) (nI x30) (nI x33) x45 (nI x46) (nI x52) (nI x53) (nI x61) (nI x62) (nI x63) (nI x65) x66 f1 f2 f3 (bN 3 q4) (bN 7 q5) (bN 7 q6) (bN 4 q7) f8 (bN 2 q9) (bH q10) f11 (b2 m12_0 m12_1) (b2 m13_0 m13_1) (b2 m14_0 m14_1) (b2m m15_0 m15_1) f17 (bA 159 q31) f32 f34 f35 f36 f37 (bN 7 q38) f39 f40 f41 (b2 m42_0 m42_1) f43 f44 f47 f48 f49 f50 f51 (bN 13 q54) (bN 120 q55) (bN 120 q56) f57 (bN 120 q58) f59 f60 f64)) sz) t ∧ (z35 = (sp_EM_layPoint f35 p0 p1 p2))) (va_A ((mo_w ad ck x0 (nI x16) (nI x18) (nI x19) x20 (nI x21) (nI x22) x23 x24 x25 (nI x26) x27 (nI x28) (nI x29) (nI x30) (nI x33) x45 (nI x46) (nI x52) (nI x53) (nI x61) (nI x62) (nI x63) (nI x65) x66 f1 f2 f3 (bN 3 q4) (bN 7 q5) (bN 7 q6) (bN 4 q7) f8 (bN 2 q9) (bH q10) f11 (b2 m12_0 m12_1) (b2 m13_0 m13_1) (b2 m14_0 m14_1) (b2m m15_0 m15_1) f17 (bA 159 q31) f32 f34 f35 f36 f37 (bN 7 q38) f39 f40 f41 (b2 m42_0 m42_1) f43 f44 f47 f48 f49 f50 f51 (bN 13 q54) (bN 120 q55) (bN 120 q56) f57 (bN 120 q58) f59 f60 f64)) sz)) 0 0 (va_A ((mo_w ad ck x0 (nI x16) (nI x18) (nI x19) x20 (nI x21) (nI x22) x23 x24 x25 (nI x26) x27 (nI x28) (nI x29) (nI x30) (nI x33) x45 (nI x46) (nI x52) (nI x53) (nI x61) (nI x62) (nI x63) (nI x65) x66 f1 f2 f3 (bN 3 q4) (bN 7 q5) (bN 7 q6) (bN 4 q7) f8 (bN 2 q9) (bH q10) f11 (b2 m12_0 m12_1) (b2 m13_0 m13_1) (b2 m14_0 m14_1) (b2m m15_0 m15_1) f17 (bA 159 q31) f32 f34 f35 f36 f37 (bN 7 q38) f39 f40 f41 (b2 m42_0 m42_1) f43 f44 f47 f48 f49 f50 f51 (bN 13 q54) (bN 120 q55) (bN 120 q56) f57 (bN 120 q58) f59 f60 f64)) sz) := by
  refine Met.ofW (cc := cX9_layPoint) (maxL := 8) (ret := none) (by decide) rfl ?_
  intro p e s m args below meth c s₁ B hml hv
  obtain ⟨rfl, rfl, hP, hK, hD0⟩ := hv
  have hx := B.exec
  have hb := B.bytes
  have hr := B.returns
  have hts := atoms_spec (ws := vs_EM_layPoint) B.pre
  have v_1 := hts (.fieldLink RX9 71 "ClockReachModel" "z" "[I") (List.mem_cons_of_mem _ vm_219)
  have hown : s.vm.findClass RX9 = some m.cls := findClass_of_methodNamed B.named
  have hlocks := B.notSynchronized
  have hiX9 : ∀ w ∈ wsX90, w ∈ vs_EM_layPoint := fun _ h => List.mem_cons_of_mem _ (vmi_L h)
  have hD := hD0.self (sz := s.heap.size)
  generalize hAe : va_A ((mo_w ad ck x0 (nI x16) (nI x18) (nI x19) x20 (nI x21) (nI x22) x23 x24 x25 (nI x26) x27 (nI x28) (nI x29) (nI x30) (nI x33) x45 (nI x46) (nI x52) (nI x53) (nI x61) (nI x62) (nI x63) (nI x65) x66 f1 f2 f3 (bN 3 q4) (bN 7 q5) (bN 7 q6) (bN 4 q7) f8 (bN 2 q9) (bH q10) f11 (b2 m12_0 m12_1) (b2 m13_0 m13_1) (b2 m14_0 m14_1) (b2m m15_0 m15_1) f17 (bA 159 q31) f32 f34 f35 f36 f37 (bN 7 q38) f39 f40 f41 (b2 m42_0 m42_1) f43 f44 f47 f48 f49 f50 f51 (bN 13 q54) (bN 120 q55) (bN 120 q56) f57 (bN 120 q58) f59 f60 f64)) s.heap.size = A at hD ⊢
  have hA : ∀ q : Nat, s.heap.size ≤ q → A q := fun q h => by rw [← hAe]; exact Or.inr h
  have hS : va_S A s.heap s.heap [] := va_S.rf
  have hl := lv_entry ([.ref (ad 0), .int p0, .int p1, .int p2]) (n := 8) (Nat.le_of_ble_eq_true rfl)
  rw [lg_entry_eq]
  generalize (lg_sl ([.ref (ad 0), .int p0, .int p1, .int p2]) ++ List.replicate (8 - (lg_sl ([.ref (ad 0), .int p0, .int p1, .int p2])).length) Slot.unset).toArray = ls at hl ⊢
  have hl : lv_has ls 8 [(0, .ref (ad 0)), (1, .int p0), (2, .int p1), (3, .int p2)] := hl
  obtain ⟨RR, hRR⟩ : ∃ x, x = (sp_EM_layPoint f35 p0 p1 p2) := ⟨_, rfl⟩
  have hsp := hRR
  refine lv_iconst (v := 0) hx hb dX9_layPoint_0 (by decide) ?_
  refine lv_istore (lv' := [(4, .int 0), (0, .ref (ad 0)), (1, .int p0), (2, .int p1), (3, .int p2)]) hx hb dX9_layPoint_1 hl (by decide) rfl (fun ls hl => ?_)
  obtain ⟨lf_6, dlf_6, hlf_6, hsp⟩ := itr_ex hsp
  delta sp_EM_layPoint_L2 at hlf_6
  refine pu_while (fun nn H locs ls => ∃ (g_3 : Nat → Int32) (g_4 : Nat), nn = 5 - g_4 ∧ g_4 ≤ 5 ∧ RR = itrv dlf_6 lf_6 (g_3, g_4) ∧ va_P (dC, dI) vwCl (mo_w ad ck x0 (nI x16) (nI x18) (nI x19) x20 (nI x21) (nI x22) x23 x24 x25 (nI x26) x27 (nI x28) (nI x29) (nI x30) (nI x33) x45 (nI x46) (nI x52) (nI x53) (nI x61) (nI x62) (nI x63) (nI x65) x66 f1 f2 f3 (bN 3 q4) (bN 7 q5) (bN 7 q6) (bN 4 q7) f8 (bN 2 q9) (bH q10) f11 (b2 m12_0 m12_1) (b2 m13_0 m13_1) (b2 m14_0 m14_1) (b2m m15_0 m15_1) f17 (bA 159 q31) f32 f34 g_3 f36 f37 (bN 7 q38) f39 f40 f41 (b2 m42_0 m42_1) f43 f44 f47 f48 f49 f50 f51 (bN 13 q54) (bN 120 q55) (bN 120 q56) f57 (bN 120 q58) f59 f60 f64) H ∧ va_D A (mo_w ad ck x0 (nI x16) (nI x18) (nI x19) x20 (nI x21) (nI x22) x23 x24 x25 (nI x26) x27 (nI x28) (nI x29) (nI x30) (nI x33) x45 (nI x46) (nI x52) (nI x53) (nI x61) (nI x62) (nI x63) (nI x65) x66 f1 f2 f3 (bN 3 q4) (bN 7 q5) (bN 7 q6) (bN 4 q7) f8 (bN 2 q9) (bH q10) f11 (b2 m12_0 m12_1) (b2 m13_0 m13_1) (b2 m14_0 m14_1) (b2m m15_0 m15_1) f17 (bA 159 q31) f32 f34 g_3 f36 f37 (bN 7 q38) f39 f40 f41 (b2 m42_0 m42_1) f43 f44 f47 f48 f49 f50 f51 (bN 13 q54) (bN 120 q55) (bN 120 q56) f57 (bN 120 q58) f59 f60 f64) ∧ va_S A s.heap H locs ∧ lv_has ls 8 [(0, .ref (ad 0)), (1, .int p0), (2, .int p1), (3, .int p2), (4, .int (nI g_4))]) 3 ?_ _ _ _ _ ⟨f35, 0, rfl, (Nat.le_of_ble_eq_true rfl), hsp, hP, hD, hS, lv_sub hl [1, 2, 3, 4, 0] rfl⟩
  rintro nn ih_5 H locs ls ⟨g_3, g_4, rfl, hg_4, he_8, hP, hD, hS, hl⟩
  obtain ⟨S_7, hsp, hin_9, hout_10⟩ := itr_step hlf_6 he_8
  refine lv_iload hx hb dX9_layPoint_3 (lv_at hl 4 rfl) ?_
  refine lv_iconst (v := 5) hx hb dX9_layPoint_5 (by decide) ?_
  refine lv_icmp_ge (tgt := 117) hx hb dX9_layPoint_6 (by decide) (fun c_11 => ?_) (fun c_11 => ?_)
  · have c_11 : 5 ≤ g_4 := (nI_leI (a := 5) (b := g_4) (Nat.le_of_ble_eq_true rfl) (Nat.lt_of_le_of_lt hg_4 (Nat.le_of_ble_eq_true rfl))).mp c_11
    replace hsp := hsp.trans (if_pos c_11)
    have hsp := hout_10 _ hsp
    exact W.vret hx hb hr (fun t ht hW => ⟨⟨(), rfl, trivial, ⟨g_3, ⟨by rw [ht]; exact hP, va_K.moved hW.alike hK, hD⟩, (hsp.symm.trans hRR)⟩⟩, hS.F ht⟩) hS.2.2 dX9_layPoint_117
  · have c_11 : ¬ 5 ≤ g_4 := fun z => c_11 ((nI_leI (a := 5) (b := g_4) (Nat.le_of_ble_eq_true rfl) (Nat.lt_of_le_of_lt hg_4 (Nat.le_of_ble_eq_true rfl))).mpr z)
    replace hsp := hsp.trans (if_neg c_11)
    refine lv_iconst (v := 0) hx hb dX9_layPoint_9 (by decide) ?_
    refine lv_istore (lv' := [(5, .int 0), (0, .ref (ad 0)), (1, .int p0), (2, .int p1), (3, .int p2), (4, .int (nI g_4))]) hx hb dX9_layPoint_10 hl (by decide) rfl (fun ls hl => ?_)
    obtain ⟨lf_17, dlf_17, hlf_17, hsp⟩ := itr_ex hsp
    delta sp_EM_layPoint_L1 at hlf_17
    refine pu_while (fun nn H locs ls => ∃ (g_14 : Nat → Int32) (g_15 : Nat), nn = 5 - g_15 ∧ g_15 ≤ 5 ∧ S_7 = itrv dlf_17 lf_17 (g_14, g_15) ∧ va_P (dC, dI) vwCl (mo_w ad ck x0 (nI x16) (nI x18) (nI x19) x20 (nI x21) (nI x22) x23 x24 x25 (nI x26) x27 (nI x28) (nI x29) (nI x30) (nI x33) x45 (nI x46) (nI x52) (nI x53) (nI x61) (nI x62) (nI x63) (nI x65) x66 f1 f2 f3 (bN 3 q4) (bN 7 q5) (bN 7 q6) (bN 4 q7) f8 (bN 2 q9) (bH q10) f11 (b2 m12_0 m12_1) (b2 m13_0 m13_1) (b2 m14_0 m14_1) (b2m m15_0 m15_1) f17 (bA 159 q31) f32 f34 g_14 f36 f37 (bN 7 q38) f39 f40 f41 (b2 m42_0 m42_1) f43 f44 f47 f48 f49 f50 f51 (bN 13 q54) (bN 120 q55) (bN 120 q56) f57 (bN 120 q58) f59 f60 f64) H ∧ va_D A (mo_w ad ck x0 (nI x16) (nI x18) (nI x19) x20 (nI x21) (nI x22) x23 x24 x25 (nI x26) x27 (nI x28) (nI x29) (nI x30) (nI x33) x45 (nI x46) (nI x52) (nI x53) (nI x61) (nI x62) (nI x63) (nI x65) x66 f1 f2 f3 (bN 3 q4) (bN 7 q5) (bN 7 q6) (bN 4 q7) f8 (bN 2 q9) (bH q10) f11 (b2 m12_0 m12_1) (b2 m13_0 m13_1) (b2 m14_0 m14_1) (b2m m15_0 m15_1) f17 (bA 159 q31) f32 f34 g_14 f36 f37 (bN 7 q38) f39 f40 f41 (b2 m42_0 m42_1) f43 f44 f47 f48 f49 f50 f51 (bN 13 q54) (bN 120 q55) (bN 120 q56) f57 (bN 120 q58) f59 f60 f64) ∧ va_S A s.heap H locs ∧ lv_has ls 8 [(0, .ref (ad 0)), (1, .int p0), (2, .int p1), (3, .int p2), (4, .int (nI g_4)), (5, .int (nI g_15))]) 12 ?_ _ _ _ _ ⟨g_3, 0, rfl, (Nat.le_of_ble_eq_true rfl), hsp, hP, hD, hS, lv_sub hl [1, 2, 3, 4, 5, 0] rfl⟩
    rintro nn ih_16 H locs ls ⟨g_14, g_15, rfl, hg_15, he_19, hP, hD, hS, hl⟩
    obtain ⟨S_18, hsp, hin_20, hout_21⟩ := itr_step hlf_17 he_19
    refine lv_iload hx hb dX9_layPoint_12 (lv_at hl 5 rfl) ?_
    refine lv_iconst (v := 5) hx hb dX9_layPoint_14 (by decide) ?_
    refine lv_icmp_ge (tgt := 111) hx hb dX9_layPoint_15 (by decide) (fun c_22 => ?_) (fun c_22 => ?_)
    · have c_22 : 5 ≤ g_15 := (nI_leI (a := 5) (b := g_15) (Nat.le_of_ble_eq_true rfl) (Nat.lt_of_le_of_lt hg_15 (Nat.le_of_ble_eq_true rfl))).mp c_22
      replace hsp := hsp.trans (if_pos c_22)
      have hsp := hout_21 _ hsp
      refine lv_iinc (v := (nI (g_4 + 1))) (lv' := [(4, .int (nI (g_4 + 1))), (0, .ref (ad 0)), (1, .int p0), (2, .int p1), (3, .int p2), (5, .int (nI g_15))]) hx hb dX9_layPoint_111 hl (k := 4) rfl (nI_1 _) (by decide) rfl (fun ls hl => ?_)
      refine lv_goto (tgt := 3) hx hb dX9_layPoint_114 (by decide) ?_
      exact ih_5 (5 - (g_4 + 1)) (by omega) _ _ _ ⟨g_14, (g_4 + 1), rfl, (by omega), hin_9 _ hsp, hP, hD, hS, lv_sub hl [1, 2, 3, 4, 0] rfl⟩
    · have c_22 : ¬ 5 ≤ g_15 := fun z => c_22 ((nI_leI (a := 5) (b := g_15) (Nat.le_of_ble_eq_true rfl) (Nat.lt_of_le_of_lt hg_15 (Nat.le_of_ble_eq_true rfl))).mpr z)
      replace hsp := hsp.trans (if_neg c_22)
      refine lv_iload hx hb dX9_layPoint_18 (lv_at hl 4 rfl) ?_
      refine lv_iconst (v := 1) hx hb dX9_layPoint_20 (by decide) ?_
      obtain ⟨JR_25, hJR_25, hsp⟩ := slet_ex hsp
      refine pu_join (fun H locs ls st => ∃ (g_23 : Int32), st = [.int g_23] ∧ g_23 = JR_25 ∧ va_P (dC, dI) vwCl (mo_w ad ck x0 (nI x16) (nI x18) (nI x19) x20 (nI x21) (nI x22) x23 x24 x25 (nI x26) x27 (nI x28) (nI x29) (nI x30) (nI x33) x45 (nI x46) (nI x52) (nI x53) (nI x61) (nI x62) (nI x63) (nI x65) x66 f1 f2 f3 (bN 3 q4) (bN 7 q5) (bN 7 q6) (bN 4 q7) f8 (bN 2 q9) (bH q10) f11 (b2 m12_0 m12_1) (b2 m13_0 m13_1) (b2 m14_0 m14_1) (b2m m15_0 m15_1) f17 (bA 159 q31) f32 f34 g_14 f36 f37 (bN 7 q38) f39 f40 f41 (b2 m42_0 m42_1) f43 f44 f47 f48 f49 f50 f51 (bN 13 q54) (bN 120 q55) (bN 120 q56) f57 (bN 120 q58) f59 f60 f64) H ∧ va_D A (mo_w ad ck x0 (nI x16) (nI x18) (nI x19) x20 (nI x21) (nI x22) x23 x24 x25 (nI x26) x27 (nI x28) (nI x29) (nI x30) (nI x33) x45 (nI x46) (nI x52) (nI x53) (nI x61) (nI x62) (nI x63) (nI x65) x66 f1 f2 f3 (bN 3 q4) (bN 7 q5) (bN 7 q6) (bN 4 q7) f8 (bN 2 q9) (bH q10) f11 (b2 m12_0 m12_1) (b2 m13_0 m13_1) (b2 m14_0 m14_1) (b2m m15_0 m15_1) f17 (bA 159 q31) f32 f34 g_14 f36 f37 (bN 7 q38) f39 f40 f41 (b2 m42_0 m42_1) f43 f44 f47 f48 f49 f50 f51 (bN 13 q54) (bN 120 q55) (bN 120 q56) f57 (bN 120 q58) f59 f60 f64) ∧ va_S A s.heap H locs ∧ lv_has ls 8 [(0, .ref (ad 0)), (1, .int p0), (2, .int p1), (3, .int p2), (4, .int (nI g_4)), (5, .int (nI g_15))]) 49 ?_ (fun j_24 => ?_)
      · rintro H locs ls st ⟨g_23, rfl, he_26, hP, hD, hS, hl⟩
        rw [← he_26] at hsp
        refine lv_istore (lv' := [(6, .int g_23), (0, .ref (ad 0)), (1, .int p0), (2, .int p1), (3, .int p2), (4, .int (nI g_4)), (5, .int (nI g_15))]) hx hb dX9_layPoint_49 hl (by decide) rfl (fun ls hl => ?_)
        refine lv_iload hx hb dX9_layPoint_51 (lv_at hl 6 rfl) ?_
        refine lv_iconst (v := 1) hx hb dX9_layPoint_53 (by decide) ?_
        obtain ⟨JR_29, hJR_29, hsp⟩ := slet_ex hsp
        refine pu_join (fun H locs ls st => ∃ (g_27 : Int32), st = [.int g_27] ∧ g_27 = JR_29 ∧ va_P (dC, dI) vwCl (mo_w ad ck x0 (nI x16) (nI x18) (nI x19) x20 (nI x21) (nI x22) x23 x24 x25 (nI x26) x27 (nI x28) (nI x29) (nI x30) (nI x33) x45 (nI x46) (nI x52) (nI x53) (nI x61) (nI x62) (nI x63) (nI x65) x66 f1 f2 f3 (bN 3 q4) (bN 7 q5) (bN 7 q6) (bN 4 q7) f8 (bN 2 q9) (bH q10) f11 (b2 m12_0 m12_1) (b2 m13_0 m13_1) (b2 m14_0 m14_1) (b2m m15_0 m15_1) f17 (bA 159 q31) f32 f34 g_14 f36 f37 (bN 7 q38) f39 f40 f41 (b2 m42_0 m42_1) f43 f44 f47 f48 f49 f50 f51 (bN 13 q54) (bN 120 q55) (bN 120 q56) f57 (bN 120 q58) f59 f60 f64) H ∧ va_D A (mo_w ad ck x0 (nI x16) (nI x18) (nI x19) x20 (nI x21) (nI x22) x23 x24 x25 (nI x26) x27 (nI x28) (nI x29) (nI x30) (nI x33) x45 (nI x46) (nI x52) (nI x53) (nI x61) (nI x62) (nI x63) (nI x65) x66 f1 f2 f3 (bN 3 q4) (bN 7 q5) (bN 7 q6) (bN 4 q7) f8 (bN 2 q9) (bH q10) f11 (b2 m12_0 m12_1) (b2 m13_0 m13_1) (b2 m14_0 m14_1) (b2m m15_0 m15_1) f17 (bA 159 q31) f32 f34 g_14 f36 f37 (bN 7 q38) f39 f40 f41 (b2 m42_0 m42_1) f43 f44 f47 f48 f49 f50 f51 (bN 13 q54) (bN 120 q55) (bN 120 q56) f57 (bN 120 q58) f59 f60 f64) ∧ va_S A s.heap H locs ∧ lv_has ls 8 [(0, .ref (ad 0)), (1, .int p0), (2, .int p1), (3, .int p2), (4, .int (nI g_4)), (5, .int (nI g_15)), (6, .int g_23)]) 82 ?_ (fun j_28 => ?_)
        · rintro H locs ls st ⟨g_27, rfl, he_30, hP, hD, hS, hl⟩
          rw [← he_30] at hsp
          refine lv_istore (lv' := [(7, .int g_27), (0, .ref (ad 0)), (1, .int p0), (2, .int p1), (3, .int p2), (4, .int (nI g_4)), (5, .int (nI g_15)), (6, .int g_23)]) hx hb dX9_layPoint_82 hl (by decide) rfl (fun ls hl => ?_)
          refine lv_aload_n hx hb dX9_layPoint_84 rfl (lv_at hl 1 rfl) ?_
          refine va_get (D := (dC, dI)) (ci := 9) (v := .ref (ad 35)) (C := RX9) (T := TX9) (N := 67) hx hb hts hiX9 hown hK hP 0 rfl rfl 35 (by decide) v_1 (fun _ h9 => h9) rfl dX9_layPoint_85 ?_
          refine lv_iconst (v := 5) hx hb dX9_layPoint_88 (by decide) ?_
          refine lv_iload hx hb dX9_layPoint_89 (lv_at hl 5 rfl) ?_
          refine lv_imul hx hb dX9_layPoint_91 ?_
          refine lv_topi (fun y_31 ey_31 => ?_)
          obtain rfl : y_31 = (nI (5 * g_4)) := ey_31.trans (pk_mul 5 g_4)
          refine lv_iload hx hb dX9_layPoint_92 (lv_at hl 6 rfl) ?_
          refine lv_iadd hx hb dX9_layPoint_94 ?_
          refine lv_topi (fun y_32 ey_32 => ?_)
          obtain rfl : y_32 = (nI ((5 * g_4) + g_15)) := ey_32.trans (nI_add (5 * g_4) g_15)
          refine lv_iconst (v := 2) hx hb dX9_layPoint_95 (by decide) ?_
          refine lv_iload hx hb dX9_layPoint_96 (lv_at hl 7 rfl) ?_
          refine lv_iload hx hb dX9_layPoint_98 (lv_at hl 0 rfl) ?_
          refine lv_isub hx hb dX9_layPoint_100 ?_
          refine lv_topi (fun y_33 ey_33 => ?_)
          replace hsp := hsp.trans (slet_eq ey_33)
          refine lv_imul hx hb dX9_layPoint_101 ?_
          refine lv_topi (fun y_34 ey_34 => ?_)
          replace hsp := hsp.trans (slet_eq ey_34)
          refine lv_iconst (v := 1) hx hb dX9_layPoint_102 (by decide) ?_
          refine lv_iadd hx hb dX9_layPoint_103 ?_
          refine lv_topi (fun y_35 ey_35 => ?_)
          replace hsp := hsp.trans (slet_eq ey_35)
          refine va_iast hx hb hK hP hD hS 20 19 rfl rfl (vp_in_nI (n := ((5 * g_4) + g_15)) (by omega) (Nat.le_of_ble_eq_true rfl)) dX9_layPoint_104 (fun H locs hP hD hS => ?_)
          obtain ⟨f_36, ef_36, xf_36⟩ := up_x g_14 (n := ((5 * g_4) + g_15)) y_35 (by first | omega | exact Nat.lt_trans (zx16 (by omega) (by omega) (by omega)) (Nat.le_of_ble_eq_true rfl) | exact Nat.lt_trans (zy16 (by omega) (by omega)) (Nat.le_of_ble_eq_true rfl) | exact Nat.lt_trans (zx25 (by omega) (by omega) (by omega)) (Nat.le_of_ble_eq_true rfl) | exact Nat.lt_trans (zy25 (by omega) (by omega)) (Nat.le_of_ble_eq_true rfl))
          have hP : va_P (dC, dI) vwCl (mo_w ad ck x0 (nI x16) (nI x18) (nI x19) x20 (nI x21) (nI x22) x23 x24 x25 (nI x26) x27 (nI x28) (nI x29) (nI x30) (nI x33) x45 (nI x46) (nI x52) (nI x53) (nI x61) (nI x62) (nI x63) (nI x65) x66 f1 f2 f3 (bN 3 q4) (bN 7 q5) (bN 7 q6) (bN 4 q7) f8 (bN 2 q9) (bH q10) f11 (b2 m12_0 m12_1) (b2 m13_0 m13_1) (b2 m14_0 m14_1) (b2m m15_0 m15_1) f17 (bA 159 q31) f32 f34 f_36 f36 f37 (bN 7 q38) f39 f40 f41 (b2 m42_0 m42_1) f43 f44 f47 f48 f49 f50 f51 (bN 13 q54) (bN 120 q55) (bN 120 q56) f57 (bN 120 q58) f59 f60 f64) H := by rw [← ef_36]; exact hP
          have hD : va_D A (mo_w ad ck x0 (nI x16) (nI x18) (nI x19) x20 (nI x21) (nI x22) x23 x24 x25 (nI x26) x27 (nI x28) (nI x29) (nI x30) (nI x33) x45 (nI x46) (nI x52) (nI x53) (nI x61) (nI x62) (nI x63) (nI x65) x66 f1 f2 f3 (bN 3 q4) (bN 7 q5) (bN 7 q6) (bN 4 q7) f8 (bN 2 q9) (bH q10) f11 (b2 m12_0 m12_1) (b2 m13_0 m13_1) (b2 m14_0 m14_1) (b2m m15_0 m15_1) f17 (bA 159 q31) f32 f34 f_36 f36 f37 (bN 7 q38) f39 f40 f41 (b2 m42_0 m42_1) f43 f44 f47 f48 f49 f50 f51 (bN 13 q54) (bN 120 q55) (bN 120 q56) f57 (bN 120 q58) f59 f60 f64) := by rw [← ef_36]; exact hD
          replace hsp := hsp.trans (slet_eq xf_36)
          refine lv_iinc (v := (nI (g_15 + 1))) (lv' := [(5, .int (nI (g_15 + 1))), (7, .int g_27), (0, .ref (ad 0)), (1, .int p0), (2, .int p1), (3, .int p2), (4, .int (nI g_4)), (6, .int g_23)]) hx hb dX9_layPoint_105 hl (k := 6) rfl (nI_1 _) (by decide) rfl (fun ls hl => ?_)
          refine lv_goto (tgt := 12) hx hb dX9_layPoint_108 (by decide) ?_
          exact ih_16 (5 - (g_15 + 1)) (by omega) _ _ _ ⟨f_36, (g_15 + 1), rfl, (by omega), hin_20 _ hsp, hP, hD, hS, lv_sub hl [2, 3, 4, 5, 6, 0] rfl⟩
        have hsp := hJR_29
        refine lv_icmp_ne (tgt := 61) hx hb dX9_layPoint_54 (by decide) (fun c_37 => ?_) (fun c_37 => ?_)
        · have c_37 : ¬ g_15 = 1 := fun z => c_37 ((nI_eq (a := g_15) (b := 1) (Nat.lt_of_le_of_lt hg_15 (Nat.le_of_ble_eq_true rfl)) (Nat.le_of_ble_eq_true rfl)).mpr z)
          replace hsp := hsp.trans (if_neg c_37)
          refine lv_iload hx hb dX9_layPoint_61 (lv_at hl 6 rfl) ?_
          refine lv_iconst (v := 2) hx hb dX9_layPoint_63 (by decide) ?_
          refine lv_icmp_ne (tgt := 71) hx hb dX9_layPoint_64 (by decide) (fun c_38 => ?_) (fun c_38 => ?_)
          · have c_38 : ¬ g_15 = 2 := fun z => c_38 ((nI_eq (a := g_15) (b := 2) (Nat.lt_of_le_of_lt hg_15 (Nat.le_of_ble_eq_true rfl)) (Nat.le_of_ble_eq_true rfl)).mpr z)
            replace hsp := hsp.trans (if_neg c_38)
            refine lv_iload hx hb dX9_layPoint_71 (lv_at hl 6 rfl) ?_
            refine lv_iconst (v := 3) hx hb dX9_layPoint_73 (by decide) ?_
            refine lv_icmp_ne (tgt := 81) hx hb dX9_layPoint_74 (by decide) (fun c_39 => ?_) (fun c_39 => ?_)
            · have c_39 : ¬ g_15 = 3 := fun z => c_39 ((nI_eq (a := g_15) (b := 3) (Nat.lt_of_le_of_lt hg_15 (Nat.le_of_ble_eq_true rfl)) (Nat.le_of_ble_eq_true rfl)).mpr z)
              replace hsp := hsp.trans (if_neg c_39)
              refine lv_iconst (v := 0) hx hb dX9_layPoint_81 (by decide) ?_
              exact j_28 _ _ _ _ ⟨0, rfl, hsp.symm, hP, hD, hS, lv_sub hl [1, 2, 3, 4, 5, 6, 0] rfl⟩
            · have c_39 : g_15 = 3 := (nI_eq (a := g_15) (b := 3) (Nat.lt_of_le_of_lt hg_15 (Nat.le_of_ble_eq_true rfl)) (Nat.le_of_ble_eq_true rfl)).mp c_39
              replace hsp := hsp.trans (if_pos c_39)
              refine lv_iload_n hx hb dX9_layPoint_77 rfl (lv_at hl 4 rfl) ?_
              refine lv_goto (tgt := 82) hx hb dX9_layPoint_78 (by decide) ?_
              exact j_28 _ _ _ _ ⟨p2, rfl, hsp.symm, hP, hD, hS, lv_sub hl [1, 2, 3, 4, 5, 6, 0] rfl⟩
          · have c_38 : g_15 = 2 := (nI_eq (a := g_15) (b := 2) (Nat.lt_of_le_of_lt hg_15 (Nat.le_of_ble_eq_true rfl)) (Nat.le_of_ble_eq_true rfl)).mp c_38
            replace hsp := hsp.trans (if_pos c_38)
            refine lv_iload_n hx hb dX9_layPoint_67 rfl (lv_at hl 3 rfl) ?_
            refine lv_goto (tgt := 82) hx hb dX9_layPoint_68 (by decide) ?_
            exact j_28 _ _ _ _ ⟨p1, rfl, hsp.symm, hP, hD, hS, lv_sub hl [1, 2, 3, 4, 5, 6, 0] rfl⟩
        · have c_37 : g_15 = 1 := (nI_eq (a := g_15) (b := 1) (Nat.lt_of_le_of_lt hg_15 (Nat.le_of_ble_eq_true rfl)) (Nat.le_of_ble_eq_true rfl)).mp c_37
          replace hsp := hsp.trans (if_pos c_37)
          refine lv_iload_n hx hb dX9_layPoint_57 rfl (lv_at hl 2 rfl) ?_
          refine lv_goto (tgt := 82) hx hb dX9_layPoint_58 (by decide) ?_
          exact j_28 _ _ _ _ ⟨p0, rfl, hsp.symm, hP, hD, hS, lv_sub hl [1, 2, 3, 4, 5, 6, 0] rfl⟩
      have hsp := hJR_25
      refine lv_icmp_ne (tgt := 28) hx hb dX9_layPoint_21 (by decide) (fun c_40 => ?_) (fun c_40 => ?_)
      · have c_40 : ¬ g_4 = 1 := fun z => c_40 ((nI_eq (a := g_4) (b := 1) (Nat.lt_of_le_of_lt hg_4 (Nat.le_of_ble_eq_true rfl)) (Nat.le_of_ble_eq_true rfl)).mpr z)
        replace hsp := hsp.trans (if_neg c_40)
        refine lv_iload hx hb dX9_layPoint_28 (lv_at hl 4 rfl) ?_
        refine lv_iconst (v := 2) hx hb dX9_layPoint_30 (by decide) ?_
        refine lv_icmp_ne (tgt := 38) hx hb dX9_layPoint_31 (by decide) (fun c_41 => ?_) (fun c_41 => ?_)
        · have c_41 : ¬ g_4 = 2 := fun z => c_41 ((nI_eq (a := g_4) (b := 2) (Nat.lt_of_le_of_lt hg_4 (Nat.le_of_ble_eq_true rfl)) (Nat.le_of_ble_eq_true rfl)).mpr z)
          replace hsp := hsp.trans (if_neg c_41)
          refine lv_iload hx hb dX9_layPoint_38 (lv_at hl 4 rfl) ?_
          refine lv_iconst (v := 3) hx hb dX9_layPoint_40 (by decide) ?_
          refine lv_icmp_ne (tgt := 48) hx hb dX9_layPoint_41 (by decide) (fun c_42 => ?_) (fun c_42 => ?_)
          · have c_42 : ¬ g_4 = 3 := fun z => c_42 ((nI_eq (a := g_4) (b := 3) (Nat.lt_of_le_of_lt hg_4 (Nat.le_of_ble_eq_true rfl)) (Nat.le_of_ble_eq_true rfl)).mpr z)
            replace hsp := hsp.trans (if_neg c_42)
            refine lv_iconst (v := 0) hx hb dX9_layPoint_48 (by decide) ?_
            exact j_24 _ _ _ _ ⟨0, rfl, hsp.symm, hP, hD, hS, lv_sub hl [0, 1, 2, 3, 4, 5] rfl⟩
          · have c_42 : g_4 = 3 := (nI_eq (a := g_4) (b := 3) (Nat.lt_of_le_of_lt hg_4 (Nat.le_of_ble_eq_true rfl)) (Nat.le_of_ble_eq_true rfl)).mp c_42
            replace hsp := hsp.trans (if_pos c_42)
            refine lv_iload_n hx hb dX9_layPoint_44 rfl (lv_at hl 3 rfl) ?_
            refine lv_goto (tgt := 49) hx hb dX9_layPoint_45 (by decide) ?_
            exact j_24 _ _ _ _ ⟨p2, rfl, hsp.symm, hP, hD, hS, lv_sub hl [0, 1, 2, 3, 4, 5] rfl⟩
        · have c_41 : g_4 = 2 := (nI_eq (a := g_4) (b := 2) (Nat.lt_of_le_of_lt hg_4 (Nat.le_of_ble_eq_true rfl)) (Nat.le_of_ble_eq_true rfl)).mp c_41
          replace hsp := hsp.trans (if_pos c_41)
          refine lv_iload_n hx hb dX9_layPoint_34 rfl (lv_at hl 2 rfl) ?_
          refine lv_goto (tgt := 49) hx hb dX9_layPoint_35 (by decide) ?_
          exact j_24 _ _ _ _ ⟨p1, rfl, hsp.symm, hP, hD, hS, lv_sub hl [0, 1, 2, 3, 4, 5] rfl⟩
      · have c_40 : g_4 = 1 := (nI_eq (a := g_4) (b := 1) (Nat.lt_of_le_of_lt hg_4 (Nat.le_of_ble_eq_true rfl)) (Nat.le_of_ble_eq_true rfl)).mp c_40
        replace hsp := hsp.trans (if_pos c_40)
        refine lv_iload_n hx hb dX9_layPoint_24 rfl (lv_at hl 1 rfl) ?_
        refine lv_goto (tgt := 49) hx hb dX9_layPoint_25 (by decide) ?_
        exact j_24 _ _ _ _ ⟨p0, rfl, hsp.symm, hP, hD, hS, lv_sub hl [0, 1, 2, 3, 4, 5] rfl⟩
