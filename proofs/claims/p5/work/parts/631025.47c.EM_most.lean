theorem dX9_most_0 : decode cX9_most 0 = .ok (.iconst 0, 1) := by decide +kernel
theorem dX9_most_1 : decode cX9_most 1 = .ok (.istore_n 3, 1) := by decide +kernel
theorem dX9_most_2 : decode cX9_most 2 = .ok (.iconst 0, 1) := by decide +kernel
theorem dX9_most_3 : decode cX9_most 3 = .ok (.istore 4, 2) := by decide +kernel
theorem dX9_most_5 : decode cX9_most 5 = .ok (.iload 4, 2) := by decide +kernel
theorem dX9_most_7 : decode cX9_most 7 = .ok (.bipush 100, 2) := by decide +kernel
theorem dX9_most_9 : decode cX9_most 9 = .ok (.aload_n 0, 1) := by decide +kernel
theorem dX9_most_10 : decode cX9_most 10 = .ok (.getfield 46, 3) := by decide +kernel
theorem dX9_most_13 : decode cX9_most 13 = .ok (.aload_n 0, 1) := by decide +kernel
theorem dX9_most_14 : decode cX9_most 14 = .ok (.getfield 258, 3) := by decide +kernel
theorem dX9_most_17 : decode cX9_most 17 = .ok (.iaload, 1) := by decide +kernel
theorem dX9_most_18 : decode cX9_most 18 = .ok (.iadd, 1) := by decide +kernel
theorem dX9_most_19 : decode cX9_most 19 = .ok (.if_icmp .ge 123, 3) := by decide +kernel
theorem dX9_most_22 : decode cX9_most 22 = .ok (.iconst 0, 1) := by decide +kernel
theorem dX9_most_23 : decode cX9_most 23 = .ok (.istore 5, 2) := by decide +kernel
theorem dX9_most_25 : decode cX9_most 25 = .ok (.iload 5, 2) := by decide +kernel
theorem dX9_most_27 : decode cX9_most 27 = .ok (.aload_n 0, 1) := by decide +kernel
theorem dX9_most_28 : decode cX9_most 28 = .ok (.iload 4, 2) := by decide +kernel
theorem dX9_most_30 : decode cX9_most 30 = .ok (.invokevirtual 295, 3) := by decide +kernel
theorem dX9_most_33 : decode cX9_most 33 = .ok (.if_icmp .ge 103, 3) := by decide +kernel
theorem dX9_most_36 : decode cX9_most 36 = .ok (.aload_n 0, 1) := by decide +kernel
theorem dX9_most_37 : decode cX9_most 37 = .ok (.iload 4, 2) := by decide +kernel
theorem dX9_most_39 : decode cX9_most 39 = .ok (.iload 5, 2) := by decide +kernel
theorem dX9_most_41 : decode cX9_most 41 = .ok (.invokevirtual 311, 3) := by decide +kernel
theorem dX9_most_44 : decode cX9_most 44 = .ok (.istore 6, 2) := by decide +kernel
theorem dX9_most_46 : decode cX9_most 46 = .ok (.iload_n 2, 1) := by decide +kernel
theorem dX9_most_47 : decode cX9_most 47 = .ok (.ifCond .eq 44, 3) := by decide +kernel
theorem dX9_most_50 : decode cX9_most 50 = .ok (.aload_n 0, 1) := by decide +kernel
theorem dX9_most_51 : decode cX9_most 51 = .ok (.getfield 37, 3) := by decide +kernel
theorem dX9_most_54 : decode cX9_most 54 = .ok (.iload 6, 2) := by decide +kernel
theorem dX9_most_56 : decode cX9_most 56 = .ok (.iaload, 1) := by decide +kernel
theorem dX9_most_57 : decode cX9_most 57 = .ok (.iconst 2, 1) := by decide +kernel
theorem dX9_most_58 : decode cX9_most 58 = .ok (.if_icmp .eq 33, 3) := by decide +kernel
theorem dX9_most_61 : decode cX9_most 61 = .ok (.iload_n 2, 1) := by decide +kernel
theorem dX9_most_62 : decode cX9_most 62 = .ok (.iconst 1, 1) := by decide +kernel
theorem dX9_most_63 : decode cX9_most 63 = .ok (.if_icmp .ne 17, 3) := by decide +kernel
theorem dX9_most_66 : decode cX9_most 66 = .ok (.aload_n 0, 1) := by decide +kernel
theorem dX9_most_67 : decode cX9_most 67 = .ok (.getfield 37, 3) := by decide +kernel
theorem dX9_most_70 : decode cX9_most 70 = .ok (.iload 6, 2) := by decide +kernel
theorem dX9_most_72 : decode cX9_most 72 = .ok (.iaload, 1) := by decide +kernel
theorem dX9_most_73 : decode cX9_most 73 = .ok (.iconst 2, 1) := by decide +kernel
theorem dX9_most_74 : decode cX9_most 74 = .ok (.if_icmp .le 21, 3) := by decide +kernel
theorem dX9_most_77 : decode cX9_most 77 = .ok (.goto 14, 3) := by decide +kernel
theorem dX9_most_80 : decode cX9_most 80 = .ok (.aload_n 0, 1) := by decide +kernel
theorem dX9_most_81 : decode cX9_most 81 = .ok (.getfield 37, 3) := by decide +kernel
theorem dX9_most_84 : decode cX9_most 84 = .ok (.iload 6, 2) := by decide +kernel
theorem dX9_most_86 : decode cX9_most 86 = .ok (.iaload, 1) := by decide +kernel
theorem dX9_most_87 : decode cX9_most 87 = .ok (.iconst 2, 1) := by decide +kernel
theorem dX9_most_88 : decode cX9_most 88 = .ok (.if_icmp .ge 7, 3) := by decide +kernel
theorem dX9_most_91 : decode cX9_most 91 = .ok (.iconst 1, 1) := by decide +kernel
theorem dX9_most_92 : decode cX9_most 92 = .ok (.goto 4, 3) := by decide +kernel
theorem dX9_most_95 : decode cX9_most 95 = .ok (.iconst 0, 1) := by decide +kernel
theorem dX9_most_96 : decode cX9_most 96 = .ok (.istore 7, 2) := by decide +kernel
theorem dX9_most_98 : decode cX9_most 98 = .ok (.aload_n 0, 1) := by decide +kernel
theorem dX9_most_99 : decode cX9_most 99 = .ok (.getfield 34, 3) := by decide +kernel
theorem dX9_most_102 : decode cX9_most 102 = .ok (.iload 6, 2) := by decide +kernel
theorem dX9_most_104 : decode cX9_most 104 = .ok (.iaload, 1) := by decide +kernel
theorem dX9_most_105 : decode cX9_most 105 = .ok (.iload_n 1, 1) := by decide +kernel
theorem dX9_most_106 : decode cX9_most 106 = .ok (.if_icmp .ne 22, 3) := by decide +kernel
theorem dX9_most_109 : decode cX9_most 109 = .ok (.iload 7, 2) := by decide +kernel
theorem dX9_most_111 : decode cX9_most 111 = .ok (.ifCond .eq 17, 3) := by decide +kernel
theorem dX9_most_114 : decode cX9_most 114 = .ok (.iload_n 3, 1) := by decide +kernel
theorem dX9_most_115 : decode cX9_most 115 = .ok (.aload_n 0, 1) := by decide +kernel
theorem dX9_most_116 : decode cX9_most 116 = .ok (.getfield 40, 3) := by decide +kernel
theorem dX9_most_119 : decode cX9_most 119 = .ok (.iload 6, 2) := by decide +kernel
theorem dX9_most_121 : decode cX9_most 121 = .ok (.iaload, 1) := by decide +kernel
theorem dX9_most_122 : decode cX9_most 122 = .ok (.invokestatic 229, 3) := by decide +kernel
theorem dX9_most_125 : decode cX9_most 125 = .ok (.goto 4, 3) := by decide +kernel
theorem dX9_most_128 : decode cX9_most 128 = .ok (.iload_n 3, 1) := by decide +kernel
theorem dX9_most_129 : decode cX9_most 129 = .ok (.istore_n 3, 1) := by decide +kernel
theorem dX9_most_130 : decode cX9_most 130 = .ok (.iinc 5 1, 3) := by decide +kernel
theorem dX9_most_133 : decode cX9_most 133 = .ok (.goto (-108), 3) := by decide +kernel
theorem dX9_most_136 : decode cX9_most 136 = .ok (.iinc 4 1, 3) := by decide +kernel
theorem dX9_most_139 : decode cX9_most 139 = .ok (.goto (-134), 3) := by decide +kernel
theorem dX9_most_142 : decode cX9_most 142 = .ok (.iload_n 3, 1) := by decide +kernel
theorem dX9_most_143 : decode cX9_most 143 = .ok (.ireturn, 1) := by decide +kernel
abbrev vs_EM_most : List Cond := .code yX9_most cX9_most 8 (some .int) :: VM
theorem g_EM_most_EM_manyOf_n : GoodIn vs_EM_most (wsV RX9 295 RX9 yX9_manyOf vs_EM_manyOf_n) := gm_V vm_152 vm_153 vm_154 vm_19 vm_155
theorem g_EM_most_EM_spot_e : GoodIn vs_EM_most (wsV RX9 311 RX9 yX9_spot vs_EM_spot_e) := gm_V vm_160 vm_161 vm_162 vm_19 vm_163
theorem g_EM_most_EM_greater : GoodIn vs_EM_most (va_wsS RX9 229 yX9_greater vs_EM_greater) := gm_S vm_87 vm_88 vm_19 vm_89
theorem g_EM_most_EM_spot_p : GoodIn vs_EM_most (wsV RX9 311 RX9 yX9_spot vs_EM_spot_p) := gm_V vm_160 vm_161 vm_162 vm_19 vm_163
noncomputable def sp_EM_most_L1 (x16 : Nat) (q4 : Nat → Nat) (q7 : Nat → Nat) (q9 : Nat → Nat) (q10 : Nat → Nat) (f11 : Nat → Int32) (m13_0 : Nat) (m13_1 : Nat) (m14_0 : Nat) (m14_1 : Nat) (p0 : Int32) (p1 : Int32) (g_4 : Nat) : (Int32 × Nat) → (Int32 × Nat) ⊕ (Int32 × Nat) := fun (g_22, g_23) => (slet (sp_EM_manyOf_n x16 q4 q7 m13_0 m13_1 m14_0 m14_1 g_4) (fun u_31 => (if u_31 = 0 then (Sum.inr (g_22, g_23)) else (if g_4 < 100 then (slet (u_31 - 1) (fun u_32 => (if u_32 ≤ g_23 then (Sum.inr (g_22, g_23)) else (slet (α := Nat) (if (p1 : Int32) = 0 then 1 else (slet (min (q10 (80 * x16 + 4 * g_4 + g_23)) (if (80 * x16 + 4 * g_4 + g_23) % 80 < 56 then 4 else 1)) (fun u_51 => (if u_51 = 2 then 1 else (if (p1 : Int32) = 1 then (if u_51 ≤ 2 then 0 else 1) else (if 2 ≤ u_51 then 0 else 1)))))) (fun g_35 => (slet (min (q9 (80 * x16 + 4 * g_4 + g_23)) 2) (fun u_40 => (slet (α := Int32) (if ((nI u_40) : Int32) = p0 then (if g_35 = 0 then g_22 else (slet (f11 (80 * x16 + 4 * g_4 + g_23)) (fun y_47 => (slet (sp_EM_greater g_22 y_47) (fun r_48 => r_48))))) else g_22) (fun g_41 => (Sum.inl (g_41, (g_23 + 1)))))))))))) else (slet (u_31 - 1) (fun u_32 => (if u_32 ≤ g_23 then (Sum.inr (g_22, g_23)) else (slet (α := Nat) (if (p1 : Int32) = 0 then 1 else (slet (min (q10 (80 * x16 + (56 + 3 * (g_4 - 100)) + g_23)) (if (80 * x16 + (56 + 3 * (g_4 - 100)) + g_23) % 80 < 56 then 4 else 1)) (fun u_78 => (if u_78 = 2 then 1 else (if (p1 : Int32) = 1 then (if u_78 ≤ 2 then 0 else 1) else (if 2 ≤ u_78 then 0 else 1)))))) (fun g_62 => (slet (min (q9 (80 * x16 + (56 + 3 * (g_4 - 100)) + g_23)) 2) (fun u_67 => (slet (α := Int32) (if ((nI u_67) : Int32) = p0 then (if g_62 = 0 then g_22 else (slet (f11 (80 * x16 + (56 + 3 * (g_4 - 100)) + g_23)) (fun y_74 => (slet (sp_EM_greater g_22 y_74) (fun r_75 => r_75))))) else g_22) (fun g_68 => (Sum.inl (g_68, (g_23 + 1))))))))))))))))
noncomputable def sp_EM_most_L2 (x16 : Nat) (q4 : Nat → Nat) (q7 : Nat → Nat) (q9 : Nat → Nat) (q10 : Nat → Nat) (f11 : Nat → Int32) (m13_0 : Nat) (m13_1 : Nat) (m14_0 : Nat) (m14_1 : Nat) (p0 : Int32) (p1 : Int32) : (Int32 × Nat) → (Int32 × Nat) ⊕ (Int32) := fun (g_3, g_4) => (slet (if x16 = 0 then m13_0 else m13_1) (fun u_12 => (if (100 + u_12) ≤ g_4 then (Sum.inr g_3) else (slet (α := Int32 × Nat) (itrv (α := Int32 × Nat) (β := (Int32 × Nat)) default (sp_EM_most_L1 x16 q4 q7 q9 q10 f11 m13_0 m13_1 m14_0 m14_1 p0 p1 g_4) (g_3, 0)) (fun (g_15, g_16) => (Sum.inl (g_15, (g_4 + 1))))))))
noncomputable def sp_EM_most (x16 : Nat) (q4 : Nat → Nat) (q7 : Nat → Nat) (q9 : Nat → Nat) (q10 : Nat → Nat) (f11 : Nat → Int32) (m13_0 : Nat) (m13_1 : Nat) (m14_0 : Nat) (m14_1 : Nat) (p0 : Int32) (p1 : Int32) : Int32 := (itrv (α := Int32 × Nat) (β := (Int32)) default (sp_EM_most_L2 x16 q4 q7 q9 q10 f11 m13_0 m13_1 m14_0 m14_1 p0 p1) (0, 0))
set_option maxHeartbeats 4000000 in
set_option maxRecDepth 100000 in
theorem c_EM_most (l : Launch) (dC : Nat → ClassId) (dI : Nat → Nat → Nat) (sz : Nat) (ad : Nat → Nat) (ck : Nat → ClassId) (x0 : Int32) (x16 : Nat) (x18 : Nat) (x19 : Nat) (x20 : Int32) (x21 : Nat) (x22 : Nat) (x23 : Int32) (x24 : Int32) (x25 : Int32) (x26 : Nat) (x27 : Int32) (x28 : Nat) (x29 : Nat) (x30 : Nat) (x33 : Nat) (x45 : Int32) (x46 : Nat) (x52 : Nat) (x53 : Nat) (x61 : Nat) (x62 : Nat) (x63 : Nat) (x65 : Nat) (x66 : Int32) (f1 : Nat → Int32) (f2 : Nat → Int32) (f3 : Nat → Int32) (q4 : Nat → Nat) (q5 : Nat → Nat) (q6 : Nat → Nat) (q7 : Nat → Nat) (f8 : Nat → Int32) (q9 : Nat → Nat) (q10 : Nat → Nat) (f11 : Nat → Int32) (m12_0 m12_1 : Nat) (m13_0 m13_1 : Nat) (m14_0 m14_1 : Nat) (m15_0 m15_1 : Nat) (f17 : Nat → Int32) (q31 : Nat → Nat) (f32 : Nat → Int32) (f34 : Nat → Int32) (f35 : Nat → Int32) (f36 : Nat → Int32) (f37 : Nat → Int32) (q38 : Nat → Nat) (f39 : Nat → Int32) (f40 : Nat → Int32) (f41 : Nat → Int32) (m42_0 m42_1 : Nat) (f43 : Nat → Int32) (f44 : Nat → Int32) (f47 : Nat → Int32) (f48 : Nat → Int32) (f49 : Nat → Int32) (f50 : Nat → Int32) (f51 : Nat → Int32) (q54 : Nat → Nat) (q55 : Nat → Nat) (q56 : Nat → Nat) (f57 : Nat → Int32) (q58 : Nat → Nat) (f59 : Nat → Int32) (f60 : Nat → Int32) (f64 : Nat → Int32) (p0 : Int32) (p1 : Int32) (hx16 : x16 ≤ 1) (hx18 : x18 ≤ 900) (hx19 : x19 ≤ 900) (hx21 : x21 ≤ 900) (hx22 : x22 ≤ 4) (hx26 : x26 ≤ 6) (hx28 : x28 ≤ 1) (hx29 : x29 ≤ 1) (hx30 : x30 ≤ 1) (hx33 : x33 ≤ 20) (hx46 : x46 ≤ 5) (hx52 : x52 ≤ 2400) (hx53 : x53 ≤ 119) (hx61 : x61 ≤ 119) (hx62 : x62 ≤ 2000) (hx63 : x63 ≤ 1) (hx65 : x65 ≤ 7) (hm12_0 : m12_0 ≤ 3) (hm12_1 : m12_1 ≤ 3) (hm13_0 : m13_0 ≤ 8) (hm13_1 : m13_1 ≤ 8) (hm14_0 : m14_0 ≤ 14) (hm14_1 : m14_1 ≤ 14) (hm15_0 : m15_0 ≤ 8) (hm15_1 : m15_1 ≤ 8) (hm42_0 : m42_0 ≤ 120) (hm42_1 : m42_1 ≤ 400) : Met l yX9_most vs_EM_most ({ frames := 3, cells := 0, slots := 0, locals := 64 }) (va_Pc [.ref (ad 0), .int p0, .int p1] (pu_B (dC, dI) (mo_w ad ck x0 (nI x16) (nI x18) (nI x19) x20 (nI x21) (nI x22) x23 x24 x25 (nI x26) x27 (nI x28) (nI x29) (nI x30) (nI x33) x45 (nI x46) (nI x52) (nI x53) (nI x61) (nI x62) (nI x63) (nI x65) x66 f1 f2 f3 (bN 3 q4) (bN 7 q5) (bN 7 q6) (bN 4 q7) f8 (bN 2 q9) (bH q10) f11 (b2 m12_0 m12_1) (b2 m13_0 m13_1) (b2 m14_0 m14_1) (b2m m15_0 m15_1) f17 (bA 159 q31) f32 f34 f35 f36 f37 (bN 7 q38) f39 f40 f41 (b2 m42_0 m42_1) f43 f44 f47 f48 f49 f50 f51 (bN 13 q54) (bN 120 q55) (bN 120 q56) f57 (bN 120 q58) f59 f60 f64) (mo_t ck) sz)) (va_Qi (fun (r : Int32) (_ : Unit) => r = (sp_EM_most x16 q4 q7 q9 q10 f11 m13_0 m13_1 m14_0 m14_1 p0 p1)) (fun _ _ => True) (va_A [] sz)) 0 0 (va_A [] sz) := by
  refine Met.ofW (cc := cX9_most) (maxL := 8) (ret := (some .int)) (by decide) rfl ?_
  intro p e s m args below meth c s₁ B hml hv
  obtain ⟨rfl, rfl, hP, hK, hD0⟩ := hv
  have hx := B.exec
  have hb := B.bytes
  have hr := B.returns
  have hts := atoms_spec (ws := vs_EM_most) B.pre
  have v_1 := hts (.fieldLink RX9 46 "ClockReachModel" "placeMany" "[I") (List.mem_cons_of_mem _ vm_65)
  have v_2 := hts (.fieldLink RX9 258 "ClockReachModel" "bank" "I") (List.mem_cons_of_mem _ vm_4)
  have v_12 := hts (.fieldLink RX9 37 "ClockReachModel" "how" "[I") (List.mem_cons_of_mem _ vm_99)
  have v_13 := hts (.fieldLink RX9 34 "ClockReachModel" "ofClock" "[I") (List.mem_cons_of_mem _ vm_98)
  have v_14 := hts (.fieldLink RX9 40 "ClockReachModel" "limit" "[I") (List.mem_cons_of_mem _ vm_100)
  have hown : s.vm.findClass RX9 = some m.cls := findClass_of_methodNamed B.named
  have hlocks := B.notSynchronized
  have hiX9 : ∀ w ∈ wsX90, w ∈ vs_EM_most := fun _ h => List.mem_cons_of_mem _ (vmi_L h)
  have hD := hD0
  have hA : ∀ q : Nat, s.heap.size ≤ q → va_A [] s.heap.size q := fun _ h => Or.inr h
  have hS : va_S (va_A [] s.heap.size) s.heap s.heap [] := va_S.rf
  have hl := lv_entry ([.ref (ad 0), .int p0, .int p1]) (n := 8) (Nat.le_of_ble_eq_true rfl)
  rw [lg_entry_eq]
  generalize (lg_sl ([.ref (ad 0), .int p0, .int p1]) ++ List.replicate (8 - (lg_sl ([.ref (ad 0), .int p0, .int p1])).length) Slot.unset).toArray = ls at hl ⊢
  have hl : lv_has ls 8 [(0, .ref (ad 0)), (1, .int p0), (2, .int p1)] := hl
  obtain ⟨RR, hRR⟩ : ∃ x, x = (sp_EM_most x16 q4 q7 q9 q10 f11 m13_0 m13_1 m14_0 m14_1 p0 p1) := ⟨_, rfl⟩
  have hsp := hRR
  refine lv_iconst (v := 0) hx hb dX9_most_0 (by decide) ?_
  refine lv_istore_n (lv' := [(3, .int 0), (0, .ref (ad 0)), (1, .int p0), (2, .int p1)]) hx hb dX9_most_1 rfl hl (by decide) rfl (fun ls hl => ?_)
  refine lv_iconst (v := 0) hx hb dX9_most_2 (by decide) ?_
  refine lv_istore (lv' := [(4, .int 0), (3, .int 0), (0, .ref (ad 0)), (1, .int p0), (2, .int p1)]) hx hb dX9_most_3 hl (by decide) rfl (fun ls hl => ?_)
  obtain ⟨lf_6, dlf_6, hlf_6, hsp⟩ := itr_ex hsp
  delta sp_EM_most_L2 at hlf_6
  refine pu_while (fun nn H locs ls => ∃ (g_3 : Int32) (g_4 : Nat), nn = 108 - g_4 ∧ g_4 ≤ 108 ∧ RR = itrv dlf_6 lf_6 (g_3, g_4) ∧ va_P (dC, dI) vwCl (mo_w ad ck x0 (nI x16) (nI x18) (nI x19) x20 (nI x21) (nI x22) x23 x24 x25 (nI x26) x27 (nI x28) (nI x29) (nI x30) (nI x33) x45 (nI x46) (nI x52) (nI x53) (nI x61) (nI x62) (nI x63) (nI x65) x66 f1 f2 f3 (bN 3 q4) (bN 7 q5) (bN 7 q6) (bN 4 q7) f8 (bN 2 q9) (bH q10) f11 (b2 m12_0 m12_1) (b2 m13_0 m13_1) (b2 m14_0 m14_1) (b2m m15_0 m15_1) f17 (bA 159 q31) f32 f34 f35 f36 f37 (bN 7 q38) f39 f40 f41 (b2 m42_0 m42_1) f43 f44 f47 f48 f49 f50 f51 (bN 13 q54) (bN 120 q55) (bN 120 q56) f57 (bN 120 q58) f59 f60 f64) H ∧ va_D (fun _ => True) (mo_w ad ck x0 (nI x16) (nI x18) (nI x19) x20 (nI x21) (nI x22) x23 x24 x25 (nI x26) x27 (nI x28) (nI x29) (nI x30) (nI x33) x45 (nI x46) (nI x52) (nI x53) (nI x61) (nI x62) (nI x63) (nI x65) x66 f1 f2 f3 (bN 3 q4) (bN 7 q5) (bN 7 q6) (bN 4 q7) f8 (bN 2 q9) (bH q10) f11 (b2 m12_0 m12_1) (b2 m13_0 m13_1) (b2 m14_0 m14_1) (b2m m15_0 m15_1) f17 (bA 159 q31) f32 f34 f35 f36 f37 (bN 7 q38) f39 f40 f41 (b2 m42_0 m42_1) f43 f44 f47 f48 f49 f50 f51 (bN 13 q54) (bN 120 q55) (bN 120 q56) f57 (bN 120 q58) f59 f60 f64) ∧ va_S (va_A [] s.heap.size) s.heap H locs ∧ lv_has ls 8 [(0, .ref (ad 0)), (1, .int p0), (2, .int p1), (3, .int g_3), (4, .int (nI g_4))]) 5 ?_ _ _ _ _ ⟨0, 0, rfl, (Nat.le_of_ble_eq_true rfl), hsp, hP, hD, hS, lv_sub hl [2, 3, 4, 1, 0] rfl⟩
  rintro nn ih_5 H locs ls ⟨g_3, g_4, rfl, hg_4, he_8, hP, hD, hS, hl⟩
  obtain ⟨S_7, hsp, hin_9, hout_10⟩ := itr_step hlf_6 he_8
  refine lv_iload hx hb dX9_most_5 (lv_at hl 4 rfl) ?_
  refine lv_bipush (v := 100) hx hb dX9_most_7 (by decide) ?_
  refine lv_aload_n hx hb dX9_most_9 rfl (lv_at hl 0 rfl) ?_
  refine va_get (D := (dC, dI)) (ci := 9) (v := .ref (ad 13)) (C := RX9) (T := TX9) (N := 67) hx hb hts hiX9 hown hK hP 0 rfl rfl 13 (by decide) v_1 (fun _ h9 => h9) rfl dX9_most_10 ?_
  refine lv_aload_n hx hb dX9_most_13 rfl (lv_at hl 0 rfl) ?_
  refine va_get (D := (dC, dI)) (ci := 9) (v := .int (nI x16)) (C := RX9) (T := TX9) (N := 67) hx hb hts hiX9 hown hK hP 0 rfl rfl 16 (by decide) v_2 (fun _ h9 => h9) rfl dX9_most_14 ?_
  refine va_iald hx hb hK hP 13 12 rfl rfl (vp_in_nI (n := x16) (Nat.lt_of_le_of_lt hx16 (Nat.le_of_ble_eq_true rfl)) (Nat.le_of_ble_eq_true rfl)) dX9_most_17 ?_
  refine lv_topi (fun y_11 ey_11 => ?_)
  obtain ⟨u_12, hu_12, fu_12, xu_12⟩ := b2_getx (a := m13_0) (b := m13_1) (i := x16) (by omega)
  have qy_11 := ey_11.trans fu_12
  replace hsp := hsp.trans (slet_eq xu_12)
  obtain rfl : y_11 = nI u_12 := qy_11
  refine lv_iadd hx hb dX9_most_18 ?_
  refine lv_topi (fun y_13 ey_13 => ?_)
  obtain rfl : y_13 = (nI (100 + u_12)) := ey_13.trans (nI_add 100 u_12)
  refine lv_icmp_ge (tgt := 142) hx hb dX9_most_19 (by decide) (fun c_14 => ?_) (fun c_14 => ?_)
  · have c_14 : (100 + u_12) ≤ g_4 := (nI_leI (a := (100 + u_12)) (b := g_4) (by omega) (Nat.lt_of_le_of_lt hg_4 (Nat.le_of_ble_eq_true rfl))).mp c_14
    replace hsp := hsp.trans (if_pos c_14)
    have hsp := hout_10 _ hsp
    refine lv_iload_n hx hb dX9_most_142 rfl (lv_at hl 3 rfl) ?_
    exact W.iret (v := g_3) hx hb hr (fun t ht hW => ⟨⟨g_3, (), rfl, (hsp.symm.trans hRR), trivial⟩, hS.F ht⟩) hS.2.2 dX9_most_143
  · have c_14 : ¬ (100 + u_12) ≤ g_4 := fun z => c_14 ((nI_leI (a := (100 + u_12)) (b := g_4) (by omega) (Nat.lt_of_le_of_lt hg_4 (Nat.le_of_ble_eq_true rfl))).mpr z)
    replace hsp := hsp.trans (if_neg c_14)
    refine lv_iconst (v := 0) hx hb dX9_most_22 (by decide) ?_
    refine lv_istore (lv' := [(5, .int 0), (0, .ref (ad 0)), (1, .int p0), (2, .int p1), (3, .int g_3), (4, .int (nI g_4))]) hx hb dX9_most_23 hl (by decide) rfl (fun ls hl => ?_)
    obtain ⟨JR_18, hJR_18, hsp⟩ := slet_ex hsp
    refine pu_join (fun H locs ls st => ∃ (g_15 : Int32) (g_16 : Nat), st = [] ∧ g_16 ≤ 4 ∧ (g_15, g_16) = JR_18 ∧ va_P (dC, dI) vwCl (mo_w ad ck x0 (nI x16) (nI x18) (nI x19) x20 (nI x21) (nI x22) x23 x24 x25 (nI x26) x27 (nI x28) (nI x29) (nI x30) (nI x33) x45 (nI x46) (nI x52) (nI x53) (nI x61) (nI x62) (nI x63) (nI x65) x66 f1 f2 f3 (bN 3 q4) (bN 7 q5) (bN 7 q6) (bN 4 q7) f8 (bN 2 q9) (bH q10) f11 (b2 m12_0 m12_1) (b2 m13_0 m13_1) (b2 m14_0 m14_1) (b2m m15_0 m15_1) f17 (bA 159 q31) f32 f34 f35 f36 f37 (bN 7 q38) f39 f40 f41 (b2 m42_0 m42_1) f43 f44 f47 f48 f49 f50 f51 (bN 13 q54) (bN 120 q55) (bN 120 q56) f57 (bN 120 q58) f59 f60 f64) H ∧ va_D (fun _ => True) (mo_w ad ck x0 (nI x16) (nI x18) (nI x19) x20 (nI x21) (nI x22) x23 x24 x25 (nI x26) x27 (nI x28) (nI x29) (nI x30) (nI x33) x45 (nI x46) (nI x52) (nI x53) (nI x61) (nI x62) (nI x63) (nI x65) x66 f1 f2 f3 (bN 3 q4) (bN 7 q5) (bN 7 q6) (bN 4 q7) f8 (bN 2 q9) (bH q10) f11 (b2 m12_0 m12_1) (b2 m13_0 m13_1) (b2 m14_0 m14_1) (b2m m15_0 m15_1) f17 (bA 159 q31) f32 f34 f35 f36 f37 (bN 7 q38) f39 f40 f41 (b2 m42_0 m42_1) f43 f44 f47 f48 f49 f50 f51 (bN 13 q54) (bN 120 q55) (bN 120 q56) f57 (bN 120 q58) f59 f60 f64) ∧ va_S (va_A [] s.heap.size) s.heap H locs ∧ lv_has ls 8 [(0, .ref (ad 0)), (1, .int p0), (2, .int p1), (3, .int g_15), (4, .int (nI g_4)), (5, .int (nI g_16))]) 136 ?_ (fun j_17 => ?_)
    · rintro H locs ls st ⟨g_15, g_16, rfl, hg_16, he_19, hP, hD, hS, hl⟩
      rw [← he_19] at hsp
      refine lv_iinc (v := (nI (g_4 + 1))) (lv' := [(4, .int (nI (g_4 + 1))), (0, .ref (ad 0)), (1, .int p0), (2, .int p1), (3, .int g_15), (5, .int (nI g_16))]) hx hb dX9_most_136 hl (k := 4) rfl (nI_1 _) (by decide) rfl (fun ls hl => ?_)
      refine lv_goto (tgt := 5) hx hb dX9_most_139 (by decide) ?_
      exact ih_5 (108 - (g_4 + 1)) (by omega) _ _ _ ⟨g_15, (g_4 + 1), rfl, (by omega), hin_9 _ hsp, hP, hD, hS, lv_sub hl [1, 2, 3, 4, 0] rfl⟩
    have hsp := hJR_18
    obtain ⟨lf_25, dlf_25, hlf_25, hsp⟩ := itr_ex hsp
    delta sp_EM_most_L1 at hlf_25
    refine pu_while (fun nn H locs ls => ∃ (g_22 : Int32) (g_23 : Nat), nn = 4 - g_23 ∧ g_23 ≤ 4 ∧ JR_18 = itrv dlf_25 lf_25 (g_22, g_23) ∧ va_P (dC, dI) vwCl (mo_w ad ck x0 (nI x16) (nI x18) (nI x19) x20 (nI x21) (nI x22) x23 x24 x25 (nI x26) x27 (nI x28) (nI x29) (nI x30) (nI x33) x45 (nI x46) (nI x52) (nI x53) (nI x61) (nI x62) (nI x63) (nI x65) x66 f1 f2 f3 (bN 3 q4) (bN 7 q5) (bN 7 q6) (bN 4 q7) f8 (bN 2 q9) (bH q10) f11 (b2 m12_0 m12_1) (b2 m13_0 m13_1) (b2 m14_0 m14_1) (b2m m15_0 m15_1) f17 (bA 159 q31) f32 f34 f35 f36 f37 (bN 7 q38) f39 f40 f41 (b2 m42_0 m42_1) f43 f44 f47 f48 f49 f50 f51 (bN 13 q54) (bN 120 q55) (bN 120 q56) f57 (bN 120 q58) f59 f60 f64) H ∧ va_D (fun _ => True) (mo_w ad ck x0 (nI x16) (nI x18) (nI x19) x20 (nI x21) (nI x22) x23 x24 x25 (nI x26) x27 (nI x28) (nI x29) (nI x30) (nI x33) x45 (nI x46) (nI x52) (nI x53) (nI x61) (nI x62) (nI x63) (nI x65) x66 f1 f2 f3 (bN 3 q4) (bN 7 q5) (bN 7 q6) (bN 4 q7) f8 (bN 2 q9) (bH q10) f11 (b2 m12_0 m12_1) (b2 m13_0 m13_1) (b2 m14_0 m14_1) (b2m m15_0 m15_1) f17 (bA 159 q31) f32 f34 f35 f36 f37 (bN 7 q38) f39 f40 f41 (b2 m42_0 m42_1) f43 f44 f47 f48 f49 f50 f51 (bN 13 q54) (bN 120 q55) (bN 120 q56) f57 (bN 120 q58) f59 f60 f64) ∧ va_S (va_A [] s.heap.size) s.heap H locs ∧ lv_has ls 8 [(0, .ref (ad 0)), (1, .int p0), (2, .int p1), (3, .int g_22), (4, .int (nI g_4)), (5, .int (nI g_23))]) 25 ?_ _ _ _ _ ⟨g_3, 0, rfl, (Nat.le_of_ble_eq_true rfl), hsp, hP, hD, hS, lv_sub hl [1, 2, 3, 4, 5, 0] rfl⟩
    rintro nn ih_24 H locs ls ⟨g_22, g_23, rfl, hg_23, he_27, hP, hD, hS, hl⟩
    obtain ⟨S_26, hsp, hin_28, hout_29⟩ := itr_step hlf_25 he_27
    refine lv_iload hx hb dX9_most_25 (lv_at hl 5 rfl) ?_
    refine lv_aload_n hx hb dX9_most_27 rfl (lv_at hl 0 rfl) ?_
    refine lv_iload hx hb dX9_most_28 (lv_at hl 4 rfl) ?_
    refine va_calli (va_runV (As := [.int (nI g_4)]) (rest := [.int (nI g_23)]) ⟨hx, hb, hml, hown, hts⟩ (c_EM_manyOf_n l dC dI _ ad ck x0 x16 x18 x19 x20 x21 x22 x23 x24 x25 x26 x27 x28 x29 x30 x33 x45 x46 x52 x53 x61 x62 x63 x65 x66 f1 f2 f3 q4 q5 q6 q7 f8 q9 q10 f11 m12_0 m12_1 m13_0 m13_1 m14_0 m14_1 m15_0 m15_1 f17 q31 f32 f34 f35 f36 f37 q38 f39 f40 f41 m42_0 m42_1 f43 f44 f47 f48 f49 f50 f51 q54 q55 q56 f57 q58 f59 f60 f64 g_4 hx16 hx18 hx19 hx21 hx22 hx26 hx28 hx29 hx30 hx33 hx46 hx52 hx53 hx61 hx62 hx63 hx65 hm12_0 hm12_1 hm13_0 hm13_1 hm14_0 hm14_1 hm15_0 hm15_1 hm42_0 hm42_1 (by omega)) (cwV 1 hts g_EM_most_EM_manyOf_n rfl rfl rfl (by decide +kernel) ⟨Nat.le_of_ble_eq_true rfl, Nat.le_of_ble_eq_true rfl⟩) ⟨pu_bl, va_recv hK hP (ci := 9) (q0 := 0) rfl rfl, pu_in hP hK hD⟩ rfl rfl hl.1 rfl (lv_room (Nat.le_of_ble_eq_true rfl)) dX9_most_30 ⟨Nat.le_of_ble_eq_true rfl, Nat.le_of_ble_eq_true rfl⟩) hS (fun q _ h => pu_fr hS hA q h) (pu_fr hS hA) (fun r_30 u t H1 locs ht hvm hw hB hz1 hk1 hS => ?_)
    have hP := pu_keep hP hk1
    clear hk1 hz1 ht hvm
    generalize H1 = H at hP hS ⊢
    obtain ⟨u_31, hu_31, mu_31, ju_31, iu_31⟩ := hw
    replace hsp := hsp.trans (slet_eq iu_31)
    rcases ju_31 with zu_31 | ⟨u_32, hu_32, iu_32, zu_31⟩ | ⟨u_32, hu_32, iu_32, zu_31⟩
    · obtain rfl : r_30 = -1 := by rw [mu_31, zu_31]; rfl
      replace hsp := hsp.trans (if_pos zu_31)
      refine lv_icmp_ge (tgt := 136) hx hb dX9_most_33 (by decide) (fun _ => ?_) (fun z => absurd (pu_negle (n := g_23) (by omega) (by decide)) z)
      have hsp := hout_29 _ hsp
      exact j_17 _ _ _ _ ⟨g_22, g_23, rfl, hg_23, hsp.symm, hP, hD, hS, lv_sub hl [0, 1, 2, 3, 4, 5] rfl⟩
    · obtain rfl : r_30 = nI u_32 := by rw [mu_31, zu_31]; rfl
      replace hsp := hsp.trans (if_neg (by omega))
      replace hsp := hsp.trans (if_pos (by omega))
      replace hsp := hsp.trans (slet_eq (by omega : u_32 = u_31 - 1))
      refine lv_icmp_ge (tgt := 136) hx hb dX9_most_33 (by decide) (fun c_33 => ?_) (fun c_33 => ?_)
      · have c_33 : u_32 ≤ g_23 := (nI_leI (a := u_32) (b := g_23) (by omega) (Nat.lt_of_le_of_lt hg_23 (Nat.le_of_ble_eq_true rfl))).mp c_33
        replace hsp := hsp.trans (if_pos c_33)
        have hsp := hout_29 _ hsp
        exact j_17 _ _ _ _ ⟨g_22, g_23, rfl, hg_23, hsp.symm, hP, hD, hS, lv_sub hl [0, 1, 2, 3, 4, 5] rfl⟩
      · have c_33 : ¬ u_32 ≤ g_23 := fun z => c_33 ((nI_leI (a := u_32) (b := g_23) (by omega) (Nat.lt_of_le_of_lt hg_23 (Nat.le_of_ble_eq_true rfl))).mpr z)
        replace hsp := hsp.trans (if_neg c_33)
        refine lv_aload_n hx hb dX9_most_36 rfl (lv_at hl 0 rfl) ?_
        refine lv_iload hx hb dX9_most_37 (lv_at hl 4 rfl) ?_
        refine lv_iload hx hb dX9_most_39 (lv_at hl 5 rfl) ?_
        refine va_calli (va_runV (As := [.int (nI g_4), .int (nI g_23)]) (rest := []) ⟨hx, hb, hml, hown, hts⟩ (c_EM_spot_e l dC dI _ ad ck x0 x16 x18 x19 x20 x21 x22 x23 x24 x25 x26 x27 x28 x29 x30 x33 x45 x46 x52 x53 x61 x62 x63 x65 x66 f1 f2 f3 q4 q5 q6 q7 f8 q9 q10 f11 m12_0 m12_1 m13_0 m13_1 m14_0 m14_1 m15_0 m15_1 f17 q31 f32 f34 f35 f36 f37 q38 f39 f40 f41 m42_0 m42_1 f43 f44 f47 f48 f49 f50 f51 q54 q55 q56 f57 q58 f59 f60 f64 g_4 g_23 hx16 hx18 hx19 hx21 hx22 hx26 hx28 hx29 hx30 hx33 hx46 hx52 hx53 hx61 hx62 hx63 hx65 hm12_0 hm12_1 hm13_0 hm13_1 hm14_0 hm14_1 hm15_0 hm15_1 hm42_0 hm42_1 (by omega) (by omega)) (cwV 2 hts g_EM_most_EM_spot_e rfl rfl rfl (by decide +kernel) ⟨Nat.le_of_ble_eq_true rfl, Nat.le_of_ble_eq_true rfl⟩) ⟨pu_bl, va_recv hK hP (ci := 9) (q0 := 0) rfl rfl, pu_in hP hK hD⟩ rfl rfl hl.1 rfl (lv_room (Nat.le_of_ble_eq_true rfl)) dX9_most_41 ⟨Nat.le_of_ble_eq_true rfl, Nat.le_of_ble_eq_true rfl⟩) hS (fun q _ h => pu_fr hS hA q h) (pu_fr hS hA) (fun r_34 u t H1 locs ht hvm hw hB hz1 hk1 hS => ?_)
        have hP := pu_keep hP hk1
        clear hk1 hz1 ht hvm
        generalize H1 = H at hP hS ⊢
        obtain rfl : r_34 = nI (80 * x16 + 4 * g_4 + g_23) := hw
        refine lv_istore (lv' := [(6, .int (nI (80 * x16 + 4 * g_4 + g_23))), (0, .ref (ad 0)), (1, .int p0), (2, .int p1), (3, .int g_22), (4, .int (nI g_4)), (5, .int (nI g_23))]) hx hb dX9_most_44 hl (by decide) rfl (fun ls hl => ?_)
        refine lv_iload_n hx hb dX9_most_46 rfl (lv_at hl 3 rfl) ?_
        obtain ⟨JR_37, hJR_37, hsp⟩ := slet_ex hsp
        refine pu_join (fun H locs ls st => ∃ (g_35 : Nat), st = [.int (nI g_35)] ∧ g_35 ≤ 1 ∧ g_35 = JR_37 ∧ va_P (dC, dI) vwCl (mo_w ad ck x0 (nI x16) (nI x18) (nI x19) x20 (nI x21) (nI x22) x23 x24 x25 (nI x26) x27 (nI x28) (nI x29) (nI x30) (nI x33) x45 (nI x46) (nI x52) (nI x53) (nI x61) (nI x62) (nI x63) (nI x65) x66 f1 f2 f3 (bN 3 q4) (bN 7 q5) (bN 7 q6) (bN 4 q7) f8 (bN 2 q9) (bH q10) f11 (b2 m12_0 m12_1) (b2 m13_0 m13_1) (b2 m14_0 m14_1) (b2m m15_0 m15_1) f17 (bA 159 q31) f32 f34 f35 f36 f37 (bN 7 q38) f39 f40 f41 (b2 m42_0 m42_1) f43 f44 f47 f48 f49 f50 f51 (bN 13 q54) (bN 120 q55) (bN 120 q56) f57 (bN 120 q58) f59 f60 f64) H ∧ va_D (fun _ => True) (mo_w ad ck x0 (nI x16) (nI x18) (nI x19) x20 (nI x21) (nI x22) x23 x24 x25 (nI x26) x27 (nI x28) (nI x29) (nI x30) (nI x33) x45 (nI x46) (nI x52) (nI x53) (nI x61) (nI x62) (nI x63) (nI x65) x66 f1 f2 f3 (bN 3 q4) (bN 7 q5) (bN 7 q6) (bN 4 q7) f8 (bN 2 q9) (bH q10) f11 (b2 m12_0 m12_1) (b2 m13_0 m13_1) (b2 m14_0 m14_1) (b2m m15_0 m15_1) f17 (bA 159 q31) f32 f34 f35 f36 f37 (bN 7 q38) f39 f40 f41 (b2 m42_0 m42_1) f43 f44 f47 f48 f49 f50 f51 (bN 13 q54) (bN 120 q55) (bN 120 q56) f57 (bN 120 q58) f59 f60 f64) ∧ va_S (va_A [] s.heap.size) s.heap H locs ∧ lv_has ls 8 [(0, .ref (ad 0)), (1, .int p0), (2, .int p1), (3, .int g_22), (4, .int (nI g_4)), (5, .int (nI g_23)), (6, .int (nI (80 * x16 + 4 * g_4 + g_23)))]) 96 ?_ (fun j_36 => ?_)
        · rintro H locs ls st ⟨g_35, rfl, hg_35, he_38, hP, hD, hS, hl⟩
          rw [← he_38] at hsp
          refine lv_istore (lv' := [(7, .int (nI g_35)), (0, .ref (ad 0)), (1, .int p0), (2, .int p1), (3, .int g_22), (4, .int (nI g_4)), (5, .int (nI g_23)), (6, .int (nI (80 * x16 + 4 * g_4 + g_23)))]) hx hb dX9_most_96 hl (by decide) rfl (fun ls hl => ?_)
          refine lv_aload_n hx hb dX9_most_98 rfl (lv_at hl 1 rfl) ?_
          refine va_get (D := (dC, dI)) (ci := 9) (v := .ref (ad 9)) (C := RX9) (T := TX9) (N := 67) hx hb hts hiX9 hown hK hP 0 rfl rfl 9 (by decide) v_13 (fun _ h9 => h9) rfl dX9_most_99 ?_
          refine lv_iload hx hb dX9_most_102 (lv_at hl 7 rfl) ?_
          refine va_iald hx hb hK hP 9 8 rfl rfl (vp_in_nI (n := (80 * x16 + 4 * g_4 + g_23)) (by omega) (Nat.le_of_ble_eq_true rfl)) dX9_most_104 ?_
          refine lv_topi (fun y_39 ey_39 => ?_)
          obtain ⟨u_40, hu_40, qu_40, xu_40⟩ := bN_getx 2 q9 (n := (80 * x16 + 4 * g_4 + g_23)) (by first | omega | exact Nat.lt_trans (zx16 (by omega) (by omega) (by omega)) (Nat.le_of_ble_eq_true rfl) | exact Nat.lt_trans (zy16 (by omega) (by omega)) (Nat.le_of_ble_eq_true rfl) | exact Nat.lt_trans (zx25 (by omega) (by omega) (by omega)) (Nat.le_of_ble_eq_true rfl) | exact Nat.lt_trans (zy25 (by omega) (by omega)) (Nat.le_of_ble_eq_true rfl))
          obtain rfl : y_39 = nI u_40 := ey_39.trans qu_40
          replace hsp := hsp.trans (slet_eq xu_40)
          refine lv_iload_n hx hb dX9_most_105 rfl (lv_at hl 2 rfl) ?_
          obtain ⟨JR_43, hJR_43, hsp⟩ := slet_ex hsp
          refine pu_join (fun H locs ls st => ∃ (g_41 : Int32), st = [.int g_41] ∧ g_41 = JR_43 ∧ va_P (dC, dI) vwCl (mo_w ad ck x0 (nI x16) (nI x18) (nI x19) x20 (nI x21) (nI x22) x23 x24 x25 (nI x26) x27 (nI x28) (nI x29) (nI x30) (nI x33) x45 (nI x46) (nI x52) (nI x53) (nI x61) (nI x62) (nI x63) (nI x65) x66 f1 f2 f3 (bN 3 q4) (bN 7 q5) (bN 7 q6) (bN 4 q7) f8 (bN 2 q9) (bH q10) f11 (b2 m12_0 m12_1) (b2 m13_0 m13_1) (b2 m14_0 m14_1) (b2m m15_0 m15_1) f17 (bA 159 q31) f32 f34 f35 f36 f37 (bN 7 q38) f39 f40 f41 (b2 m42_0 m42_1) f43 f44 f47 f48 f49 f50 f51 (bN 13 q54) (bN 120 q55) (bN 120 q56) f57 (bN 120 q58) f59 f60 f64) H ∧ va_D (fun _ => True) (mo_w ad ck x0 (nI x16) (nI x18) (nI x19) x20 (nI x21) (nI x22) x23 x24 x25 (nI x26) x27 (nI x28) (nI x29) (nI x30) (nI x33) x45 (nI x46) (nI x52) (nI x53) (nI x61) (nI x62) (nI x63) (nI x65) x66 f1 f2 f3 (bN 3 q4) (bN 7 q5) (bN 7 q6) (bN 4 q7) f8 (bN 2 q9) (bH q10) f11 (b2 m12_0 m12_1) (b2 m13_0 m13_1) (b2 m14_0 m14_1) (b2m m15_0 m15_1) f17 (bA 159 q31) f32 f34 f35 f36 f37 (bN 7 q38) f39 f40 f41 (b2 m42_0 m42_1) f43 f44 f47 f48 f49 f50 f51 (bN 13 q54) (bN 120 q55) (bN 120 q56) f57 (bN 120 q58) f59 f60 f64) ∧ va_S (va_A [] s.heap.size) s.heap H locs ∧ lv_has ls 8 [(0, .ref (ad 0)), (1, .int p0), (2, .int p1), (3, .int g_22), (4, .int (nI g_4)), (5, .int (nI g_23)), (6, .int (nI (80 * x16 + 4 * g_4 + g_23))), (7, .int (nI g_35))]) 129 ?_ (fun j_42 => ?_)
          · rintro H locs ls st ⟨g_41, rfl, he_44, hP, hD, hS, hl⟩
            rw [← he_44] at hsp
            refine lv_istore_n (lv' := [(3, .int g_41), (0, .ref (ad 0)), (1, .int p0), (2, .int p1), (4, .int (nI g_4)), (5, .int (nI g_23)), (6, .int (nI (80 * x16 + 4 * g_4 + g_23))), (7, .int (nI g_35))]) hx hb dX9_most_129 rfl hl (by decide) rfl (fun ls hl => ?_)
            refine lv_iinc (v := (nI (g_23 + 1))) (lv' := [(5, .int (nI (g_23 + 1))), (3, .int g_41), (0, .ref (ad 0)), (1, .int p0), (2, .int p1), (4, .int (nI g_4)), (6, .int (nI (80 * x16 + 4 * g_4 + g_23))), (7, .int (nI g_35))]) hx hb dX9_most_130 hl (k := 5) rfl (nI_1 _) (by decide) rfl (fun ls hl => ?_)
            refine lv_goto (tgt := 25) hx hb dX9_most_133 (by decide) ?_
            exact ih_24 (4 - (g_23 + 1)) (by omega) _ _ _ ⟨g_41, (g_23 + 1), rfl, (by omega), hin_28 _ hsp, hP, hD, hS, lv_sub hl [2, 3, 4, 1, 5, 0] rfl⟩
          have hsp := hJR_43
          refine lv_icmp_ne (tgt := 128) hx hb dX9_most_106 (by decide) (fun c_45 => ?_) (fun c_45 => ?_)
          · have hcc_45 := c_45
            replace hsp := hsp.trans (if_neg c_45)
            refine lv_iload_n hx hb dX9_most_128 rfl (lv_at hl 4 rfl) ?_
            exact j_42 _ _ _ _ ⟨g_22, rfl, hsp.symm, hP, hD, hS, lv_sub hl [1, 2, 3, 4, 5, 6, 7, 0] rfl⟩
          · have hcc_45 := c_45
            replace hsp := hsp.trans (if_pos c_45)
            refine lv_iload hx hb dX9_most_109 (lv_at hl 0 rfl) ?_
            refine lv_if_eq (tgt := 128) hx hb dX9_most_111 (by decide) (fun c_46 => ?_) (fun c_46 => ?_)
            · have c_46 : g_35 = 0 := (nI_eq (a := g_35) (b := 0) (Nat.lt_of_le_of_lt hg_35 (Nat.le_of_ble_eq_true rfl)) (Nat.le_of_ble_eq_true rfl)).mp c_46
              replace hsp := hsp.trans (if_pos c_46)
              refine lv_iload_n hx hb dX9_most_128 rfl (lv_at hl 4 rfl) ?_
              exact j_42 _ _ _ _ ⟨g_22, rfl, hsp.symm, hP, hD, hS, lv_sub hl [1, 2, 3, 4, 5, 6, 7, 0] rfl⟩
            · have c_46 : ¬ g_35 = 0 := fun z => c_46 ((nI_eq (a := g_35) (b := 0) (Nat.lt_of_le_of_lt hg_35 (Nat.le_of_ble_eq_true rfl)) (Nat.le_of_ble_eq_true rfl)).mpr z)
              replace hsp := hsp.trans (if_neg c_46)
              refine lv_iload_n hx hb dX9_most_114 rfl (lv_at hl 4 rfl) ?_
              refine lv_aload_n hx hb dX9_most_115 rfl (lv_at hl 1 rfl) ?_
              refine va_get (D := (dC, dI)) (ci := 9) (v := .ref (ad 11)) (C := RX9) (T := TX9) (N := 67) hx hb hts hiX9 hown hK hP 0 rfl rfl 11 (by decide) v_14 (fun _ h9 => h9) rfl dX9_most_116 ?_
              refine lv_iload hx hb dX9_most_119 (lv_at hl 7 rfl) ?_
              refine va_iald hx hb hK hP 11 10 rfl rfl (vp_in_nI (n := (80 * x16 + 4 * g_4 + g_23)) (by omega) (Nat.le_of_ble_eq_true rfl)) dX9_most_121 ?_
              refine lv_topi (fun y_47 ey_47 => ?_)
              have ey_47 : y_47 = f11 (80 * x16 + 4 * g_4 + g_23) := ey_47.trans (congrArg f11 (nI_clamp (n := (80 * x16 + 4 * g_4 + g_23)) (by first | omega | exact Nat.lt_trans (zx16 (by omega) (by omega) (by omega)) (Nat.le_of_ble_eq_true rfl) | exact Nat.lt_trans (zy16 (by omega) (by omega)) (Nat.le_of_ble_eq_true rfl) | exact Nat.lt_trans (zx25 (by omega) (by omega) (by omega)) (Nat.le_of_ble_eq_true rfl) | exact Nat.lt_trans (zy25 (by omega) (by omega)) (Nat.le_of_ble_eq_true rfl))))
              replace hsp := hsp.trans (slet_eq ey_47)
              refine va_calli (va_runS (As := [.int g_22, .int y_47]) (rest := []) ⟨hx, hb, hml, hown, hts⟩ (c_EM_greater l dC dI _ ad ck x0 x16 x18 x19 x20 x21 x22 x23 x24 x25 x26 x27 x28 x29 x30 x33 x45 x46 x52 x53 x61 x62 x63 x65 x66 f1 f2 f3 q4 q5 q6 q7 f8 q9 q10 f11 m12_0 m12_1 m13_0 m13_1 m14_0 m14_1 m15_0 m15_1 f17 q31 f32 f34 f35 f36 f37 q38 f39 f40 f41 m42_0 m42_1 f43 f44 f47 f48 f49 f50 f51 q54 q55 q56 f57 q58 f59 f60 f64 g_22 y_47 hx16 hx18 hx19 hx21 hx22 hx26 hx28 hx29 hx30 hx33 hx46 hx52 hx53 hx61 hx62 hx63 hx65 hm12_0 hm12_1 hm13_0 hm13_1 hm14_0 hm14_1 hm15_0 hm15_1 hm42_0 hm42_1) (va_cwS 2 hts g_EM_most_EM_greater rfl rfl rfl (by decide +kernel) ⟨Nat.le_of_ble_eq_true rfl, Nat.le_of_ble_eq_true rfl⟩) ⟨pu_bl, pu_in hP hK hD⟩ rfl rfl hl.1 rfl (lv_room (Nat.le_of_ble_eq_true rfl)) dX9_most_122 ⟨Nat.le_of_ble_eq_true rfl, Nat.le_of_ble_eq_true rfl⟩) hS (fun q _ h => pu_fr hS hA q h) (pu_fr hS hA) (fun r_48 u t H1 locs ht hvm hw hB hz1 hk1 hS => ?_)
              have hP := pu_keep hP hk1
              clear hk1 hz1 ht hvm
              generalize H1 = H at hP hS ⊢
              have ir_48 := hw
              replace hsp := hsp.trans (slet_eq ir_48)
              refine lv_goto (tgt := 129) hx hb dX9_most_125 (by decide) ?_
              exact j_42 _ _ _ _ ⟨r_48, rfl, hsp.symm, hP, hD, hS, lv_sub hl [1, 2, 3, 4, 5, 6, 7, 0] rfl⟩
        have hsp := hJR_37
        refine lv_if_eq (tgt := 91) hx hb dX9_most_47 (by decide) (fun c_49 => ?_) (fun c_49 => ?_)
        · have hcc_49 := c_49
          replace hsp := hsp.trans (if_pos c_49)
          refine lv_iconst (v := 1) hx hb dX9_most_91 (by decide) ?_
          refine lv_goto (tgt := 96) hx hb dX9_most_92 (by decide) ?_
          exact j_36 _ _ _ _ ⟨1, rfl, (Nat.le_of_ble_eq_true rfl), hsp.symm, hP, hD, hS, lv_sub hl [1, 2, 3, 4, 5, 6, 0] rfl⟩
        · have hcc_49 := c_49
          replace hsp := hsp.trans (if_neg c_49)
          refine lv_aload_n hx hb dX9_most_50 rfl (lv_at hl 1 rfl) ?_
          refine va_get (D := (dC, dI)) (ci := 9) (v := .ref (ad 10)) (C := RX9) (T := TX9) (N := 67) hx hb hts hiX9 hown hK hP 0 rfl rfl 10 (by decide) v_12 (fun _ h9 => h9) rfl dX9_most_51 ?_
          refine lv_iload hx hb dX9_most_54 (lv_at hl 0 rfl) ?_
          refine va_iald hx hb hK hP 10 9 rfl rfl (vp_in_nI (n := (80 * x16 + 4 * g_4 + g_23)) (by omega) (Nat.le_of_ble_eq_true rfl)) dX9_most_56 ?_
          refine lv_topi (fun y_50 ey_50 => ?_)
          obtain ⟨u_51, hu_51, qu_51, xu_51⟩ := bH_getx q10 (i := (80 * x16 + 4 * g_4 + g_23)) (by omega)
          obtain rfl : y_50 = nI u_51 := ey_50.trans qu_51
          replace hsp := hsp.trans (slet_eq xu_51)
          refine lv_iconst (v := 2) hx hb dX9_most_57 (by decide) ?_
          refine lv_icmp_eq (tgt := 91) hx hb dX9_most_58 (by decide) (fun c_52 => ?_) (fun c_52 => ?_)
          · have c_52 : u_51 = 2 := (nI_eq (a := u_51) (b := 2) (by omega) (Nat.le_of_ble_eq_true rfl)).mp c_52
            replace hsp := hsp.trans (if_pos c_52)
            refine lv_iconst (v := 1) hx hb dX9_most_91 (by decide) ?_
            refine lv_goto (tgt := 96) hx hb dX9_most_92 (by decide) ?_
            exact j_36 _ _ _ _ ⟨1, rfl, (Nat.le_of_ble_eq_true rfl), hsp.symm, hP, hD, hS, lv_sub hl [1, 2, 3, 4, 5, 6, 0] rfl⟩
          · have c_52 : ¬ u_51 = 2 := fun z => c_52 ((nI_eq (a := u_51) (b := 2) (by omega) (Nat.le_of_ble_eq_true rfl)).mpr z)
            replace hsp := hsp.trans (if_neg c_52)
            refine lv_iload_n hx hb dX9_most_61 rfl (lv_at hl 3 rfl) ?_
            refine lv_iconst (v := 1) hx hb dX9_most_62 (by decide) ?_
            refine lv_icmp_ne (tgt := 80) hx hb dX9_most_63 (by decide) (fun c_53 => ?_) (fun c_53 => ?_)
            · have hcc_53 := c_53
              replace hsp := hsp.trans (if_neg c_53)
              refine lv_aload_n hx hb dX9_most_80 rfl (lv_at hl 1 rfl) ?_
              refine va_get (D := (dC, dI)) (ci := 9) (v := .ref (ad 10)) (C := RX9) (T := TX9) (N := 67) hx hb hts hiX9 hown hK hP 0 rfl rfl 10 (by decide) v_12 (fun _ h9 => h9) rfl dX9_most_81 ?_
              refine lv_iload hx hb dX9_most_84 (lv_at hl 0 rfl) ?_
              refine va_iald hx hb hK hP 10 9 rfl rfl (vp_in_nI (n := (80 * x16 + 4 * g_4 + g_23)) (by omega) (Nat.le_of_ble_eq_true rfl)) dX9_most_86 ?_
              refine lv_topi (fun y_54 ey_54 => ?_)
              obtain rfl : y_54 = nI u_51 := ey_54.trans qu_51
              refine lv_iconst (v := 2) hx hb dX9_most_87 (by decide) ?_
              refine lv_icmp_ge (tgt := 95) hx hb dX9_most_88 (by decide) (fun c_56 => ?_) (fun c_56 => ?_)
              · have c_56 : 2 ≤ u_51 := (nI_leI (a := 2) (b := u_51) (Nat.le_of_ble_eq_true rfl) (by omega)).mp c_56
                replace hsp := hsp.trans (if_pos c_56)
                refine lv_iconst (v := 0) hx hb dX9_most_95 (by decide) ?_
                exact j_36 _ _ _ _ ⟨0, rfl, (Nat.le_of_ble_eq_true rfl), hsp.symm, hP, hD, hS, lv_sub hl [1, 2, 3, 4, 5, 6, 0] rfl⟩
              · have c_56 : ¬ 2 ≤ u_51 := fun z => c_56 ((nI_leI (a := 2) (b := u_51) (Nat.le_of_ble_eq_true rfl) (by omega)).mpr z)
                replace hsp := hsp.trans (if_neg c_56)
                refine lv_iconst (v := 1) hx hb dX9_most_91 (by decide) ?_
                refine lv_goto (tgt := 96) hx hb dX9_most_92 (by decide) ?_
                exact j_36 _ _ _ _ ⟨1, rfl, (Nat.le_of_ble_eq_true rfl), hsp.symm, hP, hD, hS, lv_sub hl [1, 2, 3, 4, 5, 6, 0] rfl⟩
            · have hcc_53 := c_53
              replace hsp := hsp.trans (if_pos c_53)
              refine lv_aload_n hx hb dX9_most_66 rfl (lv_at hl 1 rfl) ?_
              refine va_get (D := (dC, dI)) (ci := 9) (v := .ref (ad 10)) (C := RX9) (T := TX9) (N := 67) hx hb hts hiX9 hown hK hP 0 rfl rfl 10 (by decide) v_12 (fun _ h9 => h9) rfl dX9_most_67 ?_
              refine lv_iload hx hb dX9_most_70 (lv_at hl 0 rfl) ?_
              refine va_iald hx hb hK hP 10 9 rfl rfl (vp_in_nI (n := (80 * x16 + 4 * g_4 + g_23)) (by omega) (Nat.le_of_ble_eq_true rfl)) dX9_most_72 ?_
              refine lv_topi (fun y_57 ey_57 => ?_)
              obtain rfl : y_57 = nI u_51 := ey_57.trans qu_51
              refine lv_iconst (v := 2) hx hb dX9_most_73 (by decide) ?_
              refine lv_icmp_le (tgt := 95) hx hb dX9_most_74 (by decide) (fun c_59 => ?_) (fun c_59 => ?_)
              · have c_59 : u_51 ≤ 2 := (nI_leI (a := u_51) (b := 2) (by omega) (Nat.le_of_ble_eq_true rfl)).mp c_59
                replace hsp := hsp.trans (if_pos c_59)
                refine lv_iconst (v := 0) hx hb dX9_most_95 (by decide) ?_
                exact j_36 _ _ _ _ ⟨0, rfl, (Nat.le_of_ble_eq_true rfl), hsp.symm, hP, hD, hS, lv_sub hl [1, 2, 3, 4, 5, 6, 0] rfl⟩
              · have c_59 : ¬ u_51 ≤ 2 := fun z => c_59 ((nI_leI (a := u_51) (b := 2) (by omega) (Nat.le_of_ble_eq_true rfl)).mpr z)
                replace hsp := hsp.trans (if_neg c_59)
                refine lv_goto (tgt := 91) hx hb dX9_most_77 (by decide) ?_
                refine lv_iconst (v := 1) hx hb dX9_most_91 (by decide) ?_
                refine lv_goto (tgt := 96) hx hb dX9_most_92 (by decide) ?_
                exact j_36 _ _ _ _ ⟨1, rfl, (Nat.le_of_ble_eq_true rfl), hsp.symm, hP, hD, hS, lv_sub hl [1, 2, 3, 4, 5, 6, 0] rfl⟩
    · obtain rfl : r_30 = nI u_32 := by rw [mu_31, zu_31]; rfl
      replace hsp := hsp.trans (if_neg (by omega))
      replace hsp := hsp.trans (if_neg (by omega))
      replace hsp := hsp.trans (slet_eq (by omega : u_32 = u_31 - 1))
      refine lv_icmp_ge (tgt := 136) hx hb dX9_most_33 (by decide) (fun c_60 => ?_) (fun c_60 => ?_)
      · have c_60 : u_32 ≤ g_23 := (nI_leI (a := u_32) (b := g_23) (by omega) (Nat.lt_of_le_of_lt hg_23 (Nat.le_of_ble_eq_true rfl))).mp c_60
        replace hsp := hsp.trans (if_pos c_60)
        have hsp := hout_29 _ hsp
        exact j_17 _ _ _ _ ⟨g_22, g_23, rfl, hg_23, hsp.symm, hP, hD, hS, lv_sub hl [0, 1, 2, 3, 4, 5] rfl⟩
      · have c_60 : ¬ u_32 ≤ g_23 := fun z => c_60 ((nI_leI (a := u_32) (b := g_23) (by omega) (Nat.lt_of_le_of_lt hg_23 (Nat.le_of_ble_eq_true rfl))).mpr z)
        replace hsp := hsp.trans (if_neg c_60)
        refine lv_aload_n hx hb dX9_most_36 rfl (lv_at hl 0 rfl) ?_
        refine lv_iload hx hb dX9_most_37 (lv_at hl 4 rfl) ?_
        refine lv_iload hx hb dX9_most_39 (lv_at hl 5 rfl) ?_
        refine va_calli (va_runV (As := [.int (nI g_4), .int (nI g_23)]) (rest := []) ⟨hx, hb, hml, hown, hts⟩ (c_EM_spot_p l dC dI _ ad ck x0 x16 x18 x19 x20 x21 x22 x23 x24 x25 x26 x27 x28 x29 x30 x33 x45 x46 x52 x53 x61 x62 x63 x65 x66 f1 f2 f3 q4 q5 q6 q7 f8 q9 q10 f11 m12_0 m12_1 m13_0 m13_1 m14_0 m14_1 m15_0 m15_1 f17 q31 f32 f34 f35 f36 f37 q38 f39 f40 f41 m42_0 m42_1 f43 f44 f47 f48 f49 f50 f51 q54 q55 q56 f57 q58 f59 f60 f64 g_4 g_23 hx16 hx18 hx19 hx21 hx22 hx26 hx28 hx29 hx30 hx33 hx46 hx52 hx53 hx61 hx62 hx63 hx65 hm12_0 hm12_1 hm13_0 hm13_1 hm14_0 hm14_1 hm15_0 hm15_1 hm42_0 hm42_1 (by omega) (by omega) (by omega)) (cwV 2 hts g_EM_most_EM_spot_p rfl rfl rfl (by decide +kernel) ⟨Nat.le_of_ble_eq_true rfl, Nat.le_of_ble_eq_true rfl⟩) ⟨pu_bl, va_recv hK hP (ci := 9) (q0 := 0) rfl rfl, pu_in hP hK hD⟩ rfl rfl hl.1 rfl (lv_room (Nat.le_of_ble_eq_true rfl)) dX9_most_41 ⟨Nat.le_of_ble_eq_true rfl, Nat.le_of_ble_eq_true rfl⟩) hS (fun q _ h => pu_fr hS hA q h) (pu_fr hS hA) (fun r_61 u t H1 locs ht hvm hw hB hz1 hk1 hS => ?_)
        have hP := pu_keep hP hk1
        clear hk1 hz1 ht hvm
        generalize H1 = H at hP hS ⊢
        obtain rfl : r_61 = nI (80 * x16 + (56 + 3 * (g_4 - 100)) + g_23) := hw
        refine lv_istore (lv' := [(6, .int (nI (80 * x16 + (56 + 3 * (g_4 - 100)) + g_23))), (0, .ref (ad 0)), (1, .int p0), (2, .int p1), (3, .int g_22), (4, .int (nI g_4)), (5, .int (nI g_23))]) hx hb dX9_most_44 hl (by decide) rfl (fun ls hl => ?_)
        refine lv_iload_n hx hb dX9_most_46 rfl (lv_at hl 3 rfl) ?_
        obtain ⟨JR_64, hJR_64, hsp⟩ := slet_ex hsp
        refine pu_join (fun H locs ls st => ∃ (g_62 : Nat), st = [.int (nI g_62)] ∧ g_62 ≤ 1 ∧ g_62 = JR_64 ∧ va_P (dC, dI) vwCl (mo_w ad ck x0 (nI x16) (nI x18) (nI x19) x20 (nI x21) (nI x22) x23 x24 x25 (nI x26) x27 (nI x28) (nI x29) (nI x30) (nI x33) x45 (nI x46) (nI x52) (nI x53) (nI x61) (nI x62) (nI x63) (nI x65) x66 f1 f2 f3 (bN 3 q4) (bN 7 q5) (bN 7 q6) (bN 4 q7) f8 (bN 2 q9) (bH q10) f11 (b2 m12_0 m12_1) (b2 m13_0 m13_1) (b2 m14_0 m14_1) (b2m m15_0 m15_1) f17 (bA 159 q31) f32 f34 f35 f36 f37 (bN 7 q38) f39 f40 f41 (b2 m42_0 m42_1) f43 f44 f47 f48 f49 f50 f51 (bN 13 q54) (bN 120 q55) (bN 120 q56) f57 (bN 120 q58) f59 f60 f64) H ∧ va_D (fun _ => True) (mo_w ad ck x0 (nI x16) (nI x18) (nI x19) x20 (nI x21) (nI x22) x23 x24 x25 (nI x26) x27 (nI x28) (nI x29) (nI x30) (nI x33) x45 (nI x46) (nI x52) (nI x53) (nI x61) (nI x62) (nI x63) (nI x65) x66 f1 f2 f3 (bN 3 q4) (bN 7 q5) (bN 7 q6) (bN 4 q7) f8 (bN 2 q9) (bH q10) f11 (b2 m12_0 m12_1) (b2 m13_0 m13_1) (b2 m14_0 m14_1) (b2m m15_0 m15_1) f17 (bA 159 q31) f32 f34 f35 f36 f37 (bN 7 q38) f39 f40 f41 (b2 m42_0 m42_1) f43 f44 f47 f48 f49 f50 f51 (bN 13 q54) (bN 120 q55) (bN 120 q56) f57 (bN 120 q58) f59 f60 f64) ∧ va_S (va_A [] s.heap.size) s.heap H locs ∧ lv_has ls 8 [(0, .ref (ad 0)), (1, .int p0), (2, .int p1), (3, .int g_22), (4, .int (nI g_4)), (5, .int (nI g_23)), (6, .int (nI (80 * x16 + (56 + 3 * (g_4 - 100)) + g_23)))]) 96 ?_ (fun j_63 => ?_)
        · rintro H locs ls st ⟨g_62, rfl, hg_62, he_65, hP, hD, hS, hl⟩
          rw [← he_65] at hsp
          refine lv_istore (lv' := [(7, .int (nI g_62)), (0, .ref (ad 0)), (1, .int p0), (2, .int p1), (3, .int g_22), (4, .int (nI g_4)), (5, .int (nI g_23)), (6, .int (nI (80 * x16 + (56 + 3 * (g_4 - 100)) + g_23)))]) hx hb dX9_most_96 hl (by decide) rfl (fun ls hl => ?_)
          refine lv_aload_n hx hb dX9_most_98 rfl (lv_at hl 1 rfl) ?_
          refine va_get (D := (dC, dI)) (ci := 9) (v := .ref (ad 9)) (C := RX9) (T := TX9) (N := 67) hx hb hts hiX9 hown hK hP 0 rfl rfl 9 (by decide) v_13 (fun _ h9 => h9) rfl dX9_most_99 ?_
          refine lv_iload hx hb dX9_most_102 (lv_at hl 7 rfl) ?_
          refine va_iald hx hb hK hP 9 8 rfl rfl (vp_in_nI (n := (80 * x16 + (56 + 3 * (g_4 - 100)) + g_23)) (by omega) (Nat.le_of_ble_eq_true rfl)) dX9_most_104 ?_
          refine lv_topi (fun y_66 ey_66 => ?_)
          obtain ⟨u_67, hu_67, qu_67, xu_67⟩ := bN_getx 2 q9 (n := (80 * x16 + (56 + 3 * (g_4 - 100)) + g_23)) (by first | omega | exact Nat.lt_trans (zx16 (by omega) (by omega) (by omega)) (Nat.le_of_ble_eq_true rfl) | exact Nat.lt_trans (zy16 (by omega) (by omega)) (Nat.le_of_ble_eq_true rfl) | exact Nat.lt_trans (zx25 (by omega) (by omega) (by omega)) (Nat.le_of_ble_eq_true rfl) | exact Nat.lt_trans (zy25 (by omega) (by omega)) (Nat.le_of_ble_eq_true rfl))
          obtain rfl : y_66 = nI u_67 := ey_66.trans qu_67
          replace hsp := hsp.trans (slet_eq xu_67)
          refine lv_iload_n hx hb dX9_most_105 rfl (lv_at hl 2 rfl) ?_
          obtain ⟨JR_70, hJR_70, hsp⟩ := slet_ex hsp
          refine pu_join (fun H locs ls st => ∃ (g_68 : Int32), st = [.int g_68] ∧ g_68 = JR_70 ∧ va_P (dC, dI) vwCl (mo_w ad ck x0 (nI x16) (nI x18) (nI x19) x20 (nI x21) (nI x22) x23 x24 x25 (nI x26) x27 (nI x28) (nI x29) (nI x30) (nI x33) x45 (nI x46) (nI x52) (nI x53) (nI x61) (nI x62) (nI x63) (nI x65) x66 f1 f2 f3 (bN 3 q4) (bN 7 q5) (bN 7 q6) (bN 4 q7) f8 (bN 2 q9) (bH q10) f11 (b2 m12_0 m12_1) (b2 m13_0 m13_1) (b2 m14_0 m14_1) (b2m m15_0 m15_1) f17 (bA 159 q31) f32 f34 f35 f36 f37 (bN 7 q38) f39 f40 f41 (b2 m42_0 m42_1) f43 f44 f47 f48 f49 f50 f51 (bN 13 q54) (bN 120 q55) (bN 120 q56) f57 (bN 120 q58) f59 f60 f64) H ∧ va_D (fun _ => True) (mo_w ad ck x0 (nI x16) (nI x18) (nI x19) x20 (nI x21) (nI x22) x23 x24 x25 (nI x26) x27 (nI x28) (nI x29) (nI x30) (nI x33) x45 (nI x46) (nI x52) (nI x53) (nI x61) (nI x62) (nI x63) (nI x65) x66 f1 f2 f3 (bN 3 q4) (bN 7 q5) (bN 7 q6) (bN 4 q7) f8 (bN 2 q9) (bH q10) f11 (b2 m12_0 m12_1) (b2 m13_0 m13_1) (b2 m14_0 m14_1) (b2m m15_0 m15_1) f17 (bA 159 q31) f32 f34 f35 f36 f37 (bN 7 q38) f39 f40 f41 (b2 m42_0 m42_1) f43 f44 f47 f48 f49 f50 f51 (bN 13 q54) (bN 120 q55) (bN 120 q56) f57 (bN 120 q58) f59 f60 f64) ∧ va_S (va_A [] s.heap.size) s.heap H locs ∧ lv_has ls 8 [(0, .ref (ad 0)), (1, .int p0), (2, .int p1), (3, .int g_22), (4, .int (nI g_4)), (5, .int (nI g_23)), (6, .int (nI (80 * x16 + (56 + 3 * (g_4 - 100)) + g_23))), (7, .int (nI g_62))]) 129 ?_ (fun j_69 => ?_)
          · rintro H locs ls st ⟨g_68, rfl, he_71, hP, hD, hS, hl⟩
            rw [← he_71] at hsp
            refine lv_istore_n (lv' := [(3, .int g_68), (0, .ref (ad 0)), (1, .int p0), (2, .int p1), (4, .int (nI g_4)), (5, .int (nI g_23)), (6, .int (nI (80 * x16 + (56 + 3 * (g_4 - 100)) + g_23))), (7, .int (nI g_62))]) hx hb dX9_most_129 rfl hl (by decide) rfl (fun ls hl => ?_)
            refine lv_iinc (v := (nI (g_23 + 1))) (lv' := [(5, .int (nI (g_23 + 1))), (3, .int g_68), (0, .ref (ad 0)), (1, .int p0), (2, .int p1), (4, .int (nI g_4)), (6, .int (nI (80 * x16 + (56 + 3 * (g_4 - 100)) + g_23))), (7, .int (nI g_62))]) hx hb dX9_most_130 hl (k := 5) rfl (nI_1 _) (by decide) rfl (fun ls hl => ?_)
            refine lv_goto (tgt := 25) hx hb dX9_most_133 (by decide) ?_
            exact ih_24 (4 - (g_23 + 1)) (by omega) _ _ _ ⟨g_68, (g_23 + 1), rfl, (by omega), hin_28 _ hsp, hP, hD, hS, lv_sub hl [2, 3, 4, 1, 5, 0] rfl⟩
          have hsp := hJR_70
          refine lv_icmp_ne (tgt := 128) hx hb dX9_most_106 (by decide) (fun c_72 => ?_) (fun c_72 => ?_)
          · have hcc_72 := c_72
            replace hsp := hsp.trans (if_neg c_72)
            refine lv_iload_n hx hb dX9_most_128 rfl (lv_at hl 4 rfl) ?_
            exact j_69 _ _ _ _ ⟨g_22, rfl, hsp.symm, hP, hD, hS, lv_sub hl [1, 2, 3, 4, 5, 6, 7, 0] rfl⟩
          · have hcc_72 := c_72
            replace hsp := hsp.trans (if_pos c_72)
            refine lv_iload hx hb dX9_most_109 (lv_at hl 0 rfl) ?_
            refine lv_if_eq (tgt := 128) hx hb dX9_most_111 (by decide) (fun c_73 => ?_) (fun c_73 => ?_)
            · have c_73 : g_62 = 0 := (nI_eq (a := g_62) (b := 0) (Nat.lt_of_le_of_lt hg_62 (Nat.le_of_ble_eq_true rfl)) (Nat.le_of_ble_eq_true rfl)).mp c_73
              replace hsp := hsp.trans (if_pos c_73)
              refine lv_iload_n hx hb dX9_most_128 rfl (lv_at hl 4 rfl) ?_
              exact j_69 _ _ _ _ ⟨g_22, rfl, hsp.symm, hP, hD, hS, lv_sub hl [1, 2, 3, 4, 5, 6, 7, 0] rfl⟩
            · have c_73 : ¬ g_62 = 0 := fun z => c_73 ((nI_eq (a := g_62) (b := 0) (Nat.lt_of_le_of_lt hg_62 (Nat.le_of_ble_eq_true rfl)) (Nat.le_of_ble_eq_true rfl)).mpr z)
              replace hsp := hsp.trans (if_neg c_73)
              refine lv_iload_n hx hb dX9_most_114 rfl (lv_at hl 4 rfl) ?_
              refine lv_aload_n hx hb dX9_most_115 rfl (lv_at hl 1 rfl) ?_
              refine va_get (D := (dC, dI)) (ci := 9) (v := .ref (ad 11)) (C := RX9) (T := TX9) (N := 67) hx hb hts hiX9 hown hK hP 0 rfl rfl 11 (by decide) v_14 (fun _ h9 => h9) rfl dX9_most_116 ?_
              refine lv_iload hx hb dX9_most_119 (lv_at hl 7 rfl) ?_
              refine va_iald hx hb hK hP 11 10 rfl rfl (vp_in_nI (n := (80 * x16 + (56 + 3 * (g_4 - 100)) + g_23)) (by omega) (Nat.le_of_ble_eq_true rfl)) dX9_most_121 ?_
              refine lv_topi (fun y_74 ey_74 => ?_)
              have ey_74 : y_74 = f11 (80 * x16 + (56 + 3 * (g_4 - 100)) + g_23) := ey_74.trans (congrArg f11 (nI_clamp (n := (80 * x16 + (56 + 3 * (g_4 - 100)) + g_23)) (by first | omega | exact Nat.lt_trans (zx16 (by omega) (by omega) (by omega)) (Nat.le_of_ble_eq_true rfl) | exact Nat.lt_trans (zy16 (by omega) (by omega)) (Nat.le_of_ble_eq_true rfl) | exact Nat.lt_trans (zx25 (by omega) (by omega) (by omega)) (Nat.le_of_ble_eq_true rfl) | exact Nat.lt_trans (zy25 (by omega) (by omega)) (Nat.le_of_ble_eq_true rfl))))
              replace hsp := hsp.trans (slet_eq ey_74)
              refine va_calli (va_runS (As := [.int g_22, .int y_74]) (rest := []) ⟨hx, hb, hml, hown, hts⟩ (c_EM_greater l dC dI _ ad ck x0 x16 x18 x19 x20 x21 x22 x23 x24 x25 x26 x27 x28 x29 x30 x33 x45 x46 x52 x53 x61 x62 x63 x65 x66 f1 f2 f3 q4 q5 q6 q7 f8 q9 q10 f11 m12_0 m12_1 m13_0 m13_1 m14_0 m14_1 m15_0 m15_1 f17 q31 f32 f34 f35 f36 f37 q38 f39 f40 f41 m42_0 m42_1 f43 f44 f47 f48 f49 f50 f51 q54 q55 q56 f57 q58 f59 f60 f64 g_22 y_74 hx16 hx18 hx19 hx21 hx22 hx26 hx28 hx29 hx30 hx33 hx46 hx52 hx53 hx61 hx62 hx63 hx65 hm12_0 hm12_1 hm13_0 hm13_1 hm14_0 hm14_1 hm15_0 hm15_1 hm42_0 hm42_1) (va_cwS 2 hts g_EM_most_EM_greater rfl rfl rfl (by decide +kernel) ⟨Nat.le_of_ble_eq_true rfl, Nat.le_of_ble_eq_true rfl⟩) ⟨pu_bl, pu_in hP hK hD⟩ rfl rfl hl.1 rfl (lv_room (Nat.le_of_ble_eq_true rfl)) dX9_most_122 ⟨Nat.le_of_ble_eq_true rfl, Nat.le_of_ble_eq_true rfl⟩) hS (fun q _ h => pu_fr hS hA q h) (pu_fr hS hA) (fun r_75 u t H1 locs ht hvm hw hB hz1 hk1 hS => ?_)
              have hP := pu_keep hP hk1
              clear hk1 hz1 ht hvm
              generalize H1 = H at hP hS ⊢
              have ir_75 := hw
              replace hsp := hsp.trans (slet_eq ir_75)
              refine lv_goto (tgt := 129) hx hb dX9_most_125 (by decide) ?_
              exact j_69 _ _ _ _ ⟨r_75, rfl, hsp.symm, hP, hD, hS, lv_sub hl [1, 2, 3, 4, 5, 6, 7, 0] rfl⟩
        have hsp := hJR_64
        refine lv_if_eq (tgt := 91) hx hb dX9_most_47 (by decide) (fun c_76 => ?_) (fun c_76 => ?_)
        · have hcc_76 := c_76
          replace hsp := hsp.trans (if_pos c_76)
          refine lv_iconst (v := 1) hx hb dX9_most_91 (by decide) ?_
          refine lv_goto (tgt := 96) hx hb dX9_most_92 (by decide) ?_
          exact j_63 _ _ _ _ ⟨1, rfl, (Nat.le_of_ble_eq_true rfl), hsp.symm, hP, hD, hS, lv_sub hl [1, 2, 3, 4, 5, 6, 0] rfl⟩
        · have hcc_76 := c_76
          replace hsp := hsp.trans (if_neg c_76)
          refine lv_aload_n hx hb dX9_most_50 rfl (lv_at hl 1 rfl) ?_
          refine va_get (D := (dC, dI)) (ci := 9) (v := .ref (ad 10)) (C := RX9) (T := TX9) (N := 67) hx hb hts hiX9 hown hK hP 0 rfl rfl 10 (by decide) v_12 (fun _ h9 => h9) rfl dX9_most_51 ?_
          refine lv_iload hx hb dX9_most_54 (lv_at hl 0 rfl) ?_
          refine va_iald hx hb hK hP 10 9 rfl rfl (vp_in_nI (n := (80 * x16 + (56 + 3 * (g_4 - 100)) + g_23)) (by omega) (Nat.le_of_ble_eq_true rfl)) dX9_most_56 ?_
          refine lv_topi (fun y_77 ey_77 => ?_)
          obtain ⟨u_78, hu_78, qu_78, xu_78⟩ := bH_getx q10 (i := (80 * x16 + (56 + 3 * (g_4 - 100)) + g_23)) (by omega)
          obtain rfl : y_77 = nI u_78 := ey_77.trans qu_78
          replace hsp := hsp.trans (slet_eq xu_78)
          refine lv_iconst (v := 2) hx hb dX9_most_57 (by decide) ?_
          refine lv_icmp_eq (tgt := 91) hx hb dX9_most_58 (by decide) (fun c_79 => ?_) (fun c_79 => ?_)
          · have c_79 : u_78 = 2 := (nI_eq (a := u_78) (b := 2) (by omega) (Nat.le_of_ble_eq_true rfl)).mp c_79
            replace hsp := hsp.trans (if_pos c_79)
            refine lv_iconst (v := 1) hx hb dX9_most_91 (by decide) ?_
            refine lv_goto (tgt := 96) hx hb dX9_most_92 (by decide) ?_
            exact j_63 _ _ _ _ ⟨1, rfl, (Nat.le_of_ble_eq_true rfl), hsp.symm, hP, hD, hS, lv_sub hl [1, 2, 3, 4, 5, 6, 0] rfl⟩
          · have c_79 : ¬ u_78 = 2 := fun z => c_79 ((nI_eq (a := u_78) (b := 2) (by omega) (Nat.le_of_ble_eq_true rfl)).mpr z)
            replace hsp := hsp.trans (if_neg c_79)
            refine lv_iload_n hx hb dX9_most_61 rfl (lv_at hl 3 rfl) ?_
            refine lv_iconst (v := 1) hx hb dX9_most_62 (by decide) ?_
            refine lv_icmp_ne (tgt := 80) hx hb dX9_most_63 (by decide) (fun c_80 => ?_) (fun c_80 => ?_)
            · have hcc_80 := c_80
              replace hsp := hsp.trans (if_neg c_80)
              refine lv_aload_n hx hb dX9_most_80 rfl (lv_at hl 1 rfl) ?_
              refine va_get (D := (dC, dI)) (ci := 9) (v := .ref (ad 10)) (C := RX9) (T := TX9) (N := 67) hx hb hts hiX9 hown hK hP 0 rfl rfl 10 (by decide) v_12 (fun _ h9 => h9) rfl dX9_most_81 ?_
              refine lv_iload hx hb dX9_most_84 (lv_at hl 0 rfl) ?_
              refine va_iald hx hb hK hP 10 9 rfl rfl (vp_in_nI (n := (80 * x16 + (56 + 3 * (g_4 - 100)) + g_23)) (by omega) (Nat.le_of_ble_eq_true rfl)) dX9_most_86 ?_
              refine lv_topi (fun y_81 ey_81 => ?_)
              obtain rfl : y_81 = nI u_78 := ey_81.trans qu_78
              refine lv_iconst (v := 2) hx hb dX9_most_87 (by decide) ?_
              refine lv_icmp_ge (tgt := 95) hx hb dX9_most_88 (by decide) (fun c_83 => ?_) (fun c_83 => ?_)
              · have c_83 : 2 ≤ u_78 := (nI_leI (a := 2) (b := u_78) (Nat.le_of_ble_eq_true rfl) (by omega)).mp c_83
                replace hsp := hsp.trans (if_pos c_83)
                refine lv_iconst (v := 0) hx hb dX9_most_95 (by decide) ?_
                exact j_63 _ _ _ _ ⟨0, rfl, (Nat.le_of_ble_eq_true rfl), hsp.symm, hP, hD, hS, lv_sub hl [1, 2, 3, 4, 5, 6, 0] rfl⟩
              · have c_83 : ¬ 2 ≤ u_78 := fun z => c_83 ((nI_leI (a := 2) (b := u_78) (Nat.le_of_ble_eq_true rfl) (by omega)).mpr z)
                replace hsp := hsp.trans (if_neg c_83)
                refine lv_iconst (v := 1) hx hb dX9_most_91 (by decide) ?_
                refine lv_goto (tgt := 96) hx hb dX9_most_92 (by decide) ?_
                exact j_63 _ _ _ _ ⟨1, rfl, (Nat.le_of_ble_eq_true rfl), hsp.symm, hP, hD, hS, lv_sub hl [1, 2, 3, 4, 5, 6, 0] rfl⟩
            · have hcc_80 := c_80
              replace hsp := hsp.trans (if_pos c_80)
              refine lv_aload_n hx hb dX9_most_66 rfl (lv_at hl 1 rfl) ?_
              refine va_get (D := (dC, dI)) (ci := 9) (v := .ref (ad 10)) (C := RX9) (T := TX9) (N := 67) hx hb hts hiX9 hown hK hP 0 rfl rfl 10 (by decide) v_12 (fun _ h9 => h9) rfl dX9_most_67 ?_
              refine lv_iload hx hb dX9_most_70 (lv_at hl 0 rfl) ?_
              refine va_iald hx hb hK hP 10 9 rfl rfl (vp_in_nI (n := (80 * x16 + (56 + 3 * (g_4 - 100)) + g_23)) (by omega) (Nat.le_of_ble_eq_true rfl)) dX9_most_72 ?_
              refine lv_topi (fun y_84 ey_84 => ?_)
              obtain rfl : y_84 = nI u_78 := ey_84.trans qu_78
              refine lv_iconst (v := 2) hx hb dX9_most_73 (by decide) ?_
              refine lv_icmp_le (tgt := 95) hx hb dX9_most_74 (by decide) (fun c_86 => ?_) (fun c_86 => ?_)
              · have c_86 : u_78 ≤ 2 := (nI_leI (a := u_78) (b := 2) (by omega) (Nat.le_of_ble_eq_true rfl)).mp c_86
                replace hsp := hsp.trans (if_pos c_86)
                refine lv_iconst (v := 0) hx hb dX9_most_95 (by decide) ?_
                exact j_63 _ _ _ _ ⟨0, rfl, (Nat.le_of_ble_eq_true rfl), hsp.symm, hP, hD, hS, lv_sub hl [1, 2, 3, 4, 5, 6, 0] rfl⟩
              · have c_86 : ¬ u_78 ≤ 2 := fun z => c_86 ((nI_leI (a := u_78) (b := 2) (by omega) (Nat.le_of_ble_eq_true rfl)).mpr z)
                replace hsp := hsp.trans (if_neg c_86)
                refine lv_goto (tgt := 91) hx hb dX9_most_77 (by decide) ?_
                refine lv_iconst (v := 1) hx hb dX9_most_91 (by decide) ?_
                refine lv_goto (tgt := 96) hx hb dX9_most_92 (by decide) ?_
                exact j_63 _ _ _ _ ⟨1, rfl, (Nat.le_of_ble_eq_true rfl), hsp.symm, hP, hD, hS, lv_sub hl [1, 2, 3, 4, 5, 6, 0] rfl⟩
