theorem dX9_isHeld_0 : decode cX9_isHeld 0 = .ok (.iconst 0, 1) := by decide +kernel
theorem dX9_isHeld_1 : decode cX9_isHeld 1 = .ok (.istore_n 3, 1) := by decide +kernel
theorem dX9_isHeld_2 : decode cX9_isHeld 2 = .ok (.iload_n 3, 1) := by decide +kernel
theorem dX9_isHeld_3 : decode cX9_isHeld 3 = .ok (.aload_n 0, 1) := by decide +kernel
theorem dX9_isHeld_4 : decode cX9_isHeld 4 = .ok (.iload_n 1, 1) := by decide +kernel
theorem dX9_isHeld_5 : decode cX9_isHeld 5 = .ok (.invokevirtual 295, 3) := by decide +kernel
theorem dX9_isHeld_8 : decode cX9_isHeld 8 = .ok (.if_icmp .ge 186, 3) := by decide +kernel
theorem dX9_isHeld_11 : decode cX9_isHeld 11 = .ok (.aload_n 0, 1) := by decide +kernel
theorem dX9_isHeld_12 : decode cX9_isHeld 12 = .ok (.iload_n 1, 1) := by decide +kernel
theorem dX9_isHeld_13 : decode cX9_isHeld 13 = .ok (.iload_n 3, 1) := by decide +kernel
theorem dX9_isHeld_14 : decode cX9_isHeld 14 = .ok (.invokevirtual 311, 3) := by decide +kernel
theorem dX9_isHeld_17 : decode cX9_isHeld 17 = .ok (.istore 4, 2) := by decide +kernel
theorem dX9_isHeld_19 : decode cX9_isHeld 19 = .ok (.iload_n 2, 1) := by decide +kernel
theorem dX9_isHeld_20 : decode cX9_isHeld 20 = .ok (.aload_n 0, 1) := by decide +kernel
theorem dX9_isHeld_21 : decode cX9_isHeld 21 = .ok (.getfield 34, 3) := by decide +kernel
theorem dX9_isHeld_24 : decode cX9_isHeld 24 = .ok (.iload 4, 2) := by decide +kernel
theorem dX9_isHeld_26 : decode cX9_isHeld 26 = .ok (.iaload, 1) := by decide +kernel
theorem dX9_isHeld_27 : decode cX9_isHeld 27 = .ok (.invokestatic 248, 3) := by decide +kernel
theorem dX9_isHeld_30 : decode cX9_isHeld 30 = .ok (.ifCond .eq 7, 3) := by decide +kernel
theorem dX9_isHeld_33 : decode cX9_isHeld 33 = .ok (.iconst 0, 1) := by decide +kernel
theorem dX9_isHeld_34 : decode cX9_isHeld 34 = .ok (.goto 15, 3) := by decide +kernel
theorem dX9_isHeld_37 : decode cX9_isHeld 37 = .ok (.aload_n 0, 1) := by decide +kernel
theorem dX9_isHeld_38 : decode cX9_isHeld 38 = .ok (.getfield 139, 3) := by decide +kernel
theorem dX9_isHeld_41 : decode cX9_isHeld 41 = .ok (.aload_n 0, 1) := by decide +kernel
theorem dX9_isHeld_42 : decode cX9_isHeld 42 = .ok (.getfield 34, 3) := by decide +kernel
theorem dX9_isHeld_45 : decode cX9_isHeld 45 = .ok (.iload 4, 2) := by decide +kernel
theorem dX9_isHeld_47 : decode cX9_isHeld 47 = .ok (.iaload, 1) := by decide +kernel
theorem dX9_isHeld_48 : decode cX9_isHeld 48 = .ok (.iaload, 1) := by decide +kernel
theorem dX9_isHeld_49 : decode cX9_isHeld 49 = .ok (.istore 5, 2) := by decide +kernel
theorem dX9_isHeld_51 : decode cX9_isHeld 51 = .ok (.sipush 256, 3) := by decide +kernel
theorem dX9_isHeld_54 : decode cX9_isHeld 54 = .ok (.aload_n 0, 1) := by decide +kernel
theorem dX9_isHeld_55 : decode cX9_isHeld 55 = .ok (.getfield 40, 3) := by decide +kernel
theorem dX9_isHeld_58 : decode cX9_isHeld 58 = .ok (.iload 4, 2) := by decide +kernel
theorem dX9_isHeld_60 : decode cX9_isHeld 60 = .ok (.iaload, 1) := by decide +kernel
theorem dX9_isHeld_61 : decode cX9_isHeld 61 = .ok (.imul, 1) := by decide +kernel
theorem dX9_isHeld_62 : decode cX9_isHeld 62 = .ok (.istore 6, 2) := by decide +kernel
theorem dX9_isHeld_64 : decode cX9_isHeld 64 = .ok (.aload_n 0, 1) := by decide +kernel
theorem dX9_isHeld_65 : decode cX9_isHeld 65 = .ok (.getfield 37, 3) := by decide +kernel
theorem dX9_isHeld_68 : decode cX9_isHeld 68 = .ok (.iload 4, 2) := by decide +kernel
theorem dX9_isHeld_70 : decode cX9_isHeld 70 = .ok (.iaload, 1) := by decide +kernel
theorem dX9_isHeld_71 : decode cX9_isHeld 71 = .ok (.ifCond .ne 18, 3) := by decide +kernel
theorem dX9_isHeld_74 : decode cX9_isHeld 74 = .ok (.iload 5, 2) := by decide +kernel
theorem dX9_isHeld_76 : decode cX9_isHeld 76 = .ok (.iload 6, 2) := by decide +kernel
theorem dX9_isHeld_78 : decode cX9_isHeld 78 = .ok (.if_icmp .ge 7, 3) := by decide +kernel
theorem dX9_isHeld_81 : decode cX9_isHeld 81 = .ok (.iconst 1, 1) := by decide +kernel
theorem dX9_isHeld_82 : decode cX9_isHeld 82 = .ok (.goto 97, 3) := by decide +kernel
theorem dX9_isHeld_85 : decode cX9_isHeld 85 = .ok (.iconst 0, 1) := by decide +kernel
theorem dX9_isHeld_86 : decode cX9_isHeld 86 = .ok (.goto 93, 3) := by decide +kernel
theorem dX9_isHeld_89 : decode cX9_isHeld 89 = .ok (.aload_n 0, 1) := by decide +kernel
theorem dX9_isHeld_90 : decode cX9_isHeld 90 = .ok (.getfield 37, 3) := by decide +kernel
theorem dX9_isHeld_93 : decode cX9_isHeld 93 = .ok (.iload 4, 2) := by decide +kernel
theorem dX9_isHeld_95 : decode cX9_isHeld 95 = .ok (.iaload, 1) := by decide +kernel
theorem dX9_isHeld_96 : decode cX9_isHeld 96 = .ok (.iconst 1, 1) := by decide +kernel
theorem dX9_isHeld_97 : decode cX9_isHeld 97 = .ok (.if_icmp .ne 18, 3) := by decide +kernel
theorem dX9_isHeld_100 : decode cX9_isHeld 100 = .ok (.iload 5, 2) := by decide +kernel
theorem dX9_isHeld_102 : decode cX9_isHeld 102 = .ok (.iload 6, 2) := by decide +kernel
theorem dX9_isHeld_104 : decode cX9_isHeld 104 = .ok (.if_icmp .gt 7, 3) := by decide +kernel
theorem dX9_isHeld_107 : decode cX9_isHeld 107 = .ok (.iconst 1, 1) := by decide +kernel
theorem dX9_isHeld_108 : decode cX9_isHeld 108 = .ok (.goto 71, 3) := by decide +kernel
theorem dX9_isHeld_111 : decode cX9_isHeld 111 = .ok (.iconst 0, 1) := by decide +kernel
theorem dX9_isHeld_112 : decode cX9_isHeld 112 = .ok (.goto 67, 3) := by decide +kernel
theorem dX9_isHeld_115 : decode cX9_isHeld 115 = .ok (.aload_n 0, 1) := by decide +kernel
theorem dX9_isHeld_116 : decode cX9_isHeld 116 = .ok (.getfield 37, 3) := by decide +kernel
theorem dX9_isHeld_119 : decode cX9_isHeld 119 = .ok (.iload 4, 2) := by decide +kernel
theorem dX9_isHeld_121 : decode cX9_isHeld 121 = .ok (.iaload, 1) := by decide +kernel
theorem dX9_isHeld_122 : decode cX9_isHeld 122 = .ok (.iconst 2, 1) := by decide +kernel
theorem dX9_isHeld_123 : decode cX9_isHeld 123 = .ok (.if_icmp .ne 18, 3) := by decide +kernel
theorem dX9_isHeld_126 : decode cX9_isHeld 126 = .ok (.iload 5, 2) := by decide +kernel
theorem dX9_isHeld_128 : decode cX9_isHeld 128 = .ok (.iload 6, 2) := by decide +kernel
theorem dX9_isHeld_130 : decode cX9_isHeld 130 = .ok (.if_icmp .ne 7, 3) := by decide +kernel
theorem dX9_isHeld_133 : decode cX9_isHeld 133 = .ok (.iconst 1, 1) := by decide +kernel
theorem dX9_isHeld_134 : decode cX9_isHeld 134 = .ok (.goto 45, 3) := by decide +kernel
theorem dX9_isHeld_137 : decode cX9_isHeld 137 = .ok (.iconst 0, 1) := by decide +kernel
theorem dX9_isHeld_138 : decode cX9_isHeld 138 = .ok (.goto 41, 3) := by decide +kernel
theorem dX9_isHeld_141 : decode cX9_isHeld 141 = .ok (.aload_n 0, 1) := by decide +kernel
theorem dX9_isHeld_142 : decode cX9_isHeld 142 = .ok (.getfield 37, 3) := by decide +kernel
theorem dX9_isHeld_145 : decode cX9_isHeld 145 = .ok (.iload 4, 2) := by decide +kernel
theorem dX9_isHeld_147 : decode cX9_isHeld 147 = .ok (.iaload, 1) := by decide +kernel
theorem dX9_isHeld_148 : decode cX9_isHeld 148 = .ok (.iconst 3, 1) := by decide +kernel
theorem dX9_isHeld_149 : decode cX9_isHeld 149 = .ok (.if_icmp .ne 18, 3) := by decide +kernel
theorem dX9_isHeld_152 : decode cX9_isHeld 152 = .ok (.iload 5, 2) := by decide +kernel
theorem dX9_isHeld_154 : decode cX9_isHeld 154 = .ok (.iload 6, 2) := by decide +kernel
theorem dX9_isHeld_156 : decode cX9_isHeld 156 = .ok (.if_icmp .lt 7, 3) := by decide +kernel
theorem dX9_isHeld_159 : decode cX9_isHeld 159 = .ok (.iconst 1, 1) := by decide +kernel
theorem dX9_isHeld_160 : decode cX9_isHeld 160 = .ok (.goto 19, 3) := by decide +kernel
theorem dX9_isHeld_163 : decode cX9_isHeld 163 = .ok (.iconst 0, 1) := by decide +kernel
theorem dX9_isHeld_164 : decode cX9_isHeld 164 = .ok (.goto 15, 3) := by decide +kernel
theorem dX9_isHeld_167 : decode cX9_isHeld 167 = .ok (.iload 5, 2) := by decide +kernel
theorem dX9_isHeld_169 : decode cX9_isHeld 169 = .ok (.iload 6, 2) := by decide +kernel
theorem dX9_isHeld_171 : decode cX9_isHeld 171 = .ok (.if_icmp .le 7, 3) := by decide +kernel
theorem dX9_isHeld_174 : decode cX9_isHeld 174 = .ok (.iconst 1, 1) := by decide +kernel
theorem dX9_isHeld_175 : decode cX9_isHeld 175 = .ok (.goto 4, 3) := by decide +kernel
theorem dX9_isHeld_178 : decode cX9_isHeld 178 = .ok (.iconst 0, 1) := by decide +kernel
theorem dX9_isHeld_179 : decode cX9_isHeld 179 = .ok (.istore 7, 2) := by decide +kernel
theorem dX9_isHeld_181 : decode cX9_isHeld 181 = .ok (.iload 7, 2) := by decide +kernel
theorem dX9_isHeld_183 : decode cX9_isHeld 183 = .ok (.ifCond .ne 5, 3) := by decide +kernel
theorem dX9_isHeld_186 : decode cX9_isHeld 186 = .ok (.iconst 0, 1) := by decide +kernel
theorem dX9_isHeld_187 : decode cX9_isHeld 187 = .ok (.ireturn, 1) := by decide +kernel
theorem dX9_isHeld_188 : decode cX9_isHeld 188 = .ok (.iinc 3 1, 3) := by decide +kernel
theorem dX9_isHeld_191 : decode cX9_isHeld 191 = .ok (.goto (-189), 3) := by decide +kernel
theorem dX9_isHeld_194 : decode cX9_isHeld 194 = .ok (.iconst 1, 1) := by decide +kernel
theorem dX9_isHeld_195 : decode cX9_isHeld 195 = .ok (.ireturn, 1) := by decide +kernel
abbrev vs_EM_isHeld_e : List Cond := .code yX9_isHeld cX9_isHeld 8 (some .boolean) :: VM
theorem g_EM_isHeld_e_EM_manyOf_e : GoodIn vs_EM_isHeld_e (wsV RX9 295 RX9 yX9_manyOf vs_EM_manyOf_e) := gm_V vm_152 vm_153 vm_154 vm_19 vm_155
theorem g_EM_isHeld_e_EM_spot_e : GoodIn vs_EM_isHeld_e (wsV RX9 311 RX9 yX9_spot vs_EM_spot_e) := gm_V vm_160 vm_161 vm_162 vm_19 vm_163
theorem g_EM_isHeld_e_EM_isOf : GoodIn vs_EM_isHeld_e (va_wsS RX9 248 yX9_isOf vs_EM_isOf) := gm_S vm_114 vm_115 vm_19 vm_116
noncomputable def sp_EM_isHeld_e_L1 (x16 : Nat) (q7 : Nat → Nat) (q9 : Nat → Nat) (q10 : Nat → Nat) (f11 : Nat → Int32) (m13_0 : Nat) (m13_1 : Nat) (m14_0 : Nat) (m14_1 : Nat) (f64 : Nat → Int32) (a0 : Nat) (p1 : Int32) : (Nat) → (Nat) ⊕ (Nat) := fun g_2 => (slet (sp_EM_manyOf_e x16 q7 m13_0 m13_1 m14_0 m14_1 a0) (fun u_10 => (if u_10 = 0 then (Sum.inr 1) else (slet (u_10 - 1) (fun n_11 => (if n_11 ≤ g_2 then (Sum.inr 1) else (slet (min (q9 (80 * x16 + 4 * a0 + g_2)) 2) (fun u_15 => (slet (α := Int32) (slet (sp_EM_isOf p1 (nI u_15)) (fun u_45 => (if u_45 = 0 then (slet (f64 u_15) (fun y_49 => y_49)) else 0))) (fun g_16 => (slet (f11 (80 * x16 + 4 * a0 + g_2)) (fun y_20 => (slet ((256 : Int32) * y_20) (fun y_21 => (slet (min (q10 (80 * x16 + 4 * a0 + g_2)) (if (80 * x16 + 4 * a0 + g_2) % 80 < 56 then 4 else 1)) (fun u_23 => (slet (α := Nat) (if u_23 = 0 then (if (y_21 : Int32) ≤ g_16 then 0 else 1) else (if u_23 = 1 then (if (y_21 : Int32) < g_16 then 0 else 1) else (if u_23 = 2 then (if (g_16 : Int32) = y_21 then 1 else 0) else (if u_23 = 3 then (if (g_16 : Int32) < y_21 then 0 else 1) else (if (g_16 : Int32) ≤ y_21 then 0 else 1))))) (fun g_24 => (if g_24 = 0 then (Sum.inr 0) else (Sum.inl (g_2 + 1)))))))))))))))))))))
noncomputable def sp_EM_isHeld_e (x16 : Nat) (q7 : Nat → Nat) (q9 : Nat → Nat) (q10 : Nat → Nat) (f11 : Nat → Int32) (m13_0 : Nat) (m13_1 : Nat) (m14_0 : Nat) (m14_1 : Nat) (f64 : Nat → Int32) (a0 : Nat) (p1 : Int32) : Nat := (itrv (α := Nat) (β := (Nat)) default (sp_EM_isHeld_e_L1 x16 q7 q9 q10 f11 m13_0 m13_1 m14_0 m14_1 f64 a0 p1) 0)
set_option maxHeartbeats 4000000 in
set_option maxRecDepth 100000 in
theorem c_EM_isHeld_e (l : Launch) (dC : Nat → ClassId) (dI : Nat → Nat → Nat) (sz : Nat) (ad : Nat → Nat) (ck : Nat → ClassId) (x0 : Int32) (x16 : Nat) (x18 : Nat) (x19 : Nat) (x20 : Int32) (x21 : Nat) (x22 : Nat) (x23 : Int32) (x24 : Int32) (x25 : Int32) (x26 : Nat) (x27 : Int32) (x28 : Nat) (x29 : Nat) (x30 : Nat) (x33 : Nat) (x45 : Int32) (x46 : Nat) (x52 : Nat) (x53 : Nat) (x61 : Nat) (x62 : Nat) (x63 : Nat) (x65 : Nat) (x66 : Int32) (f1 : Nat → Int32) (f2 : Nat → Int32) (f3 : Nat → Int32) (q4 : Nat → Nat) (q5 : Nat → Nat) (q6 : Nat → Nat) (q7 : Nat → Nat) (f8 : Nat → Int32) (q9 : Nat → Nat) (q10 : Nat → Nat) (f11 : Nat → Int32) (m12_0 m12_1 : Nat) (m13_0 m13_1 : Nat) (m14_0 m14_1 : Nat) (m15_0 m15_1 : Nat) (f17 : Nat → Int32) (q31 : Nat → Nat) (f32 : Nat → Int32) (f34 : Nat → Int32) (f35 : Nat → Int32) (f36 : Nat → Int32) (f37 : Nat → Int32) (q38 : Nat → Nat) (f39 : Nat → Int32) (f40 : Nat → Int32) (f41 : Nat → Int32) (m42_0 m42_1 : Nat) (f43 : Nat → Int32) (f44 : Nat → Int32) (f47 : Nat → Int32) (f48 : Nat → Int32) (f49 : Nat → Int32) (f50 : Nat → Int32) (f51 : Nat → Int32) (q54 : Nat → Nat) (q55 : Nat → Nat) (q56 : Nat → Nat) (f57 : Nat → Int32) (q58 : Nat → Nat) (f59 : Nat → Int32) (f60 : Nat → Int32) (f64 : Nat → Int32) (a0 : Nat) (p1 : Int32) (hx16 : x16 ≤ 1) (hx18 : x18 ≤ 900) (hx19 : x19 ≤ 900) (hx21 : x21 ≤ 900) (hx22 : x22 ≤ 4) (hx26 : x26 ≤ 6) (hx28 : x28 ≤ 1) (hx29 : x29 ≤ 1) (hx30 : x30 ≤ 1) (hx33 : x33 ≤ 20) (hx46 : x46 ≤ 5) (hx52 : x52 ≤ 2400) (hx53 : x53 ≤ 119) (hx61 : x61 ≤ 119) (hx62 : x62 ≤ 2000) (hx63 : x63 ≤ 1) (hx65 : x65 ≤ 7) (hm12_0 : m12_0 ≤ 3) (hm12_1 : m12_1 ≤ 3) (hm13_0 : m13_0 ≤ 8) (hm13_1 : m13_1 ≤ 8) (hm14_0 : m14_0 ≤ 14) (hm14_1 : m14_1 ≤ 14) (hm15_0 : m15_0 ≤ 8) (hm15_1 : m15_1 ≤ 8) (hm42_0 : m42_0 ≤ 120) (hm42_1 : m42_1 ≤ 400) (ha0 : a0 ≤ 13) : Met l yX9_isHeld vs_EM_isHeld_e ({ frames := 3, cells := 0, slots := 0, locals := 64 }) (va_Pc [.ref (ad 0), .int (nI a0), .int p1] (pu_B (dC, dI) (mo_w ad ck x0 (nI x16) (nI x18) (nI x19) x20 (nI x21) (nI x22) x23 x24 x25 (nI x26) x27 (nI x28) (nI x29) (nI x30) (nI x33) x45 (nI x46) (nI x52) (nI x53) (nI x61) (nI x62) (nI x63) (nI x65) x66 f1 f2 f3 (bN 3 q4) (bN 7 q5) (bN 7 q6) (bN 4 q7) f8 (bN 2 q9) (bH q10) f11 (b2 m12_0 m12_1) (b2 m13_0 m13_1) (b2 m14_0 m14_1) (b2m m15_0 m15_1) f17 (bA 159 q31) f32 f34 f35 f36 f37 (bN 7 q38) f39 f40 f41 (b2 m42_0 m42_1) f43 f44 f47 f48 f49 f50 f51 (bN 13 q54) (bN 120 q55) (bN 120 q56) f57 (bN 120 q58) f59 f60 f64) (mo_t ck) sz)) (va_Qi (fun (r : Int32) (_ : Unit) => ∃ v : Nat, v ≤ 1 ∧ r = nI v ∧ v = (sp_EM_isHeld_e x16 q7 q9 q10 f11 m13_0 m13_1 m14_0 m14_1 f64 a0 p1)) (fun _ _ => True) (va_A [] sz)) 0 0 (va_A [] sz) := by
  refine Met.ofW (cc := cX9_isHeld) (maxL := 8) (ret := (some .boolean)) (by decide) rfl ?_
  intro p e s m args below meth c s₁ B hml hv
  obtain ⟨rfl, rfl, hP, hK, hD0⟩ := hv
  have hx := B.exec
  have hb := B.bytes
  have hr := B.returns
  have hts := atoms_spec (ws := vs_EM_isHeld_e) B.pre
  have v_10 := hts (.fieldLink RX9 34 "ClockReachModel" "ofClock" "[I") (List.mem_cons_of_mem _ vm_98)
  have v_14 := hts (.fieldLink RX9 139 "ClockReachModel" "clockTime" "[I") (List.mem_cons_of_mem _ vm_358)
  have v_15 := hts (.fieldLink RX9 40 "ClockReachModel" "limit" "[I") (List.mem_cons_of_mem _ vm_100)
  have v_16 := hts (.fieldLink RX9 37 "ClockReachModel" "how" "[I") (List.mem_cons_of_mem _ vm_99)
  have hown : s.vm.findClass RX9 = some m.cls := findClass_of_methodNamed B.named
  have hlocks := B.notSynchronized
  have hiX9 : ∀ w ∈ wsX90, w ∈ vs_EM_isHeld_e := fun _ h => List.mem_cons_of_mem _ (vmi_L h)
  have hD := hD0
  have hA : ∀ q : Nat, s.heap.size ≤ q → va_A [] s.heap.size q := fun _ h => Or.inr h
  have hS : va_S (va_A [] s.heap.size) s.heap s.heap [] := va_S.rf
  have hl := lv_entry ([.ref (ad 0), .int (nI a0), .int p1]) (n := 8) (Nat.le_of_ble_eq_true rfl)
  rw [lg_entry_eq]
  generalize (lg_sl ([.ref (ad 0), .int (nI a0), .int p1]) ++ List.replicate (8 - (lg_sl ([.ref (ad 0), .int (nI a0), .int p1])).length) Slot.unset).toArray = ls at hl ⊢
  have hl : lv_has ls 8 [(0, .ref (ad 0)), (1, .int (nI a0)), (2, .int p1)] := hl
  obtain ⟨RR, hRR⟩ : ∃ x, x = (sp_EM_isHeld_e x16 q7 q9 q10 f11 m13_0 m13_1 m14_0 m14_1 f64 a0 p1) := ⟨_, rfl⟩
  have hsp := hRR
  refine lv_iconst (v := 0) hx hb dX9_isHeld_0 (by decide) ?_
  refine lv_istore_n (lv' := [(3, .int 0), (0, .ref (ad 0)), (1, .int (nI a0)), (2, .int p1)]) hx hb dX9_isHeld_1 rfl hl (by decide) rfl (fun ls hl => ?_)
  obtain ⟨lf_4, dlf_4, hlf_4, hsp⟩ := itr_ex hsp
  delta sp_EM_isHeld_e_L1 at hlf_4
  refine pu_while (fun nn H locs ls => ∃ (g_2 : Nat), nn = 4 - g_2 ∧ g_2 ≤ 4 ∧ RR = itrv dlf_4 lf_4 g_2 ∧ va_P (dC, dI) vwCl (mo_w ad ck x0 (nI x16) (nI x18) (nI x19) x20 (nI x21) (nI x22) x23 x24 x25 (nI x26) x27 (nI x28) (nI x29) (nI x30) (nI x33) x45 (nI x46) (nI x52) (nI x53) (nI x61) (nI x62) (nI x63) (nI x65) x66 f1 f2 f3 (bN 3 q4) (bN 7 q5) (bN 7 q6) (bN 4 q7) f8 (bN 2 q9) (bH q10) f11 (b2 m12_0 m12_1) (b2 m13_0 m13_1) (b2 m14_0 m14_1) (b2m m15_0 m15_1) f17 (bA 159 q31) f32 f34 f35 f36 f37 (bN 7 q38) f39 f40 f41 (b2 m42_0 m42_1) f43 f44 f47 f48 f49 f50 f51 (bN 13 q54) (bN 120 q55) (bN 120 q56) f57 (bN 120 q58) f59 f60 f64) H ∧ va_D (fun _ => True) (mo_w ad ck x0 (nI x16) (nI x18) (nI x19) x20 (nI x21) (nI x22) x23 x24 x25 (nI x26) x27 (nI x28) (nI x29) (nI x30) (nI x33) x45 (nI x46) (nI x52) (nI x53) (nI x61) (nI x62) (nI x63) (nI x65) x66 f1 f2 f3 (bN 3 q4) (bN 7 q5) (bN 7 q6) (bN 4 q7) f8 (bN 2 q9) (bH q10) f11 (b2 m12_0 m12_1) (b2 m13_0 m13_1) (b2 m14_0 m14_1) (b2m m15_0 m15_1) f17 (bA 159 q31) f32 f34 f35 f36 f37 (bN 7 q38) f39 f40 f41 (b2 m42_0 m42_1) f43 f44 f47 f48 f49 f50 f51 (bN 13 q54) (bN 120 q55) (bN 120 q56) f57 (bN 120 q58) f59 f60 f64) ∧ va_S (va_A [] s.heap.size) s.heap H locs ∧ lv_has ls 8 [(0, .ref (ad 0)), (1, .int (nI a0)), (2, .int p1), (3, .int (nI g_2))]) 2 ?_ _ _ _ _ ⟨0, rfl, (Nat.le_of_ble_eq_true rfl), hsp, hP, hD, hS, lv_sub hl [1, 2, 3, 0] rfl⟩
  rintro nn ih_3 H locs ls ⟨g_2, rfl, hg_2, he_6, hP, hD, hS, hl⟩
  obtain ⟨S_5, hsp, hin_7, hout_8⟩ := itr_step hlf_4 he_6
  refine lv_iload_n hx hb dX9_isHeld_2 rfl (lv_at hl 3 rfl) ?_
  refine lv_aload_n hx hb dX9_isHeld_3 rfl (lv_at hl 0 rfl) ?_
  refine lv_iload_n hx hb dX9_isHeld_4 rfl (lv_at hl 1 rfl) ?_
  refine va_calli (va_runV (As := [.int (nI a0)]) (rest := [.int (nI g_2)]) ⟨hx, hb, hml, hown, hts⟩ (c_EM_manyOf_e l dC dI _ ad ck x0 x16 x18 x19 x20 x21 x22 x23 x24 x25 x26 x27 x28 x29 x30 x33 x45 x46 x52 x53 x61 x62 x63 x65 x66 f1 f2 f3 q4 q5 q6 q7 f8 q9 q10 f11 m12_0 m12_1 m13_0 m13_1 m14_0 m14_1 m15_0 m15_1 f17 q31 f32 f34 f35 f36 f37 q38 f39 f40 f41 m42_0 m42_1 f43 f44 f47 f48 f49 f50 f51 q54 q55 q56 f57 q58 f59 f60 f64 a0 hx16 hx18 hx19 hx21 hx22 hx26 hx28 hx29 hx30 hx33 hx46 hx52 hx53 hx61 hx62 hx63 hx65 hm12_0 hm12_1 hm13_0 hm13_1 hm14_0 hm14_1 hm15_0 hm15_1 hm42_0 hm42_1 ha0) (cwV 1 hts g_EM_isHeld_e_EM_manyOf_e rfl rfl rfl (by decide +kernel) ⟨Nat.le_of_ble_eq_true rfl, Nat.le_of_ble_eq_true rfl⟩) ⟨pu_bl, va_recv hK hP (ci := 9) (q0 := 0) rfl rfl, pu_in hP hK hD⟩ rfl rfl hl.1 rfl (lv_room (Nat.le_of_ble_eq_true rfl)) dX9_isHeld_5 ⟨Nat.le_of_ble_eq_true rfl, Nat.le_of_ble_eq_true rfl⟩) hS (fun q _ h => pu_fr hS hA q h) (pu_fr hS hA) (fun r_9 u t H1 locs ht hvm hw hB hz1 hk1 hS => ?_)
  have hP := pu_keep hP hk1
  clear hk1 hz1 ht hvm
  generalize H1 = H at hP hS ⊢
  obtain ⟨u_10, hu_10, mu_10, iu_10⟩ := hw
  replace hsp := hsp.trans (slet_eq iu_10)
  rcases mI_get u_10 with ⟨zn_11, wn_11⟩ | ⟨n_11, zn_11, wn_11⟩
  · obtain rfl : r_9 = -1 := mu_10.trans wn_11
    replace hsp := hsp.trans (if_pos zn_11)
    refine lv_icmp_ge (tgt := 194) hx hb dX9_isHeld_8 (by decide) (fun _ => ?_) (fun z => absurd (pu_negle (n := g_2) (by omega) (by decide)) z)
    replace hsp := hout_8 _ hsp
    refine lv_iconst (v := 1) hx hb dX9_isHeld_194 (by decide) ?_
    exact W.zret (v := 1) (ty := .boolean) hx hb hr (rfl) (fun t ht hW => ⟨⟨1, (), rfl, ⟨1, (Nat.le_of_ble_eq_true rfl), rfl, (hsp.symm.trans hRR)⟩, trivial⟩, hS.F ht⟩) hS.2.2 dX9_isHeld_195
  · obtain rfl : r_9 = nI n_11 := mu_10.trans wn_11
    have hn_11 : n_11 ≤ 4 := by omega
    replace hsp := hsp.trans (if_neg (by omega))
    replace hsp := hsp.trans (slet_eq (by omega : n_11 = u_10 - 1))
    refine lv_icmp_ge (tgt := 194) hx hb dX9_isHeld_8 (by decide) (fun c_12 => ?_) (fun c_12 => ?_)
    · have c_12 : n_11 ≤ g_2 := (nI_leI (a := n_11) (b := g_2) (Nat.lt_of_le_of_lt hn_11 (Nat.le_of_ble_eq_true rfl)) (Nat.lt_of_le_of_lt hg_2 (Nat.le_of_ble_eq_true rfl))).mp c_12
      replace hsp := hsp.trans (if_pos c_12)
      replace hsp := hout_8 _ hsp
      refine lv_iconst (v := 1) hx hb dX9_isHeld_194 (by decide) ?_
      exact W.zret (v := 1) (ty := .boolean) hx hb hr (rfl) (fun t ht hW => ⟨⟨1, (), rfl, ⟨1, (Nat.le_of_ble_eq_true rfl), rfl, (hsp.symm.trans hRR)⟩, trivial⟩, hS.F ht⟩) hS.2.2 dX9_isHeld_195
    · have c_12 : ¬ n_11 ≤ g_2 := fun z => c_12 ((nI_leI (a := n_11) (b := g_2) (Nat.lt_of_le_of_lt hn_11 (Nat.le_of_ble_eq_true rfl)) (Nat.lt_of_le_of_lt hg_2 (Nat.le_of_ble_eq_true rfl))).mpr z)
      replace hsp := hsp.trans (if_neg c_12)
      refine lv_aload_n hx hb dX9_isHeld_11 rfl (lv_at hl 0 rfl) ?_
      refine lv_iload_n hx hb dX9_isHeld_12 rfl (lv_at hl 1 rfl) ?_
      refine lv_iload_n hx hb dX9_isHeld_13 rfl (lv_at hl 3 rfl) ?_
      refine va_calli (va_runV (As := [.int (nI a0), .int (nI g_2)]) (rest := []) ⟨hx, hb, hml, hown, hts⟩ (c_EM_spot_e l dC dI _ ad ck x0 x16 x18 x19 x20 x21 x22 x23 x24 x25 x26 x27 x28 x29 x30 x33 x45 x46 x52 x53 x61 x62 x63 x65 x66 f1 f2 f3 q4 q5 q6 q7 f8 q9 q10 f11 m12_0 m12_1 m13_0 m13_1 m14_0 m14_1 m15_0 m15_1 f17 q31 f32 f34 f35 f36 f37 q38 f39 f40 f41 m42_0 m42_1 f43 f44 f47 f48 f49 f50 f51 q54 q55 q56 f57 q58 f59 f60 f64 a0 g_2 hx16 hx18 hx19 hx21 hx22 hx26 hx28 hx29 hx30 hx33 hx46 hx52 hx53 hx61 hx62 hx63 hx65 hm12_0 hm12_1 hm13_0 hm13_1 hm14_0 hm14_1 hm15_0 hm15_1 hm42_0 hm42_1 ha0 (by omega)) (cwV 2 hts g_EM_isHeld_e_EM_spot_e rfl rfl rfl (by decide +kernel) ⟨Nat.le_of_ble_eq_true rfl, Nat.le_of_ble_eq_true rfl⟩) ⟨pu_bl, va_recv hK hP (ci := 9) (q0 := 0) rfl rfl, pu_in hP hK hD⟩ rfl rfl hl.1 rfl (lv_room (Nat.le_of_ble_eq_true rfl)) dX9_isHeld_14 ⟨Nat.le_of_ble_eq_true rfl, Nat.le_of_ble_eq_true rfl⟩) hS (fun q _ h => pu_fr hS hA q h) (pu_fr hS hA) (fun r_13 u t H1 locs ht hvm hw hB hz1 hk1 hS => ?_)
      have hP := pu_keep hP hk1
      clear hk1 hz1 ht hvm
      generalize H1 = H at hP hS ⊢
      obtain rfl : r_13 = nI (80 * x16 + 4 * a0 + g_2) := hw
      refine lv_istore (lv' := [(4, .int (nI (80 * x16 + 4 * a0 + g_2))), (0, .ref (ad 0)), (1, .int (nI a0)), (2, .int p1), (3, .int (nI g_2))]) hx hb dX9_isHeld_17 hl (by decide) rfl (fun ls hl => ?_)
      refine lv_iload_n hx hb dX9_isHeld_19 rfl (lv_at hl 3 rfl) ?_
      refine lv_aload_n hx hb dX9_isHeld_20 rfl (lv_at hl 1 rfl) ?_
      refine va_get (D := (dC, dI)) (ci := 9) (v := .ref (ad 9)) (C := RX9) (T := TX9) (N := 67) hx hb hts hiX9 hown hK hP 0 rfl rfl 9 (by decide) v_10 (fun _ h9 => h9) rfl dX9_isHeld_21 ?_
      refine lv_iload hx hb dX9_isHeld_24 (lv_at hl 0 rfl) ?_
      refine va_iald hx hb hK hP 9 8 rfl rfl (vp_in_nI (n := (80 * x16 + 4 * a0 + g_2)) (by omega) (Nat.le_of_ble_eq_true rfl)) dX9_isHeld_26 ?_
      refine lv_topi (fun y_14 ey_14 => ?_)
      obtain ⟨u_15, hu_15, qu_15, xu_15⟩ := bN_getx 2 q9 (n := (80 * x16 + 4 * a0 + g_2)) (by first | omega | exact Nat.lt_trans (sp_ix (by omega) (by omega) (by omega)) (by decide : 14641 < 2 ^ 31) | exact Nat.lt_trans (sp_ix0 (by omega) (by omega)) (by decide : 14641 < 2 ^ 31) | exact Nat.lt_trans (zx16 (by omega) (by omega) (by omega)) (Nat.le_of_ble_eq_true rfl) | exact Nat.lt_trans (zy16 (by omega) (by omega)) (Nat.le_of_ble_eq_true rfl) | exact Nat.lt_trans (zx25 (by omega) (by omega) (by omega)) (Nat.le_of_ble_eq_true rfl) | exact Nat.lt_trans (zy25 (by omega) (by omega)) (Nat.le_of_ble_eq_true rfl))
      obtain rfl : y_14 = nI u_15 := ey_14.trans qu_15
      replace hsp := hsp.trans (slet_eq xu_15)
      obtain ⟨JR_18, hJR_18, hsp⟩ := slet_ex hsp
      refine pu_join (fun H locs ls st => ∃ (g_16 : Int32), st = [.int g_16] ∧ g_16 = JR_18 ∧ va_P (dC, dI) vwCl (mo_w ad ck x0 (nI x16) (nI x18) (nI x19) x20 (nI x21) (nI x22) x23 x24 x25 (nI x26) x27 (nI x28) (nI x29) (nI x30) (nI x33) x45 (nI x46) (nI x52) (nI x53) (nI x61) (nI x62) (nI x63) (nI x65) x66 f1 f2 f3 (bN 3 q4) (bN 7 q5) (bN 7 q6) (bN 4 q7) f8 (bN 2 q9) (bH q10) f11 (b2 m12_0 m12_1) (b2 m13_0 m13_1) (b2 m14_0 m14_1) (b2m m15_0 m15_1) f17 (bA 159 q31) f32 f34 f35 f36 f37 (bN 7 q38) f39 f40 f41 (b2 m42_0 m42_1) f43 f44 f47 f48 f49 f50 f51 (bN 13 q54) (bN 120 q55) (bN 120 q56) f57 (bN 120 q58) f59 f60 f64) H ∧ va_D (fun _ => True) (mo_w ad ck x0 (nI x16) (nI x18) (nI x19) x20 (nI x21) (nI x22) x23 x24 x25 (nI x26) x27 (nI x28) (nI x29) (nI x30) (nI x33) x45 (nI x46) (nI x52) (nI x53) (nI x61) (nI x62) (nI x63) (nI x65) x66 f1 f2 f3 (bN 3 q4) (bN 7 q5) (bN 7 q6) (bN 4 q7) f8 (bN 2 q9) (bH q10) f11 (b2 m12_0 m12_1) (b2 m13_0 m13_1) (b2 m14_0 m14_1) (b2m m15_0 m15_1) f17 (bA 159 q31) f32 f34 f35 f36 f37 (bN 7 q38) f39 f40 f41 (b2 m42_0 m42_1) f43 f44 f47 f48 f49 f50 f51 (bN 13 q54) (bN 120 q55) (bN 120 q56) f57 (bN 120 q58) f59 f60 f64) ∧ va_S (va_A [] s.heap.size) s.heap H locs ∧ lv_has ls 8 [(0, .ref (ad 0)), (1, .int (nI a0)), (2, .int p1), (3, .int (nI g_2)), (4, .int (nI (80 * x16 + 4 * a0 + g_2)))]) 49 ?_ (fun j_17 => ?_)
      · rintro H locs ls st ⟨g_16, rfl, he_19, hP, hD, hS, hl⟩
        rw [← he_19] at hsp
        refine lv_istore (lv' := [(5, .int g_16), (0, .ref (ad 0)), (1, .int (nI a0)), (2, .int p1), (3, .int (nI g_2)), (4, .int (nI (80 * x16 + 4 * a0 + g_2)))]) hx hb dX9_isHeld_49 hl (by decide) rfl (fun ls hl => ?_)
        refine lv_sipush (v := 256) hx hb dX9_isHeld_51 (by decide) ?_
        refine lv_aload_n hx hb dX9_isHeld_54 rfl (lv_at hl 1 rfl) ?_
        refine va_get (D := (dC, dI)) (ci := 9) (v := .ref (ad 11)) (C := RX9) (T := TX9) (N := 67) hx hb hts hiX9 hown hK hP 0 rfl rfl 11 (by decide) v_15 (fun _ h9 => h9) rfl dX9_isHeld_55 ?_
        refine lv_iload hx hb dX9_isHeld_58 (lv_at hl 5 rfl) ?_
        refine va_iald hx hb hK hP 11 10 rfl rfl (vp_in_nI (n := (80 * x16 + 4 * a0 + g_2)) (by omega) (Nat.le_of_ble_eq_true rfl)) dX9_isHeld_60 ?_
        refine lv_topi (fun y_20 ey_20 => ?_)
        have ey_20 : y_20 = f11 (80 * x16 + 4 * a0 + g_2) := ey_20.trans (congrArg f11 (nI_clamp (n := (80 * x16 + 4 * a0 + g_2)) (by first | omega | exact Nat.lt_trans (sp_ix (by omega) (by omega) (by omega)) (by decide : 14641 < 2 ^ 31) | exact Nat.lt_trans (sp_ix0 (by omega) (by omega)) (by decide : 14641 < 2 ^ 31) | exact Nat.lt_trans (zx16 (by omega) (by omega) (by omega)) (Nat.le_of_ble_eq_true rfl) | exact Nat.lt_trans (zy16 (by omega) (by omega)) (Nat.le_of_ble_eq_true rfl) | exact Nat.lt_trans (zx25 (by omega) (by omega) (by omega)) (Nat.le_of_ble_eq_true rfl) | exact Nat.lt_trans (zy25 (by omega) (by omega)) (Nat.le_of_ble_eq_true rfl))))
        replace hsp := hsp.trans (slet_eq ey_20)
        refine lv_imul hx hb dX9_isHeld_61 ?_
        refine lv_topi (fun y_21 ey_21 => ?_)
        replace hsp := hsp.trans (slet_eq ey_21)
        refine lv_istore (lv' := [(6, .int y_21), (5, .int g_16), (0, .ref (ad 0)), (1, .int (nI a0)), (2, .int p1), (3, .int (nI g_2)), (4, .int (nI (80 * x16 + 4 * a0 + g_2)))]) hx hb dX9_isHeld_62 hl (by decide) rfl (fun ls hl => ?_)
        refine lv_aload_n hx hb dX9_isHeld_64 rfl (lv_at hl 2 rfl) ?_
        refine va_get (D := (dC, dI)) (ci := 9) (v := .ref (ad 10)) (C := RX9) (T := TX9) (N := 67) hx hb hts hiX9 hown hK hP 0 rfl rfl 10 (by decide) v_16 (fun _ h9 => h9) rfl dX9_isHeld_65 ?_
        refine lv_iload hx hb dX9_isHeld_68 (lv_at hl 6 rfl) ?_
        refine va_iald hx hb hK hP 10 9 rfl rfl (vp_in_nI (n := (80 * x16 + 4 * a0 + g_2)) (by omega) (Nat.le_of_ble_eq_true rfl)) dX9_isHeld_70 ?_
        refine lv_topi (fun y_22 ey_22 => ?_)
        obtain ⟨u_23, hu_23, qu_23, xu_23⟩ := bH_getx q10 (i := (80 * x16 + 4 * a0 + g_2)) (by omega)
        obtain rfl : y_22 = nI u_23 := ey_22.trans qu_23
        replace hsp := hsp.trans (slet_eq xu_23)
        obtain ⟨JR_26, hJR_26, hsp⟩ := slet_ex hsp
        refine pu_join (fun H locs ls st => ∃ (g_24 : Nat), st = [.int (nI g_24)] ∧ g_24 ≤ 1 ∧ g_24 = JR_26 ∧ va_P (dC, dI) vwCl (mo_w ad ck x0 (nI x16) (nI x18) (nI x19) x20 (nI x21) (nI x22) x23 x24 x25 (nI x26) x27 (nI x28) (nI x29) (nI x30) (nI x33) x45 (nI x46) (nI x52) (nI x53) (nI x61) (nI x62) (nI x63) (nI x65) x66 f1 f2 f3 (bN 3 q4) (bN 7 q5) (bN 7 q6) (bN 4 q7) f8 (bN 2 q9) (bH q10) f11 (b2 m12_0 m12_1) (b2 m13_0 m13_1) (b2 m14_0 m14_1) (b2m m15_0 m15_1) f17 (bA 159 q31) f32 f34 f35 f36 f37 (bN 7 q38) f39 f40 f41 (b2 m42_0 m42_1) f43 f44 f47 f48 f49 f50 f51 (bN 13 q54) (bN 120 q55) (bN 120 q56) f57 (bN 120 q58) f59 f60 f64) H ∧ va_D (fun _ => True) (mo_w ad ck x0 (nI x16) (nI x18) (nI x19) x20 (nI x21) (nI x22) x23 x24 x25 (nI x26) x27 (nI x28) (nI x29) (nI x30) (nI x33) x45 (nI x46) (nI x52) (nI x53) (nI x61) (nI x62) (nI x63) (nI x65) x66 f1 f2 f3 (bN 3 q4) (bN 7 q5) (bN 7 q6) (bN 4 q7) f8 (bN 2 q9) (bH q10) f11 (b2 m12_0 m12_1) (b2 m13_0 m13_1) (b2 m14_0 m14_1) (b2m m15_0 m15_1) f17 (bA 159 q31) f32 f34 f35 f36 f37 (bN 7 q38) f39 f40 f41 (b2 m42_0 m42_1) f43 f44 f47 f48 f49 f50 f51 (bN 13 q54) (bN 120 q55) (bN 120 q56) f57 (bN 120 q58) f59 f60 f64) ∧ va_S (va_A [] s.heap.size) s.heap H locs ∧ lv_has ls 8 [(0, .ref (ad 0)), (1, .int (nI a0)), (2, .int p1), (3, .int (nI g_2)), (4, .int (nI (80 * x16 + 4 * a0 + g_2))), (5, .int g_16), (6, .int y_21)]) 179 ?_ (fun j_25 => ?_)
        · rintro H locs ls st ⟨g_24, rfl, hg_24, he_27, hP, hD, hS, hl⟩
          rw [← he_27] at hsp
          refine lv_istore (lv' := [(7, .int (nI g_24)), (0, .ref (ad 0)), (1, .int (nI a0)), (2, .int p1), (3, .int (nI g_2)), (4, .int (nI (80 * x16 + 4 * a0 + g_2))), (5, .int g_16), (6, .int y_21)]) hx hb dX9_isHeld_179 hl (by decide) rfl (fun ls hl => ?_)
          refine lv_iload hx hb dX9_isHeld_181 (lv_at hl 0 rfl) ?_
          refine lv_if_ne (tgt := 188) hx hb dX9_isHeld_183 (by decide) (fun c_28 => ?_) (fun c_28 => ?_)
          · have c_28 : ¬ g_24 = 0 := fun z => c_28 ((nI_eq (a := g_24) (b := 0) (Nat.lt_of_le_of_lt hg_24 (Nat.le_of_ble_eq_true rfl)) (Nat.le_of_ble_eq_true rfl)).mpr z)
            replace hsp := hsp.trans (if_neg c_28)
            refine lv_iinc (v := (nI (g_2 + 1))) (lv' := [(3, .int (nI (g_2 + 1))), (7, .int (nI g_24)), (0, .ref (ad 0)), (1, .int (nI a0)), (2, .int p1), (4, .int (nI (80 * x16 + 4 * a0 + g_2))), (5, .int g_16), (6, .int y_21)]) hx hb dX9_isHeld_188 hl (k := 4) rfl (nI_1 _) (by decide) rfl (fun ls hl => ?_)
            refine lv_goto (tgt := 2) hx hb dX9_isHeld_191 (by decide) ?_
            exact ih_3 (4 - (g_2 + 1)) (by omega) _ _ _ ⟨(g_2 + 1), rfl, (by omega), hin_7 _ hsp, hP, hD, hS, lv_sub hl [2, 3, 4, 0] rfl⟩
          · have c_28 : g_24 = 0 := (nI_eq (a := g_24) (b := 0) (Nat.lt_of_le_of_lt hg_24 (Nat.le_of_ble_eq_true rfl)) (Nat.le_of_ble_eq_true rfl)).mp c_28
            replace hsp := hsp.trans (if_pos c_28)
            replace hsp := hout_8 _ hsp
            refine lv_iconst (v := 0) hx hb dX9_isHeld_186 (by decide) ?_
            exact W.zret (v := 0) (ty := .boolean) hx hb hr (rfl) (fun t ht hW => ⟨⟨0, (), rfl, ⟨0, (Nat.le_of_ble_eq_true rfl), rfl, (hsp.symm.trans hRR)⟩, trivial⟩, hS.F ht⟩) hS.2.2 dX9_isHeld_187
        have hsp := hJR_26
        refine lv_if_ne (tgt := 89) hx hb dX9_isHeld_71 (by decide) (fun c_29 => ?_) (fun c_29 => ?_)
        · have c_29 : ¬ u_23 = 0 := fun z => c_29 ((nI_eq (a := u_23) (b := 0) (by omega) (Nat.le_of_ble_eq_true rfl)).mpr z)
          replace hsp := hsp.trans (if_neg c_29)
          refine lv_aload_n hx hb dX9_isHeld_89 rfl (lv_at hl 2 rfl) ?_
          refine va_get (D := (dC, dI)) (ci := 9) (v := .ref (ad 10)) (C := RX9) (T := TX9) (N := 67) hx hb hts hiX9 hown hK hP 0 rfl rfl 10 (by decide) v_16 (fun _ h9 => h9) rfl dX9_isHeld_90 ?_
          refine lv_iload hx hb dX9_isHeld_93 (lv_at hl 6 rfl) ?_
          refine va_iald hx hb hK hP 10 9 rfl rfl (vp_in_nI (n := (80 * x16 + 4 * a0 + g_2)) (by omega) (Nat.le_of_ble_eq_true rfl)) dX9_isHeld_95 ?_
          refine lv_topi (fun y_30 ey_30 => ?_)
          obtain rfl : y_30 = nI u_23 := ey_30.trans qu_23
          refine lv_iconst (v := 1) hx hb dX9_isHeld_96 (by decide) ?_
          refine lv_icmp_ne (tgt := 115) hx hb dX9_isHeld_97 (by decide) (fun c_32 => ?_) (fun c_32 => ?_)
          · have c_32 : ¬ u_23 = 1 := fun z => c_32 ((nI_eq (a := u_23) (b := 1) (by omega) (Nat.le_of_ble_eq_true rfl)).mpr z)
            replace hsp := hsp.trans (if_neg c_32)
            refine lv_aload_n hx hb dX9_isHeld_115 rfl (lv_at hl 2 rfl) ?_
            refine va_get (D := (dC, dI)) (ci := 9) (v := .ref (ad 10)) (C := RX9) (T := TX9) (N := 67) hx hb hts hiX9 hown hK hP 0 rfl rfl 10 (by decide) v_16 (fun _ h9 => h9) rfl dX9_isHeld_116 ?_
            refine lv_iload hx hb dX9_isHeld_119 (lv_at hl 6 rfl) ?_
            refine va_iald hx hb hK hP 10 9 rfl rfl (vp_in_nI (n := (80 * x16 + 4 * a0 + g_2)) (by omega) (Nat.le_of_ble_eq_true rfl)) dX9_isHeld_121 ?_
            refine lv_topi (fun y_33 ey_33 => ?_)
            obtain rfl : y_33 = nI u_23 := ey_33.trans qu_23
            refine lv_iconst (v := 2) hx hb dX9_isHeld_122 (by decide) ?_
            refine lv_icmp_ne (tgt := 141) hx hb dX9_isHeld_123 (by decide) (fun c_35 => ?_) (fun c_35 => ?_)
            · have c_35 : ¬ u_23 = 2 := fun z => c_35 ((nI_eq (a := u_23) (b := 2) (by omega) (Nat.le_of_ble_eq_true rfl)).mpr z)
              replace hsp := hsp.trans (if_neg c_35)
              refine lv_aload_n hx hb dX9_isHeld_141 rfl (lv_at hl 2 rfl) ?_
              refine va_get (D := (dC, dI)) (ci := 9) (v := .ref (ad 10)) (C := RX9) (T := TX9) (N := 67) hx hb hts hiX9 hown hK hP 0 rfl rfl 10 (by decide) v_16 (fun _ h9 => h9) rfl dX9_isHeld_142 ?_
              refine lv_iload hx hb dX9_isHeld_145 (lv_at hl 6 rfl) ?_
              refine va_iald hx hb hK hP 10 9 rfl rfl (vp_in_nI (n := (80 * x16 + 4 * a0 + g_2)) (by omega) (Nat.le_of_ble_eq_true rfl)) dX9_isHeld_147 ?_
              refine lv_topi (fun y_36 ey_36 => ?_)
              obtain rfl : y_36 = nI u_23 := ey_36.trans qu_23
              refine lv_iconst (v := 3) hx hb dX9_isHeld_148 (by decide) ?_
              refine lv_icmp_ne (tgt := 167) hx hb dX9_isHeld_149 (by decide) (fun c_38 => ?_) (fun c_38 => ?_)
              · have c_38 : ¬ u_23 = 3 := fun z => c_38 ((nI_eq (a := u_23) (b := 3) (by omega) (Nat.le_of_ble_eq_true rfl)).mpr z)
                replace hsp := hsp.trans (if_neg c_38)
                refine lv_iload hx hb dX9_isHeld_167 (lv_at hl 1 rfl) ?_
                refine lv_iload hx hb dX9_isHeld_169 (lv_at hl 0 rfl) ?_
                refine lv_icmp_le (tgt := 178) hx hb dX9_isHeld_171 (by decide) (fun c_39 => ?_) (fun c_39 => ?_)
                · have hcc_39 := c_39
                  replace hsp := hsp.trans (if_pos c_39)
                  refine lv_iconst (v := 0) hx hb dX9_isHeld_178 (by decide) ?_
                  exact j_25 _ _ _ _ ⟨0, rfl, (Nat.le_of_ble_eq_true rfl), hsp.symm, hP, hD, hS, lv_sub hl [2, 3, 4, 5, 6, 1, 0] rfl⟩
                · have hcc_39 := c_39
                  replace hsp := hsp.trans (if_neg c_39)
                  refine lv_iconst (v := 1) hx hb dX9_isHeld_174 (by decide) ?_
                  refine lv_goto (tgt := 179) hx hb dX9_isHeld_175 (by decide) ?_
                  exact j_25 _ _ _ _ ⟨1, rfl, (Nat.le_of_ble_eq_true rfl), hsp.symm, hP, hD, hS, lv_sub hl [2, 3, 4, 5, 6, 1, 0] rfl⟩
              · have c_38 : u_23 = 3 := (nI_eq (a := u_23) (b := 3) (by omega) (Nat.le_of_ble_eq_true rfl)).mp c_38
                replace hsp := hsp.trans (if_pos c_38)
                refine lv_iload hx hb dX9_isHeld_152 (lv_at hl 1 rfl) ?_
                refine lv_iload hx hb dX9_isHeld_154 (lv_at hl 0 rfl) ?_
                refine lv_icmp_lt (tgt := 163) hx hb dX9_isHeld_156 (by decide) (fun c_40 => ?_) (fun c_40 => ?_)
                · have hcc_40 := c_40
                  replace hsp := hsp.trans (if_pos c_40)
                  refine lv_iconst (v := 0) hx hb dX9_isHeld_163 (by decide) ?_
                  refine lv_goto (tgt := 179) hx hb dX9_isHeld_164 (by decide) ?_
                  exact j_25 _ _ _ _ ⟨0, rfl, (Nat.le_of_ble_eq_true rfl), hsp.symm, hP, hD, hS, lv_sub hl [2, 3, 4, 5, 6, 1, 0] rfl⟩
                · have hcc_40 := c_40
                  replace hsp := hsp.trans (if_neg c_40)
                  refine lv_iconst (v := 1) hx hb dX9_isHeld_159 (by decide) ?_
                  refine lv_goto (tgt := 179) hx hb dX9_isHeld_160 (by decide) ?_
                  exact j_25 _ _ _ _ ⟨1, rfl, (Nat.le_of_ble_eq_true rfl), hsp.symm, hP, hD, hS, lv_sub hl [2, 3, 4, 5, 6, 1, 0] rfl⟩
            · have c_35 : u_23 = 2 := (nI_eq (a := u_23) (b := 2) (by omega) (Nat.le_of_ble_eq_true rfl)).mp c_35
              replace hsp := hsp.trans (if_pos c_35)
              refine lv_iload hx hb dX9_isHeld_126 (lv_at hl 1 rfl) ?_
              refine lv_iload hx hb dX9_isHeld_128 (lv_at hl 0 rfl) ?_
              refine lv_icmp_ne (tgt := 137) hx hb dX9_isHeld_130 (by decide) (fun c_41 => ?_) (fun c_41 => ?_)
              · have hcc_41 := c_41
                replace hsp := hsp.trans (if_neg c_41)
                refine lv_iconst (v := 0) hx hb dX9_isHeld_137 (by decide) ?_
                refine lv_goto (tgt := 179) hx hb dX9_isHeld_138 (by decide) ?_
                exact j_25 _ _ _ _ ⟨0, rfl, (Nat.le_of_ble_eq_true rfl), hsp.symm, hP, hD, hS, lv_sub hl [2, 3, 4, 5, 6, 1, 0] rfl⟩
              · have hcc_41 := c_41
                replace hsp := hsp.trans (if_pos c_41)
                refine lv_iconst (v := 1) hx hb dX9_isHeld_133 (by decide) ?_
                refine lv_goto (tgt := 179) hx hb dX9_isHeld_134 (by decide) ?_
                exact j_25 _ _ _ _ ⟨1, rfl, (Nat.le_of_ble_eq_true rfl), hsp.symm, hP, hD, hS, lv_sub hl [2, 3, 4, 5, 6, 1, 0] rfl⟩
          · have c_32 : u_23 = 1 := (nI_eq (a := u_23) (b := 1) (by omega) (Nat.le_of_ble_eq_true rfl)).mp c_32
            replace hsp := hsp.trans (if_pos c_32)
            refine lv_iload hx hb dX9_isHeld_100 (lv_at hl 1 rfl) ?_
            refine lv_iload hx hb dX9_isHeld_102 (lv_at hl 0 rfl) ?_
            refine lv_icmp_gt (tgt := 111) hx hb dX9_isHeld_104 (by decide) (fun c_42 => ?_) (fun c_42 => ?_)
            · have hcc_42 := c_42
              replace hsp := hsp.trans (if_pos c_42)
              refine lv_iconst (v := 0) hx hb dX9_isHeld_111 (by decide) ?_
              refine lv_goto (tgt := 179) hx hb dX9_isHeld_112 (by decide) ?_
              exact j_25 _ _ _ _ ⟨0, rfl, (Nat.le_of_ble_eq_true rfl), hsp.symm, hP, hD, hS, lv_sub hl [2, 3, 4, 5, 6, 1, 0] rfl⟩
            · have hcc_42 := c_42
              replace hsp := hsp.trans (if_neg c_42)
              refine lv_iconst (v := 1) hx hb dX9_isHeld_107 (by decide) ?_
              refine lv_goto (tgt := 179) hx hb dX9_isHeld_108 (by decide) ?_
              exact j_25 _ _ _ _ ⟨1, rfl, (Nat.le_of_ble_eq_true rfl), hsp.symm, hP, hD, hS, lv_sub hl [2, 3, 4, 5, 6, 1, 0] rfl⟩
        · have c_29 : u_23 = 0 := (nI_eq (a := u_23) (b := 0) (by omega) (Nat.le_of_ble_eq_true rfl)).mp c_29
          replace hsp := hsp.trans (if_pos c_29)
          refine lv_iload hx hb dX9_isHeld_74 (lv_at hl 1 rfl) ?_
          refine lv_iload hx hb dX9_isHeld_76 (lv_at hl 0 rfl) ?_
          refine lv_icmp_ge (tgt := 85) hx hb dX9_isHeld_78 (by decide) (fun c_43 => ?_) (fun c_43 => ?_)
          · have hcc_43 := c_43
            replace hsp := hsp.trans (if_pos c_43)
            refine lv_iconst (v := 0) hx hb dX9_isHeld_85 (by decide) ?_
            refine lv_goto (tgt := 179) hx hb dX9_isHeld_86 (by decide) ?_
            exact j_25 _ _ _ _ ⟨0, rfl, (Nat.le_of_ble_eq_true rfl), hsp.symm, hP, hD, hS, lv_sub hl [2, 3, 4, 5, 6, 1, 0] rfl⟩
          · have hcc_43 := c_43
            replace hsp := hsp.trans (if_neg c_43)
            refine lv_iconst (v := 1) hx hb dX9_isHeld_81 (by decide) ?_
            refine lv_goto (tgt := 179) hx hb dX9_isHeld_82 (by decide) ?_
            exact j_25 _ _ _ _ ⟨1, rfl, (Nat.le_of_ble_eq_true rfl), hsp.symm, hP, hD, hS, lv_sub hl [2, 3, 4, 5, 6, 1, 0] rfl⟩
      have hsp := hJR_18
      refine va_calli (va_runS (As := [.int p1, .int (nI u_15)]) (rest := []) ⟨hx, hb, hml, hown, hts⟩ (c_EM_isOf l dC dI _ ad ck x0 x16 x18 x19 x20 x21 x22 x23 x24 x25 x26 x27 x28 x29 x30 x33 x45 x46 x52 x53 x61 x62 x63 x65 x66 f1 f2 f3 q4 q5 q6 q7 f8 q9 q10 f11 m12_0 m12_1 m13_0 m13_1 m14_0 m14_1 m15_0 m15_1 f17 q31 f32 f34 f35 f36 f37 q38 f39 f40 f41 m42_0 m42_1 f43 f44 f47 f48 f49 f50 f51 q54 q55 q56 f57 q58 f59 f60 f64 p1 (nI u_15) hx16 hx18 hx19 hx21 hx22 hx26 hx28 hx29 hx30 hx33 hx46 hx52 hx53 hx61 hx62 hx63 hx65 hm12_0 hm12_1 hm13_0 hm13_1 hm14_0 hm14_1 hm15_0 hm15_1 hm42_0 hm42_1) (va_cwS 2 hts g_EM_isHeld_e_EM_isOf rfl rfl rfl (by decide +kernel) ⟨Nat.le_of_ble_eq_true rfl, Nat.le_of_ble_eq_true rfl⟩) ⟨pu_bl, pu_in hP hK hD⟩ rfl rfl hl.1 rfl (lv_room (Nat.le_of_ble_eq_true rfl)) dX9_isHeld_27 ⟨Nat.le_of_ble_eq_true rfl, Nat.le_of_ble_eq_true rfl⟩) hS (fun q _ h => pu_fr hS hA q h) (pu_fr hS hA) (fun r_44 u t H1 locs ht hvm hw hB hz1 hk1 hS => ?_)
      have hP := pu_keep hP hk1
      clear hk1 hz1 ht hvm
      generalize H1 = H at hP hS ⊢
      obtain ⟨u_45, hu_45, rfl, iu_45⟩ := hw
      replace hsp := hsp.trans (slet_eq iu_45)
      refine lv_if_eq (tgt := 37) hx hb dX9_isHeld_30 (by decide) (fun c_46 => ?_) (fun c_46 => ?_)
      · have c_46 : u_45 = 0 := (nI_eq (a := u_45) (b := 0) (Nat.lt_of_le_of_lt hu_45 (Nat.le_of_ble_eq_true rfl)) (Nat.le_of_ble_eq_true rfl)).mp c_46
        replace hsp := hsp.trans (if_pos c_46)
        refine lv_aload_n hx hb dX9_isHeld_37 rfl (lv_at hl 1 rfl) ?_
        refine va_get (D := (dC, dI)) (ci := 9) (v := .ref (ad 64)) (C := RX9) (T := TX9) (N := 67) hx hb hts hiX9 hown hK hP 0 rfl rfl 64 (by decide) v_14 (fun _ h9 => h9) rfl dX9_isHeld_38 ?_
        refine lv_aload_n hx hb dX9_isHeld_41 rfl (lv_at hl 1 rfl) ?_
        refine va_get (D := (dC, dI)) (ci := 9) (v := .ref (ad 9)) (C := RX9) (T := TX9) (N := 67) hx hb hts hiX9 hown hK hP 0 rfl rfl 9 (by decide) v_10 (fun _ h9 => h9) rfl dX9_isHeld_42 ?_
        refine lv_iload hx hb dX9_isHeld_45 (lv_at hl 0 rfl) ?_
        refine va_iald hx hb hK hP 9 8 rfl rfl (vp_in_nI (n := (80 * x16 + 4 * a0 + g_2)) (by omega) (Nat.le_of_ble_eq_true rfl)) dX9_isHeld_47 ?_
        refine lv_topi (fun y_47 ey_47 => ?_)
        obtain rfl : y_47 = nI u_15 := ey_47.trans qu_15
        refine va_iald hx hb hK hP 42 41 rfl rfl (vp_in_nI (n := u_15) (Nat.lt_of_le_of_lt hu_15 (Nat.le_of_ble_eq_true rfl)) (Nat.le_of_ble_eq_true rfl)) dX9_isHeld_48 ?_
        refine lv_topi (fun y_49 ey_49 => ?_)
        have ey_49 : y_49 = f64 u_15 := ey_49.trans (congrArg f64 (nI_clamp (n := u_15) (Nat.lt_of_le_of_lt hu_15 (Nat.le_of_ble_eq_true rfl))))
        replace hsp := hsp.trans (slet_eq ey_49)
        exact j_17 _ _ _ _ ⟨y_49, rfl, hsp.symm, hP, hD, hS, lv_sub hl [1, 2, 3, 4, 0] rfl⟩
      · have c_46 : ¬ u_45 = 0 := fun z => c_46 ((nI_eq (a := u_45) (b := 0) (Nat.lt_of_le_of_lt hu_45 (Nat.le_of_ble_eq_true rfl)) (Nat.le_of_ble_eq_true rfl)).mpr z)
        replace hsp := hsp.trans (if_neg c_46)
        refine lv_iconst (v := 0) hx hb dX9_isHeld_33 (by decide) ?_
        refine lv_goto (tgt := 49) hx hb dX9_isHeld_34 (by decide) ?_
        exact j_17 _ _ _ _ ⟨0, rfl, hsp.symm, hP, hD, hS, lv_sub hl [1, 2, 3, 4, 0] rfl⟩
abbrev vs_EM_isHeld_p : List Cond := .code yX9_isHeld cX9_isHeld 8 (some .boolean) :: VM
theorem g_EM_isHeld_p_EM_manyOf_p : GoodIn vs_EM_isHeld_p (wsV RX9 295 RX9 yX9_manyOf vs_EM_manyOf_p) := gm_V vm_152 vm_153 vm_154 vm_19 vm_155
theorem g_EM_isHeld_p_EM_spot_p : GoodIn vs_EM_isHeld_p (wsV RX9 311 RX9 yX9_spot vs_EM_spot_p) := gm_V vm_160 vm_161 vm_162 vm_19 vm_163
theorem g_EM_isHeld_p_EM_isOf : GoodIn vs_EM_isHeld_p (va_wsS RX9 248 yX9_isOf vs_EM_isOf) := gm_S vm_114 vm_115 vm_19 vm_116
noncomputable def sp_EM_isHeld_p_L1 (x16 : Nat) (q4 : Nat → Nat) (q9 : Nat → Nat) (q10 : Nat → Nat) (f11 : Nat → Int32) (m13_0 : Nat) (m13_1 : Nat) (f64 : Nat → Int32) (a0 : Nat) (p1 : Int32) : (Nat) → (Nat) ⊕ (Nat) := fun g_2 => (slet (sp_EM_manyOf_p x16 q4 m13_0 m13_1 a0) (fun u_10 => (if u_10 = 0 then (Sum.inr 1) else (slet (u_10 - 1) (fun n_11 => (if n_11 ≤ g_2 then (Sum.inr 1) else (slet (min (q9 (80 * x16 + (56 + 3 * (a0 - 100)) + g_2)) 2) (fun u_15 => (slet (α := Int32) (slet (sp_EM_isOf p1 (nI u_15)) (fun u_45 => (if u_45 = 0 then (slet (f64 u_15) (fun y_49 => y_49)) else 0))) (fun g_16 => (slet (f11 (80 * x16 + (56 + 3 * (a0 - 100)) + g_2)) (fun y_20 => (slet ((256 : Int32) * y_20) (fun y_21 => (slet (min (q10 (80 * x16 + (56 + 3 * (a0 - 100)) + g_2)) (if (80 * x16 + (56 + 3 * (a0 - 100)) + g_2) % 80 < 56 then 4 else 1)) (fun u_23 => (slet (α := Nat) (if u_23 = 0 then (if (y_21 : Int32) ≤ g_16 then 0 else 1) else (if u_23 = 1 then (if (y_21 : Int32) < g_16 then 0 else 1) else (if u_23 = 2 then (if (g_16 : Int32) = y_21 then 1 else 0) else (if u_23 = 3 then (if (g_16 : Int32) < y_21 then 0 else 1) else (if (g_16 : Int32) ≤ y_21 then 0 else 1))))) (fun g_24 => (if g_24 = 0 then (Sum.inr 0) else (Sum.inl (g_2 + 1)))))))))))))))))))))
noncomputable def sp_EM_isHeld_p (x16 : Nat) (q4 : Nat → Nat) (q9 : Nat → Nat) (q10 : Nat → Nat) (f11 : Nat → Int32) (m13_0 : Nat) (m13_1 : Nat) (f64 : Nat → Int32) (a0 : Nat) (p1 : Int32) : Nat := (itrv (α := Nat) (β := (Nat)) default (sp_EM_isHeld_p_L1 x16 q4 q9 q10 f11 m13_0 m13_1 f64 a0 p1) 0)
set_option maxHeartbeats 4000000 in
set_option maxRecDepth 100000 in
theorem c_EM_isHeld_p (l : Launch) (dC : Nat → ClassId) (dI : Nat → Nat → Nat) (sz : Nat) (ad : Nat → Nat) (ck : Nat → ClassId) (x0 : Int32) (x16 : Nat) (x18 : Nat) (x19 : Nat) (x20 : Int32) (x21 : Nat) (x22 : Nat) (x23 : Int32) (x24 : Int32) (x25 : Int32) (x26 : Nat) (x27 : Int32) (x28 : Nat) (x29 : Nat) (x30 : Nat) (x33 : Nat) (x45 : Int32) (x46 : Nat) (x52 : Nat) (x53 : Nat) (x61 : Nat) (x62 : Nat) (x63 : Nat) (x65 : Nat) (x66 : Int32) (f1 : Nat → Int32) (f2 : Nat → Int32) (f3 : Nat → Int32) (q4 : Nat → Nat) (q5 : Nat → Nat) (q6 : Nat → Nat) (q7 : Nat → Nat) (f8 : Nat → Int32) (q9 : Nat → Nat) (q10 : Nat → Nat) (f11 : Nat → Int32) (m12_0 m12_1 : Nat) (m13_0 m13_1 : Nat) (m14_0 m14_1 : Nat) (m15_0 m15_1 : Nat) (f17 : Nat → Int32) (q31 : Nat → Nat) (f32 : Nat → Int32) (f34 : Nat → Int32) (f35 : Nat → Int32) (f36 : Nat → Int32) (f37 : Nat → Int32) (q38 : Nat → Nat) (f39 : Nat → Int32) (f40 : Nat → Int32) (f41 : Nat → Int32) (m42_0 m42_1 : Nat) (f43 : Nat → Int32) (f44 : Nat → Int32) (f47 : Nat → Int32) (f48 : Nat → Int32) (f49 : Nat → Int32) (f50 : Nat → Int32) (f51 : Nat → Int32) (q54 : Nat → Nat) (q55 : Nat → Nat) (q56 : Nat → Nat) (f57 : Nat → Int32) (q58 : Nat → Nat) (f59 : Nat → Int32) (f60 : Nat → Int32) (f64 : Nat → Int32) (a0 : Nat) (p1 : Int32) (hx16 : x16 ≤ 1) (hx18 : x18 ≤ 900) (hx19 : x19 ≤ 900) (hx21 : x21 ≤ 900) (hx22 : x22 ≤ 4) (hx26 : x26 ≤ 6) (hx28 : x28 ≤ 1) (hx29 : x29 ≤ 1) (hx30 : x30 ≤ 1) (hx33 : x33 ≤ 20) (hx46 : x46 ≤ 5) (hx52 : x52 ≤ 2400) (hx53 : x53 ≤ 119) (hx61 : x61 ≤ 119) (hx62 : x62 ≤ 2000) (hx63 : x63 ≤ 1) (hx65 : x65 ≤ 7) (hm12_0 : m12_0 ≤ 3) (hm12_1 : m12_1 ≤ 3) (hm13_0 : m13_0 ≤ 8) (hm13_1 : m13_1 ≤ 8) (hm14_0 : m14_0 ≤ 14) (hm14_1 : m14_1 ≤ 14) (hm15_0 : m15_0 ≤ 8) (hm15_1 : m15_1 ≤ 8) (hm42_0 : m42_0 ≤ 120) (hm42_1 : m42_1 ≤ 400) (ha0 : a0 ≤ 107) (hb0 : 100 ≤ a0) : Met l yX9_isHeld vs_EM_isHeld_p ({ frames := 3, cells := 0, slots := 0, locals := 64 }) (va_Pc [.ref (ad 0), .int (nI a0), .int p1] (pu_B (dC, dI) (mo_w ad ck x0 (nI x16) (nI x18) (nI x19) x20 (nI x21) (nI x22) x23 x24 x25 (nI x26) x27 (nI x28) (nI x29) (nI x30) (nI x33) x45 (nI x46) (nI x52) (nI x53) (nI x61) (nI x62) (nI x63) (nI x65) x66 f1 f2 f3 (bN 3 q4) (bN 7 q5) (bN 7 q6) (bN 4 q7) f8 (bN 2 q9) (bH q10) f11 (b2 m12_0 m12_1) (b2 m13_0 m13_1) (b2 m14_0 m14_1) (b2m m15_0 m15_1) f17 (bA 159 q31) f32 f34 f35 f36 f37 (bN 7 q38) f39 f40 f41 (b2 m42_0 m42_1) f43 f44 f47 f48 f49 f50 f51 (bN 13 q54) (bN 120 q55) (bN 120 q56) f57 (bN 120 q58) f59 f60 f64) (mo_t ck) sz)) (va_Qi (fun (r : Int32) (_ : Unit) => ∃ v : Nat, v ≤ 1 ∧ r = nI v ∧ v = (sp_EM_isHeld_p x16 q4 q9 q10 f11 m13_0 m13_1 f64 a0 p1)) (fun _ _ => True) (va_A [] sz)) 0 0 (va_A [] sz) := by
  refine Met.ofW (cc := cX9_isHeld) (maxL := 8) (ret := (some .boolean)) (by decide) rfl ?_
  intro p e s m args below meth c s₁ B hml hv
  obtain ⟨rfl, rfl, hP, hK, hD0⟩ := hv
  have hx := B.exec
  have hb := B.bytes
  have hr := B.returns
  have hts := atoms_spec (ws := vs_EM_isHeld_p) B.pre
  have v_10 := hts (.fieldLink RX9 34 "ClockReachModel" "ofClock" "[I") (List.mem_cons_of_mem _ vm_98)
  have v_14 := hts (.fieldLink RX9 139 "ClockReachModel" "clockTime" "[I") (List.mem_cons_of_mem _ vm_358)
  have v_15 := hts (.fieldLink RX9 40 "ClockReachModel" "limit" "[I") (List.mem_cons_of_mem _ vm_100)
  have v_16 := hts (.fieldLink RX9 37 "ClockReachModel" "how" "[I") (List.mem_cons_of_mem _ vm_99)
  have hown : s.vm.findClass RX9 = some m.cls := findClass_of_methodNamed B.named
  have hlocks := B.notSynchronized
  have hiX9 : ∀ w ∈ wsX90, w ∈ vs_EM_isHeld_p := fun _ h => List.mem_cons_of_mem _ (vmi_L h)
  have hD := hD0
  have hA : ∀ q : Nat, s.heap.size ≤ q → va_A [] s.heap.size q := fun _ h => Or.inr h
  have hS : va_S (va_A [] s.heap.size) s.heap s.heap [] := va_S.rf
  have hl := lv_entry ([.ref (ad 0), .int (nI a0), .int p1]) (n := 8) (Nat.le_of_ble_eq_true rfl)
  rw [lg_entry_eq]
  generalize (lg_sl ([.ref (ad 0), .int (nI a0), .int p1]) ++ List.replicate (8 - (lg_sl ([.ref (ad 0), .int (nI a0), .int p1])).length) Slot.unset).toArray = ls at hl ⊢
  have hl : lv_has ls 8 [(0, .ref (ad 0)), (1, .int (nI a0)), (2, .int p1)] := hl
  obtain ⟨RR, hRR⟩ : ∃ x, x = (sp_EM_isHeld_p x16 q4 q9 q10 f11 m13_0 m13_1 f64 a0 p1) := ⟨_, rfl⟩
  have hsp := hRR
  refine lv_iconst (v := 0) hx hb dX9_isHeld_0 (by decide) ?_
  refine lv_istore_n (lv' := [(3, .int 0), (0, .ref (ad 0)), (1, .int (nI a0)), (2, .int p1)]) hx hb dX9_isHeld_1 rfl hl (by decide) rfl (fun ls hl => ?_)
  obtain ⟨lf_4, dlf_4, hlf_4, hsp⟩ := itr_ex hsp
  delta sp_EM_isHeld_p_L1 at hlf_4
  refine pu_while (fun nn H locs ls => ∃ (g_2 : Nat), nn = 3 - g_2 ∧ g_2 ≤ 3 ∧ RR = itrv dlf_4 lf_4 g_2 ∧ va_P (dC, dI) vwCl (mo_w ad ck x0 (nI x16) (nI x18) (nI x19) x20 (nI x21) (nI x22) x23 x24 x25 (nI x26) x27 (nI x28) (nI x29) (nI x30) (nI x33) x45 (nI x46) (nI x52) (nI x53) (nI x61) (nI x62) (nI x63) (nI x65) x66 f1 f2 f3 (bN 3 q4) (bN 7 q5) (bN 7 q6) (bN 4 q7) f8 (bN 2 q9) (bH q10) f11 (b2 m12_0 m12_1) (b2 m13_0 m13_1) (b2 m14_0 m14_1) (b2m m15_0 m15_1) f17 (bA 159 q31) f32 f34 f35 f36 f37 (bN 7 q38) f39 f40 f41 (b2 m42_0 m42_1) f43 f44 f47 f48 f49 f50 f51 (bN 13 q54) (bN 120 q55) (bN 120 q56) f57 (bN 120 q58) f59 f60 f64) H ∧ va_D (fun _ => True) (mo_w ad ck x0 (nI x16) (nI x18) (nI x19) x20 (nI x21) (nI x22) x23 x24 x25 (nI x26) x27 (nI x28) (nI x29) (nI x30) (nI x33) x45 (nI x46) (nI x52) (nI x53) (nI x61) (nI x62) (nI x63) (nI x65) x66 f1 f2 f3 (bN 3 q4) (bN 7 q5) (bN 7 q6) (bN 4 q7) f8 (bN 2 q9) (bH q10) f11 (b2 m12_0 m12_1) (b2 m13_0 m13_1) (b2 m14_0 m14_1) (b2m m15_0 m15_1) f17 (bA 159 q31) f32 f34 f35 f36 f37 (bN 7 q38) f39 f40 f41 (b2 m42_0 m42_1) f43 f44 f47 f48 f49 f50 f51 (bN 13 q54) (bN 120 q55) (bN 120 q56) f57 (bN 120 q58) f59 f60 f64) ∧ va_S (va_A [] s.heap.size) s.heap H locs ∧ lv_has ls 8 [(0, .ref (ad 0)), (1, .int (nI a0)), (2, .int p1), (3, .int (nI g_2))]) 2 ?_ _ _ _ _ ⟨0, rfl, (Nat.le_of_ble_eq_true rfl), hsp, hP, hD, hS, lv_sub hl [1, 2, 3, 0] rfl⟩
  rintro nn ih_3 H locs ls ⟨g_2, rfl, hg_2, he_6, hP, hD, hS, hl⟩
  obtain ⟨S_5, hsp, hin_7, hout_8⟩ := itr_step hlf_4 he_6
  refine lv_iload_n hx hb dX9_isHeld_2 rfl (lv_at hl 3 rfl) ?_
  refine lv_aload_n hx hb dX9_isHeld_3 rfl (lv_at hl 0 rfl) ?_
  refine lv_iload_n hx hb dX9_isHeld_4 rfl (lv_at hl 1 rfl) ?_
  refine va_calli (va_runV (As := [.int (nI a0)]) (rest := [.int (nI g_2)]) ⟨hx, hb, hml, hown, hts⟩ (c_EM_manyOf_p l dC dI _ ad ck x0 x16 x18 x19 x20 x21 x22 x23 x24 x25 x26 x27 x28 x29 x30 x33 x45 x46 x52 x53 x61 x62 x63 x65 x66 f1 f2 f3 q4 q5 q6 q7 f8 q9 q10 f11 m12_0 m12_1 m13_0 m13_1 m14_0 m14_1 m15_0 m15_1 f17 q31 f32 f34 f35 f36 f37 q38 f39 f40 f41 m42_0 m42_1 f43 f44 f47 f48 f49 f50 f51 q54 q55 q56 f57 q58 f59 f60 f64 a0 hx16 hx18 hx19 hx21 hx22 hx26 hx28 hx29 hx30 hx33 hx46 hx52 hx53 hx61 hx62 hx63 hx65 hm12_0 hm12_1 hm13_0 hm13_1 hm14_0 hm14_1 hm15_0 hm15_1 hm42_0 hm42_1 ha0 (by omega)) (cwV 1 hts g_EM_isHeld_p_EM_manyOf_p rfl rfl rfl (by decide +kernel) ⟨Nat.le_of_ble_eq_true rfl, Nat.le_of_ble_eq_true rfl⟩) ⟨pu_bl, va_recv hK hP (ci := 9) (q0 := 0) rfl rfl, pu_in hP hK hD⟩ rfl rfl hl.1 rfl (lv_room (Nat.le_of_ble_eq_true rfl)) dX9_isHeld_5 ⟨Nat.le_of_ble_eq_true rfl, Nat.le_of_ble_eq_true rfl⟩) hS (fun q _ h => pu_fr hS hA q h) (pu_fr hS hA) (fun r_9 u t H1 locs ht hvm hw hB hz1 hk1 hS => ?_)
  have hP := pu_keep hP hk1
  clear hk1 hz1 ht hvm
  generalize H1 = H at hP hS ⊢
  obtain ⟨u_10, hu_10, mu_10, iu_10⟩ := hw
  replace hsp := hsp.trans (slet_eq iu_10)
  rcases mI_get u_10 with ⟨zn_11, wn_11⟩ | ⟨n_11, zn_11, wn_11⟩
  · obtain rfl : r_9 = -1 := mu_10.trans wn_11
    replace hsp := hsp.trans (if_pos zn_11)
    refine lv_icmp_ge (tgt := 194) hx hb dX9_isHeld_8 (by decide) (fun _ => ?_) (fun z => absurd (pu_negle (n := g_2) (by omega) (by decide)) z)
    replace hsp := hout_8 _ hsp
    refine lv_iconst (v := 1) hx hb dX9_isHeld_194 (by decide) ?_
    exact W.zret (v := 1) (ty := .boolean) hx hb hr (rfl) (fun t ht hW => ⟨⟨1, (), rfl, ⟨1, (Nat.le_of_ble_eq_true rfl), rfl, (hsp.symm.trans hRR)⟩, trivial⟩, hS.F ht⟩) hS.2.2 dX9_isHeld_195
  · obtain rfl : r_9 = nI n_11 := mu_10.trans wn_11
    have hn_11 : n_11 ≤ 3 := by omega
    replace hsp := hsp.trans (if_neg (by omega))
    replace hsp := hsp.trans (slet_eq (by omega : n_11 = u_10 - 1))
    refine lv_icmp_ge (tgt := 194) hx hb dX9_isHeld_8 (by decide) (fun c_12 => ?_) (fun c_12 => ?_)
    · have c_12 : n_11 ≤ g_2 := (nI_leI (a := n_11) (b := g_2) (Nat.lt_of_le_of_lt hn_11 (Nat.le_of_ble_eq_true rfl)) (Nat.lt_of_le_of_lt hg_2 (Nat.le_of_ble_eq_true rfl))).mp c_12
      replace hsp := hsp.trans (if_pos c_12)
      replace hsp := hout_8 _ hsp
      refine lv_iconst (v := 1) hx hb dX9_isHeld_194 (by decide) ?_
      exact W.zret (v := 1) (ty := .boolean) hx hb hr (rfl) (fun t ht hW => ⟨⟨1, (), rfl, ⟨1, (Nat.le_of_ble_eq_true rfl), rfl, (hsp.symm.trans hRR)⟩, trivial⟩, hS.F ht⟩) hS.2.2 dX9_isHeld_195
    · have c_12 : ¬ n_11 ≤ g_2 := fun z => c_12 ((nI_leI (a := n_11) (b := g_2) (Nat.lt_of_le_of_lt hn_11 (Nat.le_of_ble_eq_true rfl)) (Nat.lt_of_le_of_lt hg_2 (Nat.le_of_ble_eq_true rfl))).mpr z)
      replace hsp := hsp.trans (if_neg c_12)
      refine lv_aload_n hx hb dX9_isHeld_11 rfl (lv_at hl 0 rfl) ?_
      refine lv_iload_n hx hb dX9_isHeld_12 rfl (lv_at hl 1 rfl) ?_
      refine lv_iload_n hx hb dX9_isHeld_13 rfl (lv_at hl 3 rfl) ?_
      refine va_calli (va_runV (As := [.int (nI a0), .int (nI g_2)]) (rest := []) ⟨hx, hb, hml, hown, hts⟩ (c_EM_spot_p l dC dI _ ad ck x0 x16 x18 x19 x20 x21 x22 x23 x24 x25 x26 x27 x28 x29 x30 x33 x45 x46 x52 x53 x61 x62 x63 x65 x66 f1 f2 f3 q4 q5 q6 q7 f8 q9 q10 f11 m12_0 m12_1 m13_0 m13_1 m14_0 m14_1 m15_0 m15_1 f17 q31 f32 f34 f35 f36 f37 q38 f39 f40 f41 m42_0 m42_1 f43 f44 f47 f48 f49 f50 f51 q54 q55 q56 f57 q58 f59 f60 f64 a0 g_2 hx16 hx18 hx19 hx21 hx22 hx26 hx28 hx29 hx30 hx33 hx46 hx52 hx53 hx61 hx62 hx63 hx65 hm12_0 hm12_1 hm13_0 hm13_1 hm14_0 hm14_1 hm15_0 hm15_1 hm42_0 hm42_1 ha0 (by omega) (by omega)) (cwV 2 hts g_EM_isHeld_p_EM_spot_p rfl rfl rfl (by decide +kernel) ⟨Nat.le_of_ble_eq_true rfl, Nat.le_of_ble_eq_true rfl⟩) ⟨pu_bl, va_recv hK hP (ci := 9) (q0 := 0) rfl rfl, pu_in hP hK hD⟩ rfl rfl hl.1 rfl (lv_room (Nat.le_of_ble_eq_true rfl)) dX9_isHeld_14 ⟨Nat.le_of_ble_eq_true rfl, Nat.le_of_ble_eq_true rfl⟩) hS (fun q _ h => pu_fr hS hA q h) (pu_fr hS hA) (fun r_13 u t H1 locs ht hvm hw hB hz1 hk1 hS => ?_)
      have hP := pu_keep hP hk1
      clear hk1 hz1 ht hvm
      generalize H1 = H at hP hS ⊢
      obtain rfl : r_13 = nI (80 * x16 + (56 + 3 * (a0 - 100)) + g_2) := hw
      refine lv_istore (lv' := [(4, .int (nI (80 * x16 + (56 + 3 * (a0 - 100)) + g_2))), (0, .ref (ad 0)), (1, .int (nI a0)), (2, .int p1), (3, .int (nI g_2))]) hx hb dX9_isHeld_17 hl (by decide) rfl (fun ls hl => ?_)
      refine lv_iload_n hx hb dX9_isHeld_19 rfl (lv_at hl 3 rfl) ?_
      refine lv_aload_n hx hb dX9_isHeld_20 rfl (lv_at hl 1 rfl) ?_
      refine va_get (D := (dC, dI)) (ci := 9) (v := .ref (ad 9)) (C := RX9) (T := TX9) (N := 67) hx hb hts hiX9 hown hK hP 0 rfl rfl 9 (by decide) v_10 (fun _ h9 => h9) rfl dX9_isHeld_21 ?_
      refine lv_iload hx hb dX9_isHeld_24 (lv_at hl 0 rfl) ?_
      refine va_iald hx hb hK hP 9 8 rfl rfl (vp_in_nI (n := (80 * x16 + (56 + 3 * (a0 - 100)) + g_2)) (by omega) (Nat.le_of_ble_eq_true rfl)) dX9_isHeld_26 ?_
      refine lv_topi (fun y_14 ey_14 => ?_)
      obtain ⟨u_15, hu_15, qu_15, xu_15⟩ := bN_getx 2 q9 (n := (80 * x16 + (56 + 3 * (a0 - 100)) + g_2)) (by first | omega | exact Nat.lt_trans (sp_ix (by omega) (by omega) (by omega)) (by decide : 14641 < 2 ^ 31) | exact Nat.lt_trans (sp_ix0 (by omega) (by omega)) (by decide : 14641 < 2 ^ 31) | exact Nat.lt_trans (zx16 (by omega) (by omega) (by omega)) (Nat.le_of_ble_eq_true rfl) | exact Nat.lt_trans (zy16 (by omega) (by omega)) (Nat.le_of_ble_eq_true rfl) | exact Nat.lt_trans (zx25 (by omega) (by omega) (by omega)) (Nat.le_of_ble_eq_true rfl) | exact Nat.lt_trans (zy25 (by omega) (by omega)) (Nat.le_of_ble_eq_true rfl))
      obtain rfl : y_14 = nI u_15 := ey_14.trans qu_15
      replace hsp := hsp.trans (slet_eq xu_15)
      obtain ⟨JR_18, hJR_18, hsp⟩ := slet_ex hsp
      refine pu_join (fun H locs ls st => ∃ (g_16 : Int32), st = [.int g_16] ∧ g_16 = JR_18 ∧ va_P (dC, dI) vwCl (mo_w ad ck x0 (nI x16) (nI x18) (nI x19) x20 (nI x21) (nI x22) x23 x24 x25 (nI x26) x27 (nI x28) (nI x29) (nI x30) (nI x33) x45 (nI x46) (nI x52) (nI x53) (nI x61) (nI x62) (nI x63) (nI x65) x66 f1 f2 f3 (bN 3 q4) (bN 7 q5) (bN 7 q6) (bN 4 q7) f8 (bN 2 q9) (bH q10) f11 (b2 m12_0 m12_1) (b2 m13_0 m13_1) (b2 m14_0 m14_1) (b2m m15_0 m15_1) f17 (bA 159 q31) f32 f34 f35 f36 f37 (bN 7 q38) f39 f40 f41 (b2 m42_0 m42_1) f43 f44 f47 f48 f49 f50 f51 (bN 13 q54) (bN 120 q55) (bN 120 q56) f57 (bN 120 q58) f59 f60 f64) H ∧ va_D (fun _ => True) (mo_w ad ck x0 (nI x16) (nI x18) (nI x19) x20 (nI x21) (nI x22) x23 x24 x25 (nI x26) x27 (nI x28) (nI x29) (nI x30) (nI x33) x45 (nI x46) (nI x52) (nI x53) (nI x61) (nI x62) (nI x63) (nI x65) x66 f1 f2 f3 (bN 3 q4) (bN 7 q5) (bN 7 q6) (bN 4 q7) f8 (bN 2 q9) (bH q10) f11 (b2 m12_0 m12_1) (b2 m13_0 m13_1) (b2 m14_0 m14_1) (b2m m15_0 m15_1) f17 (bA 159 q31) f32 f34 f35 f36 f37 (bN 7 q38) f39 f40 f41 (b2 m42_0 m42_1) f43 f44 f47 f48 f49 f50 f51 (bN 13 q54) (bN 120 q55) (bN 120 q56) f57 (bN 120 q58) f59 f60 f64) ∧ va_S (va_A [] s.heap.size) s.heap H locs ∧ lv_has ls 8 [(0, .ref (ad 0)), (1, .int (nI a0)), (2, .int p1), (3, .int (nI g_2)), (4, .int (nI (80 * x16 + (56 + 3 * (a0 - 100)) + g_2)))]) 49 ?_ (fun j_17 => ?_)
      · rintro H locs ls st ⟨g_16, rfl, he_19, hP, hD, hS, hl⟩
        rw [← he_19] at hsp
        refine lv_istore (lv' := [(5, .int g_16), (0, .ref (ad 0)), (1, .int (nI a0)), (2, .int p1), (3, .int (nI g_2)), (4, .int (nI (80 * x16 + (56 + 3 * (a0 - 100)) + g_2)))]) hx hb dX9_isHeld_49 hl (by decide) rfl (fun ls hl => ?_)
        refine lv_sipush (v := 256) hx hb dX9_isHeld_51 (by decide) ?_
        refine lv_aload_n hx hb dX9_isHeld_54 rfl (lv_at hl 1 rfl) ?_
        refine va_get (D := (dC, dI)) (ci := 9) (v := .ref (ad 11)) (C := RX9) (T := TX9) (N := 67) hx hb hts hiX9 hown hK hP 0 rfl rfl 11 (by decide) v_15 (fun _ h9 => h9) rfl dX9_isHeld_55 ?_
        refine lv_iload hx hb dX9_isHeld_58 (lv_at hl 5 rfl) ?_
        refine va_iald hx hb hK hP 11 10 rfl rfl (vp_in_nI (n := (80 * x16 + (56 + 3 * (a0 - 100)) + g_2)) (by omega) (Nat.le_of_ble_eq_true rfl)) dX9_isHeld_60 ?_
        refine lv_topi (fun y_20 ey_20 => ?_)
        have ey_20 : y_20 = f11 (80 * x16 + (56 + 3 * (a0 - 100)) + g_2) := ey_20.trans (congrArg f11 (nI_clamp (n := (80 * x16 + (56 + 3 * (a0 - 100)) + g_2)) (by first | omega | exact Nat.lt_trans (sp_ix (by omega) (by omega) (by omega)) (by decide : 14641 < 2 ^ 31) | exact Nat.lt_trans (sp_ix0 (by omega) (by omega)) (by decide : 14641 < 2 ^ 31) | exact Nat.lt_trans (zx16 (by omega) (by omega) (by omega)) (Nat.le_of_ble_eq_true rfl) | exact Nat.lt_trans (zy16 (by omega) (by omega)) (Nat.le_of_ble_eq_true rfl) | exact Nat.lt_trans (zx25 (by omega) (by omega) (by omega)) (Nat.le_of_ble_eq_true rfl) | exact Nat.lt_trans (zy25 (by omega) (by omega)) (Nat.le_of_ble_eq_true rfl))))
        replace hsp := hsp.trans (slet_eq ey_20)
        refine lv_imul hx hb dX9_isHeld_61 ?_
        refine lv_topi (fun y_21 ey_21 => ?_)
        replace hsp := hsp.trans (slet_eq ey_21)
        refine lv_istore (lv' := [(6, .int y_21), (5, .int g_16), (0, .ref (ad 0)), (1, .int (nI a0)), (2, .int p1), (3, .int (nI g_2)), (4, .int (nI (80 * x16 + (56 + 3 * (a0 - 100)) + g_2)))]) hx hb dX9_isHeld_62 hl (by decide) rfl (fun ls hl => ?_)
        refine lv_aload_n hx hb dX9_isHeld_64 rfl (lv_at hl 2 rfl) ?_
        refine va_get (D := (dC, dI)) (ci := 9) (v := .ref (ad 10)) (C := RX9) (T := TX9) (N := 67) hx hb hts hiX9 hown hK hP 0 rfl rfl 10 (by decide) v_16 (fun _ h9 => h9) rfl dX9_isHeld_65 ?_
        refine lv_iload hx hb dX9_isHeld_68 (lv_at hl 6 rfl) ?_
        refine va_iald hx hb hK hP 10 9 rfl rfl (vp_in_nI (n := (80 * x16 + (56 + 3 * (a0 - 100)) + g_2)) (by omega) (Nat.le_of_ble_eq_true rfl)) dX9_isHeld_70 ?_
        refine lv_topi (fun y_22 ey_22 => ?_)
        obtain ⟨u_23, hu_23, qu_23, xu_23⟩ := bH_getx q10 (i := (80 * x16 + (56 + 3 * (a0 - 100)) + g_2)) (by omega)
        obtain rfl : y_22 = nI u_23 := ey_22.trans qu_23
        replace hsp := hsp.trans (slet_eq xu_23)
        obtain ⟨JR_26, hJR_26, hsp⟩ := slet_ex hsp
        refine pu_join (fun H locs ls st => ∃ (g_24 : Nat), st = [.int (nI g_24)] ∧ g_24 ≤ 1 ∧ g_24 = JR_26 ∧ va_P (dC, dI) vwCl (mo_w ad ck x0 (nI x16) (nI x18) (nI x19) x20 (nI x21) (nI x22) x23 x24 x25 (nI x26) x27 (nI x28) (nI x29) (nI x30) (nI x33) x45 (nI x46) (nI x52) (nI x53) (nI x61) (nI x62) (nI x63) (nI x65) x66 f1 f2 f3 (bN 3 q4) (bN 7 q5) (bN 7 q6) (bN 4 q7) f8 (bN 2 q9) (bH q10) f11 (b2 m12_0 m12_1) (b2 m13_0 m13_1) (b2 m14_0 m14_1) (b2m m15_0 m15_1) f17 (bA 159 q31) f32 f34 f35 f36 f37 (bN 7 q38) f39 f40 f41 (b2 m42_0 m42_1) f43 f44 f47 f48 f49 f50 f51 (bN 13 q54) (bN 120 q55) (bN 120 q56) f57 (bN 120 q58) f59 f60 f64) H ∧ va_D (fun _ => True) (mo_w ad ck x0 (nI x16) (nI x18) (nI x19) x20 (nI x21) (nI x22) x23 x24 x25 (nI x26) x27 (nI x28) (nI x29) (nI x30) (nI x33) x45 (nI x46) (nI x52) (nI x53) (nI x61) (nI x62) (nI x63) (nI x65) x66 f1 f2 f3 (bN 3 q4) (bN 7 q5) (bN 7 q6) (bN 4 q7) f8 (bN 2 q9) (bH q10) f11 (b2 m12_0 m12_1) (b2 m13_0 m13_1) (b2 m14_0 m14_1) (b2m m15_0 m15_1) f17 (bA 159 q31) f32 f34 f35 f36 f37 (bN 7 q38) f39 f40 f41 (b2 m42_0 m42_1) f43 f44 f47 f48 f49 f50 f51 (bN 13 q54) (bN 120 q55) (bN 120 q56) f57 (bN 120 q58) f59 f60 f64) ∧ va_S (va_A [] s.heap.size) s.heap H locs ∧ lv_has ls 8 [(0, .ref (ad 0)), (1, .int (nI a0)), (2, .int p1), (3, .int (nI g_2)), (4, .int (nI (80 * x16 + (56 + 3 * (a0 - 100)) + g_2))), (5, .int g_16), (6, .int y_21)]) 179 ?_ (fun j_25 => ?_)
        · rintro H locs ls st ⟨g_24, rfl, hg_24, he_27, hP, hD, hS, hl⟩
          rw [← he_27] at hsp
          refine lv_istore (lv' := [(7, .int (nI g_24)), (0, .ref (ad 0)), (1, .int (nI a0)), (2, .int p1), (3, .int (nI g_2)), (4, .int (nI (80 * x16 + (56 + 3 * (a0 - 100)) + g_2))), (5, .int g_16), (6, .int y_21)]) hx hb dX9_isHeld_179 hl (by decide) rfl (fun ls hl => ?_)
          refine lv_iload hx hb dX9_isHeld_181 (lv_at hl 0 rfl) ?_
          refine lv_if_ne (tgt := 188) hx hb dX9_isHeld_183 (by decide) (fun c_28 => ?_) (fun c_28 => ?_)
          · have c_28 : ¬ g_24 = 0 := fun z => c_28 ((nI_eq (a := g_24) (b := 0) (Nat.lt_of_le_of_lt hg_24 (Nat.le_of_ble_eq_true rfl)) (Nat.le_of_ble_eq_true rfl)).mpr z)
            replace hsp := hsp.trans (if_neg c_28)
            refine lv_iinc (v := (nI (g_2 + 1))) (lv' := [(3, .int (nI (g_2 + 1))), (7, .int (nI g_24)), (0, .ref (ad 0)), (1, .int (nI a0)), (2, .int p1), (4, .int (nI (80 * x16 + (56 + 3 * (a0 - 100)) + g_2))), (5, .int g_16), (6, .int y_21)]) hx hb dX9_isHeld_188 hl (k := 4) rfl (nI_1 _) (by decide) rfl (fun ls hl => ?_)
            refine lv_goto (tgt := 2) hx hb dX9_isHeld_191 (by decide) ?_
            exact ih_3 (3 - (g_2 + 1)) (by omega) _ _ _ ⟨(g_2 + 1), rfl, (by omega), hin_7 _ hsp, hP, hD, hS, lv_sub hl [2, 3, 4, 0] rfl⟩
          · have c_28 : g_24 = 0 := (nI_eq (a := g_24) (b := 0) (Nat.lt_of_le_of_lt hg_24 (Nat.le_of_ble_eq_true rfl)) (Nat.le_of_ble_eq_true rfl)).mp c_28
            replace hsp := hsp.trans (if_pos c_28)
            replace hsp := hout_8 _ hsp
            refine lv_iconst (v := 0) hx hb dX9_isHeld_186 (by decide) ?_
            exact W.zret (v := 0) (ty := .boolean) hx hb hr (rfl) (fun t ht hW => ⟨⟨0, (), rfl, ⟨0, (Nat.le_of_ble_eq_true rfl), rfl, (hsp.symm.trans hRR)⟩, trivial⟩, hS.F ht⟩) hS.2.2 dX9_isHeld_187
        have hsp := hJR_26
        refine lv_if_ne (tgt := 89) hx hb dX9_isHeld_71 (by decide) (fun c_29 => ?_) (fun c_29 => ?_)
        · have c_29 : ¬ u_23 = 0 := fun z => c_29 ((nI_eq (a := u_23) (b := 0) (by omega) (Nat.le_of_ble_eq_true rfl)).mpr z)
          replace hsp := hsp.trans (if_neg c_29)
          refine lv_aload_n hx hb dX9_isHeld_89 rfl (lv_at hl 2 rfl) ?_
          refine va_get (D := (dC, dI)) (ci := 9) (v := .ref (ad 10)) (C := RX9) (T := TX9) (N := 67) hx hb hts hiX9 hown hK hP 0 rfl rfl 10 (by decide) v_16 (fun _ h9 => h9) rfl dX9_isHeld_90 ?_
          refine lv_iload hx hb dX9_isHeld_93 (lv_at hl 6 rfl) ?_
          refine va_iald hx hb hK hP 10 9 rfl rfl (vp_in_nI (n := (80 * x16 + (56 + 3 * (a0 - 100)) + g_2)) (by omega) (Nat.le_of_ble_eq_true rfl)) dX9_isHeld_95 ?_
          refine lv_topi (fun y_30 ey_30 => ?_)
          obtain rfl : y_30 = nI u_23 := ey_30.trans qu_23
          refine lv_iconst (v := 1) hx hb dX9_isHeld_96 (by decide) ?_
          refine lv_icmp_ne (tgt := 115) hx hb dX9_isHeld_97 (by decide) (fun c_32 => ?_) (fun c_32 => ?_)
          · have c_32 : ¬ u_23 = 1 := fun z => c_32 ((nI_eq (a := u_23) (b := 1) (by omega) (Nat.le_of_ble_eq_true rfl)).mpr z)
            replace hsp := hsp.trans (if_neg c_32)
            refine lv_aload_n hx hb dX9_isHeld_115 rfl (lv_at hl 2 rfl) ?_
            refine va_get (D := (dC, dI)) (ci := 9) (v := .ref (ad 10)) (C := RX9) (T := TX9) (N := 67) hx hb hts hiX9 hown hK hP 0 rfl rfl 10 (by decide) v_16 (fun _ h9 => h9) rfl dX9_isHeld_116 ?_
            refine lv_iload hx hb dX9_isHeld_119 (lv_at hl 6 rfl) ?_
            refine va_iald hx hb hK hP 10 9 rfl rfl (vp_in_nI (n := (80 * x16 + (56 + 3 * (a0 - 100)) + g_2)) (by omega) (Nat.le_of_ble_eq_true rfl)) dX9_isHeld_121 ?_
            refine lv_topi (fun y_33 ey_33 => ?_)
            obtain rfl : y_33 = nI u_23 := ey_33.trans qu_23
            refine lv_iconst (v := 2) hx hb dX9_isHeld_122 (by decide) ?_
            refine lv_icmp_ne (tgt := 141) hx hb dX9_isHeld_123 (by decide) (fun c_35 => ?_) (fun c_35 => ?_)
            · have c_35 : ¬ u_23 = 2 := fun z => c_35 ((nI_eq (a := u_23) (b := 2) (by omega) (Nat.le_of_ble_eq_true rfl)).mpr z)
              replace hsp := hsp.trans (if_neg c_35)
              refine lv_aload_n hx hb dX9_isHeld_141 rfl (lv_at hl 2 rfl) ?_
              refine va_get (D := (dC, dI)) (ci := 9) (v := .ref (ad 10)) (C := RX9) (T := TX9) (N := 67) hx hb hts hiX9 hown hK hP 0 rfl rfl 10 (by decide) v_16 (fun _ h9 => h9) rfl dX9_isHeld_142 ?_
              refine lv_iload hx hb dX9_isHeld_145 (lv_at hl 6 rfl) ?_
              refine va_iald hx hb hK hP 10 9 rfl rfl (vp_in_nI (n := (80 * x16 + (56 + 3 * (a0 - 100)) + g_2)) (by omega) (Nat.le_of_ble_eq_true rfl)) dX9_isHeld_147 ?_
              refine lv_topi (fun y_36 ey_36 => ?_)
              obtain rfl : y_36 = nI u_23 := ey_36.trans qu_23
              refine lv_iconst (v := 3) hx hb dX9_isHeld_148 (by decide) ?_
              refine lv_icmp_ne (tgt := 167) hx hb dX9_isHeld_149 (by decide) (fun c_38 => ?_) (fun c_38 => ?_)
              · have c_38 : ¬ u_23 = 3 := fun z => c_38 ((nI_eq (a := u_23) (b := 3) (by omega) (Nat.le_of_ble_eq_true rfl)).mpr z)
                replace hsp := hsp.trans (if_neg c_38)
                refine lv_iload hx hb dX9_isHeld_167 (lv_at hl 1 rfl) ?_
                refine lv_iload hx hb dX9_isHeld_169 (lv_at hl 0 rfl) ?_
                refine lv_icmp_le (tgt := 178) hx hb dX9_isHeld_171 (by decide) (fun c_39 => ?_) (fun c_39 => ?_)
                · have hcc_39 := c_39
                  replace hsp := hsp.trans (if_pos c_39)
                  refine lv_iconst (v := 0) hx hb dX9_isHeld_178 (by decide) ?_
                  exact j_25 _ _ _ _ ⟨0, rfl, (Nat.le_of_ble_eq_true rfl), hsp.symm, hP, hD, hS, lv_sub hl [2, 3, 4, 5, 6, 1, 0] rfl⟩
                · have hcc_39 := c_39
                  replace hsp := hsp.trans (if_neg c_39)
                  refine lv_iconst (v := 1) hx hb dX9_isHeld_174 (by decide) ?_
                  refine lv_goto (tgt := 179) hx hb dX9_isHeld_175 (by decide) ?_
                  exact j_25 _ _ _ _ ⟨1, rfl, (Nat.le_of_ble_eq_true rfl), hsp.symm, hP, hD, hS, lv_sub hl [2, 3, 4, 5, 6, 1, 0] rfl⟩
              · have c_38 : u_23 = 3 := (nI_eq (a := u_23) (b := 3) (by omega) (Nat.le_of_ble_eq_true rfl)).mp c_38
                replace hsp := hsp.trans (if_pos c_38)
                refine lv_iload hx hb dX9_isHeld_152 (lv_at hl 1 rfl) ?_
                refine lv_iload hx hb dX9_isHeld_154 (lv_at hl 0 rfl) ?_
                refine lv_icmp_lt (tgt := 163) hx hb dX9_isHeld_156 (by decide) (fun c_40 => ?_) (fun c_40 => ?_)
                · have hcc_40 := c_40
                  replace hsp := hsp.trans (if_pos c_40)
                  refine lv_iconst (v := 0) hx hb dX9_isHeld_163 (by decide) ?_
                  refine lv_goto (tgt := 179) hx hb dX9_isHeld_164 (by decide) ?_
                  exact j_25 _ _ _ _ ⟨0, rfl, (Nat.le_of_ble_eq_true rfl), hsp.symm, hP, hD, hS, lv_sub hl [2, 3, 4, 5, 6, 1, 0] rfl⟩
                · have hcc_40 := c_40
                  replace hsp := hsp.trans (if_neg c_40)
                  refine lv_iconst (v := 1) hx hb dX9_isHeld_159 (by decide) ?_
                  refine lv_goto (tgt := 179) hx hb dX9_isHeld_160 (by decide) ?_
                  exact j_25 _ _ _ _ ⟨1, rfl, (Nat.le_of_ble_eq_true rfl), hsp.symm, hP, hD, hS, lv_sub hl [2, 3, 4, 5, 6, 1, 0] rfl⟩
            · have c_35 : u_23 = 2 := (nI_eq (a := u_23) (b := 2) (by omega) (Nat.le_of_ble_eq_true rfl)).mp c_35
              replace hsp := hsp.trans (if_pos c_35)
              refine lv_iload hx hb dX9_isHeld_126 (lv_at hl 1 rfl) ?_
              refine lv_iload hx hb dX9_isHeld_128 (lv_at hl 0 rfl) ?_
              refine lv_icmp_ne (tgt := 137) hx hb dX9_isHeld_130 (by decide) (fun c_41 => ?_) (fun c_41 => ?_)
              · have hcc_41 := c_41
                replace hsp := hsp.trans (if_neg c_41)
                refine lv_iconst (v := 0) hx hb dX9_isHeld_137 (by decide) ?_
                refine lv_goto (tgt := 179) hx hb dX9_isHeld_138 (by decide) ?_
                exact j_25 _ _ _ _ ⟨0, rfl, (Nat.le_of_ble_eq_true rfl), hsp.symm, hP, hD, hS, lv_sub hl [2, 3, 4, 5, 6, 1, 0] rfl⟩
              · have hcc_41 := c_41
                replace hsp := hsp.trans (if_pos c_41)
                refine lv_iconst (v := 1) hx hb dX9_isHeld_133 (by decide) ?_
                refine lv_goto (tgt := 179) hx hb dX9_isHeld_134 (by decide) ?_
                exact j_25 _ _ _ _ ⟨1, rfl, (Nat.le_of_ble_eq_true rfl), hsp.symm, hP, hD, hS, lv_sub hl [2, 3, 4, 5, 6, 1, 0] rfl⟩
          · have c_32 : u_23 = 1 := (nI_eq (a := u_23) (b := 1) (by omega) (Nat.le_of_ble_eq_true rfl)).mp c_32
            replace hsp := hsp.trans (if_pos c_32)
            refine lv_iload hx hb dX9_isHeld_100 (lv_at hl 1 rfl) ?_
            refine lv_iload hx hb dX9_isHeld_102 (lv_at hl 0 rfl) ?_
            refine lv_icmp_gt (tgt := 111) hx hb dX9_isHeld_104 (by decide) (fun c_42 => ?_) (fun c_42 => ?_)
            · have hcc_42 := c_42
              replace hsp := hsp.trans (if_pos c_42)
              refine lv_iconst (v := 0) hx hb dX9_isHeld_111 (by decide) ?_
              refine lv_goto (tgt := 179) hx hb dX9_isHeld_112 (by decide) ?_
              exact j_25 _ _ _ _ ⟨0, rfl, (Nat.le_of_ble_eq_true rfl), hsp.symm, hP, hD, hS, lv_sub hl [2, 3, 4, 5, 6, 1, 0] rfl⟩
            · have hcc_42 := c_42
              replace hsp := hsp.trans (if_neg c_42)
              refine lv_iconst (v := 1) hx hb dX9_isHeld_107 (by decide) ?_
              refine lv_goto (tgt := 179) hx hb dX9_isHeld_108 (by decide) ?_
              exact j_25 _ _ _ _ ⟨1, rfl, (Nat.le_of_ble_eq_true rfl), hsp.symm, hP, hD, hS, lv_sub hl [2, 3, 4, 5, 6, 1, 0] rfl⟩
        · have c_29 : u_23 = 0 := (nI_eq (a := u_23) (b := 0) (by omega) (Nat.le_of_ble_eq_true rfl)).mp c_29
          replace hsp := hsp.trans (if_pos c_29)
          refine lv_iload hx hb dX9_isHeld_74 (lv_at hl 1 rfl) ?_
          refine lv_iload hx hb dX9_isHeld_76 (lv_at hl 0 rfl) ?_
          refine lv_icmp_ge (tgt := 85) hx hb dX9_isHeld_78 (by decide) (fun c_43 => ?_) (fun c_43 => ?_)
          · have hcc_43 := c_43
            replace hsp := hsp.trans (if_pos c_43)
            refine lv_iconst (v := 0) hx hb dX9_isHeld_85 (by decide) ?_
            refine lv_goto (tgt := 179) hx hb dX9_isHeld_86 (by decide) ?_
            exact j_25 _ _ _ _ ⟨0, rfl, (Nat.le_of_ble_eq_true rfl), hsp.symm, hP, hD, hS, lv_sub hl [2, 3, 4, 5, 6, 1, 0] rfl⟩
          · have hcc_43 := c_43
            replace hsp := hsp.trans (if_neg c_43)
            refine lv_iconst (v := 1) hx hb dX9_isHeld_81 (by decide) ?_
            refine lv_goto (tgt := 179) hx hb dX9_isHeld_82 (by decide) ?_
            exact j_25 _ _ _ _ ⟨1, rfl, (Nat.le_of_ble_eq_true rfl), hsp.symm, hP, hD, hS, lv_sub hl [2, 3, 4, 5, 6, 1, 0] rfl⟩
      have hsp := hJR_18
      refine va_calli (va_runS (As := [.int p1, .int (nI u_15)]) (rest := []) ⟨hx, hb, hml, hown, hts⟩ (c_EM_isOf l dC dI _ ad ck x0 x16 x18 x19 x20 x21 x22 x23 x24 x25 x26 x27 x28 x29 x30 x33 x45 x46 x52 x53 x61 x62 x63 x65 x66 f1 f2 f3 q4 q5 q6 q7 f8 q9 q10 f11 m12_0 m12_1 m13_0 m13_1 m14_0 m14_1 m15_0 m15_1 f17 q31 f32 f34 f35 f36 f37 q38 f39 f40 f41 m42_0 m42_1 f43 f44 f47 f48 f49 f50 f51 q54 q55 q56 f57 q58 f59 f60 f64 p1 (nI u_15) hx16 hx18 hx19 hx21 hx22 hx26 hx28 hx29 hx30 hx33 hx46 hx52 hx53 hx61 hx62 hx63 hx65 hm12_0 hm12_1 hm13_0 hm13_1 hm14_0 hm14_1 hm15_0 hm15_1 hm42_0 hm42_1) (va_cwS 2 hts g_EM_isHeld_p_EM_isOf rfl rfl rfl (by decide +kernel) ⟨Nat.le_of_ble_eq_true rfl, Nat.le_of_ble_eq_true rfl⟩) ⟨pu_bl, pu_in hP hK hD⟩ rfl rfl hl.1 rfl (lv_room (Nat.le_of_ble_eq_true rfl)) dX9_isHeld_27 ⟨Nat.le_of_ble_eq_true rfl, Nat.le_of_ble_eq_true rfl⟩) hS (fun q _ h => pu_fr hS hA q h) (pu_fr hS hA) (fun r_44 u t H1 locs ht hvm hw hB hz1 hk1 hS => ?_)
      have hP := pu_keep hP hk1
      clear hk1 hz1 ht hvm
      generalize H1 = H at hP hS ⊢
      obtain ⟨u_45, hu_45, rfl, iu_45⟩ := hw
      replace hsp := hsp.trans (slet_eq iu_45)
      refine lv_if_eq (tgt := 37) hx hb dX9_isHeld_30 (by decide) (fun c_46 => ?_) (fun c_46 => ?_)
      · have c_46 : u_45 = 0 := (nI_eq (a := u_45) (b := 0) (Nat.lt_of_le_of_lt hu_45 (Nat.le_of_ble_eq_true rfl)) (Nat.le_of_ble_eq_true rfl)).mp c_46
        replace hsp := hsp.trans (if_pos c_46)
        refine lv_aload_n hx hb dX9_isHeld_37 rfl (lv_at hl 1 rfl) ?_
        refine va_get (D := (dC, dI)) (ci := 9) (v := .ref (ad 64)) (C := RX9) (T := TX9) (N := 67) hx hb hts hiX9 hown hK hP 0 rfl rfl 64 (by decide) v_14 (fun _ h9 => h9) rfl dX9_isHeld_38 ?_
        refine lv_aload_n hx hb dX9_isHeld_41 rfl (lv_at hl 1 rfl) ?_
        refine va_get (D := (dC, dI)) (ci := 9) (v := .ref (ad 9)) (C := RX9) (T := TX9) (N := 67) hx hb hts hiX9 hown hK hP 0 rfl rfl 9 (by decide) v_10 (fun _ h9 => h9) rfl dX9_isHeld_42 ?_
        refine lv_iload hx hb dX9_isHeld_45 (lv_at hl 0 rfl) ?_
        refine va_iald hx hb hK hP 9 8 rfl rfl (vp_in_nI (n := (80 * x16 + (56 + 3 * (a0 - 100)) + g_2)) (by omega) (Nat.le_of_ble_eq_true rfl)) dX9_isHeld_47 ?_
        refine lv_topi (fun y_47 ey_47 => ?_)
        obtain rfl : y_47 = nI u_15 := ey_47.trans qu_15
        refine va_iald hx hb hK hP 42 41 rfl rfl (vp_in_nI (n := u_15) (Nat.lt_of_le_of_lt hu_15 (Nat.le_of_ble_eq_true rfl)) (Nat.le_of_ble_eq_true rfl)) dX9_isHeld_48 ?_
        refine lv_topi (fun y_49 ey_49 => ?_)
        have ey_49 : y_49 = f64 u_15 := ey_49.trans (congrArg f64 (nI_clamp (n := u_15) (Nat.lt_of_le_of_lt hu_15 (Nat.le_of_ble_eq_true rfl))))
        replace hsp := hsp.trans (slet_eq ey_49)
        exact j_17 _ _ _ _ ⟨y_49, rfl, hsp.symm, hP, hD, hS, lv_sub hl [1, 2, 3, 4, 0] rfl⟩
      · have c_46 : ¬ u_45 = 0 := fun z => c_46 ((nI_eq (a := u_45) (b := 0) (Nat.lt_of_le_of_lt hu_45 (Nat.le_of_ble_eq_true rfl)) (Nat.le_of_ble_eq_true rfl)).mpr z)
        replace hsp := hsp.trans (if_neg c_46)
        refine lv_iconst (v := 0) hx hb dX9_isHeld_33 (by decide) ?_
        refine lv_goto (tgt := 49) hx hb dX9_isHeld_34 (by decide) ?_
        exact j_17 _ _ _ _ ⟨0, rfl, hsp.symm, hP, hD, hS, lv_sub hl [1, 2, 3, 4, 0] rfl⟩
theorem dX9_beginsPlay_0 : decode cX9_beginsPlay 0 = .ok (.aload_n 0, 1) := by decide +kernel
theorem dX9_beginsPlay_1 : decode cX9_beginsPlay 1 = .ok (.iconst 0, 1) := by decide +kernel
theorem dX9_beginsPlay_2 : decode cX9_beginsPlay 2 = .ok (.putfield 277, 3) := by decide +kernel
theorem dX9_beginsPlay_5 : decode cX9_beginsPlay 5 = .ok (.aload_n 0, 1) := by decide +kernel
theorem dX9_beginsPlay_6 : decode cX9_beginsPlay 6 = .ok (.getfield 46, 3) := by decide +kernel
theorem dX9_beginsPlay_9 : decode cX9_beginsPlay 9 = .ok (.aload_n 0, 1) := by decide +kernel
theorem dX9_beginsPlay_10 : decode cX9_beginsPlay 10 = .ok (.getfield 258, 3) := by decide +kernel
theorem dX9_beginsPlay_13 : decode cX9_beginsPlay 13 = .ok (.iaload, 1) := by decide +kernel
theorem dX9_beginsPlay_14 : decode cX9_beginsPlay 14 = .ok (.ifCond .ne 5, 3) := by decide +kernel
theorem dX9_beginsPlay_17 : decode cX9_beginsPlay 17 = .ok (.iconst 0, 1) := by decide +kernel
theorem dX9_beginsPlay_18 : decode cX9_beginsPlay 18 = .ok (.ireturn, 1) := by decide +kernel
theorem dX9_beginsPlay_19 : decode cX9_beginsPlay 19 = .ok (.iconst 0, 1) := by decide +kernel
theorem dX9_beginsPlay_20 : decode cX9_beginsPlay 20 = .ok (.istore_n 1, 1) := by decide +kernel
theorem dX9_beginsPlay_21 : decode cX9_beginsPlay 21 = .ok (.iload_n 1, 1) := by decide +kernel
theorem dX9_beginsPlay_22 : decode cX9_beginsPlay 22 = .ok (.iconst 3, 1) := by decide +kernel
theorem dX9_beginsPlay_23 : decode cX9_beginsPlay 23 = .ok (.if_icmp .ge 16, 3) := by decide +kernel
theorem dX9_beginsPlay_26 : decode cX9_beginsPlay 26 = .ok (.aload_n 0, 1) := by decide +kernel
theorem dX9_beginsPlay_27 : decode cX9_beginsPlay 27 = .ok (.getfield 139, 3) := by decide +kernel
theorem dX9_beginsPlay_30 : decode cX9_beginsPlay 30 = .ok (.iload_n 1, 1) := by decide +kernel
theorem dX9_beginsPlay_31 : decode cX9_beginsPlay 31 = .ok (.iconst 0, 1) := by decide +kernel
theorem dX9_beginsPlay_32 : decode cX9_beginsPlay 32 = .ok (.iastore, 1) := by decide +kernel
theorem dX9_beginsPlay_33 : decode cX9_beginsPlay 33 = .ok (.iinc 1 1, 3) := by decide +kernel
theorem dX9_beginsPlay_36 : decode cX9_beginsPlay 36 = .ok (.goto (-15), 3) := by decide +kernel
theorem dX9_beginsPlay_39 : decode cX9_beginsPlay 39 = .ok (.aload_n 0, 1) := by decide +kernel
theorem dX9_beginsPlay_40 : decode cX9_beginsPlay 40 = .ok (.aload_n 0, 1) := by decide +kernel
theorem dX9_beginsPlay_41 : decode cX9_beginsPlay 41 = .ok (.getfield 52, 3) := by decide +kernel
theorem dX9_beginsPlay_44 : decode cX9_beginsPlay 44 = .ok (.aload_n 0, 1) := by decide +kernel
theorem dX9_beginsPlay_45 : decode cX9_beginsPlay 45 = .ok (.getfield 258, 3) := by decide +kernel
theorem dX9_beginsPlay_48 : decode cX9_beginsPlay 48 = .ok (.iaload, 1) := by decide +kernel
theorem dX9_beginsPlay_49 : decode cX9_beginsPlay 49 = .ok (.putfield 466, 3) := by decide +kernel
theorem dX9_beginsPlay_52 : decode cX9_beginsPlay 52 = .ok (.aload_n 0, 1) := by decide +kernel
theorem dX9_beginsPlay_53 : decode cX9_beginsPlay 53 = .ok (.iconst 0, 1) := by decide +kernel
theorem dX9_beginsPlay_54 : decode cX9_beginsPlay 54 = .ok (.putfield 469, 3) := by decide +kernel
theorem dX9_beginsPlay_57 : decode cX9_beginsPlay 57 = .ok (.aload_n 0, 1) := by decide +kernel
theorem dX9_beginsPlay_58 : decode cX9_beginsPlay 58 = .ok (.aload_n 0, 1) := by decide +kernel
theorem dX9_beginsPlay_59 : decode cX9_beginsPlay 59 = .ok (.bipush 100, 2) := by decide +kernel
theorem dX9_beginsPlay_61 : decode cX9_beginsPlay 61 = .ok (.aload_n 0, 1) := by decide +kernel
theorem dX9_beginsPlay_62 : decode cX9_beginsPlay 62 = .ok (.getfield 466, 3) := by decide +kernel
theorem dX9_beginsPlay_65 : decode cX9_beginsPlay 65 = .ok (.iadd, 1) := by decide +kernel
theorem dX9_beginsPlay_66 : decode cX9_beginsPlay 66 = .ok (.iconst 0, 1) := by decide +kernel
theorem dX9_beginsPlay_67 : decode cX9_beginsPlay 67 = .ok (.invokevirtual 472, 3) := by decide +kernel
theorem dX9_beginsPlay_70 : decode cX9_beginsPlay 70 = .ok (.putfield 277, 3) := by decide +kernel
theorem dX9_beginsPlay_73 : decode cX9_beginsPlay 73 = .ok (.aload_n 0, 1) := by decide +kernel
theorem dX9_beginsPlay_74 : decode cX9_beginsPlay 74 = .ok (.getfield 277, 3) := by decide +kernel
theorem dX9_beginsPlay_77 : decode cX9_beginsPlay 77 = .ok (.ireturn, 1) := by decide +kernel
abbrev vs_EM_beginsPlay : List Cond := .code yX9_beginsPlay cX9_beginsPlay 2 (some .boolean) :: VM
theorem g_EM_beginsPlay_EM_isHeld_p : GoodIn vs_EM_beginsPlay (wsV RX9 472 RX9 yX9_isHeld vs_EM_isHeld_p) := gm_V vm_359 vm_360 vm_361 vm_19 vm_362
noncomputable def sp_EM_beginsPlay_L1 (x16 : Nat) (q4 : Nat → Nat) (q9 : Nat → Nat) (q10 : Nat → Nat) (f11 : Nat → Int32) (m13_0 : Nat) (m13_1 : Nat) (m15_0 : Nat) (m15_1 : Nat) : ((Nat → Int32) × Nat) → ((Nat → Int32) × Nat) ⊕ (Nat × (Nat → Int32) × Nat × Nat × Int32) := fun (g_6, g_7) => (if 3 ≤ g_7 then (Sum.inr (slet (if x16 = 0 then m15_0 else m15_1) (fun u_16 => (slet (u_16 - 1) (fun vy_15 => (slet (sp_EM_isHeld_p x16 q4 q9 q10 f11 m13_0 m13_1 g_6 (100 + vy_15) 0) (fun u_19 => (u_19, g_6, u_19, vy_15, 0)))))))) else (slet (upd g_6 g_7 0) (fun f_20 => (Sum.inl (f_20, (g_7 + 1))))))
noncomputable def sp_EM_beginsPlay (x16 : Nat) (x65 : Nat) (x66 : Int32) (q4 : Nat → Nat) (q9 : Nat → Nat) (q10 : Nat → Nat) (f11 : Nat → Int32) (m13_0 : Nat) (m13_1 : Nat) (m15_0 : Nat) (m15_1 : Nat) (f64 : Nat → Int32) : Nat × (Nat → Int32) × Nat × Nat × Int32 := (slet (if x16 = 0 then m13_0 else m13_1) (fun u_2 => (if u_2 = 0 then (0, f64, 0, x65, x66) else (itrv (α := (Nat → Int32) × Nat) (β := (Nat × (Nat → Int32) × Nat × Nat × Int32)) default (sp_EM_beginsPlay_L1 x16 q4 q9 q10 f11 m13_0 m13_1 m15_0 m15_1) (f64, 0)))))
set_option maxHeartbeats 4000000 in
set_option maxRecDepth 100000 in
theorem c_EM_beginsPlay (l : Launch) (dC : Nat → ClassId) (dI : Nat → Nat → Nat) (sz : Nat) (ad : Nat → Nat) (ck : Nat → ClassId) (x0 : Int32) (x16 : Nat) (x18 : Nat) (x19 : Nat) (x20 : Int32) (x21 : Nat) (x22 : Nat) (x23 : Int32) (x24 : Int32) (x25 : Int32) (x26 : Nat) (x27 : Int32) (x28 : Nat) (x29 : Nat) (x30 : Nat) (x33 : Nat) (x45 : Int32) (x46 : Nat) (x52 : Nat) (x53 : Nat) (x61 : Nat) (x62 : Nat) (x63 : Nat) (x65 : Nat) (x66 : Int32) (f1 : Nat → Int32) (f2 : Nat → Int32) (f3 : Nat → Int32) (q4 : Nat → Nat) (q5 : Nat → Nat) (q6 : Nat → Nat) (q7 : Nat → Nat) (f8 : Nat → Int32) (q9 : Nat → Nat) (q10 : Nat → Nat) (f11 : Nat → Int32) (m12_0 m12_1 : Nat) (m13_0 m13_1 : Nat) (m14_0 m14_1 : Nat) (m15_0 m15_1 : Nat) (f17 : Nat → Int32) (q31 : Nat → Nat) (f32 : Nat → Int32) (f34 : Nat → Int32) (f35 : Nat → Int32) (f36 : Nat → Int32) (f37 : Nat → Int32) (q38 : Nat → Nat) (f39 : Nat → Int32) (f40 : Nat → Int32) (f41 : Nat → Int32) (m42_0 m42_1 : Nat) (f43 : Nat → Int32) (f44 : Nat → Int32) (f47 : Nat → Int32) (f48 : Nat → Int32) (f49 : Nat → Int32) (f50 : Nat → Int32) (f51 : Nat → Int32) (q54 : Nat → Nat) (q55 : Nat → Nat) (q56 : Nat → Nat) (f57 : Nat → Int32) (q58 : Nat → Nat) (f59 : Nat → Int32) (f60 : Nat → Int32) (f64 : Nat → Int32) (hx16 : x16 ≤ 1) (hx18 : x18 ≤ 900) (hx19 : x19 ≤ 900) (hx21 : x21 ≤ 900) (hx22 : x22 ≤ 4) (hx26 : x26 ≤ 6) (hx28 : x28 ≤ 1) (hx29 : x29 ≤ 1) (hx30 : x30 ≤ 1) (hx33 : x33 ≤ 20) (hx46 : x46 ≤ 5) (hx52 : x52 ≤ 2400) (hx53 : x53 ≤ 119) (hx61 : x61 ≤ 119) (hx62 : x62 ≤ 2000) (hx63 : x63 ≤ 1) (hx65 : x65 ≤ 7) (hm12_0 : m12_0 ≤ 3) (hm12_1 : m12_1 ≤ 3) (hm13_0 : m13_0 ≤ 8) (hm13_1 : m13_1 ≤ 8) (hm14_0 : m14_0 ≤ 14) (hm14_1 : m14_1 ≤ 14) (hm15_0 : m15_0 ≤ 8) (hm15_1 : m15_1 ≤ 8) (hm42_0 : m42_0 ≤ 120) (hm42_1 : m42_1 ≤ 400) (hbg : (x16 = 0 ∧ (m13_0 = 0 ∨ 1 ≤ m15_0)) ∨ (x16 = 1 ∧ (m13_1 = 0 ∨ 1 ≤ m15_1))) : Met l yX9_beginsPlay vs_EM_beginsPlay ({ frames := 4, cells := 0, slots := 0, locals := 91 }) (va_Pc [.ref (ad 0)] (pu_B (dC, dI) (mo_w ad ck x0 (nI x16) (nI x18) (nI x19) x20 (nI x21) (nI x22) x23 x24 x25 (nI x26) x27 (nI x28) (nI x29) (nI x30) (nI x33) x45 (nI x46) (nI x52) (nI x53) (nI x61) (nI x62) (nI x63) (nI x65) x66 f1 f2 f3 (bN 3 q4) (bN 7 q5) (bN 7 q6) (bN 4 q7) f8 (bN 2 q9) (bH q10) f11 (b2 m12_0 m12_1) (b2 m13_0 m13_1) (b2 m14_0 m14_1) (b2m m15_0 m15_1) f17 (bA 159 q31) f32 f34 f35 f36 f37 (bN 7 q38) f39 f40 f41 (b2 m42_0 m42_1) f43 f44 f47 f48 f49 f50 f51 (bN 13 q54) (bN 120 q55) (bN 120 q56) f57 (bN 120 q58) f59 f60 f64) (mo_t ck) sz)) (va_Qi (fun (r : Int32) (_ : Unit) => ∃ v : Nat, v ≤ 1 ∧ r = nI v ∧ v = (sp_EM_beginsPlay x16 x65 x66 q4 q9 q10 f11 m13_0 m13_1 m15_0 m15_1 f64).1) (fun _ t => ∃ (z64 : Nat → Int32) (z30 : Nat) (z65 : Nat) (z66 : Int32), pu_E (dC, dI) (mo_w ad ck x0 (nI x16) (nI x18) (nI x19) x20 (nI x21) (nI x22) x23 x24 x25 (nI x26) x27 (nI x28) (nI x29) (nI z30) (nI x33) x45 (nI x46) (nI x52) (nI x53) (nI x61) (nI x62) (nI x63) (nI z65) z66 f1 f2 f3 (bN 3 q4) (bN 7 q5) (bN 7 q6) (bN 4 q7) f8 (bN 2 q9) (bH q10) f11 (b2 m12_0 m12_1) (b2 m13_0 m13_1) (b2 m14_0 m14_1) (b2m m15_0 m15_1) f17 (bA 159 q31) f32 f34 f35 f36 f37 (bN 7 q38) f39 f40 f41 (b2 m42_0 m42_1) f43 f44 f47 f48 f49 f50 f51 (bN 13 q54) (bN 120 q55) (bN 120 q56) f57 (bN 120 q58) f59 f60 z64) (mo_t ck) (va_A ((mo_w ad ck x0 (nI x16) (nI x18) (nI x19) x20 (nI x21) (nI x22) x23 x24 x25 (nI x26) x27 (nI x28) (nI x29) (nI x30) (nI x33) x45 (nI x46) (nI x52) (nI x53) (nI x61) (nI x62) (nI x63) (nI x65) x66 f1 f2 f3 (bN 3 q4) (bN 7 q5) (bN 7 q6) (bN 4 q7) f8 (bN 2 q9) (bH q10) f11 (b2 m12_0 m12_1) (b2 m13_0 m13_1) (b2 m14_0 m14_1) (b2m m15_0 m15_1) f17 (bA 159 q31) f32 f34 f35 f36 f37 (bN 7 q38) f39 f40 f41 (b2 m42_0 m42_1) f43 f44 f47 f48 f49 f50 f51 (bN 13 q54) (bN 120 q55) (bN 120 q56) f57 (bN 120 q58) f59 f60 f64)) sz) t ∧ (z30 ≤ 1) ∧ (z65 ≤ 7) ∧ ((z64, z30, z65, z66) = (sp_EM_beginsPlay x16 x65 x66 q4 q9 q10 f11 m13_0 m13_1 m15_0 m15_1 f64).2)) (va_A ((mo_w ad ck x0 (nI x16) (nI x18) (nI x19) x20 (nI x21) (nI x22) x23 x24 x25 (nI x26) x27 (nI x28) (nI x29) (nI x30) (nI x33) x45 (nI x46) (nI x52) (nI x53) (nI x61) (nI x62) (nI x63) (nI x65) x66 f1 f2 f3 (bN 3 q4) (bN 7 q5) (bN 7 q6) (bN 4 q7) f8 (bN 2 q9) (bH q10) f11 (b2 m12_0 m12_1) (b2 m13_0 m13_1) (b2 m14_0 m14_1) (b2m m15_0 m15_1) f17 (bA 159 q31) f32 f34 f35 f36 f37 (bN 7 q38) f39 f40 f41 (b2 m42_0 m42_1) f43 f44 f47 f48 f49 f50 f51 (bN 13 q54) (bN 120 q55) (bN 120 q56) f57 (bN 120 q58) f59 f60 f64)) sz)) 0 0 (va_A ((mo_w ad ck x0 (nI x16) (nI x18) (nI x19) x20 (nI x21) (nI x22) x23 x24 x25 (nI x26) x27 (nI x28) (nI x29) (nI x30) (nI x33) x45 (nI x46) (nI x52) (nI x53) (nI x61) (nI x62) (nI x63) (nI x65) x66 f1 f2 f3 (bN 3 q4) (bN 7 q5) (bN 7 q6) (bN 4 q7) f8 (bN 2 q9) (bH q10) f11 (b2 m12_0 m12_1) (b2 m13_0 m13_1) (b2 m14_0 m14_1) (b2m m15_0 m15_1) f17 (bA 159 q31) f32 f34 f35 f36 f37 (bN 7 q38) f39 f40 f41 (b2 m42_0 m42_1) f43 f44 f47 f48 f49 f50 f51 (bN 13 q54) (bN 120 q55) (bN 120 q56) f57 (bN 120 q58) f59 f60 f64)) sz) := by
  refine Met.ofW (cc := cX9_beginsPlay) (maxL := 2) (ret := (some .boolean)) (by decide) rfl ?_
  intro p e s m args below meth c s₁ B hml hv
  obtain ⟨rfl, rfl, hP, hK, hD0⟩ := hv
  have hx := B.exec
  have hb := B.bytes
  have hr := B.returns
  have hts := atoms_spec (ws := vs_EM_beginsPlay) B.pre
  have v_1 := hts (.fieldLink RX9 277 "ClockReachModel" "isPlayed" "Z") (List.mem_cons_of_mem _ vm_2)
  have v_2 := hts (.fieldLink RX9 46 "ClockReachModel" "placeMany" "[I") (List.mem_cons_of_mem _ vm_65)
  have v_3 := hts (.fieldLink RX9 258 "ClockReachModel" "bank" "I") (List.mem_cons_of_mem _ vm_4)
  have v_4 := hts (.fieldLink RX9 139 "ClockReachModel" "clockTime" "[I") (List.mem_cons_of_mem _ vm_358)
  have v_5 := hts (.fieldLink RX9 52 "ClockReachModel" "begins" "[I") (List.mem_cons_of_mem _ vm_126)
  have v_6 := hts (.fieldLink RX9 466 "ClockReachModel" "playPlace" "I") (List.mem_cons_of_mem _ vm_363)
  have v_7 := hts (.fieldLink RX9 469 "ClockReachModel" "played" "I") (List.mem_cons_of_mem _ vm_364)
  have hown : s.vm.findClass RX9 = some m.cls := findClass_of_methodNamed B.named
  have hlocks := B.notSynchronized
  have hiX9 : ∀ w ∈ wsX90, w ∈ vs_EM_beginsPlay := fun _ h => List.mem_cons_of_mem _ (vmi_L h)
  have hD := hD0.self (sz := s.heap.size)
  generalize hAe : va_A ((mo_w ad ck x0 (nI x16) (nI x18) (nI x19) x20 (nI x21) (nI x22) x23 x24 x25 (nI x26) x27 (nI x28) (nI x29) (nI x30) (nI x33) x45 (nI x46) (nI x52) (nI x53) (nI x61) (nI x62) (nI x63) (nI x65) x66 f1 f2 f3 (bN 3 q4) (bN 7 q5) (bN 7 q6) (bN 4 q7) f8 (bN 2 q9) (bH q10) f11 (b2 m12_0 m12_1) (b2 m13_0 m13_1) (b2 m14_0 m14_1) (b2m m15_0 m15_1) f17 (bA 159 q31) f32 f34 f35 f36 f37 (bN 7 q38) f39 f40 f41 (b2 m42_0 m42_1) f43 f44 f47 f48 f49 f50 f51 (bN 13 q54) (bN 120 q55) (bN 120 q56) f57 (bN 120 q58) f59 f60 f64)) s.heap.size = A at hD ⊢
  have hA : ∀ q : Nat, s.heap.size ≤ q → A q := fun q h => by rw [← hAe]; exact Or.inr h
  have hS : va_S A s.heap s.heap [] := va_S.rf
  have hl := lv_entry ([.ref (ad 0)]) (n := 2) (Nat.le_of_ble_eq_true rfl)
  rw [lg_entry_eq]
  generalize (lg_sl ([.ref (ad 0)]) ++ List.replicate (2 - (lg_sl ([.ref (ad 0)])).length) Slot.unset).toArray = ls at hl ⊢
  have hl : lv_has ls 2 [(0, .ref (ad 0))] := hl
  obtain ⟨RR, hRR⟩ : ∃ x, x = (sp_EM_beginsPlay x16 x65 x66 q4 q9 q10 f11 m13_0 m13_1 m15_0 m15_1 f64) := ⟨_, rfl⟩
  have hsp := hRR
  refine lv_aload_n hx hb dX9_beginsPlay_0 rfl (lv_at hl 0 rfl) ?_
  refine lv_iconst (v := 0) hx hb dX9_beginsPlay_1 (by decide) ?_
  refine va_put (D := (dC, dI)) (ci := 9) (v := .int 0) (ty := .boolean) (C := RX9) (T := TX9) (N := 67) hx hb hts hiX9 tyX9 tyX9_ok nmX9 hown hK hP hD hS 0 rfl rfl 30 (by decide) v_1 (fun _ h9 => h9) rfl (by decide +kernel) rfl rfl (Nat.le_of_ble_eq_true rfl) dX9_beginsPlay_2 (fun H locs hP hD hS => ?_)
  have hP : va_P (dC, dI) vwCl (mo_w ad ck x0 (nI x16) (nI x18) (nI x19) x20 (nI x21) (nI x22) x23 x24 x25 (nI x26) x27 (nI x28) (nI x29) 0 (nI x33) x45 (nI x46) (nI x52) (nI x53) (nI x61) (nI x62) (nI x63) (nI x65) x66 f1 f2 f3 (bN 3 q4) (bN 7 q5) (bN 7 q6) (bN 4 q7) f8 (bN 2 q9) (bH q10) f11 (b2 m12_0 m12_1) (b2 m13_0 m13_1) (b2 m14_0 m14_1) (b2m m15_0 m15_1) f17 (bA 159 q31) f32 f34 f35 f36 f37 (bN 7 q38) f39 f40 f41 (b2 m42_0 m42_1) f43 f44 f47 f48 f49 f50 f51 (bN 13 q54) (bN 120 q55) (bN 120 q56) f57 (bN 120 q58) f59 f60 f64) H := hP
  have hD : va_D A (mo_w ad ck x0 (nI x16) (nI x18) (nI x19) x20 (nI x21) (nI x22) x23 x24 x25 (nI x26) x27 (nI x28) (nI x29) 0 (nI x33) x45 (nI x46) (nI x52) (nI x53) (nI x61) (nI x62) (nI x63) (nI x65) x66 f1 f2 f3 (bN 3 q4) (bN 7 q5) (bN 7 q6) (bN 4 q7) f8 (bN 2 q9) (bH q10) f11 (b2 m12_0 m12_1) (b2 m13_0 m13_1) (b2 m14_0 m14_1) (b2m m15_0 m15_1) f17 (bA 159 q31) f32 f34 f35 f36 f37 (bN 7 q38) f39 f40 f41 (b2 m42_0 m42_1) f43 f44 f47 f48 f49 f50 f51 (bN 13 q54) (bN 120 q55) (bN 120 q56) f57 (bN 120 q58) f59 f60 f64) := hD
  refine lv_aload_n hx hb dX9_beginsPlay_5 rfl (lv_at hl 0 rfl) ?_
  refine va_get (D := (dC, dI)) (ci := 9) (v := .ref (ad 13)) (C := RX9) (T := TX9) (N := 67) hx hb hts hiX9 hown hK hP 0 rfl rfl 13 (by decide) v_2 (fun _ h9 => h9) rfl dX9_beginsPlay_6 ?_
  refine lv_aload_n hx hb dX9_beginsPlay_9 rfl (lv_at hl 0 rfl) ?_
  refine va_get (D := (dC, dI)) (ci := 9) (v := .int (nI x16)) (C := RX9) (T := TX9) (N := 67) hx hb hts hiX9 hown hK hP 0 rfl rfl 16 (by decide) v_3 (fun _ h9 => h9) rfl dX9_beginsPlay_10 ?_
  refine va_iald hx hb hK hP 13 12 rfl rfl (vp_in_nI (n := x16) (Nat.lt_of_le_of_lt hx16 (Nat.le_of_ble_eq_true rfl)) (Nat.le_of_ble_eq_true rfl)) dX9_beginsPlay_13 ?_
  refine lv_topi (fun y_1 ey_1 => ?_)
  obtain ⟨u_2, hu_2, fu_2, xu_2⟩ := b2_getx (a := m13_0) (b := m13_1) (i := x16) (by omega)
  have qy_1 := ey_1.trans fu_2
  replace hsp := hsp.trans (slet_eq xu_2)
  obtain rfl : y_1 = nI u_2 := qy_1
  refine lv_if_ne (tgt := 19) hx hb dX9_beginsPlay_14 (by decide) (fun c_3 => ?_) (fun c_3 => ?_)
  · have c_3 : ¬ u_2 = 0 := fun z => c_3 ((nI_eq (a := u_2) (b := 0) (by omega) (Nat.le_of_ble_eq_true rfl)).mpr z)
    replace hsp := hsp.trans (if_neg c_3)
    refine lv_iconst (v := 0) hx hb dX9_beginsPlay_19 (by decide) ?_
    refine lv_istore_n (lv' := [(1, .int 0), (0, .ref (ad 0))]) hx hb dX9_beginsPlay_20 rfl hl (by decide) rfl (fun ls hl => ?_)
    obtain ⟨lf_9, dlf_9, hlf_9, hsp⟩ := itr_ex hsp
    delta sp_EM_beginsPlay_L1 at hlf_9
    refine pu_while (fun nn H locs ls => ∃ (g_6 : Nat → Int32) (g_7 : Nat), nn = 3 - g_7 ∧ g_7 ≤ 3 ∧ RR = itrv dlf_9 lf_9 (g_6, g_7) ∧ va_P (dC, dI) vwCl (mo_w ad ck x0 (nI x16) (nI x18) (nI x19) x20 (nI x21) (nI x22) x23 x24 x25 (nI x26) x27 (nI x28) (nI x29) 0 (nI x33) x45 (nI x46) (nI x52) (nI x53) (nI x61) (nI x62) (nI x63) (nI x65) x66 f1 f2 f3 (bN 3 q4) (bN 7 q5) (bN 7 q6) (bN 4 q7) f8 (bN 2 q9) (bH q10) f11 (b2 m12_0 m12_1) (b2 m13_0 m13_1) (b2 m14_0 m14_1) (b2m m15_0 m15_1) f17 (bA 159 q31) f32 f34 f35 f36 f37 (bN 7 q38) f39 f40 f41 (b2 m42_0 m42_1) f43 f44 f47 f48 f49 f50 f51 (bN 13 q54) (bN 120 q55) (bN 120 q56) f57 (bN 120 q58) f59 f60 g_6) H ∧ va_D A (mo_w ad ck x0 (nI x16) (nI x18) (nI x19) x20 (nI x21) (nI x22) x23 x24 x25 (nI x26) x27 (nI x28) (nI x29) 0 (nI x33) x45 (nI x46) (nI x52) (nI x53) (nI x61) (nI x62) (nI x63) (nI x65) x66 f1 f2 f3 (bN 3 q4) (bN 7 q5) (bN 7 q6) (bN 4 q7) f8 (bN 2 q9) (bH q10) f11 (b2 m12_0 m12_1) (b2 m13_0 m13_1) (b2 m14_0 m14_1) (b2m m15_0 m15_1) f17 (bA 159 q31) f32 f34 f35 f36 f37 (bN 7 q38) f39 f40 f41 (b2 m42_0 m42_1) f43 f44 f47 f48 f49 f50 f51 (bN 13 q54) (bN 120 q55) (bN 120 q56) f57 (bN 120 q58) f59 f60 g_6) ∧ va_S A s.heap H locs ∧ lv_has ls 2 [(0, .ref (ad 0)), (1, .int (nI g_7))]) 21 ?_ _ _ _ _ ⟨f64, 0, rfl, (Nat.le_of_ble_eq_true rfl), hsp, hP, hD, hS, lv_sub hl [1, 0] rfl⟩
    rintro nn ih_8 H locs ls ⟨g_6, g_7, rfl, hg_7, he_11, hP, hD, hS, hl⟩
    obtain ⟨S_10, hsp, hin_12, hout_13⟩ := itr_step hlf_9 he_11
    refine lv_iload_n hx hb dX9_beginsPlay_21 rfl (lv_at hl 1 rfl) ?_
    refine lv_iconst (v := 3) hx hb dX9_beginsPlay_22 (by decide) ?_
    refine lv_icmp_ge (tgt := 39) hx hb dX9_beginsPlay_23 (by decide) (fun c_14 => ?_) (fun c_14 => ?_)
    · have c_14 : 3 ≤ g_7 := (nI_leI (a := 3) (b := g_7) (Nat.le_of_ble_eq_true rfl) (Nat.lt_of_le_of_lt hg_7 (Nat.le_of_ble_eq_true rfl))).mp c_14
      replace hsp := hsp.trans (if_pos c_14)
      replace hsp := hout_13 _ hsp
      refine lv_aload_n hx hb dX9_beginsPlay_39 rfl (lv_at hl 0 rfl) ?_
      refine lv_aload_n hx hb dX9_beginsPlay_40 rfl (lv_at hl 0 rfl) ?_
      refine va_get (D := (dC, dI)) (ci := 9) (v := .ref (ad 15)) (C := RX9) (T := TX9) (N := 67) hx hb hts hiX9 hown hK hP 0 rfl rfl 15 (by decide) v_5 (fun _ h9 => h9) rfl dX9_beginsPlay_41 ?_
      refine lv_aload_n hx hb dX9_beginsPlay_44 rfl (lv_at hl 0 rfl) ?_
      refine va_get (D := (dC, dI)) (ci := 9) (v := .int (nI x16)) (C := RX9) (T := TX9) (N := 67) hx hb hts hiX9 hown hK hP 0 rfl rfl 16 (by decide) v_3 (fun _ h9 => h9) rfl dX9_beginsPlay_45 ?_
      refine va_iald hx hb hK hP 15 14 rfl rfl (vp_in_nI (n := x16) (Nat.lt_of_le_of_lt hx16 (Nat.le_of_ble_eq_true rfl)) (Nat.le_of_ble_eq_true rfl)) dX9_beginsPlay_48 ?_
      refine lv_topi (fun y_15 ey_15 => ?_)
      obtain ⟨u_16, hu_16, fu_16, xu_16⟩ := b2m_getx (a := m15_0) (b := m15_1) (i := x16) (by omega)
      have qy_15 := ey_15.trans fu_16
      replace hsp := hsp.trans (slet_eq xu_16)
      rcases mI_get u_16 with ⟨zy_15, wy_15⟩ | ⟨vy_15, zy_15, wy_15⟩
      · exfalso
        have hbq : bkN x16 m13_0 m13_1 = (if x16 = 0 then m13_0 else m13_1) := rfl
        have hbk := hbg_bk hbg
        omega
      · obtain rfl : y_15 = nI vy_15 := qy_15.trans wy_15
        replace hsp := hsp.trans (slet_eq (by omega : vy_15 = u_16 - 1))
        refine va_put (D := (dC, dI)) (ci := 9) (v := .int (nI vy_15)) (ty := .int) (C := RX9) (T := TX9) (N := 67) hx hb hts hiX9 tyX9 tyX9_ok nmX9 hown hK hP hD hS 0 rfl rfl 65 (by decide) v_6 (fun _ h9 => h9) rfl (by decide +kernel) rfl rfl (Nat.le_of_ble_eq_true rfl) dX9_beginsPlay_49 (fun H locs hP hD hS => ?_)
        have hP : va_P (dC, dI) vwCl (mo_w ad ck x0 (nI x16) (nI x18) (nI x19) x20 (nI x21) (nI x22) x23 x24 x25 (nI x26) x27 (nI x28) (nI x29) 0 (nI x33) x45 (nI x46) (nI x52) (nI x53) (nI x61) (nI x62) (nI x63) (nI vy_15) x66 f1 f2 f3 (bN 3 q4) (bN 7 q5) (bN 7 q6) (bN 4 q7) f8 (bN 2 q9) (bH q10) f11 (b2 m12_0 m12_1) (b2 m13_0 m13_1) (b2 m14_0 m14_1) (b2m m15_0 m15_1) f17 (bA 159 q31) f32 f34 f35 f36 f37 (bN 7 q38) f39 f40 f41 (b2 m42_0 m42_1) f43 f44 f47 f48 f49 f50 f51 (bN 13 q54) (bN 120 q55) (bN 120 q56) f57 (bN 120 q58) f59 f60 g_6) H := hP
        have hD : va_D A (mo_w ad ck x0 (nI x16) (nI x18) (nI x19) x20 (nI x21) (nI x22) x23 x24 x25 (nI x26) x27 (nI x28) (nI x29) 0 (nI x33) x45 (nI x46) (nI x52) (nI x53) (nI x61) (nI x62) (nI x63) (nI vy_15) x66 f1 f2 f3 (bN 3 q4) (bN 7 q5) (bN 7 q6) (bN 4 q7) f8 (bN 2 q9) (bH q10) f11 (b2 m12_0 m12_1) (b2 m13_0 m13_1) (b2 m14_0 m14_1) (b2m m15_0 m15_1) f17 (bA 159 q31) f32 f34 f35 f36 f37 (bN 7 q38) f39 f40 f41 (b2 m42_0 m42_1) f43 f44 f47 f48 f49 f50 f51 (bN 13 q54) (bN 120 q55) (bN 120 q56) f57 (bN 120 q58) f59 f60 g_6) := hD
        refine lv_aload_n hx hb dX9_beginsPlay_52 rfl (lv_at hl 0 rfl) ?_
        refine lv_iconst (v := 0) hx hb dX9_beginsPlay_53 (by decide) ?_
        refine va_put (D := (dC, dI)) (ci := 9) (v := .int 0) (ty := .int) (C := RX9) (T := TX9) (N := 67) hx hb hts hiX9 tyX9 tyX9_ok nmX9 hown hK hP hD hS 0 rfl rfl 66 (by decide) v_7 (fun _ h9 => h9) rfl (by decide +kernel) rfl rfl (Nat.le_of_ble_eq_true rfl) dX9_beginsPlay_54 (fun H locs hP hD hS => ?_)
        have hP : va_P (dC, dI) vwCl (mo_w ad ck x0 (nI x16) (nI x18) (nI x19) x20 (nI x21) (nI x22) x23 x24 x25 (nI x26) x27 (nI x28) (nI x29) 0 (nI x33) x45 (nI x46) (nI x52) (nI x53) (nI x61) (nI x62) (nI x63) (nI vy_15) 0 f1 f2 f3 (bN 3 q4) (bN 7 q5) (bN 7 q6) (bN 4 q7) f8 (bN 2 q9) (bH q10) f11 (b2 m12_0 m12_1) (b2 m13_0 m13_1) (b2 m14_0 m14_1) (b2m m15_0 m15_1) f17 (bA 159 q31) f32 f34 f35 f36 f37 (bN 7 q38) f39 f40 f41 (b2 m42_0 m42_1) f43 f44 f47 f48 f49 f50 f51 (bN 13 q54) (bN 120 q55) (bN 120 q56) f57 (bN 120 q58) f59 f60 g_6) H := hP
        have hD : va_D A (mo_w ad ck x0 (nI x16) (nI x18) (nI x19) x20 (nI x21) (nI x22) x23 x24 x25 (nI x26) x27 (nI x28) (nI x29) 0 (nI x33) x45 (nI x46) (nI x52) (nI x53) (nI x61) (nI x62) (nI x63) (nI vy_15) 0 f1 f2 f3 (bN 3 q4) (bN 7 q5) (bN 7 q6) (bN 4 q7) f8 (bN 2 q9) (bH q10) f11 (b2 m12_0 m12_1) (b2 m13_0 m13_1) (b2 m14_0 m14_1) (b2m m15_0 m15_1) f17 (bA 159 q31) f32 f34 f35 f36 f37 (bN 7 q38) f39 f40 f41 (b2 m42_0 m42_1) f43 f44 f47 f48 f49 f50 f51 (bN 13 q54) (bN 120 q55) (bN 120 q56) f57 (bN 120 q58) f59 f60 g_6) := hD
        refine lv_aload_n hx hb dX9_beginsPlay_57 rfl (lv_at hl 0 rfl) ?_
        refine lv_aload_n hx hb dX9_beginsPlay_58 rfl (lv_at hl 0 rfl) ?_
        refine lv_bipush (v := 100) hx hb dX9_beginsPlay_59 (by decide) ?_
        refine lv_aload_n hx hb dX9_beginsPlay_61 rfl (lv_at hl 0 rfl) ?_
        refine va_get (D := (dC, dI)) (ci := 9) (v := .int (nI vy_15)) (C := RX9) (T := TX9) (N := 67) hx hb hts hiX9 hown hK hP 0 rfl rfl 65 (by decide) v_6 (fun _ h9 => h9) rfl dX9_beginsPlay_62 ?_
        refine lv_iadd hx hb dX9_beginsPlay_65 ?_
        refine lv_topi (fun y_17 ey_17 => ?_)
        obtain rfl : y_17 = (nI (100 + vy_15)) := ey_17.trans (nI_add 100 vy_15)
        refine lv_iconst (v := 0) hx hb dX9_beginsPlay_66 (by decide) ?_
        refine va_calli (va_runV (As := [.int (nI (100 + vy_15)), .int 0]) (rest := [.ref (ad 0)]) ⟨hx, hb, hml, hown, hts⟩ (c_EM_isHeld_p l dC dI _ ad ck x0 x16 x18 x19 x20 x21 x22 x23 x24 x25 x26 x27 x28 x29 0 x33 x45 x46 x52 x53 x61 x62 x63 vy_15 0 f1 f2 f3 q4 q5 q6 q7 f8 q9 q10 f11 m12_0 m12_1 m13_0 m13_1 m14_0 m14_1 m15_0 m15_1 f17 q31 f32 f34 f35 f36 f37 q38 f39 f40 f41 m42_0 m42_1 f43 f44 f47 f48 f49 f50 f51 q54 q55 q56 f57 q58 f59 f60 g_6 (100 + vy_15) 0 hx16 hx18 hx19 hx21 hx22 hx26 hx28 hx29 (Nat.le_of_ble_eq_true rfl) hx33 hx46 hx52 hx53 hx61 hx62 hx63 (by omega) hm12_0 hm12_1 hm13_0 hm13_1 hm14_0 hm14_1 hm15_0 hm15_1 hm42_0 hm42_1 (by omega) (by omega)) (cwV 2 hts g_EM_beginsPlay_EM_isHeld_p rfl rfl rfl (by decide +kernel) ⟨Nat.le_of_ble_eq_true rfl, Nat.le_of_ble_eq_true rfl⟩) ⟨pu_bl, va_recv hK hP (ci := 9) (q0 := 0) rfl rfl, pu_in hP hK hD⟩ rfl rfl hl.1 rfl (lv_room (Nat.le_of_ble_eq_true rfl)) dX9_beginsPlay_67 ⟨Nat.le_of_ble_eq_true rfl, Nat.le_of_ble_eq_true rfl⟩) hS (fun q _ h => pu_fr hS hA q h) (pu_fr hS hA) (fun r_18 u t H1 locs ht hvm hw hB hz1 hk1 hS => ?_)
        have hP := pu_keep hP hk1
        clear hk1 hz1 ht hvm
        generalize H1 = H at hP hS ⊢
        obtain ⟨u_19, hu_19, rfl, iu_19⟩ := hw
        replace hsp := hsp.trans (slet_eq iu_19)
        refine va_put (D := (dC, dI)) (ci := 9) (v := .int (nI u_19)) (ty := .boolean) (C := RX9) (T := TX9) (N := 67) hx hb hts hiX9 tyX9 tyX9_ok nmX9 hown hK hP hD hS 0 rfl rfl 30 (by decide) v_1 (fun _ h9 => h9) rfl (by decide +kernel) (pu_nz (pu_b1 (n := u_19) (by omega))) (pu_fz (pu_b1 (n := u_19) (by omega))) (Nat.le_of_ble_eq_true rfl) dX9_beginsPlay_70 (fun H locs hP hD hS => ?_)
        have hP : va_P (dC, dI) vwCl (mo_w ad ck x0 (nI x16) (nI x18) (nI x19) x20 (nI x21) (nI x22) x23 x24 x25 (nI x26) x27 (nI x28) (nI x29) (nI u_19) (nI x33) x45 (nI x46) (nI x52) (nI x53) (nI x61) (nI x62) (nI x63) (nI vy_15) 0 f1 f2 f3 (bN 3 q4) (bN 7 q5) (bN 7 q6) (bN 4 q7) f8 (bN 2 q9) (bH q10) f11 (b2 m12_0 m12_1) (b2 m13_0 m13_1) (b2 m14_0 m14_1) (b2m m15_0 m15_1) f17 (bA 159 q31) f32 f34 f35 f36 f37 (bN 7 q38) f39 f40 f41 (b2 m42_0 m42_1) f43 f44 f47 f48 f49 f50 f51 (bN 13 q54) (bN 120 q55) (bN 120 q56) f57 (bN 120 q58) f59 f60 g_6) H := hP
        have hD : va_D A (mo_w ad ck x0 (nI x16) (nI x18) (nI x19) x20 (nI x21) (nI x22) x23 x24 x25 (nI x26) x27 (nI x28) (nI x29) (nI u_19) (nI x33) x45 (nI x46) (nI x52) (nI x53) (nI x61) (nI x62) (nI x63) (nI vy_15) 0 f1 f2 f3 (bN 3 q4) (bN 7 q5) (bN 7 q6) (bN 4 q7) f8 (bN 2 q9) (bH q10) f11 (b2 m12_0 m12_1) (b2 m13_0 m13_1) (b2 m14_0 m14_1) (b2m m15_0 m15_1) f17 (bA 159 q31) f32 f34 f35 f36 f37 (bN 7 q38) f39 f40 f41 (b2 m42_0 m42_1) f43 f44 f47 f48 f49 f50 f51 (bN 13 q54) (bN 120 q55) (bN 120 q56) f57 (bN 120 q58) f59 f60 g_6) := hD
        refine lv_aload_n hx hb dX9_beginsPlay_73 rfl (lv_at hl 0 rfl) ?_
        refine va_get (D := (dC, dI)) (ci := 9) (v := .int (nI u_19)) (C := RX9) (T := TX9) (N := 67) hx hb hts hiX9 hown hK hP 0 rfl rfl 30 (by decide) v_1 (fun _ h9 => h9) rfl dX9_beginsPlay_74 ?_
        exact W.zret (v := (nI u_19)) (ty := .boolean) hx hb hr (pu_nz (pu_b1 (n := u_19) (by omega))) (fun t ht hW => ⟨⟨(nI u_19), (), rfl, ⟨u_19, hu_19, rfl, (congrArg Prod.fst (hsp.symm.trans hRR))⟩, ⟨g_6, u_19, vy_15, 0, ⟨by rw [ht]; exact hP, va_K.moved hW.alike hK, hD⟩, hu_19, (by omega), (congrArg Prod.snd (hsp.symm.trans hRR))⟩⟩, hS.F ht⟩) hS.2.2 dX9_beginsPlay_77
    · have c_14 : ¬ 3 ≤ g_7 := fun z => c_14 ((nI_leI (a := 3) (b := g_7) (Nat.le_of_ble_eq_true rfl) (Nat.lt_of_le_of_lt hg_7 (Nat.le_of_ble_eq_true rfl))).mpr z)
      replace hsp := hsp.trans (if_neg c_14)
      refine lv_aload_n hx hb dX9_beginsPlay_26 rfl (lv_at hl 0 rfl) ?_
      refine va_get (D := (dC, dI)) (ci := 9) (v := .ref (ad 64)) (C := RX9) (T := TX9) (N := 67) hx hb hts hiX9 hown hK hP 0 rfl rfl 64 (by decide) v_4 (fun _ h9 => h9) rfl dX9_beginsPlay_27 ?_
      refine lv_iload_n hx hb dX9_beginsPlay_30 rfl (lv_at hl 1 rfl) ?_
      refine lv_iconst (v := 0) hx hb dX9_beginsPlay_31 (by decide) ?_
      refine va_iast hx hb hK hP hD hS 42 41 rfl rfl (vp_in_nI (n := g_7) (by omega) (Nat.le_of_ble_eq_true rfl)) dX9_beginsPlay_32 (fun H locs hP hD hS => ?_)
      obtain ⟨f_20, ef_20, xf_20⟩ := up_x g_6 (n := g_7) 0 (Nat.lt_of_le_of_lt hg_7 (Nat.le_of_ble_eq_true rfl))
      have hP : va_P (dC, dI) vwCl (mo_w ad ck x0 (nI x16) (nI x18) (nI x19) x20 (nI x21) (nI x22) x23 x24 x25 (nI x26) x27 (nI x28) (nI x29) 0 (nI x33) x45 (nI x46) (nI x52) (nI x53) (nI x61) (nI x62) (nI x63) (nI x65) x66 f1 f2 f3 (bN 3 q4) (bN 7 q5) (bN 7 q6) (bN 4 q7) f8 (bN 2 q9) (bH q10) f11 (b2 m12_0 m12_1) (b2 m13_0 m13_1) (b2 m14_0 m14_1) (b2m m15_0 m15_1) f17 (bA 159 q31) f32 f34 f35 f36 f37 (bN 7 q38) f39 f40 f41 (b2 m42_0 m42_1) f43 f44 f47 f48 f49 f50 f51 (bN 13 q54) (bN 120 q55) (bN 120 q56) f57 (bN 120 q58) f59 f60 f_20) H := by rw [← ef_20]; exact hP
      have hD : va_D A (mo_w ad ck x0 (nI x16) (nI x18) (nI x19) x20 (nI x21) (nI x22) x23 x24 x25 (nI x26) x27 (nI x28) (nI x29) 0 (nI x33) x45 (nI x46) (nI x52) (nI x53) (nI x61) (nI x62) (nI x63) (nI x65) x66 f1 f2 f3 (bN 3 q4) (bN 7 q5) (bN 7 q6) (bN 4 q7) f8 (bN 2 q9) (bH q10) f11 (b2 m12_0 m12_1) (b2 m13_0 m13_1) (b2 m14_0 m14_1) (b2m m15_0 m15_1) f17 (bA 159 q31) f32 f34 f35 f36 f37 (bN 7 q38) f39 f40 f41 (b2 m42_0 m42_1) f43 f44 f47 f48 f49 f50 f51 (bN 13 q54) (bN 120 q55) (bN 120 q56) f57 (bN 120 q58) f59 f60 f_20) := by rw [← ef_20]; exact hD
      replace hsp := hsp.trans (slet_eq xf_20)
      refine lv_iinc (v := (nI (g_7 + 1))) (lv' := [(1, .int (nI (g_7 + 1))), (0, .ref (ad 0))]) hx hb dX9_beginsPlay_33 hl (k := 1) rfl (nI_1 _) (by decide) rfl (fun ls hl => ?_)
      refine lv_goto (tgt := 21) hx hb dX9_beginsPlay_36 (by decide) ?_
      exact ih_8 (3 - (g_7 + 1)) (by omega) _ _ _ ⟨f_20, (g_7 + 1), rfl, (by omega), hin_12 _ hsp, hP, hD, hS, lv_sub hl [1, 0] rfl⟩
  · have c_3 : u_2 = 0 := (nI_eq (a := u_2) (b := 0) (by omega) (Nat.le_of_ble_eq_true rfl)).mp c_3
    replace hsp := hsp.trans (if_pos c_3)
    refine lv_iconst (v := 0) hx hb dX9_beginsPlay_17 (by decide) ?_
    exact W.zret (v := 0) (ty := .boolean) hx hb hr (rfl) (fun t ht hW => ⟨⟨0, (), rfl, ⟨0, (Nat.le_of_ble_eq_true rfl), rfl, (congrArg Prod.fst (hsp.symm.trans hRR))⟩, ⟨f64, 0, x65, x66, ⟨by rw [ht]; exact hP, va_K.moved hW.alike hK, hD⟩, (Nat.le_of_ble_eq_true rfl), hx65, (congrArg Prod.snd (hsp.symm.trans hRR))⟩⟩, hS.F ht⟩) hS.2.2 dX9_beginsPlay_18
theorem dX9_begin_0 : decode cX9_begin 0 = .ok (.aload_n 0, 1) := by decide +kernel
theorem dX9_begin_1 : decode cX9_begin 1 = .ok (.iconst 0, 1) := by decide +kernel
theorem dX9_begin_2 : decode cX9_begin 2 = .ok (.putfield 142, 3) := by decide +kernel
theorem dX9_begin_5 : decode cX9_begin 5 = .ok (.aload_n 0, 1) := by decide +kernel
theorem dX9_begin_6 : decode cX9_begin 6 = .ok (.invokevirtual 475, 3) := by decide +kernel
theorem dX9_begin_9 : decode cX9_begin 9 = .ok (.ifCond .eq 10, 3) := by decide +kernel
theorem dX9_begin_12 : decode cX9_begin 12 = .ok (.aload_n 0, 1) := by decide +kernel
theorem dX9_begin_13 : decode cX9_begin 13 = .ok (.getfield 466, 3) := by decide +kernel
theorem dX9_begin_16 : decode cX9_begin 16 = .ok (.goto 4, 3) := by decide +kernel
theorem dX9_begin_19 : decode cX9_begin 19 = .ok (.iconst (-1), 1) := by decide +kernel
theorem dX9_begin_20 : decode cX9_begin 20 = .ok (.ireturn, 1) := by decide +kernel
abbrev vs_EM_begin : List Cond := .code yX9_begin cX9_begin 1 (some .int) :: VM
theorem g_EM_begin_EM_beginsPlay : GoodIn vs_EM_begin (wsV RX9 475 RX9 yX9_beginsPlay vs_EM_beginsPlay) := gm_V vm_365 vm_366 vm_367 vm_19 vm_368
noncomputable def sp_EM_begin (x16 : Nat) (x65 : Nat) (x66 : Int32) (q4 : Nat → Nat) (q9 : Nat → Nat) (q10 : Nat → Nat) (f11 : Nat → Int32) (m13_0 : Nat) (m13_1 : Nat) (m15_0 : Nat) (m15_1 : Nat) (f64 : Nat → Int32) : Int32 × (Nat → Int32) × Int32 × Nat × Nat × Int32 := (slet (sp_EM_beginsPlay x16 x65 x66 q4 q9 q10 f11 m13_0 m13_1 m15_0 m15_1 f64) (fun (u_6, z64_2, z30_3, z65_4, z66_5) => (if u_6 = 0 then ((-1), z64_2, 0, z30_3, z65_4, z66_5) else ((nI z65_4), z64_2, 0, z30_3, z65_4, z66_5))))
set_option maxHeartbeats 4000000 in
set_option maxRecDepth 100000 in
theorem c_EM_begin (l : Launch) (dC : Nat → ClassId) (dI : Nat → Nat → Nat) (sz : Nat) (ad : Nat → Nat) (ck : Nat → ClassId) (x0 : Int32) (x16 : Nat) (x18 : Nat) (x19 : Nat) (x20 : Int32) (x21 : Nat) (x22 : Nat) (x23 : Int32) (x24 : Int32) (x25 : Int32) (x26 : Nat) (x27 : Int32) (x28 : Nat) (x29 : Nat) (x30 : Nat) (x33 : Nat) (x45 : Int32) (x46 : Nat) (x52 : Nat) (x53 : Nat) (x61 : Nat) (x62 : Nat) (x63 : Nat) (x65 : Nat) (x66 : Int32) (f1 : Nat → Int32) (f2 : Nat → Int32) (f3 : Nat → Int32) (q4 : Nat → Nat) (q5 : Nat → Nat) (q6 : Nat → Nat) (q7 : Nat → Nat) (f8 : Nat → Int32) (q9 : Nat → Nat) (q10 : Nat → Nat) (f11 : Nat → Int32) (m12_0 m12_1 : Nat) (m13_0 m13_1 : Nat) (m14_0 m14_1 : Nat) (m15_0 m15_1 : Nat) (f17 : Nat → Int32) (q31 : Nat → Nat) (f32 : Nat → Int32) (f34 : Nat → Int32) (f35 : Nat → Int32) (f36 : Nat → Int32) (f37 : Nat → Int32) (q38 : Nat → Nat) (f39 : Nat → Int32) (f40 : Nat → Int32) (f41 : Nat → Int32) (m42_0 m42_1 : Nat) (f43 : Nat → Int32) (f44 : Nat → Int32) (f47 : Nat → Int32) (f48 : Nat → Int32) (f49 : Nat → Int32) (f50 : Nat → Int32) (f51 : Nat → Int32) (q54 : Nat → Nat) (q55 : Nat → Nat) (q56 : Nat → Nat) (f57 : Nat → Int32) (q58 : Nat → Nat) (f59 : Nat → Int32) (f60 : Nat → Int32) (f64 : Nat → Int32) (hx16 : x16 ≤ 1) (hx18 : x18 ≤ 900) (hx19 : x19 ≤ 900) (hx21 : x21 ≤ 900) (hx22 : x22 ≤ 4) (hx26 : x26 ≤ 6) (hx28 : x28 ≤ 1) (hx29 : x29 ≤ 1) (hx30 : x30 ≤ 1) (hx33 : x33 ≤ 20) (hx46 : x46 ≤ 5) (hx52 : x52 ≤ 2400) (hx53 : x53 ≤ 119) (hx61 : x61 ≤ 119) (hx62 : x62 ≤ 2000) (hx63 : x63 ≤ 1) (hx65 : x65 ≤ 7) (hm12_0 : m12_0 ≤ 3) (hm12_1 : m12_1 ≤ 3) (hm13_0 : m13_0 ≤ 8) (hm13_1 : m13_1 ≤ 8) (hm14_0 : m14_0 ≤ 14) (hm14_1 : m14_1 ≤ 14) (hm15_0 : m15_0 ≤ 8) (hm15_1 : m15_1 ≤ 8) (hm42_0 : m42_0 ≤ 120) (hm42_1 : m42_1 ≤ 400) (hbg : (x16 = 0 ∧ (m13_0 = 0 ∨ 1 ≤ m15_0)) ∨ (x16 = 1 ∧ (m13_1 = 0 ∨ 1 ≤ m15_1))) : Met l yX9_begin vs_EM_begin ({ frames := 5, cells := 0, slots := 0, locals := 112 }) (va_Pc [.ref (ad 0)] (pu_B (dC, dI) (mo_w ad ck x0 (nI x16) (nI x18) (nI x19) x20 (nI x21) (nI x22) x23 x24 x25 (nI x26) x27 (nI x28) (nI x29) (nI x30) (nI x33) x45 (nI x46) (nI x52) (nI x53) (nI x61) (nI x62) (nI x63) (nI x65) x66 f1 f2 f3 (bN 3 q4) (bN 7 q5) (bN 7 q6) (bN 4 q7) f8 (bN 2 q9) (bH q10) f11 (b2 m12_0 m12_1) (b2 m13_0 m13_1) (b2 m14_0 m14_1) (b2m m15_0 m15_1) f17 (bA 159 q31) f32 f34 f35 f36 f37 (bN 7 q38) f39 f40 f41 (b2 m42_0 m42_1) f43 f44 f47 f48 f49 f50 f51 (bN 13 q54) (bN 120 q55) (bN 120 q56) f57 (bN 120 q58) f59 f60 f64) (mo_t ck) sz)) (va_Qi (fun (r : Int32) (_ : Unit) => r = (sp_EM_begin x16 x65 x66 q4 q9 q10 f11 m13_0 m13_1 m15_0 m15_1 f64).1) (fun _ t => ∃ (z64 : Nat → Int32) (z0 : Int32) (z30 : Nat) (z65 : Nat) (z66 : Int32), pu_E (dC, dI) (mo_w ad ck z0 (nI x16) (nI x18) (nI x19) x20 (nI x21) (nI x22) x23 x24 x25 (nI x26) x27 (nI x28) (nI x29) (nI z30) (nI x33) x45 (nI x46) (nI x52) (nI x53) (nI x61) (nI x62) (nI x63) (nI z65) z66 f1 f2 f3 (bN 3 q4) (bN 7 q5) (bN 7 q6) (bN 4 q7) f8 (bN 2 q9) (bH q10) f11 (b2 m12_0 m12_1) (b2 m13_0 m13_1) (b2 m14_0 m14_1) (b2m m15_0 m15_1) f17 (bA 159 q31) f32 f34 f35 f36 f37 (bN 7 q38) f39 f40 f41 (b2 m42_0 m42_1) f43 f44 f47 f48 f49 f50 f51 (bN 13 q54) (bN 120 q55) (bN 120 q56) f57 (bN 120 q58) f59 f60 z64) (mo_t ck) (va_A ((mo_w ad ck x0 (nI x16) (nI x18) (nI x19) x20 (nI x21) (nI x22) x23 x24 x25 (nI x26) x27 (nI x28) (nI x29) (nI x30) (nI x33) x45 (nI x46) (nI x52) (nI x53) (nI x61) (nI x62) (nI x63) (nI x65) x66 f1 f2 f3 (bN 3 q4) (bN 7 q5) (bN 7 q6) (bN 4 q7) f8 (bN 2 q9) (bH q10) f11 (b2 m12_0 m12_1) (b2 m13_0 m13_1) (b2 m14_0 m14_1) (b2m m15_0 m15_1) f17 (bA 159 q31) f32 f34 f35 f36 f37 (bN 7 q38) f39 f40 f41 (b2 m42_0 m42_1) f43 f44 f47 f48 f49 f50 f51 (bN 13 q54) (bN 120 q55) (bN 120 q56) f57 (bN 120 q58) f59 f60 f64)) sz) t ∧ (z30 ≤ 1) ∧ (z65 ≤ 7) ∧ ((z64, z0, z30, z65, z66) = (sp_EM_begin x16 x65 x66 q4 q9 q10 f11 m13_0 m13_1 m15_0 m15_1 f64).2)) (va_A ((mo_w ad ck x0 (nI x16) (nI x18) (nI x19) x20 (nI x21) (nI x22) x23 x24 x25 (nI x26) x27 (nI x28) (nI x29) (nI x30) (nI x33) x45 (nI x46) (nI x52) (nI x53) (nI x61) (nI x62) (nI x63) (nI x65) x66 f1 f2 f3 (bN 3 q4) (bN 7 q5) (bN 7 q6) (bN 4 q7) f8 (bN 2 q9) (bH q10) f11 (b2 m12_0 m12_1) (b2 m13_0 m13_1) (b2 m14_0 m14_1) (b2m m15_0 m15_1) f17 (bA 159 q31) f32 f34 f35 f36 f37 (bN 7 q38) f39 f40 f41 (b2 m42_0 m42_1) f43 f44 f47 f48 f49 f50 f51 (bN 13 q54) (bN 120 q55) (bN 120 q56) f57 (bN 120 q58) f59 f60 f64)) sz)) 0 0 (va_A ((mo_w ad ck x0 (nI x16) (nI x18) (nI x19) x20 (nI x21) (nI x22) x23 x24 x25 (nI x26) x27 (nI x28) (nI x29) (nI x30) (nI x33) x45 (nI x46) (nI x52) (nI x53) (nI x61) (nI x62) (nI x63) (nI x65) x66 f1 f2 f3 (bN 3 q4) (bN 7 q5) (bN 7 q6) (bN 4 q7) f8 (bN 2 q9) (bH q10) f11 (b2 m12_0 m12_1) (b2 m13_0 m13_1) (b2 m14_0 m14_1) (b2m m15_0 m15_1) f17 (bA 159 q31) f32 f34 f35 f36 f37 (bN 7 q38) f39 f40 f41 (b2 m42_0 m42_1) f43 f44 f47 f48 f49 f50 f51 (bN 13 q54) (bN 120 q55) (bN 120 q56) f57 (bN 120 q58) f59 f60 f64)) sz) := by
  refine Met.ofW (cc := cX9_begin) (maxL := 1) (ret := (some .int)) (by decide) rfl ?_
  intro p e s m args below meth c s₁ B hml hv
  obtain ⟨rfl, rfl, hP, hK, hD0⟩ := hv
  have hx := B.exec
  have hb := B.bytes
  have hr := B.returns
  have hts := atoms_spec (ws := vs_EM_begin) B.pre
  have v_1 := hts (.fieldLink RX9 142 "ClockReachModel" "thrown" "I") (List.mem_cons_of_mem _ vm_5)
  have v_7 := hts (.fieldLink RX9 466 "ClockReachModel" "playPlace" "I") (List.mem_cons_of_mem _ vm_363)
  have hown : s.vm.findClass RX9 = some m.cls := findClass_of_methodNamed B.named
  have hlocks := B.notSynchronized
  have hiX9 : ∀ w ∈ wsX90, w ∈ vs_EM_begin := fun _ h => List.mem_cons_of_mem _ (vmi_L h)
  have hD := hD0.self (sz := s.heap.size)
  generalize hAe : va_A ((mo_w ad ck x0 (nI x16) (nI x18) (nI x19) x20 (nI x21) (nI x22) x23 x24 x25 (nI x26) x27 (nI x28) (nI x29) (nI x30) (nI x33) x45 (nI x46) (nI x52) (nI x53) (nI x61) (nI x62) (nI x63) (nI x65) x66 f1 f2 f3 (bN 3 q4) (bN 7 q5) (bN 7 q6) (bN 4 q7) f8 (bN 2 q9) (bH q10) f11 (b2 m12_0 m12_1) (b2 m13_0 m13_1) (b2 m14_0 m14_1) (b2m m15_0 m15_1) f17 (bA 159 q31) f32 f34 f35 f36 f37 (bN 7 q38) f39 f40 f41 (b2 m42_0 m42_1) f43 f44 f47 f48 f49 f50 f51 (bN 13 q54) (bN 120 q55) (bN 120 q56) f57 (bN 120 q58) f59 f60 f64)) s.heap.size = A at hD ⊢
  have hA : ∀ q : Nat, s.heap.size ≤ q → A q := fun q h => by rw [← hAe]; exact Or.inr h
  have hS : va_S A s.heap s.heap [] := va_S.rf
  have hl := lv_entry ([.ref (ad 0)]) (n := 1) (Nat.le_of_ble_eq_true rfl)
  rw [lg_entry_eq]
  generalize (lg_sl ([.ref (ad 0)]) ++ List.replicate (1 - (lg_sl ([.ref (ad 0)])).length) Slot.unset).toArray = ls at hl ⊢
  have hl : lv_has ls 1 [(0, .ref (ad 0))] := hl
  obtain ⟨RR, hRR⟩ : ∃ x, x = (sp_EM_begin x16 x65 x66 q4 q9 q10 f11 m13_0 m13_1 m15_0 m15_1 f64) := ⟨_, rfl⟩
  have hsp := hRR
  refine lv_aload_n hx hb dX9_begin_0 rfl (lv_at hl 0 rfl) ?_
  refine lv_iconst (v := 0) hx hb dX9_begin_1 (by decide) ?_
  refine va_put (D := (dC, dI)) (ci := 9) (v := .int 0) (ty := .int) (C := RX9) (T := TX9) (N := 67) hx hb hts hiX9 tyX9 tyX9_ok nmX9 hown hK hP hD hS 0 rfl rfl 0 (by decide) v_1 (fun _ h9 => h9) rfl (by decide +kernel) rfl rfl (Nat.le_of_ble_eq_true rfl) dX9_begin_2 (fun H locs hP hD hS => ?_)
  have hP : va_P (dC, dI) vwCl (mo_w ad ck 0 (nI x16) (nI x18) (nI x19) x20 (nI x21) (nI x22) x23 x24 x25 (nI x26) x27 (nI x28) (nI x29) (nI x30) (nI x33) x45 (nI x46) (nI x52) (nI x53) (nI x61) (nI x62) (nI x63) (nI x65) x66 f1 f2 f3 (bN 3 q4) (bN 7 q5) (bN 7 q6) (bN 4 q7) f8 (bN 2 q9) (bH q10) f11 (b2 m12_0 m12_1) (b2 m13_0 m13_1) (b2 m14_0 m14_1) (b2m m15_0 m15_1) f17 (bA 159 q31) f32 f34 f35 f36 f37 (bN 7 q38) f39 f40 f41 (b2 m42_0 m42_1) f43 f44 f47 f48 f49 f50 f51 (bN 13 q54) (bN 120 q55) (bN 120 q56) f57 (bN 120 q58) f59 f60 f64) H := hP
  have hD : va_D A (mo_w ad ck 0 (nI x16) (nI x18) (nI x19) x20 (nI x21) (nI x22) x23 x24 x25 (nI x26) x27 (nI x28) (nI x29) (nI x30) (nI x33) x45 (nI x46) (nI x52) (nI x53) (nI x61) (nI x62) (nI x63) (nI x65) x66 f1 f2 f3 (bN 3 q4) (bN 7 q5) (bN 7 q6) (bN 4 q7) f8 (bN 2 q9) (bH q10) f11 (b2 m12_0 m12_1) (b2 m13_0 m13_1) (b2 m14_0 m14_1) (b2m m15_0 m15_1) f17 (bA 159 q31) f32 f34 f35 f36 f37 (bN 7 q38) f39 f40 f41 (b2 m42_0 m42_1) f43 f44 f47 f48 f49 f50 f51 (bN 13 q54) (bN 120 q55) (bN 120 q56) f57 (bN 120 q58) f59 f60 f64) := hD
  refine lv_aload_n hx hb dX9_begin_5 rfl (lv_at hl 0 rfl) ?_
  have hFc := pu_free hD hS hA
  refine va_calli (va_runV (As := []) (rest := []) ⟨hx, hb, hml, hown, hts⟩ (c_EM_beginsPlay l dC dI _ ad ck 0 x16 x18 x19 x20 x21 x22 x23 x24 x25 x26 x27 x28 x29 x30 x33 x45 x46 x52 x53 x61 x62 x63 x65 x66 f1 f2 f3 q4 q5 q6 q7 f8 q9 q10 f11 m12_0 m12_1 m13_0 m13_1 m14_0 m14_1 m15_0 m15_1 f17 q31 f32 f34 f35 f36 f37 q38 f39 f40 f41 m42_0 m42_1 f43 f44 f47 f48 f49 f50 f51 q54 q55 q56 f57 q58 f59 f60 f64 hx16 hx18 hx19 hx21 hx22 hx26 hx28 hx29 hx30 hx33 hx46 hx52 hx53 hx61 hx62 hx63 hx65 hm12_0 hm12_1 hm13_0 hm13_1 hm14_0 hm14_1 hm15_0 hm15_1 hm42_0 hm42_1 (by first | assumption | omega)) (cwV 0 hts g_EM_begin_EM_beginsPlay rfl rfl rfl (by decide +kernel) ⟨Nat.le_of_ble_eq_true rfl, Nat.le_of_ble_eq_true rfl⟩) ⟨pu_bl, va_recv hK hP (ci := 9) (q0 := 0) rfl rfl, pu_in hP hK hD⟩ rfl rfl hl.1 rfl (lv_room (Nat.le_of_ble_eq_true rfl)) dX9_begin_6 ⟨Nat.le_of_ble_eq_true rfl, Nat.le_of_ble_eq_true rfl⟩) hS (fun q _ h => hFc q h) hFc (fun r_1 u t H1 locs ht hvm hw hB hz1 hk1 hS => ?_)
  obtain ⟨z64_2, z30_3, z65_4, z66_5, ⟨hP1, -, hD1⟩, hz30_3, hz65_4, xr_1_0⟩ := hB
  rw [ht] at hP1
  have hP := hP1
  have hD := pu_all hFc hD1
  clear hP1 hD1 hFc
  clear hk1 hz1 ht hvm
  generalize H1 = H at hP hS ⊢
  obtain ⟨u_6, hu_6, rfl, iu_6⟩ := hw
  have iu_6 : (u_6, z64_2, z30_3, z65_4, z66_5) = (sp_EM_beginsPlay x16 x65 x66 q4 q9 q10 f11 m13_0 m13_1 m15_0 m15_1 f64) := Prod.ext iu_6 xr_1_0
  replace hsp := hsp.trans (slet_eq iu_6)
  refine lv_if_eq (tgt := 19) hx hb dX9_begin_9 (by decide) (fun c_7 => ?_) (fun c_7 => ?_)
  · have c_7 : u_6 = 0 := (nI_eq (a := u_6) (b := 0) (Nat.lt_of_le_of_lt hu_6 (Nat.le_of_ble_eq_true rfl)) (Nat.le_of_ble_eq_true rfl)).mp c_7
    replace hsp := hsp.trans (if_pos c_7)
    refine lv_iconst (v := (-1)) hx hb dX9_begin_19 (by decide) ?_
    exact W.iret (v := (-1)) hx hb hr (fun t ht hW => ⟨⟨(-1), (), rfl, (congrArg Prod.fst (hsp.symm.trans hRR)), ⟨z64_2, 0, z30_3, z65_4, z66_5, ⟨by rw [ht]; exact hP, va_K.moved hW.alike hK, hD⟩, hz30_3, hz65_4, (congrArg Prod.snd (hsp.symm.trans hRR))⟩⟩, hS.F ht⟩) hS.2.2 dX9_begin_20
  · have c_7 : ¬ u_6 = 0 := fun z => c_7 ((nI_eq (a := u_6) (b := 0) (Nat.lt_of_le_of_lt hu_6 (Nat.le_of_ble_eq_true rfl)) (Nat.le_of_ble_eq_true rfl)).mpr z)
    replace hsp := hsp.trans (if_neg c_7)
    refine lv_aload_n hx hb dX9_begin_12 rfl (lv_at hl 0 rfl) ?_
    refine va_get (D := (dC, dI)) (ci := 9) (v := .int (nI z65_4)) (C := RX9) (T := TX9) (N := 67) hx hb hts hiX9 hown hK hP 0 rfl rfl 65 (by decide) v_7 (fun _ h9 => h9) rfl dX9_begin_13 ?_
    refine lv_goto (tgt := 20) hx hb dX9_begin_16 (by decide) ?_
    exact W.iret (v := (nI z65_4)) hx hb hr (fun t ht hW => ⟨⟨(nI z65_4), (), rfl, (congrArg Prod.fst (hsp.symm.trans hRR)), ⟨z64_2, 0, z30_3, z65_4, z66_5, ⟨by rw [ht]; exact hP, va_K.moved hW.alike hK, hD⟩, hz30_3, hz65_4, (congrArg Prod.snd (hsp.symm.trans hRR))⟩⟩, hS.F ht⟩) hS.2.2 dX9_begin_20
