theorem dX9_goesBy_0 : decode cX9_goesBy 0 = .ok (.aload_n 0, 1) := by decide +kernel
theorem dX9_goesBy_1 : decode cX9_goesBy 1 = .ok (.aload_n 0, 1) := by decide +kernel
theorem dX9_goesBy_2 : decode cX9_goesBy 2 = .ok (.getfield 71, 3) := by decide +kernel
theorem dX9_goesBy_5 : decode cX9_goesBy 5 = .ok (.iload_n 1, 1) := by decide +kernel
theorem dX9_goesBy_6 : decode cX9_goesBy 6 = .ok (.invokevirtual 342, 3) := by decide +kernel
theorem dX9_goesBy_9 : decode cX9_goesBy 9 = .ok (.aload_n 0, 1) := by decide +kernel
theorem dX9_goesBy_10 : decode cX9_goesBy 10 = .ok (.aload_n 0, 1) := by decide +kernel
theorem dX9_goesBy_11 : decode cX9_goesBy 11 = .ok (.getfield 71, 3) := by decide +kernel
theorem dX9_goesBy_14 : decode cX9_goesBy 14 = .ok (.invokevirtual 345, 3) := by decide +kernel
theorem dX9_goesBy_17 : decode cX9_goesBy 17 = .ok (.ifCond .ne 5, 3) := by decide +kernel
theorem dX9_goesBy_20 : decode cX9_goesBy 20 = .ok (.iconst 0, 1) := by decide +kernel
theorem dX9_goesBy_21 : decode cX9_goesBy 21 = .ok (.ireturn, 1) := by decide +kernel
theorem dX9_goesBy_22 : decode cX9_goesBy 22 = .ok (.iconst 0, 1) := by decide +kernel
theorem dX9_goesBy_23 : decode cX9_goesBy 23 = .ok (.istore_n 2, 1) := by decide +kernel
theorem dX9_goesBy_24 : decode cX9_goesBy 24 = .ok (.iload_n 2, 1) := by decide +kernel
theorem dX9_goesBy_25 : decode cX9_goesBy 25 = .ok (.aload_n 0, 1) := by decide +kernel
theorem dX9_goesBy_26 : decode cX9_goesBy 26 = .ok (.invokevirtual 280, 3) := by decide +kernel
theorem dX9_goesBy_29 : decode cX9_goesBy 29 = .ok (.if_icmp .ge 32, 3) := by decide +kernel
theorem dX9_goesBy_32 : decode cX9_goesBy 32 = .ok (.aload_n 0, 1) := by decide +kernel
theorem dX9_goesBy_33 : decode cX9_goesBy 33 = .ok (.iload_n 1, 1) := by decide +kernel
theorem dX9_goesBy_34 : decode cX9_goesBy 34 = .ok (.invokevirtual 305, 3) := by decide +kernel
theorem dX9_goesBy_37 : decode cX9_goesBy 37 = .ok (.iload_n 2, 1) := by decide +kernel
theorem dX9_goesBy_38 : decode cX9_goesBy 38 = .ok (.invokestatic 248, 3) := by decide +kernel
theorem dX9_goesBy_41 : decode cX9_goesBy 41 = .ok (.ifCond .eq 14, 3) := by decide +kernel
theorem dX9_goesBy_44 : decode cX9_goesBy 44 = .ok (.aload_n 0, 1) := by decide +kernel
theorem dX9_goesBy_45 : decode cX9_goesBy 45 = .ok (.aload_n 0, 1) := by decide +kernel
theorem dX9_goesBy_46 : decode cX9_goesBy 46 = .ok (.getfield 71, 3) := by decide +kernel
theorem dX9_goesBy_49 : decode cX9_goesBy 49 = .ok (.iconst 1, 1) := by decide +kernel
theorem dX9_goesBy_50 : decode cX9_goesBy 50 = .ok (.iload_n 2, 1) := by decide +kernel
theorem dX9_goesBy_51 : decode cX9_goesBy 51 = .ok (.iadd, 1) := by decide +kernel
theorem dX9_goesBy_52 : decode cX9_goesBy 52 = .ok (.invokevirtual 366, 3) := by decide +kernel
theorem dX9_goesBy_55 : decode cX9_goesBy 55 = .ok (.iinc 2 1, 3) := by decide +kernel
theorem dX9_goesBy_58 : decode cX9_goesBy 58 = .ok (.goto (-34), 3) := by decide +kernel
theorem dX9_goesBy_61 : decode cX9_goesBy 61 = .ok (.aload_n 0, 1) := by decide +kernel
theorem dX9_goesBy_62 : decode cX9_goesBy 62 = .ok (.aload_n 0, 1) := by decide +kernel
theorem dX9_goesBy_63 : decode cX9_goesBy 63 = .ok (.getfield 71, 3) := by decide +kernel
theorem dX9_goesBy_66 : decode cX9_goesBy 66 = .ok (.bipush 100, 2) := by decide +kernel
theorem dX9_goesBy_68 : decode cX9_goesBy 68 = .ok (.aload_n 0, 1) := by decide +kernel
theorem dX9_goesBy_69 : decode cX9_goesBy 69 = .ok (.iload_n 1, 1) := by decide +kernel
theorem dX9_goesBy_70 : decode cX9_goesBy 70 = .ok (.invokevirtual 292, 3) := by decide +kernel
theorem dX9_goesBy_73 : decode cX9_goesBy 73 = .ok (.iadd, 1) := by decide +kernel
theorem dX9_goesBy_74 : decode cX9_goesBy 74 = .ok (.invokevirtual 342, 3) := by decide +kernel
theorem dX9_goesBy_77 : decode cX9_goesBy 77 = .ok (.aload_n 0, 1) := by decide +kernel
theorem dX9_goesBy_78 : decode cX9_goesBy 78 = .ok (.aload_n 0, 1) := by decide +kernel
theorem dX9_goesBy_79 : decode cX9_goesBy 79 = .ok (.getfield 71, 3) := by decide +kernel
theorem dX9_goesBy_82 : decode cX9_goesBy 82 = .ok (.invokevirtual 345, 3) := by decide +kernel
theorem dX9_goesBy_85 : decode cX9_goesBy 85 = .ok (.ireturn, 1) := by decide +kernel
abbrev vs_EM_goesBy : List Cond := .code yX9_goesBy cX9_goesBy 3 (some .boolean) :: VM
theorem g_EM_goesBy_EM_holdsAll_e : GoodIn vs_EM_goesBy (wsV RX9 342 RX9 yX9_holdsAll vs_EM_holdsAll_e) := gm_V vm_204 vm_205 vm_206 vm_19 vm_207
theorem g_EM_goesBy_EM_closes_z : GoodIn vs_EM_goesBy (wsV RX9 345 RX9 yX9_closes vs_EM_closes_z) := gm_V vm_208 vm_209 vm_210 vm_19 vm_211
theorem g_EM_goesBy_EM_clocks : GoodIn vs_EM_goesBy (wsV RX9 280 RX9 yX9_clocks vs_EM_clocks) := gm_V vm_140 vm_141 vm_142 vm_19 vm_143
theorem g_EM_goesBy_EM_into : GoodIn vs_EM_goesBy (wsV RX9 292 RX9 yX9_into vs_EM_into) := gm_V vm_37 vm_38 vm_39 vm_19 vm_40
theorem g_EM_goesBy_EM_holdsAll_p : GoodIn vs_EM_goesBy (wsV RX9 342 RX9 yX9_holdsAll vs_EM_holdsAll_p) := gm_V vm_204 vm_205 vm_206 vm_19 vm_207
theorem g_EM_goesBy_EM_setBy : GoodIn vs_EM_goesBy (wsV RX9 305 RX9 yX9_setBy vs_EM_setBy) := gm_V vm_171 vm_172 vm_173 vm_19 vm_174
theorem g_EM_goesBy_EM_isOf : GoodIn vs_EM_goesBy (va_wsS RX9 248 yX9_isOf vs_EM_isOf) := gm_S vm_114 vm_115 vm_19 vm_116
theorem g_EM_goesBy_EM_goesBack : GoodIn vs_EM_goesBy (wsV RX9 366 RX9 yX9_goesBack vs_EM_goesBack) := gm_V vm_215 vm_216 vm_217 vm_19 vm_218
noncomputable def sp_EM_goesBy_L1 (x16 : Nat) (x46 : Nat) (q4 : Nat → Nat) (q6 : Nat → Nat) (f8 : Nat → Int32) (q9 : Nat → Nat) (q10 : Nat → Nat) (f11 : Nat → Int32) (m12_0 : Nat) (m12_1 : Nat) (m13_0 : Nat) (m13_1 : Nat) (a0 : Nat) : ((Nat → Int32) × Nat) → ((Nat → Int32) × Nat) ⊕ (Nat × (Nat → Int32)) := fun (g_9, g_10) => (slet (sp_EM_clocks x16 m12_0 m12_1) (fun u_18 => (if u_18 ≤ g_10 then (Sum.inr (slet (sp_EM_into x16 q6 a0) (fun u_21 => (slet (sp_EM_holdsAll_p x16 q4 q9 q10 f11 m13_0 m13_1 g_9 (100 + u_21)) (fun z35_24 => (slet (sp_EM_closes_z x46 z35_24) (fun (u_27, z35_26) => (u_27, z35_26)))))))) else (slet (sp_EM_setBy x16 f8 a0) (fun r_28 => (slet (α := (Nat → Int32)) (slet (sp_EM_isOf r_28 (nI g_10)) (fun u_34 => (if u_34 = 0 then g_9 else (slet (sp_EM_goesBack x46 g_9 (1 + g_10)) (fun z35_38 => z35_38))))) (fun g_29 => (Sum.inl (g_29, (g_10 + 1))))))))))
noncomputable def sp_EM_goesBy (x16 : Nat) (x46 : Nat) (q4 : Nat → Nat) (q6 : Nat → Nat) (q7 : Nat → Nat) (f8 : Nat → Int32) (q9 : Nat → Nat) (q10 : Nat → Nat) (f11 : Nat → Int32) (m12_0 : Nat) (m12_1 : Nat) (m13_0 : Nat) (m13_1 : Nat) (m14_0 : Nat) (m14_1 : Nat) (f35 : Nat → Int32) (a0 : Nat) : Nat × (Nat → Int32) := (slet (sp_EM_holdsAll_e x16 q7 q9 q10 f11 m13_0 m13_1 m14_0 m14_1 f35 a0) (fun z35_2 => (slet (sp_EM_closes_z x46 z35_2) (fun (u_5, z35_4) => (if u_5 = 0 then (0, z35_4) else (itrv (α := (Nat → Int32) × Nat) (β := (Nat × (Nat → Int32))) default (sp_EM_goesBy_L1 x16 x46 q4 q6 f8 q9 q10 f11 m12_0 m12_1 m13_0 m13_1 a0) (z35_4, 0)))))))
set_option maxHeartbeats 4000000 in
set_option maxRecDepth 100000 in
theorem c_EM_goesBy (l : Launch) (dC : Nat → ClassId) (dI : Nat → Nat → Nat) (sz : Nat) (ad : Nat → Nat) (ck : Nat → ClassId) (x0 : Int32) (x16 : Nat) (x18 : Nat) (x19 : Nat) (x20 : Int32) (x21 : Nat) (x22 : Nat) (x23 : Int32) (x24 : Int32) (x25 : Int32) (x26 : Nat) (x27 : Int32) (x28 : Nat) (x29 : Nat) (x30 : Nat) (x33 : Nat) (x45 : Int32) (x46 : Nat) (x52 : Nat) (x53 : Nat) (x61 : Nat) (x62 : Nat) (x63 : Nat) (x65 : Nat) (x66 : Int32) (f1 : Nat → Int32) (f2 : Nat → Int32) (f3 : Nat → Int32) (q4 : Nat → Nat) (q5 : Nat → Nat) (q6 : Nat → Nat) (q7 : Nat → Nat) (f8 : Nat → Int32) (q9 : Nat → Nat) (q10 : Nat → Nat) (f11 : Nat → Int32) (m12_0 m12_1 : Nat) (m13_0 m13_1 : Nat) (m14_0 m14_1 : Nat) (m15_0 m15_1 : Nat) (f17 : Nat → Int32) (q31 : Nat → Nat) (f32 : Nat → Int32) (f34 : Nat → Int32) (f35 : Nat → Int32) (f36 : Nat → Int32) (f37 : Nat → Int32) (q38 : Nat → Nat) (f39 : Nat → Int32) (f40 : Nat → Int32) (f41 : Nat → Int32) (m42_0 m42_1 : Nat) (f43 : Nat → Int32) (f44 : Nat → Int32) (f47 : Nat → Int32) (f48 : Nat → Int32) (f49 : Nat → Int32) (f50 : Nat → Int32) (f51 : Nat → Int32) (q54 : Nat → Nat) (q55 : Nat → Nat) (q56 : Nat → Nat) (f57 : Nat → Int32) (q58 : Nat → Nat) (f59 : Nat → Int32) (f60 : Nat → Int32) (f64 : Nat → Int32) (a0 : Nat) (hx16 : x16 ≤ 1) (hx18 : x18 ≤ 900) (hx19 : x19 ≤ 900) (hx21 : x21 ≤ 900) (hx22 : x22 ≤ 4) (hx26 : x26 ≤ 6) (hx28 : x28 ≤ 1) (hx29 : x29 ≤ 1) (hx30 : x30 ≤ 1) (hx33 : x33 ≤ 20) (hx46 : x46 ≤ 5) (hx52 : x52 ≤ 2400) (hx53 : x53 ≤ 119) (hx61 : x61 ≤ 119) (hx62 : x62 ≤ 2000) (hx63 : x63 ≤ 1) (hx65 : x65 ≤ 7) (hm12_0 : m12_0 ≤ 3) (hm12_1 : m12_1 ≤ 3) (hm13_0 : m13_0 ≤ 8) (hm13_1 : m13_1 ≤ 8) (hm14_0 : m14_0 ≤ 14) (hm14_1 : m14_1 ≤ 14) (hm15_0 : m15_0 ≤ 8) (hm15_1 : m15_1 ≤ 8) (hm42_0 : m42_0 ≤ 120) (hm42_1 : m42_1 ≤ 400) (ha0 : a0 ≤ 13) : Met l yX9_goesBy vs_EM_goesBy ({ frames := 4, cells := 0, slots := 0, locals := 90 }) (va_Pc [.ref (ad 0), .int (nI a0)] (pu_B (dC, dI) (mo_w ad ck x0 (nI x16) (nI x18) (nI x19) x20 (nI x21) (nI x22) x23 x24 x25 (nI x26) x27 (nI x28) (nI x29) (nI x30) (nI x33) x45 (nI x46) (nI x52) (nI x53) (nI x61) (nI x62) (nI x63) (nI x65) x66 f1 f2 f3 (bN 3 q4) (bN 7 q5) (bN 7 q6) (bN 4 q7) f8 (bN 2 q9) (bH q10) f11 (b2 m12_0 m12_1) (b2 m13_0 m13_1) (b2 m14_0 m14_1) (b2m m15_0 m15_1) f17 (bA 159 q31) f32 f34 f35 f36 f37 (bN 7 q38) f39 f40 f41 (b2 m42_0 m42_1) f43 f44 f47 f48 f49 f50 f51 (bN 13 q54) (bN 120 q55) (bN 120 q56) f57 (bN 120 q58) f59 f60 f64) (mo_t ck) sz)) (va_Qi (fun (r : Int32) (_ : Unit) => ∃ v : Nat, v ≤ 1 ∧ r = nI v ∧ v = (sp_EM_goesBy x16 x46 q4 q6 q7 f8 q9 q10 f11 m12_0 m12_1 m13_0 m13_1 m14_0 m14_1 f35 a0).1) (fun _ t => ∃ (z35 : Nat → Int32), pu_E (dC, dI) (mo_w ad ck x0 (nI x16) (nI x18) (nI x19) x20 (nI x21) (nI x22) x23 x24 x25 (nI x26) x27 (nI x28) (nI x29) (nI x30) (nI x33) x45 (nI x46) (nI x52) (nI x53) (nI x61) (nI x62) (nI x63) (nI x65) x66 f1 f2 f3 (bN 3 q4) (bN 7 q5) (bN 7 q6) (bN 4 q7) f8 (bN 2 q9) (bH q10) f11 (b2 m12_0 m12_1) (b2 m13_0 m13_1) (b2 m14_0 m14_1) (b2m m15_0 m15_1) f17 (bA 159 q31) f32 f34 z35 f36 f37 (bN 7 q38) f39 f40 f41 (b2 m42_0 m42_1) f43 f44 f47 f48 f49 f50 f51 (bN 13 q54) (bN 120 q55) (bN 120 q56) f57 (bN 120 q58) f59 f60 f64) (mo_t ck) (va_A ((mo_w ad ck x0 (nI x16) (nI x18) (nI x19) x20 (nI x21) (nI x22) x23 x24 x25 (nI x26) x27 (nI x28) (nI x29) (nI x30) (nI x33) x45 (nI x46) (nI x52) (nI x53) (nI x61) (nI x62) (nI x63) (nI x65) x66 f1 f2 f3 (bN 3 q4) (bN 7 q5) (bN 7 q6) (bN 4 q7) f8 (bN 2 q9) (bH q10) f11 (b2 m12_0 m12_1) (b2 m13_0 m13_1) (b2 m14_0 m14_1) (b2m m15_0 m15_1) f17 (bA 159 q31) f32 f34 f35 f36 f37 (bN 7 q38) f39 f40 f41 (b2 m42_0 m42_1) f43 f44 f47 f48 f49 f50 f51 (bN 13 q54) (bN 120 q55) (bN 120 q56) f57 (bN 120 q58) f59 f60 f64)) sz) t ∧ (z35 = (sp_EM_goesBy x16 x46 q4 q6 q7 f8 q9 q10 f11 m12_0 m12_1 m13_0 m13_1 m14_0 m14_1 f35 a0).2)) (va_A ((mo_w ad ck x0 (nI x16) (nI x18) (nI x19) x20 (nI x21) (nI x22) x23 x24 x25 (nI x26) x27 (nI x28) (nI x29) (nI x30) (nI x33) x45 (nI x46) (nI x52) (nI x53) (nI x61) (nI x62) (nI x63) (nI x65) x66 f1 f2 f3 (bN 3 q4) (bN 7 q5) (bN 7 q6) (bN 4 q7) f8 (bN 2 q9) (bH q10) f11 (b2 m12_0 m12_1) (b2 m13_0 m13_1) (b2 m14_0 m14_1) (b2m m15_0 m15_1) f17 (bA 159 q31) f32 f34 f35 f36 f37 (bN 7 q38) f39 f40 f41 (b2 m42_0 m42_1) f43 f44 f47 f48 f49 f50 f51 (bN 13 q54) (bN 120 q55) (bN 120 q56) f57 (bN 120 q58) f59 f60 f64)) sz)) 0 0 (va_A ((mo_w ad ck x0 (nI x16) (nI x18) (nI x19) x20 (nI x21) (nI x22) x23 x24 x25 (nI x26) x27 (nI x28) (nI x29) (nI x30) (nI x33) x45 (nI x46) (nI x52) (nI x53) (nI x61) (nI x62) (nI x63) (nI x65) x66 f1 f2 f3 (bN 3 q4) (bN 7 q5) (bN 7 q6) (bN 4 q7) f8 (bN 2 q9) (bH q10) f11 (b2 m12_0 m12_1) (b2 m13_0 m13_1) (b2 m14_0 m14_1) (b2m m15_0 m15_1) f17 (bA 159 q31) f32 f34 f35 f36 f37 (bN 7 q38) f39 f40 f41 (b2 m42_0 m42_1) f43 f44 f47 f48 f49 f50 f51 (bN 13 q54) (bN 120 q55) (bN 120 q56) f57 (bN 120 q58) f59 f60 f64)) sz) := by
  refine Met.ofW (cc := cX9_goesBy) (maxL := 3) (ret := (some .boolean)) (by decide) rfl ?_
  intro p e s m args below meth c s₁ B hml hv
  obtain ⟨rfl, rfl, hP, hK, hD0⟩ := hv
  have hx := B.exec
  have hb := B.bytes
  have hr := B.returns
  have hts := atoms_spec (ws := vs_EM_goesBy) B.pre
  have v_1 := hts (.fieldLink RX9 71 "ClockReachModel" "z" "[I") (List.mem_cons_of_mem _ vm_219)
  have hown : s.vm.findClass RX9 = some m.cls := findClass_of_methodNamed B.named
  have hlocks := B.notSynchronized
  have hiX9 : ∀ w ∈ wsX90, w ∈ vs_EM_goesBy := fun _ h => List.mem_cons_of_mem _ (vmi_L h)
  have hD := hD0.self (sz := s.heap.size)
  generalize hAe : va_A ((mo_w ad ck x0 (nI x16) (nI x18) (nI x19) x20 (nI x21) (nI x22) x23 x24 x25 (nI x26) x27 (nI x28) (nI x29) (nI x30) (nI x33) x45 (nI x46) (nI x52) (nI x53) (nI x61) (nI x62) (nI x63) (nI x65) x66 f1 f2 f3 (bN 3 q4) (bN 7 q5) (bN 7 q6) (bN 4 q7) f8 (bN 2 q9) (bH q10) f11 (b2 m12_0 m12_1) (b2 m13_0 m13_1) (b2 m14_0 m14_1) (b2m m15_0 m15_1) f17 (bA 159 q31) f32 f34 f35 f36 f37 (bN 7 q38) f39 f40 f41 (b2 m42_0 m42_1) f43 f44 f47 f48 f49 f50 f51 (bN 13 q54) (bN 120 q55) (bN 120 q56) f57 (bN 120 q58) f59 f60 f64)) s.heap.size = A at hD ⊢
  have hA : ∀ q : Nat, s.heap.size ≤ q → A q := fun q h => by rw [← hAe]; exact Or.inr h
  have hS : va_S A s.heap s.heap [] := va_S.rf
  have hl := lv_entry ([.ref (ad 0), .int (nI a0)]) (n := 3) (Nat.le_of_ble_eq_true rfl)
  rw [lg_entry_eq]
  generalize (lg_sl ([.ref (ad 0), .int (nI a0)]) ++ List.replicate (3 - (lg_sl ([.ref (ad 0), .int (nI a0)])).length) Slot.unset).toArray = ls at hl ⊢
  have hl : lv_has ls 3 [(0, .ref (ad 0)), (1, .int (nI a0))] := hl
  obtain ⟨RR, hRR⟩ : ∃ x, x = (sp_EM_goesBy x16 x46 q4 q6 q7 f8 q9 q10 f11 m12_0 m12_1 m13_0 m13_1 m14_0 m14_1 f35 a0) := ⟨_, rfl⟩
  have hsp := hRR
  refine lv_aload_n hx hb dX9_goesBy_0 rfl (lv_at hl 0 rfl) ?_
  refine lv_aload_n hx hb dX9_goesBy_1 rfl (lv_at hl 0 rfl) ?_
  refine va_get (D := (dC, dI)) (ci := 9) (v := .ref (ad 35)) (C := RX9) (T := TX9) (N := 67) hx hb hts hiX9 hown hK hP 0 rfl rfl 35 (by decide) v_1 (fun _ h9 => h9) rfl dX9_goesBy_2 ?_
  refine lv_iload_n hx hb dX9_goesBy_5 rfl (lv_at hl 1 rfl) ?_
  have hFc := pu_free hD hS hA
  refine va_callv (va_runV (As := [.ref (ad 35), .int (nI a0)]) (rest := []) ⟨hx, hb, hml, hown, hts⟩ (c_EM_holdsAll_e l dC dI _ ad ck x0 x16 x18 x19 x20 x21 x22 x23 x24 x25 x26 x27 x28 x29 x30 x33 x45 x46 x52 x53 x61 x62 x63 x65 x66 f1 f2 f3 q4 q5 q6 q7 f8 q9 q10 f11 m12_0 m12_1 m13_0 m13_1 m14_0 m14_1 m15_0 m15_1 f17 q31 f32 f34 f35 f36 f37 q38 f39 f40 f41 m42_0 m42_1 f43 f44 f47 f48 f49 f50 f51 q54 q55 q56 f57 q58 f59 f60 f64 a0 hx16 hx18 hx19 hx21 hx22 hx26 hx28 hx29 hx30 hx33 hx46 hx52 hx53 hx61 hx62 hx63 hx65 hm12_0 hm12_1 hm13_0 hm13_1 hm14_0 hm14_1 hm15_0 hm15_1 hm42_0 hm42_1 ha0) (cwV 2 hts g_EM_goesBy_EM_holdsAll_e rfl rfl rfl (by decide +kernel) ⟨Nat.le_of_ble_eq_true rfl, Nat.le_of_ble_eq_true rfl⟩) ⟨pu_bl, va_recv hK hP (ci := 9) (q0 := 0) rfl rfl, pu_in hP hK hD⟩ rfl rfl hl.1 rfl (lv_room (Nat.le_of_ble_eq_true rfl)) dX9_goesBy_6 ⟨Nat.le_of_ble_eq_true rfl, Nat.le_of_ble_eq_true rfl⟩) hS (fun q _ h => hFc q h) hFc (fun u t H1 locs ht hvm hw hB hz1 hk1 hS => ?_)
  obtain ⟨z35_2, ⟨hP1, -, hD1⟩, xr_1_0⟩ := hB
  rw [ht] at hP1
  have hP := hP1
  have hD := pu_all hFc hD1
  clear hP1 hD1 hFc
  clear hk1 hz1 ht hvm
  generalize H1 = H at hP hS ⊢
  replace hsp := hsp.trans (slet_eq xr_1_0)
  refine lv_aload_n hx hb dX9_goesBy_9 rfl (lv_at hl 0 rfl) ?_
  refine lv_aload_n hx hb dX9_goesBy_10 rfl (lv_at hl 0 rfl) ?_
  refine va_get (D := (dC, dI)) (ci := 9) (v := .ref (ad 35)) (C := RX9) (T := TX9) (N := 67) hx hb hts hiX9 hown hK hP 0 rfl rfl 35 (by decide) v_1 (fun _ h9 => h9) rfl dX9_goesBy_11 ?_
  have hFc := pu_free hD hS hA
  refine va_calli (va_runV (As := [.ref (ad 35)]) (rest := []) ⟨hx, hb, hml, hown, hts⟩ (c_EM_closes_z l dC dI _ ad ck x0 x16 x18 x19 x20 x21 x22 x23 x24 x25 x26 x27 x28 x29 x30 x33 x45 x46 x52 x53 x61 x62 x63 x65 x66 f1 f2 f3 q4 q5 q6 q7 f8 q9 q10 f11 m12_0 m12_1 m13_0 m13_1 m14_0 m14_1 m15_0 m15_1 f17 q31 f32 f34 z35_2 f36 f37 q38 f39 f40 f41 m42_0 m42_1 f43 f44 f47 f48 f49 f50 f51 q54 q55 q56 f57 q58 f59 f60 f64 hx16 hx18 hx19 hx21 hx22 hx26 hx28 hx29 hx30 hx33 hx46 hx52 hx53 hx61 hx62 hx63 hx65 hm12_0 hm12_1 hm13_0 hm13_1 hm14_0 hm14_1 hm15_0 hm15_1 hm42_0 hm42_1) (cwV 1 hts g_EM_goesBy_EM_closes_z rfl rfl rfl (by decide +kernel) ⟨Nat.le_of_ble_eq_true rfl, Nat.le_of_ble_eq_true rfl⟩) ⟨pu_bl, va_recv hK hP (ci := 9) (q0 := 0) rfl rfl, pu_in hP hK hD⟩ rfl rfl hl.1 rfl (lv_room (Nat.le_of_ble_eq_true rfl)) dX9_goesBy_14 ⟨Nat.le_of_ble_eq_true rfl, Nat.le_of_ble_eq_true rfl⟩) hS (fun q _ h => hFc q h) hFc (fun r_3 u t H1 locs ht hvm hw hB hz1 hk1 hS => ?_)
  obtain ⟨z35_4, ⟨hP1, -, hD1⟩, xr_3_0⟩ := hB
  rw [ht] at hP1
  have hP := hP1
  have hD := pu_all hFc hD1
  clear hP1 hD1 hFc
  clear hk1 hz1 ht hvm
  generalize H1 = H at hP hS ⊢
  obtain ⟨u_5, hu_5, rfl, iu_5⟩ := hw
  have iu_5 : (u_5, z35_4) = (sp_EM_closes_z x46 z35_2) := Prod.ext iu_5 xr_3_0
  replace hsp := hsp.trans (slet_eq iu_5)
  refine lv_if_ne (tgt := 22) hx hb dX9_goesBy_17 (by decide) (fun c_6 => ?_) (fun c_6 => ?_)
  · have c_6 : ¬ u_5 = 0 := fun z => c_6 ((nI_eq (a := u_5) (b := 0) (Nat.lt_of_le_of_lt hu_5 (Nat.le_of_ble_eq_true rfl)) (Nat.le_of_ble_eq_true rfl)).mpr z)
    replace hsp := hsp.trans (if_neg c_6)
    refine lv_iconst (v := 0) hx hb dX9_goesBy_22 (by decide) ?_
    refine lv_istore_n (lv' := [(2, .int 0), (0, .ref (ad 0)), (1, .int (nI a0))]) hx hb dX9_goesBy_23 rfl hl (by decide) rfl (fun ls hl => ?_)
    obtain ⟨lf_12, dlf_12, hlf_12, hsp⟩ := itr_ex hsp
    delta sp_EM_goesBy_L1 at hlf_12
    refine pu_while (fun nn H locs ls => ∃ (g_9 : Nat → Int32) (g_10 : Nat), nn = 3 - g_10 ∧ g_10 ≤ 3 ∧ RR = itrv dlf_12 lf_12 (g_9, g_10) ∧ va_P (dC, dI) vwCl (mo_w ad ck x0 (nI x16) (nI x18) (nI x19) x20 (nI x21) (nI x22) x23 x24 x25 (nI x26) x27 (nI x28) (nI x29) (nI x30) (nI x33) x45 (nI x46) (nI x52) (nI x53) (nI x61) (nI x62) (nI x63) (nI x65) x66 f1 f2 f3 (bN 3 q4) (bN 7 q5) (bN 7 q6) (bN 4 q7) f8 (bN 2 q9) (bH q10) f11 (b2 m12_0 m12_1) (b2 m13_0 m13_1) (b2 m14_0 m14_1) (b2m m15_0 m15_1) f17 (bA 159 q31) f32 f34 g_9 f36 f37 (bN 7 q38) f39 f40 f41 (b2 m42_0 m42_1) f43 f44 f47 f48 f49 f50 f51 (bN 13 q54) (bN 120 q55) (bN 120 q56) f57 (bN 120 q58) f59 f60 f64) H ∧ va_D A (mo_w ad ck x0 (nI x16) (nI x18) (nI x19) x20 (nI x21) (nI x22) x23 x24 x25 (nI x26) x27 (nI x28) (nI x29) (nI x30) (nI x33) x45 (nI x46) (nI x52) (nI x53) (nI x61) (nI x62) (nI x63) (nI x65) x66 f1 f2 f3 (bN 3 q4) (bN 7 q5) (bN 7 q6) (bN 4 q7) f8 (bN 2 q9) (bH q10) f11 (b2 m12_0 m12_1) (b2 m13_0 m13_1) (b2 m14_0 m14_1) (b2m m15_0 m15_1) f17 (bA 159 q31) f32 f34 g_9 f36 f37 (bN 7 q38) f39 f40 f41 (b2 m42_0 m42_1) f43 f44 f47 f48 f49 f50 f51 (bN 13 q54) (bN 120 q55) (bN 120 q56) f57 (bN 120 q58) f59 f60 f64) ∧ va_S A s.heap H locs ∧ lv_has ls 3 [(0, .ref (ad 0)), (1, .int (nI a0)), (2, .int (nI g_10))]) 24 ?_ _ _ _ _ ⟨z35_4, 0, rfl, (Nat.le_of_ble_eq_true rfl), hsp, hP, hD, hS, lv_sub hl [1, 2, 0] rfl⟩
    rintro nn ih_11 H locs ls ⟨g_9, g_10, rfl, hg_10, he_14, hP, hD, hS, hl⟩
    obtain ⟨S_13, hsp, hin_15, hout_16⟩ := itr_step hlf_12 he_14
    refine lv_iload_n hx hb dX9_goesBy_24 rfl (lv_at hl 2 rfl) ?_
    refine lv_aload_n hx hb dX9_goesBy_25 rfl (lv_at hl 0 rfl) ?_
    refine va_calli (va_runV (As := []) (rest := [.int (nI g_10)]) ⟨hx, hb, hml, hown, hts⟩ (c_EM_clocks l dC dI _ ad ck x0 x16 x18 x19 x20 x21 x22 x23 x24 x25 x26 x27 x28 x29 x30 x33 x45 x46 x52 x53 x61 x62 x63 x65 x66 f1 f2 f3 q4 q5 q6 q7 f8 q9 q10 f11 m12_0 m12_1 m13_0 m13_1 m14_0 m14_1 m15_0 m15_1 f17 q31 f32 f34 g_9 f36 f37 q38 f39 f40 f41 m42_0 m42_1 f43 f44 f47 f48 f49 f50 f51 q54 q55 q56 f57 q58 f59 f60 f64 hx16 hx18 hx19 hx21 hx22 hx26 hx28 hx29 hx30 hx33 hx46 hx52 hx53 hx61 hx62 hx63 hx65 hm12_0 hm12_1 hm13_0 hm13_1 hm14_0 hm14_1 hm15_0 hm15_1 hm42_0 hm42_1) (cwV 0 hts g_EM_goesBy_EM_clocks rfl rfl rfl (by decide +kernel) ⟨Nat.le_of_ble_eq_true rfl, Nat.le_of_ble_eq_true rfl⟩) ⟨pu_bl, va_recv hK hP (ci := 9) (q0 := 0) rfl rfl, pu_in hP hK hD⟩ rfl rfl hl.1 rfl (lv_room (Nat.le_of_ble_eq_true rfl)) dX9_goesBy_26 ⟨Nat.le_of_ble_eq_true rfl, Nat.le_of_ble_eq_true rfl⟩) hS (fun q _ h => pu_fr hS hA q h) (pu_fr hS hA) (fun r_17 u t H1 locs ht hvm hw hB hz1 hk1 hS => ?_)
    have hP := pu_keep hP hk1
    clear hk1 hz1 ht hvm
    generalize H1 = H at hP hS ⊢
    obtain ⟨u_18, hu_18, rfl, iu_18⟩ := hw
    replace hsp := hsp.trans (slet_eq iu_18)
    refine lv_icmp_ge (tgt := 61) hx hb dX9_goesBy_29 (by decide) (fun c_19 => ?_) (fun c_19 => ?_)
    · have c_19 : u_18 ≤ g_10 := (nI_leI (a := u_18) (b := g_10) (Nat.lt_of_le_of_lt hu_18 (Nat.le_of_ble_eq_true rfl)) (Nat.lt_of_le_of_lt hg_10 (Nat.le_of_ble_eq_true rfl))).mp c_19
      replace hsp := hsp.trans (if_pos c_19)
      have hsp := hout_16 _ hsp
      refine lv_aload_n hx hb dX9_goesBy_61 rfl (lv_at hl 0 rfl) ?_
      refine lv_aload_n hx hb dX9_goesBy_62 rfl (lv_at hl 0 rfl) ?_
      refine va_get (D := (dC, dI)) (ci := 9) (v := .ref (ad 35)) (C := RX9) (T := TX9) (N := 67) hx hb hts hiX9 hown hK hP 0 rfl rfl 35 (by decide) v_1 (fun _ h9 => h9) rfl dX9_goesBy_63 ?_
      refine lv_bipush (v := 100) hx hb dX9_goesBy_66 (by decide) ?_
      refine lv_aload_n hx hb dX9_goesBy_68 rfl (lv_at hl 0 rfl) ?_
      refine lv_iload_n hx hb dX9_goesBy_69 rfl (lv_at hl 1 rfl) ?_
      refine va_calli (va_runV (As := [.int (nI a0)]) (rest := [.int 100, .ref (ad 35), .ref (ad 0)]) ⟨hx, hb, hml, hown, hts⟩ (c_EM_into l dC dI _ ad ck x0 x16 x18 x19 x20 x21 x22 x23 x24 x25 x26 x27 x28 x29 x30 x33 x45 x46 x52 x53 x61 x62 x63 x65 x66 f1 f2 f3 q4 q5 q6 q7 f8 q9 q10 f11 m12_0 m12_1 m13_0 m13_1 m14_0 m14_1 m15_0 m15_1 f17 q31 f32 f34 g_9 f36 f37 q38 f39 f40 f41 m42_0 m42_1 f43 f44 f47 f48 f49 f50 f51 q54 q55 q56 f57 q58 f59 f60 f64 a0 hx16 hx18 hx19 hx21 hx22 hx26 hx28 hx29 hx30 hx33 hx46 hx52 hx53 hx61 hx62 hx63 hx65 hm12_0 hm12_1 hm13_0 hm13_1 hm14_0 hm14_1 hm15_0 hm15_1 hm42_0 hm42_1 ha0) (cwV 1 hts g_EM_goesBy_EM_into rfl rfl rfl (by decide +kernel) ⟨Nat.le_of_ble_eq_true rfl, Nat.le_of_ble_eq_true rfl⟩) ⟨pu_bl, va_recv hK hP (ci := 9) (q0 := 0) rfl rfl, pu_in hP hK hD⟩ rfl rfl hl.1 rfl (lv_room (Nat.le_of_ble_eq_true rfl)) dX9_goesBy_70 ⟨Nat.le_of_ble_eq_true rfl, Nat.le_of_ble_eq_true rfl⟩) hS (fun q _ h => pu_fr hS hA q h) (pu_fr hS hA) (fun r_20 u t H1 locs ht hvm hw hB hz1 hk1 hS => ?_)
      have hP := pu_keep hP hk1
      clear hk1 hz1 ht hvm
      generalize H1 = H at hP hS ⊢
      obtain ⟨u_21, hu_21, rfl, iu_21⟩ := hw
      replace hsp := hsp.trans (slet_eq iu_21)
      refine lv_iadd hx hb dX9_goesBy_73 ?_
      refine lv_topi (fun y_22 ey_22 => ?_)
      obtain rfl : y_22 = (nI (100 + u_21)) := ey_22.trans (nI_add 100 u_21)
      have hFc := pu_free hD hS hA
      refine va_callv (va_runV (As := [.ref (ad 35), .int (nI (100 + u_21))]) (rest := []) ⟨hx, hb, hml, hown, hts⟩ (c_EM_holdsAll_p l dC dI _ ad ck x0 x16 x18 x19 x20 x21 x22 x23 x24 x25 x26 x27 x28 x29 x30 x33 x45 x46 x52 x53 x61 x62 x63 x65 x66 f1 f2 f3 q4 q5 q6 q7 f8 q9 q10 f11 m12_0 m12_1 m13_0 m13_1 m14_0 m14_1 m15_0 m15_1 f17 q31 f32 f34 g_9 f36 f37 q38 f39 f40 f41 m42_0 m42_1 f43 f44 f47 f48 f49 f50 f51 q54 q55 q56 f57 q58 f59 f60 f64 (100 + u_21) hx16 hx18 hx19 hx21 hx22 hx26 hx28 hx29 hx30 hx33 hx46 hx52 hx53 hx61 hx62 hx63 hx65 hm12_0 hm12_1 hm13_0 hm13_1 hm14_0 hm14_1 hm15_0 hm15_1 hm42_0 hm42_1 (by omega) (by omega)) (cwV 2 hts g_EM_goesBy_EM_holdsAll_p rfl rfl rfl (by decide +kernel) ⟨Nat.le_of_ble_eq_true rfl, Nat.le_of_ble_eq_true rfl⟩) ⟨pu_bl, va_recv hK hP (ci := 9) (q0 := 0) rfl rfl, pu_in hP hK hD⟩ rfl rfl hl.1 rfl (lv_room (Nat.le_of_ble_eq_true rfl)) dX9_goesBy_74 ⟨Nat.le_of_ble_eq_true rfl, Nat.le_of_ble_eq_true rfl⟩) hS (fun q _ h => hFc q h) hFc (fun u t H1 locs ht hvm hw hB hz1 hk1 hS => ?_)
      obtain ⟨z35_24, ⟨hP1, -, hD1⟩, xr_23_0⟩ := hB
      rw [ht] at hP1
      have hP := hP1
      have hD := pu_all hFc hD1
      clear hP1 hD1 hFc
      clear hk1 hz1 ht hvm
      generalize H1 = H at hP hS ⊢
      replace hsp := hsp.trans (slet_eq xr_23_0)
      refine lv_aload_n hx hb dX9_goesBy_77 rfl (lv_at hl 0 rfl) ?_
      refine lv_aload_n hx hb dX9_goesBy_78 rfl (lv_at hl 0 rfl) ?_
      refine va_get (D := (dC, dI)) (ci := 9) (v := .ref (ad 35)) (C := RX9) (T := TX9) (N := 67) hx hb hts hiX9 hown hK hP 0 rfl rfl 35 (by decide) v_1 (fun _ h9 => h9) rfl dX9_goesBy_79 ?_
      have hFc := pu_free hD hS hA
      refine va_calli (va_runV (As := [.ref (ad 35)]) (rest := []) ⟨hx, hb, hml, hown, hts⟩ (c_EM_closes_z l dC dI _ ad ck x0 x16 x18 x19 x20 x21 x22 x23 x24 x25 x26 x27 x28 x29 x30 x33 x45 x46 x52 x53 x61 x62 x63 x65 x66 f1 f2 f3 q4 q5 q6 q7 f8 q9 q10 f11 m12_0 m12_1 m13_0 m13_1 m14_0 m14_1 m15_0 m15_1 f17 q31 f32 f34 z35_24 f36 f37 q38 f39 f40 f41 m42_0 m42_1 f43 f44 f47 f48 f49 f50 f51 q54 q55 q56 f57 q58 f59 f60 f64 hx16 hx18 hx19 hx21 hx22 hx26 hx28 hx29 hx30 hx33 hx46 hx52 hx53 hx61 hx62 hx63 hx65 hm12_0 hm12_1 hm13_0 hm13_1 hm14_0 hm14_1 hm15_0 hm15_1 hm42_0 hm42_1) (cwV 1 hts g_EM_goesBy_EM_closes_z rfl rfl rfl (by decide +kernel) ⟨Nat.le_of_ble_eq_true rfl, Nat.le_of_ble_eq_true rfl⟩) ⟨pu_bl, va_recv hK hP (ci := 9) (q0 := 0) rfl rfl, pu_in hP hK hD⟩ rfl rfl hl.1 rfl (lv_room (Nat.le_of_ble_eq_true rfl)) dX9_goesBy_82 ⟨Nat.le_of_ble_eq_true rfl, Nat.le_of_ble_eq_true rfl⟩) hS (fun q _ h => hFc q h) hFc (fun r_25 u t H1 locs ht hvm hw hB hz1 hk1 hS => ?_)
      obtain ⟨z35_26, ⟨hP1, -, hD1⟩, xr_25_0⟩ := hB
      rw [ht] at hP1
      have hP := hP1
      have hD := pu_all hFc hD1
      clear hP1 hD1 hFc
      clear hk1 hz1 ht hvm
      generalize H1 = H at hP hS ⊢
      obtain ⟨u_27, hu_27, rfl, iu_27⟩ := hw
      have iu_27 : (u_27, z35_26) = (sp_EM_closes_z x46 z35_24) := Prod.ext iu_27 xr_25_0
      replace hsp := hsp.trans (slet_eq iu_27)
      exact W.zret (v := (nI u_27)) (ty := .boolean) hx hb hr (pu_nz (pu_b1 (n := u_27) (by omega))) (fun t ht hW => ⟨⟨(nI u_27), (), rfl, ⟨u_27, hu_27, rfl, (congrArg Prod.fst (hsp.symm.trans hRR))⟩, ⟨z35_26, ⟨by rw [ht]; exact hP, va_K.moved hW.alike hK, hD⟩, (congrArg Prod.snd (hsp.symm.trans hRR))⟩⟩, hS.F ht⟩) hS.2.2 dX9_goesBy_85
    · have c_19 : ¬ u_18 ≤ g_10 := fun z => c_19 ((nI_leI (a := u_18) (b := g_10) (Nat.lt_of_le_of_lt hu_18 (Nat.le_of_ble_eq_true rfl)) (Nat.lt_of_le_of_lt hg_10 (Nat.le_of_ble_eq_true rfl))).mpr z)
      replace hsp := hsp.trans (if_neg c_19)
      refine lv_aload_n hx hb dX9_goesBy_32 rfl (lv_at hl 0 rfl) ?_
      refine lv_iload_n hx hb dX9_goesBy_33 rfl (lv_at hl 1 rfl) ?_
      refine va_calli (va_runV (As := [.int (nI a0)]) (rest := []) ⟨hx, hb, hml, hown, hts⟩ (c_EM_setBy l dC dI _ ad ck x0 x16 x18 x19 x20 x21 x22 x23 x24 x25 x26 x27 x28 x29 x30 x33 x45 x46 x52 x53 x61 x62 x63 x65 x66 f1 f2 f3 q4 q5 q6 q7 f8 q9 q10 f11 m12_0 m12_1 m13_0 m13_1 m14_0 m14_1 m15_0 m15_1 f17 q31 f32 f34 g_9 f36 f37 q38 f39 f40 f41 m42_0 m42_1 f43 f44 f47 f48 f49 f50 f51 q54 q55 q56 f57 q58 f59 f60 f64 a0 hx16 hx18 hx19 hx21 hx22 hx26 hx28 hx29 hx30 hx33 hx46 hx52 hx53 hx61 hx62 hx63 hx65 hm12_0 hm12_1 hm13_0 hm13_1 hm14_0 hm14_1 hm15_0 hm15_1 hm42_0 hm42_1 ha0) (cwV 1 hts g_EM_goesBy_EM_setBy rfl rfl rfl (by decide +kernel) ⟨Nat.le_of_ble_eq_true rfl, Nat.le_of_ble_eq_true rfl⟩) ⟨pu_bl, va_recv hK hP (ci := 9) (q0 := 0) rfl rfl, pu_in hP hK hD⟩ rfl rfl hl.1 rfl (lv_room (Nat.le_of_ble_eq_true rfl)) dX9_goesBy_34 ⟨Nat.le_of_ble_eq_true rfl, Nat.le_of_ble_eq_true rfl⟩) hS (fun q _ h => pu_fr hS hA q h) (pu_fr hS hA) (fun r_28 u t H1 locs ht hvm hw hB hz1 hk1 hS => ?_)
      have hP := pu_keep hP hk1
      clear hk1 hz1 ht hvm
      generalize H1 = H at hP hS ⊢
      have ir_28 := hw
      replace hsp := hsp.trans (slet_eq ir_28)
      refine lv_iload_n hx hb dX9_goesBy_37 rfl (lv_at hl 2 rfl) ?_
      obtain ⟨JR_31, hJR_31, hsp⟩ := slet_ex hsp
      refine pu_join (fun H locs ls st => ∃ (g_29 : Nat → Int32), st = [] ∧ g_29 = JR_31 ∧ va_P (dC, dI) vwCl (mo_w ad ck x0 (nI x16) (nI x18) (nI x19) x20 (nI x21) (nI x22) x23 x24 x25 (nI x26) x27 (nI x28) (nI x29) (nI x30) (nI x33) x45 (nI x46) (nI x52) (nI x53) (nI x61) (nI x62) (nI x63) (nI x65) x66 f1 f2 f3 (bN 3 q4) (bN 7 q5) (bN 7 q6) (bN 4 q7) f8 (bN 2 q9) (bH q10) f11 (b2 m12_0 m12_1) (b2 m13_0 m13_1) (b2 m14_0 m14_1) (b2m m15_0 m15_1) f17 (bA 159 q31) f32 f34 g_29 f36 f37 (bN 7 q38) f39 f40 f41 (b2 m42_0 m42_1) f43 f44 f47 f48 f49 f50 f51 (bN 13 q54) (bN 120 q55) (bN 120 q56) f57 (bN 120 q58) f59 f60 f64) H ∧ va_D A (mo_w ad ck x0 (nI x16) (nI x18) (nI x19) x20 (nI x21) (nI x22) x23 x24 x25 (nI x26) x27 (nI x28) (nI x29) (nI x30) (nI x33) x45 (nI x46) (nI x52) (nI x53) (nI x61) (nI x62) (nI x63) (nI x65) x66 f1 f2 f3 (bN 3 q4) (bN 7 q5) (bN 7 q6) (bN 4 q7) f8 (bN 2 q9) (bH q10) f11 (b2 m12_0 m12_1) (b2 m13_0 m13_1) (b2 m14_0 m14_1) (b2m m15_0 m15_1) f17 (bA 159 q31) f32 f34 g_29 f36 f37 (bN 7 q38) f39 f40 f41 (b2 m42_0 m42_1) f43 f44 f47 f48 f49 f50 f51 (bN 13 q54) (bN 120 q55) (bN 120 q56) f57 (bN 120 q58) f59 f60 f64) ∧ va_S A s.heap H locs ∧ lv_has ls 3 [(0, .ref (ad 0)), (1, .int (nI a0)), (2, .int (nI g_10))]) 55 ?_ (fun j_30 => ?_)
      · rintro H locs ls st ⟨g_29, rfl, he_32, hP, hD, hS, hl⟩
        rw [← he_32] at hsp
        refine lv_iinc (v := (nI (g_10 + 1))) (lv' := [(2, .int (nI (g_10 + 1))), (0, .ref (ad 0)), (1, .int (nI a0))]) hx hb dX9_goesBy_55 hl (k := 2) rfl (nI_1 _) (by decide) rfl (fun ls hl => ?_)
        refine lv_goto (tgt := 24) hx hb dX9_goesBy_58 (by decide) ?_
        exact ih_11 (3 - (g_10 + 1)) (by omega) _ _ _ ⟨g_29, (g_10 + 1), rfl, (by omega), hin_15 _ hsp, hP, hD, hS, lv_sub hl [1, 2, 0] rfl⟩
      have hsp := hJR_31
      refine va_calli (va_runS (As := [.int r_28, .int (nI g_10)]) (rest := []) ⟨hx, hb, hml, hown, hts⟩ (c_EM_isOf l dC dI _ ad ck x0 x16 x18 x19 x20 x21 x22 x23 x24 x25 x26 x27 x28 x29 x30 x33 x45 x46 x52 x53 x61 x62 x63 x65 x66 f1 f2 f3 q4 q5 q6 q7 f8 q9 q10 f11 m12_0 m12_1 m13_0 m13_1 m14_0 m14_1 m15_0 m15_1 f17 q31 f32 f34 g_9 f36 f37 q38 f39 f40 f41 m42_0 m42_1 f43 f44 f47 f48 f49 f50 f51 q54 q55 q56 f57 q58 f59 f60 f64 r_28 (nI g_10) hx16 hx18 hx19 hx21 hx22 hx26 hx28 hx29 hx30 hx33 hx46 hx52 hx53 hx61 hx62 hx63 hx65 hm12_0 hm12_1 hm13_0 hm13_1 hm14_0 hm14_1 hm15_0 hm15_1 hm42_0 hm42_1) (va_cwS 2 hts g_EM_goesBy_EM_isOf rfl rfl rfl (by decide +kernel) ⟨Nat.le_of_ble_eq_true rfl, Nat.le_of_ble_eq_true rfl⟩) ⟨pu_bl, pu_in hP hK hD⟩ rfl rfl hl.1 rfl (lv_room (Nat.le_of_ble_eq_true rfl)) dX9_goesBy_38 ⟨Nat.le_of_ble_eq_true rfl, Nat.le_of_ble_eq_true rfl⟩) hS (fun q _ h => pu_fr hS hA q h) (pu_fr hS hA) (fun r_33 u t H1 locs ht hvm hw hB hz1 hk1 hS => ?_)
      have hP := pu_keep hP hk1
      clear hk1 hz1 ht hvm
      generalize H1 = H at hP hS ⊢
      obtain ⟨u_34, hu_34, rfl, iu_34⟩ := hw
      replace hsp := hsp.trans (slet_eq iu_34)
      refine lv_if_eq (tgt := 55) hx hb dX9_goesBy_41 (by decide) (fun c_35 => ?_) (fun c_35 => ?_)
      · have c_35 : u_34 = 0 := (nI_eq (a := u_34) (b := 0) (Nat.lt_of_le_of_lt hu_34 (Nat.le_of_ble_eq_true rfl)) (Nat.le_of_ble_eq_true rfl)).mp c_35
        replace hsp := hsp.trans (if_pos c_35)
        exact j_30 _ _ _ _ ⟨g_9, rfl, hsp.symm, hP, hD, hS, lv_sub hl [0, 1, 2] rfl⟩
      · have c_35 : ¬ u_34 = 0 := fun z => c_35 ((nI_eq (a := u_34) (b := 0) (Nat.lt_of_le_of_lt hu_34 (Nat.le_of_ble_eq_true rfl)) (Nat.le_of_ble_eq_true rfl)).mpr z)
        replace hsp := hsp.trans (if_neg c_35)
        refine lv_aload_n hx hb dX9_goesBy_44 rfl (lv_at hl 0 rfl) ?_
        refine lv_aload_n hx hb dX9_goesBy_45 rfl (lv_at hl 0 rfl) ?_
        refine va_get (D := (dC, dI)) (ci := 9) (v := .ref (ad 35)) (C := RX9) (T := TX9) (N := 67) hx hb hts hiX9 hown hK hP 0 rfl rfl 35 (by decide) v_1 (fun _ h9 => h9) rfl dX9_goesBy_46 ?_
        refine lv_iconst (v := 1) hx hb dX9_goesBy_49 (by decide) ?_
        refine lv_iload_n hx hb dX9_goesBy_50 rfl (lv_at hl 2 rfl) ?_
        refine lv_iadd hx hb dX9_goesBy_51 ?_
        refine lv_topi (fun y_36 ey_36 => ?_)
        obtain rfl : y_36 = (nI (1 + g_10)) := ey_36.trans (nI_add 1 g_10)
        have hFc := pu_free hD hS hA
        refine va_callv (va_runV (As := [.ref (ad 35), .int (nI (1 + g_10))]) (rest := []) ⟨hx, hb, hml, hown, hts⟩ (c_EM_goesBack l dC dI _ ad ck x0 x16 x18 x19 x20 x21 x22 x23 x24 x25 x26 x27 x28 x29 x30 x33 x45 x46 x52 x53 x61 x62 x63 x65 x66 f1 f2 f3 q4 q5 q6 q7 f8 q9 q10 f11 m12_0 m12_1 m13_0 m13_1 m14_0 m14_1 m15_0 m15_1 f17 q31 f32 f34 g_9 f36 f37 q38 f39 f40 f41 m42_0 m42_1 f43 f44 f47 f48 f49 f50 f51 q54 q55 q56 f57 q58 f59 f60 f64 (1 + g_10) hx16 hx18 hx19 hx21 hx22 hx26 hx28 hx29 hx30 hx33 hx46 hx52 hx53 hx61 hx62 hx63 hx65 hm12_0 hm12_1 hm13_0 hm13_1 hm14_0 hm14_1 hm15_0 hm15_1 hm42_0 hm42_1 (by omega)) (cwV 2 hts g_EM_goesBy_EM_goesBack rfl rfl rfl (by decide +kernel) ⟨Nat.le_of_ble_eq_true rfl, Nat.le_of_ble_eq_true rfl⟩) ⟨pu_bl, va_recv hK hP (ci := 9) (q0 := 0) rfl rfl, pu_in hP hK hD⟩ rfl rfl hl.1 rfl (lv_room (Nat.le_of_ble_eq_true rfl)) dX9_goesBy_52 ⟨Nat.le_of_ble_eq_true rfl, Nat.le_of_ble_eq_true rfl⟩) hS (fun q _ h => hFc q h) hFc (fun u t H1 locs ht hvm hw hB hz1 hk1 hS => ?_)
        obtain ⟨z35_38, ⟨hP1, -, hD1⟩, xr_37_0⟩ := hB
        rw [ht] at hP1
        have hP := hP1
        have hD := pu_all hFc hD1
        clear hP1 hD1 hFc
        clear hk1 hz1 ht hvm
        generalize H1 = H at hP hS ⊢
        replace hsp := hsp.trans (slet_eq xr_37_0)
        exact j_30 _ _ _ _ ⟨z35_38, rfl, hsp.symm, hP, hD, hS, lv_sub hl [0, 1, 2] rfl⟩
  · have c_6 : u_5 = 0 := (nI_eq (a := u_5) (b := 0) (Nat.lt_of_le_of_lt hu_5 (Nat.le_of_ble_eq_true rfl)) (Nat.le_of_ble_eq_true rfl)).mp c_6
    replace hsp := hsp.trans (if_pos c_6)
    refine lv_iconst (v := 0) hx hb dX9_goesBy_20 (by decide) ?_
    exact W.zret (v := 0) (ty := .boolean) hx hb hr (rfl) (fun t ht hW => ⟨⟨0, (), rfl, ⟨0, (Nat.le_of_ble_eq_true rfl), rfl, (congrArg Prod.fst (hsp.symm.trans hRR))⟩, ⟨z35_4, ⟨by rw [ht]; exact hP, va_K.moved hW.alike hK, hD⟩, (congrArg Prod.snd (hsp.symm.trans hRR))⟩⟩, hS.F ht⟩) hS.2.2 dX9_goesBy_21
