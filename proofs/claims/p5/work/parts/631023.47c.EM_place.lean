theorem dX9_place_0 : decode cX9_place 0 = .ok (.aload_n 0, 1) := by decide +kernel
theorem dX9_place_1 : decode cX9_place 1 = .ok (.iconst 0, 1) := by decide +kernel
theorem dX9_place_2 : decode cX9_place 2 = .ok (.putfield 142, 3) := by decide +kernel
theorem dX9_place_5 : decode cX9_place 5 = .ok (.aload_n 0, 1) := by decide +kernel
theorem dX9_place_6 : decode cX9_place 6 = .ok (.iload_n 1, 1) := by decide +kernel
theorem dX9_place_7 : decode cX9_place 7 = .ok (.invokevirtual 286, 3) := by decide +kernel
theorem dX9_place_10 : decode cX9_place 10 = .ok (.ifCond .eq 12, 3) := by decide +kernel
theorem dX9_place_13 : decode cX9_place 13 = .ok (.iload_n 2, 1) := by decide +kernel
theorem dX9_place_14 : decode cX9_place 14 = .ok (.iconst 0, 1) := by decide +kernel
theorem dX9_place_15 : decode cX9_place 15 = .ok (.iconst 3, 1) := by decide +kernel
theorem dX9_place_16 : decode cX9_place 16 = .ok (.invokestatic 152, 3) := by decide +kernel
theorem dX9_place_19 : decode cX9_place 19 = .ok (.ifCond .ne 5, 3) := by decide +kernel
theorem dX9_place_22 : decode cX9_place 22 = .ok (.iconst (-1), 1) := by decide +kernel
theorem dX9_place_23 : decode cX9_place 23 = .ok (.ireturn, 1) := by decide +kernel
theorem dX9_place_24 : decode cX9_place 24 = .ok (.iload_n 2, 1) := by decide +kernel
theorem dX9_place_25 : decode cX9_place 25 = .ok (.ifCond .ne 20, 3) := by decide +kernel
theorem dX9_place_28 : decode cX9_place 28 = .ok (.aload_n 0, 1) := by decide +kernel
theorem dX9_place_29 : decode cX9_place 29 = .ok (.getfield 16, 3) := by decide +kernel
theorem dX9_place_32 : decode cX9_place 32 = .ok (.bipush 8, 2) := by decide +kernel
theorem dX9_place_34 : decode cX9_place 34 = .ok (.aload_n 0, 1) := by decide +kernel
theorem dX9_place_35 : decode cX9_place 35 = .ok (.getfield 258, 3) := by decide +kernel
theorem dX9_place_38 : decode cX9_place 38 = .ok (.imul, 1) := by decide +kernel
theorem dX9_place_39 : decode cX9_place 39 = .ok (.iload_n 1, 1) := by decide +kernel
theorem dX9_place_40 : decode cX9_place 40 = .ok (.iadd, 1) := by decide +kernel
theorem dX9_place_41 : decode cX9_place 41 = .ok (.iaload, 1) := by decide +kernel
theorem dX9_place_42 : decode cX9_place 42 = .ok (.goto 34, 3) := by decide +kernel
theorem dX9_place_45 : decode cX9_place 45 = .ok (.iload_n 2, 1) := by decide +kernel
theorem dX9_place_46 : decode cX9_place 46 = .ok (.iconst 1, 1) := by decide +kernel
theorem dX9_place_47 : decode cX9_place 47 = .ok (.if_icmp .ne 14, 3) := by decide +kernel
theorem dX9_place_50 : decode cX9_place 50 = .ok (.aload_n 0, 1) := by decide +kernel
theorem dX9_place_51 : decode cX9_place 51 = .ok (.bipush 100, 2) := by decide +kernel
theorem dX9_place_53 : decode cX9_place 53 = .ok (.iload_n 1, 1) := by decide +kernel
theorem dX9_place_54 : decode cX9_place 54 = .ok (.iadd, 1) := by decide +kernel
theorem dX9_place_55 : decode cX9_place 55 = .ok (.invokevirtual 295, 3) := by decide +kernel
theorem dX9_place_58 : decode cX9_place 58 = .ok (.goto 18, 3) := by decide +kernel
theorem dX9_place_61 : decode cX9_place 61 = .ok (.aload_n 0, 1) := by decide +kernel
theorem dX9_place_62 : decode cX9_place 62 = .ok (.iload_n 1, 1) := by decide +kernel
theorem dX9_place_63 : decode cX9_place 63 = .ok (.iload_n 2, 1) := by decide +kernel
theorem dX9_place_64 : decode cX9_place 64 = .ok (.iconst 2, 1) := by decide +kernel
theorem dX9_place_65 : decode cX9_place 65 = .ok (.if_icmp .ne 7, 3) := by decide +kernel
theorem dX9_place_68 : decode cX9_place 68 = .ok (.iconst 1, 1) := by decide +kernel
theorem dX9_place_69 : decode cX9_place 69 = .ok (.goto 4, 3) := by decide +kernel
theorem dX9_place_72 : decode cX9_place 72 = .ok (.iconst 0, 1) := by decide +kernel
theorem dX9_place_73 : decode cX9_place 73 = .ok (.invokevirtual 301, 3) := by decide +kernel
theorem dX9_place_76 : decode cX9_place 76 = .ok (.ireturn, 1) := by decide +kernel
abbrev vs_EM_place : List Cond := .code yX9_place cX9_place 3 (some .int) :: VM
theorem g_EM_place_X9_in : GoodIn vs_EM_place (va_wsS RX9 152 yX9_in vs_X9_in) := gm_0 (fun w h => by
  rcases List.mem_cons.mp h with rfl | h
  · exact vm_137
  rcases List.mem_cons.mp h with rfl | h
  · exact vm_138
  rcases List.mem_cons.mp h with rfl | h
  · exact vm_19
  rcases List.mem_cons.mp h with rfl | h
  · exact vm_139
  exact absurd h (List.not_mem_nil))
theorem g_EM_place_EM_isPlace : GoodIn vs_EM_place (wsV RX9 286 RX9 yX9_isPlace vs_EM_isPlace) := gm_V vm_148 vm_149 vm_150 vm_19 vm_151
theorem g_EM_place_EM_edgesOf : GoodIn vs_EM_place (wsV RX9 301 RX9 yX9_edgesOf vs_EM_edgesOf) := gm_V vm_167 vm_168 vm_169 vm_19 vm_170
theorem g_EM_place_EM_manyOf_p : GoodIn vs_EM_place (wsV RX9 295 RX9 yX9_manyOf vs_EM_manyOf_p) := gm_V vm_152 vm_153 vm_154 vm_19 vm_155
noncomputable def sp_EM_place (x16 : Nat) (f3 : Nat → Int32) (q4 : Nat → Nat) (q5 : Nat → Nat) (q6 : Nat → Nat) (m13_0 : Nat) (m13_1 : Nat) (m14_0 : Nat) (m14_1 : Nat) (p0 : Int32) (p1 : Int32) : Int32 × Int32 := (if (0 : Int32) ≤ p0 ∧ p0 < nI (bkN x16 m13_0 m13_1) then (slet ((p0 : Int32).toNatClampNeg) (fun n_2 => (if (0 : Int32) ≤ p1 ∧ p1 ≤ 3 then (slet ((p1 : Int32).toNatClampNeg) (fun n_4 => (if n_4 = 0 then (slet (f3 ((8 * x16) + n_2)) (fun y_19 => (y_19, 0))) else (if n_4 = 1 then (slet (sp_EM_manyOf_p x16 q4 m13_0 m13_1 (100 + n_2)) (fun u_15 => (if u_15 = 0 then ((-1), 0) else (slet (u_15 - 1) (fun n_16 => ((nI n_16), 0)))))) else (slet (α := Nat) (if n_4 = 2 then 1 else 0) (fun g_7 => (slet (sp_EM_edgesOf x16 q5 q6 m14_0 m14_1 (nI n_2) g_7) (fun r_11 => (r_11, 0))))))))) else ((-1), 0)))) else ((-1), 0))
set_option maxHeartbeats 4000000 in
set_option maxRecDepth 100000 in
theorem c_EM_place (l : Launch) (dC : Nat → ClassId) (dI : Nat → Nat → Nat) (sz : Nat) (ad : Nat → Nat) (ck : Nat → ClassId) (x0 : Int32) (x16 : Nat) (x18 : Nat) (x19 : Nat) (x20 : Int32) (x21 : Nat) (x22 : Nat) (x23 : Int32) (x24 : Int32) (x25 : Int32) (x26 : Nat) (x27 : Int32) (x28 : Nat) (x29 : Nat) (x30 : Nat) (x33 : Nat) (x45 : Int32) (x46 : Nat) (x52 : Nat) (x53 : Nat) (x61 : Nat) (x62 : Nat) (x63 : Nat) (x65 : Nat) (x66 : Int32) (f1 : Nat → Int32) (f2 : Nat → Int32) (f3 : Nat → Int32) (q4 : Nat → Nat) (q5 : Nat → Nat) (q6 : Nat → Nat) (q7 : Nat → Nat) (f8 : Nat → Int32) (q9 : Nat → Nat) (q10 : Nat → Nat) (f11 : Nat → Int32) (m12_0 m12_1 : Nat) (m13_0 m13_1 : Nat) (m14_0 m14_1 : Nat) (m15_0 m15_1 : Nat) (f17 : Nat → Int32) (q31 : Nat → Nat) (f32 : Nat → Int32) (f34 : Nat → Int32) (f35 : Nat → Int32) (f36 : Nat → Int32) (f37 : Nat → Int32) (q38 : Nat → Nat) (f39 : Nat → Int32) (f40 : Nat → Int32) (f41 : Nat → Int32) (m42_0 m42_1 : Nat) (f43 : Nat → Int32) (f44 : Nat → Int32) (f47 : Nat → Int32) (f48 : Nat → Int32) (f49 : Nat → Int32) (f50 : Nat → Int32) (f51 : Nat → Int32) (q54 : Nat → Nat) (q55 : Nat → Nat) (q56 : Nat → Nat) (f57 : Nat → Int32) (q58 : Nat → Nat) (f59 : Nat → Int32) (f60 : Nat → Int32) (f64 : Nat → Int32) (p0 : Int32) (p1 : Int32) (hx16 : x16 ≤ 1) (hx18 : x18 ≤ 900) (hx19 : x19 ≤ 900) (hx21 : x21 ≤ 900) (hx22 : x22 ≤ 4) (hx26 : x26 ≤ 6) (hx28 : x28 ≤ 1) (hx29 : x29 ≤ 1) (hx30 : x30 ≤ 1) (hx33 : x33 ≤ 20) (hx46 : x46 ≤ 5) (hx52 : x52 ≤ 2400) (hx53 : x53 ≤ 119) (hx61 : x61 ≤ 119) (hx62 : x62 ≤ 2000) (hx63 : x63 ≤ 1) (hx65 : x65 ≤ 7) (hm12_0 : m12_0 ≤ 3) (hm12_1 : m12_1 ≤ 3) (hm13_0 : m13_0 ≤ 8) (hm13_1 : m13_1 ≤ 8) (hm14_0 : m14_0 ≤ 14) (hm14_1 : m14_1 ≤ 14) (hm15_0 : m15_0 ≤ 8) (hm15_1 : m15_1 ≤ 8) (hm42_0 : m42_0 ≤ 120) (hm42_1 : m42_1 ≤ 400) : Met l yX9_place vs_EM_place ({ frames := 3, cells := 0, slots := 0, locals := 64 }) (va_Pc [.ref (ad 0), .int p0, .int p1] (pu_B (dC, dI) (mo_w ad ck x0 (nI x16) (nI x18) (nI x19) x20 (nI x21) (nI x22) x23 x24 x25 (nI x26) x27 (nI x28) (nI x29) (nI x30) (nI x33) x45 (nI x46) (nI x52) (nI x53) (nI x61) (nI x62) (nI x63) (nI x65) x66 f1 f2 f3 (bN 3 q4) (bN 7 q5) (bN 7 q6) (bN 4 q7) f8 (bN 2 q9) (bH q10) f11 (b2 m12_0 m12_1) (b2 m13_0 m13_1) (b2 m14_0 m14_1) (b2m m15_0 m15_1) f17 (bA 159 q31) f32 f34 f35 f36 f37 (bN 7 q38) f39 f40 f41 (b2 m42_0 m42_1) f43 f44 f47 f48 f49 f50 f51 (bN 13 q54) (bN 120 q55) (bN 120 q56) f57 (bN 120 q58) f59 f60 f64) (mo_t ck) sz)) (va_Qi (fun (r : Int32) (_ : Unit) => r = (sp_EM_place x16 f3 q4 q5 q6 m13_0 m13_1 m14_0 m14_1 p0 p1).1) (fun _ t => ∃ (z0 : Int32), pu_E (dC, dI) (mo_w ad ck z0 (nI x16) (nI x18) (nI x19) x20 (nI x21) (nI x22) x23 x24 x25 (nI x26) x27 (nI x28) (nI x29) (nI x30) (nI x33) x45 (nI x46) (nI x52) (nI x53) (nI x61) (nI x62) (nI x63) (nI x65) x66 f1 f2 f3 (bN 3 q4) (bN 7 q5) (bN 7 q6) (bN 4 q7) f8 (bN 2 q9) (bH q10) f11 (b2 m12_0 m12_1) (b2 m13_0 m13_1) (b2 m14_0 m14_1) (b2m m15_0 m15_1) f17 (bA 159 q31) f32 f34 f35 f36 f37 (bN 7 q38) f39 f40 f41 (b2 m42_0 m42_1) f43 f44 f47 f48 f49 f50 f51 (bN 13 q54) (bN 120 q55) (bN 120 q56) f57 (bN 120 q58) f59 f60 f64) (mo_t ck) (va_A ((mo_w ad ck x0 (nI x16) (nI x18) (nI x19) x20 (nI x21) (nI x22) x23 x24 x25 (nI x26) x27 (nI x28) (nI x29) (nI x30) (nI x33) x45 (nI x46) (nI x52) (nI x53) (nI x61) (nI x62) (nI x63) (nI x65) x66 f1 f2 f3 (bN 3 q4) (bN 7 q5) (bN 7 q6) (bN 4 q7) f8 (bN 2 q9) (bH q10) f11 (b2 m12_0 m12_1) (b2 m13_0 m13_1) (b2 m14_0 m14_1) (b2m m15_0 m15_1) f17 (bA 159 q31) f32 f34 f35 f36 f37 (bN 7 q38) f39 f40 f41 (b2 m42_0 m42_1) f43 f44 f47 f48 f49 f50 f51 (bN 13 q54) (bN 120 q55) (bN 120 q56) f57 (bN 120 q58) f59 f60 f64)) sz) t ∧ (z0 = (sp_EM_place x16 f3 q4 q5 q6 m13_0 m13_1 m14_0 m14_1 p0 p1).2)) (va_A ((mo_w ad ck x0 (nI x16) (nI x18) (nI x19) x20 (nI x21) (nI x22) x23 x24 x25 (nI x26) x27 (nI x28) (nI x29) (nI x30) (nI x33) x45 (nI x46) (nI x52) (nI x53) (nI x61) (nI x62) (nI x63) (nI x65) x66 f1 f2 f3 (bN 3 q4) (bN 7 q5) (bN 7 q6) (bN 4 q7) f8 (bN 2 q9) (bH q10) f11 (b2 m12_0 m12_1) (b2 m13_0 m13_1) (b2 m14_0 m14_1) (b2m m15_0 m15_1) f17 (bA 159 q31) f32 f34 f35 f36 f37 (bN 7 q38) f39 f40 f41 (b2 m42_0 m42_1) f43 f44 f47 f48 f49 f50 f51 (bN 13 q54) (bN 120 q55) (bN 120 q56) f57 (bN 120 q58) f59 f60 f64)) sz)) 0 0 (va_A ((mo_w ad ck x0 (nI x16) (nI x18) (nI x19) x20 (nI x21) (nI x22) x23 x24 x25 (nI x26) x27 (nI x28) (nI x29) (nI x30) (nI x33) x45 (nI x46) (nI x52) (nI x53) (nI x61) (nI x62) (nI x63) (nI x65) x66 f1 f2 f3 (bN 3 q4) (bN 7 q5) (bN 7 q6) (bN 4 q7) f8 (bN 2 q9) (bH q10) f11 (b2 m12_0 m12_1) (b2 m13_0 m13_1) (b2 m14_0 m14_1) (b2m m15_0 m15_1) f17 (bA 159 q31) f32 f34 f35 f36 f37 (bN 7 q38) f39 f40 f41 (b2 m42_0 m42_1) f43 f44 f47 f48 f49 f50 f51 (bN 13 q54) (bN 120 q55) (bN 120 q56) f57 (bN 120 q58) f59 f60 f64)) sz) := by
  refine Met.ofW (cc := cX9_place) (maxL := 3) (ret := (some .int)) (by decide) rfl ?_
  intro p e s m args below meth c s₁ B hml hv
  obtain ⟨rfl, rfl, hP, hK, hD0⟩ := hv
  have hx := B.exec
  have hb := B.bytes
  have hr := B.returns
  have hts := atoms_spec (ws := vs_EM_place) B.pre
  have v_1 := hts (.fieldLink RX9 142 "ClockReachModel" "thrown" "I") (List.mem_cons_of_mem _ vm_5)
  have v_18 := hts (.fieldLink RX9 16 "ClockReachModel" "urgent" "[I") (List.mem_cons_of_mem _ vm_11)
  have v_19 := hts (.fieldLink RX9 258 "ClockReachModel" "bank" "I") (List.mem_cons_of_mem _ vm_4)
  have hown : s.vm.findClass RX9 = some m.cls := findClass_of_methodNamed B.named
  have hlocks := B.notSynchronized
  have hiX9 : ∀ w ∈ wsX90, w ∈ vs_EM_place := fun _ h => List.mem_cons_of_mem _ (vmi_L h)
  have hD := hD0.self (sz := s.heap.size)
  generalize hAe : va_A ((mo_w ad ck x0 (nI x16) (nI x18) (nI x19) x20 (nI x21) (nI x22) x23 x24 x25 (nI x26) x27 (nI x28) (nI x29) (nI x30) (nI x33) x45 (nI x46) (nI x52) (nI x53) (nI x61) (nI x62) (nI x63) (nI x65) x66 f1 f2 f3 (bN 3 q4) (bN 7 q5) (bN 7 q6) (bN 4 q7) f8 (bN 2 q9) (bH q10) f11 (b2 m12_0 m12_1) (b2 m13_0 m13_1) (b2 m14_0 m14_1) (b2m m15_0 m15_1) f17 (bA 159 q31) f32 f34 f35 f36 f37 (bN 7 q38) f39 f40 f41 (b2 m42_0 m42_1) f43 f44 f47 f48 f49 f50 f51 (bN 13 q54) (bN 120 q55) (bN 120 q56) f57 (bN 120 q58) f59 f60 f64)) s.heap.size = A at hD ⊢
  have hA : ∀ q : Nat, s.heap.size ≤ q → A q := fun q h => by rw [← hAe]; exact Or.inr h
  have hS : va_S A s.heap s.heap [] := va_S.rf
  have hl := lv_entry ([.ref (ad 0), .int p0, .int p1]) (n := 3) (Nat.le_of_ble_eq_true rfl)
  rw [lg_entry_eq]
  generalize (lg_sl ([.ref (ad 0), .int p0, .int p1]) ++ List.replicate (3 - (lg_sl ([.ref (ad 0), .int p0, .int p1])).length) Slot.unset).toArray = ls at hl ⊢
  have hl : lv_has ls 3 [(0, .ref (ad 0)), (1, .int p0), (2, .int p1)] := hl
  obtain ⟨RR, hRR⟩ : ∃ x, x = (sp_EM_place x16 f3 q4 q5 q6 m13_0 m13_1 m14_0 m14_1 p0 p1) := ⟨_, rfl⟩
  have hsp := hRR
  refine lv_aload_n hx hb dX9_place_0 rfl (lv_at hl 0 rfl) ?_
  refine lv_iconst (v := 0) hx hb dX9_place_1 (by decide) ?_
  refine va_put (D := (dC, dI)) (ci := 9) (v := .int 0) (ty := .int) (C := RX9) (T := TX9) (N := 67) hx hb hts hiX9 tyX9 tyX9_ok nmX9 hown hK hP hD hS 0 rfl rfl 0 (by decide) v_1 (fun _ h9 => h9) rfl (by decide +kernel) rfl rfl (Nat.le_of_ble_eq_true rfl) dX9_place_2 (fun H locs hP hD hS => ?_)
  have hP : va_P (dC, dI) vwCl (mo_w ad ck 0 (nI x16) (nI x18) (nI x19) x20 (nI x21) (nI x22) x23 x24 x25 (nI x26) x27 (nI x28) (nI x29) (nI x30) (nI x33) x45 (nI x46) (nI x52) (nI x53) (nI x61) (nI x62) (nI x63) (nI x65) x66 f1 f2 f3 (bN 3 q4) (bN 7 q5) (bN 7 q6) (bN 4 q7) f8 (bN 2 q9) (bH q10) f11 (b2 m12_0 m12_1) (b2 m13_0 m13_1) (b2 m14_0 m14_1) (b2m m15_0 m15_1) f17 (bA 159 q31) f32 f34 f35 f36 f37 (bN 7 q38) f39 f40 f41 (b2 m42_0 m42_1) f43 f44 f47 f48 f49 f50 f51 (bN 13 q54) (bN 120 q55) (bN 120 q56) f57 (bN 120 q58) f59 f60 f64) H := hP
  have hD : va_D A (mo_w ad ck 0 (nI x16) (nI x18) (nI x19) x20 (nI x21) (nI x22) x23 x24 x25 (nI x26) x27 (nI x28) (nI x29) (nI x30) (nI x33) x45 (nI x46) (nI x52) (nI x53) (nI x61) (nI x62) (nI x63) (nI x65) x66 f1 f2 f3 (bN 3 q4) (bN 7 q5) (bN 7 q6) (bN 4 q7) f8 (bN 2 q9) (bH q10) f11 (b2 m12_0 m12_1) (b2 m13_0 m13_1) (b2 m14_0 m14_1) (b2m m15_0 m15_1) f17 (bA 159 q31) f32 f34 f35 f36 f37 (bN 7 q38) f39 f40 f41 (b2 m42_0 m42_1) f43 f44 f47 f48 f49 f50 f51 (bN 13 q54) (bN 120 q55) (bN 120 q56) f57 (bN 120 q58) f59 f60 f64) := hD
  refine lv_aload_n hx hb dX9_place_5 rfl (lv_at hl 0 rfl) ?_
  refine lv_iload_n hx hb dX9_place_6 rfl (lv_at hl 1 rfl) ?_
  refine va_calli (va_runV (As := [.int p0]) (rest := []) ⟨hx, hb, hml, hown, hts⟩ (c_EM_isPlace l dC dI _ ad ck 0 x16 x18 x19 x20 x21 x22 x23 x24 x25 x26 x27 x28 x29 x30 x33 x45 x46 x52 x53 x61 x62 x63 x65 x66 f1 f2 f3 q4 q5 q6 q7 f8 q9 q10 f11 m12_0 m12_1 m13_0 m13_1 m14_0 m14_1 m15_0 m15_1 f17 q31 f32 f34 f35 f36 f37 q38 f39 f40 f41 m42_0 m42_1 f43 f44 f47 f48 f49 f50 f51 q54 q55 q56 f57 q58 f59 f60 f64 p0 hx16 hx18 hx19 hx21 hx22 hx26 hx28 hx29 hx30 hx33 hx46 hx52 hx53 hx61 hx62 hx63 hx65 hm12_0 hm12_1 hm13_0 hm13_1 hm14_0 hm14_1 hm15_0 hm15_1 hm42_0 hm42_1) (cwV 1 hts g_EM_place_EM_isPlace rfl rfl rfl (by decide +kernel) ⟨Nat.le_of_ble_eq_true rfl, Nat.le_of_ble_eq_true rfl⟩) ⟨pu_bl, va_recv hK hP (ci := 9) (q0 := 0) rfl rfl, pu_in hP hK hD⟩ rfl rfl hl.1 rfl (lv_room (Nat.le_of_ble_eq_true rfl)) dX9_place_7 ⟨Nat.le_of_ble_eq_true rfl, Nat.le_of_ble_eq_true rfl⟩) hS (fun q _ h => pu_fr hS hA q h) (pu_fr hS hA) (fun r_1 u t H1 locs ht hvm hw hB hz1 hk1 hS => ?_)
  have hP := pu_keep hP hk1
  clear hk1 hz1 ht hvm
  generalize H1 = H at hP hS ⊢
  rcases hw with ⟨rfl, hw⟩ | ⟨rfl, hn⟩
  · obtain ⟨n_2, hn_2, en_2⟩ := hw
    replace hsp := hsp.trans (if_pos (in_c hn_2 ⟨by omega, by omega⟩ en_2))
    subst en_2
    replace hsp := hsp.trans (slet_eq (nI_cl (n := n_2) (by omega)))
    refine lv_if_eq (tgt := 22) hx hb dX9_place_10 (by decide) (fun z => absurd z (by decide)) (fun _ => ?_)
    refine lv_iload_n hx hb dX9_place_13 rfl (lv_at hl 2 rfl) ?_
    refine lv_iconst (v := 0) hx hb dX9_place_14 (by decide) ?_
    refine lv_iconst (v := 3) hx hb dX9_place_15 (by decide) ?_
    refine va_calli (va_runS (As := [.int p1, .int 0, .int 3]) (rest := []) ⟨hx, hb, hml, hown, hts⟩ (c_X9_in l dC dI _ p1 0 3) (va_cwS 3 hts g_EM_place_X9_in rfl rfl rfl (by decide +kernel) ⟨Nat.le_of_ble_eq_true rfl, Nat.le_of_ble_eq_true rfl⟩) ⟨pu_bl, pu_in (hP.sub [] rfl) (hK.sub [] rfl) (hD.sub [] (by decide) rfl)⟩ rfl rfl hl.1 rfl (lv_room (Nat.le_of_ble_eq_true rfl)) dX9_place_16 ⟨Nat.le_of_ble_eq_true rfl, Nat.le_of_ble_eq_true rfl⟩) hS (fun q _ h => pu_fr hS hA q h) (pu_fr hS hA) (fun r_3 u t H1 locs ht hvm hw hB hz1 hk1 hS => ?_)
    have hP := pu_keep hP hk1
    clear hk1 hz1 ht hvm
    generalize H1 = H at hP hS ⊢
    rcases hw with ⟨rfl, hi1, hi2⟩ | ⟨rfl, hi3⟩
    · replace hsp := hsp.trans (if_pos ⟨hi1, hi2⟩)
      obtain ⟨n_4, hn_4, rfl⟩ := pu_in0 (n := 3) (by omega) hi1 hi2
      replace hsp := hsp.trans (slet_eq (nI_cl (n := n_4) (by omega)))
      refine lv_if_ne (tgt := 24) hx hb dX9_place_19 (by decide) (fun _ => ?_) (fun z => absurd z (by decide))
      refine lv_iload_n hx hb dX9_place_24 rfl (lv_at hl 2 rfl) ?_
      refine lv_if_ne (tgt := 45) hx hb dX9_place_25 (by decide) (fun c_5 => ?_) (fun c_5 => ?_)
      · have c_5 : ¬ n_4 = 0 := fun z => c_5 ((nI_eq (a := n_4) (b := 0) (by omega) (Nat.le_of_ble_eq_true rfl)).mpr z)
        replace hsp := hsp.trans (if_neg c_5)
        refine lv_iload_n hx hb dX9_place_45 rfl (lv_at hl 2 rfl) ?_
        refine lv_iconst (v := 1) hx hb dX9_place_46 (by decide) ?_
        refine lv_icmp_ne (tgt := 61) hx hb dX9_place_47 (by decide) (fun c_6 => ?_) (fun c_6 => ?_)
        · have c_6 : ¬ n_4 = 1 := fun z => c_6 ((nI_eq (a := n_4) (b := 1) (by omega) (Nat.le_of_ble_eq_true rfl)).mpr z)
          replace hsp := hsp.trans (if_neg c_6)
          refine lv_aload_n hx hb dX9_place_61 rfl (lv_at hl 0 rfl) ?_
          refine lv_iload_n hx hb dX9_place_62 rfl (lv_at hl 1 rfl) ?_
          refine lv_iload_n hx hb dX9_place_63 rfl (lv_at hl 2 rfl) ?_
          refine lv_iconst (v := 2) hx hb dX9_place_64 (by decide) ?_
          obtain ⟨JR_9, hJR_9, hsp⟩ := slet_ex hsp
          refine pu_join (fun H locs ls st => ∃ (g_7 : Nat), st = [.int (nI g_7), .int (nI n_2), .ref (ad 0)] ∧ g_7 ≤ 1 ∧ g_7 = JR_9 ∧ va_P (dC, dI) vwCl (mo_w ad ck 0 (nI x16) (nI x18) (nI x19) x20 (nI x21) (nI x22) x23 x24 x25 (nI x26) x27 (nI x28) (nI x29) (nI x30) (nI x33) x45 (nI x46) (nI x52) (nI x53) (nI x61) (nI x62) (nI x63) (nI x65) x66 f1 f2 f3 (bN 3 q4) (bN 7 q5) (bN 7 q6) (bN 4 q7) f8 (bN 2 q9) (bH q10) f11 (b2 m12_0 m12_1) (b2 m13_0 m13_1) (b2 m14_0 m14_1) (b2m m15_0 m15_1) f17 (bA 159 q31) f32 f34 f35 f36 f37 (bN 7 q38) f39 f40 f41 (b2 m42_0 m42_1) f43 f44 f47 f48 f49 f50 f51 (bN 13 q54) (bN 120 q55) (bN 120 q56) f57 (bN 120 q58) f59 f60 f64) H ∧ va_D A (mo_w ad ck 0 (nI x16) (nI x18) (nI x19) x20 (nI x21) (nI x22) x23 x24 x25 (nI x26) x27 (nI x28) (nI x29) (nI x30) (nI x33) x45 (nI x46) (nI x52) (nI x53) (nI x61) (nI x62) (nI x63) (nI x65) x66 f1 f2 f3 (bN 3 q4) (bN 7 q5) (bN 7 q6) (bN 4 q7) f8 (bN 2 q9) (bH q10) f11 (b2 m12_0 m12_1) (b2 m13_0 m13_1) (b2 m14_0 m14_1) (b2m m15_0 m15_1) f17 (bA 159 q31) f32 f34 f35 f36 f37 (bN 7 q38) f39 f40 f41 (b2 m42_0 m42_1) f43 f44 f47 f48 f49 f50 f51 (bN 13 q54) (bN 120 q55) (bN 120 q56) f57 (bN 120 q58) f59 f60 f64) ∧ va_S A s.heap H locs ∧ lv_has ls 3 [(0, .ref (ad 0)), (1, .int (nI n_2)), (2, .int (nI n_4))]) 73 ?_ (fun j_8 => ?_)
          · rintro H locs ls st ⟨g_7, rfl, hg_7, he_10, hP, hD, hS, hl⟩
            rw [← he_10] at hsp
            refine va_calli (va_runV (As := [.int (nI n_2), .int (nI g_7)]) (rest := []) ⟨hx, hb, hml, hown, hts⟩ (c_EM_edgesOf l dC dI _ ad ck 0 x16 x18 x19 x20 x21 x22 x23 x24 x25 x26 x27 x28 x29 x30 x33 x45 x46 x52 x53 x61 x62 x63 x65 x66 f1 f2 f3 q4 q5 q6 q7 f8 q9 q10 f11 m12_0 m12_1 m13_0 m13_1 m14_0 m14_1 m15_0 m15_1 f17 q31 f32 f34 f35 f36 f37 q38 f39 f40 f41 m42_0 m42_1 f43 f44 f47 f48 f49 f50 f51 q54 q55 q56 f57 q58 f59 f60 f64 (nI n_2) g_7 hx16 hx18 hx19 hx21 hx22 hx26 hx28 hx29 hx30 hx33 hx46 hx52 hx53 hx61 hx62 hx63 hx65 hm12_0 hm12_1 hm13_0 hm13_1 hm14_0 hm14_1 hm15_0 hm15_1 hm42_0 hm42_1 hg_7) (cwV 2 hts g_EM_place_EM_edgesOf rfl rfl rfl (by decide +kernel) ⟨Nat.le_of_ble_eq_true rfl, Nat.le_of_ble_eq_true rfl⟩) ⟨pu_bl, va_recv hK hP (ci := 9) (q0 := 0) rfl rfl, pu_in hP hK hD⟩ rfl rfl hl.1 rfl (lv_room (Nat.le_of_ble_eq_true rfl)) dX9_place_73 ⟨Nat.le_of_ble_eq_true rfl, Nat.le_of_ble_eq_true rfl⟩) hS (fun q _ h => pu_fr hS hA q h) (pu_fr hS hA) (fun r_11 u t H1 locs ht hvm hw hB hz1 hk1 hS => ?_)
            have hP := pu_keep hP hk1
            clear hk1 hz1 ht hvm
            generalize H1 = H at hP hS ⊢
            have ir_11 := hw
            replace hsp := hsp.trans (slet_eq ir_11)
            exact W.iret (v := r_11) hx hb hr (fun t ht hW => ⟨⟨r_11, (), rfl, (congrArg Prod.fst (hsp.symm.trans hRR)), ⟨0, ⟨by rw [ht]; exact hP, va_K.moved hW.alike hK, hD⟩, (congrArg Prod.snd (hsp.symm.trans hRR))⟩⟩, hS.F ht⟩) hS.2.2 dX9_place_76
          have hsp := hJR_9
          refine lv_icmp_ne (tgt := 72) hx hb dX9_place_65 (by decide) (fun c_12 => ?_) (fun c_12 => ?_)
          · have c_12 : ¬ n_4 = 2 := fun z => c_12 ((nI_eq (a := n_4) (b := 2) (by omega) (Nat.le_of_ble_eq_true rfl)).mpr z)
            replace hsp := hsp.trans (if_neg c_12)
            refine lv_iconst (v := 0) hx hb dX9_place_72 (by decide) ?_
            exact j_8 _ _ _ _ ⟨0, rfl, (Nat.le_of_ble_eq_true rfl), hsp.symm, hP, hD, hS, lv_sub hl [0, 1, 2] rfl⟩
          · have c_12 : n_4 = 2 := (nI_eq (a := n_4) (b := 2) (by omega) (Nat.le_of_ble_eq_true rfl)).mp c_12
            replace hsp := hsp.trans (if_pos c_12)
            refine lv_iconst (v := 1) hx hb dX9_place_68 (by decide) ?_
            refine lv_goto (tgt := 73) hx hb dX9_place_69 (by decide) ?_
            exact j_8 _ _ _ _ ⟨1, rfl, (Nat.le_of_ble_eq_true rfl), hsp.symm, hP, hD, hS, lv_sub hl [0, 1, 2] rfl⟩
        · have c_6 : n_4 = 1 := (nI_eq (a := n_4) (b := 1) (by omega) (Nat.le_of_ble_eq_true rfl)).mp c_6
          replace hsp := hsp.trans (if_pos c_6)
          refine lv_aload_n hx hb dX9_place_50 rfl (lv_at hl 0 rfl) ?_
          refine lv_bipush (v := 100) hx hb dX9_place_51 (by decide) ?_
          refine lv_iload_n hx hb dX9_place_53 rfl (lv_at hl 1 rfl) ?_
          refine lv_iadd hx hb dX9_place_54 ?_
          refine lv_topi (fun y_13 ey_13 => ?_)
          obtain rfl : y_13 = (nI (100 + n_2)) := ey_13.trans (nI_add 100 n_2)
          refine va_calli (va_runV (As := [.int (nI (100 + n_2))]) (rest := []) ⟨hx, hb, hml, hown, hts⟩ (c_EM_manyOf_p l dC dI _ ad ck 0 x16 x18 x19 x20 x21 x22 x23 x24 x25 x26 x27 x28 x29 x30 x33 x45 x46 x52 x53 x61 x62 x63 x65 x66 f1 f2 f3 q4 q5 q6 q7 f8 q9 q10 f11 m12_0 m12_1 m13_0 m13_1 m14_0 m14_1 m15_0 m15_1 f17 q31 f32 f34 f35 f36 f37 q38 f39 f40 f41 m42_0 m42_1 f43 f44 f47 f48 f49 f50 f51 q54 q55 q56 f57 q58 f59 f60 f64 (100 + n_2) hx16 hx18 hx19 hx21 hx22 hx26 hx28 hx29 hx30 hx33 hx46 hx52 hx53 hx61 hx62 hx63 hx65 hm12_0 hm12_1 hm13_0 hm13_1 hm14_0 hm14_1 hm15_0 hm15_1 hm42_0 hm42_1 (by omega) (by omega)) (cwV 1 hts g_EM_place_EM_manyOf_p rfl rfl rfl (by decide +kernel) ⟨Nat.le_of_ble_eq_true rfl, Nat.le_of_ble_eq_true rfl⟩) ⟨pu_bl, va_recv hK hP (ci := 9) (q0 := 0) rfl rfl, pu_in hP hK hD⟩ rfl rfl hl.1 rfl (lv_room (Nat.le_of_ble_eq_true rfl)) dX9_place_55 ⟨Nat.le_of_ble_eq_true rfl, Nat.le_of_ble_eq_true rfl⟩) hS (fun q _ h => pu_fr hS hA q h) (pu_fr hS hA) (fun r_14 u t H1 locs ht hvm hw hB hz1 hk1 hS => ?_)
          have hP := pu_keep hP hk1
          clear hk1 hz1 ht hvm
          generalize H1 = H at hP hS ⊢
          obtain ⟨u_15, hu_15, mu_15, iu_15⟩ := hw
          replace hsp := hsp.trans (slet_eq iu_15)
          rcases mI_get u_15 with ⟨zn_16, wn_16⟩ | ⟨n_16, zn_16, wn_16⟩
          · obtain rfl : r_14 = -1 := mu_15.trans wn_16
            replace hsp := hsp.trans (if_pos zn_16)
            refine lv_goto (tgt := 76) hx hb dX9_place_58 (by decide) ?_
            exact W.iret (v := (-1)) hx hb hr (fun t ht hW => ⟨⟨(-1), (), rfl, (congrArg Prod.fst (hsp.symm.trans hRR)), ⟨0, ⟨by rw [ht]; exact hP, va_K.moved hW.alike hK, hD⟩, (congrArg Prod.snd (hsp.symm.trans hRR))⟩⟩, hS.F ht⟩) hS.2.2 dX9_place_76
          · obtain rfl : r_14 = nI n_16 := mu_15.trans wn_16
            have hn_16 : n_16 ≤ 3 := by omega
            replace hsp := hsp.trans (if_neg (by omega))
            replace hsp := hsp.trans (slet_eq (by omega : n_16 = u_15 - 1))
            refine lv_goto (tgt := 76) hx hb dX9_place_58 (by decide) ?_
            exact W.iret (v := (nI n_16)) hx hb hr (fun t ht hW => ⟨⟨(nI n_16), (), rfl, (congrArg Prod.fst (hsp.symm.trans hRR)), ⟨0, ⟨by rw [ht]; exact hP, va_K.moved hW.alike hK, hD⟩, (congrArg Prod.snd (hsp.symm.trans hRR))⟩⟩, hS.F ht⟩) hS.2.2 dX9_place_76
      · have c_5 : n_4 = 0 := (nI_eq (a := n_4) (b := 0) (by omega) (Nat.le_of_ble_eq_true rfl)).mp c_5
        replace hsp := hsp.trans (if_pos c_5)
        refine lv_aload_n hx hb dX9_place_28 rfl (lv_at hl 0 rfl) ?_
        refine va_get (D := (dC, dI)) (ci := 9) (v := .ref (ad 3)) (C := RX9) (T := TX9) (N := 67) hx hb hts hiX9 hown hK hP 0 rfl rfl 3 (by decide) v_18 (fun _ h9 => h9) rfl dX9_place_29 ?_
        refine lv_bipush (v := 8) hx hb dX9_place_32 (by decide) ?_
        refine lv_aload_n hx hb dX9_place_34 rfl (lv_at hl 0 rfl) ?_
        refine va_get (D := (dC, dI)) (ci := 9) (v := .int (nI x16)) (C := RX9) (T := TX9) (N := 67) hx hb hts hiX9 hown hK hP 0 rfl rfl 16 (by decide) v_19 (fun _ h9 => h9) rfl dX9_place_35 ?_
        refine lv_imul hx hb dX9_place_38 ?_
        refine lv_topi (fun y_17 ey_17 => ?_)
        obtain rfl : y_17 = (nI (8 * x16)) := ey_17.trans (pk_mul 8 x16)
        refine lv_iload_n hx hb dX9_place_39 rfl (lv_at hl 1 rfl) ?_
        refine lv_iadd hx hb dX9_place_40 ?_
        refine lv_topi (fun y_18 ey_18 => ?_)
        obtain rfl : y_18 = (nI ((8 * x16) + n_2)) := ey_18.trans (nI_add (8 * x16) n_2)
        refine va_iald hx hb hK hP 3 2 rfl rfl (vp_in_nI (n := ((8 * x16) + n_2)) (by omega) (Nat.le_of_ble_eq_true rfl)) dX9_place_41 ?_
        refine lv_topi (fun y_19 ey_19 => ?_)
        have ey_19 : y_19 = f3 ((8 * x16) + n_2) := ey_19.trans (congrArg f3 (nI_clamp (n := ((8 * x16) + n_2)) (by first | omega | exact Nat.lt_trans (zx16 (by omega) (by omega) (by omega)) (Nat.le_of_ble_eq_true rfl) | exact Nat.lt_trans (zy16 (by omega) (by omega)) (Nat.le_of_ble_eq_true rfl) | exact Nat.lt_trans (zx25 (by omega) (by omega) (by omega)) (Nat.le_of_ble_eq_true rfl) | exact Nat.lt_trans (zy25 (by omega) (by omega)) (Nat.le_of_ble_eq_true rfl))))
        replace hsp := hsp.trans (slet_eq ey_19)
        refine lv_goto (tgt := 76) hx hb dX9_place_42 (by decide) ?_
        exact W.iret (v := y_19) hx hb hr (fun t ht hW => ⟨⟨y_19, (), rfl, (congrArg Prod.fst (hsp.symm.trans hRR)), ⟨0, ⟨by rw [ht]; exact hP, va_K.moved hW.alike hK, hD⟩, (congrArg Prod.snd (hsp.symm.trans hRR))⟩⟩, hS.F ht⟩) hS.2.2 dX9_place_76
    · replace hsp := hsp.trans (if_neg hi3)
      refine lv_if_ne (tgt := 24) hx hb dX9_place_19 (by decide) (fun z => absurd z (by decide)) (fun _ => ?_)
      refine lv_iconst (v := (-1)) hx hb dX9_place_22 (by decide) ?_
      exact W.iret (v := (-1)) hx hb hr (fun t ht hW => ⟨⟨(-1), (), rfl, (congrArg Prod.fst (hsp.symm.trans hRR)), ⟨0, ⟨by rw [ht]; exact hP, va_K.moved hW.alike hK, hD⟩, (congrArg Prod.snd (hsp.symm.trans hRR))⟩⟩, hS.F ht⟩) hS.2.2 dX9_place_23
  · replace hsp := hsp.trans (if_neg hn)
    refine lv_if_eq (tgt := 22) hx hb dX9_place_10 (by decide) (fun _ => ?_) (fun z => absurd z (by decide))
    refine lv_iconst (v := (-1)) hx hb dX9_place_22 (by decide) ?_
    exact W.iret (v := (-1)) hx hb hr (fun t ht hW => ⟨⟨(-1), (), rfl, (congrArg Prod.fst (hsp.symm.trans hRR)), ⟨0, ⟨by rw [ht]; exact hP, va_K.moved hW.alike hK, hD⟩, (congrArg Prod.snd (hsp.symm.trans hRR))⟩⟩, hS.F ht⟩) hS.2.2 dX9_place_23
