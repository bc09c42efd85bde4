theorem dX9_hasAll_0 : decode cX9_hasAll 0 = .ok (.iconst 0, 1) := by decide +kernel
theorem dX9_hasAll_1 : decode cX9_hasAll 1 = .ok (.istore 4, 2) := by decide +kernel
theorem dX9_hasAll_3 : decode cX9_hasAll 3 = .ok (.iload 4, 2) := by decide +kernel
theorem dX9_hasAll_5 : decode cX9_hasAll 5 = .ok (.aload_n 0, 1) := by decide +kernel
theorem dX9_hasAll_6 : decode cX9_hasAll 6 = .ok (.getfield 328, 3) := by decide +kernel
theorem dX9_hasAll_9 : decode cX9_hasAll 9 = .ok (.if_icmp .ge 80, 3) := by decide +kernel
theorem dX9_hasAll_12 : decode cX9_hasAll 12 = .ok (.iconst 0, 1) := by decide +kernel
theorem dX9_hasAll_13 : decode cX9_hasAll 13 = .ok (.istore 5, 2) := by decide +kernel
theorem dX9_hasAll_15 : decode cX9_hasAll 15 = .ok (.iload 5, 2) := by decide +kernel
theorem dX9_hasAll_17 : decode cX9_hasAll 17 = .ok (.aload_n 0, 1) := by decide +kernel
theorem dX9_hasAll_18 : decode cX9_hasAll 18 = .ok (.getfield 328, 3) := by decide +kernel
theorem dX9_hasAll_21 : decode cX9_hasAll 21 = .ok (.if_icmp .ge 62, 3) := by decide +kernel
theorem dX9_hasAll_24 : decode cX9_hasAll 24 = .ok (.aload_n 0, 1) := by decide +kernel
theorem dX9_hasAll_25 : decode cX9_hasAll 25 = .ok (.getfield 68, 3) := by decide +kernel
theorem dX9_hasAll_28 : decode cX9_hasAll 28 = .ok (.bipush 25, 2) := by decide +kernel
theorem dX9_hasAll_30 : decode cX9_hasAll 30 = .ok (.iload_n 1, 1) := by decide +kernel
theorem dX9_hasAll_31 : decode cX9_hasAll 31 = .ok (.imul, 1) := by decide +kernel
theorem dX9_hasAll_32 : decode cX9_hasAll 32 = .ok (.iconst 5, 1) := by decide +kernel
theorem dX9_hasAll_33 : decode cX9_hasAll 33 = .ok (.iload 4, 2) := by decide +kernel
theorem dX9_hasAll_35 : decode cX9_hasAll 35 = .ok (.imul, 1) := by decide +kernel
theorem dX9_hasAll_36 : decode cX9_hasAll 36 = .ok (.iadd, 1) := by decide +kernel
theorem dX9_hasAll_37 : decode cX9_hasAll 37 = .ok (.iload 5, 2) := by decide +kernel
theorem dX9_hasAll_39 : decode cX9_hasAll 39 = .ok (.iadd, 1) := by decide +kernel
theorem dX9_hasAll_40 : decode cX9_hasAll 40 = .ok (.iaload, 1) := by decide +kernel
theorem dX9_hasAll_41 : decode cX9_hasAll 41 = .ok (.istore 6, 2) := by decide +kernel
theorem dX9_hasAll_43 : decode cX9_hasAll 43 = .ok (.aload_n 2, 1) := by decide +kernel
theorem dX9_hasAll_44 : decode cX9_hasAll 44 = .ok (.iconst 5, 1) := by decide +kernel
theorem dX9_hasAll_45 : decode cX9_hasAll 45 = .ok (.iload 4, 2) := by decide +kernel
theorem dX9_hasAll_47 : decode cX9_hasAll 47 = .ok (.imul, 1) := by decide +kernel
theorem dX9_hasAll_48 : decode cX9_hasAll 48 = .ok (.iload 5, 2) := by decide +kernel
theorem dX9_hasAll_50 : decode cX9_hasAll 50 = .ok (.iadd, 1) := by decide +kernel
theorem dX9_hasAll_51 : decode cX9_hasAll 51 = .ok (.iaload, 1) := by decide +kernel
theorem dX9_hasAll_52 : decode cX9_hasAll 52 = .ok (.istore 7, 2) := by decide +kernel
theorem dX9_hasAll_54 : decode cX9_hasAll 54 = .ok (.iload_n 3, 1) := by decide +kernel
theorem dX9_hasAll_55 : decode cX9_hasAll 55 = .ok (.ifCond .eq 13, 3) := by decide +kernel
theorem dX9_hasAll_58 : decode cX9_hasAll 58 = .ok (.iload 6, 2) := by decide +kernel
theorem dX9_hasAll_60 : decode cX9_hasAll 60 = .ok (.iload 7, 2) := by decide +kernel
theorem dX9_hasAll_62 : decode cX9_hasAll 62 = .ok (.if_icmp .eq 15, 3) := by decide +kernel
theorem dX9_hasAll_65 : decode cX9_hasAll 65 = .ok (.goto 10, 3) := by decide +kernel
theorem dX9_hasAll_68 : decode cX9_hasAll 68 = .ok (.iload 7, 2) := by decide +kernel
theorem dX9_hasAll_70 : decode cX9_hasAll 70 = .ok (.iload 6, 2) := by decide +kernel
theorem dX9_hasAll_72 : decode cX9_hasAll 72 = .ok (.if_icmp .le 5, 3) := by decide +kernel
theorem dX9_hasAll_75 : decode cX9_hasAll 75 = .ok (.iconst 0, 1) := by decide +kernel
theorem dX9_hasAll_76 : decode cX9_hasAll 76 = .ok (.ireturn, 1) := by decide +kernel
theorem dX9_hasAll_77 : decode cX9_hasAll 77 = .ok (.iinc 5 1, 3) := by decide +kernel
theorem dX9_hasAll_80 : decode cX9_hasAll 80 = .ok (.goto (-65), 3) := by decide +kernel
theorem dX9_hasAll_83 : decode cX9_hasAll 83 = .ok (.iinc 4 1, 3) := by decide +kernel
theorem dX9_hasAll_86 : decode cX9_hasAll 86 = .ok (.goto (-83), 3) := by decide +kernel
theorem dX9_hasAll_89 : decode cX9_hasAll 89 = .ok (.iconst 1, 1) := by decide +kernel
theorem dX9_hasAll_90 : decode cX9_hasAll 90 = .ok (.ireturn, 1) := by decide +kernel
abbrev vs_EM_hasAll : List Cond := .code yX9_hasAll cX9_hasAll 8 (some .boolean) :: VM
noncomputable def sp_EM_hasAll_L1 (x46 : Nat) (f34 : Nat → Int32) (f35 : Nat → Int32) (a0 : Nat) (a2 : Nat) (g_2 : Nat) : (Nat) → (Nat) ⊕ ((Nat) ⊕ (Nat)) := fun g_11 => (if x46 ≤ g_11 then (Sum.inr (Sum.inl (g_2 + 1))) else (slet (f34 (((25 * a0) + (5 * g_2)) + g_11)) (fun y_23 => (slet (f35 ((5 * g_2) + g_11)) (fun y_26 => (if a2 = 0 then (if (y_26 : Int32) ≤ y_23 then (Sum.inl (g_11 + 1)) else (Sum.inr (Sum.inr 0))) else (if (y_23 : Int32) = y_26 then (Sum.inl (g_11 + 1)) else (Sum.inr (Sum.inr 0)))))))))
noncomputable def sp_EM_hasAll_L2 (x46 : Nat) (f34 : Nat → Int32) (f35 : Nat → Int32) (a0 : Nat) (a2 : Nat) : (Nat) → (Nat) ⊕ (Nat) := fun g_2 => (if x46 ≤ g_2 then (Sum.inr 1) else (itrv (α := Nat) (β := ((Nat) ⊕ (Nat))) (Sum.inr default) (sp_EM_hasAll_L1 x46 f34 f35 a0 a2 g_2) 0))
noncomputable def sp_EM_hasAll (x46 : Nat) (f34 : Nat → Int32) (f35 : Nat → Int32) (a0 : Nat) (a2 : Nat) : Nat := (itrv (α := Nat) (β := (Nat)) default (sp_EM_hasAll_L2 x46 f34 f35 a0 a2) 0)
set_option maxHeartbeats 4000000 in
set_option maxRecDepth 100000 in
theorem c_EM_hasAll (l : Launch) (dC : Nat → ClassId) (dI : Nat → Nat → Nat) (sz : Nat) (ad : Nat → Nat) (ck : Nat → ClassId) (x0 : Int32) (x16 : Nat) (x18 : Nat) (x19 : Nat) (x20 : Int32) (x21 : Nat) (x22 : Nat) (x23 : Int32) (x24 : Int32) (x25 : Int32) (x26 : Nat) (x27 : Int32) (x28 : Nat) (x29 : Nat) (x30 : Nat) (x33 : Nat) (x45 : Int32) (x46 : Nat) (x52 : Nat) (x53 : Nat) (x61 : Nat) (x62 : Nat) (x63 : Nat) (x65 : Nat) (x66 : Int32) (f1 : Nat → Int32) (f2 : Nat → Int32) (f3 : Nat → Int32) (q4 : Nat → Nat) (q5 : Nat → Nat) (q6 : Nat → Nat) (q7 : Nat → Nat) (f8 : Nat → Int32) (q9 : Nat → Nat) (q10 : Nat → Nat) (f11 : Nat → Int32) (m12_0 m12_1 : Nat) (m13_0 m13_1 : Nat) (m14_0 m14_1 : Nat) (m15_0 m15_1 : Nat) (f17 : Nat → Int32) (q31 : Nat → Nat) (f32 : Nat → Int32) (f34 : Nat → Int32) (f35 : Nat → Int32) (f36 : Nat → Int32) (f37 : Nat → Int32) (q38 : Nat → Nat) (f39 : Nat → Int32) (f40 : Nat → Int32) (f41 : Nat → Int32) (m42_0 m42_1 : Nat) (f43 : Nat → Int32) (f44 : Nat → Int32) (f47 : Nat → Int32) (f48 : Nat → Int32) (f49 : Nat → Int32) (f50 : Nat → Int32) (f51 : Nat → Int32) (q54 : Nat → Nat) (q55 : Nat → Nat) (q56 : Nat → Nat) (f57 : Nat → Int32) (q58 : Nat → Nat) (f59 : Nat → Int32) (f60 : Nat → Int32) (f64 : Nat → Int32) (a0 : Nat) (a2 : Nat) (hx16 : x16 ≤ 1) (hx18 : x18 ≤ 900) (hx19 : x19 ≤ 900) (hx21 : x21 ≤ 900) (hx22 : x22 ≤ 4) (hx26 : x26 ≤ 6) (hx28 : x28 ≤ 1) (hx29 : x29 ≤ 1) (hx30 : x30 ≤ 1) (hx33 : x33 ≤ 20) (hx46 : x46 ≤ 5) (hx52 : x52 ≤ 2400) (hx53 : x53 ≤ 119) (hx61 : x61 ≤ 119) (hx62 : x62 ≤ 2000) (hx63 : x63 ≤ 1) (hx65 : x65 ≤ 7) (hm12_0 : m12_0 ≤ 3) (hm12_1 : m12_1 ≤ 3) (hm13_0 : m13_0 ≤ 8) (hm13_1 : m13_1 ≤ 8) (hm14_0 : m14_0 ≤ 14) (hm14_1 : m14_1 ≤ 14) (hm15_0 : m15_0 ≤ 8) (hm15_1 : m15_1 ≤ 8) (hm42_0 : m42_0 ≤ 120) (hm42_1 : m42_1 ≤ 400) (ha0 : a0 ≤ 519) (ha2 : a2 ≤ 1) : Met l yX9_hasAll vs_EM_hasAll ({ frames := 0, cells := 0, slots := 0, locals := 0 }) (va_Pc [.ref (ad 0), .int (nI a0), .ref (ad 35), .int (nI a2)] (pu_B (dC, dI) (mo_w ad ck x0 (nI x16) (nI x18) (nI x19) x20 (nI x21) (nI x22) x23 x24 x25 (nI x26) x27 (nI x28) (nI x29) (nI x30) (nI x33) x45 (nI x46) (nI x52) (nI x53) (nI x61) (nI x62) (nI x63) (nI x65) x66 f1 f2 f3 (bN 3 q4) (bN 7 q5) (bN 7 q6) (bN 4 q7) f8 (bN 2 q9) (bH q10) f11 (b2 m12_0 m12_1) (b2 m13_0 m13_1) (b2 m14_0 m14_1) (b2m m15_0 m15_1) f17 (bA 159 q31) f32 f34 f35 f36 f37 (bN 7 q38) f39 f40 f41 (b2 m42_0 m42_1) f43 f44 f47 f48 f49 f50 f51 (bN 13 q54) (bN 120 q55) (bN 120 q56) f57 (bN 120 q58) f59 f60 f64) (mo_t ck) sz)) (va_Qi (fun (r : Int32) (_ : Unit) => ∃ v : Nat, v ≤ 1 ∧ r = nI v ∧ v = (sp_EM_hasAll x46 f34 f35 a0 a2)) (fun _ _ => True) (va_A [] sz)) 0 0 (va_A [] sz) := by
  refine Met.ofW (cc := cX9_hasAll) (maxL := 8) (ret := (some .boolean)) (by decide) rfl ?_
  intro p e s m args below meth c s₁ B hml hv
  obtain ⟨rfl, rfl, hP, hK, hD0⟩ := hv
  have hx := B.exec
  have hb := B.bytes
  have hr := B.returns
  have hts := atoms_spec (ws := vs_EM_hasAll) B.pre
  have v_1 := hts (.fieldLink RX9 328 "ClockReachModel" "side" "I") (List.mem_cons_of_mem _ vm_196)
  have v_2 := hts (.fieldLink RX9 68 "ClockReachModel" "zone" "[I") (List.mem_cons_of_mem _ vm_214)
  have hown : s.vm.findClass RX9 = some m.cls := findClass_of_methodNamed B.named
  have hlocks := B.notSynchronized
  have hiX9 : ∀ w ∈ wsX90, w ∈ vs_EM_hasAll := fun _ h => List.mem_cons_of_mem _ (vmi_L h)
  have hD := hD0
  have hA : ∀ q : Nat, s.heap.size ≤ q → va_A [] s.heap.size q := fun _ h => Or.inr h
  have hS : va_S (va_A [] s.heap.size) s.heap s.heap [] := va_S.rf
  have hl := lv_entry ([.ref (ad 0), .int (nI a0), .ref (ad 35), .int (nI a2)]) (n := 8) (Nat.le_of_ble_eq_true rfl)
  rw [lg_entry_eq]
  generalize (lg_sl ([.ref (ad 0), .int (nI a0), .ref (ad 35), .int (nI a2)]) ++ List.replicate (8 - (lg_sl ([.ref (ad 0), .int (nI a0), .ref (ad 35), .int (nI a2)])).length) Slot.unset).toArray = ls at hl ⊢
  have hl : lv_has ls 8 [(0, .ref (ad 0)), (1, .int (nI a0)), (2, .ref (ad 35)), (3, .int (nI a2))] := hl
  obtain ⟨RR, hRR⟩ : ∃ x, x = (sp_EM_hasAll x46 f34 f35 a0 a2) := ⟨_, rfl⟩
  have hsp := hRR
  refine lv_iconst (v := 0) hx hb dX9_hasAll_0 (by decide) ?_
  refine lv_istore (lv' := [(4, .int 0), (0, .ref (ad 0)), (1, .int (nI a0)), (2, .ref (ad 35)), (3, .int (nI a2))]) hx hb dX9_hasAll_1 hl (by decide) rfl (fun ls hl => ?_)
  obtain ⟨lf_4, dlf_4, hlf_4, hsp⟩ := itr_ex hsp
  delta sp_EM_hasAll_L2 at hlf_4
  refine pu_while (fun nn H locs ls => ∃ (g_2 : Nat), nn = 5 - g_2 ∧ g_2 ≤ 5 ∧ RR = itrv dlf_4 lf_4 g_2 ∧ va_P (dC, dI) vwCl (mo_w ad ck x0 (nI x16) (nI x18) (nI x19) x20 (nI x21) (nI x22) x23 x24 x25 (nI x26) x27 (nI x28) (nI x29) (nI x30) (nI x33) x45 (nI x46) (nI x52) (nI x53) (nI x61) (nI x62) (nI x63) (nI x65) x66 f1 f2 f3 (bN 3 q4) (bN 7 q5) (bN 7 q6) (bN 4 q7) f8 (bN 2 q9) (bH q10) f11 (b2 m12_0 m12_1) (b2 m13_0 m13_1) (b2 m14_0 m14_1) (b2m m15_0 m15_1) f17 (bA 159 q31) f32 f34 f35 f36 f37 (bN 7 q38) f39 f40 f41 (b2 m42_0 m42_1) f43 f44 f47 f48 f49 f50 f51 (bN 13 q54) (bN 120 q55) (bN 120 q56) f57 (bN 120 q58) f59 f60 f64) H ∧ va_D (fun _ => True) (mo_w ad ck x0 (nI x16) (nI x18) (nI x19) x20 (nI x21) (nI x22) x23 x24 x25 (nI x26) x27 (nI x28) (nI x29) (nI x30) (nI x33) x45 (nI x46) (nI x52) (nI x53) (nI x61) (nI x62) (nI x63) (nI x65) x66 f1 f2 f3 (bN 3 q4) (bN 7 q5) (bN 7 q6) (bN 4 q7) f8 (bN 2 q9) (bH q10) f11 (b2 m12_0 m12_1) (b2 m13_0 m13_1) (b2 m14_0 m14_1) (b2m m15_0 m15_1) f17 (bA 159 q31) f32 f34 f35 f36 f37 (bN 7 q38) f39 f40 f41 (b2 m42_0 m42_1) f43 f44 f47 f48 f49 f50 f51 (bN 13 q54) (bN 120 q55) (bN 120 q56) f57 (bN 120 q58) f59 f60 f64) ∧ va_S (va_A [] s.heap.size) s.heap H locs ∧ lv_has ls 8 [(0, .ref (ad 0)), (1, .int (nI a0)), (2, .ref (ad 35)), (3, .int (nI a2)), (4, .int (nI g_2))]) 3 ?_ _ _ _ _ ⟨0, rfl, (Nat.le_of_ble_eq_true rfl), hsp, hP, hD, hS, lv_sub hl [1, 2, 3, 4, 0] rfl⟩
  rintro nn ih_3 H locs ls ⟨g_2, rfl, hg_2, he_6, hP, hD, hS, hl⟩
  obtain ⟨S_5, hsp, hin_7, hout_8⟩ := itr_step hlf_4 he_6
  refine lv_iload hx hb dX9_hasAll_3 (lv_at hl 4 rfl) ?_
  refine lv_aload_n hx hb dX9_hasAll_5 rfl (lv_at hl 0 rfl) ?_
  refine va_get (D := (dC, dI)) (ci := 9) (v := .int (nI x46)) (C := RX9) (T := TX9) (N := 67) hx hb hts hiX9 hown hK hP 0 rfl rfl 46 (by decide) v_1 (fun _ h9 => h9) rfl dX9_hasAll_6 ?_
  refine lv_icmp_ge (tgt := 89) hx hb dX9_hasAll_9 (by decide) (fun c_9 => ?_) (fun c_9 => ?_)
  · have c_9 : x46 ≤ g_2 := (nI_leI (a := x46) (b := g_2) (Nat.lt_of_le_of_lt hx46 (Nat.le_of_ble_eq_true rfl)) (Nat.lt_of_le_of_lt hg_2 (Nat.le_of_ble_eq_true rfl))).mp c_9
    replace hsp := hsp.trans (if_pos c_9)
    have hsp := hout_8 _ hsp
    refine lv_iconst (v := 1) hx hb dX9_hasAll_89 (by decide) ?_
    exact W.zret (v := 1) (ty := .boolean) hx hb hr (rfl) (fun t ht hW => ⟨⟨1, (), rfl, ⟨1, (Nat.le_of_ble_eq_true rfl), rfl, (hsp.symm.trans hRR)⟩, trivial⟩, hS.F ht⟩) hS.2.2 dX9_hasAll_90
  · have c_9 : ¬ x46 ≤ g_2 := fun z => c_9 ((nI_leI (a := x46) (b := g_2) (Nat.lt_of_le_of_lt hx46 (Nat.le_of_ble_eq_true rfl)) (Nat.lt_of_le_of_lt hg_2 (Nat.le_of_ble_eq_true rfl))).mpr z)
    replace hsp := hsp.trans (if_neg c_9)
    refine lv_iconst (v := 0) hx hb dX9_hasAll_12 (by decide) ?_
    refine lv_istore (lv' := [(5, .int 0), (0, .ref (ad 0)), (1, .int (nI a0)), (2, .ref (ad 35)), (3, .int (nI a2)), (4, .int (nI g_2))]) hx hb dX9_hasAll_13 hl (by decide) rfl (fun ls hl => ?_)
    obtain ⟨lf_13, dlf_13, hlf_13, hsp⟩ := itr_ex hsp
    delta sp_EM_hasAll_L1 at hlf_13
    refine pu_while (fun nn H locs ls => ∃ (g_11 : Nat), nn = 5 - g_11 ∧ g_11 ≤ 5 ∧ S_5 = itrv dlf_13 lf_13 g_11 ∧ va_P (dC, dI) vwCl (mo_w ad ck x0 (nI x16) (nI x18) (nI x19) x20 (nI x21) (nI x22) x23 x24 x25 (nI x26) x27 (nI x28) (nI x29) (nI x30) (nI x33) x45 (nI x46) (nI x52) (nI x53) (nI x61) (nI x62) (nI x63) (nI x65) x66 f1 f2 f3 (bN 3 q4) (bN 7 q5) (bN 7 q6) (bN 4 q7) f8 (bN 2 q9) (bH q10) f11 (b2 m12_0 m12_1) (b2 m13_0 m13_1) (b2 m14_0 m14_1) (b2m m15_0 m15_1) f17 (bA 159 q31) f32 f34 f35 f36 f37 (bN 7 q38) f39 f40 f41 (b2 m42_0 m42_1) f43 f44 f47 f48 f49 f50 f51 (bN 13 q54) (bN 120 q55) (bN 120 q56) f57 (bN 120 q58) f59 f60 f64) H ∧ va_D (fun _ => True) (mo_w ad ck x0 (nI x16) (nI x18) (nI x19) x20 (nI x21) (nI x22) x23 x24 x25 (nI x26) x27 (nI x28) (nI x29) (nI x30) (nI x33) x45 (nI x46) (nI x52) (nI x53) (nI x61) (nI x62) (nI x63) (nI x65) x66 f1 f2 f3 (bN 3 q4) (bN 7 q5) (bN 7 q6) (bN 4 q7) f8 (bN 2 q9) (bH q10) f11 (b2 m12_0 m12_1) (b2 m13_0 m13_1) (b2 m14_0 m14_1) (b2m m15_0 m15_1) f17 (bA 159 q31) f32 f34 f35 f36 f37 (bN 7 q38) f39 f40 f41 (b2 m42_0 m42_1) f43 f44 f47 f48 f49 f50 f51 (bN 13 q54) (bN 120 q55) (bN 120 q56) f57 (bN 120 q58) f59 f60 f64) ∧ va_S (va_A [] s.heap.size) s.heap H locs ∧ lv_has ls 8 [(0, .ref (ad 0)), (1, .int (nI a0)), (2, .ref (ad 35)), (3, .int (nI a2)), (4, .int (nI g_2)), (5, .int (nI g_11))]) 15 ?_ _ _ _ _ ⟨0, rfl, (Nat.le_of_ble_eq_true rfl), hsp, hP, hD, hS, lv_sub hl [1, 2, 3, 4, 5, 0] rfl⟩
    rintro nn ih_12 H locs ls ⟨g_11, rfl, hg_11, he_15, hP, hD, hS, hl⟩
    obtain ⟨S_14, hsp, hin_16, hout_17⟩ := itr_step hlf_13 he_15
    refine lv_iload hx hb dX9_hasAll_15 (lv_at hl 5 rfl) ?_
    refine lv_aload_n hx hb dX9_hasAll_17 rfl (lv_at hl 0 rfl) ?_
    refine va_get (D := (dC, dI)) (ci := 9) (v := .int (nI x46)) (C := RX9) (T := TX9) (N := 67) hx hb hts hiX9 hown hK hP 0 rfl rfl 46 (by decide) v_1 (fun _ h9 => h9) rfl dX9_hasAll_18 ?_
    refine lv_icmp_ge (tgt := 83) hx hb dX9_hasAll_21 (by decide) (fun c_18 => ?_) (fun c_18 => ?_)
    · have c_18 : x46 ≤ g_11 := (nI_leI (a := x46) (b := g_11) (Nat.lt_of_le_of_lt hx46 (Nat.le_of_ble_eq_true rfl)) (Nat.lt_of_le_of_lt hg_11 (Nat.le_of_ble_eq_true rfl))).mp c_18
      replace hsp := hsp.trans (if_pos c_18)
      have hsp := hout_17 _ hsp
      refine lv_iinc (v := (nI (g_2 + 1))) (lv' := [(4, .int (nI (g_2 + 1))), (0, .ref (ad 0)), (1, .int (nI a0)), (2, .ref (ad 35)), (3, .int (nI a2)), (5, .int (nI g_11))]) hx hb dX9_hasAll_83 hl (k := 4) rfl (nI_1 _) (by decide) rfl (fun ls hl => ?_)
      refine lv_goto (tgt := 3) hx hb dX9_hasAll_86 (by decide) ?_
      exact ih_3 (5 - (g_2 + 1)) (by omega) _ _ _ ⟨(g_2 + 1), rfl, (by omega), hin_7 _ hsp, hP, hD, hS, lv_sub hl [1, 2, 3, 4, 0] rfl⟩
    · have c_18 : ¬ x46 ≤ g_11 := fun z => c_18 ((nI_leI (a := x46) (b := g_11) (Nat.lt_of_le_of_lt hx46 (Nat.le_of_ble_eq_true rfl)) (Nat.lt_of_le_of_lt hg_11 (Nat.le_of_ble_eq_true rfl))).mpr z)
      replace hsp := hsp.trans (if_neg c_18)
      refine lv_aload_n hx hb dX9_hasAll_24 rfl (lv_at hl 0 rfl) ?_
      refine va_get (D := (dC, dI)) (ci := 9) (v := .ref (ad 34)) (C := RX9) (T := TX9) (N := 67) hx hb hts hiX9 hown hK hP 0 rfl rfl 34 (by decide) v_2 (fun _ h9 => h9) rfl dX9_hasAll_25 ?_
      refine lv_bipush (v := 25) hx hb dX9_hasAll_28 (by decide) ?_
      refine lv_iload_n hx hb dX9_hasAll_30 rfl (lv_at hl 1 rfl) ?_
      refine lv_imul hx hb dX9_hasAll_31 ?_
      refine lv_topi (fun y_19 ey_19 => ?_)
      obtain rfl : y_19 = (nI (25 * a0)) := ey_19.trans (pk_mul 25 a0)
      refine lv_iconst (v := 5) hx hb dX9_hasAll_32 (by decide) ?_
      refine lv_iload hx hb dX9_hasAll_33 (lv_at hl 4 rfl) ?_
      refine lv_imul hx hb dX9_hasAll_35 ?_
      refine lv_topi (fun y_20 ey_20 => ?_)
      obtain rfl : y_20 = (nI (5 * g_2)) := ey_20.trans (pk_mul 5 g_2)
      refine lv_iadd hx hb dX9_hasAll_36 ?_
      refine lv_topi (fun y_21 ey_21 => ?_)
      obtain rfl : y_21 = (nI ((25 * a0) + (5 * g_2))) := ey_21.trans (nI_add (25 * a0) (5 * g_2))
      refine lv_iload hx hb dX9_hasAll_37 (lv_at hl 5 rfl) ?_
      refine lv_iadd hx hb dX9_hasAll_39 ?_
      refine lv_topi (fun y_22 ey_22 => ?_)
      obtain rfl : y_22 = (nI (((25 * a0) + (5 * g_2)) + g_11)) := ey_22.trans (nI_add ((25 * a0) + (5 * g_2)) g_11)
      refine va_iald hx hb hK hP 19 18 rfl rfl (vp_in_nI (n := (((25 * a0) + (5 * g_2)) + g_11)) (by omega) (Nat.le_of_ble_eq_true rfl)) dX9_hasAll_40 ?_
      refine lv_topi (fun y_23 ey_23 => ?_)
      have ey_23 : y_23 = f34 (((25 * a0) + (5 * g_2)) + g_11) := ey_23.trans (congrArg f34 (nI_clamp (n := (((25 * a0) + (5 * g_2)) + g_11)) (by first | omega | exact Nat.lt_trans (zx16 (by omega) (by omega) (by omega)) (Nat.le_of_ble_eq_true rfl) | exact Nat.lt_trans (zy16 (by omega) (by omega)) (Nat.le_of_ble_eq_true rfl) | exact Nat.lt_trans (zx25 (by omega) (by omega) (by omega)) (Nat.le_of_ble_eq_true rfl) | exact Nat.lt_trans (zy25 (by omega) (by omega)) (Nat.le_of_ble_eq_true rfl))))
      replace hsp := hsp.trans (slet_eq ey_23)
      refine lv_istore (lv' := [(6, .int y_23), (0, .ref (ad 0)), (1, .int (nI a0)), (2, .ref (ad 35)), (3, .int (nI a2)), (4, .int (nI g_2)), (5, .int (nI g_11))]) hx hb dX9_hasAll_41 hl (by decide) rfl (fun ls hl => ?_)
      refine lv_aload_n hx hb dX9_hasAll_43 rfl (lv_at hl 3 rfl) ?_
      refine lv_iconst (v := 5) hx hb dX9_hasAll_44 (by decide) ?_
      refine lv_iload hx hb dX9_hasAll_45 (lv_at hl 5 rfl) ?_
      refine lv_imul hx hb dX9_hasAll_47 ?_
      refine lv_topi (fun y_24 ey_24 => ?_)
      obtain rfl : y_24 = (nI (5 * g_2)) := ey_24.trans (pk_mul 5 g_2)
      refine lv_iload hx hb dX9_hasAll_48 (lv_at hl 6 rfl) ?_
      refine lv_iadd hx hb dX9_hasAll_50 ?_
      refine lv_topi (fun y_25 ey_25 => ?_)
      obtain rfl : y_25 = (nI ((5 * g_2) + g_11)) := ey_25.trans (nI_add (5 * g_2) g_11)
      refine va_iald hx hb hK hP 20 19 rfl rfl (vp_in_nI (n := ((5 * g_2) + g_11)) (by omega) (Nat.le_of_ble_eq_true rfl)) dX9_hasAll_51 ?_
      refine lv_topi (fun y_26 ey_26 => ?_)
      have ey_26 : y_26 = f35 ((5 * g_2) + g_11) := ey_26.trans (congrArg f35 (nI_clamp (n := ((5 * g_2) + g_11)) (by first | omega | exact Nat.lt_trans (zx16 (by omega) (by omega) (by omega)) (Nat.le_of_ble_eq_true rfl) | exact Nat.lt_trans (zy16 (by omega) (by omega)) (Nat.le_of_ble_eq_true rfl) | exact Nat.lt_trans (zx25 (by omega) (by omega) (by omega)) (Nat.le_of_ble_eq_true rfl) | exact Nat.lt_trans (zy25 (by omega) (by omega)) (Nat.le_of_ble_eq_true rfl))))
      replace hsp := hsp.trans (slet_eq ey_26)
      refine lv_istore (lv' := [(7, .int y_26), (6, .int y_23), (0, .ref (ad 0)), (1, .int (nI a0)), (2, .ref (ad 35)), (3, .int (nI a2)), (4, .int (nI g_2)), (5, .int (nI g_11))]) hx hb dX9_hasAll_52 hl (by decide) rfl (fun ls hl => ?_)
      refine lv_iload_n hx hb dX9_hasAll_54 rfl (lv_at hl 5 rfl) ?_
      refine lv_if_eq (tgt := 68) hx hb dX9_hasAll_55 (by decide) (fun c_27 => ?_) (fun c_27 => ?_)
      · have c_27 : a2 = 0 := (nI_eq (a := a2) (b := 0) (Nat.lt_of_le_of_lt ha2 (Nat.le_of_ble_eq_true rfl)) (Nat.le_of_ble_eq_true rfl)).mp c_27
        replace hsp := hsp.trans (if_pos c_27)
        refine lv_iload hx hb dX9_hasAll_68 (lv_at hl 0 rfl) ?_
        refine lv_iload hx hb dX9_hasAll_70 (lv_at hl 1 rfl) ?_
        refine lv_icmp_le (tgt := 77) hx hb dX9_hasAll_72 (by decide) (fun c_28 => ?_) (fun c_28 => ?_)
        · have hcc_28 := c_28
          replace hsp := hsp.trans (if_pos c_28)
          refine lv_iinc (v := (nI (g_11 + 1))) (lv' := [(5, .int (nI (g_11 + 1))), (7, .int y_26), (6, .int y_23), (0, .ref (ad 0)), (1, .int (nI a0)), (2, .ref (ad 35)), (3, .int (nI a2)), (4, .int (nI g_2))]) hx hb dX9_hasAll_77 hl (k := 7) rfl (nI_1 _) (by decide) rfl (fun ls hl => ?_)
          refine lv_goto (tgt := 15) hx hb dX9_hasAll_80 (by decide) ?_
          exact ih_12 (5 - (g_11 + 1)) (by omega) _ _ _ ⟨(g_11 + 1), rfl, (by omega), hin_16 _ hsp, hP, hD, hS, lv_sub hl [3, 4, 5, 6, 7, 0] rfl⟩
        · have hcc_28 := c_28
          replace hsp := hsp.trans (if_neg c_28)
          have hsp := hout_17 _ hsp
          have hsp := hout_8 _ hsp
          refine lv_iconst (v := 0) hx hb dX9_hasAll_75 (by decide) ?_
          exact W.zret (v := 0) (ty := .boolean) hx hb hr (rfl) (fun t ht hW => ⟨⟨0, (), rfl, ⟨0, (Nat.le_of_ble_eq_true rfl), rfl, (hsp.symm.trans hRR)⟩, trivial⟩, hS.F ht⟩) hS.2.2 dX9_hasAll_76
      · have c_27 : ¬ a2 = 0 := fun z => c_27 ((nI_eq (a := a2) (b := 0) (Nat.lt_of_le_of_lt ha2 (Nat.le_of_ble_eq_true rfl)) (Nat.le_of_ble_eq_true rfl)).mpr z)
        replace hsp := hsp.trans (if_neg c_27)
        refine lv_iload hx hb dX9_hasAll_58 (lv_at hl 1 rfl) ?_
        refine lv_iload hx hb dX9_hasAll_60 (lv_at hl 0 rfl) ?_
        refine lv_icmp_eq (tgt := 77) hx hb dX9_hasAll_62 (by decide) (fun c_29 => ?_) (fun c_29 => ?_)
        · have hcc_29 := c_29
          replace hsp := hsp.trans (if_pos c_29)
          refine lv_iinc (v := (nI (g_11 + 1))) (lv' := [(5, .int (nI (g_11 + 1))), (7, .int y_26), (6, .int y_23), (0, .ref (ad 0)), (1, .int (nI a0)), (2, .ref (ad 35)), (3, .int (nI a2)), (4, .int (nI g_2))]) hx hb dX9_hasAll_77 hl (k := 7) rfl (nI_1 _) (by decide) rfl (fun ls hl => ?_)
          refine lv_goto (tgt := 15) hx hb dX9_hasAll_80 (by decide) ?_
          exact ih_12 (5 - (g_11 + 1)) (by omega) _ _ _ ⟨(g_11 + 1), rfl, (by omega), hin_16 _ hsp, hP, hD, hS, lv_sub hl [3, 4, 5, 6, 7, 0] rfl⟩
        · have hcc_29 := c_29
          replace hsp := hsp.trans (if_neg c_29)
          have hsp := hout_17 _ hsp
          have hsp := hout_8 _ hsp
          refine lv_goto (tgt := 75) hx hb dX9_hasAll_65 (by decide) ?_
          refine lv_iconst (v := 0) hx hb dX9_hasAll_75 (by decide) ?_
          exact W.zret (v := 0) (ty := .boolean) hx hb hr (rfl) (fun t ht hW => ⟨⟨0, (), rfl, ⟨0, (Nat.le_of_ble_eq_true rfl), rfl, (hsp.symm.trans hRR)⟩, trivial⟩, hS.F ht⟩) hS.2.2 dX9_hasAll_76
