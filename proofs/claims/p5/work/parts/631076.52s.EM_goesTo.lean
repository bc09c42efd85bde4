theorem dX9_goesTo_0 : decode cX9_goesTo 0 = .ok (.iconst 0, 1) := by decide +kernel
theorem dX9_goesTo_1 : decode cX9_goesTo 1 = .ok (.istore_n 2, 1) := by decide +kernel
theorem dX9_goesTo_2 : decode cX9_goesTo 2 = .ok (.iconst 0, 1) := by decide +kernel
theorem dX9_goesTo_3 : decode cX9_goesTo 3 = .ok (.istore_n 3, 1) := by decide +kernel
theorem dX9_goesTo_4 : decode cX9_goesTo 4 = .ok (.iload_n 3, 1) := by decide +kernel
theorem dX9_goesTo_5 : decode cX9_goesTo 5 = .ok (.bipush 8, 2) := by decide +kernel
theorem dX9_goesTo_7 : decode cX9_goesTo 7 = .ok (.if_icmp .gt 108, 3) := by decide +kernel
theorem dX9_goesTo_10 : decode cX9_goesTo 10 = .ok (.iconst 0, 1) := by decide +kernel
theorem dX9_goesTo_11 : decode cX9_goesTo 11 = .ok (.istore 4, 2) := by decide +kernel
theorem dX9_goesTo_13 : decode cX9_goesTo 13 = .ok (.iload 4, 2) := by decide +kernel
theorem dX9_goesTo_15 : decode cX9_goesTo 15 = .ok (.aload_n 0, 1) := by decide +kernel
theorem dX9_goesTo_16 : decode cX9_goesTo 16 = .ok (.getfield 49, 3) := by decide +kernel
theorem dX9_goesTo_19 : decode cX9_goesTo 19 = .ok (.aload_n 0, 1) := by decide +kernel
theorem dX9_goesTo_20 : decode cX9_goesTo 20 = .ok (.getfield 258, 3) := by decide +kernel
theorem dX9_goesTo_23 : decode cX9_goesTo 23 = .ok (.iaload, 1) := by decide +kernel
theorem dX9_goesTo_24 : decode cX9_goesTo 24 = .ok (.if_icmp .ge 85, 3) := by decide +kernel
theorem dX9_goesTo_27 : decode cX9_goesTo 27 = .ok (.aload_n 0, 1) := by decide +kernel
theorem dX9_goesTo_28 : decode cX9_goesTo 28 = .ok (.aload_n 0, 1) := by decide +kernel
theorem dX9_goesTo_29 : decode cX9_goesTo 29 = .ok (.iload 4, 2) := by decide +kernel
theorem dX9_goesTo_31 : decode cX9_goesTo 31 = .ok (.invokevirtual 289, 3) := by decide +kernel
theorem dX9_goesTo_34 : decode cX9_goesTo 34 = .ok (.invokevirtual 324, 3) := by decide +kernel
theorem dX9_goesTo_37 : decode cX9_goesTo 37 = .ok (.ifCond .eq 43, 3) := by decide +kernel
theorem dX9_goesTo_40 : decode cX9_goesTo 40 = .ok (.aload_n 0, 1) := by decide +kernel
theorem dX9_goesTo_41 : decode cX9_goesTo 41 = .ok (.aload_n 0, 1) := by decide +kernel
theorem dX9_goesTo_42 : decode cX9_goesTo 42 = .ok (.iload 4, 2) := by decide +kernel
theorem dX9_goesTo_44 : decode cX9_goesTo 44 = .ok (.invokevirtual 292, 3) := by decide +kernel
theorem dX9_goesTo_47 : decode cX9_goesTo 47 = .ok (.invokevirtual 324, 3) := by decide +kernel
theorem dX9_goesTo_50 : decode cX9_goesTo 50 = .ok (.ifCond .eq 30, 3) := by decide +kernel
theorem dX9_goesTo_53 : decode cX9_goesTo 53 = .ok (.aload_n 0, 1) := by decide +kernel
theorem dX9_goesTo_54 : decode cX9_goesTo 54 = .ok (.iload 4, 2) := by decide +kernel
theorem dX9_goesTo_56 : decode cX9_goesTo 56 = .ok (.invokevirtual 289, 3) := by decide +kernel
theorem dX9_goesTo_59 : decode cX9_goesTo 59 = .ok (.iload_n 1, 1) := by decide +kernel
theorem dX9_goesTo_60 : decode cX9_goesTo 60 = .ok (.if_icmp .eq 16, 3) := by decide +kernel
theorem dX9_goesTo_63 : decode cX9_goesTo 63 = .ok (.iload_n 2, 1) := by decide +kernel
theorem dX9_goesTo_64 : decode cX9_goesTo 64 = .ok (.aload_n 0, 1) := by decide +kernel
theorem dX9_goesTo_65 : decode cX9_goesTo 65 = .ok (.iload 4, 2) := by decide +kernel
theorem dX9_goesTo_67 : decode cX9_goesTo 67 = .ok (.invokevirtual 289, 3) := by decide +kernel
theorem dX9_goesTo_70 : decode cX9_goesTo 70 = .ok (.invokestatic 248, 3) := by decide +kernel
theorem dX9_goesTo_73 : decode cX9_goesTo 73 = .ok (.ifCond .eq 7, 3) := by decide +kernel
theorem dX9_goesTo_76 : decode cX9_goesTo 76 = .ok (.iconst 1, 1) := by decide +kernel
theorem dX9_goesTo_77 : decode cX9_goesTo 77 = .ok (.goto 4, 3) := by decide +kernel
theorem dX9_goesTo_80 : decode cX9_goesTo 80 = .ok (.iconst 0, 1) := by decide +kernel
theorem dX9_goesTo_81 : decode cX9_goesTo 81 = .ok (.istore 5, 2) := by decide +kernel
theorem dX9_goesTo_83 : decode cX9_goesTo 83 = .ok (.iload_n 2, 1) := by decide +kernel
theorem dX9_goesTo_84 : decode cX9_goesTo 84 = .ok (.iload 5, 2) := by decide +kernel
theorem dX9_goesTo_86 : decode cX9_goesTo 86 = .ok (.ifCond .eq 14, 3) := by decide +kernel
theorem dX9_goesTo_89 : decode cX9_goesTo 89 = .ok (.iconst 1, 1) := by decide +kernel
theorem dX9_goesTo_90 : decode cX9_goesTo 90 = .ok (.aload_n 0, 1) := by decide +kernel
theorem dX9_goesTo_91 : decode cX9_goesTo 91 = .ok (.iload 4, 2) := by decide +kernel
theorem dX9_goesTo_93 : decode cX9_goesTo 93 = .ok (.invokevirtual 292, 3) := by decide +kernel
theorem dX9_goesTo_96 : decode cX9_goesTo 96 = .ok (.ishl, 1) := by decide +kernel
theorem dX9_goesTo_97 : decode cX9_goesTo 97 = .ok (.goto 4, 3) := by decide +kernel
theorem dX9_goesTo_100 : decode cX9_goesTo 100 = .ok (.iconst 0, 1) := by decide +kernel
theorem dX9_goesTo_101 : decode cX9_goesTo 101 = .ok (.ior, 1) := by decide +kernel
theorem dX9_goesTo_102 : decode cX9_goesTo 102 = .ok (.istore_n 2, 1) := by decide +kernel
theorem dX9_goesTo_103 : decode cX9_goesTo 103 = .ok (.iinc 4 1, 3) := by decide +kernel
theorem dX9_goesTo_106 : decode cX9_goesTo 106 = .ok (.goto (-93), 3) := by decide +kernel
theorem dX9_goesTo_109 : decode cX9_goesTo 109 = .ok (.iinc 3 1, 3) := by decide +kernel
theorem dX9_goesTo_112 : decode cX9_goesTo 112 = .ok (.goto (-108), 3) := by decide +kernel
theorem dX9_goesTo_115 : decode cX9_goesTo 115 = .ok (.iload_n 2, 1) := by decide +kernel
theorem dX9_goesTo_116 : decode cX9_goesTo 116 = .ok (.ireturn, 1) := by decide +kernel
abbrev vs_EM_goesTo : List Cond := .code yX9_goesTo cX9_goesTo 6 (some .int) :: VM
theorem g_EM_goesTo_EM_outOf : GoodIn vs_EM_goesTo (wsV RX9 289 RX9 yX9_outOf vs_EM_outOf) := gm_V vm_41 vm_42 vm_43 vm_19 vm_44
theorem g_EM_goesTo_EM_isUrgent : GoodIn vs_EM_goesTo (wsV RX9 324 RX9 yX9_isUrgent vs_EM_isUrgent) := gm_V vm_189 vm_190 vm_191 vm_19 vm_192
theorem g_EM_goesTo_EM_into : GoodIn vs_EM_goesTo (wsV RX9 292 RX9 yX9_into vs_EM_into) := gm_V vm_37 vm_38 vm_39 vm_19 vm_40
theorem g_EM_goesTo_EM_isOf : GoodIn vs_EM_goesTo (va_wsS RX9 248 yX9_isOf vs_EM_isOf) := gm_S vm_114 vm_115 vm_19 vm_116
noncomputable def sp_EM_goesTo_L1 (x16 : Nat) (f3 : Nat → Int32) (q5 : Nat → Nat) (q6 : Nat → Nat) (m14_0 : Nat) (m14_1 : Nat) (p0 : Int32) (g_4 : Nat) : (Int32 × Nat) → (Int32 × Nat) ⊕ ((Int32 × Nat) ⊕ (Int32)) := fun (g_14, g_15) => (slet (if x16 = 0 then m14_0 else m14_1) (fun u_23 => (if u_23 ≤ g_15 then (Sum.inr (Sum.inl (g_14, (g_4 + 1)))) else (slet (sp_EM_outOf x16 q5 g_15) (fun u_26 => (slet (sp_EM_isUrgent x16 f3 u_26) (fun u_28 => (slet (α := Nat) (if u_28 = 0 then 0 else (slet (sp_EM_into x16 q6 g_15) (fun u_44 => (slet (sp_EM_isUrgent x16 f3 u_44) (fun u_46 => (if u_46 = 0 then 0 else (slet (sp_EM_outOf x16 q5 g_15) (fun u_49 => (if ((nI u_49) : Int32) = p0 then 1 else (slet (sp_EM_outOf x16 q5 g_15) (fun u_52 => (slet (sp_EM_isOf g_14 (nI u_52)) (fun u_54 => (if u_54 = 0 then 0 else 1)))))))))))))) (fun g_29 => (slet (α := Int32) (if g_29 = 0 then 0 else (slet (sp_EM_into x16 q6 g_15) (fun u_40 => (slet ((1 : Int32) <<< (((nI u_40) : Int32) &&& 31)) (fun y_41 => y_41))))) (fun g_33 => (slet ((g_14 : Int32) ||| (g_33 : Int32)) (fun y_37 => (Sum.inl (y_37, (g_15 + 1))))))))))))))))
noncomputable def sp_EM_goesTo_L2 (x16 : Nat) (f3 : Nat → Int32) (q5 : Nat → Nat) (q6 : Nat → Nat) (m14_0 : Nat) (m14_1 : Nat) (p0 : Int32) : (Int32 × Nat) → (Int32 × Nat) ⊕ (Int32) := fun (g_3, g_4) => (if 8 < g_4 then (Sum.inr g_3) else (itrv (α := Int32 × Nat) (β := ((Int32 × Nat) ⊕ (Int32))) (Sum.inr default) (sp_EM_goesTo_L1 x16 f3 q5 q6 m14_0 m14_1 p0 g_4) (g_3, 0)))
noncomputable def sp_EM_goesTo (x16 : Nat) (f3 : Nat → Int32) (q5 : Nat → Nat) (q6 : Nat → Nat) (m14_0 : Nat) (m14_1 : Nat) (p0 : Int32) : Int32 := (itrv (α := Int32 × Nat) (β := (Int32)) default (sp_EM_goesTo_L2 x16 f3 q5 q6 m14_0 m14_1 p0) (0, 0))
set_option maxHeartbeats 4000000 in
set_option maxRecDepth 100000 in
theorem c_EM_goesTo (l : Launch) (dC : Nat → ClassId) (dI : Nat → Nat → Nat) (sz : Nat) (ad : Nat → Nat) (ck : Nat → ClassId) (x0 : Int32) (x16 : Nat) (x18 : Nat) (x19 : Nat) (x20 : Int32) (x21 : Nat) (x22 : Nat) (x23 : Int32) (x24 : Int32) (x25 : Int32) (x26 : Nat) (x27 : Int32) (x28 : Nat) (x29 : Nat) (x30 : Nat) (x33 : Nat) (x45 : Int32) (x46 : Nat) (x52 : Nat) (x53 : Nat) (x61 : Nat) (x62 : Nat) (x63 : Nat) (x65 : Nat) (x66 : Int32) (f1 : Nat → Int32) (f2 : Nat → Int32) (f3 : Nat → Int32) (q4 : Nat → Nat) (q5 : Nat → Nat) (q6 : Nat → Nat) (q7 : Nat → Nat) (f8 : Nat → Int32) (q9 : Nat → Nat) (q10 : Nat → Nat) (f11 : Nat → Int32) (m12_0 m12_1 : Nat) (m13_0 m13_1 : Nat) (m14_0 m14_1 : Nat) (m15_0 m15_1 : Nat) (f17 : Nat → Int32) (q31 : Nat → Nat) (f32 : Nat → Int32) (f34 : Nat → Int32) (f35 : Nat → Int32) (f36 : Nat → Int32) (f37 : Nat → Int32) (q38 : Nat → Nat) (f39 : Nat → Int32) (f40 : Nat → Int32) (f41 : Nat → Int32) (m42_0 m42_1 : Nat) (f43 : Nat → Int32) (f44 : Nat → Int32) (f47 : Nat → Int32) (f48 : Nat → Int32) (f49 : Nat → Int32) (f50 : Nat → Int32) (f51 : Nat → Int32) (q54 : Nat → Nat) (q55 : Nat → Nat) (q56 : Nat → Nat) (f57 : Nat → Int32) (q58 : Nat → Nat) (f59 : Nat → Int32) (f60 : Nat → Int32) (f64 : Nat → Int32) (p0 : Int32) (hx16 : x16 ≤ 1) (hx18 : x18 ≤ 900) (hx19 : x19 ≤ 900) (hx21 : x21 ≤ 900) (hx22 : x22 ≤ 4) (hx26 : x26 ≤ 6) (hx28 : x28 ≤ 1) (hx29 : x29 ≤ 1) (hx30 : x30 ≤ 1) (hx33 : x33 ≤ 20) (hx46 : x46 ≤ 5) (hx52 : x52 ≤ 2400) (hx53 : x53 ≤ 119) (hx61 : x61 ≤ 119) (hx62 : x62 ≤ 2000) (hx63 : x63 ≤ 1) (hx65 : x65 ≤ 7) (hm12_0 : m12_0 ≤ 3) (hm12_1 : m12_1 ≤ 3) (hm13_0 : m13_0 ≤ 8) (hm13_1 : m13_1 ≤ 8) (hm14_0 : m14_0 ≤ 14) (hm14_1 : m14_1 ≤ 14) (hm15_0 : m15_0 ≤ 8) (hm15_1 : m15_1 ≤ 8) (hm42_0 : m42_0 ≤ 120) (hm42_1 : m42_1 ≤ 400) : Met l yX9_goesTo vs_EM_goesTo ({ frames := 1, cells := 0, slots := 0, locals := 21 }) (va_Pc [.ref (ad 0), .int p0] (pu_B (dC, dI) (mo_w ad ck x0 (nI x16) (nI x18) (nI x19) x20 (nI x21) (nI x22) x23 x24 x25 (nI x26) x27 (nI x28) (nI x29) (nI x30) (nI x33) x45 (nI x46) (nI x52) (nI x53) (nI x61) (nI x62) (nI x63) (nI x65) x66 f1 f2 f3 (bN 3 q4) (bN 7 q5) (bN 7 q6) (bN 4 q7) f8 (bN 2 q9) (bH q10) f11 (b2 m12_0 m12_1) (b2 m13_0 m13_1) (b2 m14_0 m14_1) (b2m m15_0 m15_1) f17 (bA 159 q31) f32 f34 f35 f36 f37 (bN 7 q38) f39 f40 f41 (b2 m42_0 m42_1) f43 f44 f47 f48 f49 f50 f51 (bN 13 q54) (bN 120 q55) (bN 120 q56) f57 (bN 120 q58) f59 f60 f64) (mo_t ck) sz)) (va_Qi (fun (r : Int32) (_ : Unit) => r = (sp_EM_goesTo x16 f3 q5 q6 m14_0 m14_1 p0)) (fun _ _ => True) (va_A [] sz)) 0 0 (va_A [] sz) := by
  refine Met.ofW (cc := cX9_goesTo) (maxL := 6) (ret := (some .int)) (by decide) rfl ?_
  intro p e s m args below meth c s₁ B hml hv
  obtain ⟨rfl, rfl, hP, hK, hD0⟩ := hv
  have hx := B.exec
  have hb := B.bytes
  have hr := B.returns
  have hts := atoms_spec (ws := vs_EM_goesTo) B.pre
  have v_1 := hts (.fieldLink RX9 49 "ClockReachModel" "edgeMany" "[I") (List.mem_cons_of_mem _ vm_45)
  have v_2 := hts (.fieldLink RX9 258 "ClockReachModel" "bank" "I") (List.mem_cons_of_mem _ vm_4)
  have hown : s.vm.findClass RX9 = some m.cls := findClass_of_methodNamed B.named
  have hlocks := B.notSynchronized
  have hiX9 : ∀ w ∈ wsX90, w ∈ vs_EM_goesTo := fun _ h => List.mem_cons_of_mem _ (vmi_L h)
  have hD := hD0
  have hA : ∀ q : Nat, s.heap.size ≤ q → va_A [] s.heap.size q := fun _ h => Or.inr h
  have hS : va_S (va_A [] s.heap.size) s.heap s.heap [] := va_S.rf
  have hl := lv_entry ([.ref (ad 0), .int p0]) (n := 6) (Nat.le_of_ble_eq_true rfl)
  rw [lg_entry_eq]
  generalize (lg_sl ([.ref (ad 0), .int p0]) ++ List.replicate (6 - (lg_sl ([.ref (ad 0), .int p0])).length) Slot.unset).toArray = ls at hl ⊢
  have hl : lv_has ls 6 [(0, .ref (ad 0)), (1, .int p0)] := hl
  obtain ⟨RR, hRR⟩ : ∃ x, x = (sp_EM_goesTo x16 f3 q5 q6 m14_0 m14_1 p0) := ⟨_, rfl⟩
  have hsp := hRR
  refine lv_iconst (v := 0) hx hb dX9_goesTo_0 (by decide) ?_
  refine lv_istore_n (lv' := [(2, .int 0), (0, .ref (ad 0)), (1, .int p0)]) hx hb dX9_goesTo_1 rfl hl (by decide) rfl (fun ls hl => ?_)
  refine lv_iconst (v := 0) hx hb dX9_goesTo_2 (by decide) ?_
  refine lv_istore_n (lv' := [(3, .int 0), (2, .int 0), (0, .ref (ad 0)), (1, .int p0)]) hx hb dX9_goesTo_3 rfl hl (by decide) rfl (fun ls hl => ?_)
  obtain ⟨lf_6, dlf_6, hlf_6, hsp⟩ := itr_ex hsp
  delta sp_EM_goesTo_L2 at hlf_6
  refine pu_while (fun nn H locs ls => ∃ (g_3 : Int32) (g_4 : Nat), nn = 9 - g_4 ∧ g_4 ≤ 9 ∧ RR = itrv dlf_6 lf_6 (g_3, g_4) ∧ va_P (dC, dI) vwCl (mo_w ad ck x0 (nI x16) (nI x18) (nI x19) x20 (nI x21) (nI x22) x23 x24 x25 (nI x26) x27 (nI x28) (nI x29) (nI x30) (nI x33) x45 (nI x46) (nI x52) (nI x53) (nI x61) (nI x62) (nI x63) (nI x65) x66 f1 f2 f3 (bN 3 q4) (bN 7 q5) (bN 7 q6) (bN 4 q7) f8 (bN 2 q9) (bH q10) f11 (b2 m12_0 m12_1) (b2 m13_0 m13_1) (b2 m14_0 m14_1) (b2m m15_0 m15_1) f17 (bA 159 q31) f32 f34 f35 f36 f37 (bN 7 q38) f39 f40 f41 (b2 m42_0 m42_1) f43 f44 f47 f48 f49 f50 f51 (bN 13 q54) (bN 120 q55) (bN 120 q56) f57 (bN 120 q58) f59 f60 f64) H ∧ va_D (fun _ => True) (mo_w ad ck x0 (nI x16) (nI x18) (nI x19) x20 (nI x21) (nI x22) x23 x24 x25 (nI x26) x27 (nI x28) (nI x29) (nI x30) (nI x33) x45 (nI x46) (nI x52) (nI x53) (nI x61) (nI x62) (nI x63) (nI x65) x66 f1 f2 f3 (bN 3 q4) (bN 7 q5) (bN 7 q6) (bN 4 q7) f8 (bN 2 q9) (bH q10) f11 (b2 m12_0 m12_1) (b2 m13_0 m13_1) (b2 m14_0 m14_1) (b2m m15_0 m15_1) f17 (bA 159 q31) f32 f34 f35 f36 f37 (bN 7 q38) f39 f40 f41 (b2 m42_0 m42_1) f43 f44 f47 f48 f49 f50 f51 (bN 13 q54) (bN 120 q55) (bN 120 q56) f57 (bN 120 q58) f59 f60 f64) ∧ va_S (va_A [] s.heap.size) s.heap H locs ∧ lv_has ls 6 [(0, .ref (ad 0)), (1, .int p0), (2, .int g_3), (3, .int (nI g_4))]) 4 ?_ _ _ _ _ ⟨0, 0, rfl, (Nat.le_of_ble_eq_true rfl), hsp, hP, hD, hS, lv_sub hl [2, 3, 1, 0] rfl⟩
  rintro nn ih_5 H locs ls ⟨g_3, g_4, rfl, hg_4, he_8, hP, hD, hS, hl⟩
  obtain ⟨S_7, hsp, hin_9, hout_10⟩ := itr_step hlf_6 he_8
  refine lv_iload_n hx hb dX9_goesTo_4 rfl (lv_at hl 3 rfl) ?_
  refine lv_bipush (v := 8) hx hb dX9_goesTo_5 (by decide) ?_
  refine lv_icmp_gt (tgt := 115) hx hb dX9_goesTo_7 (by decide) (fun c_11 => ?_) (fun c_11 => ?_)
  · have c_11 : 8 < g_4 := (nI_ltI (a := 8) (b := g_4) (Nat.le_of_ble_eq_true rfl) (Nat.lt_of_le_of_lt hg_4 (Nat.le_of_ble_eq_true rfl))).mp c_11
    replace hsp := hsp.trans (if_pos c_11)
    have hsp := hout_10 _ hsp
    refine lv_iload_n hx hb dX9_goesTo_115 rfl (lv_at hl 2 rfl) ?_
    exact W.iret (v := g_3) hx hb hr (fun t ht hW => ⟨⟨g_3, (), rfl, (hsp.symm.trans hRR), trivial⟩, hS.F ht⟩) hS.2.2 dX9_goesTo_116
  · have c_11 : ¬ 8 < g_4 := fun z => c_11 ((nI_ltI (a := 8) (b := g_4) (Nat.le_of_ble_eq_true rfl) (Nat.lt_of_le_of_lt hg_4 (Nat.le_of_ble_eq_true rfl))).mpr z)
    replace hsp := hsp.trans (if_neg c_11)
    refine lv_iconst (v := 0) hx hb dX9_goesTo_10 (by decide) ?_
    refine lv_istore (lv' := [(4, .int 0), (0, .ref (ad 0)), (1, .int p0), (2, .int g_3), (3, .int (nI g_4))]) hx hb dX9_goesTo_11 hl (by decide) rfl (fun ls hl => ?_)
    obtain ⟨lf_17, dlf_17, hlf_17, hsp⟩ := itr_ex hsp
    delta sp_EM_goesTo_L1 at hlf_17
    refine pu_while (fun nn H locs ls => ∃ (g_14 : Int32) (g_15 : Nat), nn = 14 - g_15 ∧ g_15 ≤ 14 ∧ S_7 = itrv dlf_17 lf_17 (g_14, g_15) ∧ va_P (dC, dI) vwCl (mo_w ad ck x0 (nI x16) (nI x18) (nI x19) x20 (nI x21) (nI x22) x23 x24 x25 (nI x26) x27 (nI x28) (nI x29) (nI x30) (nI x33) x45 (nI x46) (nI x52) (nI x53) (nI x61) (nI x62) (nI x63) (nI x65) x66 f1 f2 f3 (bN 3 q4) (bN 7 q5) (bN 7 q6) (bN 4 q7) f8 (bN 2 q9) (bH q10) f11 (b2 m12_0 m12_1) (b2 m13_0 m13_1) (b2 m14_0 m14_1) (b2m m15_0 m15_1) f17 (bA 159 q31) f32 f34 f35 f36 f37 (bN 7 q38) f39 f40 f41 (b2 m42_0 m42_1) f43 f44 f47 f48 f49 f50 f51 (bN 13 q54) (bN 120 q55) (bN 120 q56) f57 (bN 120 q58) f59 f60 f64) H ∧ va_D (fun _ => True) (mo_w ad ck x0 (nI x16) (nI x18) (nI x19) x20 (nI x21) (nI x22) x23 x24 x25 (nI x26) x27 (nI x28) (nI x29) (nI x30) (nI x33) x45 (nI x46) (nI x52) (nI x53) (nI x61) (nI x62) (nI x63) (nI x65) x66 f1 f2 f3 (bN 3 q4) (bN 7 q5) (bN 7 q6) (bN 4 q7) f8 (bN 2 q9) (bH q10) f11 (b2 m12_0 m12_1) (b2 m13_0 m13_1) (b2 m14_0 m14_1) (b2m m15_0 m15_1) f17 (bA 159 q31) f32 f34 f35 f36 f37 (bN 7 q38) f39 f40 f41 (b2 m42_0 m42_1) f43 f44 f47 f48 f49 f50 f51 (bN 13 q54) (bN 120 q55) (bN 120 q56) f57 (bN 120 q58) f59 f60 f64) ∧ va_S (va_A [] s.heap.size) s.heap H locs ∧ lv_has ls 6 [(0, .ref (ad 0)), (1, .int p0), (2, .int g_14), (3, .int (nI g_4)), (4, .int (nI g_15))]) 13 ?_ _ _ _ _ ⟨g_3, 0, rfl, (Nat.le_of_ble_eq_true rfl), hsp, hP, hD, hS, lv_sub hl [1, 2, 3, 4, 0] rfl⟩
    rintro nn ih_16 H locs ls ⟨g_14, g_15, rfl, hg_15, he_19, hP, hD, hS, hl⟩
    obtain ⟨S_18, hsp, hin_20, hout_21⟩ := itr_step hlf_17 he_19
    refine lv_iload hx hb dX9_goesTo_13 (lv_at hl 4 rfl) ?_
    refine lv_aload_n hx hb dX9_goesTo_15 rfl (lv_at hl 0 rfl) ?_
    refine va_get (D := (dC, dI)) (ci := 9) (v := .ref (ad 14)) (C := RX9) (T := TX9) (N := 67) hx hb hts hiX9 hown hK hP 0 rfl rfl 14 (by decide) v_1 (fun _ h9 => h9) rfl dX9_goesTo_16 ?_
    refine lv_aload_n hx hb dX9_goesTo_19 rfl (lv_at hl 0 rfl) ?_
    refine va_get (D := (dC, dI)) (ci := 9) (v := .int (nI x16)) (C := RX9) (T := TX9) (N := 67) hx hb hts hiX9 hown hK hP 0 rfl rfl 16 (by decide) v_2 (fun _ h9 => h9) rfl dX9_goesTo_20 ?_
    refine va_iald hx hb hK hP 14 13 rfl rfl (vp_in_nI (n := x16) (Nat.lt_of_le_of_lt hx16 (Nat.le_of_ble_eq_true rfl)) (Nat.le_of_ble_eq_true rfl)) dX9_goesTo_23 ?_
    refine lv_topi (fun y_22 ey_22 => ?_)
    obtain ⟨u_23, hu_23, fu_23, xu_23⟩ := b2_getx (a := m14_0) (b := m14_1) (i := x16) (by omega)
    have qy_22 := ey_22.trans fu_23
    replace hsp := hsp.trans (slet_eq xu_23)
    obtain rfl : y_22 = nI u_23 := qy_22
    refine lv_icmp_ge (tgt := 109) hx hb dX9_goesTo_24 (by decide) (fun c_24 => ?_) (fun c_24 => ?_)
    · have c_24 : u_23 ≤ g_15 := (nI_leI (a := u_23) (b := g_15) (by omega) (Nat.lt_of_le_of_lt hg_15 (Nat.le_of_ble_eq_true rfl))).mp c_24
      replace hsp := hsp.trans (if_pos c_24)
      have hsp := hout_21 _ hsp
      refine lv_iinc (v := (nI (g_4 + 1))) (lv' := [(3, .int (nI (g_4 + 1))), (0, .ref (ad 0)), (1, .int p0), (2, .int g_14), (4, .int (nI g_15))]) hx hb dX9_goesTo_109 hl (k := 3) rfl (nI_1 _) (by decide) rfl (fun ls hl => ?_)
      refine lv_goto (tgt := 4) hx hb dX9_goesTo_112 (by decide) ?_
      exact ih_5 (9 - (g_4 + 1)) (by omega) _ _ _ ⟨g_14, (g_4 + 1), rfl, (by omega), hin_9 _ hsp, hP, hD, hS, lv_sub hl [1, 2, 3, 0] rfl⟩
    · have c_24 : ¬ u_23 ≤ g_15 := fun z => c_24 ((nI_leI (a := u_23) (b := g_15) (by omega) (Nat.lt_of_le_of_lt hg_15 (Nat.le_of_ble_eq_true rfl))).mpr z)
      replace hsp := hsp.trans (if_neg c_24)
      refine lv_aload_n hx hb dX9_goesTo_27 rfl (lv_at hl 0 rfl) ?_
      refine lv_aload_n hx hb dX9_goesTo_28 rfl (lv_at hl 0 rfl) ?_
      refine lv_iload hx hb dX9_goesTo_29 (lv_at hl 4 rfl) ?_
      refine va_calli (va_runV (As := [.int (nI g_15)]) (rest := [.ref (ad 0)]) ⟨hx, hb, hml, hown, hts⟩ (c_EM_outOf l dC dI _ ad ck x0 x16 x18 x19 x20 x21 x22 x23 x24 x25 x26 x27 x28 x29 x30 x33 x45 x46 x52 x53 x61 x62 x63 x65 x66 f1 f2 f3 q4 q5 q6 q7 f8 q9 q10 f11 m12_0 m12_1 m13_0 m13_1 m14_0 m14_1 m15_0 m15_1 f17 q31 f32 f34 f35 f36 f37 q38 f39 f40 f41 m42_0 m42_1 f43 f44 f47 f48 f49 f50 f51 q54 q55 q56 f57 q58 f59 f60 f64 g_15 hx16 hx18 hx19 hx21 hx22 hx26 hx28 hx29 hx30 hx33 hx46 hx52 hx53 hx61 hx62 hx63 hx65 hm12_0 hm12_1 hm13_0 hm13_1 hm14_0 hm14_1 hm15_0 hm15_1 hm42_0 hm42_1 (by omega)) (cwV 1 hts g_EM_goesTo_EM_outOf rfl rfl rfl (by decide +kernel) ⟨Nat.le_of_ble_eq_true rfl, Nat.le_of_ble_eq_true rfl⟩) ⟨pu_bl, va_recv hK hP (ci := 9) (q0 := 0) rfl rfl, pu_in hP hK hD⟩ rfl rfl hl.1 rfl (lv_room (Nat.le_of_ble_eq_true rfl)) dX9_goesTo_31 ⟨Nat.le_of_ble_eq_true rfl, Nat.le_of_ble_eq_true rfl⟩) hS (fun q _ h => pu_fr hS hA q h) (pu_fr hS hA) (fun r_25 u t H1 locs ht hvm hw hB hz1 hk1 hS => ?_)
      have hP := pu_keep hP hk1
      clear hk1 hz1 ht hvm
      generalize H1 = H at hP hS ⊢
      obtain ⟨u_26, hu_26, rfl, iu_26⟩ := hw
      replace hsp := hsp.trans (slet_eq iu_26)
      refine va_calli (va_runV (As := [.int (nI u_26)]) (rest := []) ⟨hx, hb, hml, hown, hts⟩ (c_EM_isUrgent l dC dI _ ad ck x0 x16 x18 x19 x20 x21 x22 x23 x24 x25 x26 x27 x28 x29 x30 x33 x45 x46 x52 x53 x61 x62 x63 x65 x66 f1 f2 f3 q4 q5 q6 q7 f8 q9 q10 f11 m12_0 m12_1 m13_0 m13_1 m14_0 m14_1 m15_0 m15_1 f17 q31 f32 f34 f35 f36 f37 q38 f39 f40 f41 m42_0 m42_1 f43 f44 f47 f48 f49 f50 f51 q54 q55 q56 f57 q58 f59 f60 f64 u_26 hx16 hx18 hx19 hx21 hx22 hx26 hx28 hx29 hx30 hx33 hx46 hx52 hx53 hx61 hx62 hx63 hx65 hm12_0 hm12_1 hm13_0 hm13_1 hm14_0 hm14_1 hm15_0 hm15_1 hm42_0 hm42_1 hu_26) (cwV 1 hts g_EM_goesTo_EM_isUrgent rfl rfl rfl (by decide +kernel) ⟨Nat.le_of_ble_eq_true rfl, Nat.le_of_ble_eq_true rfl⟩) ⟨pu_bl, va_recv hK hP (ci := 9) (q0 := 0) rfl rfl, pu_in hP hK hD⟩ rfl rfl hl.1 rfl (lv_room (Nat.le_of_ble_eq_true rfl)) dX9_goesTo_34 ⟨Nat.le_of_ble_eq_true rfl, Nat.le_of_ble_eq_true rfl⟩) hS (fun q _ h => pu_fr hS hA q h) (pu_fr hS hA) (fun r_27 u t H1 locs ht hvm hw hB hz1 hk1 hS => ?_)
      have hP := pu_keep hP hk1
      clear hk1 hz1 ht hvm
      generalize H1 = H at hP hS ⊢
      obtain ⟨u_28, hu_28, rfl, iu_28⟩ := hw
      replace hsp := hsp.trans (slet_eq iu_28)
      obtain ⟨JR_31, hJR_31, hsp⟩ := slet_ex hsp
      refine pu_join (fun H locs ls st => ∃ (g_29 : Nat), st = [.int (nI g_29)] ∧ g_29 ≤ 1 ∧ g_29 = JR_31 ∧ va_P (dC, dI) vwCl (mo_w ad ck x0 (nI x16) (nI x18) (nI x19) x20 (nI x21) (nI x22) x23 x24 x25 (nI x26) x27 (nI x28) (nI x29) (nI x30) (nI x33) x45 (nI x46) (nI x52) (nI x53) (nI x61) (nI x62) (nI x63) (nI x65) x66 f1 f2 f3 (bN 3 q4) (bN 7 q5) (bN 7 q6) (bN 4 q7) f8 (bN 2 q9) (bH q10) f11 (b2 m12_0 m12_1) (b2 m13_0 m13_1) (b2 m14_0 m14_1) (b2m m15_0 m15_1) f17 (bA 159 q31) f32 f34 f35 f36 f37 (bN 7 q38) f39 f40 f41 (b2 m42_0 m42_1) f43 f44 f47 f48 f49 f50 f51 (bN 13 q54) (bN 120 q55) (bN 120 q56) f57 (bN 120 q58) f59 f60 f64) H ∧ va_D (fun _ => True) (mo_w ad ck x0 (nI x16) (nI x18) (nI x19) x20 (nI x21) (nI x22) x23 x24 x25 (nI x26) x27 (nI x28) (nI x29) (nI x30) (nI x33) x45 (nI x46) (nI x52) (nI x53) (nI x61) (nI x62) (nI x63) (nI x65) x66 f1 f2 f3 (bN 3 q4) (bN 7 q5) (bN 7 q6) (bN 4 q7) f8 (bN 2 q9) (bH q10) f11 (b2 m12_0 m12_1) (b2 m13_0 m13_1) (b2 m14_0 m14_1) (b2m m15_0 m15_1) f17 (bA 159 q31) f32 f34 f35 f36 f37 (bN 7 q38) f39 f40 f41 (b2 m42_0 m42_1) f43 f44 f47 f48 f49 f50 f51 (bN 13 q54) (bN 120 q55) (bN 120 q56) f57 (bN 120 q58) f59 f60 f64) ∧ va_S (va_A [] s.heap.size) s.heap H locs ∧ lv_has ls 6 [(0, .ref (ad 0)), (1, .int p0), (2, .int g_14), (3, .int (nI g_4)), (4, .int (nI g_15))]) 81 ?_ (fun j_30 => ?_)
      · rintro H locs ls st ⟨g_29, rfl, hg_29, he_32, hP, hD, hS, hl⟩
        rw [← he_32] at hsp
        refine lv_istore (lv' := [(5, .int (nI g_29)), (0, .ref (ad 0)), (1, .int p0), (2, .int g_14), (3, .int (nI g_4)), (4, .int (nI g_15))]) hx hb dX9_goesTo_81 hl (by decide) rfl (fun ls hl => ?_)
        refine lv_iload_n hx hb dX9_goesTo_83 rfl (lv_at hl 3 rfl) ?_
        refine lv_iload hx hb dX9_goesTo_84 (lv_at hl 0 rfl) ?_
        obtain ⟨JR_35, hJR_35, hsp⟩ := slet_ex hsp
        refine pu_join (fun H locs ls st => ∃ (g_33 : Int32), st = [.int g_33, .int g_14] ∧ g_33 = JR_35 ∧ va_P (dC, dI) vwCl (mo_w ad ck x0 (nI x16) (nI x18) (nI x19) x20 (nI x21) (nI x22) x23 x24 x25 (nI x26) x27 (nI x28) (nI x29) (nI x30) (nI x33) x45 (nI x46) (nI x52) (nI x53) (nI x61) (nI x62) (nI x63) (nI x65) x66 f1 f2 f3 (bN 3 q4) (bN 7 q5) (bN 7 q6) (bN 4 q7) f8 (bN 2 q9) (bH q10) f11 (b2 m12_0 m12_1) (b2 m13_0 m13_1) (b2 m14_0 m14_1) (b2m m15_0 m15_1) f17 (bA 159 q31) f32 f34 f35 f36 f37 (bN 7 q38) f39 f40 f41 (b2 m42_0 m42_1) f43 f44 f47 f48 f49 f50 f51 (bN 13 q54) (bN 120 q55) (bN 120 q56) f57 (bN 120 q58) f59 f60 f64) H ∧ va_D (fun _ => True) (mo_w ad ck x0 (nI x16) (nI x18) (nI x19) x20 (nI x21) (nI x22) x23 x24 x25 (nI x26) x27 (nI x28) (nI x29) (nI x30) (nI x33) x45 (nI x46) (nI x52) (nI x53) (nI x61) (nI x62) (nI x63) (nI x65) x66 f1 f2 f3 (bN 3 q4) (bN 7 q5) (bN 7 q6) (bN 4 q7) f8 (bN 2 q9) (bH q10) f11 (b2 m12_0 m12_1) (b2 m13_0 m13_1) (b2 m14_0 m14_1) (b2m m15_0 m15_1) f17 (bA 159 q31) f32 f34 f35 f36 f37 (bN 7 q38) f39 f40 f41 (b2 m42_0 m42_1) f43 f44 f47 f48 f49 f50 f51 (bN 13 q54) (bN 120 q55) (bN 120 q56) f57 (bN 120 q58) f59 f60 f64) ∧ va_S (va_A [] s.heap.size) s.heap H locs ∧ lv_has ls 6 [(0, .ref (ad 0)), (1, .int p0), (2, .int g_14), (3, .int (nI g_4)), (4, .int (nI g_15)), (5, .int (nI g_29))]) 101 ?_ (fun j_34 => ?_)
        · rintro H locs ls st ⟨g_33, rfl, he_36, hP, hD, hS, hl⟩
          rw [← he_36] at hsp
          refine lv_ior hx hb dX9_goesTo_101 ?_
          refine lv_topi (fun y_37 ey_37 => ?_)
          replace hsp := hsp.trans (slet_eq ey_37)
          refine lv_istore_n (lv' := [(2, .int y_37), (0, .ref (ad 0)), (1, .int p0), (3, .int (nI g_4)), (4, .int (nI g_15)), (5, .int (nI g_29))]) hx hb dX9_goesTo_102 rfl hl (by decide) rfl (fun ls hl => ?_)
          refine lv_iinc (v := (nI (g_15 + 1))) (lv' := [(4, .int (nI (g_15 + 1))), (2, .int y_37), (0, .ref (ad 0)), (1, .int p0), (3, .int (nI g_4)), (5, .int (nI g_29))]) hx hb dX9_goesTo_103 hl (k := 4) rfl (nI_1 _) (by decide) rfl (fun ls hl => ?_)
          refine lv_goto (tgt := 13) hx hb dX9_goesTo_106 (by decide) ?_
          exact ih_16 (14 - (g_15 + 1)) (by omega) _ _ _ ⟨y_37, (g_15 + 1), rfl, (by omega), hin_20 _ hsp, hP, hD, hS, lv_sub hl [2, 3, 1, 4, 0] rfl⟩
        have hsp := hJR_35
        refine lv_if_eq (tgt := 100) hx hb dX9_goesTo_86 (by decide) (fun c_38 => ?_) (fun c_38 => ?_)
        · have c_38 : g_29 = 0 := (nI_eq (a := g_29) (b := 0) (Nat.lt_of_le_of_lt hg_29 (Nat.le_of_ble_eq_true rfl)) (Nat.le_of_ble_eq_true rfl)).mp c_38
          replace hsp := hsp.trans (if_pos c_38)
          refine lv_iconst (v := 0) hx hb dX9_goesTo_100 (by decide) ?_
          exact j_34 _ _ _ _ ⟨0, rfl, hsp.symm, hP, hD, hS, lv_sub hl [1, 2, 3, 4, 5, 0] rfl⟩
        · have c_38 : ¬ g_29 = 0 := fun z => c_38 ((nI_eq (a := g_29) (b := 0) (Nat.lt_of_le_of_lt hg_29 (Nat.le_of_ble_eq_true rfl)) (Nat.le_of_ble_eq_true rfl)).mpr z)
          replace hsp := hsp.trans (if_neg c_38)
          refine lv_iconst (v := 1) hx hb dX9_goesTo_89 (by decide) ?_
          refine lv_aload_n hx hb dX9_goesTo_90 rfl (lv_at hl 1 rfl) ?_
          refine lv_iload hx hb dX9_goesTo_91 (lv_at hl 5 rfl) ?_
          refine va_calli (va_runV (As := [.int (nI g_15)]) (rest := [.int 1, .int g_14]) ⟨hx, hb, hml, hown, hts⟩ (c_EM_into l dC dI _ ad ck x0 x16 x18 x19 x20 x21 x22 x23 x24 x25 x26 x27 x28 x29 x30 x33 x45 x46 x52 x53 x61 x62 x63 x65 x66 f1 f2 f3 q4 q5 q6 q7 f8 q9 q10 f11 m12_0 m12_1 m13_0 m13_1 m14_0 m14_1 m15_0 m15_1 f17 q31 f32 f34 f35 f36 f37 q38 f39 f40 f41 m42_0 m42_1 f43 f44 f47 f48 f49 f50 f51 q54 q55 q56 f57 q58 f59 f60 f64 g_15 hx16 hx18 hx19 hx21 hx22 hx26 hx28 hx29 hx30 hx33 hx46 hx52 hx53 hx61 hx62 hx63 hx65 hm12_0 hm12_1 hm13_0 hm13_1 hm14_0 hm14_1 hm15_0 hm15_1 hm42_0 hm42_1 (by omega)) (cwV 1 hts g_EM_goesTo_EM_into rfl rfl rfl (by decide +kernel) ⟨Nat.le_of_ble_eq_true rfl, Nat.le_of_ble_eq_true rfl⟩) ⟨pu_bl, va_recv hK hP (ci := 9) (q0 := 0) rfl rfl, pu_in hP hK hD⟩ rfl rfl hl.1 rfl (lv_room (Nat.le_of_ble_eq_true rfl)) dX9_goesTo_93 ⟨Nat.le_of_ble_eq_true rfl, Nat.le_of_ble_eq_true rfl⟩) hS (fun q _ h => pu_fr hS hA q h) (pu_fr hS hA) (fun r_39 u t H1 locs ht hvm hw hB hz1 hk1 hS => ?_)
          have hP := pu_keep hP hk1
          clear hk1 hz1 ht hvm
          generalize H1 = H at hP hS ⊢
          obtain ⟨u_40, hu_40, rfl, iu_40⟩ := hw
          replace hsp := hsp.trans (slet_eq iu_40)
          refine lv_ishl hx hb dX9_goesTo_96 ?_
          refine lv_topi (fun y_41 ey_41 => ?_)
          replace hsp := hsp.trans (slet_eq ey_41)
          refine lv_goto (tgt := 101) hx hb dX9_goesTo_97 (by decide) ?_
          exact j_34 _ _ _ _ ⟨y_41, rfl, hsp.symm, hP, hD, hS, lv_sub hl [1, 2, 3, 4, 5, 0] rfl⟩
      have hsp := hJR_31
      refine lv_if_eq (tgt := 80) hx hb dX9_goesTo_37 (by decide) (fun c_42 => ?_) (fun c_42 => ?_)
      · have c_42 : u_28 = 0 := (nI_eq (a := u_28) (b := 0) (Nat.lt_of_le_of_lt hu_28 (Nat.le_of_ble_eq_true rfl)) (Nat.le_of_ble_eq_true rfl)).mp c_42
        replace hsp := hsp.trans (if_pos c_42)
        refine lv_iconst (v := 0) hx hb dX9_goesTo_80 (by decide) ?_
        exact j_30 _ _ _ _ ⟨0, rfl, (Nat.le_of_ble_eq_true rfl), hsp.symm, hP, hD, hS, lv_sub hl [0, 1, 2, 3, 4] rfl⟩
      · have c_42 : ¬ u_28 = 0 := fun z => c_42 ((nI_eq (a := u_28) (b := 0) (Nat.lt_of_le_of_lt hu_28 (Nat.le_of_ble_eq_true rfl)) (Nat.le_of_ble_eq_true rfl)).mpr z)
        replace hsp := hsp.trans (if_neg c_42)
        refine lv_aload_n hx hb dX9_goesTo_40 rfl (lv_at hl 0 rfl) ?_
        refine lv_aload_n hx hb dX9_goesTo_41 rfl (lv_at hl 0 rfl) ?_
        refine lv_iload hx hb dX9_goesTo_42 (lv_at hl 4 rfl) ?_
        refine va_calli (va_runV (As := [.int (nI g_15)]) (rest := [.ref (ad 0)]) ⟨hx, hb, hml, hown, hts⟩ (c_EM_into l dC dI _ ad ck x0 x16 x18 x19 x20 x21 x22 x23 x24 x25 x26 x27 x28 x29 x30 x33 x45 x46 x52 x53 x61 x62 x63 x65 x66 f1 f2 f3 q4 q5 q6 q7 f8 q9 q10 f11 m12_0 m12_1 m13_0 m13_1 m14_0 m14_1 m15_0 m15_1 f17 q31 f32 f34 f35 f36 f37 q38 f39 f40 f41 m42_0 m42_1 f43 f44 f47 f48 f49 f50 f51 q54 q55 q56 f57 q58 f59 f60 f64 g_15 hx16 hx18 hx19 hx21 hx22 hx26 hx28 hx29 hx30 hx33 hx46 hx52 hx53 hx61 hx62 hx63 hx65 hm12_0 hm12_1 hm13_0 hm13_1 hm14_0 hm14_1 hm15_0 hm15_1 hm42_0 hm42_1 (by omega)) (cwV 1 hts g_EM_goesTo_EM_into rfl rfl rfl (by decide +kernel) ⟨Nat.le_of_ble_eq_true rfl, Nat.le_of_ble_eq_true rfl⟩) ⟨pu_bl, va_recv hK hP (ci := 9) (q0 := 0) rfl rfl, pu_in hP hK hD⟩ rfl rfl hl.1 rfl (lv_room (Nat.le_of_ble_eq_true rfl)) dX9_goesTo_44 ⟨Nat.le_of_ble_eq_true rfl, Nat.le_of_ble_eq_true rfl⟩) hS (fun q _ h => pu_fr hS hA q h) (pu_fr hS hA) (fun r_43 u t H1 locs ht hvm hw hB hz1 hk1 hS => ?_)
        have hP := pu_keep hP hk1
        clear hk1 hz1 ht hvm
        generalize H1 = H at hP hS ⊢
        obtain ⟨u_44, hu_44, rfl, iu_44⟩ := hw
        replace hsp := hsp.trans (slet_eq iu_44)
        refine va_calli (va_runV (As := [.int (nI u_44)]) (rest := []) ⟨hx, hb, hml, hown, hts⟩ (c_EM_isUrgent l dC dI _ ad ck x0 x16 x18 x19 x20 x21 x22 x23 x24 x25 x26 x27 x28 x29 x30 x33 x45 x46 x52 x53 x61 x62 x63 x65 x66 f1 f2 f3 q4 q5 q6 q7 f8 q9 q10 f11 m12_0 m12_1 m13_0 m13_1 m14_0 m14_1 m15_0 m15_1 f17 q31 f32 f34 f35 f36 f37 q38 f39 f40 f41 m42_0 m42_1 f43 f44 f47 f48 f49 f50 f51 q54 q55 q56 f57 q58 f59 f60 f64 u_44 hx16 hx18 hx19 hx21 hx22 hx26 hx28 hx29 hx30 hx33 hx46 hx52 hx53 hx61 hx62 hx63 hx65 hm12_0 hm12_1 hm13_0 hm13_1 hm14_0 hm14_1 hm15_0 hm15_1 hm42_0 hm42_1 hu_44) (cwV 1 hts g_EM_goesTo_EM_isUrgent rfl rfl rfl (by decide +kernel) ⟨Nat.le_of_ble_eq_true rfl, Nat.le_of_ble_eq_true rfl⟩) ⟨pu_bl, va_recv hK hP (ci := 9) (q0 := 0) rfl rfl, pu_in hP hK hD⟩ rfl rfl hl.1 rfl (lv_room (Nat.le_of_ble_eq_true rfl)) dX9_goesTo_47 ⟨Nat.le_of_ble_eq_true rfl, Nat.le_of_ble_eq_true rfl⟩) hS (fun q _ h => pu_fr hS hA q h) (pu_fr hS hA) (fun r_45 u t H1 locs ht hvm hw hB hz1 hk1 hS => ?_)
        have hP := pu_keep hP hk1
        clear hk1 hz1 ht hvm
        generalize H1 = H at hP hS ⊢
        obtain ⟨u_46, hu_46, rfl, iu_46⟩ := hw
        replace hsp := hsp.trans (slet_eq iu_46)
        refine lv_if_eq (tgt := 80) hx hb dX9_goesTo_50 (by decide) (fun c_47 => ?_) (fun c_47 => ?_)
        · have c_47 : u_46 = 0 := (nI_eq (a := u_46) (b := 0) (Nat.lt_of_le_of_lt hu_46 (Nat.le_of_ble_eq_true rfl)) (Nat.le_of_ble_eq_true rfl)).mp c_47
          replace hsp := hsp.trans (if_pos c_47)
          refine lv_iconst (v := 0) hx hb dX9_goesTo_80 (by decide) ?_
          exact j_30 _ _ _ _ ⟨0, rfl, (Nat.le_of_ble_eq_true rfl), hsp.symm, hP, hD, hS, lv_sub hl [0, 1, 2, 3, 4] rfl⟩
        · have c_47 : ¬ u_46 = 0 := fun z => c_47 ((nI_eq (a := u_46) (b := 0) (Nat.lt_of_le_of_lt hu_46 (Nat.le_of_ble_eq_true rfl)) (Nat.le_of_ble_eq_true rfl)).mpr z)
          replace hsp := hsp.trans (if_neg c_47)
          refine lv_aload_n hx hb dX9_goesTo_53 rfl (lv_at hl 0 rfl) ?_
          refine lv_iload hx hb dX9_goesTo_54 (lv_at hl 4 rfl) ?_
          refine va_calli (va_runV (As := [.int (nI g_15)]) (rest := []) ⟨hx, hb, hml, hown, hts⟩ (c_EM_outOf l dC dI _ ad ck x0 x16 x18 x19 x20 x21 x22 x23 x24 x25 x26 x27 x28 x29 x30 x33 x45 x46 x52 x53 x61 x62 x63 x65 x66 f1 f2 f3 q4 q5 q6 q7 f8 q9 q10 f11 m12_0 m12_1 m13_0 m13_1 m14_0 m14_1 m15_0 m15_1 f17 q31 f32 f34 f35 f36 f37 q38 f39 f40 f41 m42_0 m42_1 f43 f44 f47 f48 f49 f50 f51 q54 q55 q56 f57 q58 f59 f60 f64 g_15 hx16 hx18 hx19 hx21 hx22 hx26 hx28 hx29 hx30 hx33 hx46 hx52 hx53 hx61 hx62 hx63 hx65 hm12_0 hm12_1 hm13_0 hm13_1 hm14_0 hm14_1 hm15_0 hm15_1 hm42_0 hm42_1 (by omega)) (cwV 1 hts g_EM_goesTo_EM_outOf rfl rfl rfl (by decide +kernel) ⟨Nat.le_of_ble_eq_true rfl, Nat.le_of_ble_eq_true rfl⟩) ⟨pu_bl, va_recv hK hP (ci := 9) (q0 := 0) rfl rfl, pu_in hP hK hD⟩ rfl rfl hl.1 rfl (lv_room (Nat.le_of_ble_eq_true rfl)) dX9_goesTo_56 ⟨Nat.le_of_ble_eq_true rfl, Nat.le_of_ble_eq_true rfl⟩) hS (fun q _ h => pu_fr hS hA q h) (pu_fr hS hA) (fun r_48 u t H1 locs ht hvm hw hB hz1 hk1 hS => ?_)
          have hP := pu_keep hP hk1
          clear hk1 hz1 ht hvm
          generalize H1 = H at hP hS ⊢
          obtain ⟨u_49, hu_49, rfl, iu_49⟩ := hw
          replace hsp := hsp.trans (slet_eq iu_49)
          refine lv_iload_n hx hb dX9_goesTo_59 rfl (lv_at hl 1 rfl) ?_
          refine lv_icmp_eq (tgt := 76) hx hb dX9_goesTo_60 (by decide) (fun c_50 => ?_) (fun c_50 => ?_)
          · have hcc_50 := c_50
            replace hsp := hsp.trans (if_pos c_50)
            refine lv_iconst (v := 1) hx hb dX9_goesTo_76 (by decide) ?_
            refine lv_goto (tgt := 81) hx hb dX9_goesTo_77 (by decide) ?_
            exact j_30 _ _ _ _ ⟨1, rfl, (Nat.le_of_ble_eq_true rfl), hsp.symm, hP, hD, hS, lv_sub hl [0, 1, 2, 3, 4] rfl⟩
          · have hcc_50 := c_50
            replace hsp := hsp.trans (if_neg c_50)
            refine lv_iload_n hx hb dX9_goesTo_63 rfl (lv_at hl 2 rfl) ?_
            refine lv_aload_n hx hb dX9_goesTo_64 rfl (lv_at hl 0 rfl) ?_
            refine lv_iload hx hb dX9_goesTo_65 (lv_at hl 4 rfl) ?_
            refine va_calli (va_runV (As := [.int (nI g_15)]) (rest := [.int g_14]) ⟨hx, hb, hml, hown, hts⟩ (c_EM_outOf l dC dI _ ad ck x0 x16 x18 x19 x20 x21 x22 x23 x24 x25 x26 x27 x28 x29 x30 x33 x45 x46 x52 x53 x61 x62 x63 x65 x66 f1 f2 f3 q4 q5 q6 q7 f8 q9 q10 f11 m12_0 m12_1 m13_0 m13_1 m14_0 m14_1 m15_0 m15_1 f17 q31 f32 f34 f35 f36 f37 q38 f39 f40 f41 m42_0 m42_1 f43 f44 f47 f48 f49 f50 f51 q54 q55 q56 f57 q58 f59 f60 f64 g_15 hx16 hx18 hx19 hx21 hx22 hx26 hx28 hx29 hx30 hx33 hx46 hx52 hx53 hx61 hx62 hx63 hx65 hm12_0 hm12_1 hm13_0 hm13_1 hm14_0 hm14_1 hm15_0 hm15_1 hm42_0 hm42_1 (by omega)) (cwV 1 hts g_EM_goesTo_EM_outOf rfl rfl rfl (by decide +kernel) ⟨Nat.le_of_ble_eq_true rfl, Nat.le_of_ble_eq_true rfl⟩) ⟨pu_bl, va_recv hK hP (ci := 9) (q0 := 0) rfl rfl, pu_in hP hK hD⟩ rfl rfl hl.1 rfl (lv_room (Nat.le_of_ble_eq_true rfl)) dX9_goesTo_67 ⟨Nat.le_of_ble_eq_true rfl, Nat.le_of_ble_eq_true rfl⟩) hS (fun q _ h => pu_fr hS hA q h) (pu_fr hS hA) (fun r_51 u t H1 locs ht hvm hw hB hz1 hk1 hS => ?_)
            have hP := pu_keep hP hk1
            clear hk1 hz1 ht hvm
            generalize H1 = H at hP hS ⊢
            obtain ⟨u_52, hu_52, rfl, iu_52⟩ := hw
            replace hsp := hsp.trans (slet_eq iu_52)
            refine va_calli (va_runS (As := [.int g_14, .int (nI u_52)]) (rest := []) ⟨hx, hb, hml, hown, hts⟩ (c_EM_isOf l dC dI _ ad ck x0 x16 x18 x19 x20 x21 x22 x23 x24 x25 x26 x27 x28 x29 x30 x33 x45 x46 x52 x53 x61 x62 x63 x65 x66 f1 f2 f3 q4 q5 q6 q7 f8 q9 q10 f11 m12_0 m12_1 m13_0 m13_1 m14_0 m14_1 m15_0 m15_1 f17 q31 f32 f34 f35 f36 f37 q38 f39 f40 f41 m42_0 m42_1 f43 f44 f47 f48 f49 f50 f51 q54 q55 q56 f57 q58 f59 f60 f64 g_14 (nI u_52) hx16 hx18 hx19 hx21 hx22 hx26 hx28 hx29 hx30 hx33 hx46 hx52 hx53 hx61 hx62 hx63 hx65 hm12_0 hm12_1 hm13_0 hm13_1 hm14_0 hm14_1 hm15_0 hm15_1 hm42_0 hm42_1) (va_cwS 2 hts g_EM_goesTo_EM_isOf rfl rfl rfl (by decide +kernel) ⟨Nat.le_of_ble_eq_true rfl, Nat.le_of_ble_eq_true rfl⟩) ⟨pu_bl, pu_in hP hK hD⟩ rfl rfl hl.1 rfl (lv_room (Nat.le_of_ble_eq_true rfl)) dX9_goesTo_70 ⟨Nat.le_of_ble_eq_true rfl, Nat.le_of_ble_eq_true rfl⟩) hS (fun q _ h => pu_fr hS hA q h) (pu_fr hS hA) (fun r_53 u t H1 locs ht hvm hw hB hz1 hk1 hS => ?_)
            have hP := pu_keep hP hk1
            clear hk1 hz1 ht hvm
            generalize H1 = H at hP hS ⊢
            obtain ⟨u_54, hu_54, rfl, iu_54⟩ := hw
            replace hsp := hsp.trans (slet_eq iu_54)
            refine lv_if_eq (tgt := 80) hx hb dX9_goesTo_73 (by decide) (fun c_55 => ?_) (fun c_55 => ?_)
            · have c_55 : u_54 = 0 := (nI_eq (a := u_54) (b := 0) (Nat.lt_of_le_of_lt hu_54 (Nat.le_of_ble_eq_true rfl)) (Nat.le_of_ble_eq_true rfl)).mp c_55
              replace hsp := hsp.trans (if_pos c_55)
              refine lv_iconst (v := 0) hx hb dX9_goesTo_80 (by decide) ?_
              exact j_30 _ _ _ _ ⟨0, rfl, (Nat.le_of_ble_eq_true rfl), hsp.symm, hP, hD, hS, lv_sub hl [0, 1, 2, 3, 4] rfl⟩
            · have c_55 : ¬ u_54 = 0 := fun z => c_55 ((nI_eq (a := u_54) (b := 0) (Nat.lt_of_le_of_lt hu_54 (Nat.le_of_ble_eq_true rfl)) (Nat.le_of_ble_eq_true rfl)).mpr z)
              replace hsp := hsp.trans (if_neg c_55)
              refine lv_iconst (v := 1) hx hb dX9_goesTo_76 (by decide) ?_
              refine lv_goto (tgt := 81) hx hb dX9_goesTo_77 (by decide) ?_
              exact j_30 _ _ _ _ ⟨1, rfl, (Nat.le_of_ble_eq_true rfl), hsp.symm, hP, hD, hS, lv_sub hl [0, 1, 2, 3, 4] rfl⟩
