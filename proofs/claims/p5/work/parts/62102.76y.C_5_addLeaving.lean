theorem eX5_addLeaving_0 : decode cX5_addLeaving 0 = .ok (.aload_n 0, 1) := by decide +kernel
theorem eX5_addLeaving_1 : decode cX5_addLeaving 1 = .ok (.getfield 41, 3) := by decide +kernel
theorem eX5_addLeaving_4 : decode cX5_addLeaving 4 = .ok (.iconst 2, 1) := by decide +kernel
theorem eX5_addLeaving_5 : decode cX5_addLeaving 5 = .ok (.iadd, 1) := by decide +kernel
theorem eX5_addLeaving_6 : decode cX5_addLeaving 6 = .ok (.aload_n 0, 1) := by decide +kernel
theorem eX5_addLeaving_7 : decode cX5_addLeaving 7 = .ok (.getfield 17, 3) := by decide +kernel
theorem eX5_addLeaving_10 : decode cX5_addLeaving 10 = .ok (.arraylength, 1) := by decide +kernel
theorem eX5_addLeaving_11 : decode cX5_addLeaving 11 = .ok (.if_icmp .le 4, 3) := by decide +kernel
theorem eX5_addLeaving_14 : decode cX5_addLeaving 14 = .ok (.return_, 1) := by decide +kernel
theorem eX5_addLeaving_15 : decode cX5_addLeaving 15 = .ok (.aload_n 0, 1) := by decide +kernel
theorem eX5_addLeaving_16 : decode cX5_addLeaving 16 = .ok (.getfield 17, 3) := by decide +kernel
theorem eX5_addLeaving_19 : decode cX5_addLeaving 19 = .ok (.aload_n 0, 1) := by decide +kernel
theorem eX5_addLeaving_20 : decode cX5_addLeaving 20 = .ok (.getfield 41, 3) := by decide +kernel
theorem eX5_addLeaving_23 : decode cX5_addLeaving 23 = .ok (.aaload, 1) := by decide +kernel
theorem eX5_addLeaving_24 : decode cX5_addLeaving 24 = .ok (.astore 4, 2) := by decide +kernel
theorem eX5_addLeaving_26 : decode cX5_addLeaving 26 = .ok (.aload 4, 2) := by decide +kernel
theorem eX5_addLeaving_28 : decode cX5_addLeaving 28 = .ok (.iload_n 3, 1) := by decide +kernel
theorem eX5_addLeaving_29 : decode cX5_addLeaving 29 = .ok (.invokevirtual 44, 3) := by decide +kernel
theorem eX5_addLeaving_32 : decode cX5_addLeaving 32 = .ok (.aload_n 1, 1) := by decide +kernel
theorem eX5_addLeaving_33 : decode cX5_addLeaving 33 = .ok (.aload 4, 2) := by decide +kernel
theorem eX5_addLeaving_35 : decode cX5_addLeaving 35 = .ok (.iload_n 2, 1) := by decide +kernel
theorem eX5_addLeaving_36 : decode cX5_addLeaving 36 = .ok (.invokevirtual 47, 3) := by decide +kernel
theorem eX5_addLeaving_39 : decode cX5_addLeaving 39 = .ok (.ifCond .ne 4, 3) := by decide +kernel
theorem eX5_addLeaving_42 : decode cX5_addLeaving 42 = .ok (.return_, 1) := by decide +kernel
theorem eX5_addLeaving_43 : decode cX5_addLeaving 43 = .ok (.aload_n 0, 1) := by decide +kernel
theorem eX5_addLeaving_44 : decode cX5_addLeaving 44 = .ok (.dup, 1) := by decide +kernel
theorem eX5_addLeaving_45 : decode cX5_addLeaving 45 = .ok (.getfield 41, 3) := by decide +kernel
theorem eX5_addLeaving_48 : decode cX5_addLeaving 48 = .ok (.iconst 1, 1) := by decide +kernel
theorem eX5_addLeaving_49 : decode cX5_addLeaving 49 = .ok (.iadd, 1) := by decide +kernel
theorem eX5_addLeaving_50 : decode cX5_addLeaving 50 = .ok (.putfield 41, 3) := by decide +kernel
theorem eX5_addLeaving_53 : decode cX5_addLeaving 53 = .ok (.aload_n 0, 1) := by decide +kernel
theorem eX5_addLeaving_54 : decode cX5_addLeaving 54 = .ok (.aload 4, 2) := by decide +kernel
theorem eX5_addLeaving_56 : decode cX5_addLeaving 56 = .ok (.invokevirtual 53, 3) := by decide +kernel
theorem eX5_addLeaving_59 : decode cX5_addLeaving 59 = .ok (.aload_n 1, 1) := by decide +kernel
theorem eX5_addLeaving_60 : decode cX5_addLeaving 60 = .ok (.getfield 57, 3) := by decide +kernel
theorem eX5_addLeaving_63 : decode cX5_addLeaving 63 = .ok (.iload_n 2, 1) := by decide +kernel
theorem eX5_addLeaving_64 : decode cX5_addLeaving 64 = .ok (.iaload, 1) := by decide +kernel
theorem eX5_addLeaving_65 : decode cX5_addLeaving 65 = .ok (.istore 5, 2) := by decide +kernel
theorem eX5_addLeaving_67 : decode cX5_addLeaving 67 = .ok (.aload_n 0, 1) := by decide +kernel
theorem eX5_addLeaving_68 : decode cX5_addLeaving 68 = .ok (.getfield 17, 3) := by decide +kernel
theorem eX5_addLeaving_71 : decode cX5_addLeaving 71 = .ok (.aload_n 0, 1) := by decide +kernel
theorem eX5_addLeaving_72 : decode cX5_addLeaving 72 = .ok (.getfield 41, 3) := by decide +kernel
theorem eX5_addLeaving_75 : decode cX5_addLeaving 75 = .ok (.aaload, 1) := by decide +kernel
theorem eX5_addLeaving_76 : decode cX5_addLeaving 76 = .ok (.astore 6, 2) := by decide +kernel
theorem eX5_addLeaving_78 : decode cX5_addLeaving 78 = .ok (.aload 6, 2) := by decide +kernel
theorem eX5_addLeaving_80 : decode cX5_addLeaving 80 = .ok (.aload 4, 2) := by decide +kernel
theorem eX5_addLeaving_82 : decode cX5_addLeaving 82 = .ok (.invokevirtual 60, 3) := by decide +kernel
theorem eX5_addLeaving_85 : decode cX5_addLeaving 85 = .ok (.aload_n 1, 1) := by decide +kernel
theorem eX5_addLeaving_86 : decode cX5_addLeaving 86 = .ok (.getfield 63, 3) := by decide +kernel
theorem eX5_addLeaving_89 : decode cX5_addLeaving 89 = .ok (.iload 5, 2) := by decide +kernel
theorem eX5_addLeaving_91 : decode cX5_addLeaving 91 = .ok (.baload, 1) := by decide +kernel
theorem eX5_addLeaving_92 : decode cX5_addLeaving 92 = .ok (.ifCond .ne 39, 3) := by decide +kernel
theorem eX5_addLeaving_95 : decode cX5_addLeaving 95 = .ok (.aload_n 1, 1) := by decide +kernel
theorem eX5_addLeaving_96 : decode cX5_addLeaving 96 = .ok (.aload 6, 2) := by decide +kernel
theorem eX5_addLeaving_98 : decode cX5_addLeaving 98 = .ok (.iload 5, 2) := by decide +kernel
theorem eX5_addLeaving_100 : decode cX5_addLeaving 100 = .ok (.invokestatic 67, 3) := by decide +kernel
theorem eX5_addLeaving_103 : decode cX5_addLeaving 103 = .ok (.iconst 0, 1) := by decide +kernel
theorem eX5_addLeaving_104 : decode cX5_addLeaving 104 = .ok (.invokevirtual 71, 3) := by decide +kernel
theorem eX5_addLeaving_107 : decode cX5_addLeaving 107 = .ok (.ifCond .eq 24, 3) := by decide +kernel
theorem eX5_addLeaving_110 : decode cX5_addLeaving 110 = .ok (.aload 6, 2) := by decide +kernel
theorem eX5_addLeaving_112 : decode cX5_addLeaving 112 = .ok (.invokevirtual 75, 3) := by decide +kernel
theorem eX5_addLeaving_115 : decode cX5_addLeaving 115 = .ok (.aload_n 0, 1) := by decide +kernel
theorem eX5_addLeaving_116 : decode cX5_addLeaving 116 = .ok (.dup, 1) := by decide +kernel
theorem eX5_addLeaving_117 : decode cX5_addLeaving 117 = .ok (.getfield 41, 3) := by decide +kernel
theorem eX5_addLeaving_120 : decode cX5_addLeaving 120 = .ok (.iconst 1, 1) := by decide +kernel
theorem eX5_addLeaving_121 : decode cX5_addLeaving 121 = .ok (.iadd, 1) := by decide +kernel
theorem eX5_addLeaving_122 : decode cX5_addLeaving 122 = .ok (.putfield 41, 3) := by decide +kernel
theorem eX5_addLeaving_125 : decode cX5_addLeaving 125 = .ok (.aload_n 0, 1) := by decide +kernel
theorem eX5_addLeaving_126 : decode cX5_addLeaving 126 = .ok (.aload 6, 2) := by decide +kernel
theorem eX5_addLeaving_128 : decode cX5_addLeaving 128 = .ok (.invokevirtual 53, 3) := by decide +kernel
theorem eX5_addLeaving_131 : decode cX5_addLeaving 131 = .ok (.return_, 1) := by decide +kernel
abbrev vs_C_5_addLeaving : List Cond := .code yX5_addLeaving cX5_addLeaving 7 none :: CM
theorem g_C_5_addLeaving_E_7_setAll_16 : GoodIn vs_C_5_addLeaving (wsV RX5 44 RX7 yX7_setAll vs_E_7_setAll_16) := cm_gV cm_324 cm_325 cm_326 cm_45 cm_327
theorem g_C_5_addLeaving_E_0_opensIn_16 : GoodIn vs_C_5_addLeaving (wsV RX5 47 RX0 yX0_opensIn vs_E_0_opensIn_16) := cm_gV cm_328 cm_134 cm_135 cm_19 cm_50
theorem g_C_5_addLeaving_C_5_add : GoodIn vs_C_5_addLeaving (wsV RX5 53 RX5 yX5_add vs_C_5_add) := cm_gV cm_329 cm_330 cm_331 cm_332 cm_318
theorem g_C_5_addLeaving_E_7_copyOf_16 : GoodIn vs_C_5_addLeaving (wsV RX5 60 RX7 yX7_copyOf vs_E_7_copyOf_16) := cm_gV cm_333 cm_130 cm_131 cm_45 cm_132
theorem g_C_5_addLeaving_E_0_hostOfPlace : GoodIn vs_C_5_addLeaving (va_wsS RX5 67 yX0_hostOfPlace vs_E_0_hostOfPlace) := cm_gS cm_334 cm_55 cm_19 cm_0
theorem g_C_5_addLeaving_E_0_narrowTo_16 : GoodIn vs_C_5_addLeaving (wsV RX5 71 RX0 yX0_narrowTo vs_E_0_narrowTo_16) := cm_gV cm_335 cm_52 cm_53 cm_19 cm_41
theorem g_C_5_addLeaving_E_7_setPast_16 : GoodIn vs_C_5_addLeaving (wsV RX5 75 RX7 yX7_setPast vs_E_7_setPast_16) := cm_gV cm_336 cm_337 cm_338 cm_45 cm_339
set_option maxHeartbeats 4000000 in
set_option maxRecDepth 100000 in
theorem c_C_5_addLeaving (l : Launch) (dC : Nat → ClassId) (dI : Nat → Nat → Nat) (sz : Nat) (rm : Nat) (rcv : Nat) (rk : Nat) (rmd : Nat) (ru : Nat) (rpc : Nat) (rct : Nat) (rce : Nat) (k_fcv : ClassId) (fcv : Nat → Option Nat) (k_fmd : ClassId) (k_fpc : ClassId) (k_fct : ClassId) (fct : Nat → Int32) (k_fce : ClassId) (q_fce : Nat → Nat) (au : Nat) (nc : Nat) (np : Nat) (ne : Nat) (st0 : Int32) (q4 : Nat) (q5 : Nat) (q6 : Nat) (q7 : Nat) (q8 : Nat) (q9 : Nat) (q10 : Nat) (q11 : Nat) (q12 : Nat) (q13 : Nat) (q14 : Nat) (q15 : Nat) (q16 : Nat) (k_f4 : ClassId) (f4 : Nat → Int32) (k_f5 : ClassId) (q_f5 : Nat → Nat) (k_f6 : ClassId) (q_f6 : Nat → Nat) (k_f7 : ClassId) (f7 : Nat → Int32) (k_f8 : ClassId) (q_f8 : Nat → Nat) (k_f9 : ClassId) (q_f9 : Nat → Nat) (k_f10 : ClassId) (f10 : Nat → Int32) (k_f11 : ClassId) (f11 : Nat → Int32) (k_f12 : ClassId) (f12 : Nat → Int32) (k_f13 : ClassId) (f13 : Nat → Int32) (k_f14 : ClassId) (f14 : Nat → Int32) (k_f15 : ClassId) (f15 : Nat → Int32) (k_f16 : ClassId) (f16 : Nat → Int32) (N : Nat) (az ac : Nat → Nat) (kz : Nat → ClassId) (qs : Nat → Nat) (fz : Nat → Nat → Int32) (a1 : Nat) (a2 : Nat) (hrk : rk ≤ 120) (hru : ru ≤ 28) (hnc : nc ≤ 3) (hnp : np ≤ 8) (hne : ne ≤ 14) (hst0 : pm1 7 st0) (hN : 393 ≤ N) (ha1 : a1 ≤ 13) (ha2 : a2 ≤ 4) (hq0 : cv_ok rk fcv az) : Met l yX5_addLeaving vs_C_5_addLeaving ({ frames := 3, cells := 0, slots := 0, locals := 77 }) (va_Pc [.ref rm, .ref au, .int (nI a1), .int (nI a2)] (pu_B (dC, dI) ((rma__w rm rcv (nI rk) rmd (nI ru) rpc rct rce (az 392) k_fcv fcv k_fmd (zs 242 28 az) k_fpc (zs 270 122 az) k_fct fct k_fce (bN 16 q_fce) au (nI nc) (nI np) (nI ne) st0 q4 q5 q6 q7 q8 q9 q10 q11 q12 q13 q14 q15 q16 k_f4 f4 k_f5 (bN 7 q_f5) k_f6 (bN 7 q_f6) k_f7 f7 k_f8 (bN 4 q_f8) k_f9 (bN 2 q_f9) k_f10 f10 k_f11 f11 k_f12 f12 k_f13 f13 k_f14 f14 k_f15 f15 k_f16 f16) ++ zp 4 16 N az ac kz qs fz) ((rma__t k_fcv k_fmd k_fpc k_fct k_fce k_f4 k_f5 k_f6 k_f7 k_f8 k_f9 k_f10 k_f11 k_f12 k_f13 k_f14 k_f15 k_f16) ++ zt N kz) sz)) (va_Qv (fun (_ : Unit) => True) (fun _ t => ∃ (z_fcv : Nat → Option Nat) (z_rk : Nat) (z_ru : Nat) (z_fz : Nat → Nat → Int32) (z_qs : Nat → Nat), pu_E (dC, dI) ((rma__w rm rcv (nI z_rk) rmd (nI z_ru) rpc rct rce (az 392) k_fcv z_fcv k_fmd (zs 242 28 az) k_fpc (zs 270 122 az) k_fct fct k_fce (bN 16 q_fce) au (nI nc) (nI np) (nI ne) st0 q4 q5 q6 q7 q8 q9 q10 q11 q12 q13 q14 q15 q16 k_f4 f4 k_f5 (bN 7 q_f5) k_f6 (bN 7 q_f6) k_f7 f7 k_f8 (bN 4 q_f8) k_f9 (bN 2 q_f9) k_f10 f10 k_f11 f11 k_f12 f12 k_f13 f13 k_f14 f14 k_f15 f15 k_f16 f16) ++ zp 4 16 N az ac kz z_qs z_fz) ((rma__t k_fcv k_fmd k_fpc k_fct k_fce k_f4 k_f5 k_f6 k_f7 k_f8 k_f9 k_f10 k_f11 k_f12 k_f13 k_f14 k_f15 k_f16) ++ zt N kz) (va_A (((rma__w rm rcv (nI rk) rmd (nI ru) rpc rct rce (az 392) k_fcv fcv k_fmd (zs 242 28 az) k_fpc (zs 270 122 az) k_fct fct k_fce (bN 16 q_fce) au (nI nc) (nI np) (nI ne) st0 q4 q5 q6 q7 q8 q9 q10 q11 q12 q13 q14 q15 q16 k_f4 f4 k_f5 (bN 7 q_f5) k_f6 (bN 7 q_f6) k_f7 f7 k_f8 (bN 4 q_f8) k_f9 (bN 2 q_f9) k_f10 f10 k_f11 f11 k_f12 f12 k_f13 f13 k_f14 f14 k_f15 f15 k_f16 f16) ++ zp 4 16 N az ac kz qs fz)) sz) t ∧ (z_rk ≤ 120) ∧ (z_ru ≤ 28) ∧ (cv_ok z_rk z_fcv az)) (va_A (((rma__w rm rcv (nI rk) rmd (nI ru) rpc rct rce (az 392) k_fcv fcv k_fmd (zs 242 28 az) k_fpc (zs 270 122 az) k_fct fct k_fce (bN 16 q_fce) au (nI nc) (nI np) (nI ne) st0 q4 q5 q6 q7 q8 q9 q10 q11 q12 q13 q14 q15 q16 k_f4 f4 k_f5 (bN 7 q_f5) k_f6 (bN 7 q_f6) k_f7 f7 k_f8 (bN 4 q_f8) k_f9 (bN 2 q_f9) k_f10 f10 k_f11 f11 k_f12 f12 k_f13 f13 k_f14 f14 k_f15 f15 k_f16 f16) ++ zp 4 16 N az ac kz qs fz)) sz)) 0 0 (va_A (((rma__w rm rcv (nI rk) rmd (nI ru) rpc rct rce (az 392) k_fcv fcv k_fmd (zs 242 28 az) k_fpc (zs 270 122 az) k_fct fct k_fce (bN 16 q_fce) au (nI nc) (nI np) (nI ne) st0 q4 q5 q6 q7 q8 q9 q10 q11 q12 q13 q14 q15 q16 k_f4 f4 k_f5 (bN 7 q_f5) k_f6 (bN 7 q_f6) k_f7 f7 k_f8 (bN 4 q_f8) k_f9 (bN 2 q_f9) k_f10 f10 k_f11 f11 k_f12 f12 k_f13 f13 k_f14 f14 k_f15 f15 k_f16 f16) ++ zp 4 16 N az ac kz qs fz)) sz) := by
  refine Met.ofW (cc := cX5_addLeaving) (maxL := 7) (ret := none) (by decide) rfl ?_
  intro p e s m args below meth c s₁ B hml hv
  obtain ⟨rfl, rfl, hP, hK, hD0⟩ := hv
  have hx := B.exec
  have hb := B.bytes
  have hr := B.returns
  have hts := atoms_spec (ws := vs_C_5_addLeaving) B.pre
  have v_1 := hts (.fieldLink RX5 41 "ClockReach$Remainder" "used" "I") (List.mem_cons_of_mem _ cm_317)
  have v_2 := hts (.fieldLink RX5 17 "ClockReach$Remainder" "made" "[LClockReach$Zone;") (List.mem_cons_of_mem _ cm_321)
  have v_18 := hts (.fieldLink RX5 57 "ClockReach$Automaton" "sources" "[I") (List.mem_cons_of_mem _ cm_322)
  have v_23 := hts (.fieldLink RX5 63 "ClockReach$Automaton" "hurried" "[Z") (List.mem_cons_of_mem _ cm_323)
  have hown : s.vm.findClass RX5 = some m.cls := findClass_of_methodNamed B.named
  have hlocks := B.notSynchronized
  have hiX0 : ∀ w ∈ wsX00, w ∈ vs_C_5_addLeaving := fun _ h => List.mem_cons_of_mem _ (cm_X0 h)
  have hiX5 : ∀ w ∈ wsX50, w ∈ vs_C_5_addLeaving := fun _ h => List.mem_cons_of_mem _ (cm_X5 h)
  have hD := hD0.self (sz := s.heap.size)
  generalize hAe : va_A (((rma__w rm rcv (nI rk) rmd (nI ru) rpc rct rce (az 392) k_fcv fcv k_fmd (zs 242 28 az) k_fpc (zs 270 122 az) k_fct fct k_fce (bN 16 q_fce) au (nI nc) (nI np) (nI ne) st0 q4 q5 q6 q7 q8 q9 q10 q11 q12 q13 q14 q15 q16 k_f4 f4 k_f5 (bN 7 q_f5) k_f6 (bN 7 q_f6) k_f7 f7 k_f8 (bN 4 q_f8) k_f9 (bN 2 q_f9) k_f10 f10 k_f11 f11 k_f12 f12 k_f13 f13 k_f14 f14 k_f15 f15 k_f16 f16) ++ zp 4 16 N az ac kz qs fz)) s.heap.size = A at hD ⊢
  have hA : ∀ q : Nat, s.heap.size ≤ q → A q := fun q h => by rw [← hAe]; exact Or.inr h
  have hS : va_S A s.heap s.heap [] := va_S.rf
  have hl := lv_entry ([.ref rm, .ref au, .int (nI a1), .int (nI a2)]) (n := 7) (Nat.le_of_ble_eq_true rfl)
  rw [lg_entry_eq]
  generalize (lg_sl ([.ref rm, .ref au, .int (nI a1), .int (nI a2)]) ++ List.replicate (7 - (lg_sl ([.ref rm, .ref au, .int (nI a1), .int (nI a2)])).length) Slot.unset).toArray = ls at hl ⊢
  have hl : lv_has ls 7 [(0, .ref rm), (1, .ref au), (2, .int (nI a1)), (3, .int (nI a2))] := hl
  refine lv_aload_n hx hb eX5_addLeaving_0 rfl (lv_at hl 0 rfl) ?_
  refine va_get (D := (dC, dI)) (ci := 5) (v := .int (nI ru)) (C := RX5) (T := TX5) (N := 8) hx hb hts hiX5 hown hK hP 0 rfl rfl 3 (by decide) v_1 (fun _ h9 => h9) rfl eX5_addLeaving_1 ?_
  refine lv_iconst (v := 2) hx hb eX5_addLeaving_4 (by decide) ?_
  refine lv_iadd hx hb eX5_addLeaving_5 ?_
  refine lv_topi (fun y_1 ey_1 => ?_)
  obtain rfl : y_1 = (nI (ru + 2)) := ey_1.trans (nI_add ru 2)
  refine lv_aload_n hx hb eX5_addLeaving_6 rfl (lv_at hl 0 rfl) ?_
  refine va_get (D := (dC, dI)) (ci := 5) (v := .ref rmd) (C := RX5) (T := TX5) (N := 8) hx hb hts hiX5 hown hK hP 0 rfl rfl 2 (by decide) v_2 (fun _ h9 => h9) rfl eX5_addLeaving_7 ?_
  refine va_alen (v := 28) hx hb hK hP 2 1 rfl rfl rfl eX5_addLeaving_10 ?_
  refine lv_icmp_le (tgt := 15) hx hb eX5_addLeaving_11 (by decide) (fun c_2 => ?_) (fun c_2 => ?_)
  · have c_2 : (ru + 2) ≤ 28 := (nI_leI (a := (ru + 2)) (b := 28) (by omega) (Nat.le_of_ble_eq_true rfl)).mp c_2
    refine lv_aload_n hx hb eX5_addLeaving_15 rfl (lv_at hl 0 rfl) ?_
    refine va_get (D := (dC, dI)) (ci := 5) (v := .ref rmd) (C := RX5) (T := TX5) (N := 8) hx hb hts hiX5 hown hK hP 0 rfl rfl 2 (by decide) v_2 (fun _ h9 => h9) rfl eX5_addLeaving_16 ?_
    refine lv_aload_n hx hb eX5_addLeaving_19 rfl (lv_at hl 0 rfl) ?_
    refine va_get (D := (dC, dI)) (ci := 5) (v := .int (nI ru)) (C := RX5) (T := TX5) (N := 8) hx hb hts hiX5 hown hK hP 0 rfl rfl 3 (by decide) v_1 (fun _ h9 => h9) rfl eX5_addLeaving_20 ?_
    refine va_aldq hx hb hK hP 2 1 rfl rfl (vp_in_nI (n := ru) (by omega) (Nat.le_of_ble_eq_true rfl)) eX5_addLeaving_23 ?_
    refine W.eq (g2 := F0 m 24 ls [.ref (az (242 + ru))]) (by rw [zs_get (by omega) (by omega)]) ?_
    refine lv_astore (lv' := [(4, .ref (az (242 + ru))), (0, .ref rm), (1, .ref au), (2, .int (nI a1)), (3, .int (nI a2))]) hx hb eX5_addLeaving_24 hl (by decide) rfl (fun ls hl => ?_)
    refine lv_aload hx hb eX5_addLeaving_26 (lv_at hl 0 rfl) ?_
    refine lv_iload_n hx hb eX5_addLeaving_28 rfl (lv_at hl 4 rfl) ?_
    have hPz := zp_cut (k := (242 + ru)) hP (by omega)
    have hPc : va_P (dC, dI) vwCl ([] ++ [(az (242 + ru), .inr (7, [.ref (ac (242 + ru)), .int (nI (min (qs (242 + ru)) 4))])), (ac (242 + ru), .inl (kz (242 + ru), 16, .inl (fz (242 + ru))))]) _ := va_P.app (hP.sub [] rfl) hPz
    have hDc : va_D A ([] ++ [(az (242 + ru), .inr (7, [.ref (ac (242 + ru)), .int (nI (min (qs (242 + ru)) 4))])), (ac (242 + ru), .inl (kz (242 + ru), 16, .inl (fz (242 + ru))))]) := zp_cutD hD (by omega) [] (by decide) rfl
    have hKc : va_K (dC, dI) vwCl ([] ++ [(kz (242 + ru), .int)]) s := zp_K hK (by omega) [] rfl
    have hFc := pu_free hDc hS hA
    refine va_callv (va_runV (As := [.int (nI a2)]) (rest := []) ⟨hx, hb, hml, hown, hts⟩ (c_E_7_setAll_16 l dC dI _ (az (242 + ru)) (ac (242 + ru)) (min (qs (242 + ru)) 4) (kz (242 + ru)) (fz (242 + ru)) a2 (Nat.min_le_right _ _) ha2) (cwV 1 hts g_C_5_addLeaving_E_7_setAll_16 rfl rfl rfl (by decide +kernel) ⟨Nat.le_of_ble_eq_true rfl, Nat.le_of_ble_eq_true rfl⟩) ⟨pu_bl, va_recv hK hPz (ci := 7) (q0 := 0) rfl rfl, pu_in hPc hKc hDc⟩ rfl rfl hl.1 rfl (lv_room (Nat.le_of_ble_eq_true rfl)) eX5_addLeaving_29 ⟨Nat.le_of_ble_eq_true rfl, Nat.le_of_ble_eq_true rfl⟩) hS (fun q _ h => hFc q h) hFc (fun u t H1 locs ht hvm hw hB hz1 hk1 hS => ?_)
    obtain ⟨z_fz_4, ⟨hP1, -, hD1⟩, xr_3_0⟩ := hB
    rw [ht] at hP1
    obtain ⟨qs_5, fz_6, hP, hD⟩ := zp_put (wr := []) (k := (242 + ru)) hP hD (by omega) (fun q h => List.mem_append_left _ (pu_subm [] rfl q h)) hk1 ha2 hP1
    clear hP1 hD1 hFc
    clear hPc hDc hKc
    clear hk1 hz1 ht hvm
    generalize H1 = H at hP hS ⊢
    refine lv_aload_n hx hb eX5_addLeaving_32 rfl (lv_at hl 2 rfl) ?_
    refine lv_aload hx hb eX5_addLeaving_33 (lv_at hl 0 rfl) ?_
    refine lv_iload_n hx hb eX5_addLeaving_35 rfl (lv_at hl 3 rfl) ?_
    have hPz := zp_cut (k := (242 + ru)) hP (by omega)
    have hPc : va_P (dC, dI) vwCl ([(au, .inr (0, [.int (nI nc), .int (nI np), .int (nI ne), .int st0, .ref q4, .ref q5, .ref q6, .ref q7, .ref q8, .ref q9, .ref q10, .ref q11, .ref q12, .ref q13, .ref q14, .ref q15, .ref q16])), (q4, .inl (k_f4, 8, .inl f4)), (q5, .inl (k_f5, 14, .inl (bN 7 q_f5))), (q6, .inl (k_f6, 14, .inl (bN 7 q_f6))), (q7, .inl (k_f7, 14, .inl f7)), (q8, .inl (k_f8, 22, .inl (bN 4 q_f8))), (q9, .inl (k_f9, 88, .inl (bN 2 q_f9))), (q10, .inl (k_f10, 88, .inl f10)), (q11, .inl (k_f11, 88, .inl f11)), (q12, .inl (k_f12, 88, .inl f12)), (q13, .inl (k_f13, 88, .inl f13)), (q14, .inl (k_f14, 4, .inl f14)), (q15, .inl (k_f15, 4, .inl f15)), (q16, .inl (k_f16, 4, .inl f16))] ++ [(az (242 + ru), .inr (7, [.ref (ac (242 + ru)), .int (nI (min (qs_5 (242 + ru)) 4))])), (ac (242 + ru), .inl (kz (242 + ru), 16, .inl (fz_6 (242 + ru))))]) _ := va_P.app (hP.sub [6, 7, 8, 9, 10, 11, 12, 13, 14, 15, 16, 17, 18, 19] rfl) hPz
    have hDc : va_D A ([(au, .inr (0, [.int (nI nc), .int (nI np), .int (nI ne), .int st0, .ref q4, .ref q5, .ref q6, .ref q7, .ref q8, .ref q9, .ref q10, .ref q11, .ref q12, .ref q13, .ref q14, .ref q15, .ref q16])), (q4, .inl (k_f4, 8, .inl f4)), (q5, .inl (k_f5, 14, .inl (bN 7 q_f5))), (q6, .inl (k_f6, 14, .inl (bN 7 q_f6))), (q7, .inl (k_f7, 14, .inl f7)), (q8, .inl (k_f8, 22, .inl (bN 4 q_f8))), (q9, .inl (k_f9, 88, .inl (bN 2 q_f9))), (q10, .inl (k_f10, 88, .inl f10)), (q11, .inl (k_f11, 88, .inl f11)), (q12, .inl (k_f12, 88, .inl f12)), (q13, .inl (k_f13, 88, .inl f13)), (q14, .inl (k_f14, 4, .inl f14)), (q15, .inl (k_f15, 4, .inl f15)), (q16, .inl (k_f16, 4, .inl f16))] ++ [(az (242 + ru), .inr (7, [.ref (ac (242 + ru)), .int (nI (min (qs_5 (242 + ru)) 4))])), (ac (242 + ru), .inl (kz (242 + ru), 16, .inl (fz_6 (242 + ru))))]) := zp_cutD hD (by omega) [6, 7, 8, 9, 10, 11, 12, 13, 14, 15, 16, 17, 18, 19] (by decide) rfl
    have hKc : va_K (dC, dI) vwCl ([(k_f4, .boolean), (k_f5, .int), (k_f6, .int), (k_f7, .int), (k_f8, .int), (k_f9, .int), (k_f10, .int), (k_f11, .int), (k_f12, .int), (k_f13, .int), (k_f14, .int), (k_f15, .int), (k_f16, .int)] ++ [(kz (242 + ru), .int)]) s := zp_K hK (by omega) [5, 6, 7, 8, 9, 10, 11, 12, 13, 14, 15, 16, 17] rfl
    have hFc := pu_free hDc hS hA
    refine va_calli (va_runV (As := [.ref (az (242 + ru)), .int (nI a1)]) (rest := []) ⟨hx, hb, hml, hown, hts⟩ (c_E_0_opensIn_16 l dC dI _ au nc np ne st0 q4 q5 q6 q7 q8 q9 q10 q11 q12 q13 q14 q15 q16 k_f4 f4 k_f5 q_f5 k_f6 q_f6 k_f7 f7 k_f8 q_f8 k_f9 q_f9 k_f10 f10 k_f11 f11 k_f12 f12 k_f13 f13 k_f14 f14 k_f15 f15 k_f16 f16 (az (242 + ru)) (ac (242 + ru)) (min (qs_5 (242 + ru)) 4) (kz (242 + ru)) (fz_6 (242 + ru)) a1 hnc hnp hne (hst0) (Nat.min_le_right _ _) ha1) (cwV 2 hts g_C_5_addLeaving_E_0_opensIn_16 rfl rfl rfl (by decide +kernel) ⟨Nat.le_of_ble_eq_true rfl, Nat.le_of_ble_eq_true rfl⟩) ⟨pu_bl, va_recv hK hP (ci := 0) (q0 := 6) rfl rfl, pu_in hPc hKc hDc⟩ rfl rfl hl.1 rfl (lv_room (Nat.le_of_ble_eq_true rfl)) eX5_addLeaving_36 ⟨Nat.le_of_ble_eq_true rfl, Nat.le_of_ble_eq_true rfl⟩) hS (fun q _ h => hFc q h) hFc (fun r_7 u t H1 locs ht hvm hw hB hz1 hk1 hS => ?_)
    obtain ⟨z_fz_8, ⟨hP1, -, hD1⟩, xr_7_0⟩ := hB
    rw [ht] at hP1
    obtain ⟨qs_9, fz_10, hP, hD⟩ := zp_put (wr := [(au, .inr (0, [.int (nI nc), .int (nI np), .int (nI ne), .int st0, .ref q4, .ref q5, .ref q6, .ref q7, .ref q8, .ref q9, .ref q10, .ref q11, .ref q12, .ref q13, .ref q14, .ref q15, .ref q16])), (q4, .inl (k_f4, 8, .inl f4)), (q5, .inl (k_f5, 14, .inl (bN 7 q_f5))), (q6, .inl (k_f6, 14, .inl (bN 7 q_f6))), (q7, .inl (k_f7, 14, .inl f7)), (q8, .inl (k_f8, 22, .inl (bN 4 q_f8))), (q9, .inl (k_f9, 88, .inl (bN 2 q_f9))), (q10, .inl (k_f10, 88, .inl f10)), (q11, .inl (k_f11, 88, .inl f11)), (q12, .inl (k_f12, 88, .inl f12)), (q13, .inl (k_f13, 88, .inl f13)), (q14, .inl (k_f14, 4, .inl f14)), (q15, .inl (k_f15, 4, .inl f15)), (q16, .inl (k_f16, 4, .inl f16))]) (k := (242 + ru)) hP hD (by omega) (fun q h => List.mem_append_left _ (pu_subm [6, 7, 8, 9, 10, 11, 12, 13, 14, 15, 16, 17, 18, 19] rfl q h)) hk1 (Nat.min_le_right _ _) hP1
    clear hP1 hD1 hFc
    clear hPc hDc hKc
    clear hk1 hz1 ht hvm
    generalize H1 = H at hP hS ⊢
    obtain ⟨u_11, hu_11, rfl, iu_11⟩ := hw
    have iu_11 : (u_11, z_fz_8) = (sp_E_0_opensIn_16 q_f6 f7 q_f8 q_f9 f12 f13 (min (qs_5 (242 + ru)) 4) (fz_6 (242 + ru)) a1) := Prod.ext iu_11 xr_7_0
    refine lv_if_ne (tgt := 43) hx hb eX5_addLeaving_39 (by decide) (fun c_12 => ?_) (fun c_12 => ?_)
    · have c_12 : ¬ u_11 = 0 := fun z => c_12 ((nI_eq (a := u_11) (b := 0) (Nat.lt_of_le_of_lt hu_11 (Nat.le_of_ble_eq_true rfl)) (Nat.le_of_ble_eq_true rfl)).mpr z)
      refine lv_aload_n hx hb eX5_addLeaving_43 rfl (lv_at hl 1 rfl) ?_
      refine lv_dup hx hb eX5_addLeaving_44 rfl ?_
      refine va_get (D := (dC, dI)) (ci := 5) (v := .int (nI ru)) (C := RX5) (T := TX5) (N := 8) hx hb hts hiX5 hown hK hP 0 rfl rfl 3 (by decide) v_1 (fun _ h9 => h9) rfl eX5_addLeaving_45 ?_
      refine lv_iconst (v := 1) hx hb eX5_addLeaving_48 (by decide) ?_
      refine lv_iadd hx hb eX5_addLeaving_49 ?_
      refine lv_topi (fun y_13 ey_13 => ?_)
      obtain rfl : y_13 = (nI (ru + 1)) := ey_13.trans (nI_add ru 1)
      refine va_put (D := (dC, dI)) (ci := 5) (v := .int (nI (ru + 1))) (ty := .int) (C := RX5) (T := TX5) (N := 8) hx hb hts hiX5 tyX5 tyX5_ok nmX5 hown hK hP hD hS 0 rfl rfl 3 (by decide) v_1 (fun _ h9 => h9) rfl (by decide +kernel) rfl rfl (Nat.le_of_ble_eq_true rfl) eX5_addLeaving_50 (fun H locs hP hD hS => ?_)
      have hP : va_P (dC, dI) vwCl ((rma__w rm rcv (nI rk) rmd (nI (ru + 1)) rpc rct rce (az 392) k_fcv fcv k_fmd (zs 242 28 az) k_fpc (zs 270 122 az) k_fct fct k_fce (bN 16 q_fce) au (nI nc) (nI np) (nI ne) st0 q4 q5 q6 q7 q8 q9 q10 q11 q12 q13 q14 q15 q16 k_f4 f4 k_f5 (bN 7 q_f5) k_f6 (bN 7 q_f6) k_f7 f7 k_f8 (bN 4 q_f8) k_f9 (bN 2 q_f9) k_f10 f10 k_f11 f11 k_f12 f12 k_f13 f13 k_f14 f14 k_f15 f15 k_f16 f16) ++ zp 4 16 N az ac kz qs_9 fz_10) H := hP
      have hD : va_D A ((rma__w rm rcv (nI rk) rmd (nI (ru + 1)) rpc rct rce (az 392) k_fcv fcv k_fmd (zs 242 28 az) k_fpc (zs 270 122 az) k_fct fct k_fce (bN 16 q_fce) au (nI nc) (nI np) (nI ne) st0 q4 q5 q6 q7 q8 q9 q10 q11 q12 q13 q14 q15 q16 k_f4 f4 k_f5 (bN 7 q_f5) k_f6 (bN 7 q_f6) k_f7 f7 k_f8 (bN 4 q_f8) k_f9 (bN 2 q_f9) k_f10 f10 k_f11 f11 k_f12 f12 k_f13 f13 k_f14 f14 k_f15 f15 k_f16 f16) ++ zp 4 16 N az ac kz qs_9 fz_10) := hD
      refine lv_aload_n hx hb eX5_addLeaving_53 rfl (lv_at hl 1 rfl) ?_
      refine lv_aload hx hb eX5_addLeaving_54 (lv_at hl 0 rfl) ?_
      have hPc : va_P (dC, dI) vwCl ([(rm, .inr (5, [.ref rcv, .int (nI rk), .ref rmd, .int (nI (ru + 1)), .ref rpc, .ref rct, .ref rce, .ref (az 392)])), (rcv, .inl (k_fcv, 120, .inr (.inr (.inr (.inr fcv))))), (rmd, .inl (k_fmd, 28, .inr (.inr (.inr (.inr (zs 242 28 az)))))), (rpc, .inl (k_fpc, 122, .inr (.inr (.inr (.inr (zs 270 122 az)))))), (rct, .inl (k_fct, 122, .inl fct)), (rce, .inl (k_fce, 122, .inl (bN 16 q_fce)))] ++ zp 4 16 N az ac kz qs_9 fz_10) _ := hP.part [0, 1, 2, 3, 4, 5] rfl
      have hDc : va_D A ([(rm, .inr (5, [.ref rcv, .int (nI rk), .ref rmd, .int (nI (ru + 1)), .ref rpc, .ref rct, .ref rce, .ref (az 392)])), (rcv, .inl (k_fcv, 120, .inr (.inr (.inr (.inr fcv))))), (rmd, .inl (k_fmd, 28, .inr (.inr (.inr (.inr (zs 242 28 az)))))), (rpc, .inl (k_fpc, 122, .inr (.inr (.inr (.inr (zs 270 122 az)))))), (rct, .inl (k_fct, 122, .inl fct)), (rce, .inl (k_fce, 122, .inl (bN 16 q_fce)))] ++ zp 4 16 N az ac kz qs_9 fz_10) := hD.part [0, 1, 2, 3, 4, 5] (by decide) rfl
      have hKc : va_K (dC, dI) vwCl ([(k_fcv, .object RX7), (k_fmd, .object RX7), (k_fpc, .object RX7), (k_fct, .int), (k_fce, .int)] ++ zt N kz) s := zk_part hK [0, 1, 2, 3, 4] rfl
      have hFc := pu_free hDc hS hA
      refine va_callv (va_runV (As := [.ref (az (242 + ru))]) (rest := []) ⟨hx, hb, hml, hown, hts⟩ (c_C_5_add l dC dI _ rm rcv rk rmd (ru + 1) rpc rct rce k_fcv fcv k_fmd k_fpc k_fct fct k_fce q_fce N az ac kz qs_9 fz_10 (242 + ru) hrk (by omega) (by omega) (by omega) (by assumption) (by omega)) (cwV 1 hts g_C_5_addLeaving_C_5_add rfl rfl rfl (by decide +kernel) ⟨Nat.le_of_ble_eq_true rfl, Nat.le_of_ble_eq_true rfl⟩) ⟨pu_bl, va_recv hK hP (ci := 5) (q0 := 0) rfl rfl, pu_in hPc hKc hDc⟩ rfl rfl hl.1 rfl (lv_room (Nat.le_of_ble_eq_true rfl)) eX5_addLeaving_56 ⟨Nat.le_of_ble_eq_true rfl, Nat.le_of_ble_eq_true rfl⟩) hS (fun q _ h => hFc q h) hFc (fun u t H1 locs ht hvm hw hB hz1 hk1 hS => ?_)
      obtain ⟨z_fcv_15, z_rk_16, ⟨hP1, -, hD1⟩, hz_rk_16, xr_14_0⟩ := hB
      rw [ht] at hP1
      obtain ⟨hP, hD⟩ := pj_c (X := (rma__w rm rcv (nI rk) rmd (nI (ru + 1)) rpc rct rce (az 392) k_fcv fcv k_fmd (zs 242 28 az) k_fpc (zs 270 122 az) k_fct fct k_fce (bN 16 q_fce) au (nI nc) (nI np) (nI ne) st0 q4 q5 q6 q7 q8 q9 q10 q11 q12 q13 q14 q15 q16 k_f4 f4 k_f5 (bN 7 q_f5) k_f6 (bN 7 q_f6) k_f7 f7 k_f8 (bN 4 q_f8) k_f9 (bN 2 q_f9) k_f10 f10 k_f11 f11 k_f12 f12 k_f13 f13 k_f14 f14 k_f15 f15 k_f16 f16)) (X' := (rma__w rm rcv (nI z_rk_16) rmd (nI (ru + 1)) rpc rct rce (az 392) k_fcv z_fcv_15 k_fmd (zs 242 28 az) k_fpc (zs 270 122 az) k_fct fct k_fce (bN 16 q_fce) au (nI nc) (nI np) (nI ne) st0 q4 q5 q6 q7 q8 q9 q10 q11 q12 q13 q14 q15 q16 k_f4 f4 k_f5 (bN 7 q_f5) k_f6 (bN 7 q_f6) k_f7 f7 k_f8 (bN 4 q_f8) k_f9 (bN 2 q_f9) k_f10 f10 k_f11 f11 k_f12 f12 k_f13 f13 k_f14 f14 k_f15 f15 k_f16 f16)) (wc := (rm__w rm rcv (nI rk) rmd (nI (ru + 1)) rpc rct rce (az 392) k_fcv fcv k_fmd (zs 242 28 az) k_fpc (zs 270 122 az) k_fct fct k_fce (bN 16 q_fce))) (w1 := (rm__w rm rcv (nI z_rk_16) rmd (nI (ru + 1)) rpc rct rce (az 392) k_fcv z_fcv_15 k_fmd (zs 242 28 az) k_fpc (zs 270 122 az) k_fct fct k_fce (bN 16 q_fce))) hP hD [0, 1, 2, 3, 4, 5] [0, 1, 2, 3, 4, 5, 12, 13, 14, 15, 16, 17, 18, 19, 20, 21, 22, 23, 24, 25] 6 rfl hk1 hP1 rfl zp_f rfl rfl (by decide)
      clear hP1 hD1 hFc
      clear hPc hDc hKc
      clear hk1 hz1 ht hvm
      generalize H1 = H at hP hS ⊢
      refine lv_aload_n hx hb eX5_addLeaving_59 rfl (lv_at hl 2 rfl) ?_
      refine va_get (D := (dC, dI)) (ci := 0) (v := .ref q5) (C := RX0) (T := TX0) (N := 17) hx hb hts hiX0 hown hK hP 6 rfl rfl 5 (by decide) v_18 (fun _ h9 => h9) rfl eX5_addLeaving_60 ?_
      refine lv_iload_n hx hb eX5_addLeaving_63 rfl (lv_at hl 3 rfl) ?_
      refine va_iald hx hb hK hP 8 6 rfl rfl (vp_in_nI (n := a1) (Nat.lt_of_le_of_lt ha1 (Nat.le_of_ble_eq_true rfl)) (Nat.le_of_ble_eq_true rfl)) eX5_addLeaving_64 ?_
      refine lv_topi (fun y_17 ey_17 => ?_)
      obtain ⟨u_18, hu_18, qu_18⟩ := bN_get 7 q_f5 (((nI a1) : Int32).toNatClampNeg)
      obtain rfl : y_17 = nI u_18 := ey_17.trans qu_18
      refine lv_istore (lv' := [(5, .int (nI u_18)), (4, .ref (az (242 + ru))), (0, .ref rm), (1, .ref au), (2, .int (nI a1)), (3, .int (nI a2))]) hx hb eX5_addLeaving_65 hl (by decide) rfl (fun ls hl => ?_)
      refine lv_aload_n hx hb eX5_addLeaving_67 rfl (lv_at hl 2 rfl) ?_
      refine va_get (D := (dC, dI)) (ci := 5) (v := .ref rmd) (C := RX5) (T := TX5) (N := 8) hx hb hts hiX5 hown hK hP 0 rfl rfl 2 (by decide) v_2 (fun _ h9 => h9) rfl eX5_addLeaving_68 ?_
      refine lv_aload_n hx hb eX5_addLeaving_71 rfl (lv_at hl 2 rfl) ?_
      refine va_get (D := (dC, dI)) (ci := 5) (v := .int (nI (ru + 1))) (C := RX5) (T := TX5) (N := 8) hx hb hts hiX5 hown hK hP 0 rfl rfl 3 (by decide) v_1 (fun _ h9 => h9) rfl eX5_addLeaving_72 ?_
      refine va_aldq hx hb hK hP 2 1 rfl rfl (vp_in_nI (n := (ru + 1)) (by omega) (Nat.le_of_ble_eq_true rfl)) eX5_addLeaving_75 ?_
      refine W.eq (g2 := F0 m 76 ls [.ref (az (242 + (ru + 1)))]) (by rw [zs_get (by omega) (by omega)]) ?_
      refine lv_astore (lv' := [(6, .ref (az (242 + (ru + 1)))), (5, .int (nI u_18)), (4, .ref (az (242 + ru))), (0, .ref rm), (1, .ref au), (2, .int (nI a1)), (3, .int (nI a2))]) hx hb eX5_addLeaving_76 hl (by decide) rfl (fun ls hl => ?_)
      refine lv_aload hx hb eX5_addLeaving_78 (lv_at hl 0 rfl) ?_
      refine lv_aload hx hb eX5_addLeaving_80 (lv_at hl 2 rfl) ?_
      have hPz := zp_cut (k := (242 + (ru + 1))) hP (by omega)
      have hPy := zp_cut (k := (242 + ru)) hP (by omega)
      have hPc : va_P (dC, dI) vwCl ([(az (242 + ru), .inr (7, [.ref (ac (242 + ru)), .int (nI (min (qs_9 (242 + ru)) 4))])), (ac (242 + ru), .inl (kz (242 + ru), 16, .inl (fz_10 (242 + ru))))] ++ [(az (242 + (ru + 1)), .inr (7, [.ref (ac (242 + (ru + 1))), .int (nI (min (qs_9 (242 + (ru + 1))) 4))])), (ac (242 + (ru + 1)), .inl (kz (242 + (ru + 1)), 16, .inl (fz_10 (242 + (ru + 1)))))]) _ := va_P.app hPy hPz
      have hDc : va_D A ([(az (242 + ru), .inr (7, [.ref (ac (242 + ru)), .int (nI (min (qs_9 (242 + ru)) 4))])), (ac (242 + ru), .inl (kz (242 + ru), 16, .inl (fz_10 (242 + ru))))] ++ [(az (242 + (ru + 1)), .inr (7, [.ref (ac (242 + (ru + 1))), .int (nI (min (qs_9 (242 + (ru + 1))) 4))])), (ac (242 + (ru + 1)), .inl (kz (242 + (ru + 1)), 16, .inl (fz_10 (242 + (ru + 1)))))]) := zp_cutD2 hD (by omega) (by omega) (by omega)
      have hKc : va_K (dC, dI) vwCl [(kz (242 + ru), .int), (kz (242 + (ru + 1)), .int)] s := zp_K2 hK (by omega) (by omega)
      have hFc := pu_free hDc hS hA
      refine va_callv (va_runV (As := [.ref (az (242 + ru))]) (rest := []) ⟨hx, hb, hml, hown, hts⟩ (c_E_7_copyOf_16 l dC dI _ (az (242 + ru)) (ac (242 + ru)) (min (qs_9 (242 + ru)) 4) (kz (242 + ru)) (fz_10 (242 + ru)) (az (242 + (ru + 1))) (ac (242 + (ru + 1))) (min (qs_9 (242 + (ru + 1))) 4) (kz (242 + (ru + 1))) (fz_10 (242 + (ru + 1))) (Nat.min_le_right _ _) (Nat.min_le_right _ _)) (cwV 1 hts g_C_5_addLeaving_E_7_copyOf_16 rfl rfl rfl (by decide +kernel) ⟨Nat.le_of_ble_eq_true rfl, Nat.le_of_ble_eq_true rfl⟩) ⟨pu_bl, va_recv hK hPz (ci := 7) (q0 := 0) rfl rfl, pu_in hPc hKc hDc⟩ rfl rfl hl.1 rfl (lv_room (Nat.le_of_ble_eq_true rfl)) eX5_addLeaving_82 ⟨Nat.le_of_ble_eq_true rfl, Nat.le_of_ble_eq_true rfl⟩) hS (fun q _ h => hFc q h) hFc (fun u t H1 locs ht hvm hw hB hz1 hk1 hS => ?_)
      obtain ⟨z_fz_20, ⟨hP1, -, hD1⟩, xr_19_0⟩ := hB
      rw [ht] at hP1
      obtain ⟨qs_21, fz_22, hP, hD⟩ := zp_put (wr := [(az (242 + ru), .inr (7, [.ref (ac (242 + ru)), .int (nI (min (qs_9 (242 + ru)) 4))])), (ac (242 + ru), .inl (kz (242 + ru), 16, .inl (fz_10 (242 + ru))))]) (k := (242 + (ru + 1))) hP hD (by omega) (zp_two (by omega)) hk1 (Nat.min_le_right _ _) hP1
      clear hP1 hD1 hFc
      clear hPc hDc hKc
      clear hk1 hz1 ht hvm
      generalize H1 = H at hP hS ⊢
      refine lv_aload_n hx hb eX5_addLeaving_85 rfl (lv_at hl 4 rfl) ?_
      refine va_get (D := (dC, dI)) (ci := 0) (v := .ref q4) (C := RX0) (T := TX0) (N := 17) hx hb hts hiX0 hown hK hP 6 rfl rfl 4 (by decide) v_23 (fun _ h9 => h9) rfl eX5_addLeaving_86 ?_
      refine lv_iload hx hb eX5_addLeaving_89 (lv_at hl 1 rfl) ?_
      refine va_zald hx hb hK hP 7 5 rfl rfl (vp_in_nI (n := u_18) (Nat.lt_of_le_of_lt hu_18 (Nat.le_of_ble_eq_true rfl)) (Nat.le_of_ble_eq_true rfl)) eX5_addLeaving_91 ?_
      refine lv_topi (fun y_23 ey_23 => ?_)
      refine lv_if_ne (tgt := 131) hx hb eX5_addLeaving_92 (by decide) (fun c_24 => ?_) (fun c_24 => ?_)
      · exact W.vret hx hb hr (fun t ht hW => ⟨⟨(), rfl, trivial, ⟨z_fcv_15, z_rk_16, (ru + 1), fz_22, qs_21, ⟨by rw [ht]; exact hP, va_K.moved hW.alike hK, hD⟩, hz_rk_16, (by omega), by assumption⟩⟩, hS.F ht⟩) hS.2.2 eX5_addLeaving_131
      · refine lv_aload_n hx hb eX5_addLeaving_95 rfl (lv_at hl 4 rfl) ?_
        refine lv_aload hx hb eX5_addLeaving_96 (lv_at hl 0 rfl) ?_
        refine lv_iload hx hb eX5_addLeaving_98 (lv_at hl 1 rfl) ?_
        have hPc : va_P (dC, dI) vwCl [] _ := hP.sub [] rfl
        have hDc : va_D A [] := (zp_left hD).sub [] (by decide) rfl
        have hKc : va_K (dC, dI) vwCl [] s := hK.sub [] rfl
        refine va_calli (va_runS (As := [.int (nI u_18)]) (rest := [.ref (az (242 + (ru + 1))), .ref au]) ⟨hx, hb, hml, hown, hts⟩ (c_E_0_hostOfPlace l dC dI _ u_18 hu_18) (va_cwS 1 hts g_C_5_addLeaving_E_0_hostOfPlace rfl rfl rfl (by decide +kernel) ⟨Nat.le_of_ble_eq_true rfl, Nat.le_of_ble_eq_true rfl⟩) ⟨pu_bl, pu_in hPc hKc hDc⟩ rfl rfl hl.1 rfl (lv_room (Nat.le_of_ble_eq_true rfl)) eX5_addLeaving_100 ⟨Nat.le_of_ble_eq_true rfl, Nat.le_of_ble_eq_true rfl⟩) hS (fun q _ h => pu_fr hS hA q h) (pu_fr hS hA) (fun r_25 u t H1 locs ht hvm hw hB hz1 hk1 hS => ?_)
        have hP := pu_keep hP hk1
        clear hPc hDc hKc
        clear hk1 hz1 ht hvm
        generalize H1 = H at hP hS ⊢
        obtain rfl : r_25 = nI (14 + u_18) := hw
        refine lv_iconst (v := 0) hx hb eX5_addLeaving_103 (by decide) ?_
        have hPz := zp_cut (k := (242 + (ru + 1))) hP (by omega)
        have hPc : va_P (dC, dI) vwCl ([(au, .inr (0, [.int (nI nc), .int (nI np), .int (nI ne), .int st0, .ref q4, .ref q5, .ref q6, .ref q7, .ref q8, .ref q9, .ref q10, .ref q11, .ref q12, .ref q13, .ref q14, .ref q15, .ref q16])), (q4, .inl (k_f4, 8, .inl f4)), (q5, .inl (k_f5, 14, .inl (bN 7 q_f5))), (q6, .inl (k_f6, 14, .inl (bN 7 q_f6))), (q7, .inl (k_f7, 14, .inl f7)), (q8, .inl (k_f8, 22, .inl (bN 4 q_f8))), (q9, .inl (k_f9, 88, .inl (bN 2 q_f9))), (q10, .inl (k_f10, 88, .inl f10)), (q11, .inl (k_f11, 88, .inl f11)), (q12, .inl (k_f12, 88, .inl f12)), (q13, .inl (k_f13, 88, .inl f13)), (q14, .inl (k_f14, 4, .inl f14)), (q15, .inl (k_f15, 4, .inl f15)), (q16, .inl (k_f16, 4, .inl f16))] ++ [(az (242 + (ru + 1)), .inr (7, [.ref (ac (242 + (ru + 1))), .int (nI (min (qs_21 (242 + (ru + 1))) 4))])), (ac (242 + (ru + 1)), .inl (kz (242 + (ru + 1)), 16, .inl (fz_22 (242 + (ru + 1)))))]) _ := va_P.app (hP.sub [6, 7, 8, 9, 10, 11, 12, 13, 14, 15, 16, 17, 18, 19] rfl) hPz
        have hDc : va_D A ([(au, .inr (0, [.int (nI nc), .int (nI np), .int (nI ne), .int st0, .ref q4, .ref q5, .ref q6, .ref q7, .ref q8, .ref q9, .ref q10, .ref q11, .ref q12, .ref q13, .ref q14, .ref q15, .ref q16])), (q4, .inl (k_f4, 8, .inl f4)), (q5, .inl (k_f5, 14, .inl (bN 7 q_f5))), (q6, .inl (k_f6, 14, .inl (bN 7 q_f6))), (q7, .inl (k_f7, 14, .inl f7)), (q8, .inl (k_f8, 22, .inl (bN 4 q_f8))), (q9, .inl (k_f9, 88, .inl (bN 2 q_f9))), (q10, .inl (k_f10, 88, .inl f10)), (q11, .inl (k_f11, 88, .inl f11)), (q12, .inl (k_f12, 88, .inl f12)), (q13, .inl (k_f13, 88, .inl f13)), (q14, .inl (k_f14, 4, .inl f14)), (q15, .inl (k_f15, 4, .inl f15)), (q16, .inl (k_f16, 4, .inl f16))] ++ [(az (242 + (ru + 1)), .inr (7, [.ref (ac (242 + (ru + 1))), .int (nI (min (qs_21 (242 + (ru + 1))) 4))])), (ac (242 + (ru + 1)), .inl (kz (242 + (ru + 1)), 16, .inl (fz_22 (242 + (ru + 1)))))]) := zp_cutD hD (by omega) [6, 7, 8, 9, 10, 11, 12, 13, 14, 15, 16, 17, 18, 19] (by decide) rfl
        have hKc : va_K (dC, dI) vwCl ([(k_f4, .boolean), (k_f5, .int), (k_f6, .int), (k_f7, .int), (k_f8, .int), (k_f9, .int), (k_f10, .int), (k_f11, .int), (k_f12, .int), (k_f13, .int), (k_f14, .int), (k_f15, .int), (k_f16, .int)] ++ [(kz (242 + (ru + 1)), .int)]) s := zp_K hK (by omega) [5, 6, 7, 8, 9, 10, 11, 12, 13, 14, 15, 16, 17] rfl
        have hFc := pu_free hDc hS hA
        refine va_calli (va_runV (As := [.ref (az (242 + (ru + 1))), .int (nI (14 + u_18)), .int 0]) (rest := []) ⟨hx, hb, hml, hown, hts⟩ (c_E_0_narrowTo_16 l dC dI _ au nc np ne st0 q4 q5 q6 q7 q8 q9 q10 q11 q12 q13 q14 q15 q16 k_f4 f4 k_f5 q_f5 k_f6 q_f6 k_f7 f7 k_f8 q_f8 k_f9 q_f9 k_f10 f10 k_f11 f11 k_f12 f12 k_f13 f13 k_f14 f14 k_f15 f15 k_f16 f16 (az (242 + (ru + 1))) (ac (242 + (ru + 1))) (min (qs_21 (242 + (ru + 1))) 4) (kz (242 + (ru + 1))) (fz_22 (242 + (ru + 1))) (14 + u_18) 0 hnc hnp hne (hst0) (Nat.min_le_right _ _) (by omega)) (cwV 3 hts g_C_5_addLeaving_E_0_narrowTo_16 rfl rfl rfl (by decide +kernel) ⟨Nat.le_of_ble_eq_true rfl, Nat.le_of_ble_eq_true rfl⟩) ⟨pu_bl, va_recv hK hP (ci := 0) (q0 := 6) rfl rfl, pu_in hPc hKc hDc⟩ rfl rfl hl.1 rfl (lv_room (Nat.le_of_ble_eq_true rfl)) eX5_addLeaving_104 ⟨Nat.le_of_ble_eq_true rfl, Nat.le_of_ble_eq_true rfl⟩) hS (fun q _ h => hFc q h) hFc (fun r_26 u t H1 locs ht hvm hw hB hz1 hk1 hS => ?_)
        obtain ⟨z_fz_27, ⟨hP1, -, hD1⟩, xr_26_0⟩ := hB
        rw [ht] at hP1
        obtain ⟨qs_28, fz_29, hP, hD⟩ := zp_put (wr := [(au, .inr (0, [.int (nI nc), .int (nI np), .int (nI ne), .int st0, .ref q4, .ref q5, .ref q6, .ref q7, .ref q8, .ref q9, .ref q10, .ref q11, .ref q12, .ref q13, .ref q14, .ref q15, .ref q16])), (q4, .inl (k_f4, 8, .inl f4)), (q5, .inl (k_f5, 14, .inl (bN 7 q_f5))), (q6, .inl (k_f6, 14, .inl (bN 7 q_f6))), (q7, .inl (k_f7, 14, .inl f7)), (q8, .inl (k_f8, 22, .inl (bN 4 q_f8))), (q9, .inl (k_f9, 88, .inl (bN 2 q_f9))), (q10, .inl (k_f10, 88, .inl f10)), (q11, .inl (k_f11, 88, .inl f11)), (q12, .inl (k_f12, 88, .inl f12)), (q13, .inl (k_f13, 88, .inl f13)), (q14, .inl (k_f14, 4, .inl f14)), (q15, .inl (k_f15, 4, .inl f15)), (q16, .inl (k_f16, 4, .inl f16))]) (k := (242 + (ru + 1))) hP hD (by omega) (fun q h => List.mem_append_left _ (pu_subm [6, 7, 8, 9, 10, 11, 12, 13, 14, 15, 16, 17, 18, 19] rfl q h)) hk1 (Nat.min_le_right _ _) hP1
        clear hP1 hD1 hFc
        clear hPc hDc hKc
        clear hk1 hz1 ht hvm
        generalize H1 = H at hP hS ⊢
        obtain ⟨u_30, hu_30, rfl, iu_30⟩ := hw
        have iu_30 : (u_30, z_fz_27) = (sp_E_0_narrowTo_16 q_f8 q_f9 f12 f13 (min (qs_21 (242 + (ru + 1))) 4) (fz_22 (242 + (ru + 1))) (14 + u_18) 0) := Prod.ext iu_30 xr_26_0
        refine lv_if_eq (tgt := 131) hx hb eX5_addLeaving_107 (by decide) (fun c_31 => ?_) (fun c_31 => ?_)
        · have c_31 : u_30 = 0 := (nI_eq (a := u_30) (b := 0) (Nat.lt_of_le_of_lt hu_30 (Nat.le_of_ble_eq_true rfl)) (Nat.le_of_ble_eq_true rfl)).mp c_31
          exact W.vret hx hb hr (fun t ht hW => ⟨⟨(), rfl, trivial, ⟨z_fcv_15, z_rk_16, (ru + 1), fz_29, qs_28, ⟨by rw [ht]; exact hP, va_K.moved hW.alike hK, hD⟩, hz_rk_16, (by omega), by assumption⟩⟩, hS.F ht⟩) hS.2.2 eX5_addLeaving_131
        · have c_31 : ¬ u_30 = 0 := fun z => c_31 ((nI_eq (a := u_30) (b := 0) (Nat.lt_of_le_of_lt hu_30 (Nat.le_of_ble_eq_true rfl)) (Nat.le_of_ble_eq_true rfl)).mpr z)
          refine lv_aload hx hb eX5_addLeaving_110 (lv_at hl 0 rfl) ?_
          have hPz := zp_cut (k := (242 + (ru + 1))) hP (by omega)
          have hPc : va_P (dC, dI) vwCl ([] ++ [(az (242 + (ru + 1)), .inr (7, [.ref (ac (242 + (ru + 1))), .int (nI (min (qs_28 (242 + (ru + 1))) 4))])), (ac (242 + (ru + 1)), .inl (kz (242 + (ru + 1)), 16, .inl (fz_29 (242 + (ru + 1)))))]) _ := va_P.app (hP.sub [] rfl) hPz
          have hDc : va_D A ([] ++ [(az (242 + (ru + 1)), .inr (7, [.ref (ac (242 + (ru + 1))), .int (nI (min (qs_28 (242 + (ru + 1))) 4))])), (ac (242 + (ru + 1)), .inl (kz (242 + (ru + 1)), 16, .inl (fz_29 (242 + (ru + 1)))))]) := zp_cutD hD (by omega) [] (by decide) rfl
          have hKc : va_K (dC, dI) vwCl ([] ++ [(kz (242 + (ru + 1)), .int)]) s := zp_K hK (by omega) [] rfl
          have hFc := pu_free hDc hS hA
          refine va_callv (va_runV (As := []) (rest := []) ⟨hx, hb, hml, hown, hts⟩ (c_E_7_setPast_16 l dC dI _ (az (242 + (ru + 1))) (ac (242 + (ru + 1))) (min (qs_28 (242 + (ru + 1))) 4) (kz (242 + (ru + 1))) (fz_29 (242 + (ru + 1))) (Nat.min_le_right _ _)) (cwV 0 hts g_C_5_addLeaving_E_7_setPast_16 rfl rfl rfl (by decide +kernel) ⟨Nat.le_of_ble_eq_true rfl, Nat.le_of_ble_eq_true rfl⟩) ⟨pu_bl, va_recv hK hPz (ci := 7) (q0 := 0) rfl rfl, pu_in hPc hKc hDc⟩ rfl rfl hl.1 rfl (lv_room (Nat.le_of_ble_eq_true rfl)) eX5_addLeaving_112 ⟨Nat.le_of_ble_eq_true rfl, Nat.le_of_ble_eq_true rfl⟩) hS (fun q _ h => hFc q h) hFc (fun u t H1 locs ht hvm hw hB hz1 hk1 hS => ?_)
          obtain ⟨z_fz_33, ⟨hP1, -, hD1⟩, xr_32_0⟩ := hB
          rw [ht] at hP1
          obtain ⟨qs_34, fz_35, hP, hD⟩ := zp_put (wr := []) (k := (242 + (ru + 1))) hP hD (by omega) (fun q h => List.mem_append_left _ (pu_subm [] rfl q h)) hk1 (Nat.min_le_right _ _) hP1
          clear hP1 hD1 hFc
          clear hPc hDc hKc
          clear hk1 hz1 ht hvm
          generalize H1 = H at hP hS ⊢
          refine lv_aload_n hx hb eX5_addLeaving_115 rfl (lv_at hl 3 rfl) ?_
          refine lv_dup hx hb eX5_addLeaving_116 rfl ?_
          refine va_get (D := (dC, dI)) (ci := 5) (v := .int (nI (ru + 1))) (C := RX5) (T := TX5) (N := 8) hx hb hts hiX5 hown hK hP 0 rfl rfl 3 (by decide) v_1 (fun _ h9 => h9) rfl eX5_addLeaving_117 ?_
          refine lv_iconst (v := 1) hx hb eX5_addLeaving_120 (by decide) ?_
          refine lv_iadd hx hb eX5_addLeaving_121 ?_
          refine lv_topi (fun y_36 ey_36 => ?_)
          obtain rfl : y_36 = (nI ((ru + 1) + 1)) := ey_36.trans (nI_add (ru + 1) 1)
          refine va_put (D := (dC, dI)) (ci := 5) (v := .int (nI ((ru + 1) + 1))) (ty := .int) (C := RX5) (T := TX5) (N := 8) hx hb hts hiX5 tyX5 tyX5_ok nmX5 hown hK hP hD hS 0 rfl rfl 3 (by decide) v_1 (fun _ h9 => h9) rfl (by decide +kernel) rfl rfl (Nat.le_of_ble_eq_true rfl) eX5_addLeaving_122 (fun H locs hP hD hS => ?_)
          have hP : va_P (dC, dI) vwCl ((rma__w rm rcv (nI z_rk_16) rmd (nI ((ru + 1) + 1)) rpc rct rce (az 392) k_fcv z_fcv_15 k_fmd (zs 242 28 az) k_fpc (zs 270 122 az) k_fct fct k_fce (bN 16 q_fce) au (nI nc) (nI np) (nI ne) st0 q4 q5 q6 q7 q8 q9 q10 q11 q12 q13 q14 q15 q16 k_f4 f4 k_f5 (bN 7 q_f5) k_f6 (bN 7 q_f6) k_f7 f7 k_f8 (bN 4 q_f8) k_f9 (bN 2 q_f9) k_f10 f10 k_f11 f11 k_f12 f12 k_f13 f13 k_f14 f14 k_f15 f15 k_f16 f16) ++ zp 4 16 N az ac kz qs_34 fz_35) H := hP
          have hD : va_D A ((rma__w rm rcv (nI z_rk_16) rmd (nI ((ru + 1) + 1)) rpc rct rce (az 392) k_fcv z_fcv_15 k_fmd (zs 242 28 az) k_fpc (zs 270 122 az) k_fct fct k_fce (bN 16 q_fce) au (nI nc) (nI np) (nI ne) st0 q4 q5 q6 q7 q8 q9 q10 q11 q12 q13 q14 q15 q16 k_f4 f4 k_f5 (bN 7 q_f5) k_f6 (bN 7 q_f6) k_f7 f7 k_f8 (bN 4 q_f8) k_f9 (bN 2 q_f9) k_f10 f10 k_f11 f11 k_f12 f12 k_f13 f13 k_f14 f14 k_f15 f15 k_f16 f16) ++ zp 4 16 N az ac kz qs_34 fz_35) := hD
          refine lv_aload_n hx hb eX5_addLeaving_125 rfl (lv_at hl 3 rfl) ?_
          refine lv_aload hx hb eX5_addLeaving_126 (lv_at hl 0 rfl) ?_
          have hPc : va_P (dC, dI) vwCl ([(rm, .inr (5, [.ref rcv, .int (nI z_rk_16), .ref rmd, .int (nI ((ru + 1) + 1)), .ref rpc, .ref rct, .ref rce, .ref (az 392)])), (rcv, .inl (k_fcv, 120, .inr (.inr (.inr (.inr z_fcv_15))))), (rmd, .inl (k_fmd, 28, .inr (.inr (.inr (.inr (zs 242 28 az)))))), (rpc, .inl (k_fpc, 122, .inr (.inr (.inr (.inr (zs 270 122 az)))))), (rct, .inl (k_fct, 122, .inl fct)), (rce, .inl (k_fce, 122, .inl (bN 16 q_fce)))] ++ zp 4 16 N az ac kz qs_34 fz_35) _ := hP.part [0, 1, 2, 3, 4, 5] rfl
          have hDc : va_D A ([(rm, .inr (5, [.ref rcv, .int (nI z_rk_16), .ref rmd, .int (nI ((ru + 1) + 1)), .ref rpc, .ref rct, .ref rce, .ref (az 392)])), (rcv, .inl (k_fcv, 120, .inr (.inr (.inr (.inr z_fcv_15))))), (rmd, .inl (k_fmd, 28, .inr (.inr (.inr (.inr (zs 242 28 az)))))), (rpc, .inl (k_fpc, 122, .inr (.inr (.inr (.inr (zs 270 122 az)))))), (rct, .inl (k_fct, 122, .inl fct)), (rce, .inl (k_fce, 122, .inl (bN 16 q_fce)))] ++ zp 4 16 N az ac kz qs_34 fz_35) := hD.part [0, 1, 2, 3, 4, 5] (by decide) rfl
          have hKc : va_K (dC, dI) vwCl ([(k_fcv, .object RX7), (k_fmd, .object RX7), (k_fpc, .object RX7), (k_fct, .int), (k_fce, .int)] ++ zt N kz) s := zk_part hK [0, 1, 2, 3, 4] rfl
          have hFc := pu_free hDc hS hA
          refine va_callv (va_runV (As := [.ref (az (242 + (ru + 1)))]) (rest := []) ⟨hx, hb, hml, hown, hts⟩ (c_C_5_add l dC dI _ rm rcv z_rk_16 rmd ((ru + 1) + 1) rpc rct rce k_fcv z_fcv_15 k_fmd k_fpc k_fct fct k_fce q_fce N az ac kz qs_34 fz_35 (242 + (ru + 1)) hz_rk_16 (by omega) (by omega) (by omega) (by assumption) (by omega)) (cwV 1 hts g_C_5_addLeaving_C_5_add rfl rfl rfl (by decide +kernel) ⟨Nat.le_of_ble_eq_true rfl, Nat.le_of_ble_eq_true rfl⟩) ⟨pu_bl, va_recv hK hP (ci := 5) (q0 := 0) rfl rfl, pu_in hPc hKc hDc⟩ rfl rfl hl.1 rfl (lv_room (Nat.le_of_ble_eq_true rfl)) eX5_addLeaving_128 ⟨Nat.le_of_ble_eq_true rfl, Nat.le_of_ble_eq_true rfl⟩) hS (fun q _ h => hFc q h) hFc (fun u t H1 locs ht hvm hw hB hz1 hk1 hS => ?_)
          obtain ⟨z_fcv_38, z_rk_39, ⟨hP1, -, hD1⟩, hz_rk_39, xr_37_0⟩ := hB
          rw [ht] at hP1
          obtain ⟨hP, hD⟩ := pj_c (X := (rma__w rm rcv (nI z_rk_16) rmd (nI ((ru + 1) + 1)) rpc rct rce (az 392) k_fcv z_fcv_15 k_fmd (zs 242 28 az) k_fpc (zs 270 122 az) k_fct fct k_fce (bN 16 q_fce) au (nI nc) (nI np) (nI ne) st0 q4 q5 q6 q7 q8 q9 q10 q11 q12 q13 q14 q15 q16 k_f4 f4 k_f5 (bN 7 q_f5) k_f6 (bN 7 q_f6) k_f7 f7 k_f8 (bN 4 q_f8) k_f9 (bN 2 q_f9) k_f10 f10 k_f11 f11 k_f12 f12 k_f13 f13 k_f14 f14 k_f15 f15 k_f16 f16)) (X' := (rma__w rm rcv (nI z_rk_39) rmd (nI ((ru + 1) + 1)) rpc rct rce (az 392) k_fcv z_fcv_38 k_fmd (zs 242 28 az) k_fpc (zs 270 122 az) k_fct fct k_fce (bN 16 q_fce) au (nI nc) (nI np) (nI ne) st0 q4 q5 q6 q7 q8 q9 q10 q11 q12 q13 q14 q15 q16 k_f4 f4 k_f5 (bN 7 q_f5) k_f6 (bN 7 q_f6) k_f7 f7 k_f8 (bN 4 q_f8) k_f9 (bN 2 q_f9) k_f10 f10 k_f11 f11 k_f12 f12 k_f13 f13 k_f14 f14 k_f15 f15 k_f16 f16)) (wc := (rm__w rm rcv (nI z_rk_16) rmd (nI ((ru + 1) + 1)) rpc rct rce (az 392) k_fcv z_fcv_15 k_fmd (zs 242 28 az) k_fpc (zs 270 122 az) k_fct fct k_fce (bN 16 q_fce))) (w1 := (rm__w rm rcv (nI z_rk_39) rmd (nI ((ru + 1) + 1)) rpc rct rce (az 392) k_fcv z_fcv_38 k_fmd (zs 242 28 az) k_fpc (zs 270 122 az) k_fct fct k_fce (bN 16 q_fce))) hP hD [0, 1, 2, 3, 4, 5] [0, 1, 2, 3, 4, 5, 12, 13, 14, 15, 16, 17, 18, 19, 20, 21, 22, 23, 24, 25] 6 rfl hk1 hP1 rfl zp_f rfl rfl (by decide)
          clear hP1 hD1 hFc
          clear hPc hDc hKc
          clear hk1 hz1 ht hvm
          generalize H1 = H at hP hS ⊢
          exact W.vret hx hb hr (fun t ht hW => ⟨⟨(), rfl, trivial, ⟨z_fcv_38, z_rk_39, ((ru + 1) + 1), fz_35, qs_34, ⟨by rw [ht]; exact hP, va_K.moved hW.alike hK, hD⟩, hz_rk_39, (by omega), by assumption⟩⟩, hS.F ht⟩) hS.2.2 eX5_addLeaving_131
    · have c_12 : u_11 = 0 := (nI_eq (a := u_11) (b := 0) (Nat.lt_of_le_of_lt hu_11 (Nat.le_of_ble_eq_true rfl)) (Nat.le_of_ble_eq_true rfl)).mp c_12
      exact W.vret hx hb hr (fun t ht hW => ⟨⟨(), rfl, trivial, ⟨fcv, rk, ru, fz_10, qs_9, ⟨by rw [ht]; exact hP, va_K.moved hW.alike hK, hD⟩, hrk, hru, by assumption⟩⟩, hS.F ht⟩) hS.2.2 eX5_addLeaving_42
  · have c_2 : ¬ (ru + 2) ≤ 28 := fun z => c_2 ((nI_leI (a := (ru + 2)) (b := 28) (by omega) (Nat.le_of_ble_eq_true rfl)).mpr z)
    exact W.vret hx hb hr (fun t ht hW => ⟨⟨(), rfl, trivial, ⟨fcv, rk, ru, fz, qs, ⟨by rw [ht]; exact hP, va_K.moved hW.alike hK, hD⟩, hrk, hru, by assumption⟩⟩, hS.F ht⟩) hS.2.2 eX5_addLeaving_14
