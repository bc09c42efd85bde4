theorem eX8_covered_0 : decode cX8_covered 0 = .ok (.aload_n 0, 1) := by decide +kernel
theorem eX8_covered_1 : decode cX8_covered 1 = .ok (.iload_n 1, 1) := by decide +kernel
theorem eX8_covered_2 : decode cX8_covered 2 = .ok (.invokevirtual 228, 3) := by decide +kernel
theorem eX8_covered_5 : decode cX8_covered 5 = .ok (.ifCond .ne 5, 3) := by decide +kernel
theorem eX8_covered_8 : decode cX8_covered 8 = .ok (.iconst (-1), 1) := by decide +kernel
theorem eX8_covered_9 : decode cX8_covered 9 = .ok (.ireturn, 1) := by decide +kernel
theorem eX8_covered_10 : decode cX8_covered 10 = .ok (.aload_n 0, 1) := by decide +kernel
theorem eX8_covered_11 : decode cX8_covered 11 = .ok (.getfield 55, 3) := by decide +kernel
theorem eX8_covered_14 : decode cX8_covered 14 = .ok (.invokevirtual 253, 3) := by decide +kernel
theorem eX8_covered_17 : decode cX8_covered 17 = .ok (.iconst 0, 1) := by decide +kernel
theorem eX8_covered_18 : decode cX8_covered 18 = .ok (.istore_n 2, 1) := by decide +kernel
theorem eX8_covered_19 : decode cX8_covered 19 = .ok (.iload_n 2, 1) := by decide +kernel
theorem eX8_covered_20 : decode cX8_covered 20 = .ok (.aload_n 0, 1) := by decide +kernel
theorem eX8_covered_21 : decode cX8_covered 21 = .ok (.getfield 42, 3) := by decide +kernel
theorem eX8_covered_24 : decode cX8_covered 24 = .ok (.getfield 129, 3) := by decide +kernel
theorem eX8_covered_27 : decode cX8_covered 27 = .ok (.if_icmp .ge 51, 3) := by decide +kernel
theorem eX8_covered_30 : decode cX8_covered 30 = .ok (.iload_n 2, 1) := by decide +kernel
theorem eX8_covered_31 : decode cX8_covered 31 = .ok (.iload_n 1, 1) := by decide +kernel
theorem eX8_covered_32 : decode cX8_covered 32 = .ok (.if_icmp .eq 40, 3) := by decide +kernel
theorem eX8_covered_35 : decode cX8_covered 35 = .ok (.aload_n 0, 1) := by decide +kernel
theorem eX8_covered_36 : decode cX8_covered 36 = .ok (.getfield 42, 3) := by decide +kernel
theorem eX8_covered_39 : decode cX8_covered 39 = .ok (.getfield 231, 3) := by decide +kernel
theorem eX8_covered_42 : decode cX8_covered 42 = .ok (.iload_n 2, 1) := by decide +kernel
theorem eX8_covered_43 : decode cX8_covered 43 = .ok (.iaload, 1) := by decide +kernel
theorem eX8_covered_44 : decode cX8_covered 44 = .ok (.aload_n 0, 1) := by decide +kernel
theorem eX8_covered_45 : decode cX8_covered 45 = .ok (.getfield 42, 3) := by decide +kernel
theorem eX8_covered_48 : decode cX8_covered 48 = .ok (.getfield 231, 3) := by decide +kernel
theorem eX8_covered_51 : decode cX8_covered 51 = .ok (.iload_n 1, 1) := by decide +kernel
theorem eX8_covered_52 : decode cX8_covered 52 = .ok (.iaload, 1) := by decide +kernel
theorem eX8_covered_53 : decode cX8_covered 53 = .ok (.if_icmp .ne 19, 3) := by decide +kernel
theorem eX8_covered_56 : decode cX8_covered 56 = .ok (.aload_n 0, 1) := by decide +kernel
theorem eX8_covered_57 : decode cX8_covered 57 = .ok (.getfield 55, 3) := by decide +kernel
theorem eX8_covered_60 : decode cX8_covered 60 = .ok (.aload_n 0, 1) := by decide +kernel
theorem eX8_covered_61 : decode cX8_covered 61 = .ok (.getfield 42, 3) := by decide +kernel
theorem eX8_covered_64 : decode cX8_covered 64 = .ok (.getfield 249, 3) := by decide +kernel
theorem eX8_covered_67 : decode cX8_covered 67 = .ok (.iload_n 2, 1) := by decide +kernel
theorem eX8_covered_68 : decode cX8_covered 68 = .ok (.aaload, 1) := by decide +kernel
theorem eX8_covered_69 : decode cX8_covered 69 = .ok (.invokevirtual 296, 3) := by decide +kernel
theorem eX8_covered_72 : decode cX8_covered 72 = .ok (.iinc 2 1, 3) := by decide +kernel
theorem eX8_covered_75 : decode cX8_covered 75 = .ok (.goto (-56), 3) := by decide +kernel
theorem eX8_covered_78 : decode cX8_covered 78 = .ok (.aload_n 0, 1) := by decide +kernel
theorem eX8_covered_79 : decode cX8_covered 79 = .ok (.getfield 55, 3) := by decide +kernel
theorem eX8_covered_82 : decode cX8_covered 82 = .ok (.aload_n 0, 1) := by decide +kernel
theorem eX8_covered_83 : decode cX8_covered 83 = .ok (.getfield 42, 3) := by decide +kernel
theorem eX8_covered_86 : decode cX8_covered 86 = .ok (.getfield 249, 3) := by decide +kernel
theorem eX8_covered_89 : decode cX8_covered 89 = .ok (.iload_n 1, 1) := by decide +kernel
theorem eX8_covered_90 : decode cX8_covered 90 = .ok (.aaload, 1) := by decide +kernel
theorem eX8_covered_91 : decode cX8_covered 91 = .ok (.invokevirtual 265, 3) := by decide +kernel
theorem eX8_covered_94 : decode cX8_covered 94 = .ok (.ifCond .ne 7, 3) := by decide +kernel
theorem eX8_covered_97 : decode cX8_covered 97 = .ok (.iconst 1, 1) := by decide +kernel
theorem eX8_covered_98 : decode cX8_covered 98 = .ok (.goto 4, 3) := by decide +kernel
theorem eX8_covered_101 : decode cX8_covered 101 = .ok (.iconst 0, 1) := by decide +kernel
theorem eX8_covered_102 : decode cX8_covered 102 = .ok (.invokestatic 133, 3) := by decide +kernel
theorem eX8_covered_105 : decode cX8_covered 105 = .ok (.ireturn, 1) := by decide +kernel
abbrev vs_C_8_covered : List Cond := .code yX8_covered cX8_covered 3 (some .int) :: CM
theorem g_C_8_covered_E_8_isState : GoodIn vs_C_8_covered (wsV RX8 228 RX8 yX8_isState vs_E_8_isState) := cm_gV cm_537 cm_538 cm_539 cm_427 cm_530
theorem g_C_8_covered_C_5_clear : GoodIn vs_C_8_covered (wsV RX8 253 RX5 yX5_clear vs_C_5_clear) := cm_gV cm_547 cm_548 cm_549 cm_332 cm_315
theorem g_C_8_covered_C_5_leavesAny : GoodIn vs_C_8_covered (wsV RX8 265 RX5 yX5_leavesAny vs_C_5_leavesAny) := cm_gV cm_553 cm_554 cm_555 cm_332 cm_346
theorem g_C_8_covered_E_8_bit : GoodIn vs_C_8_covered (va_wsS RX8 133 yX8_bit vs_E_8_bit) := cm_gS cm_463 cm_464 cm_427 cm_465
theorem g_C_8_covered_C_5_add : GoodIn vs_C_8_covered (wsV RX8 296 RX5 yX5_add vs_C_5_add) := cm_gV cm_580 cm_330 cm_331 cm_332 cm_318
set_option maxHeartbeats 4000000 in
set_option maxRecDepth 100000 in
theorem c_C_8_covered (l : Launch) (dC : Nat → ClassId) (dI : Nat → Nat → Nat) (sz : Nat) (xa : Nat) (xtape : Nat) (tp : Nat) (rd : Nat) (au : Nat) (xdr : Nat) (hy : Nat) (g : Nat) (hs : Nat) (tg : Nat) (sg : Nat) (ss : Nat) (rm : Nat) (ti : Nat) (py : Nat) (bu : Nat) (sm : Nat) (nc : Nat) (np : Nat) (ne : Nat) (st0 : Int32) (q4 : Nat) (q5 : Nat) (q6 : Nat) (q7 : Nat) (q8 : Nat) (q9 : Nat) (q10 : Nat) (q11 : Nat) (q12 : Nat) (q13 : Nat) (q14 : Nat) (q15 : Nat) (q16 : Nat) (k_f4 : ClassId) (f4 : Nat → Int32) (k_f5 : ClassId) (q_f5 : Nat → Nat) (k_f6 : ClassId) (q_f6 : Nat → Nat) (k_f7 : ClassId) (f7 : Nat → Int32) (k_f8 : ClassId) (q_f8 : Nat → Nat) (k_f9 : ClassId) (q_f9 : Nat → Nat) (k_f10 : ClassId) (f10 : Nat → Int32) (k_f11 : ClassId) (f11 : Nat → Int32) (k_f12 : ClassId) (f12 : Nat → Int32) (k_f13 : ClassId) (f13 : Nat → Int32) (k_f14 : ClassId) (f14 : Nat → Int32) (k_f15 : ClassId) (f15 : Nat → Int32) (k_f16 : ClassId) (f16 : Nat → Int32) (rcv : Nat) (rk : Nat) (rmd : Nat) (ru : Nat) (rpc : Nat) (rct : Nat) (rce : Nat) (k_fcv : ClassId) (fcv : Nat → Option Nat) (k_fmd : ClassId) (k_fpc : ClassId) (k_fct : ClassId) (fct : Nat → Int32) (k_fce : ClassId) (q_fce : Nat → Nat) (gz : Nat) (g1 : Nat) (g2 : Nat) (g3 : Nat) (g4 : Nat) (g5 : Nat) (gc : Nat) (gfull : Nat) (gx : Int32) (gway : Int32) (gav : Int32) (ggoal : Int32) (gfound : Nat) (gl : Nat) (gsz : Nat) (g16 : Nat) (g17 : Nat) (k_fgz : ClassId) (k_s1g : ClassId) (q_s1g : Nat → Nat) (k_s2g : ClassId) (s2g : Nat → Int32) (k_s3g : ClassId) (s3g : Nat → Int32) (k_s4g : ClassId) (s4g : Nat → Int32) (k_s5g : ClassId) (s5g : Nat → Int32) (k_hig : ClassId) (hig : Nat → Int32) (k_log : ClassId) (log : Nat → Int32) (N : Nat) (az ac : Nat → Nat) (kz : Nat → ClassId) (qs : Nat → Nat) (fz : Nat → Nat → Int32) (p0 : Int32) (htp : tp ≤ 900) (hhs : hs ≤ 1) (hss : ss ≤ 1) (hnc : nc ≤ 3) (hnp : np ≤ 8) (hne : ne ≤ 14) (hst0 : pm1 7 st0) (hrk : rk ≤ 120) (hru : ru ≤ 28) (hgc : gc ≤ 120) (hgfull : gfull ≤ 1) (hgfound : gfound ≤ 1) (hgl : gl ≤ 1) (hgsz : gsz ≤ 4) (hN : 393 ≤ N) (hq0 : cv_ok rk fcv az) : Met l yX8_covered vs_C_8_covered ({ frames := 5, cells := 0, slots := 0, locals := 128 }) (va_Pc [.ref xa, .int p0] (pu_B (dC, dI) ((xrm__w xa xtape (nI tp) rd au xdr hy g (nI hs) tg sg (nI ss) rm ti py bu sm (nI nc) (nI np) (nI ne) st0 q4 q5 q6 q7 q8 q9 q10 q11 q12 q13 q14 q15 q16 k_f4 f4 k_f5 (bN 7 q_f5) k_f6 (bN 7 q_f6) k_f7 f7 k_f8 (bN 4 q_f8) k_f9 (bN 2 q_f9) k_f10 f10 k_f11 f11 k_f12 f12 k_f13 f13 k_f14 f14 k_f15 f15 k_f16 f16 rcv (nI rk) rmd (nI ru) rpc rct rce (az 392) k_fcv fcv k_fmd (zs 242 28 az) k_fpc (zs 270 122 az) k_fct fct k_fce (bN 16 q_fce) gz g1 g2 g3 g4 g5 (nI gc) (nI gfull) gx gway gav ggoal (nI gfound) 120 (nI gl) (nI gsz) g16 g17 k_fgz (zs 121 121 az) k_s1g (bN 7 q_s1g) k_s2g s2g k_s3g s3g k_s4g s4g k_s5g s5g k_hig hig k_log log) ++ zp 4 16 N az ac kz qs fz) ((xrm__t k_f4 k_f5 k_f6 k_f7 k_f8 k_f9 k_f10 k_f11 k_f12 k_f13 k_f14 k_f15 k_f16 k_fcv k_fmd k_fpc k_fct k_fce k_fgz k_s1g k_s2g k_s3g k_s4g k_s5g k_hig k_log) ++ zt N kz) sz)) (va_Qi (fun (r : Int32) (_ : Unit) => True) (fun _ t => ∃ (z_fcv : Nat → Option Nat) (z_fct : Nat → Int32) (z_fce : Nat → Nat) (z_rk : Nat) (z_ru : Nat) (z_fz : Nat → Nat → Int32) (z_qs : Nat → Nat), pu_E (dC, dI) ((xrm__w xa xtape (nI tp) rd au xdr hy g (nI hs) tg sg (nI ss) rm ti py bu sm (nI nc) (nI np) (nI ne) st0 q4 q5 q6 q7 q8 q9 q10 q11 q12 q13 q14 q15 q16 k_f4 f4 k_f5 (bN 7 q_f5) k_f6 (bN 7 q_f6) k_f7 f7 k_f8 (bN 4 q_f8) k_f9 (bN 2 q_f9) k_f10 f10 k_f11 f11 k_f12 f12 k_f13 f13 k_f14 f14 k_f15 f15 k_f16 f16 rcv (nI z_rk) rmd (nI z_ru) rpc rct rce (az 392) k_fcv z_fcv k_fmd (zs 242 28 az) k_fpc (zs 270 122 az) k_fct z_fct k_fce (bN 16 z_fce) gz g1 g2 g3 g4 g5 (nI gc) (nI gfull) gx gway gav ggoal (nI gfound) 120 (nI gl) (nI gsz) g16 g17 k_fgz (zs 121 121 az) k_s1g (bN 7 q_s1g) k_s2g s2g k_s3g s3g k_s4g s4g k_s5g s5g k_hig hig k_log log) ++ zp 4 16 N az ac kz z_qs z_fz) ((xrm__t k_f4 k_f5 k_f6 k_f7 k_f8 k_f9 k_f10 k_f11 k_f12 k_f13 k_f14 k_f15 k_f16 k_fcv k_fmd k_fpc k_fct k_fce k_fgz k_s1g k_s2g k_s3g k_s4g k_s5g k_hig k_log) ++ zt N kz) (va_A (((xrm__w xa xtape (nI tp) rd au xdr hy g (nI hs) tg sg (nI ss) rm ti py bu sm (nI nc) (nI np) (nI ne) st0 q4 q5 q6 q7 q8 q9 q10 q11 q12 q13 q14 q15 q16 k_f4 f4 k_f5 (bN 7 q_f5) k_f6 (bN 7 q_f6) k_f7 f7 k_f8 (bN 4 q_f8) k_f9 (bN 2 q_f9) k_f10 f10 k_f11 f11 k_f12 f12 k_f13 f13 k_f14 f14 k_f15 f15 k_f16 f16 rcv (nI rk) rmd (nI ru) rpc rct rce (az 392) k_fcv fcv k_fmd (zs 242 28 az) k_fpc (zs 270 122 az) k_fct fct k_fce (bN 16 q_fce) gz g1 g2 g3 g4 g5 (nI gc) (nI gfull) gx gway gav ggoal (nI gfound) 120 (nI gl) (nI gsz) g16 g17 k_fgz (zs 121 121 az) k_s1g (bN 7 q_s1g) k_s2g s2g k_s3g s3g k_s4g s4g k_s5g s5g k_hig hig k_log log) ++ zp 4 16 N az ac kz qs fz)) sz) t ∧ (z_rk ≤ 120) ∧ (z_ru ≤ 28) ∧ (cv_ok z_rk z_fcv az)) (va_A (((xrm__w xa xtape (nI tp) rd au xdr hy g (nI hs) tg sg (nI ss) rm ti py bu sm (nI nc) (nI np) (nI ne) st0 q4 q5 q6 q7 q8 q9 q10 q11 q12 q13 q14 q15 q16 k_f4 f4 k_f5 (bN 7 q_f5) k_f6 (bN 7 q_f6) k_f7 f7 k_f8 (bN 4 q_f8) k_f9 (bN 2 q_f9) k_f10 f10 k_f11 f11 k_f12 f12 k_f13 f13 k_f14 f14 k_f15 f15 k_f16 f16 rcv (nI rk) rmd (nI ru) rpc rct rce (az 392) k_fcv fcv k_fmd (zs 242 28 az) k_fpc (zs 270 122 az) k_fct fct k_fce (bN 16 q_fce) gz g1 g2 g3 g4 g5 (nI gc) (nI gfull) gx gway gav ggoal (nI gfound) 120 (nI gl) (nI gsz) g16 g17 k_fgz (zs 121 121 az) k_s1g (bN 7 q_s1g) k_s2g s2g k_s3g s3g k_s4g s4g k_s5g s5g k_hig hig k_log log) ++ zp 4 16 N az ac kz qs fz)) sz)) 0 0 (va_A (((xrm__w xa xtape (nI tp) rd au xdr hy g (nI hs) tg sg (nI ss) rm ti py bu sm (nI nc) (nI np) (nI ne) st0 q4 q5 q6 q7 q8 q9 q10 q11 q12 q13 q14 q15 q16 k_f4 f4 k_f5 (bN 7 q_f5) k_f6 (bN 7 q_f6) k_f7 f7 k_f8 (bN 4 q_f8) k_f9 (bN 2 q_f9) k_f10 f10 k_f11 f11 k_f12 f12 k_f13 f13 k_f14 f14 k_f15 f15 k_f16 f16 rcv (nI rk) rmd (nI ru) rpc rct rce (az 392) k_fcv fcv k_fmd (zs 242 28 az) k_fpc (zs 270 122 az) k_fct fct k_fce (bN 16 q_fce) gz g1 g2 g3 g4 g5 (nI gc) (nI gfull) gx gway gav ggoal (nI gfound) 120 (nI gl) (nI gsz) g16 g17 k_fgz (zs 121 121 az) k_s1g (bN 7 q_s1g) k_s2g s2g k_s3g s3g k_s4g s4g k_s5g s5g k_hig hig k_log log) ++ zp 4 16 N az ac kz qs fz)) sz) := by
  refine Met.ofW (cc := cX8_covered) (maxL := 3) (ret := (some .int)) (by decide) rfl ?_
  intro p e s m args below meth c s₁ B hml hv
  obtain ⟨rfl, rfl, hP, hK, hD0⟩ := hv
  have hx := B.exec
  have hb := B.bytes
  have hr := B.returns
  have hts := atoms_spec (ws := vs_C_8_covered) B.pre
  have v_6 := hts (.fieldLink RX8 55 "ClockReach" "remainder" "LClockReach$Remainder;") (List.mem_cons_of_mem _ cm_545)
  have v_12 := hts (.fieldLink RX8 42 "ClockReach" "shown" "LClockReach$Graph;") (List.mem_cons_of_mem _ cm_456)
  have v_13 := hts (.fieldLink RX8 129 "ClockReach$Graph" "count" "I") (List.mem_cons_of_mem _ cm_457)
  have v_14 := hts (.fieldLink RX8 249 "ClockReach$Graph" "zones" "[LClockReach$Zone;") (List.mem_cons_of_mem _ cm_544)
  have v_22 := hts (.fieldLink RX8 231 "ClockReach$Graph" "sites" "[I") (List.mem_cons_of_mem _ cm_532)
  have hown : s.vm.findClass RX8 = some m.cls := findClass_of_methodNamed B.named
  have hlocks := B.notSynchronized
  have hiX1 : ∀ w ∈ wsX10, w ∈ vs_C_8_covered := fun _ h => List.mem_cons_of_mem _ (cm_X1 h)
  have hiX8 : ∀ w ∈ wsX80, w ∈ vs_C_8_covered := fun _ h => List.mem_cons_of_mem _ (cm_X8 h)
  have hD := hD0.self (sz := s.heap.size)
  generalize hAe : va_A (((xrm__w xa xtape (nI tp) rd au xdr hy g (nI hs) tg sg (nI ss) rm ti py bu sm (nI nc) (nI np) (nI ne) st0 q4 q5 q6 q7 q8 q9 q10 q11 q12 q13 q14 q15 q16 k_f4 f4 k_f5 (bN 7 q_f5) k_f6 (bN 7 q_f6) k_f7 f7 k_f8 (bN 4 q_f8) k_f9 (bN 2 q_f9) k_f10 f10 k_f11 f11 k_f12 f12 k_f13 f13 k_f14 f14 k_f15 f15 k_f16 f16 rcv (nI rk) rmd (nI ru) rpc rct rce (az 392) k_fcv fcv k_fmd (zs 242 28 az) k_fpc (zs 270 122 az) k_fct fct k_fce (bN 16 q_fce) gz g1 g2 g3 g4 g5 (nI gc) (nI gfull) gx gway gav ggoal (nI gfound) 120 (nI gl) (nI gsz) g16 g17 k_fgz (zs 121 121 az) k_s1g (bN 7 q_s1g) k_s2g s2g k_s3g s3g k_s4g s4g k_s5g s5g k_hig hig k_log log) ++ zp 4 16 N az ac kz qs fz)) s.heap.size = A at hD ⊢
  have hA : ∀ q : Nat, s.heap.size ≤ q → A q := fun q h => by rw [← hAe]; exact Or.inr h
  have hS : va_S A s.heap s.heap [] := va_S.rf
  have hl := lv_entry ([.ref xa, .int p0]) (n := 3) (Nat.le_of_ble_eq_true rfl)
  rw [lg_entry_eq]
  generalize (lg_sl ([.ref xa, .int p0]) ++ List.replicate (3 - (lg_sl ([.ref xa, .int p0])).length) Slot.unset).toArray = ls at hl ⊢
  have hl : lv_has ls 3 [(0, .ref xa), (1, .int p0)] := hl
  refine lv_aload_n hx hb eX8_covered_0 rfl (lv_at hl 0 rfl) ?_
  refine lv_iload_n hx hb eX8_covered_1 rfl (lv_at hl 1 rfl) ?_
  have hPc : va_P (dC, dI) vwCl [(xa, .inr (8, [.ref xtape, .int (nI tp), .ref rd, .ref au, .ref xdr, .ref hy, .ref g, .int (nI hs), .ref tg, .ref sg, .int (nI ss), .ref rm, .ref ti, .ref py, .ref bu, .ref sm])), (g, .inr (1, [.ref gz, .ref g1, .ref g2, .ref g3, .ref g4, .ref g5, .int (nI gc), .int (nI gfull), .int gx, .int gway, .int gav, .int ggoal, .int (nI gfound), .int 120, .int (nI gl), .int (nI gsz), .ref g16, .ref g17]))] _ := hP.sub [0, 21] rfl
  have hDc : va_D A [(xa, .inr (8, [.ref xtape, .int (nI tp), .ref rd, .ref au, .ref xdr, .ref hy, .ref g, .int (nI hs), .ref tg, .ref sg, .int (nI ss), .ref rm, .ref ti, .ref py, .ref bu, .ref sm])), (g, .inr (1, [.ref gz, .ref g1, .ref g2, .ref g3, .ref g4, .ref g5, .int (nI gc), .int (nI gfull), .int gx, .int gway, .int gav, .int ggoal, .int (nI gfound), .int 120, .int (nI gl), .int (nI gsz), .ref g16, .ref g17]))] := (zp_left hD).sub [0, 21] (by decide) rfl
  have hKc : va_K (dC, dI) vwCl [] s := hK.sub [] rfl
  refine va_calli (va_runV (As := [.int p0]) (rest := []) ⟨hx, hb, hml, hown, hts⟩ (c_E_8_isState l dC dI _ xa xtape tp rd au xdr hy g hs tg sg ss rm ti py bu sm gz g1 g2 g3 g4 g5 gc gfull gx gway gav ggoal gfound gl gsz g16 g17 p0 htp hhs hss hgc hgfull hgfound hgl hgsz) (cwV 1 hts g_C_8_covered_E_8_isState rfl rfl rfl (by decide +kernel) ⟨Nat.le_of_ble_eq_true rfl, Nat.le_of_ble_eq_true rfl⟩) ⟨pu_bl, va_recv hK hP (ci := 8) (q0 := 0) rfl rfl, pu_in hPc hKc hDc⟩ rfl rfl hl.1 rfl (lv_room (Nat.le_of_ble_eq_true rfl)) eX8_covered_2 ⟨Nat.le_of_ble_eq_true rfl, Nat.le_of_ble_eq_true rfl⟩) hS (fun q _ h => pu_fr hS hA q h) (pu_fr hS hA) (fun r_1 u t H1 locs ht hvm hw hB hz1 hk1 hS => ?_)
  have hP := pu_keep hP hk1
  clear hPc hDc hKc
  clear hk1 hz1 ht hvm
  generalize H1 = H at hP hS ⊢
  rcases hw with ⟨rfl, hw⟩ | ⟨rfl, hn⟩
  · obtain ⟨hs1, n_2, hn_2, rfl⟩ := hw
    refine lv_if_ne (tgt := 10) hx hb eX8_covered_5 (by decide) (fun _ => ?_) (fun z => absurd z (by decide))
    refine lv_aload_n hx hb eX8_covered_10 rfl (lv_at hl 0 rfl) ?_
    refine va_get (D := (dC, dI)) (ci := 8) (v := .ref rm) (C := RX8) (T := TX8) (N := 16) hx hb hts hiX8 hown hK hP 0 rfl rfl 11 (by decide) v_6 (fun _ h9 => h9) rfl eX8_covered_11 ?_
    have hPc : va_P (dC, dI) vwCl ([(rm, .inr (5, [.ref rcv, .int (nI rk), .ref rmd, .int (nI ru), .ref rpc, .ref rct, .ref rce, .ref (az 392)])), (rcv, .inl (k_fcv, 120, .inr (.inr (.inr (.inr fcv))))), (rmd, .inl (k_fmd, 28, .inr (.inr (.inr (.inr (zs 242 28 az)))))), (rpc, .inl (k_fpc, 122, .inr (.inr (.inr (.inr (zs 270 122 az)))))), (rct, .inl (k_fct, 122, .inl fct)), (rce, .inl (k_fce, 122, .inl (bN 16 q_fce)))] ++ zp 4 16 N az ac kz qs fz) _ := hP.part [15, 16, 17, 18, 19, 20] rfl
    have hDc : va_D A ([(rm, .inr (5, [.ref rcv, .int (nI rk), .ref rmd, .int (nI ru), .ref rpc, .ref rct, .ref rce, .ref (az 392)])), (rcv, .inl (k_fcv, 120, .inr (.inr (.inr (.inr fcv))))), (rmd, .inl (k_fmd, 28, .inr (.inr (.inr (.inr (zs 242 28 az)))))), (rpc, .inl (k_fpc, 122, .inr (.inr (.inr (.inr (zs 270 122 az)))))), (rct, .inl (k_fct, 122, .inl fct)), (rce, .inl (k_fce, 122, .inl (bN 16 q_fce)))] ++ zp 4 16 N az ac kz qs fz) := hD.part [15, 16, 17, 18, 19, 20] (by decide) rfl
    have hKc : va_K (dC, dI) vwCl ([(k_fcv, .object RX7), (k_fmd, .object RX7), (k_fpc, .object RX7), (k_fct, .int), (k_fce, .int)] ++ zt N kz) s := zk_part hK [13, 14, 15, 16, 17] rfl
    have hFc := pu_free hDc hS hA
    refine va_callv (va_runV (As := []) (rest := []) ⟨hx, hb, hml, hown, hts⟩ (c_C_5_clear l dC dI _ rm rcv rk rmd ru rpc rct rce k_fcv fcv k_fmd k_fpc k_fct fct k_fce q_fce N az ac kz qs fz hrk hru (by omega)) (cwV 0 hts g_C_8_covered_C_5_clear rfl rfl rfl (by decide +kernel) ⟨Nat.le_of_ble_eq_true rfl, Nat.le_of_ble_eq_true rfl⟩) ⟨pu_bl, va_recv hK hP (ci := 5) (q0 := 15) rfl rfl, pu_in hPc hKc hDc⟩ rfl rfl hl.1 rfl (lv_room (Nat.le_of_ble_eq_true rfl)) eX8_covered_14 ⟨Nat.le_of_ble_eq_true rfl, Nat.le_of_ble_eq_true rfl⟩) hS (fun q _ h => hFc q h) hFc (fun u t H1 locs ht hvm hw hB hz1 hk1 hS => ?_)
    obtain ⟨hP1, -, hD1⟩ := hB
    rw [ht] at hP1
    obtain ⟨hP, hD⟩ := pj_c (X := (xrm__w xa xtape (nI tp) rd au xdr hy g (nI hs) tg sg (nI ss) rm ti py bu sm (nI nc) (nI np) (nI ne) st0 q4 q5 q6 q7 q8 q9 q10 q11 q12 q13 q14 q15 q16 k_f4 f4 k_f5 (bN 7 q_f5) k_f6 (bN 7 q_f6) k_f7 f7 k_f8 (bN 4 q_f8) k_f9 (bN 2 q_f9) k_f10 f10 k_f11 f11 k_f12 f12 k_f13 f13 k_f14 f14 k_f15 f15 k_f16 f16 rcv (nI rk) rmd (nI ru) rpc rct rce (az 392) k_fcv fcv k_fmd (zs 242 28 az) k_fpc (zs 270 122 az) k_fct fct k_fce (bN 16 q_fce) gz g1 g2 g3 g4 g5 (nI gc) (nI gfull) gx gway gav ggoal (nI gfound) 120 (nI gl) (nI gsz) g16 g17 k_fgz (zs 121 121 az) k_s1g (bN 7 q_s1g) k_s2g s2g k_s3g s3g k_s4g s4g k_s5g s5g k_hig hig k_log log)) (X' := (xrm__w xa xtape (nI tp) rd au xdr hy g (nI hs) tg sg (nI ss) rm ti py bu sm (nI nc) (nI np) (nI ne) st0 q4 q5 q6 q7 q8 q9 q10 q11 q12 q13 q14 q15 q16 k_f4 f4 k_f5 (bN 7 q_f5) k_f6 (bN 7 q_f6) k_f7 f7 k_f8 (bN 4 q_f8) k_f9 (bN 2 q_f9) k_f10 f10 k_f11 f11 k_f12 f12 k_f13 f13 k_f14 f14 k_f15 f15 k_f16 f16 rcv 0 rmd 0 rpc rct rce (az 392) k_fcv fcv k_fmd (zs 242 28 az) k_fpc (zs 270 122 az) k_fct fct k_fce (bN 16 q_fce) gz g1 g2 g3 g4 g5 (nI gc) (nI gfull) gx gway gav ggoal (nI gfound) 120 (nI gl) (nI gsz) g16 g17 k_fgz (zs 121 121 az) k_s1g (bN 7 q_s1g) k_s2g s2g k_s3g s3g k_s4g s4g k_s5g s5g k_hig hig k_log log)) (wc := (rm__w rm rcv (nI rk) rmd (nI ru) rpc rct rce (az 392) k_fcv fcv k_fmd (zs 242 28 az) k_fpc (zs 270 122 az) k_fct fct k_fce (bN 16 q_fce))) (w1 := (rm__w rm rcv 0 rmd 0 rpc rct rce (az 392) k_fcv fcv k_fmd (zs 242 28 az) k_fpc (zs 270 122 az) k_fct fct k_fce (bN 16 q_fce))) hP hD [15, 16, 17, 18, 19, 20] [6, 7, 8, 9, 10, 11, 12, 13, 14, 15, 16, 17, 18, 19, 20, 0, 1, 2, 3, 4, 5, 27, 28, 29, 30, 31, 32, 33, 34, 35] 6 rfl hk1 hP1 rfl zp_f rfl rfl (by decide)
    clear hP1 hD1 hFc
    clear hPc hDc hKc
    clear hk1 hz1 ht hvm
    generalize H1 = H at hP hS ⊢
    refine lv_iconst (v := 0) hx hb eX8_covered_17 (by decide) ?_
    refine lv_istore_n (lv' := [(2, .int 0), (0, .ref xa), (1, .int (nI n_2))]) hx hb eX8_covered_18 rfl hl (by decide) rfl (fun ls hl => ?_)
    refine pu_while (fun nn H locs ls => ∃ (g_8 : Nat → Option Nat) (g_9 : Nat) (g_10 : Nat), nn = 120 - g_10 ∧ g_9 ≤ 120 ∧ g_10 ≤ 120 ∧ cv_ok g_9 g_8 az ∧ va_P (dC, dI) vwCl ((xrm__w xa xtape (nI tp) rd au xdr hy g (nI hs) tg sg (nI ss) rm ti py bu sm (nI nc) (nI np) (nI ne) st0 q4 q5 q6 q7 q8 q9 q10 q11 q12 q13 q14 q15 q16 k_f4 f4 k_f5 (bN 7 q_f5) k_f6 (bN 7 q_f6) k_f7 f7 k_f8 (bN 4 q_f8) k_f9 (bN 2 q_f9) k_f10 f10 k_f11 f11 k_f12 f12 k_f13 f13 k_f14 f14 k_f15 f15 k_f16 f16 rcv (nI g_9) rmd 0 rpc rct rce (az 392) k_fcv g_8 k_fmd (zs 242 28 az) k_fpc (zs 270 122 az) k_fct fct k_fce (bN 16 q_fce) gz g1 g2 g3 g4 g5 (nI gc) (nI gfull) gx gway gav ggoal (nI gfound) 120 (nI gl) (nI gsz) g16 g17 k_fgz (zs 121 121 az) k_s1g (bN 7 q_s1g) k_s2g s2g k_s3g s3g k_s4g s4g k_s5g s5g k_hig hig k_log log) ++ zp 4 16 N az ac kz qs fz) H ∧ va_D A ((xrm__w xa xtape (nI tp) rd au xdr hy g (nI hs) tg sg (nI ss) rm ti py bu sm (nI nc) (nI np) (nI ne) st0 q4 q5 q6 q7 q8 q9 q10 q11 q12 q13 q14 q15 q16 k_f4 f4 k_f5 (bN 7 q_f5) k_f6 (bN 7 q_f6) k_f7 f7 k_f8 (bN 4 q_f8) k_f9 (bN 2 q_f9) k_f10 f10 k_f11 f11 k_f12 f12 k_f13 f13 k_f14 f14 k_f15 f15 k_f16 f16 rcv (nI g_9) rmd 0 rpc rct rce (az 392) k_fcv g_8 k_fmd (zs 242 28 az) k_fpc (zs 270 122 az) k_fct fct k_fce (bN 16 q_fce) gz g1 g2 g3 g4 g5 (nI gc) (nI gfull) gx gway gav ggoal (nI gfound) 120 (nI gl) (nI gsz) g16 g17 k_fgz (zs 121 121 az) k_s1g (bN 7 q_s1g) k_s2g s2g k_s3g s3g k_s4g s4g k_s5g s5g k_hig hig k_log log) ++ zp 4 16 N az ac kz qs fz) ∧ va_S A s.heap H locs ∧ lv_has ls 3 [(0, .ref xa), (1, .int (nI n_2)), (2, .int (nI g_10))]) 19 ?_ _ _ _ _ ⟨fcv, 0, 0, rfl, (Nat.le_of_ble_eq_true rfl), (Nat.le_of_ble_eq_true rfl), by first | assumption | exact cv_0, hP, hD, hS, lv_sub hl [1, 2, 0] rfl⟩
    rintro nn ih_12 H locs ls ⟨g_8, g_9, g_10, rfl, hg_9, hg_10, he_11, hP, hD, hS, hl⟩
    refine lv_iload_n hx hb eX8_covered_19 rfl (lv_at hl 2 rfl) ?_
    refine lv_aload_n hx hb eX8_covered_20 rfl (lv_at hl 0 rfl) ?_
    refine va_get (D := (dC, dI)) (ci := 8) (v := .ref g) (C := RX8) (T := TX8) (N := 16) hx hb hts hiX8 hown hK hP 0 rfl rfl 6 (by decide) v_12 (fun _ h9 => h9) rfl eX8_covered_21 ?_
    refine va_get (D := (dC, dI)) (ci := 1) (v := .int (nI gc)) (C := RX1) (T := TX1) (N := 18) hx hb hts hiX1 hown hK hP 21 rfl rfl 6 (by decide) v_13 (fun _ h9 => h9) rfl eX8_covered_24 ?_
    refine lv_icmp_ge (tgt := 78) hx hb eX8_covered_27 (by decide) (fun c_13 => ?_) (fun c_13 => ?_)
    · have c_13 : gc ≤ g_10 := (nI_leI (a := gc) (b := g_10) (Nat.lt_of_le_of_lt hgc (Nat.le_of_ble_eq_true rfl)) (Nat.lt_of_le_of_lt hg_10 (Nat.le_of_ble_eq_true rfl))).mp c_13
      refine lv_aload_n hx hb eX8_covered_78 rfl (lv_at hl 0 rfl) ?_
      refine va_get (D := (dC, dI)) (ci := 8) (v := .ref rm) (C := RX8) (T := TX8) (N := 16) hx hb hts hiX8 hown hK hP 0 rfl rfl 11 (by decide) v_6 (fun _ h9 => h9) rfl eX8_covered_79 ?_
      refine lv_aload_n hx hb eX8_covered_82 rfl (lv_at hl 0 rfl) ?_
      refine va_get (D := (dC, dI)) (ci := 8) (v := .ref g) (C := RX8) (T := TX8) (N := 16) hx hb hts hiX8 hown hK hP 0 rfl rfl 6 (by decide) v_12 (fun _ h9 => h9) rfl eX8_covered_83 ?_
      refine va_get (D := (dC, dI)) (ci := 1) (v := .ref gz) (C := RX1) (T := TX1) (N := 18) hx hb hts hiX1 hown hK hP 21 rfl rfl 0 (by decide) v_14 (fun _ h9 => h9) rfl eX8_covered_86 ?_
      refine lv_iload_n hx hb eX8_covered_89 rfl (lv_at hl 1 rfl) ?_
      refine va_aldq hx hb hK hP 22 18 rfl rfl (vp_in_nI (n := n_2) (by omega) (Nat.le_of_ble_eq_true rfl)) eX8_covered_90 ?_
      refine W.eq (g2 := F0 m 91 ls [.ref (az (121 + n_2)), .ref rm]) (by rw [zs_get (by omega) (by omega)]) ?_
      have hPc : va_P (dC, dI) vwCl ([(rm, .inr (5, [.ref rcv, .int (nI g_9), .ref rmd, .int 0, .ref rpc, .ref rct, .ref rce, .ref (az 392)])), (rcv, .inl (k_fcv, 120, .inr (.inr (.inr (.inr g_8))))), (rmd, .inl (k_fmd, 28, .inr (.inr (.inr (.inr (zs 242 28 az)))))), (rpc, .inl (k_fpc, 122, .inr (.inr (.inr (.inr (zs 270 122 az)))))), (rct, .inl (k_fct, 122, .inl fct)), (rce, .inl (k_fce, 122, .inl (bN 16 q_fce)))] ++ zp 4 16 N az ac kz qs fz) _ := hP.part [15, 16, 17, 18, 19, 20] rfl
      have hDc : va_D A ([(rm, .inr (5, [.ref rcv, .int (nI g_9), .ref rmd, .int 0, .ref rpc, .ref rct, .ref rce, .ref (az 392)])), (rcv, .inl (k_fcv, 120, .inr (.inr (.inr (.inr g_8))))), (rmd, .inl (k_fmd, 28, .inr (.inr (.inr (.inr (zs 242 28 az)))))), (rpc, .inl (k_fpc, 122, .inr (.inr (.inr (.inr (zs 270 122 az)))))), (rct, .inl (k_fct, 122, .inl fct)), (rce, .inl (k_fce, 122, .inl (bN 16 q_fce)))] ++ zp 4 16 N az ac kz qs fz) := hD.part [15, 16, 17, 18, 19, 20] (by decide) rfl
      have hKc : va_K (dC, dI) vwCl ([(k_fcv, .object RX7), (k_fmd, .object RX7), (k_fpc, .object RX7), (k_fct, .int), (k_fce, .int)] ++ zt N kz) s := zk_part hK [13, 14, 15, 16, 17] rfl
      have hFc := pu_free hDc hS hA
      refine va_calli (va_runV (As := [.ref (az (121 + n_2))]) (rest := []) ⟨hx, hb, hml, hown, hts⟩ (c_C_5_leavesAny l dC dI _ rm rcv g_9 rmd 0 rpc rct rce k_fcv g_8 k_fmd k_fpc k_fct fct k_fce q_fce N az ac kz qs fz (121 + n_2) hg_9 (Nat.le_of_ble_eq_true rfl) (by omega) (by omega) (by assumption) (by omega)) (cwV 1 hts g_C_8_covered_C_5_leavesAny rfl rfl rfl (by decide +kernel) ⟨Nat.le_of_ble_eq_true rfl, Nat.le_of_ble_eq_true rfl⟩) ⟨pu_bl, va_recv hK hP (ci := 5) (q0 := 15) rfl rfl, pu_in hPc hKc hDc⟩ rfl rfl hl.1 rfl (lv_room (Nat.le_of_ble_eq_true rfl)) eX8_covered_91 ⟨Nat.le_of_ble_eq_true rfl, Nat.le_of_ble_eq_true rfl⟩) hS (fun q _ h => hFc q h) hFc (fun r_14 u t H1 locs ht hvm hw hB hz1 hk1 hS => ?_)
      obtain ⟨z_fct_15, z_fce_16, z_fz_17, z_qs_18, ⟨hP1, -, hD1⟩⟩ := hB
      rw [ht] at hP1
      obtain ⟨hP, hD⟩ := pj_c (X := (xrm__w xa xtape (nI tp) rd au xdr hy g (nI hs) tg sg (nI ss) rm ti py bu sm (nI nc) (nI np) (nI ne) st0 q4 q5 q6 q7 q8 q9 q10 q11 q12 q13 q14 q15 q16 k_f4 f4 k_f5 (bN 7 q_f5) k_f6 (bN 7 q_f6) k_f7 f7 k_f8 (bN 4 q_f8) k_f9 (bN 2 q_f9) k_f10 f10 k_f11 f11 k_f12 f12 k_f13 f13 k_f14 f14 k_f15 f15 k_f16 f16 rcv (nI g_9) rmd 0 rpc rct rce (az 392) k_fcv g_8 k_fmd (zs 242 28 az) k_fpc (zs 270 122 az) k_fct fct k_fce (bN 16 q_fce) gz g1 g2 g3 g4 g5 (nI gc) (nI gfull) gx gway gav ggoal (nI gfound) 120 (nI gl) (nI gsz) g16 g17 k_fgz (zs 121 121 az) k_s1g (bN 7 q_s1g) k_s2g s2g k_s3g s3g k_s4g s4g k_s5g s5g k_hig hig k_log log)) (X' := (xrm__w xa xtape (nI tp) rd au xdr hy g (nI hs) tg sg (nI ss) rm ti py bu sm (nI nc) (nI np) (nI ne) st0 q4 q5 q6 q7 q8 q9 q10 q11 q12 q13 q14 q15 q16 k_f4 f4 k_f5 (bN 7 q_f5) k_f6 (bN 7 q_f6) k_f7 f7 k_f8 (bN 4 q_f8) k_f9 (bN 2 q_f9) k_f10 f10 k_f11 f11 k_f12 f12 k_f13 f13 k_f14 f14 k_f15 f15 k_f16 f16 rcv (nI g_9) rmd 0 rpc rct rce (az 392) k_fcv g_8 k_fmd (zs 242 28 az) k_fpc (zs 270 122 az) k_fct z_fct_15 k_fce (bN 16 z_fce_16) gz g1 g2 g3 g4 g5 (nI gc) (nI gfull) gx gway gav ggoal (nI gfound) 120 (nI gl) (nI gsz) g16 g17 k_fgz (zs 121 121 az) k_s1g (bN 7 q_s1g) k_s2g s2g k_s3g s3g k_s4g s4g k_s5g s5g k_hig hig k_log log)) (wc := (rm__w rm rcv (nI g_9) rmd 0 rpc rct rce (az 392) k_fcv g_8 k_fmd (zs 242 28 az) k_fpc (zs 270 122 az) k_fct fct k_fce (bN 16 q_fce))) (w1 := (rm__w rm rcv (nI g_9) rmd 0 rpc rct rce (az 392) k_fcv g_8 k_fmd (zs 242 28 az) k_fpc (zs 270 122 az) k_fct z_fct_15 k_fce (bN 16 z_fce_16))) hP hD [15, 16, 17, 18, 19, 20] [6, 7, 8, 9, 10, 11, 12, 13, 14, 15, 16, 17, 18, 19, 20, 0, 1, 2, 3, 4, 5, 27, 28, 29, 30, 31, 32, 33, 34, 35] 6 rfl hk1 hP1 rfl zp_f rfl rfl (by decide)
      clear hP1 hD1 hFc
      clear hPc hDc hKc
      clear hk1 hz1 ht hvm
      generalize H1 = H at hP hS ⊢
      obtain ⟨u_19, hu_19, rfl⟩ := hw
      refine lv_if_ne (tgt := 101) hx hb eX8_covered_94 (by decide) (fun c_20 => ?_) (fun c_20 => ?_)
      · have c_20 : ¬ u_19 = 0 := fun z => c_20 ((nI_eq (a := u_19) (b := 0) (Nat.lt_of_le_of_lt hu_19 (Nat.le_of_ble_eq_true rfl)) (Nat.le_of_ble_eq_true rfl)).mpr z)
        refine lv_iconst (v := 0) hx hb eX8_covered_101 (by decide) ?_
        have hPc : va_P (dC, dI) vwCl [] _ := hP.sub [] rfl
        have hDc : va_D A [] := (zp_left hD).sub [] (by decide) rfl
        have hKc : va_K (dC, dI) vwCl [] s := hK.sub [] rfl
        refine va_calli (va_runS (As := [.int 0]) (rest := []) ⟨hx, hb, hml, hown, hts⟩ (c_E_8_bit l dC dI _ 0) (va_cwS 1 hts g_C_8_covered_E_8_bit rfl rfl rfl (by decide +kernel) ⟨Nat.le_of_ble_eq_true rfl, Nat.le_of_ble_eq_true rfl⟩) ⟨pu_bl, pu_in hPc hKc hDc⟩ rfl rfl hl.1 rfl (lv_room (Nat.le_of_ble_eq_true rfl)) eX8_covered_102 ⟨Nat.le_of_ble_eq_true rfl, Nat.le_of_ble_eq_true rfl⟩) hS (fun q _ h => pu_fr hS hA q h) (pu_fr hS hA) (fun r_21 u t H1 locs ht hvm hw hB hz1 hk1 hS => ?_)
        have hP := pu_keep hP hk1
        clear hPc hDc hKc
        clear hk1 hz1 ht hvm
        generalize H1 = H at hP hS ⊢
        obtain ⟨u_22, hu_22, rfl, iu_22⟩ := hw
        exact W.iret (v := (nI u_22)) hx hb hr (fun t ht hW => ⟨⟨(nI u_22), (), rfl, trivial, ⟨g_8, z_fct_15, z_fce_16, g_9, 0, z_fz_17, z_qs_18, ⟨by rw [ht]; exact hP, va_K.moved hW.alike hK, hD⟩, hg_9, (Nat.le_of_ble_eq_true rfl), by assumption⟩⟩, hS.F ht⟩) hS.2.2 eX8_covered_105
      · have c_20 : u_19 = 0 := (nI_eq (a := u_19) (b := 0) (Nat.lt_of_le_of_lt hu_19 (Nat.le_of_ble_eq_true rfl)) (Nat.le_of_ble_eq_true rfl)).mp c_20
        refine lv_iconst (v := 1) hx hb eX8_covered_97 (by decide) ?_
        refine lv_goto (tgt := 102) hx hb eX8_covered_98 (by decide) ?_
        have hPc : va_P (dC, dI) vwCl [] _ := hP.sub [] rfl
        have hDc : va_D A [] := (zp_left hD).sub [] (by decide) rfl
        have hKc : va_K (dC, dI) vwCl [] s := hK.sub [] rfl
        refine va_calli (va_runS (As := [.int 1]) (rest := []) ⟨hx, hb, hml, hown, hts⟩ (c_E_8_bit l dC dI _ 1) (va_cwS 1 hts g_C_8_covered_E_8_bit rfl rfl rfl (by decide +kernel) ⟨Nat.le_of_ble_eq_true rfl, Nat.le_of_ble_eq_true rfl⟩) ⟨pu_bl, pu_in hPc hKc hDc⟩ rfl rfl hl.1 rfl (lv_room (Nat.le_of_ble_eq_true rfl)) eX8_covered_102 ⟨Nat.le_of_ble_eq_true rfl, Nat.le_of_ble_eq_true rfl⟩) hS (fun q _ h => pu_fr hS hA q h) (pu_fr hS hA) (fun r_23 u t H1 locs ht hvm hw hB hz1 hk1 hS => ?_)
        have hP := pu_keep hP hk1
        clear hPc hDc hKc
        clear hk1 hz1 ht hvm
        generalize H1 = H at hP hS ⊢
        obtain ⟨u_24, hu_24, rfl, iu_24⟩ := hw
        exact W.iret (v := (nI u_24)) hx hb hr (fun t ht hW => ⟨⟨(nI u_24), (), rfl, trivial, ⟨g_8, z_fct_15, z_fce_16, g_9, 0, z_fz_17, z_qs_18, ⟨by rw [ht]; exact hP, va_K.moved hW.alike hK, hD⟩, hg_9, (Nat.le_of_ble_eq_true rfl), by assumption⟩⟩, hS.F ht⟩) hS.2.2 eX8_covered_105
    · have c_13 : ¬ gc ≤ g_10 := fun z => c_13 ((nI_leI (a := gc) (b := g_10) (Nat.lt_of_le_of_lt hgc (Nat.le_of_ble_eq_true rfl)) (Nat.lt_of_le_of_lt hg_10 (Nat.le_of_ble_eq_true rfl))).mpr z)
      refine lv_iload_n hx hb eX8_covered_30 rfl (lv_at hl 2 rfl) ?_
      refine lv_iload_n hx hb eX8_covered_31 rfl (lv_at hl 1 rfl) ?_
      refine lv_icmp_eq (tgt := 72) hx hb eX8_covered_32 (by decide) (fun c_25 => ?_) (fun c_25 => ?_)
      · have c_25 : g_10 = n_2 := (nI_eq (a := g_10) (b := n_2) (Nat.lt_of_le_of_lt hg_10 (Nat.le_of_ble_eq_true rfl)) (by omega)).mp c_25
        refine lv_iinc (v := (nI (g_10 + 1))) (lv' := [(2, .int (nI (g_10 + 1))), (0, .ref xa), (1, .int (nI n_2))]) hx hb eX8_covered_72 hl (k := 2) rfl (nI_1 _) (by decide) rfl (fun ls hl => ?_)
        refine lv_goto (tgt := 19) hx hb eX8_covered_75 (by decide) ?_
        exact ih_12 (120 - (g_10 + 1)) (by omega) _ _ _ ⟨g_8, g_9, (g_10 + 1), rfl, hg_9, (by omega), by first | assumption | exact cv_0, hP, hD, hS, lv_sub hl [1, 2, 0] rfl⟩
      · have c_25 : ¬ g_10 = n_2 := fun z => c_25 ((nI_eq (a := g_10) (b := n_2) (Nat.lt_of_le_of_lt hg_10 (Nat.le_of_ble_eq_true rfl)) (by omega)).mpr z)
        refine lv_aload_n hx hb eX8_covered_35 rfl (lv_at hl 0 rfl) ?_
        refine va_get (D := (dC, dI)) (ci := 8) (v := .ref g) (C := RX8) (T := TX8) (N := 16) hx hb hts hiX8 hown hK hP 0 rfl rfl 6 (by decide) v_12 (fun _ h9 => h9) rfl eX8_covered_36 ?_
        refine va_get (D := (dC, dI)) (ci := 1) (v := .ref g1) (C := RX1) (T := TX1) (N := 18) hx hb hts hiX1 hown hK hP 21 rfl rfl 1 (by decide) v_22 (fun _ h9 => h9) rfl eX8_covered_39 ?_
        refine lv_iload_n hx hb eX8_covered_42 rfl (lv_at hl 2 rfl) ?_
        refine va_iald hx hb hK hP 23 19 rfl rfl (vp_in_nI (n := g_10) (by omega) (Nat.le_of_ble_eq_true rfl)) eX8_covered_43 ?_
        refine lv_topi (fun y_26 ey_26 => ?_)
        obtain ⟨u_27, hu_27, qu_27⟩ := bN_get 7 q_s1g (((nI g_10) : Int32).toNatClampNeg)
        obtain rfl : y_26 = nI u_27 := ey_26.trans qu_27
        refine lv_aload_n hx hb eX8_covered_44 rfl (lv_at hl 0 rfl) ?_
        refine va_get (D := (dC, dI)) (ci := 8) (v := .ref g) (C := RX8) (T := TX8) (N := 16) hx hb hts hiX8 hown hK hP 0 rfl rfl 6 (by decide) v_12 (fun _ h9 => h9) rfl eX8_covered_45 ?_
        refine va_get (D := (dC, dI)) (ci := 1) (v := .ref g1) (C := RX1) (T := TX1) (N := 18) hx hb hts hiX1 hown hK hP 21 rfl rfl 1 (by decide) v_22 (fun _ h9 => h9) rfl eX8_covered_48 ?_
        refine lv_iload_n hx hb eX8_covered_51 rfl (lv_at hl 1 rfl) ?_
        refine va_iald hx hb hK hP 23 19 rfl rfl (vp_in_nI (n := n_2) (by omega) (Nat.le_of_ble_eq_true rfl)) eX8_covered_52 ?_
        refine lv_topi (fun y_28 ey_28 => ?_)
        obtain ⟨u_29, hu_29, qu_29⟩ := bN_get 7 q_s1g (((nI n_2) : Int32).toNatClampNeg)
        obtain rfl : y_28 = nI u_29 := ey_28.trans qu_29
        refine lv_icmp_ne (tgt := 72) hx hb eX8_covered_53 (by decide) (fun c_30 => ?_) (fun c_30 => ?_)
        · have c_30 : ¬ u_27 = u_29 := fun z => c_30 ((nI_eq (a := u_27) (b := u_29) (Nat.lt_of_le_of_lt hu_27 (Nat.le_of_ble_eq_true rfl)) (Nat.lt_of_le_of_lt hu_29 (Nat.le_of_ble_eq_true rfl))).mpr z)
          refine lv_iinc (v := (nI (g_10 + 1))) (lv' := [(2, .int (nI (g_10 + 1))), (0, .ref xa), (1, .int (nI n_2))]) hx hb eX8_covered_72 hl (k := 2) rfl (nI_1 _) (by decide) rfl (fun ls hl => ?_)
          refine lv_goto (tgt := 19) hx hb eX8_covered_75 (by decide) ?_
          exact ih_12 (120 - (g_10 + 1)) (by omega) _ _ _ ⟨g_8, g_9, (g_10 + 1), rfl, hg_9, (by omega), by first | assumption | exact cv_0, hP, hD, hS, lv_sub hl [1, 2, 0] rfl⟩
        · have c_30 : u_27 = u_29 := (nI_eq (a := u_27) (b := u_29) (Nat.lt_of_le_of_lt hu_27 (Nat.le_of_ble_eq_true rfl)) (Nat.lt_of_le_of_lt hu_29 (Nat.le_of_ble_eq_true rfl))).mp c_30
          refine lv_aload_n hx hb eX8_covered_56 rfl (lv_at hl 0 rfl) ?_
          refine va_get (D := (dC, dI)) (ci := 8) (v := .ref rm) (C := RX8) (T := TX8) (N := 16) hx hb hts hiX8 hown hK hP 0 rfl rfl 11 (by decide) v_6 (fun _ h9 => h9) rfl eX8_covered_57 ?_
          refine lv_aload_n hx hb eX8_covered_60 rfl (lv_at hl 0 rfl) ?_
          refine va_get (D := (dC, dI)) (ci := 8) (v := .ref g) (C := RX8) (T := TX8) (N := 16) hx hb hts hiX8 hown hK hP 0 rfl rfl 6 (by decide) v_12 (fun _ h9 => h9) rfl eX8_covered_61 ?_
          refine va_get (D := (dC, dI)) (ci := 1) (v := .ref gz) (C := RX1) (T := TX1) (N := 18) hx hb hts hiX1 hown hK hP 21 rfl rfl 0 (by decide) v_14 (fun _ h9 => h9) rfl eX8_covered_64 ?_
          refine lv_iload_n hx hb eX8_covered_67 rfl (lv_at hl 2 rfl) ?_
          refine va_aldq hx hb hK hP 22 18 rfl rfl (vp_in_nI (n := g_10) (Nat.lt_of_le_of_lt hg_10 (Nat.le_of_ble_eq_true rfl)) (Nat.le_of_ble_eq_true rfl)) eX8_covered_68 ?_
          refine W.eq (g2 := F0 m 69 ls [.ref (az (121 + g_10)), .ref rm]) (by rw [zs_get (Nat.lt_of_le_of_lt hg_10 (Nat.le_of_ble_eq_true rfl)) (by omega)]) ?_
          have hPc : va_P (dC, dI) vwCl ([(rm, .inr (5, [.ref rcv, .int (nI g_9), .ref rmd, .int 0, .ref rpc, .ref rct, .ref rce, .ref (az 392)])), (rcv, .inl (k_fcv, 120, .inr (.inr (.inr (.inr g_8))))), (rmd, .inl (k_fmd, 28, .inr (.inr (.inr (.inr (zs 242 28 az)))))), (rpc, .inl (k_fpc, 122, .inr (.inr (.inr (.inr (zs 270 122 az)))))), (rct, .inl (k_fct, 122, .inl fct)), (rce, .inl (k_fce, 122, .inl (bN 16 q_fce)))] ++ zp 4 16 N az ac kz qs fz) _ := hP.part [15, 16, 17, 18, 19, 20] rfl
          have hDc : va_D A ([(rm, .inr (5, [.ref rcv, .int (nI g_9), .ref rmd, .int 0, .ref rpc, .ref rct, .ref rce, .ref (az 392)])), (rcv, .inl (k_fcv, 120, .inr (.inr (.inr (.inr g_8))))), (rmd, .inl (k_fmd, 28, .inr (.inr (.inr (.inr (zs 242 28 az)))))), (rpc, .inl (k_fpc, 122, .inr (.inr (.inr (.inr (zs 270 122 az)))))), (rct, .inl (k_fct, 122, .inl fct)), (rce, .inl (k_fce, 122, .inl (bN 16 q_fce)))] ++ zp 4 16 N az ac kz qs fz) := hD.part [15, 16, 17, 18, 19, 20] (by decide) rfl
          have hKc : va_K (dC, dI) vwCl ([(k_fcv, .object RX7), (k_fmd, .object RX7), (k_fpc, .object RX7), (k_fct, .int), (k_fce, .int)] ++ zt N kz) s := zk_part hK [13, 14, 15, 16, 17] rfl
          have hFc := pu_free hDc hS hA
          refine va_callv (va_runV (As := [.ref (az (121 + g_10))]) (rest := []) ⟨hx, hb, hml, hown, hts⟩ (c_C_5_add l dC dI _ rm rcv g_9 rmd 0 rpc rct rce k_fcv g_8 k_fmd k_fpc k_fct fct k_fce q_fce N az ac kz qs fz (121 + g_10) hg_9 (Nat.le_of_ble_eq_true rfl) (by omega) (by omega) (by assumption) (by omega)) (cwV 1 hts g_C_8_covered_C_5_add rfl rfl rfl (by decide +kernel) ⟨Nat.le_of_ble_eq_true rfl, Nat.le_of_ble_eq_true rfl⟩) ⟨pu_bl, va_recv hK hP (ci := 5) (q0 := 15) rfl rfl, pu_in hPc hKc hDc⟩ rfl rfl hl.1 rfl (lv_room (Nat.le_of_ble_eq_true rfl)) eX8_covered_69 ⟨Nat.le_of_ble_eq_true rfl, Nat.le_of_ble_eq_true rfl⟩) hS (fun q _ h => hFc q h) hFc (fun u t H1 locs ht hvm hw hB hz1 hk1 hS => ?_)
          obtain ⟨z_fcv_32, z_rk_33, ⟨hP1, -, hD1⟩, hz_rk_33, xr_31_0⟩ := hB
          rw [ht] at hP1
          obtain ⟨hP, hD⟩ := pj_c (X := (xrm__w xa xtape (nI tp) rd au xdr hy g (nI hs) tg sg (nI ss) rm ti py bu sm (nI nc) (nI np) (nI ne) st0 q4 q5 q6 q7 q8 q9 q10 q11 q12 q13 q14 q15 q16 k_f4 f4 k_f5 (bN 7 q_f5) k_f6 (bN 7 q_f6) k_f7 f7 k_f8 (bN 4 q_f8) k_f9 (bN 2 q_f9) k_f10 f10 k_f11 f11 k_f12 f12 k_f13 f13 k_f14 f14 k_f15 f15 k_f16 f16 rcv (nI g_9) rmd 0 rpc rct rce (az 392) k_fcv g_8 k_fmd (zs 242 28 az) k_fpc (zs 270 122 az) k_fct fct k_fce (bN 16 q_fce) gz g1 g2 g3 g4 g5 (nI gc) (nI gfull) gx gway gav ggoal (nI gfound) 120 (nI gl) (nI gsz) g16 g17 k_fgz (zs 121 121 az) k_s1g (bN 7 q_s1g) k_s2g s2g k_s3g s3g k_s4g s4g k_s5g s5g k_hig hig k_log log)) (X' := (xrm__w xa xtape (nI tp) rd au xdr hy g (nI hs) tg sg (nI ss) rm ti py bu sm (nI nc) (nI np) (nI ne) st0 q4 q5 q6 q7 q8 q9 q10 q11 q12 q13 q14 q15 q16 k_f4 f4 k_f5 (bN 7 q_f5) k_f6 (bN 7 q_f6) k_f7 f7 k_f8 (bN 4 q_f8) k_f9 (bN 2 q_f9) k_f10 f10 k_f11 f11 k_f12 f12 k_f13 f13 k_f14 f14 k_f15 f15 k_f16 f16 rcv (nI z_rk_33) rmd 0 rpc rct rce (az 392) k_fcv z_fcv_32 k_fmd (zs 242 28 az) k_fpc (zs 270 122 az) k_fct fct k_fce (bN 16 q_fce) gz g1 g2 g3 g4 g5 (nI gc) (nI gfull) gx gway gav ggoal (nI gfound) 120 (nI gl) (nI gsz) g16 g17 k_fgz (zs 121 121 az) k_s1g (bN 7 q_s1g) k_s2g s2g k_s3g s3g k_s4g s4g k_s5g s5g k_hig hig k_log log)) (wc := (rm__w rm rcv (nI g_9) rmd 0 rpc rct rce (az 392) k_fcv g_8 k_fmd (zs 242 28 az) k_fpc (zs 270 122 az) k_fct fct k_fce (bN 16 q_fce))) (w1 := (rm__w rm rcv (nI z_rk_33) rmd 0 rpc rct rce (az 392) k_fcv z_fcv_32 k_fmd (zs 242 28 az) k_fpc (zs 270 122 az) k_fct fct k_fce (bN 16 q_fce))) hP hD [15, 16, 17, 18, 19, 20] [6, 7, 8, 9, 10, 11, 12, 13, 14, 15, 16, 17, 18, 19, 20, 0, 1, 2, 3, 4, 5, 27, 28, 29, 30, 31, 32, 33, 34, 35] 6 rfl hk1 hP1 rfl zp_f rfl rfl (by decide)
          clear hP1 hD1 hFc
          clear hPc hDc hKc
          clear hk1 hz1 ht hvm
          generalize H1 = H at hP hS ⊢
          refine lv_iinc (v := (nI (g_10 + 1))) (lv' := [(2, .int (nI (g_10 + 1))), (0, .ref xa), (1, .int (nI n_2))]) hx hb eX8_covered_72 hl (k := 2) rfl (nI_1 _) (by decide) rfl (fun ls hl => ?_)
          refine lv_goto (tgt := 19) hx hb eX8_covered_75 (by decide) ?_
          exact ih_12 (120 - (g_10 + 1)) (by omega) _ _ _ ⟨z_fcv_32, z_rk_33, (g_10 + 1), rfl, hz_rk_33, (by omega), by first | assumption | exact cv_0, hP, hD, hS, lv_sub hl [1, 2, 0] rfl⟩
  · refine lv_if_ne (tgt := 10) hx hb eX8_covered_5 (by decide) (fun z => absurd z (by decide)) (fun _ => ?_)
    refine lv_iconst (v := (-1)) hx hb eX8_covered_8 (by decide) ?_
    exact W.iret (v := (-1)) hx hb hr (fun t ht hW => ⟨⟨(-1), (), rfl, trivial, ⟨fcv, fct, q_fce, rk, ru, fz, qs, ⟨by rw [ht]; exact hP, va_K.moved hW.alike hK, hD⟩, hrk, hru, by assumption⟩⟩, hS.F ht⟩) hS.2.2 eX8_covered_9
theorem eX8_overlap_0 : decode cX8_overlap 0 = .ok (.aload_n 0, 1) := by decide +kernel
theorem eX8_overlap_1 : decode cX8_overlap 1 = .ok (.iload_n 1, 1) := by decide +kernel
theorem eX8_overlap_2 : decode cX8_overlap 2 = .ok (.invokevirtual 228, 3) := by decide +kernel
theorem eX8_overlap_5 : decode cX8_overlap 5 = .ok (.ifCond .eq 11, 3) := by decide +kernel
theorem eX8_overlap_8 : decode cX8_overlap 8 = .ok (.aload_n 0, 1) := by decide +kernel
theorem eX8_overlap_9 : decode cX8_overlap 9 = .ok (.iload_n 2, 1) := by decide +kernel
theorem eX8_overlap_10 : decode cX8_overlap 10 = .ok (.invokevirtual 228, 3) := by decide +kernel
theorem eX8_overlap_13 : decode cX8_overlap 13 = .ok (.ifCond .ne 5, 3) := by decide +kernel
theorem eX8_overlap_16 : decode cX8_overlap 16 = .ok (.iconst (-1), 1) := by decide +kernel
theorem eX8_overlap_17 : decode cX8_overlap 17 = .ok (.ireturn, 1) := by decide +kernel
theorem eX8_overlap_18 : decode cX8_overlap 18 = .ok (.aload_n 0, 1) := by decide +kernel
theorem eX8_overlap_19 : decode cX8_overlap 19 = .ok (.getfield 55, 3) := by decide +kernel
theorem eX8_overlap_22 : decode cX8_overlap 22 = .ok (.aload_n 0, 1) := by decide +kernel
theorem eX8_overlap_23 : decode cX8_overlap 23 = .ok (.getfield 42, 3) := by decide +kernel
theorem eX8_overlap_26 : decode cX8_overlap 26 = .ok (.getfield 249, 3) := by decide +kernel
theorem eX8_overlap_29 : decode cX8_overlap 29 = .ok (.iload_n 1, 1) := by decide +kernel
theorem eX8_overlap_30 : decode cX8_overlap 30 = .ok (.aaload, 1) := by decide +kernel
theorem eX8_overlap_31 : decode cX8_overlap 31 = .ok (.aload_n 0, 1) := by decide +kernel
theorem eX8_overlap_32 : decode cX8_overlap 32 = .ok (.getfield 42, 3) := by decide +kernel
theorem eX8_overlap_35 : decode cX8_overlap 35 = .ok (.getfield 249, 3) := by decide +kernel
theorem eX8_overlap_38 : decode cX8_overlap 38 = .ok (.iload_n 2, 1) := by decide +kernel
theorem eX8_overlap_39 : decode cX8_overlap 39 = .ok (.aaload, 1) := by decide +kernel
theorem eX8_overlap_40 : decode cX8_overlap 40 = .ok (.invokevirtual 292, 3) := by decide +kernel
theorem eX8_overlap_43 : decode cX8_overlap 43 = .ok (.invokestatic 133, 3) := by decide +kernel
theorem eX8_overlap_46 : decode cX8_overlap 46 = .ok (.ireturn, 1) := by decide +kernel
abbrev vs_C_8_overlap : List Cond := .code yX8_overlap cX8_overlap 3 (some .int) :: CM
theorem g_C_8_overlap_E_8_isState : GoodIn vs_C_8_overlap (wsV RX8 228 RX8 yX8_isState vs_E_8_isState) := cm_gV cm_537 cm_538 cm_539 cm_427 cm_530
theorem g_C_8_overlap_C_5_meet : GoodIn vs_C_8_overlap (wsV RX8 292 RX5 yX5_meet vs_C_5_meet) := cm_gV cm_578 cm_357 cm_358 cm_332 cm_341
theorem g_C_8_overlap_E_8_bit : GoodIn vs_C_8_overlap (va_wsS RX8 133 yX8_bit vs_E_8_bit) := cm_gS cm_463 cm_464 cm_427 cm_465
set_option maxHeartbeats 4000000 in
set_option maxRecDepth 100000 in
theorem c_C_8_overlap (l : Launch) (dC : Nat → ClassId) (dI : Nat → Nat → Nat) (sz : Nat) (xa : Nat) (xtape : Nat) (tp : Nat) (rd : Nat) (au : Nat) (xdr : Nat) (hy : Nat) (g : Nat) (hs : Nat) (tg : Nat) (sg : Nat) (ss : Nat) (rm : Nat) (ti : Nat) (py : Nat) (bu : Nat) (sm : Nat) (nc : Nat) (np : Nat) (ne : Nat) (st0 : Int32) (q4 : Nat) (q5 : Nat) (q6 : Nat) (q7 : Nat) (q8 : Nat) (q9 : Nat) (q10 : Nat) (q11 : Nat) (q12 : Nat) (q13 : Nat) (q14 : Nat) (q15 : Nat) (q16 : Nat) (k_f4 : ClassId) (f4 : Nat → Int32) (k_f5 : ClassId) (q_f5 : Nat → Nat) (k_f6 : ClassId) (q_f6 : Nat → Nat) (k_f7 : ClassId) (f7 : Nat → Int32) (k_f8 : ClassId) (q_f8 : Nat → Nat) (k_f9 : ClassId) (q_f9 : Nat → Nat) (k_f10 : ClassId) (f10 : Nat → Int32) (k_f11 : ClassId) (f11 : Nat → Int32) (k_f12 : ClassId) (f12 : Nat → Int32) (k_f13 : ClassId) (f13 : Nat → Int32) (k_f14 : ClassId) (f14 : Nat → Int32) (k_f15 : ClassId) (f15 : Nat → Int32) (k_f16 : ClassId) (f16 : Nat → Int32) (rcv : Nat) (rk : Nat) (rmd : Nat) (ru : Nat) (rpc : Nat) (rct : Nat) (rce : Nat) (k_fcv : ClassId) (fcv : Nat → Option Nat) (k_fmd : ClassId) (k_fpc : ClassId) (k_fct : ClassId) (fct : Nat → Int32) (k_fce : ClassId) (q_fce : Nat → Nat) (gz : Nat) (g1 : Nat) (g2 : Nat) (g3 : Nat) (g4 : Nat) (g5 : Nat) (gc : Nat) (gfull : Nat) (gx : Int32) (gway : Int32) (gav : Int32) (ggoal : Int32) (gfound : Nat) (gl : Nat) (gsz : Nat) (g16 : Nat) (g17 : Nat) (k_fgz : ClassId) (k_s1g : ClassId) (q_s1g : Nat → Nat) (k_s2g : ClassId) (s2g : Nat → Int32) (k_s3g : ClassId) (s3g : Nat → Int32) (k_s4g : ClassId) (s4g : Nat → Int32) (k_s5g : ClassId) (s5g : Nat → Int32) (k_hig : ClassId) (hig : Nat → Int32) (k_log : ClassId) (log : Nat → Int32) (N : Nat) (az ac : Nat → Nat) (kz : Nat → ClassId) (qs : Nat → Nat) (fz : Nat → Nat → Int32) (p0 : Int32) (p1 : Int32) (htp : tp ≤ 900) (hhs : hs ≤ 1) (hss : ss ≤ 1) (hnc : nc ≤ 3) (hnp : np ≤ 8) (hne : ne ≤ 14) (hst0 : pm1 7 st0) (hrk : rk ≤ 120) (hru : ru ≤ 28) (hgc : gc ≤ 120) (hgfull : gfull ≤ 1) (hgfound : gfound ≤ 1) (hgl : gl ≤ 1) (hgsz : gsz ≤ 4) (hN : 393 ≤ N) : Met l yX8_overlap vs_C_8_overlap ({ frames := 2, cells := 0, slots := 0, locals := 53 }) (va_Pc [.ref xa, .int p0, .int p1] (pu_B (dC, dI) ((xrm__w xa xtape (nI tp) rd au xdr hy g (nI hs) tg sg (nI ss) rm ti py bu sm (nI nc) (nI np) (nI ne) st0 q4 q5 q6 q7 q8 q9 q10 q11 q12 q13 q14 q15 q16 k_f4 f4 k_f5 (bN 7 q_f5) k_f6 (bN 7 q_f6) k_f7 f7 k_f8 (bN 4 q_f8) k_f9 (bN 2 q_f9) k_f10 f10 k_f11 f11 k_f12 f12 k_f13 f13 k_f14 f14 k_f15 f15 k_f16 f16 rcv (nI rk) rmd (nI ru) rpc rct rce (az 392) k_fcv fcv k_fmd (zs 242 28 az) k_fpc (zs 270 122 az) k_fct fct k_fce (bN 16 q_fce) gz g1 g2 g3 g4 g5 (nI gc) (nI gfull) gx gway gav ggoal (nI gfound) 120 (nI gl) (nI gsz) g16 g17 k_fgz (zs 121 121 az) k_s1g (bN 7 q_s1g) k_s2g s2g k_s3g s3g k_s4g s4g k_s5g s5g k_hig hig k_log log) ++ zp 4 16 N az ac kz qs fz) ((xrm__t k_f4 k_f5 k_f6 k_f7 k_f8 k_f9 k_f10 k_f11 k_f12 k_f13 k_f14 k_f15 k_f16 k_fcv k_fmd k_fpc k_fct k_fce k_fgz k_s1g k_s2g k_s3g k_s4g k_s5g k_hig k_log) ++ zt N kz) sz)) (va_Qi (fun (r : Int32) (_ : Unit) => True) (fun _ t => ∃ (z_fz : Nat → Nat → Int32) (z_qs : Nat → Nat), pu_E (dC, dI) ((xrm__w xa xtape (nI tp) rd au xdr hy g (nI hs) tg sg (nI ss) rm ti py bu sm (nI nc) (nI np) (nI ne) st0 q4 q5 q6 q7 q8 q9 q10 q11 q12 q13 q14 q15 q16 k_f4 f4 k_f5 (bN 7 q_f5) k_f6 (bN 7 q_f6) k_f7 f7 k_f8 (bN 4 q_f8) k_f9 (bN 2 q_f9) k_f10 f10 k_f11 f11 k_f12 f12 k_f13 f13 k_f14 f14 k_f15 f15 k_f16 f16 rcv (nI rk) rmd (nI ru) rpc rct rce (az 392) k_fcv fcv k_fmd (zs 242 28 az) k_fpc (zs 270 122 az) k_fct fct k_fce (bN 16 q_fce) gz g1 g2 g3 g4 g5 (nI gc) (nI gfull) gx gway gav ggoal (nI gfound) 120 (nI gl) (nI gsz) g16 g17 k_fgz (zs 121 121 az) k_s1g (bN 7 q_s1g) k_s2g s2g k_s3g s3g k_s4g s4g k_s5g s5g k_hig hig k_log log) ++ zp 4 16 N az ac kz z_qs z_fz) ((xrm__t k_f4 k_f5 k_f6 k_f7 k_f8 k_f9 k_f10 k_f11 k_f12 k_f13 k_f14 k_f15 k_f16 k_fcv k_fmd k_fpc k_fct k_fce k_fgz k_s1g k_s2g k_s3g k_s4g k_s5g k_hig k_log) ++ zt N kz) (va_A (((xrm__w xa xtape (nI tp) rd au xdr hy g (nI hs) tg sg (nI ss) rm ti py bu sm (nI nc) (nI np) (nI ne) st0 q4 q5 q6 q7 q8 q9 q10 q11 q12 q13 q14 q15 q16 k_f4 f4 k_f5 (bN 7 q_f5) k_f6 (bN 7 q_f6) k_f7 f7 k_f8 (bN 4 q_f8) k_f9 (bN 2 q_f9) k_f10 f10 k_f11 f11 k_f12 f12 k_f13 f13 k_f14 f14 k_f15 f15 k_f16 f16 rcv (nI rk) rmd (nI ru) rpc rct rce (az 392) k_fcv fcv k_fmd (zs 242 28 az) k_fpc (zs 270 122 az) k_fct fct k_fce (bN 16 q_fce) gz g1 g2 g3 g4 g5 (nI gc) (nI gfull) gx gway gav ggoal (nI gfound) 120 (nI gl) (nI gsz) g16 g17 k_fgz (zs 121 121 az) k_s1g (bN 7 q_s1g) k_s2g s2g k_s3g s3g k_s4g s4g k_s5g s5g k_hig hig k_log log) ++ zp 4 16 N az ac kz qs fz)) sz) t) (va_A (((xrm__w xa xtape (nI tp) rd au xdr hy g (nI hs) tg sg (nI ss) rm ti py bu sm (nI nc) (nI np) (nI ne) st0 q4 q5 q6 q7 q8 q9 q10 q11 q12 q13 q14 q15 q16 k_f4 f4 k_f5 (bN 7 q_f5) k_f6 (bN 7 q_f6) k_f7 f7 k_f8 (bN 4 q_f8) k_f9 (bN 2 q_f9) k_f10 f10 k_f11 f11 k_f12 f12 k_f13 f13 k_f14 f14 k_f15 f15 k_f16 f16 rcv (nI rk) rmd (nI ru) rpc rct rce (az 392) k_fcv fcv k_fmd (zs 242 28 az) k_fpc (zs 270 122 az) k_fct fct k_fce (bN 16 q_fce) gz g1 g2 g3 g4 g5 (nI gc) (nI gfull) gx gway gav ggoal (nI gfound) 120 (nI gl) (nI gsz) g16 g17 k_fgz (zs 121 121 az) k_s1g (bN 7 q_s1g) k_s2g s2g k_s3g s3g k_s4g s4g k_s5g s5g k_hig hig k_log log) ++ zp 4 16 N az ac kz qs fz)) sz)) 0 0 (va_A (((xrm__w xa xtape (nI tp) rd au xdr hy g (nI hs) tg sg (nI ss) rm ti py bu sm (nI nc) (nI np) (nI ne) st0 q4 q5 q6 q7 q8 q9 q10 q11 q12 q13 q14 q15 q16 k_f4 f4 k_f5 (bN 7 q_f5) k_f6 (bN 7 q_f6) k_f7 f7 k_f8 (bN 4 q_f8) k_f9 (bN 2 q_f9) k_f10 f10 k_f11 f11 k_f12 f12 k_f13 f13 k_f14 f14 k_f15 f15 k_f16 f16 rcv (nI rk) rmd (nI ru) rpc rct rce (az 392) k_fcv fcv k_fmd (zs 242 28 az) k_fpc (zs 270 122 az) k_fct fct k_fce (bN 16 q_fce) gz g1 g2 g3 g4 g5 (nI gc) (nI gfull) gx gway gav ggoal (nI gfound) 120 (nI gl) (nI gsz) g16 g17 k_fgz (zs 121 121 az) k_s1g (bN 7 q_s1g) k_s2g s2g k_s3g s3g k_s4g s4g k_s5g s5g k_hig hig k_log log) ++ zp 4 16 N az ac kz qs fz)) sz) := by
  refine Met.ofW (cc := cX8_overlap) (maxL := 3) (ret := (some .int)) (by decide) rfl ?_
  intro p e s m args below meth c s₁ B hml hv
  obtain ⟨rfl, rfl, hP, hK, hD0⟩ := hv
  have hx := B.exec
  have hb := B.bytes
  have hr := B.returns
  have hts := atoms_spec (ws := vs_C_8_overlap) B.pre
  have v_6 := hts (.fieldLink RX8 55 "ClockReach" "remainder" "LClockReach$Remainder;") (List.mem_cons_of_mem _ cm_545)
  have v_7 := hts (.fieldLink RX8 42 "ClockReach" "shown" "LClockReach$Graph;") (List.mem_cons_of_mem _ cm_456)
  have v_8 := hts (.fieldLink RX8 249 "ClockReach$Graph" "zones" "[LClockReach$Zone;") (List.mem_cons_of_mem _ cm_544)
  have hown : s.vm.findClass RX8 = some m.cls := findClass_of_methodNamed B.named
  have hlocks := B.notSynchronized
  have hiX1 : ∀ w ∈ wsX10, w ∈ vs_C_8_overlap := fun _ h => List.mem_cons_of_mem _ (cm_X1 h)
  have hiX8 : ∀ w ∈ wsX80, w ∈ vs_C_8_overlap := fun _ h => List.mem_cons_of_mem _ (cm_X8 h)
  have hD := hD0.self (sz := s.heap.size)
  generalize hAe : va_A (((xrm__w xa xtape (nI tp) rd au xdr hy g (nI hs) tg sg (nI ss) rm ti py bu sm (nI nc) (nI np) (nI ne) st0 q4 q5 q6 q7 q8 q9 q10 q11 q12 q13 q14 q15 q16 k_f4 f4 k_f5 (bN 7 q_f5) k_f6 (bN 7 q_f6) k_f7 f7 k_f8 (bN 4 q_f8) k_f9 (bN 2 q_f9) k_f10 f10 k_f11 f11 k_f12 f12 k_f13 f13 k_f14 f14 k_f15 f15 k_f16 f16 rcv (nI rk) rmd (nI ru) rpc rct rce (az 392) k_fcv fcv k_fmd (zs 242 28 az) k_fpc (zs 270 122 az) k_fct fct k_fce (bN 16 q_fce) gz g1 g2 g3 g4 g5 (nI gc) (nI gfull) gx gway gav ggoal (nI gfound) 120 (nI gl) (nI gsz) g16 g17 k_fgz (zs 121 121 az) k_s1g (bN 7 q_s1g) k_s2g s2g k_s3g s3g k_s4g s4g k_s5g s5g k_hig hig k_log log) ++ zp 4 16 N az ac kz qs fz)) s.heap.size = A at hD ⊢
  have hA : ∀ q : Nat, s.heap.size ≤ q → A q := fun q h => by rw [← hAe]; exact Or.inr h
  have hS : va_S A s.heap s.heap [] := va_S.rf
  have hl := lv_entry ([.ref xa, .int p0, .int p1]) (n := 3) (Nat.le_of_ble_eq_true rfl)
  rw [lg_entry_eq]
  generalize (lg_sl ([.ref xa, .int p0, .int p1]) ++ List.replicate (3 - (lg_sl ([.ref xa, .int p0, .int p1])).length) Slot.unset).toArray = ls at hl ⊢
  have hl : lv_has ls 3 [(0, .ref xa), (1, .int p0), (2, .int p1)] := hl
  refine lv_aload_n hx hb eX8_overlap_0 rfl (lv_at hl 0 rfl) ?_
  refine lv_iload_n hx hb eX8_overlap_1 rfl (lv_at hl 1 rfl) ?_
  have hPc : va_P (dC, dI) vwCl [(xa, .inr (8, [.ref xtape, .int (nI tp), .ref rd, .ref au, .ref xdr, .ref hy, .ref g, .int (nI hs), .ref tg, .ref sg, .int (nI ss), .ref rm, .ref ti, .ref py, .ref bu, .ref sm])), (g, .inr (1, [.ref gz, .ref g1, .ref g2, .ref g3, .ref g4, .ref g5, .int (nI gc), .int (nI gfull), .int gx, .int gway, .int gav, .int ggoal, .int (nI gfound), .int 120, .int (nI gl), .int (nI gsz), .ref g16, .ref g17]))] _ := hP.sub [0, 21] rfl
  have hDc : va_D A [(xa, .inr (8, [.ref xtape, .int (nI tp), .ref rd, .ref au, .ref xdr, .ref hy, .ref g, .int (nI hs), .ref tg, .ref sg, .int (nI ss), .ref rm, .ref ti, .ref py, .ref bu, .ref sm])), (g, .inr (1, [.ref gz, .ref g1, .ref g2, .ref g3, .ref g4, .ref g5, .int (nI gc), .int (nI gfull), .int gx, .int gway, .int gav, .int ggoal, .int (nI gfound), .int 120, .int (nI gl), .int (nI gsz), .ref g16, .ref g17]))] := (zp_left hD).sub [0, 21] (by decide) rfl
  have hKc : va_K (dC, dI) vwCl [] s := hK.sub [] rfl
  refine va_calli (va_runV (As := [.int p0]) (rest := []) ⟨hx, hb, hml, hown, hts⟩ (c_E_8_isState l dC dI _ xa xtape tp rd au xdr hy g hs tg sg ss rm ti py bu sm gz g1 g2 g3 g4 g5 gc gfull gx gway gav ggoal gfound gl gsz g16 g17 p0 htp hhs hss hgc hgfull hgfound hgl hgsz) (cwV 1 hts g_C_8_overlap_E_8_isState rfl rfl rfl (by decide +kernel) ⟨Nat.le_of_ble_eq_true rfl, Nat.le_of_ble_eq_true rfl⟩) ⟨pu_bl, va_recv hK hP (ci := 8) (q0 := 0) rfl rfl, pu_in hPc hKc hDc⟩ rfl rfl hl.1 rfl (lv_room (Nat.le_of_ble_eq_true rfl)) eX8_overlap_2 ⟨Nat.le_of_ble_eq_true rfl, Nat.le_of_ble_eq_true rfl⟩) hS (fun q _ h => pu_fr hS hA q h) (pu_fr hS hA) (fun r_1 u t H1 locs ht hvm hw hB hz1 hk1 hS => ?_)
  have hP := pu_keep hP hk1
  clear hPc hDc hKc
  clear hk1 hz1 ht hvm
  generalize H1 = H at hP hS ⊢
  rcases hw with ⟨rfl, hw⟩ | ⟨rfl, hn⟩
  · obtain ⟨hs1, n_2, hn_2, rfl⟩ := hw
    refine lv_if_eq (tgt := 16) hx hb eX8_overlap_5 (by decide) (fun z => absurd z (by decide)) (fun _ => ?_)
    refine lv_aload_n hx hb eX8_overlap_8 rfl (lv_at hl 0 rfl) ?_
    refine lv_iload_n hx hb eX8_overlap_9 rfl (lv_at hl 2 rfl) ?_
    have hPc : va_P (dC, dI) vwCl [(xa, .inr (8, [.ref xtape, .int (nI tp), .ref rd, .ref au, .ref xdr, .ref hy, .ref g, .int (nI hs), .ref tg, .ref sg, .int (nI ss), .ref rm, .ref ti, .ref py, .ref bu, .ref sm])), (g, .inr (1, [.ref gz, .ref g1, .ref g2, .ref g3, .ref g4, .ref g5, .int (nI gc), .int (nI gfull), .int gx, .int gway, .int gav, .int ggoal, .int (nI gfound), .int 120, .int (nI gl), .int (nI gsz), .ref g16, .ref g17]))] _ := hP.sub [0, 21] rfl
    have hDc : va_D A [(xa, .inr (8, [.ref xtape, .int (nI tp), .ref rd, .ref au, .ref xdr, .ref hy, .ref g, .int (nI hs), .ref tg, .ref sg, .int (nI ss), .ref rm, .ref ti, .ref py, .ref bu, .ref sm])), (g, .inr (1, [.ref gz, .ref g1, .ref g2, .ref g3, .ref g4, .ref g5, .int (nI gc), .int (nI gfull), .int gx, .int gway, .int gav, .int ggoal, .int (nI gfound), .int 120, .int (nI gl), .int (nI gsz), .ref g16, .ref g17]))] := (zp_left hD).sub [0, 21] (by decide) rfl
    have hKc : va_K (dC, dI) vwCl [] s := hK.sub [] rfl
    refine va_calli (va_runV (As := [.int p1]) (rest := []) ⟨hx, hb, hml, hown, hts⟩ (c_E_8_isState l dC dI _ xa xtape tp rd au xdr hy g hs tg sg ss rm ti py bu sm gz g1 g2 g3 g4 g5 gc gfull gx gway gav ggoal gfound gl gsz g16 g17 p1 htp hhs hss hgc hgfull hgfound hgl hgsz) (cwV 1 hts g_C_8_overlap_E_8_isState rfl rfl rfl (by decide +kernel) ⟨Nat.le_of_ble_eq_true rfl, Nat.le_of_ble_eq_true rfl⟩) ⟨pu_bl, va_recv hK hP (ci := 8) (q0 := 0) rfl rfl, pu_in hPc hKc hDc⟩ rfl rfl hl.1 rfl (lv_room (Nat.le_of_ble_eq_true rfl)) eX8_overlap_10 ⟨Nat.le_of_ble_eq_true rfl, Nat.le_of_ble_eq_true rfl⟩) hS (fun q _ h => pu_fr hS hA q h) (pu_fr hS hA) (fun r_3 u t H1 locs ht hvm hw hB hz1 hk1 hS => ?_)
    have hP := pu_keep hP hk1
    clear hPc hDc hKc
    clear hk1 hz1 ht hvm
    generalize H1 = H at hP hS ⊢
    rcases hw with ⟨rfl, hw⟩ | ⟨rfl, hn⟩
    · obtain ⟨hs1, n_4, hn_4, rfl⟩ := hw
      refine lv_if_ne (tgt := 18) hx hb eX8_overlap_13 (by decide) (fun _ => ?_) (fun z => absurd z (by decide))
      refine lv_aload_n hx hb eX8_overlap_18 rfl (lv_at hl 0 rfl) ?_
      refine va_get (D := (dC, dI)) (ci := 8) (v := .ref rm) (C := RX8) (T := TX8) (N := 16) hx hb hts hiX8 hown hK hP 0 rfl rfl 11 (by decide) v_6 (fun _ h9 => h9) rfl eX8_overlap_19 ?_
      refine lv_aload_n hx hb eX8_overlap_22 rfl (lv_at hl 0 rfl) ?_
      refine va_get (D := (dC, dI)) (ci := 8) (v := .ref g) (C := RX8) (T := TX8) (N := 16) hx hb hts hiX8 hown hK hP 0 rfl rfl 6 (by decide) v_7 (fun _ h9 => h9) rfl eX8_overlap_23 ?_
      refine va_get (D := (dC, dI)) (ci := 1) (v := .ref gz) (C := RX1) (T := TX1) (N := 18) hx hb hts hiX1 hown hK hP 21 rfl rfl 0 (by decide) v_8 (fun _ h9 => h9) rfl eX8_overlap_26 ?_
      refine lv_iload_n hx hb eX8_overlap_29 rfl (lv_at hl 1 rfl) ?_
      refine va_aldq hx hb hK hP 22 18 rfl rfl (vp_in_nI (n := n_2) (by omega) (Nat.le_of_ble_eq_true rfl)) eX8_overlap_30 ?_
      refine W.eq (g2 := F0 m 31 ls [.ref (az (121 + n_2)), .ref rm]) (by rw [zs_get (by omega) (by omega)]) ?_
      refine lv_aload_n hx hb eX8_overlap_31 rfl (lv_at hl 0 rfl) ?_
      refine va_get (D := (dC, dI)) (ci := 8) (v := .ref g) (C := RX8) (T := TX8) (N := 16) hx hb hts hiX8 hown hK hP 0 rfl rfl 6 (by decide) v_7 (fun _ h9 => h9) rfl eX8_overlap_32 ?_
      refine va_get (D := (dC, dI)) (ci := 1) (v := .ref gz) (C := RX1) (T := TX1) (N := 18) hx hb hts hiX1 hown hK hP 21 rfl rfl 0 (by decide) v_8 (fun _ h9 => h9) rfl eX8_overlap_35 ?_
      refine lv_iload_n hx hb eX8_overlap_38 rfl (lv_at hl 2 rfl) ?_
      refine va_aldq hx hb hK hP 22 18 rfl rfl (vp_in_nI (n := n_4) (by omega) (Nat.le_of_ble_eq_true rfl)) eX8_overlap_39 ?_
      refine W.eq (g2 := F0 m 40 ls [.ref (az (121 + n_4)), .ref (az (121 + n_2)), .ref rm]) (by rw [zs_get (by omega) (by omega)]) ?_
      have hPc : va_P (dC, dI) vwCl ([(rm, .inr (5, [.ref rcv, .int (nI rk), .ref rmd, .int (nI ru), .ref rpc, .ref rct, .ref rce, .ref (az 392)])), (rcv, .inl (k_fcv, 120, .inr (.inr (.inr (.inr fcv))))), (rmd, .inl (k_fmd, 28, .inr (.inr (.inr (.inr (zs 242 28 az)))))), (rpc, .inl (k_fpc, 122, .inr (.inr (.inr (.inr (zs 270 122 az)))))), (rct, .inl (k_fct, 122, .inl fct)), (rce, .inl (k_fce, 122, .inl (bN 16 q_fce)))] ++ zp 4 16 N az ac kz qs fz) _ := hP.part [15, 16, 17, 18, 19, 20] rfl
      have hDc : va_D A ([(rm, .inr (5, [.ref rcv, .int (nI rk), .ref rmd, .int (nI ru), .ref rpc, .ref rct, .ref rce, .ref (az 392)])), (rcv, .inl (k_fcv, 120, .inr (.inr (.inr (.inr fcv))))), (rmd, .inl (k_fmd, 28, .inr (.inr (.inr (.inr (zs 242 28 az)))))), (rpc, .inl (k_fpc, 122, .inr (.inr (.inr (.inr (zs 270 122 az)))))), (rct, .inl (k_fct, 122, .inl fct)), (rce, .inl (k_fce, 122, .inl (bN 16 q_fce)))] ++ zp 4 16 N az ac kz qs fz) := hD.part [15, 16, 17, 18, 19, 20] (by decide) rfl
      have hKc : va_K (dC, dI) vwCl ([(k_fcv, .object RX7), (k_fmd, .object RX7), (k_fpc, .object RX7), (k_fct, .int), (k_fce, .int)] ++ zt N kz) s := zk_part hK [13, 14, 15, 16, 17] rfl
      have hFc := pu_free hDc hS hA
      refine va_calli (va_runV (As := [.ref (az (121 + n_2)), .ref (az (121 + n_4))]) (rest := []) ⟨hx, hb, hml, hown, hts⟩ (c_C_5_meet l dC dI _ rm rcv rk rmd ru rpc rct rce k_fcv fcv k_fmd k_fpc k_fct fct k_fce q_fce N az ac kz qs fz (121 + n_2) (121 + n_4) hrk hru (by omega) (by omega) (by omega) (by omega) (by omega)) (cwV 2 hts g_C_8_overlap_C_5_meet rfl rfl rfl (by decide +kernel) ⟨Nat.le_of_ble_eq_true rfl, Nat.le_of_ble_eq_true rfl⟩) ⟨pu_bl, va_recv hK hP (ci := 5) (q0 := 15) rfl rfl, pu_in hPc hKc hDc⟩ rfl rfl hl.1 rfl (lv_room (Nat.le_of_ble_eq_true rfl)) eX8_overlap_40 ⟨Nat.le_of_ble_eq_true rfl, Nat.le_of_ble_eq_true rfl⟩) hS (fun q _ h => hFc q h) hFc (fun r_5 u t H1 locs ht hvm hw hB hz1 hk1 hS => ?_)
      obtain ⟨z_fz_6, z_qs_7, ⟨hP1, -, hD1⟩⟩ := hB
      rw [ht] at hP1
      obtain ⟨hP, hD⟩ := pj_c (X := (xrm__w xa xtape (nI tp) rd au xdr hy g (nI hs) tg sg (nI ss) rm ti py bu sm (nI nc) (nI np) (nI ne) st0 q4 q5 q6 q7 q8 q9 q10 q11 q12 q13 q14 q15 q16 k_f4 f4 k_f5 (bN 7 q_f5) k_f6 (bN 7 q_f6) k_f7 f7 k_f8 (bN 4 q_f8) k_f9 (bN 2 q_f9) k_f10 f10 k_f11 f11 k_f12 f12 k_f13 f13 k_f14 f14 k_f15 f15 k_f16 f16 rcv (nI rk) rmd (nI ru) rpc rct rce (az 392) k_fcv fcv k_fmd (zs 242 28 az) k_fpc (zs 270 122 az) k_fct fct k_fce (bN 16 q_fce) gz g1 g2 g3 g4 g5 (nI gc) (nI gfull) gx gway gav ggoal (nI gfound) 120 (nI gl) (nI gsz) g16 g17 k_fgz (zs 121 121 az) k_s1g (bN 7 q_s1g) k_s2g s2g k_s3g s3g k_s4g s4g k_s5g s5g k_hig hig k_log log)) (X' := (xrm__w xa xtape (nI tp) rd au xdr hy g (nI hs) tg sg (nI ss) rm ti py bu sm (nI nc) (nI np) (nI ne) st0 q4 q5 q6 q7 q8 q9 q10 q11 q12 q13 q14 q15 q16 k_f4 f4 k_f5 (bN 7 q_f5) k_f6 (bN 7 q_f6) k_f7 f7 k_f8 (bN 4 q_f8) k_f9 (bN 2 q_f9) k_f10 f10 k_f11 f11 k_f12 f12 k_f13 f13 k_f14 f14 k_f15 f15 k_f16 f16 rcv (nI rk) rmd (nI ru) rpc rct rce (az 392) k_fcv fcv k_fmd (zs 242 28 az) k_fpc (zs 270 122 az) k_fct fct k_fce (bN 16 q_fce) gz g1 g2 g3 g4 g5 (nI gc) (nI gfull) gx gway gav ggoal (nI gfound) 120 (nI gl) (nI gsz) g16 g17 k_fgz (zs 121 121 az) k_s1g (bN 7 q_s1g) k_s2g s2g k_s3g s3g k_s4g s4g k_s5g s5g k_hig hig k_log log)) (wc := (rm__w rm rcv (nI rk) rmd (nI ru) rpc rct rce (az 392) k_fcv fcv k_fmd (zs 242 28 az) k_fpc (zs 270 122 az) k_fct fct k_fce (bN 16 q_fce))) (w1 := (rm__w rm rcv (nI rk) rmd (nI ru) rpc rct rce (az 392) k_fcv fcv k_fmd (zs 242 28 az) k_fpc (zs 270 122 az) k_fct fct k_fce (bN 16 q_fce))) hP hD [15, 16, 17, 18, 19, 20] [6, 7, 8, 9, 10, 11, 12, 13, 14, 15, 16, 17, 18, 19, 20, 0, 1, 2, 3, 4, 5, 27, 28, 29, 30, 31, 32, 33, 34, 35] 6 rfl hk1 hP1 rfl zp_f rfl rfl (by decide)
      clear hP1 hD1 hFc
      clear hPc hDc hKc
      clear hk1 hz1 ht hvm
      generalize H1 = H at hP hS ⊢
      obtain ⟨u_8, hu_8, rfl⟩ := hw
      have hPc : va_P (dC, dI) vwCl [] _ := hP.sub [] rfl
      have hDc : va_D A [] := (zp_left hD).sub [] (by decide) rfl
      have hKc : va_K (dC, dI) vwCl [] s := hK.sub [] rfl
      refine va_calli (va_runS (As := [.int (nI u_8)]) (rest := []) ⟨hx, hb, hml, hown, hts⟩ (c_E_8_bit l dC dI _ (nI u_8)) (va_cwS 1 hts g_C_8_overlap_E_8_bit rfl rfl rfl (by decide +kernel) ⟨Nat.le_of_ble_eq_true rfl, Nat.le_of_ble_eq_true rfl⟩) ⟨pu_bl, pu_in hPc hKc hDc⟩ rfl rfl hl.1 rfl (lv_room (Nat.le_of_ble_eq_true rfl)) eX8_overlap_43 ⟨Nat.le_of_ble_eq_true rfl, Nat.le_of_ble_eq_true rfl⟩) hS (fun q _ h => pu_fr hS hA q h) (pu_fr hS hA) (fun r_9 u t H1 locs ht hvm hw hB hz1 hk1 hS => ?_)
      have hP := pu_keep hP hk1
      clear hPc hDc hKc
      clear hk1 hz1 ht hvm
      generalize H1 = H at hP hS ⊢
      obtain ⟨u_10, hu_10, rfl, iu_10⟩ := hw
      exact W.iret (v := (nI u_10)) hx hb hr (fun t ht hW => ⟨⟨(nI u_10), (), rfl, trivial, ⟨z_fz_6, z_qs_7, ⟨by rw [ht]; exact hP, va_K.moved hW.alike hK, hD⟩⟩⟩, hS.F ht⟩) hS.2.2 eX8_overlap_46
    · refine lv_if_ne (tgt := 18) hx hb eX8_overlap_13 (by decide) (fun z => absurd z (by decide)) (fun _ => ?_)
      refine lv_iconst (v := (-1)) hx hb eX8_overlap_16 (by decide) ?_
      exact W.iret (v := (-1)) hx hb hr (fun t ht hW => ⟨⟨(-1), (), rfl, trivial, ⟨fz, qs, ⟨by rw [ht]; exact hP, va_K.moved hW.alike hK, hD⟩⟩⟩, hS.F ht⟩) hS.2.2 eX8_overlap_17
  · refine lv_if_eq (tgt := 16) hx hb eX8_overlap_5 (by decide) (fun _ => ?_) (fun z => absurd z (by decide))
    refine lv_iconst (v := (-1)) hx hb eX8_overlap_16 (by decide) ?_
    exact W.iret (v := (-1)) hx hb hr (fun t ht hW => ⟨⟨(-1), (), rfl, trivial, ⟨fz, qs, ⟨by rw [ht]; exact hP, va_K.moved hW.alike hK, hD⟩⟩⟩, hS.F ht⟩) hS.2.2 eX8_overlap_17
