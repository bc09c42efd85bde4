theorem eX8_state_0 : decode cX8_state 0 = .ok (.aload_n 0, 1) := by decide +kernel
theorem eX8_state_1 : decode cX8_state 1 = .ok (.iload_n 1, 1) := by decide +kernel
theorem eX8_state_2 : decode cX8_state 2 = .ok (.invokevirtual 228, 3) := by decide +kernel
theorem eX8_state_5 : decode cX8_state 5 = .ok (.ifCond .ne 5, 3) := by decide +kernel
theorem eX8_state_8 : decode cX8_state 8 = .ok (.iconst (-1), 1) := by decide +kernel
theorem eX8_state_9 : decode cX8_state 9 = .ok (.ireturn, 1) := by decide +kernel
theorem eX8_state_10 : decode cX8_state 10 = .ok (.iload_n 2, 1) := by decide +kernel
theorem eX8_state_11 : decode cX8_state 11 = .ok (.tableswitch 96 0 5 #[37, 47, 57, 67, 77, 87], 37) := by decide +kernel
theorem eX8_state_48 : decode cX8_state 48 = .ok (.aload_n 0, 1) := by decide +kernel
theorem eX8_state_49 : decode cX8_state 49 = .ok (.getfield 42, 3) := by decide +kernel
theorem eX8_state_52 : decode cX8_state 52 = .ok (.getfield 231, 3) := by decide +kernel
theorem eX8_state_55 : decode cX8_state 55 = .ok (.iload_n 1, 1) := by decide +kernel
theorem eX8_state_56 : decode cX8_state 56 = .ok (.iaload, 1) := by decide +kernel
theorem eX8_state_57 : decode cX8_state 57 = .ok (.ireturn, 1) := by decide +kernel
theorem eX8_state_58 : decode cX8_state 58 = .ok (.aload_n 0, 1) := by decide +kernel
theorem eX8_state_59 : decode cX8_state 59 = .ok (.getfield 42, 3) := by decide +kernel
theorem eX8_state_62 : decode cX8_state 62 = .ok (.getfield 234, 3) := by decide +kernel
theorem eX8_state_65 : decode cX8_state 65 = .ok (.iload_n 1, 1) := by decide +kernel
theorem eX8_state_66 : decode cX8_state 66 = .ok (.iaload, 1) := by decide +kernel
theorem eX8_state_67 : decode cX8_state 67 = .ok (.ireturn, 1) := by decide +kernel
theorem eX8_state_68 : decode cX8_state 68 = .ok (.aload_n 0, 1) := by decide +kernel
theorem eX8_state_69 : decode cX8_state 69 = .ok (.getfield 42, 3) := by decide +kernel
theorem eX8_state_72 : decode cX8_state 72 = .ok (.getfield 237, 3) := by decide +kernel
theorem eX8_state_75 : decode cX8_state 75 = .ok (.iload_n 1, 1) := by decide +kernel
theorem eX8_state_76 : decode cX8_state 76 = .ok (.iaload, 1) := by decide +kernel
theorem eX8_state_77 : decode cX8_state 77 = .ok (.ireturn, 1) := by decide +kernel
theorem eX8_state_78 : decode cX8_state 78 = .ok (.aload_n 0, 1) := by decide +kernel
theorem eX8_state_79 : decode cX8_state 79 = .ok (.getfield 42, 3) := by decide +kernel
theorem eX8_state_82 : decode cX8_state 82 = .ok (.getfield 240, 3) := by decide +kernel
theorem eX8_state_85 : decode cX8_state 85 = .ok (.iload_n 1, 1) := by decide +kernel
theorem eX8_state_86 : decode cX8_state 86 = .ok (.iaload, 1) := by decide +kernel
theorem eX8_state_87 : decode cX8_state 87 = .ok (.ireturn, 1) := by decide +kernel
theorem eX8_state_88 : decode cX8_state 88 = .ok (.aload_n 0, 1) := by decide +kernel
theorem eX8_state_89 : decode cX8_state 89 = .ok (.getfield 42, 3) := by decide +kernel
theorem eX8_state_92 : decode cX8_state 92 = .ok (.getfield 243, 3) := by decide +kernel
theorem eX8_state_95 : decode cX8_state 95 = .ok (.iload_n 1, 1) := by decide +kernel
theorem eX8_state_96 : decode cX8_state 96 = .ok (.iaload, 1) := by decide +kernel
theorem eX8_state_97 : decode cX8_state 97 = .ok (.ireturn, 1) := by decide +kernel
theorem eX8_state_98 : decode cX8_state 98 = .ok (.aload_n 0, 1) := by decide +kernel
theorem eX8_state_99 : decode cX8_state 99 = .ok (.iload_n 1, 1) := by decide +kernel
theorem eX8_state_100 : decode cX8_state 100 = .ok (.invokevirtual 246, 3) := by decide +kernel
theorem eX8_state_103 : decode cX8_state 103 = .ok (.invokestatic 133, 3) := by decide +kernel
theorem eX8_state_106 : decode cX8_state 106 = .ok (.ireturn, 1) := by decide +kernel
theorem eX8_state_107 : decode cX8_state 107 = .ok (.iconst (-1), 1) := by decide +kernel
theorem eX8_state_108 : decode cX8_state 108 = .ok (.ireturn, 1) := by decide +kernel
abbrev vs_C_8_state : List Cond := .code yX8_state cX8_state 3 (some .int) :: CM
theorem g_C_8_state_E_8_isState : GoodIn vs_C_8_state (wsV RX8 228 RX8 yX8_isState vs_E_8_isState) := cm_gV cm_537 cm_538 cm_539 cm_427 cm_530
theorem g_C_8_state_C_8_isStuck : GoodIn vs_C_8_state (wsV RX8 246 RX8 yX8_isStuck vs_C_8_isStuck) := cm_gV cm_540 cm_541 cm_542 cm_427 cm_543
theorem g_C_8_state_E_8_bit : GoodIn vs_C_8_state (va_wsS RX8 133 yX8_bit vs_E_8_bit) := cm_gS cm_463 cm_464 cm_427 cm_465
set_option maxHeartbeats 4000000 in
set_option maxRecDepth 100000 in
theorem c_C_8_state (l : Launch) (dC : Nat → ClassId) (dI : Nat → Nat → Nat) (sz : Nat) (xa : Nat) (xtape : Nat) (tp : Nat) (rd : Nat) (au : Nat) (xdr : Nat) (hy : Nat) (g : Nat) (hs : Nat) (tg : Nat) (sg : Nat) (ss : Nat) (rm : Nat) (ti : Nat) (py : Nat) (bu : Nat) (sm : Nat) (nc : Nat) (np : Nat) (ne : Nat) (st0 : Int32) (q4 : Nat) (q5 : Nat) (q6 : Nat) (q7 : Nat) (q8 : Nat) (q9 : Nat) (q10 : Nat) (q11 : Nat) (q12 : Nat) (q13 : Nat) (q14 : Nat) (q15 : Nat) (q16 : Nat) (k_f4 : ClassId) (f4 : Nat → Int32) (k_f5 : ClassId) (q_f5 : Nat → Nat) (k_f6 : ClassId) (q_f6 : Nat → Nat) (k_f7 : ClassId) (f7 : Nat → Int32) (k_f8 : ClassId) (q_f8 : Nat → Nat) (k_f9 : ClassId) (q_f9 : Nat → Nat) (k_f10 : ClassId) (f10 : Nat → Int32) (k_f11 : ClassId) (f11 : Nat → Int32) (k_f12 : ClassId) (f12 : Nat → Int32) (k_f13 : ClassId) (f13 : Nat → Int32) (k_f14 : ClassId) (f14 : Nat → Int32) (k_f15 : ClassId) (f15 : Nat → Int32) (k_f16 : ClassId) (f16 : Nat → Int32) (rcv : Nat) (rk : Nat) (rmd : Nat) (ru : Nat) (rpc : Nat) (rct : Nat) (rce : Nat) (k_fcv : ClassId) (fcv : Nat → Option Nat) (k_fmd : ClassId) (k_fpc : ClassId) (k_fct : ClassId) (fct : Nat → Int32) (k_fce : ClassId) (q_fce : Nat → Nat) (gz : Nat) (g1 : Nat) (g2 : Nat) (g3 : Nat) (g4 : Nat) (g5 : Nat) (gc : Nat) (gfull : Nat) (gx : Int32) (gway : Int32) (gav : Int32) (ggoal : Int32) (gfound : Nat) (gl : Nat) (gsz : Nat) (g16 : Nat) (g17 : Nat) (k_fgz : ClassId) (k_s1g : ClassId) (q_s1g : Nat → Nat) (k_s2g : ClassId) (s2g : Nat → Int32) (k_s3g : ClassId) (s3g : Nat → Int32) (k_s4g : ClassId) (s4g : Nat → Int32) (k_s5g : ClassId) (s5g : Nat → Int32) (k_hig : ClassId) (hig : Nat → Int32) (k_log : ClassId) (log : Nat → Int32) (N : Nat) (az ac : Nat → Nat) (kz : Nat → ClassId) (qs : Nat → Nat) (fz : Nat → Nat → Int32) (p0 : Int32) (p1 : Int32) (htp : tp ≤ 900) (hhs : hs ≤ 1) (hss : ss ≤ 1) (hnc : nc ≤ 3) (hnp : np ≤ 8) (hne : ne ≤ 14) (hst0 : pm1 7 st0) (hrk : rk ≤ 120) (hru : ru ≤ 28) (hgc : gc ≤ 120) (hgfull : gfull ≤ 1) (hgfound : gfound ≤ 1) (hgl : gl ≤ 1) (hgsz : gsz ≤ 4) (hN : 393 ≤ N) (hq0 : cv_ok rk fcv az) : Met l yX8_state vs_C_8_state ({ frames := 6, cells := 0, slots := 0, locals := 152 }) (va_Pc [.ref xa, .int p0, .int p1] (pu_B (dC, dI) ((xrm__w xa xtape (nI tp) rd au xdr hy g (nI hs) tg sg (nI ss) rm ti py bu sm (nI nc) (nI np) (nI ne) st0 q4 q5 q6 q7 q8 q9 q10 q11 q12 q13 q14 q15 q16 k_f4 f4 k_f5 (bN 7 q_f5) k_f6 (bN 7 q_f6) k_f7 f7 k_f8 (bN 4 q_f8) k_f9 (bN 2 q_f9) k_f10 f10 k_f11 f11 k_f12 f12 k_f13 f13 k_f14 f14 k_f15 f15 k_f16 f16 rcv (nI rk) rmd (nI ru) rpc rct rce (az 392) k_fcv fcv k_fmd (zs 242 28 az) k_fpc (zs 270 122 az) k_fct fct k_fce (bN 16 q_fce) gz g1 g2 g3 g4 g5 (nI gc) (nI gfull) gx gway gav ggoal (nI gfound) 120 (nI gl) (nI gsz) g16 g17 k_fgz (zs 121 121 az) k_s1g (bN 7 q_s1g) k_s2g s2g k_s3g s3g k_s4g s4g k_s5g s5g k_hig hig k_log log) ++ zp 4 16 N az ac kz qs fz) ((xrm__t k_f4 k_f5 k_f6 k_f7 k_f8 k_f9 k_f10 k_f11 k_f12 k_f13 k_f14 k_f15 k_f16 k_fcv k_fmd k_fpc k_fct k_fce k_fgz k_s1g k_s2g k_s3g k_s4g k_s5g k_hig k_log) ++ zt N kz) sz)) (va_Qi (fun (r : Int32) (_ : Unit) => True) (fun _ t => ∃ (z_fcv : Nat → Option Nat) (z_fct : Nat → Int32) (z_fce : Nat → Nat) (z_rk : Nat) (z_ru : Nat) (z_fz : Nat → Nat → Int32) (z_qs : Nat → Nat), pu_E (dC, dI) ((xrm__w xa xtape (nI tp) rd au xdr hy g (nI hs) tg sg (nI ss) rm ti py bu sm (nI nc) (nI np) (nI ne) st0 q4 q5 q6 q7 q8 q9 q10 q11 q12 q13 q14 q15 q16 k_f4 f4 k_f5 (bN 7 q_f5) k_f6 (bN 7 q_f6) k_f7 f7 k_f8 (bN 4 q_f8) k_f9 (bN 2 q_f9) k_f10 f10 k_f11 f11 k_f12 f12 k_f13 f13 k_f14 f14 k_f15 f15 k_f16 f16 rcv (nI z_rk) rmd (nI z_ru) rpc rct rce (az 392) k_fcv z_fcv k_fmd (zs 242 28 az) k_fpc (zs 270 122 az) k_fct z_fct k_fce (bN 16 z_fce) gz g1 g2 g3 g4 g5 (nI gc) (nI gfull) gx gway gav ggoal (nI gfound) 120 (nI gl) (nI gsz) g16 g17 k_fgz (zs 121 121 az) k_s1g (bN 7 q_s1g) k_s2g s2g k_s3g s3g k_s4g s4g k_s5g s5g k_hig hig k_log log) ++ zp 4 16 N az ac kz z_qs z_fz) ((xrm__t k_f4 k_f5 k_f6 k_f7 k_f8 k_f9 k_f10 k_f11 k_f12 k_f13 k_f14 k_f15 k_f16 k_fcv k_fmd k_fpc k_fct k_fce k_fgz k_s1g k_s2g k_s3g k_s4g k_s5g k_hig k_log) ++ zt N kz) (va_A (((xrm__w xa xtape (nI tp) rd au xdr hy g (nI hs) tg sg (nI ss) rm ti py bu sm (nI nc) (nI np) (nI ne) st0 q4 q5 q6 q7 q8 q9 q10 q11 q12 q13 q14 q15 q16 k_f4 f4 k_f5 (bN 7 q_f5) k_f6 (bN 7 q_f6) k_f7 f7 k_f8 (bN 4 q_f8) k_f9 (bN 2 q_f9) k_f10 f10 k_f11 f11 k_f12 f12 k_f13 f13 k_f14 f14 k_f15 f15 k_f16 f16 rcv (nI rk) rmd (nI ru) rpc rct rce (az 392) k_fcv fcv k_fmd (zs 242 28 az) k_fpc (zs 270 122 az) k_fct fct k_fce (bN 16 q_fce) gz g1 g2 g3 g4 g5 (nI gc) (nI gfull) gx gway gav ggoal (nI gfound) 120 (nI gl) (nI gsz) g16 g17 k_fgz (zs 121 121 az) k_s1g (bN 7 q_s1g) k_s2g s2g k_s3g s3g k_s4g s4g k_s5g s5g k_hig hig k_log log) ++ zp 4 16 N az ac kz qs fz)) sz) t ∧ (z_rk ≤ 120) ∧ (z_ru ≤ 28) ∧ (cv_ok z_rk z_fcv az)) (va_A (((xrm__w xa xtape (nI tp) rd au xdr hy g (nI hs) tg sg (nI ss) rm ti py bu sm (nI nc) (nI np) (nI ne) st0 q4 q5 q6 q7 q8 q9 q10 q11 q12 q13 q14 q15 q16 k_f4 f4 k_f5 (bN 7 q_f5) k_f6 (bN 7 q_f6) k_f7 f7 k_f8 (bN 4 q_f8) k_f9 (bN 2 q_f9) k_f10 f10 k_f11 f11 k_f12 f12 k_f13 f13 k_f14 f14 k_f15 f15 k_f16 f16 rcv (nI rk) rmd (nI ru) rpc rct rce (az 392) k_fcv fcv k_fmd (zs 242 28 az) k_fpc (zs 270 122 az) k_fct fct k_fce (bN 16 q_fce) gz g1 g2 g3 g4 g5 (nI gc) (nI gfull) gx gway gav ggoal (nI gfound) 120 (nI gl) (nI gsz) g16 g17 k_fgz (zs 121 121 az) k_s1g (bN 7 q_s1g) k_s2g s2g k_s3g s3g k_s4g s4g k_s5g s5g k_hig hig k_log log) ++ zp 4 16 N az ac kz qs fz)) sz)) 0 0 (va_A (((xrm__w xa xtape (nI tp) rd au xdr hy g (nI hs) tg sg (nI ss) rm ti py bu sm (nI nc) (nI np) (nI ne) st0 q4 q5 q6 q7 q8 q9 q10 q11 q12 q13 q14 q15 q16 k_f4 f4 k_f5 (bN 7 q_f5) k_f6 (bN 7 q_f6) k_f7 f7 k_f8 (bN 4 q_f8) k_f9 (bN 2 q_f9) k_f10 f10 k_f11 f11 k_f12 f12 k_f13 f13 k_f14 f14 k_f15 f15 k_f16 f16 rcv (nI rk) rmd (nI ru) rpc rct rce (az 392) k_fcv fcv k_fmd (zs 242 28 az) k_fpc (zs 270 122 az) k_fct fct k_fce (bN 16 q_fce) gz g1 g2 g3 g4 g5 (nI gc) (nI gfull) gx gway gav ggoal (nI gfound) 120 (nI gl) (nI gsz) g16 g17 k_fgz (zs 121 121 az) k_s1g (bN 7 q_s1g) k_s2g s2g k_s3g s3g k_s4g s4g k_s5g s5g k_hig hig k_log log) ++ zp 4 16 N az ac kz qs fz)) sz) := by
  refine Met.ofW (cc := cX8_state) (maxL := 3) (ret := (some .int)) (by decide) rfl ?_
  intro p e s m args below meth c s₁ B hml hv
  obtain ⟨rfl, rfl, hP, hK, hD0⟩ := hv
  have hx := B.exec
  have hb := B.bytes
  have hr := B.returns
  have hts := atoms_spec (ws := vs_C_8_state) B.pre
  have v_6 := hts (.fieldLink RX8 42 "ClockReach" "shown" "LClockReach$Graph;") (List.mem_cons_of_mem _ cm_456)
  have v_7 := hts (.fieldLink RX8 231 "ClockReach$Graph" "sites" "[I") (List.mem_cons_of_mem _ cm_532)
  have v_8 := hts (.fieldLink RX8 234 "ClockReach$Graph" "parents" "[I") (List.mem_cons_of_mem _ cm_533)
  have v_9 := hts (.fieldLink RX8 237 "ClockReach$Graph" "entries" "[I") (List.mem_cons_of_mem _ cm_534)
  have v_10 := hts (.fieldLink RX8 240 "ClockReach$Graph" "depths" "[I") (List.mem_cons_of_mem _ cm_535)
  have v_11 := hts (.fieldLink RX8 243 "ClockReach$Graph" "broods" "[I") (List.mem_cons_of_mem _ cm_536)
  have hown : s.vm.findClass RX8 = some m.cls := findClass_of_methodNamed B.named
  have hlocks := B.notSynchronized
  have hiX1 : ∀ w ∈ wsX10, w ∈ vs_C_8_state := fun _ h => List.mem_cons_of_mem _ (cm_X1 h)
  have hiX8 : ∀ w ∈ wsX80, w ∈ vs_C_8_state := fun _ h => List.mem_cons_of_mem _ (cm_X8 h)
  have hD := hD0.self (sz := s.heap.size)
  generalize hAe : va_A (((xrm__w xa xtape (nI tp) rd au xdr hy g (nI hs) tg sg (nI ss) rm ti py bu sm (nI nc) (nI np) (nI ne) st0 q4 q5 q6 q7 q8 q9 q10 q11 q12 q13 q14 q15 q16 k_f4 f4 k_f5 (bN 7 q_f5) k_f6 (bN 7 q_f6) k_f7 f7 k_f8 (bN 4 q_f8) k_f9 (bN 2 q_f9) k_f10 f10 k_f11 f11 k_f12 f12 k_f13 f13 k_f14 f14 k_f15 f15 k_f16 f16 rcv (nI rk) rmd (nI ru) rpc rct rce (az 392) k_fcv fcv k_fmd (zs 242 28 az) k_fpc (zs 270 122 az) k_fct fct k_fce (bN 16 q_fce) gz g1 g2 g3 g4 g5 (nI gc) (nI gfull) gx gway gav ggoal (nI gfound) 120 (nI gl) (nI gsz) g16 g17 k_fgz (zs 121 121 az) k_s1g (bN 7 q_s1g) k_s2g s2g k_s3g s3g k_s4g s4g k_s5g s5g k_hig hig k_log log) ++ zp 4 16 N az ac kz qs fz)) s.heap.size = A at hD ⊢
  have hA : ∀ q : Nat, s.heap.size ≤ q → A q := fun q h => by rw [← hAe]; exact Or.inr h
  have hS : va_S A s.heap s.heap [] := va_S.rf
  have hl := lv_entry ([.ref xa, .int p0, .int p1]) (n := 3) (Nat.le_of_ble_eq_true rfl)
  rw [lg_entry_eq]
  generalize (lg_sl ([.ref xa, .int p0, .int p1]) ++ List.replicate (3 - (lg_sl ([.ref xa, .int p0, .int p1])).length) Slot.unset).toArray = ls at hl ⊢
  have hl : lv_has ls 3 [(0, .ref xa), (1, .int p0), (2, .int p1)] := hl
  refine lv_aload_n hx hb eX8_state_0 rfl (lv_at hl 0 rfl) ?_
  refine lv_iload_n hx hb eX8_state_1 rfl (lv_at hl 1 rfl) ?_
  have hPc : va_P (dC, dI) vwCl [(xa, .inr (8, [.ref xtape, .int (nI tp), .ref rd, .ref au, .ref xdr, .ref hy, .ref g, .int (nI hs), .ref tg, .ref sg, .int (nI ss), .ref rm, .ref ti, .ref py, .ref bu, .ref sm])), (g, .inr (1, [.ref gz, .ref g1, .ref g2, .ref g3, .ref g4, .ref g5, .int (nI gc), .int (nI gfull), .int gx, .int gway, .int gav, .int ggoal, .int (nI gfound), .int 120, .int (nI gl), .int (nI gsz), .ref g16, .ref g17]))] _ := hP.sub [0, 21] rfl
  have hDc : va_D A [(xa, .inr (8, [.ref xtape, .int (nI tp), .ref rd, .ref au, .ref xdr, .ref hy, .ref g, .int (nI hs), .ref tg, .ref sg, .int (nI ss), .ref rm, .ref ti, .ref py, .ref bu, .ref sm])), (g, .inr (1, [.ref gz, .ref g1, .ref g2, .ref g3, .ref g4, .ref g5, .int (nI gc), .int (nI gfull), .int gx, .int gway, .int gav, .int ggoal, .int (nI gfound), .int 120, .int (nI gl), .int (nI gsz), .ref g16, .ref g17]))] := (zp_left hD).sub [0, 21] (by decide) rfl
  have hKc : va_K (dC, dI) vwCl [] s := hK.sub [] rfl
  refine va_calli (va_runV (As := [.int p0]) (rest := []) ⟨hx, hb, hml, hown, hts⟩ (c_E_8_isState l dC dI _ xa xtape tp rd au xdr hy g hs tg sg ss rm ti py bu sm gz g1 g2 g3 g4 g5 gc gfull gx gway gav ggoal gfound gl gsz g16 g17 p0 htp hhs hss hgc hgfull hgfound hgl hgsz) (cwV 1 hts g_C_8_state_E_8_isState rfl rfl rfl (by decide +kernel) ⟨Nat.le_of_ble_eq_true rfl, Nat.le_of_ble_eq_true rfl⟩) ⟨pu_bl, va_recv hK hP (ci := 8) (q0 := 0) rfl rfl, pu_in hPc hKc hDc⟩ rfl rfl hl.1 rfl (lv_room (Nat.le_of_ble_eq_true rfl)) eX8_state_2 ⟨Nat.le_of_ble_eq_true rfl, Nat.le_of_ble_eq_true rfl⟩) hS (fun q _ h => pu_fr hS hA q h) (pu_fr hS hA) (fun r_1 u t H1 locs ht hvm hw hB hz1 hk1 hS => ?_)
  have hP := pu_keep hP hk1
  clear hPc hDc hKc
  clear hk1 hz1 ht hvm
  generalize H1 = H at hP hS ⊢
  rcases hw with ⟨rfl, hw⟩ | ⟨rfl, hn⟩
  · obtain ⟨hs1, n_2, hn_2, rfl⟩ := hw
    refine lv_if_ne (tgt := 10) hx hb eX8_state_5 (by decide) (fun _ => ?_) (fun z => absurd z (by decide))
    refine lv_iload_n hx hb eX8_state_10 rfl (lv_at hl 2 rfl) ?_
    by_cases w_3 : p1 = 0
    · subst w_3
      refine lv_tableIn (tgt := 48) (off := 37) hx hb eX8_state_11 (by decide) (by decide) rfl (by decide) ?_
      refine lv_aload_n hx hb eX8_state_48 rfl (lv_at hl 0 rfl) ?_
      refine va_get (D := (dC, dI)) (ci := 8) (v := .ref g) (C := RX8) (T := TX8) (N := 16) hx hb hts hiX8 hown hK hP 0 rfl rfl 6 (by decide) v_6 (fun _ h9 => h9) rfl eX8_state_49 ?_
      refine va_get (D := (dC, dI)) (ci := 1) (v := .ref g1) (C := RX1) (T := TX1) (N := 18) hx hb hts hiX1 hown hK hP 21 rfl rfl 1 (by decide) v_7 (fun _ h9 => h9) rfl eX8_state_52 ?_
      refine lv_iload_n hx hb eX8_state_55 rfl (lv_at hl 1 rfl) ?_
      refine va_iald hx hb hK hP 23 19 rfl rfl (vp_in_nI (n := n_2) (by omega) (Nat.le_of_ble_eq_true rfl)) eX8_state_56 ?_
      refine lv_topi (fun y_4 ey_4 => ?_)
      obtain ⟨u_5, hu_5, qu_5⟩ := bN_get 7 q_s1g (((nI n_2) : Int32).toNatClampNeg)
      obtain rfl : y_4 = nI u_5 := ey_4.trans qu_5
      exact W.iret (v := (nI u_5)) hx hb hr (fun t ht hW => ⟨⟨(nI u_5), (), rfl, trivial, ⟨fcv, fct, q_fce, rk, ru, fz, qs, ⟨by rw [ht]; exact hP, va_K.moved hW.alike hK, hD⟩, hrk, hru, by assumption⟩⟩, hS.F ht⟩) hS.2.2 eX8_state_57
    by_cases w_6 : p1 = 1
    · subst w_6
      refine lv_tableIn (tgt := 58) (off := 47) hx hb eX8_state_11 (by decide) (by decide) rfl (by decide) ?_
      refine lv_aload_n hx hb eX8_state_58 rfl (lv_at hl 0 rfl) ?_
      refine va_get (D := (dC, dI)) (ci := 8) (v := .ref g) (C := RX8) (T := TX8) (N := 16) hx hb hts hiX8 hown hK hP 0 rfl rfl 6 (by decide) v_6 (fun _ h9 => h9) rfl eX8_state_59 ?_
      refine va_get (D := (dC, dI)) (ci := 1) (v := .ref g2) (C := RX1) (T := TX1) (N := 18) hx hb hts hiX1 hown hK hP 21 rfl rfl 2 (by decide) v_8 (fun _ h9 => h9) rfl eX8_state_62 ?_
      refine lv_iload_n hx hb eX8_state_65 rfl (lv_at hl 1 rfl) ?_
      refine va_iald hx hb hK hP 24 20 rfl rfl (vp_in_nI (n := n_2) (by omega) (Nat.le_of_ble_eq_true rfl)) eX8_state_66 ?_
      refine lv_topi (fun y_7 ey_7 => ?_)
      exact W.iret (v := y_7) hx hb hr (fun t ht hW => ⟨⟨y_7, (), rfl, trivial, ⟨fcv, fct, q_fce, rk, ru, fz, qs, ⟨by rw [ht]; exact hP, va_K.moved hW.alike hK, hD⟩, hrk, hru, by assumption⟩⟩, hS.F ht⟩) hS.2.2 eX8_state_67
    by_cases w_8 : p1 = 2
    · subst w_8
      refine lv_tableIn (tgt := 68) (off := 57) hx hb eX8_state_11 (by decide) (by decide) rfl (by decide) ?_
      refine lv_aload_n hx hb eX8_state_68 rfl (lv_at hl 0 rfl) ?_
      refine va_get (D := (dC, dI)) (ci := 8) (v := .ref g) (C := RX8) (T := TX8) (N := 16) hx hb hts hiX8 hown hK hP 0 rfl rfl 6 (by decide) v_6 (fun _ h9 => h9) rfl eX8_state_69 ?_
      refine va_get (D := (dC, dI)) (ci := 1) (v := .ref g3) (C := RX1) (T := TX1) (N := 18) hx hb hts hiX1 hown hK hP 21 rfl rfl 3 (by decide) v_9 (fun _ h9 => h9) rfl eX8_state_72 ?_
      refine lv_iload_n hx hb eX8_state_75 rfl (lv_at hl 1 rfl) ?_
      refine va_iald hx hb hK hP 25 21 rfl rfl (vp_in_nI (n := n_2) (by omega) (Nat.le_of_ble_eq_true rfl)) eX8_state_76 ?_
      refine lv_topi (fun y_9 ey_9 => ?_)
      exact W.iret (v := y_9) hx hb hr (fun t ht hW => ⟨⟨y_9, (), rfl, trivial, ⟨fcv, fct, q_fce, rk, ru, fz, qs, ⟨by rw [ht]; exact hP, va_K.moved hW.alike hK, hD⟩, hrk, hru, by assumption⟩⟩, hS.F ht⟩) hS.2.2 eX8_state_77
    by_cases w_10 : p1 = 3
    · subst w_10
      refine lv_tableIn (tgt := 78) (off := 67) hx hb eX8_state_11 (by decide) (by decide) rfl (by decide) ?_
      refine lv_aload_n hx hb eX8_state_78 rfl (lv_at hl 0 rfl) ?_
      refine va_get (D := (dC, dI)) (ci := 8) (v := .ref g) (C := RX8) (T := TX8) (N := 16) hx hb hts hiX8 hown hK hP 0 rfl rfl 6 (by decide) v_6 (fun _ h9 => h9) rfl eX8_state_79 ?_
      refine va_get (D := (dC, dI)) (ci := 1) (v := .ref g4) (C := RX1) (T := TX1) (N := 18) hx hb hts hiX1 hown hK hP 21 rfl rfl 4 (by decide) v_10 (fun _ h9 => h9) rfl eX8_state_82 ?_
      refine lv_iload_n hx hb eX8_state_85 rfl (lv_at hl 1 rfl) ?_
      refine va_iald hx hb hK hP 26 22 rfl rfl (vp_in_nI (n := n_2) (by omega) (Nat.le_of_ble_eq_true rfl)) eX8_state_86 ?_
      refine lv_topi (fun y_11 ey_11 => ?_)
      exact W.iret (v := y_11) hx hb hr (fun t ht hW => ⟨⟨y_11, (), rfl, trivial, ⟨fcv, fct, q_fce, rk, ru, fz, qs, ⟨by rw [ht]; exact hP, va_K.moved hW.alike hK, hD⟩, hrk, hru, by assumption⟩⟩, hS.F ht⟩) hS.2.2 eX8_state_87
    by_cases w_12 : p1 = 4
    · subst w_12
      refine lv_tableIn (tgt := 88) (off := 77) hx hb eX8_state_11 (by decide) (by decide) rfl (by decide) ?_
      refine lv_aload_n hx hb eX8_state_88 rfl (lv_at hl 0 rfl) ?_
      refine va_get (D := (dC, dI)) (ci := 8) (v := .ref g) (C := RX8) (T := TX8) (N := 16) hx hb hts hiX8 hown hK hP 0 rfl rfl 6 (by decide) v_6 (fun _ h9 => h9) rfl eX8_state_89 ?_
      refine va_get (D := (dC, dI)) (ci := 1) (v := .ref g5) (C := RX1) (T := TX1) (N := 18) hx hb hts hiX1 hown hK hP 21 rfl rfl 5 (by decide) v_11 (fun _ h9 => h9) rfl eX8_state_92 ?_
      refine lv_iload_n hx hb eX8_state_95 rfl (lv_at hl 1 rfl) ?_
      refine va_iald hx hb hK hP 27 23 rfl rfl (vp_in_nI (n := n_2) (by omega) (Nat.le_of_ble_eq_true rfl)) eX8_state_96 ?_
      refine lv_topi (fun y_13 ey_13 => ?_)
      exact W.iret (v := y_13) hx hb hr (fun t ht hW => ⟨⟨y_13, (), rfl, trivial, ⟨fcv, fct, q_fce, rk, ru, fz, qs, ⟨by rw [ht]; exact hP, va_K.moved hW.alike hK, hD⟩, hrk, hru, by assumption⟩⟩, hS.F ht⟩) hS.2.2 eX8_state_97
    by_cases w_14 : p1 = 5
    · subst w_14
      refine lv_tableIn (tgt := 98) (off := 87) hx hb eX8_state_11 (by decide) (by decide) rfl (by decide) ?_
      refine lv_aload_n hx hb eX8_state_98 rfl (lv_at hl 0 rfl) ?_
      refine lv_iload_n hx hb eX8_state_99 rfl (lv_at hl 1 rfl) ?_
      have hFc := pu_free hD hS hA
      refine va_calli (va_runV (As := [.int (nI n_2)]) (rest := []) ⟨hx, hb, hml, hown, hts⟩ (c_C_8_isStuck l dC dI _ xa xtape tp rd au xdr hy g hs tg sg ss rm ti py bu sm nc np ne st0 q4 q5 q6 q7 q8 q9 q10 q11 q12 q13 q14 q15 q16 k_f4 f4 k_f5 q_f5 k_f6 q_f6 k_f7 f7 k_f8 q_f8 k_f9 q_f9 k_f10 f10 k_f11 f11 k_f12 f12 k_f13 f13 k_f14 f14 k_f15 f15 k_f16 f16 rcv rk rmd ru rpc rct rce k_fcv fcv k_fmd k_fpc k_fct fct k_fce q_fce gz g1 g2 g3 g4 g5 gc gfull gx gway gav ggoal gfound gl gsz g16 g17 k_fgz k_s1g q_s1g k_s2g s2g k_s3g s3g k_s4g s4g k_s5g s5g k_hig hig k_log log N az ac kz qs fz n_2 htp hhs hss hnc hnp hne (hst0) hrk hru hgc hgfull hgfound hgl hgsz (by omega) (by omega)) (cwV 1 hts g_C_8_state_C_8_isStuck rfl rfl rfl (by decide +kernel) ⟨Nat.le_of_ble_eq_true rfl, Nat.le_of_ble_eq_true rfl⟩) ⟨pu_bl, va_recv hK hP (ci := 8) (q0 := 0) rfl rfl, pu_in hP hK hD⟩ rfl rfl hl.1 rfl (lv_room (Nat.le_of_ble_eq_true rfl)) eX8_state_100 ⟨Nat.le_of_ble_eq_true rfl, Nat.le_of_ble_eq_true rfl⟩) hS (fun q _ h => hFc q h) hFc (fun r_15 u t H1 locs ht hvm hw hB hz1 hk1 hS => ?_)
      obtain ⟨z_fcv_16, z_fct_17, z_fce_18, z_rk_19, z_ru_20, z_fz_21, z_qs_22, ⟨hP1, -, hD1⟩, hz_rk_19, hz_ru_20, xr_15_0⟩ := hB
      rw [ht] at hP1
      have hP := hP1
      have hD := pu_all hFc hD1
      clear hP1 hD1 hFc
      clear hk1 hz1 ht hvm
      generalize H1 = H at hP hS ⊢
      obtain ⟨u_23, hu_23, rfl⟩ := hw
      have hPc : va_P (dC, dI) vwCl [] _ := hP.sub [] rfl
      have hDc : va_D A [] := (zp_left hD).sub [] (by decide) rfl
      have hKc : va_K (dC, dI) vwCl [] s := hK.sub [] rfl
      refine va_calli (va_runS (As := [.int (nI u_23)]) (rest := []) ⟨hx, hb, hml, hown, hts⟩ (c_E_8_bit l dC dI _ (nI u_23)) (va_cwS 1 hts g_C_8_state_E_8_bit rfl rfl rfl (by decide +kernel) ⟨Nat.le_of_ble_eq_true rfl, Nat.le_of_ble_eq_true rfl⟩) ⟨pu_bl, pu_in hPc hKc hDc⟩ rfl rfl hl.1 rfl (lv_room (Nat.le_of_ble_eq_true rfl)) eX8_state_103 ⟨Nat.le_of_ble_eq_true rfl, Nat.le_of_ble_eq_true rfl⟩) hS (fun q _ h => pu_fr hS hA q h) (pu_fr hS hA) (fun r_24 u t H1 locs ht hvm hw hB hz1 hk1 hS => ?_)
      have hP := pu_keep hP hk1
      clear hPc hDc hKc
      clear hk1 hz1 ht hvm
      generalize H1 = H at hP hS ⊢
      obtain ⟨u_25, hu_25, rfl, iu_25⟩ := hw
      exact W.iret (v := (nI u_25)) hx hb hr (fun t ht hW => ⟨⟨(nI u_25), (), rfl, trivial, ⟨z_fcv_16, z_fct_17, z_fce_18, z_rk_19, z_ru_20, z_fz_21, z_qs_22, ⟨by rw [ht]; exact hP, va_K.moved hW.alike hK, hD⟩, hz_rk_19, hz_ru_20, by assumption⟩⟩, hS.F ht⟩) hS.2.2 eX8_state_106
    refine lv_tableOut (tgt := 107) hx hb eX8_state_11 (by
        have zw_3 : Int32.toInt p1 ≠ 0 := fun g => w_3 ((fa_eq _ _).mpr g)
        have zw_6 : Int32.toInt p1 ≠ 1 := fun g => w_6 ((fa_eq _ _).mpr g)
        have zw_8 : Int32.toInt p1 ≠ 2 := fun g => w_8 ((fa_eq _ _).mpr g)
        have zw_10 : Int32.toInt p1 ≠ 3 := fun g => w_10 ((fa_eq _ _).mpr g)
        have zw_12 : Int32.toInt p1 ≠ 4 := fun g => w_12 ((fa_eq _ _).mpr g)
        have zw_14 : Int32.toInt p1 ≠ 5 := fun g => w_14 ((fa_eq _ _).mpr g)
        omega) (by decide) ?_
    refine lv_iconst (v := (-1)) hx hb eX8_state_107 (by decide) ?_
    exact W.iret (v := (-1)) hx hb hr (fun t ht hW => ⟨⟨(-1), (), rfl, trivial, ⟨fcv, fct, q_fce, rk, ru, fz, qs, ⟨by rw [ht]; exact hP, va_K.moved hW.alike hK, hD⟩, hrk, hru, by assumption⟩⟩, hS.F ht⟩) hS.2.2 eX8_state_108
  · refine lv_if_ne (tgt := 10) hx hb eX8_state_5 (by decide) (fun z => absurd z (by decide)) (fun _ => ?_)
    refine lv_iconst (v := (-1)) hx hb eX8_state_8 (by decide) ?_
    exact W.iret (v := (-1)) hx hb hr (fun t ht hW => ⟨⟨(-1), (), rfl, trivial, ⟨fcv, fct, q_fce, rk, ru, fz, qs, ⟨by rw [ht]; exact hP, va_K.moved hW.alike hK, hD⟩, hrk, hru, by assumption⟩⟩, hS.F ht⟩) hS.2.2 eX8_state_9
