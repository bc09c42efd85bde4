theorem eX8_then_9 : decode cX8_then 9 = .ok (.aload_n 0, 1) := by decide +kernel
theorem eX8_then_10 : decode cX8_then 10 = .ok (.iload_n 3, 1) := by decide +kernel
theorem eX8_then_11 : decode cX8_then 11 = .ok (.invokevirtual 187, 3) := by decide +kernel
theorem eX8_then_14 : decode cX8_then 14 = .ok (.ifCond .eq 11, 3) := by decide +kernel
theorem eX8_then_17 : decode cX8_then 17 = .ok (.aload_n 0, 1) := by decide +kernel
theorem eX8_then_18 : decode cX8_then 18 = .ok (.iload_n 1, 1) := by decide +kernel
theorem eX8_then_19 : decode cX8_then 19 = .ok (.invokevirtual 337, 3) := by decide +kernel
theorem eX8_then_22 : decode cX8_then 22 = .ok (.ifCond .ne 5, 3) := by decide +kernel
theorem eX8_then_27 : decode cX8_then 27 = .ok (.aload_n 0, 1) := by decide +kernel
theorem eX8_then_28 : decode cX8_then 28 = .ok (.getfield 62, 3) := by decide +kernel
theorem eX8_then_31 : decode cX8_then 31 = .ok (.aload_n 0, 1) := by decide +kernel
theorem eX8_then_32 : decode cX8_then 32 = .ok (.getfield 23, 3) := by decide +kernel
theorem eX8_then_35 : decode cX8_then 35 = .ok (.iload_n 2, 1) := by decide +kernel
theorem eX8_then_36 : decode cX8_then 36 = .ok (.iload_n 3, 1) := by decide +kernel
theorem eX8_then_37 : decode cX8_then 37 = .ok (.invokevirtual 343, 3) := by decide +kernel
theorem eX8_then_40 : decode cX8_then 40 = .ok (.ireturn, 1) := by decide +kernel
abbrev vs_E_8_then : List Cond := .code yX8_then cX8_then 4 (some .int) :: CM
theorem g_E_8_then_E_8_isStep : GoodIn vs_E_8_then (wsV RX8 320 RX8 yX8_isStep vs_E_8_isStep) := cm_gV cm_603 cm_604 cm_605 cm_427 cm_599
theorem g_E_8_then_E_8_isClock : GoodIn vs_E_8_then (wsV RX8 187 RX8 yX8_isClock vs_E_8_isClock) := cm_gV cm_499 cm_500 cm_501 cm_427 cm_480
theorem g_E_8_then_E_8_timesRun : GoodIn vs_E_8_then (wsV RX8 337 RX8 yX8_timesRun vs_E_8_timesRun) := cm_gV cm_618 cm_619 cm_620 cm_427 cm_609
theorem g_E_8_then_E_6_clockBehind : GoodIn vs_E_8_then (wsV RX8 343 RX6 yX6_clockBehind vs_E_6_clockBehind) := cm_gV cm_622 cm_623 cm_624 cm_383 cm_402
noncomputable def sp_E_8_then (hs : Nat) (nc : Nat) (st0 : Nat) (f4 : Nat → Int32) (q_f5 : Nat → Nat) (q_f6 : Nat → Nat) (f7 : Nat → Int32) (q_f8 : Nat → Nat) (q_f9 : Nat → Nat) (f12 : Nat → Int32) (f13 : Nat → Int32) (gc : Nat) (fs2 : Nat → Int32) (fs3 : Nat → Int32) (fs4 : Nat → Int32) (ln : Nat) (nr : Nat) (q_j0 : Nat → Nat) (j2 : Nat → Int32) (q_j3 : Nat → Nat) (q_j4 : Nat → Nat) (j5 : Nat → Int32) (q_j7 : Nat → Nat) (p0 : Int32) (p1 : Int32) (p2 : Int32) : Int32 × (Nat → Nat) × (Nat → Int32) × (Nat → Nat) × (Nat → Nat) × (Nat → Int32) × (Nat → Nat) × Nat × Nat := (if isStp hs gc fs4 p0 p1 then (slet ((p0 : Int32).toNatClampNeg) (fun n_2 => (slet ((p1 : Int32).toNatClampNeg) (fun n_3 => (if (0 : Int32) ≤ p2 ∧ p2 < nI nc then (slet ((p2 : Int32).toNatClampNeg) (fun n_5 => (slet (sp_E_8_timesRun nc st0 f4 q_f5 q_f6 f7 q_f8 q_f9 f12 f13 fs2 fs3 fs4 q_j0 j2 q_j3 q_j4 j5 q_j7 n_2) (fun (u_15, z_j0_7, z_j2_8, z_j3_9, z_j4_10, z_j5_11, z_j7_12, z_ln_13, z_nr_14) => (if u_15 = 0 then ((-1), z_j0_7, z_j2_8, z_j3_9, z_j4_10, z_j5_11, z_j7_12, z_ln_13, z_nr_14) else (slet (sp_E_6_clockBehind z_j0_7 z_j2_8 f7 n_3 n_5) (fun r_17 => (r_17, z_j0_7, z_j2_8, z_j3_9, z_j4_10, z_j5_11, z_j7_12, z_ln_13, z_nr_14)))))))) else ((-1), q_j0, j2, q_j3, q_j4, j5, q_j7, ln, nr)))))) else ((-1), q_j0, j2, q_j3, q_j4, j5, q_j7, ln, nr))
set_option maxHeartbeats 4000000 in
set_option maxRecDepth 100000 in
theorem c_E_8_then (l : Launch) (dC : Nat → ClassId) (dI : Nat → Nat → Nat) (sz : Nat) (xa : Nat) (xtape : Nat) (tp : Nat) (rd : Nat) (au : Nat) (xdr : Nat) (hy : Nat) (g : Nat) (hs : Nat) (tg : Nat) (sg : Nat) (ss : Nat) (rm : Nat) (ti : Nat) (py : Nat) (bu : Nat) (sm : Nat) (nc : Nat) (np : Nat) (ne : Nat) (st0 : Nat) (q4 : Nat) (q5 : Nat) (q6 : Nat) (q7 : Nat) (q8 : Nat) (q9 : Nat) (q10 : Nat) (q11 : Nat) (q12 : Nat) (q13 : Nat) (q14 : Nat) (q15 : Nat) (q16 : Nat) (k_f4 : ClassId) (f4 : Nat → Int32) (k_f5 : ClassId) (q_f5 : Nat → Nat) (k_f6 : ClassId) (q_f6 : Nat → Nat) (k_f7 : ClassId) (f7 : Nat → Int32) (k_f8 : ClassId) (q_f8 : Nat → Nat) (k_f9 : ClassId) (q_f9 : Nat → Nat) (k_f10 : ClassId) (f10 : Nat → Int32) (k_f11 : ClassId) (f11 : Nat → Int32) (k_f12 : ClassId) (f12 : Nat → Int32) (k_f13 : ClassId) (f13 : Nat → Int32) (k_f14 : ClassId) (f14 : Nat → Int32) (k_f15 : ClassId) (f15 : Nat → Int32) (k_f16 : ClassId) (f16 : Nat → Int32) (gz : Nat) (g1 : Nat) (g2 : Nat) (g3 : Nat) (g4 : Nat) (g5 : Nat) (gc : Nat) (gfull : Nat) (gx : Int32) (gway : Int32) (gav : Int32) (ggoal : Int32) (gfound : Nat) (gl : Nat) (gsz : Nat) (g16 : Nat) (g17 : Nat) (k_fs2 : ClassId) (fs2 : Nat → Int32) (k_fs3 : ClassId) (fs3 : Nat → Int32) (k_fs4 : ClassId) (fs4 : Nat → Int32) (r0 : Nat) (ln : Nat) (r2 : Nat) (r3 : Nat) (r4 : Nat) (r5 : Nat) (nr : Nat) (r7 : Nat) (r8 : Nat) (tz : Nat) (k_j0 : ClassId) (q_j0 : Nat → Nat) (k_j2 : ClassId) (j2 : Nat → Int32) (k_j3 : ClassId) (q_j3 : Nat → Nat) (k_j4 : ClassId) (q_j4 : Nat → Nat) (k_j5 : ClassId) (j5 : Nat → Int32) (k_j7 : ClassId) (q_j7 : Nat → Nat) (k_j8 : ClassId) (j8 : Nat → Int32) (p0 : Int32) (p1 : Int32) (p2 : Int32) (htp : tp ≤ 900) (hhs : hs ≤ 1) (hss : ss ≤ 1) (hnc : nc ≤ 3) (hnp : np ≤ 8) (hne : ne ≤ 14) (hst0 : st0 ≤ 7) (hgc : gc ≤ 120) (hgfull : gfull ≤ 1) (hgfound : gfound ≤ 1) (hgl : gl ≤ 1) (hgsz : gsz ≤ 4) (hln : ln ≤ 119) (hnr : nr ≤ 1920) (hq0 : gz_ok gc fs2 fs3 fs4) : Met l yX8_then vs_E_8_then ({ frames := 4, cells := 0, slots := 0, locals := 95 }) (va_Pc [.ref xa, .int p0, .int p1, .int p2] (pu_B (dC, dI) (xti__w xa xtape (nI tp) rd au xdr hy g (nI hs) tg sg (nI ss) rm ti py bu sm (nI nc) (nI np) (nI ne) (nI st0) q4 q5 q6 q7 q8 q9 q10 q11 q12 q13 q14 q15 q16 k_f4 f4 k_f5 (bN 7 q_f5) k_f6 (bN 7 q_f6) k_f7 f7 k_f8 (bN 4 q_f8) k_f9 (bN 2 q_f9) k_f10 f10 k_f11 f11 k_f12 f12 k_f13 f13 k_f14 f14 k_f15 f15 k_f16 f16 gz g1 g2 g3 g4 g5 (nI gc) (nI gfull) gx gway gav ggoal (nI gfound) 120 (nI gl) (nI gsz) g16 g17 k_fs2 fs2 k_fs3 fs3 k_fs4 fs4 r0 (nI ln) r2 r3 r4 r5 (nI nr) r7 r8 tz k_j0 (bN 13 q_j0) k_j2 j2 k_j3 (bN 120 q_j3) k_j4 (bN 120 q_j4) k_j5 j5 k_j7 (bN 120 q_j7) k_j8 j8) (xti__t k_f4 k_f5 k_f6 k_f7 k_f8 k_f9 k_f10 k_f11 k_f12 k_f13 k_f14 k_f15 k_f16 k_fs2 k_fs3 k_fs4 k_j0 k_j2 k_j3 k_j4 k_j5 k_j7 k_j8) sz)) (va_Qi (fun (r : Int32) (_ : Unit) => r = (sp_E_8_then hs nc st0 f4 q_f5 q_f6 f7 q_f8 q_f9 f12 f13 gc fs2 fs3 fs4 ln nr q_j0 j2 q_j3 q_j4 j5 q_j7 p0 p1 p2).1) (fun _ t => ∃ (z_j0 : Nat → Nat) (z_j2 : Nat → Int32) (z_j3 : Nat → Nat) (z_j4 : Nat → Nat) (z_j5 : Nat → Int32) (z_j7 : Nat → Nat) (z_ln : Nat) (z_nr : Nat), pu_E (dC, dI) (xti__w xa xtape (nI tp) rd au xdr hy g (nI hs) tg sg (nI ss) rm ti py bu sm (nI nc) (nI np) (nI ne) (nI st0) q4 q5 q6 q7 q8 q9 q10 q11 q12 q13 q14 q15 q16 k_f4 f4 k_f5 (bN 7 q_f5) k_f6 (bN 7 q_f6) k_f7 f7 k_f8 (bN 4 q_f8) k_f9 (bN 2 q_f9) k_f10 f10 k_f11 f11 k_f12 f12 k_f13 f13 k_f14 f14 k_f15 f15 k_f16 f16 gz g1 g2 g3 g4 g5 (nI gc) (nI gfull) gx gway gav ggoal (nI gfound) 120 (nI gl) (nI gsz) g16 g17 k_fs2 fs2 k_fs3 fs3 k_fs4 fs4 r0 (nI z_ln) r2 r3 r4 r5 (nI z_nr) r7 r8 tz k_j0 (bN 13 z_j0) k_j2 z_j2 k_j3 (bN 120 z_j3) k_j4 (bN 120 z_j4) k_j5 z_j5 k_j7 (bN 120 z_j7) k_j8 j8) (xti__t k_f4 k_f5 k_f6 k_f7 k_f8 k_f9 k_f10 k_f11 k_f12 k_f13 k_f14 k_f15 k_f16 k_fs2 k_fs3 k_fs4 k_j0 k_j2 k_j3 k_j4 k_j5 k_j7 k_j8) (va_A ((xti__w xa xtape (nI tp) rd au xdr hy g (nI hs) tg sg (nI ss) rm ti py bu sm (nI nc) (nI np) (nI ne) (nI st0) q4 q5 q6 q7 q8 q9 q10 q11 q12 q13 q14 q15 q16 k_f4 f4 k_f5 (bN 7 q_f5) k_f6 (bN 7 q_f6) k_f7 f7 k_f8 (bN 4 q_f8) k_f9 (bN 2 q_f9) k_f10 f10 k_f11 f11 k_f12 f12 k_f13 f13 k_f14 f14 k_f15 f15 k_f16 f16 gz g1 g2 g3 g4 g5 (nI gc) (nI gfull) gx gway gav ggoal (nI gfound) 120 (nI gl) (nI gsz) g16 g17 k_fs2 fs2 k_fs3 fs3 k_fs4 fs4 r0 (nI ln) r2 r3 r4 r5 (nI nr) r7 r8 tz k_j0 (bN 13 q_j0) k_j2 j2 k_j3 (bN 120 q_j3) k_j4 (bN 120 q_j4) k_j5 j5 k_j7 (bN 120 q_j7) k_j8 j8)) sz) t ∧ (z_ln ≤ 119) ∧ (z_nr ≤ 1920) ∧ ((z_j0, z_j2, z_j3, z_j4, z_j5, z_j7, z_ln, z_nr) = (sp_E_8_then hs nc st0 f4 q_f5 q_f6 f7 q_f8 q_f9 f12 f13 gc fs2 fs3 fs4 ln nr q_j0 j2 q_j3 q_j4 j5 q_j7 p0 p1 p2).2)) (va_A ((xti__w xa xtape (nI tp) rd au xdr hy g (nI hs) tg sg (nI ss) rm ti py bu sm (nI nc) (nI np) (nI ne) (nI st0) q4 q5 q6 q7 q8 q9 q10 q11 q12 q13 q14 q15 q16 k_f4 f4 k_f5 (bN 7 q_f5) k_f6 (bN 7 q_f6) k_f7 f7 k_f8 (bN 4 q_f8) k_f9 (bN 2 q_f9) k_f10 f10 k_f11 f11 k_f12 f12 k_f13 f13 k_f14 f14 k_f15 f15 k_f16 f16 gz g1 g2 g3 g4 g5 (nI gc) (nI gfull) gx gway gav ggoal (nI gfound) 120 (nI gl) (nI gsz) g16 g17 k_fs2 fs2 k_fs3 fs3 k_fs4 fs4 r0 (nI ln) r2 r3 r4 r5 (nI nr) r7 r8 tz k_j0 (bN 13 q_j0) k_j2 j2 k_j3 (bN 120 q_j3) k_j4 (bN 120 q_j4) k_j5 j5 k_j7 (bN 120 q_j7) k_j8 j8)) sz)) 0 0 (va_A ((xti__w xa xtape (nI tp) rd au xdr hy g (nI hs) tg sg (nI ss) rm ti py bu sm (nI nc) (nI np) (nI ne) (nI st0) q4 q5 q6 q7 q8 q9 q10 q11 q12 q13 q14 q15 q16 k_f4 f4 k_f5 (bN 7 q_f5) k_f6 (bN 7 q_f6) k_f7 f7 k_f8 (bN 4 q_f8) k_f9 (bN 2 q_f9) k_f10 f10 k_f11 f11 k_f12 f12 k_f13 f13 k_f14 f14 k_f15 f15 k_f16 f16 gz g1 g2 g3 g4 g5 (nI gc) (nI gfull) gx gway gav ggoal (nI gfound) 120 (nI gl) (nI gsz) g16 g17 k_fs2 fs2 k_fs3 fs3 k_fs4 fs4 r0 (nI ln) r2 r3 r4 r5 (nI nr) r7 r8 tz k_j0 (bN 13 q_j0) k_j2 j2 k_j3 (bN 120 q_j3) k_j4 (bN 120 q_j4) k_j5 j5 k_j7 (bN 120 q_j7) k_j8 j8)) sz) := by
  refine Met.ofW (cc := cX8_then) (maxL := 4) (ret := (some .int)) (by decide) rfl ?_
  intro p e s m args below meth c s₁ B hml hv
  obtain ⟨rfl, rfl, hP, hK, hD0⟩ := hv
  have hx := B.exec
  have hb := B.bytes
  have hr := B.returns
  have hts := atoms_spec (ws := vs_E_8_then) B.pre
  have v_14 := hts (.fieldLink RX8 62 "ClockReach" "timing" "LClockReach$Timing;") (List.mem_cons_of_mem _ cm_601)
  have v_15 := hts (.fieldLink RX8 23 "ClockReach" "model" "LClockReach$Automaton;") (List.mem_cons_of_mem _ cm_434)
  have hown : s.vm.findClass RX8 = some m.cls := findClass_of_methodNamed B.named
  have hlocks := B.notSynchronized
  have hiX8 : ∀ w ∈ wsX80, w ∈ vs_E_8_then := fun _ h => List.mem_cons_of_mem _ (cm_X8 h)
  have hD := hD0.self (sz := s.heap.size)
  generalize hAe : va_A ((xti__w xa xtape (nI tp) rd au xdr hy g (nI hs) tg sg (nI ss) rm ti py bu sm (nI nc) (nI np) (nI ne) (nI st0) q4 q5 q6 q7 q8 q9 q10 q11 q12 q13 q14 q15 q16 k_f4 f4 k_f5 (bN 7 q_f5) k_f6 (bN 7 q_f6) k_f7 f7 k_f8 (bN 4 q_f8) k_f9 (bN 2 q_f9) k_f10 f10 k_f11 f11 k_f12 f12 k_f13 f13 k_f14 f14 k_f15 f15 k_f16 f16 gz g1 g2 g3 g4 g5 (nI gc) (nI gfull) gx gway gav ggoal (nI gfound) 120 (nI gl) (nI gsz) g16 g17 k_fs2 fs2 k_fs3 fs3 k_fs4 fs4 r0 (nI ln) r2 r3 r4 r5 (nI nr) r7 r8 tz k_j0 (bN 13 q_j0) k_j2 j2 k_j3 (bN 120 q_j3) k_j4 (bN 120 q_j4) k_j5 j5 k_j7 (bN 120 q_j7) k_j8 j8)) s.heap.size = A at hD ⊢
  have hA : ∀ q : Nat, s.heap.size ≤ q → A q := fun q h => by rw [← hAe]; exact Or.inr h
  have hS : va_S A s.heap s.heap [] := va_S.rf
  have hl := lv_entry ([.ref xa, .int p0, .int p1, .int p2]) (n := 4) (Nat.le_of_ble_eq_true rfl)
  rw [lg_entry_eq]
  generalize (lg_sl ([.ref xa, .int p0, .int p1, .int p2]) ++ List.replicate (4 - (lg_sl ([.ref xa, .int p0, .int p1, .int p2])).length) Slot.unset).toArray = ls at hl ⊢
  have hl : lv_has ls 4 [(0, .ref xa), (1, .int p0), (2, .int p1), (3, .int p2)] := hl
  obtain ⟨RR, hRR⟩ : ∃ x, x = (sp_E_8_then hs nc st0 f4 q_f5 q_f6 f7 q_f8 q_f9 f12 f13 gc fs2 fs3 fs4 ln nr q_j0 j2 q_j3 q_j4 j5 q_j7 p0 p1 p2) := ⟨_, rfl⟩
  have hsp := hRR
  refine lv_aload_n hx hb eX8_then_0 rfl (lv_at hl 0 rfl) ?_
  refine lv_iload_n hx hb eX8_then_1 rfl (lv_at hl 1 rfl) ?_
  refine lv_iload_n hx hb eX8_then_2 rfl (lv_at hl 2 rfl) ?_
  have hPc : va_P (dC, dI) vwCl (xgl__w xa xtape (nI tp) rd au xdr hy g (nI hs) tg sg (nI ss) rm ti py bu sm gz g1 g2 g3 g4 g5 (nI gc) (nI gfull) gx gway gav ggoal (nI gfound) 120 (nI gl) (nI gsz) g16 g17 k_fs2 fs2 k_fs3 fs3 k_fs4 fs4) _ := hP.sub [0, 15, 16, 17, 18] rfl
  have hDc := hD.sub (ws' := (xgl__w xa xtape (nI tp) rd au xdr hy g (nI hs) tg sg (nI ss) rm ti py bu sm gz g1 g2 g3 g4 g5 (nI gc) (nI gfull) gx gway gav ggoal (nI gfound) 120 (nI gl) (nI gsz) g16 g17 k_fs2 fs2 k_fs3 fs3 k_fs4 fs4)) [0, 15, 16, 17, 18] (by decide) rfl
  have hKc : va_K (dC, dI) vwCl (xgl__t k_fs2 k_fs3 k_fs4) s := hK.sub [13, 14, 15] rfl
  refine va_calli (va_runV (As := [.int p0, .int p1]) (rest := []) ⟨hx, hb, hml, hown, hts⟩ (c_E_8_isStep l dC dI _ xa xtape tp rd au xdr hy g hs tg sg ss rm ti py bu sm gz g1 g2 g3 g4 g5 gc gfull gx gway gav ggoal gfound gl gsz g16 g17 k_fs2 fs2 k_fs3 fs3 k_fs4 fs4 p0 p1 htp hhs hss hgc hgfull hgfound hgl hgsz (by assumption)) (cwV 2 hts g_E_8_then_E_8_isStep rfl rfl rfl (by decide +kernel) ⟨Nat.le_of_ble_eq_true rfl, Nat.le_of_ble_eq_true rfl⟩) ⟨pu_bl, va_recv hK hP (ci := 8) (q0 := 0) rfl rfl, pu_in hPc hKc hDc⟩ rfl rfl hl.1 rfl (lv_room (Nat.le_of_ble_eq_true rfl)) eX8_then_3 ⟨Nat.le_of_ble_eq_true rfl, Nat.le_of_ble_eq_true rfl⟩) hS (fun q _ h => pu_fr hS hA q h) (pu_fr hS hA) (fun r_1 u t H1 locs ht hvm hw hB hz1 hk1 hS => ?_)
  have hP := pu_keep hP hk1
  clear hk1 hz1 ht hvm
  generalize H1 = H at hP hS ⊢
  rcases hw with ⟨rfl, n_2, n_3, hn_2, hn_3, rfl, rfl, hst⟩ | ⟨rfl, hn⟩
  · have hsp := hsp.trans (if_pos hst)
    have hsp := hsp.trans (slet_eq (nI_cl (n := n_2) (by omega)))
    have hsp := hsp.trans (slet_eq (nI_cl (n := n_3) (by omega)))
    refine lv_if_eq (tgt := 25) hx hb eX8_then_6 (by decide) (fun z => absurd z (by decide)) (fun _ => ?_)
    refine lv_aload_n hx hb eX8_then_9 rfl (lv_at hl 0 rfl) ?_
    refine lv_iload_n hx hb eX8_then_10 rfl (lv_at hl 3 rfl) ?_
    have hPc : va_P (dC, dI) vwCl (xo__w xa xtape (nI tp) rd au xdr hy g (nI hs) tg sg (nI ss) rm ti py bu sm (nI nc) (nI np) (nI ne) (nI st0) q4 q5 q6 q7 q8 q9 q10 q11 q12 q13 q14 q15 q16) _ := hP.sub [0, 1] rfl
    have hDc := hD.sub (ws' := (xo__w xa xtape (nI tp) rd au xdr hy g (nI hs) tg sg (nI ss) rm ti py bu sm (nI nc) (nI np) (nI ne) (nI st0) q4 q5 q6 q7 q8 q9 q10 q11 q12 q13 q14 q15 q16)) [0, 1] (by decide) rfl
    have hKc : va_K (dC, dI) vwCl (xo__t ) s := hK.sub [] rfl
    refine va_calli (va_runV (As := [.int p2]) (rest := []) ⟨hx, hb, hml, hown, hts⟩ (c_E_8_isClock l dC dI _ xa xtape tp rd au xdr hy g hs tg sg ss rm ti py bu sm nc np ne (nI st0) q4 q5 q6 q7 q8 q9 q10 q11 q12 q13 q14 q15 q16 p2 htp hhs hss hnc hnp hne (Or.inr ⟨st0, hst0, rfl⟩)) (cwV 1 hts g_E_8_then_E_8_isClock rfl rfl rfl (by decide +kernel) ⟨Nat.le_of_ble_eq_true rfl, Nat.le_of_ble_eq_true rfl⟩) ⟨pu_bl, va_recv hK hP (ci := 8) (q0 := 0) rfl rfl, pu_in hPc hKc hDc⟩ rfl rfl hl.1 rfl (lv_room (Nat.le_of_ble_eq_true rfl)) eX8_then_11 ⟨Nat.le_of_ble_eq_true rfl, Nat.le_of_ble_eq_true rfl⟩) hS (fun q _ h => pu_fr hS hA q h) (pu_fr hS hA) (fun r_4 u t H1 locs ht hvm hw hB hz1 hk1 hS => ?_)
    have hP := pu_keep hP hk1
    clear hk1 hz1 ht hvm
    generalize H1 = H at hP hS ⊢
    rcases hw with ⟨rfl, hw⟩ | ⟨rfl, hn⟩
    · obtain ⟨n_5, hn_5, rfl⟩ := hw
      have hsp := hsp.trans (if_pos (in_q hn_5 (by omega)))
      have hsp := hsp.trans (slet_eq (nI_cl (n := n_5) (by omega)))
      refine lv_if_eq (tgt := 25) hx hb eX8_then_14 (by decide) (fun z => absurd z (by decide)) (fun _ => ?_)
      refine lv_aload_n hx hb eX8_then_17 rfl (lv_at hl 0 rfl) ?_
      refine lv_iload_n hx hb eX8_then_18 rfl (lv_at hl 1 rfl) ?_
      have hFc := pu_free hD hS hA
      refine va_calli (va_runV (As := [.int (nI n_2)]) (rest := []) ⟨hx, hb, hml, hown, hts⟩ (c_E_8_timesRun l dC dI _ xa xtape tp rd au xdr hy g hs tg sg ss rm ti py bu sm nc np ne st0 q4 q5 q6 q7 q8 q9 q10 q11 q12 q13 q14 q15 q16 k_f4 f4 k_f5 q_f5 k_f6 q_f6 k_f7 f7 k_f8 q_f8 k_f9 q_f9 k_f10 f10 k_f11 f11 k_f12 f12 k_f13 f13 k_f14 f14 k_f15 f15 k_f16 f16 gz g1 g2 g3 g4 g5 gc gfull gx gway gav ggoal gfound gl gsz g16 g17 k_fs2 fs2 k_fs3 fs3 k_fs4 fs4 r0 ln r2 r3 r4 r5 nr r7 r8 tz k_j0 q_j0 k_j2 j2 k_j3 q_j3 k_j4 q_j4 k_j5 j5 k_j7 q_j7 k_j8 j8 n_2 htp hhs hss hnc hnp hne hst0 hgc hgfull hgfound hgl hgsz hln hnr (by omega) (by assumption) (by omega)) (cwV 1 hts g_E_8_then_E_8_timesRun rfl rfl rfl (by decide +kernel) ⟨Nat.le_of_ble_eq_true rfl, Nat.le_of_ble_eq_true rfl⟩) ⟨pu_bl, va_recv hK hP (ci := 8) (q0 := 0) rfl rfl, pu_in hP hK hD⟩ rfl rfl hl.1 rfl (lv_room (Nat.le_of_ble_eq_true rfl)) eX8_then_19 ⟨Nat.le_of_ble_eq_true rfl, Nat.le_of_ble_eq_true rfl⟩) hS (fun q _ h => hFc q h) hFc (fun r_6 u t H1 locs ht hvm hw hB hz1 hk1 hS => ?_)
      obtain ⟨z_j0_7, z_j2_8, z_j3_9, z_j4_10, z_j5_11, z_j7_12, z_ln_13, z_nr_14, ⟨hP1, -, hD1⟩, hz_ln_13, hz_nr_14, xr_6_0⟩ := hB
      rw [ht] at hP1
      have hP := hP1
      have hD := pu_all hFc hD1
      clear hP1 hD1 hFc
      clear hk1 hz1 ht hvm
      generalize H1 = H at hP hS ⊢
      obtain ⟨u_15, hu_15, rfl, iu_15⟩ := hw
      have iu_15 : (u_15, z_j0_7, z_j2_8, z_j3_9, z_j4_10, z_j5_11, z_j7_12, z_ln_13, z_nr_14) = (sp_E_8_timesRun nc st0 f4 q_f5 q_f6 f7 q_f8 q_f9 f12 f13 fs2 fs3 fs4 q_j0 j2 q_j3 q_j4 j5 q_j7 n_2) := Prod.ext iu_15 xr_6_0
      have hsp := hsp.trans (slet_eq iu_15)
      refine lv_if_ne (tgt := 27) hx hb eX8_then_22 (by decide) (fun c_16 => ?_) (fun c_16 => ?_)
      · have c_16 : ¬ u_15 = 0 := fun z => c_16 ((nI_eq (a := u_15) (b := 0) (Nat.lt_of_le_of_lt hu_15 (Nat.le_of_ble_eq_true rfl)) (Nat.le_of_ble_eq_true rfl)).mpr z)
        have hsp := hsp.trans (if_neg c_16)
        refine lv_aload_n hx hb eX8_then_27 rfl (lv_at hl 0 rfl) ?_
        refine va_get (D := (dC, dI)) (ci := 8) (v := .ref ti) (C := RX8) (T := TX8) (N := 16) hx hb hts hiX8 hown hK hP 0 rfl rfl 12 (by decide) v_14 (fun _ h9 => h9) rfl eX8_then_28 ?_
        refine lv_aload_n hx hb eX8_then_31 rfl (lv_at hl 0 rfl) ?_
        refine va_get (D := (dC, dI)) (ci := 8) (v := .ref au) (C := RX8) (T := TX8) (N := 16) hx hb hts hiX8 hown hK hP 0 rfl rfl 3 (by decide) v_15 (fun _ h9 => h9) rfl eX8_then_32 ?_
        refine lv_iload_n hx hb eX8_then_35 rfl (lv_at hl 2 rfl) ?_
        refine lv_iload_n hx hb eX8_then_36 rfl (lv_at hl 3 rfl) ?_
        have hPc : va_P (dC, dI) vwCl (ta__w ti r0 (nI z_ln_13) r2 r3 r4 r5 (nI z_nr_14) r7 r8 tz k_j0 (bN 13 z_j0_7) k_j2 z_j2_8 k_j3 (bN 120 z_j3_9) k_j4 (bN 120 z_j4_10) k_j5 z_j5_11 k_j7 (bN 120 z_j7_12) k_j8 j8 au (nI nc) (nI np) (nI ne) (nI st0) q4 q5 q6 q7 q8 q9 q10 q11 q12 q13 q14 q15 q16 k_f4 f4 k_f5 (bN 7 q_f5) k_f6 (bN 7 q_f6) k_f7 f7 k_f8 (bN 4 q_f8) k_f9 (bN 2 q_f9) k_f10 f10 k_f11 f11 k_f12 f12 k_f13 f13 k_f14 f14 k_f15 f15 k_f16 f16) _ := hP.sub [19, 20, 21, 22, 23, 24, 25, 26, 1, 2, 3, 4, 5, 6, 7, 8, 9, 10, 11, 12, 13, 14] rfl
        have hDc := hD.sub (ws' := (ta__w ti r0 (nI z_ln_13) r2 r3 r4 r5 (nI z_nr_14) r7 r8 tz k_j0 (bN 13 z_j0_7) k_j2 z_j2_8 k_j3 (bN 120 z_j3_9) k_j4 (bN 120 z_j4_10) k_j5 z_j5_11 k_j7 (bN 120 z_j7_12) k_j8 j8 au (nI nc) (nI np) (nI ne) (nI st0) q4 q5 q6 q7 q8 q9 q10 q11 q12 q13 q14 q15 q16 k_f4 f4 k_f5 (bN 7 q_f5) k_f6 (bN 7 q_f6) k_f7 f7 k_f8 (bN 4 q_f8) k_f9 (bN 2 q_f9) k_f10 f10 k_f11 f11 k_f12 f12 k_f13 f13 k_f14 f14 k_f15 f15 k_f16 f16)) [19, 20, 21, 22, 23, 24, 25, 26, 1, 2, 3, 4, 5, 6, 7, 8, 9, 10, 11, 12, 13, 14] (by decide) rfl
        have hKc : va_K (dC, dI) vwCl (ta__t k_j0 k_j2 k_j3 k_j4 k_j5 k_j7 k_j8 k_f4 k_f5 k_f6 k_f7 k_f8 k_f9 k_f10 k_f11 k_f12 k_f13 k_f14 k_f15 k_f16) s := hK.sub [16, 17, 18, 19, 20, 21, 22, 0, 1, 2, 3, 4, 5, 6, 7, 8, 9, 10, 11, 12] rfl
        refine va_calli (va_runV (As := [.ref au, .int (nI n_3), .int (nI n_5)]) (rest := []) ⟨hx, hb, hml, hown, hts⟩ (c_E_6_clockBehind l dC dI _ ti r0 z_ln_13 r2 r3 r4 r5 z_nr_14 r7 r8 tz k_j0 z_j0_7 k_j2 z_j2_8 k_j3 z_j3_9 k_j4 z_j4_10 k_j5 z_j5_11 k_j7 z_j7_12 k_j8 j8 au nc np ne (nI st0) q4 q5 q6 q7 q8 q9 q10 q11 q12 q13 q14 q15 q16 k_f4 f4 k_f5 q_f5 k_f6 q_f6 k_f7 f7 k_f8 q_f8 k_f9 q_f9 k_f10 f10 k_f11 f11 k_f12 f12 k_f13 f13 k_f14 f14 k_f15 f15 k_f16 f16 n_3 n_5 hz_ln_13 hz_nr_14 hnc hnp hne (Or.inr ⟨st0, hst0, rfl⟩) (by omega) (by omega)) (cwV 3 hts g_E_8_then_E_6_clockBehind rfl rfl rfl (by decide +kernel) ⟨Nat.le_of_ble_eq_true rfl, Nat.le_of_ble_eq_true rfl⟩) ⟨pu_bl, va_recv hK hP (ci := 6) (q0 := 19) rfl rfl, pu_in hPc hKc hDc⟩ rfl rfl hl.1 rfl (lv_room (Nat.le_of_ble_eq_true rfl)) eX8_then_37 ⟨Nat.le_of_ble_eq_true rfl, Nat.le_of_ble_eq_true rfl⟩) hS (fun q _ h => pu_fr hS hA q h) (pu_fr hS hA) (fun r_17 u t H1 locs ht hvm hw hB hz1 hk1 hS => ?_)
        have hP := pu_keep hP hk1
        clear hk1 hz1 ht hvm
        generalize H1 = H at hP hS ⊢
        have ir_17 := hw
        have hsp := hsp.trans (slet_eq ir_17)
        exact W.iret (v := r_17) hx hb hr (fun t ht hW => ⟨⟨r_17, (), rfl, (congrArg Prod.fst (hsp.symm.trans hRR)), ⟨z_j0_7, z_j2_8, z_j3_9, z_j4_10, z_j5_11, z_j7_12, z_ln_13, z_nr_14, ⟨by rw [ht]; exact hP, va_K.moved hW.alike hK, hD⟩, hz_ln_13, hz_nr_14, (congrArg Prod.snd (hsp.symm.trans hRR))⟩⟩, hS.F ht⟩) hS.2.2 eX8_then_40
      · have c_16 : u_15 = 0 := (nI_eq (a := u_15) (b := 0) (Nat.lt_of_le_of_lt hu_15 (Nat.le_of_ble_eq_true rfl)) (Nat.le_of_ble_eq_true rfl)).mp c_16
        have hsp := hsp.trans (if_pos c_16)
        refine lv_iconst (v := (-1)) hx hb eX8_then_25 (by decide) ?_
        exact W.iret (v := (-1)) hx hb hr (fun t ht hW => ⟨⟨(-1), (), rfl, (congrArg Prod.fst (hsp.symm.trans hRR)), ⟨z_j0_7, z_j2_8, z_j3_9, z_j4_10, z_j5_11, z_j7_12, z_ln_13, z_nr_14, ⟨by rw [ht]; exact hP, va_K.moved hW.alike hK, hD⟩, hz_ln_13, hz_nr_14, (congrArg Prod.snd (hsp.symm.trans hRR))⟩⟩, hS.F ht⟩) hS.2.2 eX8_then_26
    · have hsp := hsp.trans (if_neg hn)
      refine lv_if_eq (tgt := 25) hx hb eX8_then_14 (by decide) (fun _ => ?_) (fun z => absurd z (by decide))
      refine lv_iconst (v := (-1)) hx hb eX8_then_25 (by decide) ?_
      exact W.iret (v := (-1)) hx hb hr (fun t ht hW => ⟨⟨(-1), (), rfl, (congrArg Prod.fst (hsp.symm.trans hRR)), ⟨q_j0, j2, q_j3, q_j4, j5, q_j7, ln, nr, ⟨by rw [ht]; exact hP, va_K.moved hW.alike hK, hD⟩, hln, hnr, (congrArg Prod.snd (hsp.symm.trans hRR))⟩⟩, hS.F ht⟩) hS.2.2 eX8_then_26
  · have hsp := hsp.trans (if_neg hn)
    refine lv_if_eq (tgt := 25) hx hb eX8_then_6 (by decide) (fun _ => ?_) (fun z => absurd z (by decide))
    refine lv_iconst (v := (-1)) hx hb eX8_then_25 (by decide) ?_
    exact W.iret (v := (-1)) hx hb hr (fun t ht hW => ⟨⟨(-1), (), rfl, (congrArg Prod.fst (hsp.symm.trans hRR)), ⟨q_j0, j2, q_j3, q_j4, j5, q_j7, ln, nr, ⟨by rw [ht]; exact hP, va_K.moved hW.alike hK, hD⟩, hln, hnr, (congrArg Prod.snd (hsp.symm.trans hRR))⟩⟩, hS.F ht⟩) hS.2.2 eX8_then_26
