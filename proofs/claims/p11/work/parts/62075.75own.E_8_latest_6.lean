theorem eX8_latest_9 : decode cX8_latest 9 = .ok (.iload_n 3, 1) := by decide +kernel
theorem eX8_latest_10 : decode cX8_latest 10 = .ok (.ifCond .lt 10, 3) := by decide +kernel
theorem eX8_latest_13 : decode cX8_latest 13 = .ok (.iload_n 3, 1) := by decide +kernel
theorem eX8_latest_14 : decode cX8_latest 14 = .ok (.sipush 1000, 3) := by decide +kernel
theorem eX8_latest_17 : decode cX8_latest 17 = .ok (.if_icmp .le 5, 3) := by decide +kernel
theorem eX8_latest_22 : decode cX8_latest 22 = .ok (.aload_n 0, 1) := by decide +kernel
theorem eX8_latest_23 : decode cX8_latest 23 = .ok (.getfield 62, 3) := by decide +kernel
theorem eX8_latest_26 : decode cX8_latest 26 = .ok (.aload_n 0, 1) := by decide +kernel
theorem eX8_latest_27 : decode cX8_latest 27 = .ok (.getfield 42, 3) := by decide +kernel
theorem eX8_latest_30 : decode cX8_latest 30 = .ok (.iload_n 1, 1) := by decide +kernel
theorem eX8_latest_31 : decode cX8_latest 31 = .ok (.invokevirtual 323, 3) := by decide +kernel
theorem eX8_latest_34 : decode cX8_latest 34 = .ok (.aload_n 0, 1) := by decide +kernel
theorem eX8_latest_35 : decode cX8_latest 35 = .ok (.getfield 62, 3) := by decide +kernel
theorem eX8_latest_38 : decode cX8_latest 38 = .ok (.aload_n 0, 1) := by decide +kernel
theorem eX8_latest_39 : decode cX8_latest 39 = .ok (.getfield 23, 3) := by decide +kernel
theorem eX8_latest_42 : decode cX8_latest 42 = .ok (.invokevirtual 330, 3) := by decide +kernel
theorem eX8_latest_45 : decode cX8_latest 45 = .ok (.aload_n 0, 1) := by decide +kernel
theorem eX8_latest_46 : decode cX8_latest 46 = .ok (.getfield 62, 3) := by decide +kernel
theorem eX8_latest_49 : decode cX8_latest 49 = .ok (.iload_n 3, 1) := by decide +kernel
theorem eX8_latest_50 : decode cX8_latest 50 = .ok (.sipush 256, 3) := by decide +kernel
theorem eX8_latest_53 : decode cX8_latest 53 = .ok (.imul, 1) := by decide +kernel
theorem eX8_latest_54 : decode cX8_latest 54 = .ok (.invokevirtual 354, 3) := by decide +kernel
theorem eX8_latest_57 : decode cX8_latest 57 = .ok (.ifCond .eq 17, 3) := by decide +kernel
theorem eX8_latest_60 : decode cX8_latest 60 = .ok (.aload_n 0, 1) := by decide +kernel
theorem eX8_latest_61 : decode cX8_latest 61 = .ok (.getfield 62, 3) := by decide +kernel
theorem eX8_latest_64 : decode cX8_latest 64 = .ok (.getfield 340, 3) := by decide +kernel
theorem eX8_latest_67 : decode cX8_latest 67 = .ok (.iload_n 2, 1) := by decide +kernel
theorem eX8_latest_68 : decode cX8_latest 68 = .ok (.iconst 1, 1) := by decide +kernel
theorem eX8_latest_69 : decode cX8_latest 69 = .ok (.iadd, 1) := by decide +kernel
theorem eX8_latest_70 : decode cX8_latest 70 = .ok (.iaload, 1) := by decide +kernel
theorem eX8_latest_71 : decode cX8_latest 71 = .ok (.goto 4, 3) := by decide +kernel
theorem eX8_latest_74 : decode cX8_latest 74 = .ok (.iconst (-1), 1) := by decide +kernel
theorem eX8_latest_75 : decode cX8_latest 75 = .ok (.ireturn, 1) := by decide +kernel
abbrev vs_E_8_latest : List Cond := .code yX8_latest cX8_latest 4 (some .int) :: CM
theorem g_E_8_latest_E_8_isStep : GoodIn vs_E_8_latest (wsV RX8 320 RX8 yX8_isStep vs_E_8_isStep) := cm_gV cm_603 cm_604 cm_605 cm_427 cm_599
theorem g_E_8_latest_E_6_loadRun : GoodIn vs_E_8_latest (wsV RX8 323 RX6 yX6_loadRun vs_E_6_loadRun) := cm_gV cm_606 cm_607 cm_608 cm_383 cm_364
theorem g_E_8_latest_E_6_layRules : GoodIn vs_E_8_latest (wsV RX8 330 RX6 yX6_layRules vs_E_6_layRules) := cm_gV cm_610 cm_611 cm_612 cm_383 cm_370
theorem g_E_8_latest_E_6_findsGreatest : GoodIn vs_E_8_latest (wsV RX8 354 RX6 yX6_findsGreatest vs_E_6_findsGreatest) := cm_gV cm_632 cm_633 cm_634 cm_383 cm_401
noncomputable def sp_E_8_latest (hs : Nat) (nc : Nat) (st0 : Nat) (f4 : Nat → Int32) (q_f5 : Nat → Nat) (q_f6 : Nat → Nat) (f7 : Nat → Int32) (q_f8 : Nat → Nat) (q_f9 : Nat → Nat) (f12 : Nat → Int32) (f13 : Nat → Int32) (gc : Nat) (fs2 : Nat → Int32) (fs3 : Nat → Int32) (fs4 : Nat → Int32) (ln : Nat) (nr : Nat) (q_j0 : Nat → Nat) (j2 : Nat → Int32) (q_j3 : Nat → Nat) (q_j4 : Nat → Nat) (j5 : Nat → Int32) (q_j7 : Nat → Nat) (p0 : Int32) (p1 : Int32) (p2 : Int32) : Int32 × (Nat → Nat) × (Nat → Int32) × (Nat → Nat) × (Nat → Nat) × (Nat → Int32) × (Nat → Nat) × Nat × Nat := (if isStp hs gc fs4 p0 p1 then (slet ((p0 : Int32).toNatClampNeg) (fun n_2 => (slet ((p1 : Int32).toNatClampNeg) (fun n_3 => (if (p2 : Int32) < 0 then ((-1), q_j0, j2, q_j3, q_j4, j5, q_j7, ln, nr) else (if (p2 : Int32) ≤ 1000 then (slet ((p2 : Int32).toNatClampNeg) (fun n_6 => (slet (sp_E_6_loadRun q_j0 fs2 fs3 fs4 n_2) (fun (z_j0_8, z_ln_9) => (slet (sp_E_6_layRules z_ln_9 z_j0_8 q_j3 q_j4 j5 q_j7 nc st0 f4 q_f5 q_f6 f7 q_f8 q_f9 f12 f13) (fun (z_j3_11, z_j4_12, z_j5_13, z_j7_14, z_nr_15) => (slet (sp_E_6_findsGreatest z_ln_9 z_nr_15 j2 z_j3_11 z_j4_12 z_j5_13 (nI (n_6 * 256))) (fun (u_19, z_j2_18) => (if u_19 = 0 then ((-1), z_j0_8, z_j2_18, z_j3_11, z_j4_12, z_j5_13, z_j7_14, z_ln_9, z_nr_15) else (slet (z_j2_18 (n_3 + 1)) (fun y_22 => (y_22, z_j0_8, z_j2_18, z_j3_11, z_j4_12, z_j5_13, z_j7_14, z_ln_9, z_nr_15)))))))))))) else ((-1), q_j0, j2, q_j3, q_j4, j5, q_j7, ln, nr))))))) else ((-1), q_j0, j2, q_j3, q_j4, j5, q_j7, ln, nr))
set_option maxHeartbeats 4000000 in
set_option maxRecDepth 100000 in
theorem c_E_8_latest (l : Launch) (dC : Nat → ClassId) (dI : Nat → Nat → Nat) (sz : Nat) (xa : Nat) (xtape : Nat) (tp : Nat) (rd : Nat) (au : Nat) (xdr : Nat) (hy : Nat) (g : Nat) (hs : Nat) (tg : Nat) (sg : Nat) (ss : Nat) (rm : Nat) (ti : Nat) (py : Nat) (bu : Nat) (sm : Nat) (nc : Nat) (np : Nat) (ne : Nat) (st0 : Nat) (q4 : Nat) (q5 : Nat) (q6 : Nat) (q7 : Nat) (q8 : Nat) (q9 : Nat) (q10 : Nat) (q11 : Nat) (q12 : Nat) (q13 : Nat) (q14 : Nat) (q15 : Nat) (q16 : Nat) (k_f4 : ClassId) (f4 : Nat → Int32) (k_f5 : ClassId) (q_f5 : Nat → Nat) (k_f6 : ClassId) (q_f6 : Nat → Nat) (k_f7 : ClassId) (f7 : Nat → Int32) (k_f8 : ClassId) (q_f8 : Nat → Nat) (k_f9 : ClassId) (q_f9 : Nat → Nat) (k_f10 : ClassId) (f10 : Nat → Int32) (k_f11 : ClassId) (f11 : Nat → Int32) (k_f12 : ClassId) (f12 : Nat → Int32) (k_f13 : ClassId) (f13 : Nat → Int32) (k_f14 : ClassId) (f14 : Nat → Int32) (k_f15 : ClassId) (f15 : Nat → Int32) (k_f16 : ClassId) (f16 : Nat → Int32) (gz : Nat) (g1 : Nat) (g2 : Nat) (g3 : Nat) (g4 : Nat) (g5 : Nat) (gc : Nat) (gfull : Nat) (gx : Int32) (gway : Int32) (gav : Int32) (ggoal : Int32) (gfound : Nat) (gl : Nat) (gsz : Nat) (g16 : Nat) (g17 : Nat) (k_fs2 : ClassId) (fs2 : Nat → Int32) (k_fs3 : ClassId) (fs3 : Nat → Int32) (k_fs4 : ClassId) (fs4 : Nat → Int32) (r0 : Nat) (ln : Nat) (r2 : Nat) (r3 : Nat) (r4 : Nat) (r5 : Nat) (nr : Nat) (r7 : Nat) (r8 : Nat) (tz : Nat) (k_j0 : ClassId) (q_j0 : Nat → Nat) (k_j2 : ClassId) (j2 : Nat → Int32) (k_j3 : ClassId) (q_j3 : Nat → Nat) (k_j4 : ClassId) (q_j4 : Nat → Nat) (k_j5 : ClassId) (j5 : Nat → Int32) (k_j7 : ClassId) (q_j7 : Nat → Nat) (k_j8 : ClassId) (j8 : Nat → Int32) (p0 : Int32) (p1 : Int32) (p2 : Int32) (htp : tp ≤ 900) (hhs : hs ≤ 1) (hss : ss ≤ 1) (hnc : nc ≤ 3) (hnp : np ≤ 8) (hne : ne ≤ 14) (hst0 : st0 ≤ 7) (hgc : gc ≤ 120) (hgfull : gfull ≤ 1) (hgfound : gfound ≤ 1) (hgl : gl ≤ 1) (hgsz : gsz ≤ 4) (hln : ln ≤ 119) (hnr : nr ≤ 1920) (hq0 : gz_ok gc fs2 fs3 fs4) : Met l yX8_latest vs_E_8_latest ({ frames := 3, cells := 0, slots := 0, locals := 74 }) (va_Pc [.ref xa, .int p0, .int p1, .int p2] (pu_B (dC, dI) (xti__w xa xtape (nI tp) rd au xdr hy g (nI hs) tg sg (nI ss) rm ti py bu sm (nI nc) (nI np) (nI ne) (nI st0) q4 q5 q6 q7 q8 q9 q10 q11 q12 q13 q14 q15 q16 k_f4 f4 k_f5 (bN 7 q_f5) k_f6 (bN 7 q_f6) k_f7 f7 k_f8 (bN 4 q_f8) k_f9 (bN 2 q_f9) k_f10 f10 k_f11 f11 k_f12 f12 k_f13 f13 k_f14 f14 k_f15 f15 k_f16 f16 gz g1 g2 g3 g4 g5 (nI gc) (nI gfull) gx gway gav ggoal (nI gfound) 120 (nI gl) (nI gsz) g16 g17 k_fs2 fs2 k_fs3 fs3 k_fs4 fs4 r0 (nI ln) r2 r3 r4 r5 (nI nr) r7 r8 tz k_j0 (bN 13 q_j0) k_j2 j2 k_j3 (bN 120 q_j3) k_j4 (bN 120 q_j4) k_j5 j5 k_j7 (bN 120 q_j7) k_j8 j8) (xti__t k_f4 k_f5 k_f6 k_f7 k_f8 k_f9 k_f10 k_f11 k_f12 k_f13 k_f14 k_f15 k_f16 k_fs2 k_fs3 k_fs4 k_j0 k_j2 k_j3 k_j4 k_j5 k_j7 k_j8) sz)) (va_Qi (fun (r : Int32) (_ : Unit) => r = (sp_E_8_latest hs nc st0 f4 q_f5 q_f6 f7 q_f8 q_f9 f12 f13 gc fs2 fs3 fs4 ln nr q_j0 j2 q_j3 q_j4 j5 q_j7 p0 p1 p2).1) (fun _ t => ∃ (z_j0 : Nat → Nat) (z_j2 : Nat → Int32) (z_j3 : Nat → Nat) (z_j4 : Nat → Nat) (z_j5 : Nat → Int32) (z_j7 : Nat → Nat) (z_ln : Nat) (z_nr : Nat), pu_E (dC, dI) (xti__w xa xtape (nI tp) rd au xdr hy g (nI hs) tg sg (nI ss) rm ti py bu sm (nI nc) (nI np) (nI ne) (nI st0) q4 q5 q6 q7 q8 q9 q10 q11 q12 q13 q14 q15 q16 k_f4 f4 k_f5 (bN 7 q_f5) k_f6 (bN 7 q_f6) k_f7 f7 k_f8 (bN 4 q_f8) k_f9 (bN 2 q_f9) k_f10 f10 k_f11 f11 k_f12 f12 k_f13 f13 k_f14 f14 k_f15 f15 k_f16 f16 gz g1 g2 g3 g4 g5 (nI gc) (nI gfull) gx gway gav ggoal (nI gfound) 120 (nI gl) (nI gsz) g16 g17 k_fs2 fs2 k_fs3 fs3 k_fs4 fs4 r0 (nI z_ln) r2 r3 r4 r5 (nI z_nr) r7 r8 tz k_j0 (bN 13 z_j0) k_j2 z_j2 k_j3 (bN 120 z_j3) k_j4 (bN 120 z_j4) k_j5 z_j5 k_j7 (bN 120 z_j7) k_j8 j8) (xti__t k_f4 k_f5 k_f6 k_f7 k_f8 k_f9 k_f10 k_f11 k_f12 k_f13 k_f14 k_f15 k_f16 k_fs2 k_fs3 k_fs4 k_j0 k_j2 k_j3 k_j4 k_j5 k_j7 k_j8) (va_A ((xti__w xa xtape (nI tp) rd au xdr hy g (nI hs) tg sg (nI ss) rm ti py bu sm (nI nc) (nI np) (nI ne) (nI st0) q4 q5 q6 q7 q8 q9 q10 q11 q12 q13 q14 q15 q16 k_f4 f4 k_f5 (bN 7 q_f5) k_f6 (bN 7 q_f6) k_f7 f7 k_f8 (bN 4 q_f8) k_f9 (bN 2 q_f9) k_f10 f10 k_f11 f11 k_f12 f12 k_f13 f13 k_f14 f14 k_f15 f15 k_f16 f16 gz g1 g2 g3 g4 g5 (nI gc) (nI gfull) gx gway gav ggoal (nI gfound) 120 (nI gl) (nI gsz) g16 g17 k_fs2 fs2 k_fs3 fs3 k_fs4 fs4 r0 (nI ln) r2 r3 r4 r5 (nI nr) r7 r8 tz k_j0 (bN 13 q_j0) k_j2 j2 k_j3 (bN 120 q_j3) k_j4 (bN 120 q_j4) k_j5 j5 k_j7 (bN 120 q_j7) k_j8 j8)) sz) t ∧ (z_ln ≤ 119) ∧ (z_nr ≤ 1920) ∧ ((z_j0, z_j2, z_j3, z_j4, z_j5, z_j7, z_ln, z_nr) = (sp_E_8_latest hs nc st0 f4 q_f5 q_f6 f7 q_f8 q_f9 f12 f13 gc fs2 fs3 fs4 ln nr q_j0 j2 q_j3 q_j4 j5 q_j7 p0 p1 p2).2)) (va_A ((xti__w xa xtape (nI tp) rd au xdr hy g (nI hs) tg sg (nI ss) rm ti py bu sm (nI nc) (nI np) (nI ne) (nI st0) q4 q5 q6 q7 q8 q9 q10 q11 q12 q13 q14 q15 q16 k_f4 f4 k_f5 (bN 7 q_f5) k_f6 (bN 7 q_f6) k_f7 f7 k_f8 (bN 4 q_f8) k_f9 (bN 2 q_f9) k_f10 f10 k_f11 f11 k_f12 f12 k_f13 f13 k_f14 f14 k_f15 f15 k_f16 f16 gz g1 g2 g3 g4 g5 (nI gc) (nI gfull) gx gway gav ggoal (nI gfound) 120 (nI gl) (nI gsz) g16 g17 k_fs2 fs2 k_fs3 fs3 k_fs4 fs4 r0 (nI ln) r2 r3 r4 r5 (nI nr) r7 r8 tz k_j0 (bN 13 q_j0) k_j2 j2 k_j3 (bN 120 q_j3) k_j4 (bN 120 q_j4) k_j5 j5 k_j7 (bN 120 q_j7) k_j8 j8)) sz)) 0 0 (va_A ((xti__w xa xtape (nI tp) rd au xdr hy g (nI hs) tg sg (nI ss) rm ti py bu sm (nI nc) (nI np) (nI ne) (nI st0) q4 q5 q6 q7 q8 q9 q10 q11 q12 q13 q14 q15 q16 k_f4 f4 k_f5 (bN 7 q_f5) k_f6 (bN 7 q_f6) k_f7 f7 k_f8 (bN 4 q_f8) k_f9 (bN 2 q_f9) k_f10 f10 k_f11 f11 k_f12 f12 k_f13 f13 k_f14 f14 k_f15 f15 k_f16 f16 gz g1 g2 g3 g4 g5 (nI gc) (nI gfull) gx gway gav ggoal (nI gfound) 120 (nI gl) (nI gsz) g16 g17 k_fs2 fs2 k_fs3 fs3 k_fs4 fs4 r0 (nI ln) r2 r3 r4 r5 (nI nr) r7 r8 tz k_j0 (bN 13 q_j0) k_j2 j2 k_j3 (bN 120 q_j3) k_j4 (bN 120 q_j4) k_j5 j5 k_j7 (bN 120 q_j7) k_j8 j8)) sz) := by
  refine Met.ofW (cc := cX8_latest) (maxL := 4) (ret := (some .int)) (by decide) rfl ?_
  intro p e s m args below meth c s₁ B hml hv
  obtain ⟨rfl, rfl, hP, hK, hD0⟩ := hv
  have hx := B.exec
  have hb := B.bytes
  have hr := B.returns
  have hts := atoms_spec (ws := vs_E_8_latest) B.pre
  have v_6 := hts (.fieldLink RX8 62 "ClockReach" "timing" "LClockReach$Timing;") (List.mem_cons_of_mem _ cm_601)
  have v_7 := hts (.fieldLink RX8 42 "ClockReach" "shown" "LClockReach$Graph;") (List.mem_cons_of_mem _ cm_456)
  have v_13 := hts (.fieldLink RX8 23 "ClockReach" "model" "LClockReach$Automaton;") (List.mem_cons_of_mem _ cm_434)
  have v_22 := hts (.fieldLink RX8 340 "ClockReach$Timing" "at" "[I") (List.mem_cons_of_mem _ cm_617)
  have hown : s.vm.findClass RX8 = some m.cls := findClass_of_methodNamed B.named
  have hlocks := B.notSynchronized
  have hiX6 : ∀ w ∈ wsX60, w ∈ vs_E_8_latest := fun _ h => List.mem_cons_of_mem _ (cm_X6 h)
  have hiX8 : ∀ w ∈ wsX80, w ∈ vs_E_8_latest := fun _ h => List.mem_cons_of_mem _ (cm_X8 h)
  have hD := hD0.self (sz := s.heap.size)
  generalize hAe : va_A ((xti__w xa xtape (nI tp) rd au xdr hy g (nI hs) tg sg (nI ss) rm ti py bu sm (nI nc) (nI np) (nI ne) (nI st0) q4 q5 q6 q7 q8 q9 q10 q11 q12 q13 q14 q15 q16 k_f4 f4 k_f5 (bN 7 q_f5) k_f6 (bN 7 q_f6) k_f7 f7 k_f8 (bN 4 q_f8) k_f9 (bN 2 q_f9) k_f10 f10 k_f11 f11 k_f12 f12 k_f13 f13 k_f14 f14 k_f15 f15 k_f16 f16 gz g1 g2 g3 g4 g5 (nI gc) (nI gfull) gx gway gav ggoal (nI gfound) 120 (nI gl) (nI gsz) g16 g17 k_fs2 fs2 k_fs3 fs3 k_fs4 fs4 r0 (nI ln) r2 r3 r4 r5 (nI nr) r7 r8 tz k_j0 (bN 13 q_j0) k_j2 j2 k_j3 (bN 120 q_j3) k_j4 (bN 120 q_j4) k_j5 j5 k_j7 (bN 120 q_j7) k_j8 j8)) s.heap.size = A at hD ⊢
  have hA : ∀ q : Nat, s.heap.size ≤ q → A q := fun q h => by rw [← hAe]; exact Or.inr h
  have hS : va_S A s.heap s.heap [] := va_S.rf
  have hl := lv_entry ([.ref xa, .int p0, .int p1, .int p2]) (n := 4) (Nat.le_of_ble_eq_true rfl)
  rw [lg_entry_eq]
  generalize (lg_sl ([.ref xa, .int p0, .int p1, .int p2]) ++ List.replicate (4 - (lg_sl ([.ref xa, .int p0, .int p1, .int p2])).length) Slot.unset).toArray = ls at hl ⊢
  have hl : lv_has ls 4 [(0, .ref xa), (1, .int p0), (2, .int p1), (3, .int p2)] := hl
  obtain ⟨RR, hRR⟩ : ∃ x, x = (sp_E_8_latest hs nc st0 f4 q_f5 q_f6 f7 q_f8 q_f9 f12 f13 gc fs2 fs3 fs4 ln nr q_j0 j2 q_j3 q_j4 j5 q_j7 p0 p1 p2) := ⟨_, rfl⟩
  have hsp := hRR
  refine lv_aload_n hx hb eX8_latest_0 rfl (lv_at hl 0 rfl) ?_
  refine lv_iload_n hx hb eX8_latest_1 rfl (lv_at hl 1 rfl) ?_
  refine lv_iload_n hx hb eX8_latest_2 rfl (lv_at hl 2 rfl) ?_
  have hPc : va_P (dC, dI) vwCl (xgl__w xa xtape (nI tp) rd au xdr hy g (nI hs) tg sg (nI ss) rm ti py bu sm gz g1 g2 g3 g4 g5 (nI gc) (nI gfull) gx gway gav ggoal (nI gfound) 120 (nI gl) (nI gsz) g16 g17 k_fs2 fs2 k_fs3 fs3 k_fs4 fs4) _ := hP.sub [0, 15, 16, 17, 18] rfl
  have hDc := hD.sub (ws' := (xgl__w xa xtape (nI tp) rd au xdr hy g (nI hs) tg sg (nI ss) rm ti py bu sm gz g1 g2 g3 g4 g5 (nI gc) (nI gfull) gx gway gav ggoal (nI gfound) 120 (nI gl) (nI gsz) g16 g17 k_fs2 fs2 k_fs3 fs3 k_fs4 fs4)) [0, 15, 16, 17, 18] (by decide) rfl
  have hKc : va_K (dC, dI) vwCl (xgl__t k_fs2 k_fs3 k_fs4) s := hK.sub [13, 14, 15] rfl
  refine va_calli (va_runV (As := [.int p0, .int p1]) (rest := []) ⟨hx, hb, hml, hown, hts⟩ (c_E_8_isStep l dC dI _ xa xtape tp rd au xdr hy g hs tg sg ss rm ti py bu sm gz g1 g2 g3 g4 g5 gc gfull gx gway gav ggoal gfound gl gsz g16 g17 k_fs2 fs2 k_fs3 fs3 k_fs4 fs4 p0 p1 htp hhs hss hgc hgfull hgfound hgl hgsz (by assumption)) (cwV 2 hts g_E_8_latest_E_8_isStep rfl rfl rfl (by decide +kernel) ⟨Nat.le_of_ble_eq_true rfl, Nat.le_of_ble_eq_true rfl⟩) ⟨pu_bl, va_recv hK hP (ci := 8) (q0 := 0) rfl rfl, pu_in hPc hKc hDc⟩ rfl rfl hl.1 rfl (lv_room (Nat.le_of_ble_eq_true rfl)) eX8_latest_3 ⟨Nat.le_of_ble_eq_true rfl, Nat.le_of_ble_eq_true rfl⟩) hS (fun q _ h => pu_fr hS hA q h) (pu_fr hS hA) (fun r_1 u t H1 locs ht hvm hw hB hz1 hk1 hS => ?_)
  have hP := pu_keep hP hk1
  clear hk1 hz1 ht hvm
  generalize H1 = H at hP hS ⊢
  rcases hw with ⟨rfl, n_2, n_3, hn_2, hn_3, rfl, rfl, hst⟩ | ⟨rfl, hn⟩
  · have hsp := hsp.trans (if_pos hst)
    have hsp := hsp.trans (slet_eq (nI_cl (n := n_2) (by omega)))
    have hsp := hsp.trans (slet_eq (nI_cl (n := n_3) (by omega)))
    refine lv_if_eq (tgt := 20) hx hb eX8_latest_6 (by decide) (fun z => absurd z (by decide)) (fun _ => ?_)
    refine lv_iload_n hx hb eX8_latest_9 rfl (lv_at hl 3 rfl) ?_
    refine lv_if_lt (tgt := 20) hx hb eX8_latest_10 (by decide) (fun c_4 => ?_) (fun c_4 => ?_)
    · have hcc_4 := c_4
      have hsp := hsp.trans (if_pos c_4)
      refine lv_iconst (v := (-1)) hx hb eX8_latest_20 (by decide) ?_
      exact W.iret (v := (-1)) hx hb hr (fun t ht hW => ⟨⟨(-1), (), rfl, (congrArg Prod.fst (hsp.symm.trans hRR)), ⟨q_j0, j2, q_j3, q_j4, j5, q_j7, ln, nr, ⟨by rw [ht]; exact hP, va_K.moved hW.alike hK, hD⟩, hln, hnr, (congrArg Prod.snd (hsp.symm.trans hRR))⟩⟩, hS.F ht⟩) hS.2.2 eX8_latest_21
    · have hcc_4 := c_4
      have hsp := hsp.trans (if_neg c_4)
      have lp2 : ¬ p2 < 0 := c_4
      refine lv_iload_n hx hb eX8_latest_13 rfl (lv_at hl 3 rfl) ?_
      refine lv_sipush (v := 1000) hx hb eX8_latest_14 (by decide) ?_
      refine lv_icmp_le (tgt := 22) hx hb eX8_latest_17 (by decide) (fun c_5 => ?_) (fun c_5 => ?_)
      · have hcc_5 := c_5
        have hsp := hsp.trans (if_pos c_5)
        obtain ⟨n_6, hn_6, rfl⟩ := pu_ule (b := 1000) (by omega) lp2 (c_5)
        have hsp := hsp.trans (slet_eq (nI_cl (n := n_6) (by omega)))
        refine lv_aload_n hx hb eX8_latest_22 rfl (lv_at hl 0 rfl) ?_
        refine va_get (D := (dC, dI)) (ci := 8) (v := .ref ti) (C := RX8) (T := TX8) (N := 16) hx hb hts hiX8 hown hK hP 0 rfl rfl 12 (by decide) v_6 (fun _ h9 => h9) rfl eX8_latest_23 ?_
        refine lv_aload_n hx hb eX8_latest_26 rfl (lv_at hl 0 rfl) ?_
        refine va_get (D := (dC, dI)) (ci := 8) (v := .ref g) (C := RX8) (T := TX8) (N := 16) hx hb hts hiX8 hown hK hP 0 rfl rfl 6 (by decide) v_7 (fun _ h9 => h9) rfl eX8_latest_27 ?_
        refine lv_iload_n hx hb eX8_latest_30 rfl (lv_at hl 1 rfl) ?_
        have hPc : va_P (dC, dI) vwCl (tg__w ti r0 (nI ln) r2 r3 r4 r5 (nI nr) r7 r8 tz k_j0 (bN 13 q_j0) k_j2 j2 k_j3 (bN 120 q_j3) k_j4 (bN 120 q_j4) k_j5 j5 k_j7 (bN 120 q_j7) k_j8 j8 g gz g1 g2 g3 g4 g5 (nI gc) (nI gfull) gx gway gav ggoal (nI gfound) 120 (nI gl) (nI gsz) g16 g17 k_fs2 fs2 k_fs3 fs3 k_fs4 fs4) _ := hP.sub [19, 20, 21, 22, 23, 24, 25, 26, 15, 16, 17, 18] rfl
        have hDc := hD.sub (ws' := (tg__w ti r0 (nI ln) r2 r3 r4 r5 (nI nr) r7 r8 tz k_j0 (bN 13 q_j0) k_j2 j2 k_j3 (bN 120 q_j3) k_j4 (bN 120 q_j4) k_j5 j5 k_j7 (bN 120 q_j7) k_j8 j8 g gz g1 g2 g3 g4 g5 (nI gc) (nI gfull) gx gway gav ggoal (nI gfound) 120 (nI gl) (nI gsz) g16 g17 k_fs2 fs2 k_fs3 fs3 k_fs4 fs4)) [19, 20, 21, 22, 23, 24, 25, 26, 15, 16, 17, 18] (by decide) rfl
        have hKc : va_K (dC, dI) vwCl (tg__t k_j0 k_j2 k_j3 k_j4 k_j5 k_j7 k_j8 k_fs2 k_fs3 k_fs4) s := hK.sub [16, 17, 18, 19, 20, 21, 22, 13, 14, 15] rfl
        have hFc := pu_free hDc hS hA
        refine va_callv (va_runV (As := [.ref g, .int (nI n_2)]) (rest := []) ⟨hx, hb, hml, hown, hts⟩ (c_E_6_loadRun l dC dI _ ti r0 ln r2 r3 r4 r5 nr r7 r8 tz k_j0 q_j0 k_j2 j2 k_j3 q_j3 k_j4 q_j4 k_j5 j5 k_j7 q_j7 k_j8 j8 g gz g1 g2 g3 g4 g5 gc gfull gx gway gav ggoal gfound gl gsz g16 g17 k_fs2 fs2 k_fs3 fs3 k_fs4 fs4 n_2 hln hnr hgc hgfull hgfound hgl hgsz (by omega) (by first | assumption | exact gz_0) (by omega)) (cwV 2 hts g_E_8_latest_E_6_loadRun rfl rfl rfl (by decide +kernel) ⟨Nat.le_of_ble_eq_true rfl, Nat.le_of_ble_eq_true rfl⟩) ⟨pu_bl, va_recv hK hP (ci := 6) (q0 := 19) rfl rfl, pu_in hPc hKc hDc⟩ rfl rfl hl.1 rfl (lv_room (Nat.le_of_ble_eq_true rfl)) eX8_latest_31 ⟨Nat.le_of_ble_eq_true rfl, Nat.le_of_ble_eq_true rfl⟩) hS (fun q _ h => hFc q h) hFc (fun u t H1 locs ht hvm hw hB hz1 hk1 hS => ?_)
        obtain ⟨z_j0_8, z_ln_9, ⟨hP1, -, hD1⟩, hz_ln_9, xr_7_0⟩ := hB
        rw [ht] at hP1
        obtain ⟨hP, hD⟩ := pj_a (X := (xti__w xa xtape (nI tp) rd au xdr hy g (nI hs) tg sg (nI ss) rm ti py bu sm (nI nc) (nI np) (nI ne) (nI st0) q4 q5 q6 q7 q8 q9 q10 q11 q12 q13 q14 q15 q16 k_f4 f4 k_f5 (bN 7 q_f5) k_f6 (bN 7 q_f6) k_f7 f7 k_f8 (bN 4 q_f8) k_f9 (bN 2 q_f9) k_f10 f10 k_f11 f11 k_f12 f12 k_f13 f13 k_f14 f14 k_f15 f15 k_f16 f16 gz g1 g2 g3 g4 g5 (nI gc) (nI gfull) gx gway gav ggoal (nI gfound) 120 (nI gl) (nI gsz) g16 g17 k_fs2 fs2 k_fs3 fs3 k_fs4 fs4 r0 (nI ln) r2 r3 r4 r5 (nI nr) r7 r8 tz k_j0 (bN 13 q_j0) k_j2 j2 k_j3 (bN 120 q_j3) k_j4 (bN 120 q_j4) k_j5 j5 k_j7 (bN 120 q_j7) k_j8 j8)) (X' := (xti__w xa xtape (nI tp) rd au xdr hy g (nI hs) tg sg (nI ss) rm ti py bu sm (nI nc) (nI np) (nI ne) (nI st0) q4 q5 q6 q7 q8 q9 q10 q11 q12 q13 q14 q15 q16 k_f4 f4 k_f5 (bN 7 q_f5) k_f6 (bN 7 q_f6) k_f7 f7 k_f8 (bN 4 q_f8) k_f9 (bN 2 q_f9) k_f10 f10 k_f11 f11 k_f12 f12 k_f13 f13 k_f14 f14 k_f15 f15 k_f16 f16 gz g1 g2 g3 g4 g5 (nI gc) (nI gfull) gx gway gav ggoal (nI gfound) 120 (nI gl) (nI gsz) g16 g17 k_fs2 fs2 k_fs3 fs3 k_fs4 fs4 r0 (nI z_ln_9) r2 r3 r4 r5 (nI nr) r7 r8 tz k_j0 (bN 13 z_j0_8) k_j2 j2 k_j3 (bN 120 q_j3) k_j4 (bN 120 q_j4) k_j5 j5 k_j7 (bN 120 q_j7) k_j8 j8)) (wc := (tg__w ti r0 (nI ln) r2 r3 r4 r5 (nI nr) r7 r8 tz k_j0 (bN 13 q_j0) k_j2 j2 k_j3 (bN 120 q_j3) k_j4 (bN 120 q_j4) k_j5 j5 k_j7 (bN 120 q_j7) k_j8 j8 g gz g1 g2 g3 g4 g5 (nI gc) (nI gfull) gx gway gav ggoal (nI gfound) 120 (nI gl) (nI gsz) g16 g17 k_fs2 fs2 k_fs3 fs3 k_fs4 fs4)) (w1 := (tg__w ti r0 (nI z_ln_9) r2 r3 r4 r5 (nI nr) r7 r8 tz k_j0 (bN 13 z_j0_8) k_j2 j2 k_j3 (bN 120 q_j3) k_j4 (bN 120 q_j4) k_j5 j5 k_j7 (bN 120 q_j7) k_j8 j8 g gz g1 g2 g3 g4 g5 (nI gc) (nI gfull) gx gway gav ggoal (nI gfound) 120 (nI gl) (nI gsz) g16 g17 k_fs2 fs2 k_fs3 fs3 k_fs4 fs4)) hP hD [19, 20, 21, 22, 23, 24, 25, 26, 15, 16, 17, 18] [12, 13, 14, 15, 16, 17, 18, 19, 20, 21, 22, 23, 24, 25, 26, 8, 9, 10, 11, 0, 1, 2, 3, 4, 5, 6, 7] 12 rfl hk1 hP1 rfl rfl rfl (by decide)
        clear hP1 hD1 hFc hPc hDc hKc
        clear hk1 hz1 ht hvm
        generalize H1 = H at hP hS ⊢
        have hsp := hsp.trans (slet_eq xr_7_0)
        refine lv_aload_n hx hb eX8_latest_34 rfl (lv_at hl 0 rfl) ?_
        refine va_get (D := (dC, dI)) (ci := 8) (v := .ref ti) (C := RX8) (T := TX8) (N := 16) hx hb hts hiX8 hown hK hP 0 rfl rfl 12 (by decide) v_6 (fun _ h9 => h9) rfl eX8_latest_35 ?_
        refine lv_aload_n hx hb eX8_latest_38 rfl (lv_at hl 0 rfl) ?_
        refine va_get (D := (dC, dI)) (ci := 8) (v := .ref au) (C := RX8) (T := TX8) (N := 16) hx hb hts hiX8 hown hK hP 0 rfl rfl 3 (by decide) v_13 (fun _ h9 => h9) rfl eX8_latest_39 ?_
        have hPc : va_P (dC, dI) vwCl (ta__w ti r0 (nI z_ln_9) r2 r3 r4 r5 (nI nr) r7 r8 tz k_j0 (bN 13 z_j0_8) k_j2 j2 k_j3 (bN 120 q_j3) k_j4 (bN 120 q_j4) k_j5 j5 k_j7 (bN 120 q_j7) k_j8 j8 au (nI nc) (nI np) (nI ne) (nI st0) q4 q5 q6 q7 q8 q9 q10 q11 q12 q13 q14 q15 q16 k_f4 f4 k_f5 (bN 7 q_f5) k_f6 (bN 7 q_f6) k_f7 f7 k_f8 (bN 4 q_f8) k_f9 (bN 2 q_f9) k_f10 f10 k_f11 f11 k_f12 f12 k_f13 f13 k_f14 f14 k_f15 f15 k_f16 f16) _ := hP.sub [19, 20, 21, 22, 23, 24, 25, 26, 1, 2, 3, 4, 5, 6, 7, 8, 9, 10, 11, 12, 13, 14] rfl
        have hDc := hD.sub (ws' := (ta__w ti r0 (nI z_ln_9) r2 r3 r4 r5 (nI nr) r7 r8 tz k_j0 (bN 13 z_j0_8) k_j2 j2 k_j3 (bN 120 q_j3) k_j4 (bN 120 q_j4) k_j5 j5 k_j7 (bN 120 q_j7) k_j8 j8 au (nI nc) (nI np) (nI ne) (nI st0) q4 q5 q6 q7 q8 q9 q10 q11 q12 q13 q14 q15 q16 k_f4 f4 k_f5 (bN 7 q_f5) k_f6 (bN 7 q_f6) k_f7 f7 k_f8 (bN 4 q_f8) k_f9 (bN 2 q_f9) k_f10 f10 k_f11 f11 k_f12 f12 k_f13 f13 k_f14 f14 k_f15 f15 k_f16 f16)) [19, 20, 21, 22, 23, 24, 25, 26, 1, 2, 3, 4, 5, 6, 7, 8, 9, 10, 11, 12, 13, 14] (by decide) rfl
        have hKc : va_K (dC, dI) vwCl (ta__t k_j0 k_j2 k_j3 k_j4 k_j5 k_j7 k_j8 k_f4 k_f5 k_f6 k_f7 k_f8 k_f9 k_f10 k_f11 k_f12 k_f13 k_f14 k_f15 k_f16) s := hK.sub [16, 17, 18, 19, 20, 21, 22, 0, 1, 2, 3, 4, 5, 6, 7, 8, 9, 10, 11, 12] rfl
        have hFc := pu_free hDc hS hA
        refine va_callv (va_runV (As := [.ref au]) (rest := []) ⟨hx, hb, hml, hown, hts⟩ (c_E_6_layRules l dC dI _ ti r0 z_ln_9 r2 r3 r4 r5 nr r7 r8 tz k_j0 z_j0_8 k_j2 j2 k_j3 q_j3 k_j4 q_j4 k_j5 j5 k_j7 q_j7 k_j8 j8 au nc np ne st0 q4 q5 q6 q7 q8 q9 q10 q11 q12 q13 q14 q15 q16 k_f4 f4 k_f5 q_f5 k_f6 q_f6 k_f7 f7 k_f8 q_f8 k_f9 q_f9 k_f10 f10 k_f11 f11 k_f12 f12 k_f13 f13 k_f14 f14 k_f15 f15 k_f16 f16 hz_ln_9 hnr hnc hnp hne hst0) (cwV 1 hts g_E_8_latest_E_6_layRules rfl rfl rfl (by decide +kernel) ⟨Nat.le_of_ble_eq_true rfl, Nat.le_of_ble_eq_true rfl⟩) ⟨pu_bl, va_recv hK hP (ci := 6) (q0 := 19) rfl rfl, pu_in hPc hKc hDc⟩ rfl rfl hl.1 rfl (lv_room (Nat.le_of_ble_eq_true rfl)) eX8_latest_42 ⟨Nat.le_of_ble_eq_true rfl, Nat.le_of_ble_eq_true rfl⟩) hS (fun q _ h => hFc q h) hFc (fun u t H1 locs ht hvm hw hB hz1 hk1 hS => ?_)
        obtain ⟨z_j3_11, z_j4_12, z_j5_13, z_j7_14, z_nr_15, ⟨hP1, -, hD1⟩, hz_nr_15, xr_10_0⟩ := hB
        rw [ht] at hP1
        obtain ⟨hP, hD⟩ := pj_a (X := (xti__w xa xtape (nI tp) rd au xdr hy g (nI hs) tg sg (nI ss) rm ti py bu sm (nI nc) (nI np) (nI ne) (nI st0) q4 q5 q6 q7 q8 q9 q10 q11 q12 q13 q14 q15 q16 k_f4 f4 k_f5 (bN 7 q_f5) k_f6 (bN 7 q_f6) k_f7 f7 k_f8 (bN 4 q_f8) k_f9 (bN 2 q_f9) k_f10 f10 k_f11 f11 k_f12 f12 k_f13 f13 k_f14 f14 k_f15 f15 k_f16 f16 gz g1 g2 g3 g4 g5 (nI gc) (nI gfull) gx gway gav ggoal (nI gfound) 120 (nI gl) (nI gsz) g16 g17 k_fs2 fs2 k_fs3 fs3 k_fs4 fs4 r0 (nI z_ln_9) r2 r3 r4 r5 (nI nr) r7 r8 tz k_j0 (bN 13 z_j0_8) k_j2 j2 k_j3 (bN 120 q_j3) k_j4 (bN 120 q_j4) k_j5 j5 k_j7 (bN 120 q_j7) k_j8 j8)) (X' := (xti__w xa xtape (nI tp) rd au xdr hy g (nI hs) tg sg (nI ss) rm ti py bu sm (nI nc) (nI np) (nI ne) (nI st0) q4 q5 q6 q7 q8 q9 q10 q11 q12 q13 q14 q15 q16 k_f4 f4 k_f5 (bN 7 q_f5) k_f6 (bN 7 q_f6) k_f7 f7 k_f8 (bN 4 q_f8) k_f9 (bN 2 q_f9) k_f10 f10 k_f11 f11 k_f12 f12 k_f13 f13 k_f14 f14 k_f15 f15 k_f16 f16 gz g1 g2 g3 g4 g5 (nI gc) (nI gfull) gx gway gav ggoal (nI gfound) 120 (nI gl) (nI gsz) g16 g17 k_fs2 fs2 k_fs3 fs3 k_fs4 fs4 r0 (nI z_ln_9) r2 r3 r4 r5 (nI z_nr_15) r7 r8 tz k_j0 (bN 13 z_j0_8) k_j2 j2 k_j3 (bN 120 z_j3_11) k_j4 (bN 120 z_j4_12) k_j5 z_j5_13 k_j7 (bN 120 z_j7_14) k_j8 j8)) (wc := (ta__w ti r0 (nI z_ln_9) r2 r3 r4 r5 (nI nr) r7 r8 tz k_j0 (bN 13 z_j0_8) k_j2 j2 k_j3 (bN 120 q_j3) k_j4 (bN 120 q_j4) k_j5 j5 k_j7 (bN 120 q_j7) k_j8 j8 au (nI nc) (nI np) (nI ne) (nI st0) q4 q5 q6 q7 q8 q9 q10 q11 q12 q13 q14 q15 q16 k_f4 f4 k_f5 (bN 7 q_f5) k_f6 (bN 7 q_f6) k_f7 f7 k_f8 (bN 4 q_f8) k_f9 (bN 2 q_f9) k_f10 f10 k_f11 f11 k_f12 f12 k_f13 f13 k_f14 f14 k_f15 f15 k_f16 f16)) (w1 := (ta__w ti r0 (nI z_ln_9) r2 r3 r4 r5 (nI z_nr_15) r7 r8 tz k_j0 (bN 13 z_j0_8) k_j2 j2 k_j3 (bN 120 z_j3_11) k_j4 (bN 120 z_j4_12) k_j5 z_j5_13 k_j7 (bN 120 z_j7_14) k_j8 j8 au (nI nc) (nI np) (nI ne) (nI st0) q4 q5 q6 q7 q8 q9 q10 q11 q12 q13 q14 q15 q16 k_f4 f4 k_f5 (bN 7 q_f5) k_f6 (bN 7 q_f6) k_f7 f7 k_f8 (bN 4 q_f8) k_f9 (bN 2 q_f9) k_f10 f10 k_f11 f11 k_f12 f12 k_f13 f13 k_f14 f14 k_f15 f15 k_f16 f16)) hP hD [19, 20, 21, 22, 23, 24, 25, 26, 1, 2, 3, 4, 5, 6, 7, 8, 9, 10, 11, 12, 13, 14] [22, 8, 9, 10, 11, 12, 13, 14, 15, 16, 17, 18, 19, 20, 21, 37, 38, 39, 40, 0, 1, 2, 3, 4, 5, 6, 7] 22 rfl hk1 hP1 rfl rfl rfl (by decide)
        clear hP1 hD1 hFc hPc hDc hKc
        clear hk1 hz1 ht hvm
        generalize H1 = H at hP hS ⊢
        have hsp := hsp.trans (slet_eq xr_10_0)
        refine lv_aload_n hx hb eX8_latest_45 rfl (lv_at hl 0 rfl) ?_
        refine va_get (D := (dC, dI)) (ci := 8) (v := .ref ti) (C := RX8) (T := TX8) (N := 16) hx hb hts hiX8 hown hK hP 0 rfl rfl 12 (by decide) v_6 (fun _ h9 => h9) rfl eX8_latest_46 ?_
        refine lv_iload_n hx hb eX8_latest_49 rfl (lv_at hl 3 rfl) ?_
        refine lv_sipush (v := 256) hx hb eX8_latest_50 (by decide) ?_
        refine lv_imul hx hb eX8_latest_53 ?_
        refine lv_topi (fun y_16 ey_16 => ?_)
        obtain rfl : y_16 = (nI (n_6 * 256)) := ey_16.trans (pk_mul n_6 256)
        have hPc : va_P (dC, dI) vwCl (ti__w ti r0 (nI z_ln_9) r2 r3 r4 r5 (nI z_nr_15) r7 r8 tz k_j0 (bN 13 z_j0_8) k_j2 j2 k_j3 (bN 120 z_j3_11) k_j4 (bN 120 z_j4_12) k_j5 z_j5_13 k_j7 (bN 120 z_j7_14) k_j8 j8) _ := hP.sub [19, 20, 21, 22, 23, 24, 25, 26] rfl
        have hDc := hD.sub (ws' := (ti__w ti r0 (nI z_ln_9) r2 r3 r4 r5 (nI z_nr_15) r7 r8 tz k_j0 (bN 13 z_j0_8) k_j2 j2 k_j3 (bN 120 z_j3_11) k_j4 (bN 120 z_j4_12) k_j5 z_j5_13 k_j7 (bN 120 z_j7_14) k_j8 j8)) [19, 20, 21, 22, 23, 24, 25, 26] (by decide) rfl
        have hKc : va_K (dC, dI) vwCl (ti__t k_j0 k_j2 k_j3 k_j4 k_j5 k_j7 k_j8) s := hK.sub [16, 17, 18, 19, 20, 21, 22] rfl
        have hFc := pu_free hDc hS hA
        refine va_calli (va_runV (As := [.int (nI (n_6 * 256))]) (rest := []) ⟨hx, hb, hml, hown, hts⟩ (c_E_6_findsGreatest l dC dI _ ti r0 z_ln_9 r2 r3 r4 r5 z_nr_15 r7 r8 tz k_j0 z_j0_8 k_j2 j2 k_j3 z_j3_11 k_j4 z_j4_12 k_j5 z_j5_13 k_j7 z_j7_14 k_j8 j8 (nI (n_6 * 256)) hz_ln_9 hz_nr_15) (cwV 1 hts g_E_8_latest_E_6_findsGreatest rfl rfl rfl (by decide +kernel) ⟨Nat.le_of_ble_eq_true rfl, Nat.le_of_ble_eq_true rfl⟩) ⟨pu_bl, va_recv hK hP (ci := 6) (q0 := 19) rfl rfl, pu_in hPc hKc hDc⟩ rfl rfl hl.1 rfl (lv_room (Nat.le_of_ble_eq_true rfl)) eX8_latest_54 ⟨Nat.le_of_ble_eq_true rfl, Nat.le_of_ble_eq_true rfl⟩) hS (fun q _ h => hFc q h) hFc (fun r_17 u t H1 locs ht hvm hw hB hz1 hk1 hS => ?_)
        obtain ⟨z_j2_18, ⟨hP1, -, hD1⟩, xr_17_0⟩ := hB
        rw [ht] at hP1
        obtain ⟨hP, hD⟩ := pj_a (X := (xti__w xa xtape (nI tp) rd au xdr hy g (nI hs) tg sg (nI ss) rm ti py bu sm (nI nc) (nI np) (nI ne) (nI st0) q4 q5 q6 q7 q8 q9 q10 q11 q12 q13 q14 q15 q16 k_f4 f4 k_f5 (bN 7 q_f5) k_f6 (bN 7 q_f6) k_f7 f7 k_f8 (bN 4 q_f8) k_f9 (bN 2 q_f9) k_f10 f10 k_f11 f11 k_f12 f12 k_f13 f13 k_f14 f14 k_f15 f15 k_f16 f16 gz g1 g2 g3 g4 g5 (nI gc) (nI gfull) gx gway gav ggoal (nI gfound) 120 (nI gl) (nI gsz) g16 g17 k_fs2 fs2 k_fs3 fs3 k_fs4 fs4 r0 (nI z_ln_9) r2 r3 r4 r5 (nI z_nr_15) r7 r8 tz k_j0 (bN 13 z_j0_8) k_j2 j2 k_j3 (bN 120 z_j3_11) k_j4 (bN 120 z_j4_12) k_j5 z_j5_13 k_j7 (bN 120 z_j7_14) k_j8 j8)) (X' := (xti__w xa xtape (nI tp) rd au xdr hy g (nI hs) tg sg (nI ss) rm ti py bu sm (nI nc) (nI np) (nI ne) (nI st0) q4 q5 q6 q7 q8 q9 q10 q11 q12 q13 q14 q15 q16 k_f4 f4 k_f5 (bN 7 q_f5) k_f6 (bN 7 q_f6) k_f7 f7 k_f8 (bN 4 q_f8) k_f9 (bN 2 q_f9) k_f10 f10 k_f11 f11 k_f12 f12 k_f13 f13 k_f14 f14 k_f15 f15 k_f16 f16 gz g1 g2 g3 g4 g5 (nI gc) (nI gfull) gx gway gav ggoal (nI gfound) 120 (nI gl) (nI gsz) g16 g17 k_fs2 fs2 k_fs3 fs3 k_fs4 fs4 r0 (nI z_ln_9) r2 r3 r4 r5 (nI z_nr_15) r7 r8 tz k_j0 (bN 13 z_j0_8) k_j2 z_j2_18 k_j3 (bN 120 z_j3_11) k_j4 (bN 120 z_j4_12) k_j5 z_j5_13 k_j7 (bN 120 z_j7_14) k_j8 j8)) (wc := (ti__w ti r0 (nI z_ln_9) r2 r3 r4 r5 (nI z_nr_15) r7 r8 tz k_j0 (bN 13 z_j0_8) k_j2 j2 k_j3 (bN 120 z_j3_11) k_j4 (bN 120 z_j4_12) k_j5 z_j5_13 k_j7 (bN 120 z_j7_14) k_j8 j8)) (w1 := (ti__w ti r0 (nI z_ln_9) r2 r3 r4 r5 (nI z_nr_15) r7 r8 tz k_j0 (bN 13 z_j0_8) k_j2 z_j2_18 k_j3 (bN 120 z_j3_11) k_j4 (bN 120 z_j4_12) k_j5 z_j5_13 k_j7 (bN 120 z_j7_14) k_j8 j8)) hP hD [19, 20, 21, 22, 23, 24, 25, 26] [8, 9, 10, 11, 12, 13, 14, 15, 16, 17, 18, 19, 20, 21, 22, 23, 24, 25, 26, 0, 1, 2, 3, 4, 5, 6, 7] 8 rfl hk1 hP1 rfl rfl rfl (by decide)
        clear hP1 hD1 hFc hPc hDc hKc
        clear hk1 hz1 ht hvm
        generalize H1 = H at hP hS ⊢
        obtain ⟨u_19, hu_19, rfl, iu_19⟩ := hw
        have iu_19 : (u_19, z_j2_18) = (sp_E_6_findsGreatest z_ln_9 z_nr_15 j2 z_j3_11 z_j4_12 z_j5_13 (nI (n_6 * 256))) := Prod.ext iu_19 xr_17_0
        have hsp := hsp.trans (slet_eq iu_19)
        refine lv_if_eq (tgt := 74) hx hb eX8_latest_57 (by decide) (fun c_20 => ?_) (fun c_20 => ?_)
        · have c_20 : u_19 = 0 := (nI_eq (a := u_19) (b := 0) (Nat.lt_of_le_of_lt hu_19 (Nat.le_of_ble_eq_true rfl)) (Nat.le_of_ble_eq_true rfl)).mp c_20
          have hsp := hsp.trans (if_pos c_20)
          refine lv_iconst (v := (-1)) hx hb eX8_latest_74 (by decide) ?_
          exact W.iret (v := (-1)) hx hb hr (fun t ht hW => ⟨⟨(-1), (), rfl, (congrArg Prod.fst (hsp.symm.trans hRR)), ⟨z_j0_8, z_j2_18, z_j3_11, z_j4_12, z_j5_13, z_j7_14, z_ln_9, z_nr_15, ⟨by rw [ht]; exact hP, va_K.moved hW.alike hK, hD⟩, hz_ln_9, hz_nr_15, (congrArg Prod.snd (hsp.symm.trans hRR))⟩⟩, hS.F ht⟩) hS.2.2 eX8_latest_75
        · have c_20 : ¬ u_19 = 0 := fun z => c_20 ((nI_eq (a := u_19) (b := 0) (Nat.lt_of_le_of_lt hu_19 (Nat.le_of_ble_eq_true rfl)) (Nat.le_of_ble_eq_true rfl)).mpr z)
          have hsp := hsp.trans (if_neg c_20)
          refine lv_aload_n hx hb eX8_latest_60 rfl (lv_at hl 0 rfl) ?_
          refine va_get (D := (dC, dI)) (ci := 8) (v := .ref ti) (C := RX8) (T := TX8) (N := 16) hx hb hts hiX8 hown hK hP 0 rfl rfl 12 (by decide) v_6 (fun _ h9 => h9) rfl eX8_latest_61 ?_
          refine va_get (D := (dC, dI)) (ci := 6) (v := .ref r2) (C := RX6) (T := TX6) (N := 10) hx hb hts hiX6 hown hK hP 19 rfl rfl 2 (by decide) v_22 (fun _ h9 => h9) rfl eX8_latest_64 ?_
          refine lv_iload_n hx hb eX8_latest_67 rfl (lv_at hl 2 rfl) ?_
          refine lv_iconst (v := 1) hx hb eX8_latest_68 (by decide) ?_
          refine lv_iadd hx hb eX8_latest_69 ?_
          refine lv_topi (fun y_21 ey_21 => ?_)
          obtain rfl : y_21 = (nI (n_3 + 1)) := ey_21.trans (nI_add n_3 1)
          refine va_iald hx hb hK hP 21 17 rfl rfl (vp_in_nI (n := (n_3 + 1)) (by omega) (Nat.le_of_ble_eq_true rfl)) eX8_latest_70 ?_
          refine lv_topi (fun y_22 ey_22 => ?_)
          have ey_22 : y_22 = z_j2_18 (n_3 + 1) := ey_22.trans (congrArg z_j2_18 (nI_clamp (n := (n_3 + 1)) (by omega)))
          have hsp := hsp.trans (slet_eq ey_22)
          refine lv_goto (tgt := 75) hx hb eX8_latest_71 (by decide) ?_
          exact W.iret (v := y_22) hx hb hr (fun t ht hW => ⟨⟨y_22, (), rfl, (congrArg Prod.fst (hsp.symm.trans hRR)), ⟨z_j0_8, z_j2_18, z_j3_11, z_j4_12, z_j5_13, z_j7_14, z_ln_9, z_nr_15, ⟨by rw [ht]; exact hP, va_K.moved hW.alike hK, hD⟩, hz_ln_9, hz_nr_15, (congrArg Prod.snd (hsp.symm.trans hRR))⟩⟩, hS.F ht⟩) hS.2.2 eX8_latest_75
      · have hcc_5 := c_5
        have hsp := hsp.trans (if_neg c_5)
        refine lv_iconst (v := (-1)) hx hb eX8_latest_20 (by decide) ?_
        exact W.iret (v := (-1)) hx hb hr (fun t ht hW => ⟨⟨(-1), (), rfl, (congrArg Prod.fst (hsp.symm.trans hRR)), ⟨q_j0, j2, q_j3, q_j4, j5, q_j7, ln, nr, ⟨by rw [ht]; exact hP, va_K.moved hW.alike hK, hD⟩, hln, hnr, (congrArg Prod.snd (hsp.symm.trans hRR))⟩⟩, hS.F ht⟩) hS.2.2 eX8_latest_21
  · have hsp := hsp.trans (if_neg hn)
    refine lv_if_eq (tgt := 20) hx hb eX8_latest_6 (by decide) (fun _ => ?_) (fun z => absurd z (by decide))
    refine lv_iconst (v := (-1)) hx hb eX8_latest_20 (by decide) ?_
    exact W.iret (v := (-1)) hx hb hr (fun t ht hW => ⟨⟨(-1), (), rfl, (congrArg Prod.fst (hsp.symm.trans hRR)), ⟨q_j0, j2, q_j3, q_j4, j5, q_j7, ln, nr, ⟨by rw [ht]; exact hP, va_K.moved hW.alike hK, hD⟩, hln, hnr, (congrArg Prod.snd (hsp.symm.trans hRR))⟩⟩, hS.F ht⟩) hS.2.2 eX8_latest_21
theorem eX8_spans_0 : decode cX8_spans 0 = .ok (.aload_n 0, 1) := by decide +kernel
theorem eX8_spans_1 : decode cX8_spans 1 = .ok (.iload_n 1, 1) := by decide +kernel
theorem eX8_spans_2 : decode cX8_spans 2 = .ok (.invokevirtual 228, 3) := by decide +kernel
theorem eX8_spans_5 : decode cX8_spans 5 = .ok (.ifCond .ne 5, 3) := by decide +kernel
theorem eX8_spans_8 : decode cX8_spans 8 = .ok (.iconst (-1), 1) := by decide +kernel
theorem eX8_spans_9 : decode cX8_spans 9 = .ok (.ireturn, 1) := by decide +kernel
abbrev vs_E_8_spans_0 : List Cond := .code yX8_spans cX8_spans 3 (some .int) :: CM
theorem g_E_8_spans_0_E_8_isState_0 : GoodIn vs_E_8_spans_0 (wsV RX8 228 RX8 yX8_isState vs_E_8_isState_0) := cm_gV cm_537 cm_538 cm_539 cm_427 cm_530
noncomputable def sp_E_8_spans_0 : Int32 := (-1)
set_option maxHeartbeats 4000000 in
set_option maxRecDepth 100000 in
theorem c_E_8_spans_0 (l : Launch) (dC : Nat → ClassId) (dI : Nat → Nat → Nat) (sz : Nat) (xa : Nat) (xtape : Nat) (tp : Nat) (rd : Nat) (au : Nat) (xdr : Nat) (hy : Nat) (g : Nat) (tg : Nat) (sg : Nat) (rm : Nat) (ti : Nat) (py : Nat) (bu : Nat) (sm : Nat) (nc : Nat) (ne : Nat) (st0 : Int32) (q4 : Nat) (q5 : Nat) (q6 : Nat) (q7 : Nat) (q8 : Nat) (q9 : Nat) (q10 : Nat) (q11 : Nat) (q12 : Nat) (q13 : Nat) (q14 : Nat) (q15 : Nat) (q16 : Nat) (k_f4 : ClassId) (f4 : Nat → Int32) (k_f5 : ClassId) (q_f5 : Nat → Nat) (k_f6 : ClassId) (q_f6 : Nat → Nat) (k_f7 : ClassId) (f7 : Nat → Int32) (k_f8 : ClassId) (q_f8 : Nat → Nat) (k_f9 : ClassId) (q_f9 : Nat → Nat) (k_f10 : ClassId) (f10 : Nat → Int32) (k_f11 : ClassId) (f11 : Nat → Int32) (k_f12 : ClassId) (f12 : Nat → Int32) (k_f13 : ClassId) (f13 : Nat → Int32) (k_f14 : ClassId) (f14 : Nat → Int32) (k_f15 : ClassId) (f15 : Nat → Int32) (k_f16 : ClassId) (f16 : Nat → Int32) (gz : Nat) (g1 : Nat) (g2 : Nat) (g3 : Nat) (g4 : Nat) (g5 : Nat) (gc : Nat) (gfull : Nat) (gx : Int32) (gway : Int32) (gav : Int32) (ggoal : Int32) (gfound : Nat) (gl : Nat) (gsz : Nat) (g16 : Nat) (g17 : Nat) (k_fs2 : ClassId) (fs2 : Nat → Int32) (k_fs3 : ClassId) (fs3 : Nat → Int32) (k_fs4 : ClassId) (fs4 : Nat → Int32) (r0 : Nat) (ln : Nat) (r2 : Nat) (r3 : Nat) (r4 : Nat) (r5 : Nat) (nr : Nat) (r7 : Nat) (r8 : Nat) (tz : Nat) (k_j0 : ClassId) (q_j0 : Nat → Nat) (k_j2 : ClassId) (j2 : Nat → Int32) (k_j3 : ClassId) (q_j3 : Nat → Nat) (k_j4 : ClassId) (q_j4 : Nat → Nat) (k_j5 : ClassId) (j5 : Nat → Int32) (k_j7 : ClassId) (q_j7 : Nat → Nat) (k_j8 : ClassId) (j8 : Nat → Int32) (tzc : Nat) (tzn : Nat) (k_ftz : ClassId) (ftz : Nat → Int32) (p0 : Int32) (p1 : Int32) (htp : tp ≤ 900) (hnc : nc ≤ 3) (hne : ne ≤ 14) (hst0 : pm1 7 st0) (hgc : gc ≤ 120) (hgfull : gfull ≤ 1) (hgfound : gfound ≤ 1) (hgl : gl ≤ 1) (hgsz : gsz ≤ 4) (hln : ln ≤ 119) (hnr : nr ≤ 1920) (htzn : tzn ≤ 5) : Met l yX8_spans vs_E_8_spans_0 ({ frames := 1, cells := 0, slots := 0, locals := 21 }) (va_Pc [.ref xa, .int p0, .int p1] (pu_B (dC, dI) (xtz__w xa xtape (nI tp) rd au xdr hy g 0 tg sg 0 rm ti py bu sm (nI nc) 0 (nI ne) st0 q4 q5 q6 q7 q8 q9 q10 q11 q12 q13 q14 q15 q16 k_f4 f4 k_f5 (bN 7 q_f5) k_f6 (bN 7 q_f6) k_f7 f7 k_f8 (bN 4 q_f8) k_f9 (bN 2 q_f9) k_f10 f10 k_f11 f11 k_f12 f12 k_f13 f13 k_f14 f14 k_f15 f15 k_f16 f16 gz g1 g2 g3 g4 g5 (nI gc) (nI gfull) gx gway gav ggoal (nI gfound) 120 (nI gl) (nI gsz) g16 g17 k_fs2 fs2 k_fs3 fs3 k_fs4 fs4 r0 (nI ln) r2 r3 r4 r5 (nI nr) r7 r8 tz k_j0 (bN 13 q_j0) k_j2 j2 k_j3 (bN 120 q_j3) k_j4 (bN 120 q_j4) k_j5 j5 k_j7 (bN 120 q_j7) k_j8 j8 tzc (nI tzn) k_ftz ftz) (xtz__t k_f4 k_f5 k_f6 k_f7 k_f8 k_f9 k_f10 k_f11 k_f12 k_f13 k_f14 k_f15 k_f16 k_fs2 k_fs3 k_fs4 k_j0 k_j2 k_j3 k_j4 k_j5 k_j7 k_j8 k_ftz) sz)) (va_Qi (fun (r : Int32) (_ : Unit) => r = sp_E_8_spans_0) (fun _ _ => True) (va_A [] sz)) 0 0 (va_A [] sz) := by
  refine Met.ofW (cc := cX8_spans) (maxL := 3) (ret := (some .int)) (by decide) rfl ?_
  intro p e s m args below meth c s₁ B hml hv
  obtain ⟨rfl, rfl, hP, hK, hD0⟩ := hv
  have hx := B.exec
  have hb := B.bytes
  have hr := B.returns
  have hts := atoms_spec (ws := vs_E_8_spans_0) B.pre
  have hown : s.vm.findClass RX8 = some m.cls := findClass_of_methodNamed B.named
  have hlocks := B.notSynchronized
  have hD := hD0
  have hA : ∀ q : Nat, s.heap.size ≤ q → va_A [] s.heap.size q := fun _ h => Or.inr h
  have hS : va_S (va_A [] s.heap.size) s.heap s.heap [] := va_S.rf
  have hl := lv_entry ([.ref xa, .int p0, .int p1]) (n := 3) (Nat.le_of_ble_eq_true rfl)
  rw [lg_entry_eq]
  generalize (lg_sl ([.ref xa, .int p0, .int p1]) ++ List.replicate (3 - (lg_sl ([.ref xa, .int p0, .int p1])).length) Slot.unset).toArray = ls at hl ⊢
  have hl : lv_has ls 3 [(0, .ref xa), (1, .int p0), (2, .int p1)] := hl
  obtain ⟨RR, hRR⟩ : ∃ x, x = sp_E_8_spans_0 := ⟨_, rfl⟩
  have hsp := hRR
  refine lv_aload_n hx hb eX8_spans_0 rfl (lv_at hl 0 rfl) ?_
  refine lv_iload_n hx hb eX8_spans_1 rfl (lv_at hl 1 rfl) ?_
  have hPc : va_P (dC, dI) vwCl (xg0__w xa xtape (nI tp) rd au xdr hy g 0 tg sg 0 rm ti py bu sm gz g1 g2 g3 g4 g5 (nI gc) (nI gfull) gx gway gav ggoal (nI gfound) 120 (nI gl) (nI gsz) g16 g17) _ := hP.sub [0, 15] rfl
  have hDc := hD.sub (ws' := (xg0__w xa xtape (nI tp) rd au xdr hy g 0 tg sg 0 rm ti py bu sm gz g1 g2 g3 g4 g5 (nI gc) (nI gfull) gx gway gav ggoal (nI gfound) 120 (nI gl) (nI gsz) g16 g17)) [0, 15] (by decide) rfl
  have hKc : va_K (dC, dI) vwCl (xg0__t ) s := hK.sub [] rfl
  refine va_calli (va_runV (As := [.int p0]) (rest := []) ⟨hx, hb, hml, hown, hts⟩ (c_E_8_isState_0 l dC dI _ xa xtape tp rd au xdr hy g tg sg 0 rm ti py bu sm gz g1 g2 g3 g4 g5 gc gfull gx gway gav ggoal gfound gl gsz g16 g17 p0 htp (Nat.le_of_ble_eq_true rfl) hgc hgfull hgfound hgl hgsz) (cwV 1 hts g_E_8_spans_0_E_8_isState_0 rfl rfl rfl (by decide +kernel) ⟨Nat.le_of_ble_eq_true rfl, Nat.le_of_ble_eq_true rfl⟩) ⟨pu_bl, va_recv hK hP (ci := 8) (q0 := 0) rfl rfl, pu_in hPc hKc hDc⟩ rfl rfl hl.1 rfl (lv_room (Nat.le_of_ble_eq_true rfl)) eX8_spans_2 ⟨Nat.le_of_ble_eq_true rfl, Nat.le_of_ble_eq_true rfl⟩) hS (fun q _ h => pu_fr hS hA q h) (pu_fr hS hA) (fun r_1 u t H1 locs ht hvm hw hB hz1 hk1 hS => ?_)
  have hP := pu_keep hP hk1
  clear hk1 hz1 ht hvm
  generalize H1 = H at hP hS ⊢
  obtain rfl : r_1 = 0 := hw
  refine lv_if_ne (tgt := 10) hx hb eX8_spans_5 (by decide) (fun z => absurd z (by decide)) (fun _ => ?_)
  refine lv_iconst (v := (-1)) hx hb eX8_spans_8 (by decide) ?_
  exact W.iret (v := (-1)) hx hb hr (fun t ht hW => ⟨⟨(-1), (), rfl, (hsp.symm.trans hRR), trivial⟩, hS.F ht⟩) hS.2.2 eX8_spans_9
theorem eX8_spans_10 : decode cX8_spans 10 = .ok (.aload_n 0, 1) := by decide +kernel
theorem eX8_spans_11 : decode cX8_spans 11 = .ok (.getfield 62, 3) := by decide +kernel
theorem eX8_spans_14 : decode cX8_spans 14 = .ok (.aload_n 0, 1) := by decide +kernel
theorem eX8_spans_15 : decode cX8_spans 15 = .ok (.getfield 42, 3) := by decide +kernel
theorem eX8_spans_18 : decode cX8_spans 18 = .ok (.iload_n 1, 1) := by decide +kernel
theorem eX8_spans_19 : decode cX8_spans 19 = .ok (.invokevirtual 323, 3) := by decide +kernel
theorem eX8_spans_22 : decode cX8_spans 22 = .ok (.aload_n 0, 1) := by decide +kernel
theorem eX8_spans_23 : decode cX8_spans 23 = .ok (.getfield 62, 3) := by decide +kernel
theorem eX8_spans_26 : decode cX8_spans 26 = .ok (.aload_n 0, 1) := by decide +kernel
theorem eX8_spans_27 : decode cX8_spans 27 = .ok (.getfield 23, 3) := by decide +kernel
theorem eX8_spans_30 : decode cX8_spans 30 = .ok (.iload_n 2, 1) := by decide +kernel
theorem eX8_spans_31 : decode cX8_spans 31 = .ok (.invokevirtual 347, 3) := by decide +kernel
theorem eX8_spans_34 : decode cX8_spans 34 = .ok (.ireturn, 1) := by decide +kernel
abbrev vs_E_8_spans : List Cond := .code yX8_spans cX8_spans 3 (some .int) :: CM
theorem g_E_8_spans_E_8_isState : GoodIn vs_E_8_spans (wsV RX8 228 RX8 yX8_isState vs_E_8_isState) := cm_gV cm_537 cm_538 cm_539 cm_427 cm_530
theorem g_E_8_spans_E_6_loadRun : GoodIn vs_E_8_spans (wsV RX8 323 RX6 yX6_loadRun vs_E_6_loadRun) := cm_gV cm_606 cm_607 cm_608 cm_383 cm_364
theorem g_E_8_spans_E_6_spanOf : GoodIn vs_E_8_spans (wsV RX8 347 RX6 yX6_spanOf vs_E_6_spanOf) := cm_gV cm_626 cm_627 cm_628 cm_383 cm_403
noncomputable def sp_E_8_spans (hs : Nat) (nc : Nat) (st0 : Nat) (f4 : Nat → Int32) (q_f5 : Nat → Nat) (q_f6 : Nat → Nat) (f7 : Nat → Int32) (q_f8 : Nat → Nat) (q_f9 : Nat → Nat) (f12 : Nat → Int32) (f13 : Nat → Int32) (gc : Nat) (fs2 : Nat → Int32) (fs3 : Nat → Int32) (fs4 : Nat → Int32) (ln : Nat) (q_j0 : Nat → Nat) (j8 : Nat → Int32) (tzn : Nat) (ftz : Nat → Int32) (p0 : Int32) (p1 : Int32) : Int32 × (Nat → Nat) × (Nat → Int32) × Nat × Nat := (if hs = 1 ∧ (0 : Int32) ≤ p0 ∧ p0 < nI gc then (slet ((p0 : Int32).toNatClampNeg) (fun n_2 => (slet (sp_E_6_loadRun q_j0 fs2 fs3 fs4 n_2) (fun (z_j0_4, z_ln_5) => (slet (sp_E_6_spanOf z_ln_5 z_j0_4 j8 nc st0 f4 q_f5 q_f6 f7 q_f8 q_f9 f12 f13 ftz p1) (fun (r_6, z_ftz_7, z_tzn_8) => (r_6, z_j0_4, z_ftz_7, z_ln_5, z_tzn_8))))))) else ((-1), q_j0, ftz, ln, tzn))
set_option maxHeartbeats 4000000 in
set_option maxRecDepth 100000 in
theorem c_E_8_spans (l : Launch) (dC : Nat → ClassId) (dI : Nat → Nat → Nat) (sz : Nat) (xa : Nat) (xtape : Nat) (tp : Nat) (rd : Nat) (au : Nat) (xdr : Nat) (hy : Nat) (g : Nat) (hs : Nat) (tg : Nat) (sg : Nat) (ss : Nat) (rm : Nat) (ti : Nat) (py : Nat) (bu : Nat) (sm : Nat) (nc : Nat) (np : Nat) (ne : Nat) (st0 : Nat) (q4 : Nat) (q5 : Nat) (q6 : Nat) (q7 : Nat) (q8 : Nat) (q9 : Nat) (q10 : Nat) (q11 : Nat) (q12 : Nat) (q13 : Nat) (q14 : Nat) (q15 : Nat) (q16 : Nat) (k_f4 : ClassId) (f4 : Nat → Int32) (k_f5 : ClassId) (q_f5 : Nat → Nat) (k_f6 : ClassId) (q_f6 : Nat → Nat) (k_f7 : ClassId) (f7 : Nat → Int32) (k_f8 : ClassId) (q_f8 : Nat → Nat) (k_f9 : ClassId) (q_f9 : Nat → Nat) (k_f10 : ClassId) (f10 : Nat → Int32) (k_f11 : ClassId) (f11 : Nat → Int32) (k_f12 : ClassId) (f12 : Nat → Int32) (k_f13 : ClassId) (f13 : Nat → Int32) (k_f14 : ClassId) (f14 : Nat → Int32) (k_f15 : ClassId) (f15 : Nat → Int32) (k_f16 : ClassId) (f16 : Nat → Int32) (gz : Nat) (g1 : Nat) (g2 : Nat) (g3 : Nat) (g4 : Nat) (g5 : Nat) (gc : Nat) (gfull : Nat) (gx : Int32) (gway : Int32) (gav : Int32) (ggoal : Int32) (gfound : Nat) (gl : Nat) (gsz : Nat) (g16 : Nat) (g17 : Nat) (k_fs2 : ClassId) (fs2 : Nat → Int32) (k_fs3 : ClassId) (fs3 : Nat → Int32) (k_fs4 : ClassId) (fs4 : Nat → Int32) (r0 : Nat) (ln : Nat) (r2 : Nat) (r3 : Nat) (r4 : Nat) (r5 : Nat) (nr : Nat) (r7 : Nat) (r8 : Nat) (tz : Nat) (k_j0 : ClassId) (q_j0 : Nat → Nat) (k_j2 : ClassId) (j2 : Nat → Int32) (k_j3 : ClassId) (q_j3 : Nat → Nat) (k_j4 : ClassId) (q_j4 : Nat → Nat) (k_j5 : ClassId) (j5 : Nat → Int32) (k_j7 : ClassId) (q_j7 : Nat → Nat) (k_j8 : ClassId) (j8 : Nat → Int32) (tzc : Nat) (tzn : Nat) (k_ftz : ClassId) (ftz : Nat → Int32) (p0 : Int32) (p1 : Int32) (htp : tp ≤ 900) (hhs : hs ≤ 1) (hss : ss ≤ 1) (hnc : nc ≤ 3) (hnp : np ≤ 8) (hne : ne ≤ 14) (hst0 : st0 ≤ 7) (hgc : gc ≤ 120) (hgfull : gfull ≤ 1) (hgfound : gfound ≤ 1) (hgl : gl ≤ 1) (hgsz : gsz ≤ 4) (hln : ln ≤ 119) (hnr : nr ≤ 1920) (htzn : tzn ≤ 5) (hq0 : gz_ok gc fs2 fs3 fs4) : Met l yX8_spans vs_E_8_spans ({ frames := 4, cells := 0, slots := 0, locals := 102 }) (va_Pc [.ref xa, .int p0, .int p1] (pu_B (dC, dI) (xtz__w xa xtape (nI tp) rd au xdr hy g (nI hs) tg sg (nI ss) rm ti py bu sm (nI nc) (nI np) (nI ne) (nI st0) q4 q5 q6 q7 q8 q9 q10 q11 q12 q13 q14 q15 q16 k_f4 f4 k_f5 (bN 7 q_f5) k_f6 (bN 7 q_f6) k_f7 f7 k_f8 (bN 4 q_f8) k_f9 (bN 2 q_f9) k_f10 f10 k_f11 f11 k_f12 f12 k_f13 f13 k_f14 f14 k_f15 f15 k_f16 f16 gz g1 g2 g3 g4 g5 (nI gc) (nI gfull) gx gway gav ggoal (nI gfound) 120 (nI gl) (nI gsz) g16 g17 k_fs2 fs2 k_fs3 fs3 k_fs4 fs4 r0 (nI ln) r2 r3 r4 r5 (nI nr) r7 r8 tz k_j0 (bN 13 q_j0) k_j2 j2 k_j3 (bN 120 q_j3) k_j4 (bN 120 q_j4) k_j5 j5 k_j7 (bN 120 q_j7) k_j8 j8 tzc (nI tzn) k_ftz ftz) (xtz__t k_f4 k_f5 k_f6 k_f7 k_f8 k_f9 k_f10 k_f11 k_f12 k_f13 k_f14 k_f15 k_f16 k_fs2 k_fs3 k_fs4 k_j0 k_j2 k_j3 k_j4 k_j5 k_j7 k_j8 k_ftz) sz)) (va_Qi (fun (r : Int32) (_ : Unit) => r = (sp_E_8_spans hs nc st0 f4 q_f5 q_f6 f7 q_f8 q_f9 f12 f13 gc fs2 fs3 fs4 ln q_j0 j8 tzn ftz p0 p1).1) (fun _ t => ∃ (z_j0 : Nat → Nat) (z_ftz : Nat → Int32) (z_ln : Nat) (z_tzn : Nat), pu_E (dC, dI) (xtz__w xa xtape (nI tp) rd au xdr hy g (nI hs) tg sg (nI ss) rm ti py bu sm (nI nc) (nI np) (nI ne) (nI st0) q4 q5 q6 q7 q8 q9 q10 q11 q12 q13 q14 q15 q16 k_f4 f4 k_f5 (bN 7 q_f5) k_f6 (bN 7 q_f6) k_f7 f7 k_f8 (bN 4 q_f8) k_f9 (bN 2 q_f9) k_f10 f10 k_f11 f11 k_f12 f12 k_f13 f13 k_f14 f14 k_f15 f15 k_f16 f16 gz g1 g2 g3 g4 g5 (nI gc) (nI gfull) gx gway gav ggoal (nI gfound) 120 (nI gl) (nI gsz) g16 g17 k_fs2 fs2 k_fs3 fs3 k_fs4 fs4 r0 (nI z_ln) r2 r3 r4 r5 (nI nr) r7 r8 tz k_j0 (bN 13 z_j0) k_j2 j2 k_j3 (bN 120 q_j3) k_j4 (bN 120 q_j4) k_j5 j5 k_j7 (bN 120 q_j7) k_j8 j8 tzc (nI z_tzn) k_ftz z_ftz) (xtz__t k_f4 k_f5 k_f6 k_f7 k_f8 k_f9 k_f10 k_f11 k_f12 k_f13 k_f14 k_f15 k_f16 k_fs2 k_fs3 k_fs4 k_j0 k_j2 k_j3 k_j4 k_j5 k_j7 k_j8 k_ftz) (va_A ((xtz__w xa xtape (nI tp) rd au xdr hy g (nI hs) tg sg (nI ss) rm ti py bu sm (nI nc) (nI np) (nI ne) (nI st0) q4 q5 q6 q7 q8 q9 q10 q11 q12 q13 q14 q15 q16 k_f4 f4 k_f5 (bN 7 q_f5) k_f6 (bN 7 q_f6) k_f7 f7 k_f8 (bN 4 q_f8) k_f9 (bN 2 q_f9) k_f10 f10 k_f11 f11 k_f12 f12 k_f13 f13 k_f14 f14 k_f15 f15 k_f16 f16 gz g1 g2 g3 g4 g5 (nI gc) (nI gfull) gx gway gav ggoal (nI gfound) 120 (nI gl) (nI gsz) g16 g17 k_fs2 fs2 k_fs3 fs3 k_fs4 fs4 r0 (nI ln) r2 r3 r4 r5 (nI nr) r7 r8 tz k_j0 (bN 13 q_j0) k_j2 j2 k_j3 (bN 120 q_j3) k_j4 (bN 120 q_j4) k_j5 j5 k_j7 (bN 120 q_j7) k_j8 j8 tzc (nI tzn) k_ftz ftz)) sz) t ∧ (z_ln ≤ 119) ∧ (z_tzn ≤ 5) ∧ ((z_j0, z_ftz, z_ln, z_tzn) = (sp_E_8_spans hs nc st0 f4 q_f5 q_f6 f7 q_f8 q_f9 f12 f13 gc fs2 fs3 fs4 ln q_j0 j8 tzn ftz p0 p1).2)) (va_A ((xtz__w xa xtape (nI tp) rd au xdr hy g (nI hs) tg sg (nI ss) rm ti py bu sm (nI nc) (nI np) (nI ne) (nI st0) q4 q5 q6 q7 q8 q9 q10 q11 q12 q13 q14 q15 q16 k_f4 f4 k_f5 (bN 7 q_f5) k_f6 (bN 7 q_f6) k_f7 f7 k_f8 (bN 4 q_f8) k_f9 (bN 2 q_f9) k_f10 f10 k_f11 f11 k_f12 f12 k_f13 f13 k_f14 f14 k_f15 f15 k_f16 f16 gz g1 g2 g3 g4 g5 (nI gc) (nI gfull) gx gway gav ggoal (nI gfound) 120 (nI gl) (nI gsz) g16 g17 k_fs2 fs2 k_fs3 fs3 k_fs4 fs4 r0 (nI ln) r2 r3 r4 r5 (nI nr) r7 r8 tz k_j0 (bN 13 q_j0) k_j2 j2 k_j3 (bN 120 q_j3) k_j4 (bN 120 q_j4) k_j5 j5 k_j7 (bN 120 q_j7) k_j8 j8 tzc (nI tzn) k_ftz ftz)) sz)) 0 0 (va_A ((xtz__w xa xtape (nI tp) rd au xdr hy g (nI hs) tg sg (nI ss) rm ti py bu sm (nI nc) (nI np) (nI ne) (nI st0) q4 q5 q6 q7 q8 q9 q10 q11 q12 q13 q14 q15 q16 k_f4 f4 k_f5 (bN 7 q_f5) k_f6 (bN 7 q_f6) k_f7 f7 k_f8 (bN 4 q_f8) k_f9 (bN 2 q_f9) k_f10 f10 k_f11 f11 k_f12 f12 k_f13 f13 k_f14 f14 k_f15 f15 k_f16 f16 gz g1 g2 g3 g4 g5 (nI gc) (nI gfull) gx gway gav ggoal (nI gfound) 120 (nI gl) (nI gsz) g16 g17 k_fs2 fs2 k_fs3 fs3 k_fs4 fs4 r0 (nI ln) r2 r3 r4 r5 (nI nr) r7 r8 tz k_j0 (bN 13 q_j0) k_j2 j2 k_j3 (bN 120 q_j3) k_j4 (bN 120 q_j4) k_j5 j5 k_j7 (bN 120 q_j7) k_j8 j8 tzc (nI tzn) k_ftz ftz)) sz) := by
  refine Met.ofW (cc := cX8_spans) (maxL := 3) (ret := (some .int)) (by decide) rfl ?_
  intro p e s m args below meth c s₁ B hml hv
  obtain ⟨rfl, rfl, hP, hK, hD0⟩ := hv
  have hx := B.exec
  have hb := B.bytes
  have hr := B.returns
  have hts := atoms_spec (ws := vs_E_8_spans) B.pre
  have v_6 := hts (.fieldLink RX8 62 "ClockReach" "timing" "LClockReach$Timing;") (List.mem_cons_of_mem _ cm_601)
  have v_7 := hts (.fieldLink RX8 42 "ClockReach" "shown" "LClockReach$Graph;") (List.mem_cons_of_mem _ cm_456)
  have v_13 := hts (.fieldLink RX8 23 "ClockReach" "model" "LClockReach$Automaton;") (List.mem_cons_of_mem _ cm_434)
  have hown : s.vm.findClass RX8 = some m.cls := findClass_of_methodNamed B.named
  have hlocks := B.notSynchronized
  have hiX8 : ∀ w ∈ wsX80, w ∈ vs_E_8_spans := fun _ h => List.mem_cons_of_mem _ (cm_X8 h)
  have hD := hD0.self (sz := s.heap.size)
  generalize hAe : va_A ((xtz__w xa xtape (nI tp) rd au xdr hy g (nI hs) tg sg (nI ss) rm ti py bu sm (nI nc) (nI np) (nI ne) (nI st0) q4 q5 q6 q7 q8 q9 q10 q11 q12 q13 q14 q15 q16 k_f4 f4 k_f5 (bN 7 q_f5) k_f6 (bN 7 q_f6) k_f7 f7 k_f8 (bN 4 q_f8) k_f9 (bN 2 q_f9) k_f10 f10 k_f11 f11 k_f12 f12 k_f13 f13 k_f14 f14 k_f15 f15 k_f16 f16 gz g1 g2 g3 g4 g5 (nI gc) (nI gfull) gx gway gav ggoal (nI gfound) 120 (nI gl) (nI gsz) g16 g17 k_fs2 fs2 k_fs3 fs3 k_fs4 fs4 r0 (nI ln) r2 r3 r4 r5 (nI nr) r7 r8 tz k_j0 (bN 13 q_j0) k_j2 j2 k_j3 (bN 120 q_j3) k_j4 (bN 120 q_j4) k_j5 j5 k_j7 (bN 120 q_j7) k_j8 j8 tzc (nI tzn) k_ftz ftz)) s.heap.size = A at hD ⊢
  have hA : ∀ q : Nat, s.heap.size ≤ q → A q := fun q h => by rw [← hAe]; exact Or.inr h
  have hS : va_S A s.heap s.heap [] := va_S.rf
  have hl := lv_entry ([.ref xa, .int p0, .int p1]) (n := 3) (Nat.le_of_ble_eq_true rfl)
  rw [lg_entry_eq]
  generalize (lg_sl ([.ref xa, .int p0, .int p1]) ++ List.replicate (3 - (lg_sl ([.ref xa, .int p0, .int p1])).length) Slot.unset).toArray = ls at hl ⊢
  have hl : lv_has ls 3 [(0, .ref xa), (1, .int p0), (2, .int p1)] := hl
  obtain ⟨RR, hRR⟩ : ∃ x, x = (sp_E_8_spans hs nc st0 f4 q_f5 q_f6 f7 q_f8 q_f9 f12 f13 gc fs2 fs3 fs4 ln q_j0 j8 tzn ftz p0 p1) := ⟨_, rfl⟩
  have hsp := hRR
  refine lv_aload_n hx hb eX8_spans_0 rfl (lv_at hl 0 rfl) ?_
  refine lv_iload_n hx hb eX8_spans_1 rfl (lv_at hl 1 rfl) ?_
  have hPc : va_P (dC, dI) vwCl (xg0__w xa xtape (nI tp) rd au xdr hy g (nI hs) tg sg (nI ss) rm ti py bu sm gz g1 g2 g3 g4 g5 (nI gc) (nI gfull) gx gway gav ggoal (nI gfound) 120 (nI gl) (nI gsz) g16 g17) _ := hP.sub [0, 15] rfl
  have hDc := hD.sub (ws' := (xg0__w xa xtape (nI tp) rd au xdr hy g (nI hs) tg sg (nI ss) rm ti py bu sm gz g1 g2 g3 g4 g5 (nI gc) (nI gfull) gx gway gav ggoal (nI gfound) 120 (nI gl) (nI gsz) g16 g17)) [0, 15] (by decide) rfl
  have hKc : va_K (dC, dI) vwCl (xg0__t ) s := hK.sub [] rfl
  refine va_calli (va_runV (As := [.int p0]) (rest := []) ⟨hx, hb, hml, hown, hts⟩ (c_E_8_isState l dC dI _ xa xtape tp rd au xdr hy g hs tg sg ss rm ti py bu sm gz g1 g2 g3 g4 g5 gc gfull gx gway gav ggoal gfound gl gsz g16 g17 p0 htp hhs hss hgc hgfull hgfound hgl hgsz) (cwV 1 hts g_E_8_spans_E_8_isState rfl rfl rfl (by decide +kernel) ⟨Nat.le_of_ble_eq_true rfl, Nat.le_of_ble_eq_true rfl⟩) ⟨pu_bl, va_recv hK hP (ci := 8) (q0 := 0) rfl rfl, pu_in hPc hKc hDc⟩ rfl rfl hl.1 rfl (lv_room (Nat.le_of_ble_eq_true rfl)) eX8_spans_2 ⟨Nat.le_of_ble_eq_true rfl, Nat.le_of_ble_eq_true rfl⟩) hS (fun q _ h => pu_fr hS hA q h) (pu_fr hS hA) (fun r_1 u t H1 locs ht hvm hw hB hz1 hk1 hS => ?_)
  have hP := pu_keep hP hk1
  clear hk1 hz1 ht hvm
  generalize H1 = H at hP hS ⊢
  rcases hw with ⟨rfl, hw⟩ | ⟨rfl, hn⟩
  · obtain ⟨hs1, n_2, hn_2, rfl⟩ := hw
    have hsp := hsp.trans (if_pos ⟨hs1, in_q hn_2 (by omega)⟩)
    have hsp := hsp.trans (slet_eq (nI_cl (n := n_2) (by omega)))
    refine lv_if_ne (tgt := 10) hx hb eX8_spans_5 (by decide) (fun _ => ?_) (fun z => absurd z (by decide))
    refine lv_aload_n hx hb eX8_spans_10 rfl (lv_at hl 0 rfl) ?_
    refine va_get (D := (dC, dI)) (ci := 8) (v := .ref ti) (C := RX8) (T := TX8) (N := 16) hx hb hts hiX8 hown hK hP 0 rfl rfl 12 (by decide) v_6 (fun _ h9 => h9) rfl eX8_spans_11 ?_
    refine lv_aload_n hx hb eX8_spans_14 rfl (lv_at hl 0 rfl) ?_
    refine va_get (D := (dC, dI)) (ci := 8) (v := .ref g) (C := RX8) (T := TX8) (N := 16) hx hb hts hiX8 hown hK hP 0 rfl rfl 6 (by decide) v_7 (fun _ h9 => h9) rfl eX8_spans_15 ?_
    refine lv_iload_n hx hb eX8_spans_18 rfl (lv_at hl 1 rfl) ?_
    have hPc : va_P (dC, dI) vwCl (tg__w ti r0 (nI ln) r2 r3 r4 r5 (nI nr) r7 r8 tz k_j0 (bN 13 q_j0) k_j2 j2 k_j3 (bN 120 q_j3) k_j4 (bN 120 q_j4) k_j5 j5 k_j7 (bN 120 q_j7) k_j8 j8 g gz g1 g2 g3 g4 g5 (nI gc) (nI gfull) gx gway gav ggoal (nI gfound) 120 (nI gl) (nI gsz) g16 g17 k_fs2 fs2 k_fs3 fs3 k_fs4 fs4) _ := hP.sub [19, 20, 21, 22, 23, 24, 25, 26, 15, 16, 17, 18] rfl
    have hDc := hD.sub (ws' := (tg__w ti r0 (nI ln) r2 r3 r4 r5 (nI nr) r7 r8 tz k_j0 (bN 13 q_j0) k_j2 j2 k_j3 (bN 120 q_j3) k_j4 (bN 120 q_j4) k_j5 j5 k_j7 (bN 120 q_j7) k_j8 j8 g gz g1 g2 g3 g4 g5 (nI gc) (nI gfull) gx gway gav ggoal (nI gfound) 120 (nI gl) (nI gsz) g16 g17 k_fs2 fs2 k_fs3 fs3 k_fs4 fs4)) [19, 20, 21, 22, 23, 24, 25, 26, 15, 16, 17, 18] (by decide) rfl
    have hKc : va_K (dC, dI) vwCl (tg__t k_j0 k_j2 k_j3 k_j4 k_j5 k_j7 k_j8 k_fs2 k_fs3 k_fs4) s := hK.sub [16, 17, 18, 19, 20, 21, 22, 13, 14, 15] rfl
    have hFc := pu_free hDc hS hA
    refine va_callv (va_runV (As := [.ref g, .int (nI n_2)]) (rest := []) ⟨hx, hb, hml, hown, hts⟩ (c_E_6_loadRun l dC dI _ ti r0 ln r2 r3 r4 r5 nr r7 r8 tz k_j0 q_j0 k_j2 j2 k_j3 q_j3 k_j4 q_j4 k_j5 j5 k_j7 q_j7 k_j8 j8 g gz g1 g2 g3 g4 g5 gc gfull gx gway gav ggoal gfound gl gsz g16 g17 k_fs2 fs2 k_fs3 fs3 k_fs4 fs4 n_2 hln hnr hgc hgfull hgfound hgl hgsz (by omega) (by first | assumption | exact gz_0) (by omega)) (cwV 2 hts g_E_8_spans_E_6_loadRun rfl rfl rfl (by decide +kernel) ⟨Nat.le_of_ble_eq_true rfl, Nat.le_of_ble_eq_true rfl⟩) ⟨pu_bl, va_recv hK hP (ci := 6) (q0 := 19) rfl rfl, pu_in hPc hKc hDc⟩ rfl rfl hl.1 rfl (lv_room (Nat.le_of_ble_eq_true rfl)) eX8_spans_19 ⟨Nat.le_of_ble_eq_true rfl, Nat.le_of_ble_eq_true rfl⟩) hS (fun q _ h => hFc q h) hFc (fun u t H1 locs ht hvm hw hB hz1 hk1 hS => ?_)
    obtain ⟨z_j0_4, z_ln_5, ⟨hP1, -, hD1⟩, hz_ln_5, xr_3_0⟩ := hB
    rw [ht] at hP1
    obtain ⟨hP, hD⟩ := pj_a (X := (xtz__w xa xtape (nI tp) rd au xdr hy g (nI hs) tg sg (nI ss) rm ti py bu sm (nI nc) (nI np) (nI ne) (nI st0) q4 q5 q6 q7 q8 q9 q10 q11 q12 q13 q14 q15 q16 k_f4 f4 k_f5 (bN 7 q_f5) k_f6 (bN 7 q_f6) k_f7 f7 k_f8 (bN 4 q_f8) k_f9 (bN 2 q_f9) k_f10 f10 k_f11 f11 k_f12 f12 k_f13 f13 k_f14 f14 k_f15 f15 k_f16 f16 gz g1 g2 g3 g4 g5 (nI gc) (nI gfull) gx gway gav ggoal (nI gfound) 120 (nI gl) (nI gsz) g16 g17 k_fs2 fs2 k_fs3 fs3 k_fs4 fs4 r0 (nI ln) r2 r3 r4 r5 (nI nr) r7 r8 tz k_j0 (bN 13 q_j0) k_j2 j2 k_j3 (bN 120 q_j3) k_j4 (bN 120 q_j4) k_j5 j5 k_j7 (bN 120 q_j7) k_j8 j8 tzc (nI tzn) k_ftz ftz)) (X' := (xtz__w xa xtape (nI tp) rd au xdr hy g (nI hs) tg sg (nI ss) rm ti py bu sm (nI nc) (nI np) (nI ne) (nI st0) q4 q5 q6 q7 q8 q9 q10 q11 q12 q13 q14 q15 q16 k_f4 f4 k_f5 (bN 7 q_f5) k_f6 (bN 7 q_f6) k_f7 f7 k_f8 (bN 4 q_f8) k_f9 (bN 2 q_f9) k_f10 f10 k_f11 f11 k_f12 f12 k_f13 f13 k_f14 f14 k_f15 f15 k_f16 f16 gz g1 g2 g3 g4 g5 (nI gc) (nI gfull) gx gway gav ggoal (nI gfound) 120 (nI gl) (nI gsz) g16 g17 k_fs2 fs2 k_fs3 fs3 k_fs4 fs4 r0 (nI z_ln_5) r2 r3 r4 r5 (nI nr) r7 r8 tz k_j0 (bN 13 z_j0_4) k_j2 j2 k_j3 (bN 120 q_j3) k_j4 (bN 120 q_j4) k_j5 j5 k_j7 (bN 120 q_j7) k_j8 j8 tzc (nI tzn) k_ftz ftz)) (wc := (tg__w ti r0 (nI ln) r2 r3 r4 r5 (nI nr) r7 r8 tz k_j0 (bN 13 q_j0) k_j2 j2 k_j3 (bN 120 q_j3) k_j4 (bN 120 q_j4) k_j5 j5 k_j7 (bN 120 q_j7) k_j8 j8 g gz g1 g2 g3 g4 g5 (nI gc) (nI gfull) gx gway gav ggoal (nI gfound) 120 (nI gl) (nI gsz) g16 g17 k_fs2 fs2 k_fs3 fs3 k_fs4 fs4)) (w1 := (tg__w ti r0 (nI z_ln_5) r2 r3 r4 r5 (nI nr) r7 r8 tz k_j0 (bN 13 z_j0_4) k_j2 j2 k_j3 (bN 120 q_j3) k_j4 (bN 120 q_j4) k_j5 j5 k_j7 (bN 120 q_j7) k_j8 j8 g gz g1 g2 g3 g4 g5 (nI gc) (nI gfull) gx gway gav ggoal (nI gfound) 120 (nI gl) (nI gsz) g16 g17 k_fs2 fs2 k_fs3 fs3 k_fs4 fs4)) hP hD [19, 20, 21, 22, 23, 24, 25, 26, 15, 16, 17, 18] [12, 13, 14, 15, 16, 17, 18, 19, 20, 21, 22, 23, 24, 25, 26, 8, 9, 10, 11, 0, 1, 2, 3, 4, 5, 6, 7, 39, 40] 12 rfl hk1 hP1 rfl rfl rfl (by decide)
    clear hP1 hD1 hFc hPc hDc hKc
    clear hk1 hz1 ht hvm
    generalize H1 = H at hP hS ⊢
    have hsp := hsp.trans (slet_eq xr_3_0)
    refine lv_aload_n hx hb eX8_spans_22 rfl (lv_at hl 0 rfl) ?_
    refine va_get (D := (dC, dI)) (ci := 8) (v := .ref ti) (C := RX8) (T := TX8) (N := 16) hx hb hts hiX8 hown hK hP 0 rfl rfl 12 (by decide) v_6 (fun _ h9 => h9) rfl eX8_spans_23 ?_
    refine lv_aload_n hx hb eX8_spans_26 rfl (lv_at hl 0 rfl) ?_
    refine va_get (D := (dC, dI)) (ci := 8) (v := .ref au) (C := RX8) (T := TX8) (N := 16) hx hb hts hiX8 hown hK hP 0 rfl rfl 3 (by decide) v_13 (fun _ h9 => h9) rfl eX8_spans_27 ?_
    refine lv_iload_n hx hb eX8_spans_30 rfl (lv_at hl 2 rfl) ?_
    have hPc : va_P (dC, dI) vwCl (tz__w ti r0 (nI z_ln_5) r2 r3 r4 r5 (nI nr) r7 r8 tz k_j0 (bN 13 z_j0_4) k_j2 j2 k_j3 (bN 120 q_j3) k_j4 (bN 120 q_j4) k_j5 j5 k_j7 (bN 120 q_j7) k_j8 j8 au (nI nc) (nI np) (nI ne) (nI st0) q4 q5 q6 q7 q8 q9 q10 q11 q12 q13 q14 q15 q16 k_f4 f4 k_f5 (bN 7 q_f5) k_f6 (bN 7 q_f6) k_f7 f7 k_f8 (bN 4 q_f8) k_f9 (bN 2 q_f9) k_f10 f10 k_f11 f11 k_f12 f12 k_f13 f13 k_f14 f14 k_f15 f15 k_f16 f16 tzc (nI tzn) k_ftz ftz) _ := hP.sub [19, 20, 21, 22, 23, 24, 25, 26, 1, 2, 3, 4, 5, 6, 7, 8, 9, 10, 11, 12, 13, 14, 27, 28] rfl
    have hDc := hD.sub (ws' := (tz__w ti r0 (nI z_ln_5) r2 r3 r4 r5 (nI nr) r7 r8 tz k_j0 (bN 13 z_j0_4) k_j2 j2 k_j3 (bN 120 q_j3) k_j4 (bN 120 q_j4) k_j5 j5 k_j7 (bN 120 q_j7) k_j8 j8 au (nI nc) (nI np) (nI ne) (nI st0) q4 q5 q6 q7 q8 q9 q10 q11 q12 q13 q14 q15 q16 k_f4 f4 k_f5 (bN 7 q_f5) k_f6 (bN 7 q_f6) k_f7 f7 k_f8 (bN 4 q_f8) k_f9 (bN 2 q_f9) k_f10 f10 k_f11 f11 k_f12 f12 k_f13 f13 k_f14 f14 k_f15 f15 k_f16 f16 tzc (nI tzn) k_ftz ftz)) [19, 20, 21, 22, 23, 24, 25, 26, 1, 2, 3, 4, 5, 6, 7, 8, 9, 10, 11, 12, 13, 14, 27, 28] (by decide) rfl
    have hKc : va_K (dC, dI) vwCl (tz__t k_j0 k_j2 k_j3 k_j4 k_j5 k_j7 k_j8 k_f4 k_f5 k_f6 k_f7 k_f8 k_f9 k_f10 k_f11 k_f12 k_f13 k_f14 k_f15 k_f16 k_ftz) s := hK.sub [16, 17, 18, 19, 20, 21, 22, 0, 1, 2, 3, 4, 5, 6, 7, 8, 9, 10, 11, 12, 23] rfl
    have hFc := pu_free hDc hS hA
    refine va_calli (va_runV (As := [.ref au, .int p1]) (rest := []) ⟨hx, hb, hml, hown, hts⟩ (c_E_6_spanOf l dC dI _ ti r0 z_ln_5 r2 r3 r4 r5 nr r7 r8 tz k_j0 z_j0_4 k_j2 j2 k_j3 q_j3 k_j4 q_j4 k_j5 j5 k_j7 q_j7 k_j8 j8 au nc np ne st0 q4 q5 q6 q7 q8 q9 q10 q11 q12 q13 q14 q15 q16 k_f4 f4 k_f5 q_f5 k_f6 q_f6 k_f7 f7 k_f8 q_f8 k_f9 q_f9 k_f10 f10 k_f11 f11 k_f12 f12 k_f13 f13 k_f14 f14 k_f15 f15 k_f16 f16 tzc tzn k_ftz ftz p1 hz_ln_5 hnr hnc hnp hne hst0 htzn) (cwV 2 hts g_E_8_spans_E_6_spanOf rfl rfl rfl (by decide +kernel) ⟨Nat.le_of_ble_eq_true rfl, Nat.le_of_ble_eq_true rfl⟩) ⟨pu_bl, va_recv hK hP (ci := 6) (q0 := 19) rfl rfl, pu_in hPc hKc hDc⟩ rfl rfl hl.1 rfl (lv_room (Nat.le_of_ble_eq_true rfl)) eX8_spans_31 ⟨Nat.le_of_ble_eq_true rfl, Nat.le_of_ble_eq_true rfl⟩) hS (fun q _ h => hFc q h) hFc (fun r_6 u t H1 locs ht hvm hw hB hz1 hk1 hS => ?_)
    obtain ⟨z_ftz_7, z_tzn_8, ⟨hP1, -, hD1⟩, hz_tzn_8, xr_6_0⟩ := hB
    rw [ht] at hP1
    obtain ⟨hP, hD⟩ := pj_a (X := (xtz__w xa xtape (nI tp) rd au xdr hy g (nI hs) tg sg (nI ss) rm ti py bu sm (nI nc) (nI np) (nI ne) (nI st0) q4 q5 q6 q7 q8 q9 q10 q11 q12 q13 q14 q15 q16 k_f4 f4 k_f5 (bN 7 q_f5) k_f6 (bN 7 q_f6) k_f7 f7 k_f8 (bN 4 q_f8) k_f9 (bN 2 q_f9) k_f10 f10 k_f11 f11 k_f12 f12 k_f13 f13 k_f14 f14 k_f15 f15 k_f16 f16 gz g1 g2 g3 g4 g5 (nI gc) (nI gfull) gx gway gav ggoal (nI gfound) 120 (nI gl) (nI gsz) g16 g17 k_fs2 fs2 k_fs3 fs3 k_fs4 fs4 r0 (nI z_ln_5) r2 r3 r4 r5 (nI nr) r7 r8 tz k_j0 (bN 13 z_j0_4) k_j2 j2 k_j3 (bN 120 q_j3) k_j4 (bN 120 q_j4) k_j5 j5 k_j7 (bN 120 q_j7) k_j8 j8 tzc (nI tzn) k_ftz ftz)) (X' := (xtz__w xa xtape (nI tp) rd au xdr hy g (nI hs) tg sg (nI ss) rm ti py bu sm (nI nc) (nI np) (nI ne) (nI st0) q4 q5 q6 q7 q8 q9 q10 q11 q12 q13 q14 q15 q16 k_f4 f4 k_f5 (bN 7 q_f5) k_f6 (bN 7 q_f6) k_f7 f7 k_f8 (bN 4 q_f8) k_f9 (bN 2 q_f9) k_f10 f10 k_f11 f11 k_f12 f12 k_f13 f13 k_f14 f14 k_f15 f15 k_f16 f16 gz g1 g2 g3 g4 g5 (nI gc) (nI gfull) gx gway gav ggoal (nI gfound) 120 (nI gl) (nI gsz) g16 g17 k_fs2 fs2 k_fs3 fs3 k_fs4 fs4 r0 (nI z_ln_5) r2 r3 r4 r5 (nI nr) r7 r8 tz k_j0 (bN 13 z_j0_4) k_j2 j2 k_j3 (bN 120 q_j3) k_j4 (bN 120 q_j4) k_j5 j5 k_j7 (bN 120 q_j7) k_j8 j8 tzc (nI z_tzn_8) k_ftz z_ftz_7)) (wc := (tz__w ti r0 (nI z_ln_5) r2 r3 r4 r5 (nI nr) r7 r8 tz k_j0 (bN 13 z_j0_4) k_j2 j2 k_j3 (bN 120 q_j3) k_j4 (bN 120 q_j4) k_j5 j5 k_j7 (bN 120 q_j7) k_j8 j8 au (nI nc) (nI np) (nI ne) (nI st0) q4 q5 q6 q7 q8 q9 q10 q11 q12 q13 q14 q15 q16 k_f4 f4 k_f5 (bN 7 q_f5) k_f6 (bN 7 q_f6) k_f7 f7 k_f8 (bN 4 q_f8) k_f9 (bN 2 q_f9) k_f10 f10 k_f11 f11 k_f12 f12 k_f13 f13 k_f14 f14 k_f15 f15 k_f16 f16 tzc (nI tzn) k_ftz ftz)) (w1 := (tz__w ti r0 (nI z_ln_5) r2 r3 r4 r5 (nI nr) r7 r8 tz k_j0 (bN 13 z_j0_4) k_j2 j2 k_j3 (bN 120 q_j3) k_j4 (bN 120 q_j4) k_j5 j5 k_j7 (bN 120 q_j7) k_j8 j8 au (nI nc) (nI np) (nI ne) (nI st0) q4 q5 q6 q7 q8 q9 q10 q11 q12 q13 q14 q15 q16 k_f4 f4 k_f5 (bN 7 q_f5) k_f6 (bN 7 q_f6) k_f7 f7 k_f8 (bN 4 q_f8) k_f9 (bN 2 q_f9) k_f10 f10 k_f11 f11 k_f12 f12 k_f13 f13 k_f14 f14 k_f15 f15 k_f16 f16 tzc (nI z_tzn_8) k_ftz z_ftz_7)) hP hD [19, 20, 21, 22, 23, 24, 25, 26, 1, 2, 3, 4, 5, 6, 7, 8, 9, 10, 11, 12, 13, 14, 27, 28] [24, 8, 9, 10, 11, 12, 13, 14, 15, 16, 17, 18, 19, 20, 21, 39, 40, 41, 42, 0, 1, 2, 3, 4, 5, 6, 7, 22, 23] 24 rfl hk1 hP1 rfl rfl rfl (by decide)
    clear hP1 hD1 hFc hPc hDc hKc
    clear hk1 hz1 ht hvm
    generalize H1 = H at hP hS ⊢
    have ir_6 := hw
    have ir_6 : (r_6, z_ftz_7, z_tzn_8) = (sp_E_6_spanOf z_ln_5 z_j0_4 j8 nc st0 f4 q_f5 q_f6 f7 q_f8 q_f9 f12 f13 ftz p1) := Prod.ext ir_6 xr_6_0
    have hsp := hsp.trans (slet_eq ir_6)
    exact W.iret (v := r_6) hx hb hr (fun t ht hW => ⟨⟨r_6, (), rfl, (congrArg Prod.fst (hsp.symm.trans hRR)), ⟨z_j0_4, z_ftz_7, z_ln_5, z_tzn_8, ⟨by rw [ht]; exact hP, va_K.moved hW.alike hK, hD⟩, hz_ln_5, hz_tzn_8, (congrArg Prod.snd (hsp.symm.trans hRR))⟩⟩, hS.F ht⟩) hS.2.2 eX8_spans_34
  · have hsp := hsp.trans (if_neg hn)
    refine lv_if_ne (tgt := 10) hx hb eX8_spans_5 (by decide) (fun z => absurd z (by decide)) (fun _ => ?_)
    refine lv_iconst (v := (-1)) hx hb eX8_spans_8 (by decide) ?_
    exact W.iret (v := (-1)) hx hb hr (fun t ht hW => ⟨⟨(-1), (), rfl, (congrArg Prod.fst (hsp.symm.trans hRR)), ⟨q_j0, ftz, ln, tzn, ⟨by rw [ht]; exact hP, va_K.moved hW.alike hK, hD⟩, hln, htzn, (congrArg Prod.snd (hsp.symm.trans hRR))⟩⟩, hS.F ht⟩) hS.2.2 eX8_spans_9
theorem eX8_tells_0 : decode cX8_tells 0 = .ok (.aload_n 0, 1) := by decide +kernel
theorem eX8_tells_1 : decode cX8_tells 1 = .ok (.getfield 23, 3) := by decide +kernel
theorem eX8_tells_4 : decode cX8_tells 4 = .ok (.getfield 97, 3) := by decide +kernel
theorem eX8_tells_7 : decode cX8_tells 7 = .ok (.ifCond .ne 5, 3) := by decide +kernel
theorem eX8_tells_10 : decode cX8_tells 10 = .ok (.iconst (-1), 1) := by decide +kernel
theorem eX8_tells_11 : decode cX8_tells 11 = .ok (.ireturn, 1) := by decide +kernel
abbrev vs_E_8_tells_0 : List Cond := .code yX8_tells cX8_tells 10 (some .int) :: CM
noncomputable def sp_E_8_tells_0 : Int32 := (-1)
set_option maxHeartbeats 4000000 in
set_option maxRecDepth 100000 in
theorem c_E_8_tells_0 (l : Launch) (dC : Nat → ClassId) (dI : Nat → Nat → Nat) (sz : Nat) (xa : Nat) (xtape : Nat) (tp : Nat) (rd : Nat) (au : Nat) (xdr : Nat) (hy : Nat) (g : Nat) (tg : Nat) (sg : Nat) (rm : Nat) (ti : Nat) (py : Nat) (bu : Nat) (sm : Nat) (nc : Nat) (ne : Nat) (st0 : Int32) (q4 : Nat) (q5 : Nat) (q6 : Nat) (q7 : Nat) (q8 : Nat) (q9 : Nat) (q10 : Nat) (q11 : Nat) (q12 : Nat) (q13 : Nat) (q14 : Nat) (q15 : Nat) (q16 : Nat) (k_f4 : ClassId) (f4 : Nat → Int32) (k_f5 : ClassId) (q_f5 : Nat → Nat) (k_f6 : ClassId) (q_f6 : Nat → Nat) (k_f7 : ClassId) (f7 : Nat → Int32) (k_f8 : ClassId) (q_f8 : Nat → Nat) (k_f9 : ClassId) (q_f9 : Nat → Nat) (k_f10 : ClassId) (f10 : Nat → Int32) (k_f11 : ClassId) (f11 : Nat → Int32) (k_f12 : ClassId) (f12 : Nat → Int32) (k_f13 : ClassId) (f13 : Nat → Int32) (k_f14 : ClassId) (f14 : Nat → Int32) (k_f15 : ClassId) (f15 : Nat → Int32) (k_f16 : ClassId) (f16 : Nat → Int32) (r0 : Nat) (ln : Nat) (r2 : Nat) (r3 : Nat) (r4 : Nat) (r5 : Nat) (nr : Nat) (r7 : Nat) (r8 : Nat) (tz : Nat) (k_j0 : ClassId) (q_j0 : Nat → Nat) (k_j2 : ClassId) (j2 : Nat → Int32) (k_j3 : ClassId) (q_j3 : Nat → Nat) (k_j4 : ClassId) (q_j4 : Nat → Nat) (k_j5 : ClassId) (j5 : Nat → Int32) (k_j7 : ClassId) (q_j7 : Nat → Nat) (k_j8 : ClassId) (j8 : Nat → Int32) (tzc : Nat) (tzn : Nat) (k_ftz : ClassId) (ftz : Nat → Int32) (p0 : Int32) (p1 : Int32) (p2 : Int32) (p3 : Int32) (p4 : Int32) (p5 : Int32) (htp : tp ≤ 900) (hnc : nc ≤ 3) (hne : ne ≤ 14) (hst0 : pm1 7 st0) (hln : ln ≤ 119) (hnr : nr ≤ 1920) (htzn : tzn ≤ 5) : Met l yX8_tells vs_E_8_tells_0 ({ frames := 0, cells := 0, slots := 0, locals := 0 }) (va_Pc [.ref xa, .int p0, .int p1, .int p2, .int p3, .int p4, .int p5] (pu_B (dC, dI) (xtl__w xa xtape (nI tp) rd au xdr hy g 0 tg sg 0 rm ti py bu sm (nI nc) 0 (nI ne) st0 q4 q5 q6 q7 q8 q9 q10 q11 q12 q13 q14 q15 q16 k_f4 f4 k_f5 (bN 7 q_f5) k_f6 (bN 7 q_f6) k_f7 f7 k_f8 (bN 4 q_f8) k_f9 (bN 2 q_f9) k_f10 f10 k_f11 f11 k_f12 f12 k_f13 f13 k_f14 f14 k_f15 f15 k_f16 f16 r0 (nI ln) r2 r3 r4 r5 (nI nr) r7 r8 tz k_j0 (bN 13 q_j0) k_j2 j2 k_j3 (bN 120 q_j3) k_j4 (bN 120 q_j4) k_j5 j5 k_j7 (bN 120 q_j7) k_j8 j8 tzc (nI tzn) k_ftz ftz) (xtl__t k_f4 k_f5 k_f6 k_f7 k_f8 k_f9 k_f10 k_f11 k_f12 k_f13 k_f14 k_f15 k_f16 k_j0 k_j2 k_j3 k_j4 k_j5 k_j7 k_j8 k_ftz) sz)) (va_Qi (fun (r : Int32) (_ : Unit) => r = sp_E_8_tells_0) (fun _ _ => True) (va_A [] sz)) 0 0 (va_A [] sz) := by
  refine Met.ofW (cc := cX8_tells) (maxL := 10) (ret := (some .int)) (by decide) rfl ?_
  intro p e s m args below meth c s₁ B hml hv
  obtain ⟨rfl, rfl, hP, hK, hD0⟩ := hv
  have hx := B.exec
  have hb := B.bytes
  have hr := B.returns
  have hts := atoms_spec (ws := vs_E_8_tells_0) B.pre
  have v_1 := hts (.fieldLink RX8 23 "ClockReach" "model" "LClockReach$Automaton;") (List.mem_cons_of_mem _ cm_434)
  have v_2 := hts (.fieldLink RX8 97 "ClockReach$Automaton" "places" "I") (List.mem_cons_of_mem _ cm_437)
  have hown : s.vm.findClass RX8 = some m.cls := findClass_of_methodNamed B.named
  have hlocks := B.notSynchronized
  have hiX0 : ∀ w ∈ wsX00, w ∈ vs_E_8_tells_0 := fun _ h => List.mem_cons_of_mem _ (cm_X0 h)
  have hiX8 : ∀ w ∈ wsX80, w ∈ vs_E_8_tells_0 := fun _ h => List.mem_cons_of_mem _ (cm_X8 h)
  have hD := hD0
  have hA : ∀ q : Nat, s.heap.size ≤ q → va_A [] s.heap.size q := fun _ h => Or.inr h
  have hS : va_S (va_A [] s.heap.size) s.heap s.heap [] := va_S.rf
  have hl := lv_entry ([.ref xa, .int p0, .int p1, .int p2, .int p3, .int p4, .int p5]) (n := 10) (Nat.le_of_ble_eq_true rfl)
  rw [lg_entry_eq]
  generalize (lg_sl ([.ref xa, .int p0, .int p1, .int p2, .int p3, .int p4, .int p5]) ++ List.replicate (10 - (lg_sl ([.ref xa, .int p0, .int p1, .int p2, .int p3, .int p4, .int p5])).length) Slot.unset).toArray = ls at hl ⊢
  have hl : lv_has ls 10 [(0, .ref xa), (1, .int p0), (2, .int p1), (3, .int p2), (4, .int p3), (5, .int p4), (6, .int p5)] := hl
  obtain ⟨RR, hRR⟩ : ∃ x, x = sp_E_8_tells_0 := ⟨_, rfl⟩
  have hsp := hRR
  refine lv_aload_n hx hb eX8_tells_0 rfl (lv_at hl 0 rfl) ?_
  refine va_get (D := (dC, dI)) (ci := 8) (v := .ref au) (C := RX8) (T := TX8) (N := 16) hx hb hts hiX8 hown hK hP 0 rfl rfl 3 (by decide) v_1 (fun _ h9 => h9) rfl eX8_tells_1 ?_
  refine va_get (D := (dC, dI)) (ci := 0) (v := .int 0) (C := RX0) (T := TX0) (N := 17) hx hb hts hiX0 hown hK hP 1 rfl rfl 1 (by decide) v_2 (fun _ h9 => h9) rfl eX8_tells_4 ?_
  refine lv_if_ne (tgt := 12) hx hb eX8_tells_7 (by decide) (fun z => absurd z (by decide)) (fun _ => ?_)
  refine lv_iconst (v := (-1)) hx hb eX8_tells_10 (by decide) ?_
  exact W.iret (v := (-1)) hx hb hr (fun t ht hW => ⟨⟨(-1), (), rfl, (hsp.symm.trans hRR), trivial⟩, hS.F ht⟩) hS.2.2 eX8_tells_11
theorem eX8_tells_12 : decode cX8_tells 12 = .ok (.aload_n 0, 1) := by decide +kernel
theorem eX8_tells_13 : decode cX8_tells 13 = .ok (.getfield 62, 3) := by decide +kernel
theorem eX8_tells_16 : decode cX8_tells 16 = .ok (.iconst 0, 1) := by decide +kernel
theorem eX8_tells_17 : decode cX8_tells 17 = .ok (.putfield 351, 3) := by decide +kernel
theorem eX8_tells_20 : decode cX8_tells 20 = .ok (.aload_n 0, 1) := by decide +kernel
theorem eX8_tells_21 : decode cX8_tells 21 = .ok (.getfield 23, 3) := by decide +kernel
theorem eX8_tells_24 : decode cX8_tells 24 = .ok (.getfield 122, 3) := by decide +kernel
theorem eX8_tells_27 : decode cX8_tells 27 = .ok (.istore 7, 2) := by decide +kernel
theorem eX8_tells_29 : decode cX8_tells 29 = .ok (.iconst 0, 1) := by decide +kernel
theorem eX8_tells_30 : decode cX8_tells 30 = .ok (.istore 8, 2) := by decide +kernel
theorem eX8_tells_32 : decode cX8_tells 32 = .ok (.iload 8, 2) := by decide +kernel
theorem eX8_tells_34 : decode cX8_tells 34 = .ok (.iconst 5, 1) := by decide +kernel
theorem eX8_tells_35 : decode cX8_tells 35 = .ok (.if_icmp .ge 123, 3) := by decide +kernel
theorem eX8_tells_38 : decode cX8_tells 38 = .ok (.iload 8, 2) := by decide +kernel
theorem eX8_tells_40 : decode cX8_tells 40 = .ok (.ifCond .ne 7, 3) := by decide +kernel
theorem eX8_tells_43 : decode cX8_tells 43 = .ok (.iload_n 1, 1) := by decide +kernel
theorem eX8_tells_44 : decode cX8_tells 44 = .ok (.goto 36, 3) := by decide +kernel
theorem eX8_tells_47 : decode cX8_tells 47 = .ok (.iload 8, 2) := by decide +kernel
theorem eX8_tells_49 : decode cX8_tells 49 = .ok (.iconst 1, 1) := by decide +kernel
theorem eX8_tells_50 : decode cX8_tells 50 = .ok (.if_icmp .ne 7, 3) := by decide +kernel
theorem eX8_tells_53 : decode cX8_tells 53 = .ok (.iload_n 2, 1) := by decide +kernel
theorem eX8_tells_54 : decode cX8_tells 54 = .ok (.goto 26, 3) := by decide +kernel
theorem eX8_tells_57 : decode cX8_tells 57 = .ok (.iload 8, 2) := by decide +kernel
theorem eX8_tells_59 : decode cX8_tells 59 = .ok (.iconst 2, 1) := by decide +kernel
theorem eX8_tells_60 : decode cX8_tells 60 = .ok (.if_icmp .ne 7, 3) := by decide +kernel
theorem eX8_tells_63 : decode cX8_tells 63 = .ok (.iload_n 3, 1) := by decide +kernel
theorem eX8_tells_64 : decode cX8_tells 64 = .ok (.goto 16, 3) := by decide +kernel
theorem eX8_tells_67 : decode cX8_tells 67 = .ok (.iload 8, 2) := by decide +kernel
theorem eX8_tells_69 : decode cX8_tells 69 = .ok (.iconst 3, 1) := by decide +kernel
theorem eX8_tells_70 : decode cX8_tells 70 = .ok (.if_icmp .ne 8, 3) := by decide +kernel
theorem eX8_tells_73 : decode cX8_tells 73 = .ok (.iload 4, 2) := by decide +kernel
theorem eX8_tells_75 : decode cX8_tells 75 = .ok (.goto 5, 3) := by decide +kernel
theorem eX8_tells_78 : decode cX8_tells 78 = .ok (.iload 5, 2) := by decide +kernel
theorem eX8_tells_80 : decode cX8_tells 80 = .ok (.istore 9, 2) := by decide +kernel
theorem eX8_tells_82 : decode cX8_tells 82 = .ok (.iload 9, 2) := by decide +kernel
theorem eX8_tells_84 : decode cX8_tells 84 = .ok (.iconst (-1), 1) := by decide +kernel
theorem eX8_tells_85 : decode cX8_tells 85 = .ok (.if_icmp .ne 6, 3) := by decide +kernel
theorem eX8_tells_88 : decode cX8_tells 88 = .ok (.goto 70, 3) := by decide +kernel
theorem eX8_tells_91 : decode cX8_tells 91 = .ok (.aload_n 0, 1) := by decide +kernel
theorem eX8_tells_92 : decode cX8_tells 92 = .ok (.iload 9, 2) := by decide +kernel
theorem eX8_tells_94 : decode cX8_tells 94 = .ok (.invokevirtual 165, 3) := by decide +kernel
theorem eX8_tells_97 : decode cX8_tells 97 = .ok (.ifCond .eq 18, 3) := by decide +kernel
theorem eX8_tells_100 : decode cX8_tells 100 = .ok (.aload_n 0, 1) := by decide +kernel
theorem eX8_tells_101 : decode cX8_tells 101 = .ok (.getfield 23, 3) := by decide +kernel
theorem eX8_tells_104 : decode cX8_tells 104 = .ok (.getfield 155, 3) := by decide +kernel
theorem eX8_tells_107 : decode cX8_tells 107 = .ok (.iload 9, 2) := by decide +kernel
theorem eX8_tells_109 : decode cX8_tells 109 = .ok (.iaload, 1) := by decide +kernel
theorem eX8_tells_110 : decode cX8_tells 110 = .ok (.iload 7, 2) := by decide +kernel
theorem eX8_tells_112 : decode cX8_tells 112 = .ok (.if_icmp .eq 5, 3) := by decide +kernel
theorem eX8_tells_115 : decode cX8_tells 115 = .ok (.iconst (-1), 1) := by decide +kernel
theorem eX8_tells_116 : decode cX8_tells 116 = .ok (.ireturn, 1) := by decide +kernel
theorem eX8_tells_117 : decode cX8_tells 117 = .ok (.aload_n 0, 1) := by decide +kernel
theorem eX8_tells_118 : decode cX8_tells 118 = .ok (.getfield 62, 3) := by decide +kernel
theorem eX8_tells_121 : decode cX8_tells 121 = .ok (.getfield 327, 3) := by decide +kernel
theorem eX8_tells_124 : decode cX8_tells 124 = .ok (.iload 8, 2) := by decide +kernel
theorem eX8_tells_126 : decode cX8_tells 126 = .ok (.iload 9, 2) := by decide +kernel
theorem eX8_tells_128 : decode cX8_tells 128 = .ok (.iastore, 1) := by decide +kernel
theorem eX8_tells_129 : decode cX8_tells 129 = .ok (.aload_n 0, 1) := by decide +kernel
theorem eX8_tells_130 : decode cX8_tells 130 = .ok (.getfield 62, 3) := by decide +kernel
theorem eX8_tells_133 : decode cX8_tells 133 = .ok (.iload 8, 2) := by decide +kernel
theorem eX8_tells_135 : decode cX8_tells 135 = .ok (.iconst 1, 1) := by decide +kernel
theorem eX8_tells_136 : decode cX8_tells 136 = .ok (.iadd, 1) := by decide +kernel
theorem eX8_tells_137 : decode cX8_tells 137 = .ok (.putfield 351, 3) := by decide +kernel
theorem eX8_tells_140 : decode cX8_tells 140 = .ok (.aload_n 0, 1) := by decide +kernel
theorem eX8_tells_141 : decode cX8_tells 141 = .ok (.getfield 23, 3) := by decide +kernel
theorem eX8_tells_144 : decode cX8_tells 144 = .ok (.getfield 162, 3) := by decide +kernel
theorem eX8_tells_147 : decode cX8_tells 147 = .ok (.iload 9, 2) := by decide +kernel
theorem eX8_tells_149 : decode cX8_tells 149 = .ok (.iaload, 1) := by decide +kernel
theorem eX8_tells_150 : decode cX8_tells 150 = .ok (.istore 7, 2) := by decide +kernel
theorem eX8_tells_152 : decode cX8_tells 152 = .ok (.iinc 8 1, 3) := by decide +kernel
theorem eX8_tells_155 : decode cX8_tells 155 = .ok (.goto (-123), 3) := by decide +kernel
theorem eX8_tells_158 : decode cX8_tells 158 = .ok (.aload_n 0, 1) := by decide +kernel
theorem eX8_tells_159 : decode cX8_tells 159 = .ok (.getfield 62, 3) := by decide +kernel
theorem eX8_tells_162 : decode cX8_tells 162 = .ok (.aload_n 0, 1) := by decide +kernel
theorem eX8_tells_163 : decode cX8_tells 163 = .ok (.getfield 23, 3) := by decide +kernel
theorem eX8_tells_166 : decode cX8_tells 166 = .ok (.iload 6, 2) := by decide +kernel
theorem eX8_tells_168 : decode cX8_tells 168 = .ok (.invokevirtual 347, 3) := by decide +kernel
theorem eX8_tells_171 : decode cX8_tells 171 = .ok (.ireturn, 1) := by decide +kernel
abbrev vs_E_8_tells : List Cond := .code yX8_tells cX8_tells 10 (some .int) :: CM
theorem g_E_8_tells_E_6_spanOf : GoodIn vs_E_8_tells (wsV RX8 347 RX6 yX6_spanOf vs_E_6_spanOf) := cm_gV cm_626 cm_627 cm_628 cm_383 cm_403
theorem g_E_8_tells_E_8_isEdge : GoodIn vs_E_8_tells (wsV RX8 165 RX8 yX8_isEdge vs_E_8_isEdge) := cm_gV cm_483 cm_484 cm_485 cm_427 cm_479
noncomputable def sp_E_8_tells_L1 (nc : Nat) (ne : Nat) (st0 : Nat) (f4 : Nat → Int32) (q_f5 : Nat → Nat) (q_f6 : Nat → Nat) (f7 : Nat → Int32) (q_f8 : Nat → Nat) (q_f9 : Nat → Nat) (f12 : Nat → Int32) (f13 : Nat → Int32) (j8 : Nat → Int32) (tzn : Nat) (ftz : Nat → Int32) (p1 : Int32) (p2 : Int32) (p3 : Int32) (p4 : Int32) (p5 : Int32) : ((Nat → Nat) × Nat × Int32 × Nat × Nat) → ((Nat → Nat) × Nat × Int32 × Nat × Nat) ⊕ (Int32 × (Nat → Nat) × (Nat → Int32) × Nat × Nat) := fun (g_7, g_8, g_9, g_10, g_11) => (if 5 ≤ g_11 then (Sum.inr (slet (sp_E_6_spanOf g_8 g_7 j8 nc st0 f4 q_f5 q_f6 f7 q_f8 q_f9 f12 f13 ftz p5) (fun (r_19, z_ftz_20, z_tzn_21) => (r_19, g_7, z_ftz_20, g_8, z_tzn_21)))) else (slet (α := Int32) (if g_11 = 0 then g_9 else (if g_11 = 1 then p1 else (if g_11 = 2 then p2 else (if g_11 = 3 then p3 else p4)))) (fun g_22 => (if (g_22 : Int32) = (-1) then (Sum.inr (slet (sp_E_6_spanOf g_8 g_7 j8 nc st0 f4 q_f5 q_f6 f7 q_f8 q_f9 f12 f13 ftz p5) (fun (r_36, z_ftz_37, z_tzn_38) => (r_36, g_7, z_ftz_37, g_8, z_tzn_38)))) else (if (0 : Int32) ≤ g_22 ∧ g_22 < nI ne then (slet ((g_22 : Int32).toNatClampNeg) (fun n_28 => (slet (min (q_f5 n_28) 7) (fun u_30 => (if u_30 = g_10 then (slet (updN g_7 g_11 n_28) (fun q_32 => (slet (min (q_f6 n_28) 7) (fun u_35 => (Sum.inl (q_32, (g_11 + 1), g_9, u_35, (g_11 + 1))))))) else (Sum.inr ((-1), g_7, ftz, g_8, tzn))))))) else (Sum.inr ((-1), g_7, ftz, g_8, tzn)))))))
noncomputable def sp_E_8_tells (nc : Nat) (np : Nat) (ne : Nat) (st0 : Nat) (f4 : Nat → Int32) (q_f5 : Nat → Nat) (q_f6 : Nat → Nat) (f7 : Nat → Int32) (q_f8 : Nat → Nat) (q_f9 : Nat → Nat) (f12 : Nat → Int32) (f13 : Nat → Int32) (ln : Nat) (q_j0 : Nat → Nat) (j8 : Nat → Int32) (tzn : Nat) (ftz : Nat → Int32) (p0 : Int32) (p1 : Int32) (p2 : Int32) (p3 : Int32) (p4 : Int32) (p5 : Int32) : Int32 × (Nat → Nat) × (Nat → Int32) × Nat × Nat := (if np = 0 then ((-1), q_j0, ftz, ln, tzn) else (itrv (α := (Nat → Nat) × Nat × Int32 × Nat × Nat) (β := (Int32 × (Nat → Nat) × (Nat → Int32) × Nat × Nat)) default (sp_E_8_tells_L1 nc ne st0 f4 q_f5 q_f6 f7 q_f8 q_f9 f12 f13 j8 tzn ftz p1 p2 p3 p4 p5) (q_j0, 0, p0, st0, 0)))
set_option maxHeartbeats 4000000 in
set_option maxRecDepth 100000 in
theorem c_E_8_tells (l : Launch) (dC : Nat → ClassId) (dI : Nat → Nat → Nat) (sz : Nat) (xa : Nat) (xtape : Nat) (tp : Nat) (rd : Nat) (au : Nat) (xdr : Nat) (hy : Nat) (g : Nat) (hs : Nat) (tg : Nat) (sg : Nat) (ss : Nat) (rm : Nat) (ti : Nat) (py : Nat) (bu : Nat) (sm : Nat) (nc : Nat) (np : Nat) (ne : Nat) (st0 : Nat) (q4 : Nat) (q5 : Nat) (q6 : Nat) (q7 : Nat) (q8 : Nat) (q9 : Nat) (q10 : Nat) (q11 : Nat) (q12 : Nat) (q13 : Nat) (q14 : Nat) (q15 : Nat) (q16 : Nat) (k_f4 : ClassId) (f4 : Nat → Int32) (k_f5 : ClassId) (q_f5 : Nat → Nat) (k_f6 : ClassId) (q_f6 : Nat → Nat) (k_f7 : ClassId) (f7 : Nat → Int32) (k_f8 : ClassId) (q_f8 : Nat → Nat) (k_f9 : ClassId) (q_f9 : Nat → Nat) (k_f10 : ClassId) (f10 : Nat → Int32) (k_f11 : ClassId) (f11 : Nat → Int32) (k_f12 : ClassId) (f12 : Nat → Int32) (k_f13 : ClassId) (f13 : Nat → Int32) (k_f14 : ClassId) (f14 : Nat → Int32) (k_f15 : ClassId) (f15 : Nat → Int32) (k_f16 : ClassId) (f16 : Nat → Int32) (r0 : Nat) (ln : Nat) (r2 : Nat) (r3 : Nat) (r4 : Nat) (r5 : Nat) (nr : Nat) (r7 : Nat) (r8 : Nat) (tz : Nat) (k_j0 : ClassId) (q_j0 : Nat → Nat) (k_j2 : ClassId) (j2 : Nat → Int32) (k_j3 : ClassId) (q_j3 : Nat → Nat) (k_j4 : ClassId) (q_j4 : Nat → Nat) (k_j5 : ClassId) (j5 : Nat → Int32) (k_j7 : ClassId) (q_j7 : Nat → Nat) (k_j8 : ClassId) (j8 : Nat → Int32) (tzc : Nat) (tzn : Nat) (k_ftz : ClassId) (ftz : Nat → Int32) (p0 : Int32) (p1 : Int32) (p2 : Int32) (p3 : Int32) (p4 : Int32) (p5 : Int32) (htp : tp ≤ 900) (hhs : hs ≤ 1) (hss : ss ≤ 1) (hnc : nc ≤ 3) (hnp : np ≤ 8) (hne : ne ≤ 14) (hst0 : st0 ≤ 7) (hln : ln ≤ 119) (hnr : nr ≤ 1920) (htzn : tzn ≤ 5) : Met l yX8_tells vs_E_8_tells ({ frames := 4, cells := 0, slots := 0, locals := 102 }) (va_Pc [.ref xa, .int p0, .int p1, .int p2, .int p3, .int p4, .int p5] (pu_B (dC, dI) (xtl__w xa xtape (nI tp) rd au xdr hy g (nI hs) tg sg (nI ss) rm ti py bu sm (nI nc) (nI np) (nI ne) (nI st0) q4 q5 q6 q7 q8 q9 q10 q11 q12 q13 q14 q15 q16 k_f4 f4 k_f5 (bN 7 q_f5) k_f6 (bN 7 q_f6) k_f7 f7 k_f8 (bN 4 q_f8) k_f9 (bN 2 q_f9) k_f10 f10 k_f11 f11 k_f12 f12 k_f13 f13 k_f14 f14 k_f15 f15 k_f16 f16 r0 (nI ln) r2 r3 r4 r5 (nI nr) r7 r8 tz k_j0 (bN 13 q_j0) k_j2 j2 k_j3 (bN 120 q_j3) k_j4 (bN 120 q_j4) k_j5 j5 k_j7 (bN 120 q_j7) k_j8 j8 tzc (nI tzn) k_ftz ftz) (xtl__t k_f4 k_f5 k_f6 k_f7 k_f8 k_f9 k_f10 k_f11 k_f12 k_f13 k_f14 k_f15 k_f16 k_j0 k_j2 k_j3 k_j4 k_j5 k_j7 k_j8 k_ftz) sz)) (va_Qi (fun (r : Int32) (_ : Unit) => r = (sp_E_8_tells nc np ne st0 f4 q_f5 q_f6 f7 q_f8 q_f9 f12 f13 ln q_j0 j8 tzn ftz p0 p1 p2 p3 p4 p5).1) (fun _ t => ∃ (z_j0 : Nat → Nat) (z_ftz : Nat → Int32) (z_ln : Nat) (z_tzn : Nat), pu_E (dC, dI) (xtl__w xa xtape (nI tp) rd au xdr hy g (nI hs) tg sg (nI ss) rm ti py bu sm (nI nc) (nI np) (nI ne) (nI st0) q4 q5 q6 q7 q8 q9 q10 q11 q12 q13 q14 q15 q16 k_f4 f4 k_f5 (bN 7 q_f5) k_f6 (bN 7 q_f6) k_f7 f7 k_f8 (bN 4 q_f8) k_f9 (bN 2 q_f9) k_f10 f10 k_f11 f11 k_f12 f12 k_f13 f13 k_f14 f14 k_f15 f15 k_f16 f16 r0 (nI z_ln) r2 r3 r4 r5 (nI nr) r7 r8 tz k_j0 (bN 13 z_j0) k_j2 j2 k_j3 (bN 120 q_j3) k_j4 (bN 120 q_j4) k_j5 j5 k_j7 (bN 120 q_j7) k_j8 j8 tzc (nI z_tzn) k_ftz z_ftz) (xtl__t k_f4 k_f5 k_f6 k_f7 k_f8 k_f9 k_f10 k_f11 k_f12 k_f13 k_f14 k_f15 k_f16 k_j0 k_j2 k_j3 k_j4 k_j5 k_j7 k_j8 k_ftz) (va_A ((xtl__w xa xtape (nI tp) rd au xdr hy g (nI hs) tg sg (nI ss) rm ti py bu sm (nI nc) (nI np) (nI ne) (nI st0) q4 q5 q6 q7 q8 q9 q10 q11 q12 q13 q14 q15 q16 k_f4 f4 k_f5 (bN 7 q_f5) k_f6 (bN 7 q_f6) k_f7 f7 k_f8 (bN 4 q_f8) k_f9 (bN 2 q_f9) k_f10 f10 k_f11 f11 k_f12 f12 k_f13 f13 k_f14 f14 k_f15 f15 k_f16 f16 r0 (nI ln) r2 r3 r4 r5 (nI nr) r7 r8 tz k_j0 (bN 13 q_j0) k_j2 j2 k_j3 (bN 120 q_j3) k_j4 (bN 120 q_j4) k_j5 j5 k_j7 (bN 120 q_j7) k_j8 j8 tzc (nI tzn) k_ftz ftz)) sz) t ∧ (z_ln ≤ 119) ∧ (z_tzn ≤ 5) ∧ ((z_j0, z_ftz, z_ln, z_tzn) = (sp_E_8_tells nc np ne st0 f4 q_f5 q_f6 f7 q_f8 q_f9 f12 f13 ln q_j0 j8 tzn ftz p0 p1 p2 p3 p4 p5).2)) (va_A ((xtl__w xa xtape (nI tp) rd au xdr hy g (nI hs) tg sg (nI ss) rm ti py bu sm (nI nc) (nI np) (nI ne) (nI st0) q4 q5 q6 q7 q8 q9 q10 q11 q12 q13 q14 q15 q16 k_f4 f4 k_f5 (bN 7 q_f5) k_f6 (bN 7 q_f6) k_f7 f7 k_f8 (bN 4 q_f8) k_f9 (bN 2 q_f9) k_f10 f10 k_f11 f11 k_f12 f12 k_f13 f13 k_f14 f14 k_f15 f15 k_f16 f16 r0 (nI ln) r2 r3 r4 r5 (nI nr) r7 r8 tz k_j0 (bN 13 q_j0) k_j2 j2 k_j3 (bN 120 q_j3) k_j4 (bN 120 q_j4) k_j5 j5 k_j7 (bN 120 q_j7) k_j8 j8 tzc (nI tzn) k_ftz ftz)) sz)) 0 0 (va_A ((xtl__w xa xtape (nI tp) rd au xdr hy g (nI hs) tg sg (nI ss) rm ti py bu sm (nI nc) (nI np) (nI ne) (nI st0) q4 q5 q6 q7 q8 q9 q10 q11 q12 q13 q14 q15 q16 k_f4 f4 k_f5 (bN 7 q_f5) k_f6 (bN 7 q_f6) k_f7 f7 k_f8 (bN 4 q_f8) k_f9 (bN 2 q_f9) k_f10 f10 k_f11 f11 k_f12 f12 k_f13 f13 k_f14 f14 k_f15 f15 k_f16 f16 r0 (nI ln) r2 r3 r4 r5 (nI nr) r7 r8 tz k_j0 (bN 13 q_j0) k_j2 j2 k_j3 (bN 120 q_j3) k_j4 (bN 120 q_j4) k_j5 j5 k_j7 (bN 120 q_j7) k_j8 j8 tzc (nI tzn) k_ftz ftz)) sz) := by
  refine Met.ofW (cc := cX8_tells) (maxL := 10) (ret := (some .int)) (by decide) rfl ?_
  intro p e s m args below meth c s₁ B hml hv
  obtain ⟨rfl, rfl, hP, hK, hD0⟩ := hv
  have hx := B.exec
  have hb := B.bytes
  have hr := B.returns
  have hts := atoms_spec (ws := vs_E_8_tells) B.pre
  have v_1 := hts (.fieldLink RX8 23 "ClockReach" "model" "LClockReach$Automaton;") (List.mem_cons_of_mem _ cm_434)
  have v_2 := hts (.fieldLink RX8 97 "ClockReach$Automaton" "places" "I") (List.mem_cons_of_mem _ cm_437)
  have v_3 := hts (.fieldLink RX8 62 "ClockReach" "timing" "LClockReach$Timing;") (List.mem_cons_of_mem _ cm_601)
  have v_4 := hts (.fieldLink RX8 351 "ClockReach$Timing" "length" "I") (List.mem_cons_of_mem _ cm_630)
  have v_5 := hts (.fieldLink RX8 122 "ClockReach$Automaton" "start" "I") (List.mem_cons_of_mem _ cm_455)
  have v_11 := hts (.fieldLink RX8 155 "ClockReach$Automaton" "sources" "[I") (List.mem_cons_of_mem _ cm_469)
  have v_12 := hts (.fieldLink RX8 327 "ClockReach$Timing" "path" "[I") (List.mem_cons_of_mem _ cm_602)
  have v_13 := hts (.fieldLink RX8 162 "ClockReach$Automaton" "targets" "[I") (List.mem_cons_of_mem _ cm_470)
  have hown : s.vm.findClass RX8 = some m.cls := findClass_of_methodNamed B.named
  have hlocks := B.notSynchronized
  have hiX0 : ∀ w ∈ wsX00, w ∈ vs_E_8_tells := fun _ h => List.mem_cons_of_mem _ (cm_X0 h)
  have hiX6 : ∀ w ∈ wsX60, w ∈ vs_E_8_tells := fun _ h => List.mem_cons_of_mem _ (cm_X6 h)
  have hiX8 : ∀ w ∈ wsX80, w ∈ vs_E_8_tells := fun _ h => List.mem_cons_of_mem _ (cm_X8 h)
  have hD := hD0.self (sz := s.heap.size)
  generalize hAe : va_A ((xtl__w xa xtape (nI tp) rd au xdr hy g (nI hs) tg sg (nI ss) rm ti py bu sm (nI nc) (nI np) (nI ne) (nI st0) q4 q5 q6 q7 q8 q9 q10 q11 q12 q13 q14 q15 q16 k_f4 f4 k_f5 (bN 7 q_f5) k_f6 (bN 7 q_f6) k_f7 f7 k_f8 (bN 4 q_f8) k_f9 (bN 2 q_f9) k_f10 f10 k_f11 f11 k_f12 f12 k_f13 f13 k_f14 f14 k_f15 f15 k_f16 f16 r0 (nI ln) r2 r3 r4 r5 (nI nr) r7 r8 tz k_j0 (bN 13 q_j0) k_j2 j2 k_j3 (bN 120 q_j3) k_j4 (bN 120 q_j4) k_j5 j5 k_j7 (bN 120 q_j7) k_j8 j8 tzc (nI tzn) k_ftz ftz)) s.heap.size = A at hD ⊢
  have hA : ∀ q : Nat, s.heap.size ≤ q → A q := fun q h => by rw [← hAe]; exact Or.inr h
  have hS : va_S A s.heap s.heap [] := va_S.rf
  have hl := lv_entry ([.ref xa, .int p0, .int p1, .int p2, .int p3, .int p4, .int p5]) (n := 10) (Nat.le_of_ble_eq_true rfl)
  rw [lg_entry_eq]
  generalize (lg_sl ([.ref xa, .int p0, .int p1, .int p2, .int p3, .int p4, .int p5]) ++ List.replicate (10 - (lg_sl ([.ref xa, .int p0, .int p1, .int p2, .int p3, .int p4, .int p5])).length) Slot.unset).toArray = ls at hl ⊢
  have hl : lv_has ls 10 [(0, .ref xa), (1, .int p0), (2, .int p1), (3, .int p2), (4, .int p3), (5, .int p4), (6, .int p5)] := hl
  obtain ⟨RR, hRR⟩ : ∃ x, x = (sp_E_8_tells nc np ne st0 f4 q_f5 q_f6 f7 q_f8 q_f9 f12 f13 ln q_j0 j8 tzn ftz p0 p1 p2 p3 p4 p5) := ⟨_, rfl⟩
  have hsp := hRR
  refine lv_aload_n hx hb eX8_tells_0 rfl (lv_at hl 0 rfl) ?_
  refine va_get (D := (dC, dI)) (ci := 8) (v := .ref au) (C := RX8) (T := TX8) (N := 16) hx hb hts hiX8 hown hK hP 0 rfl rfl 3 (by decide) v_1 (fun _ h9 => h9) rfl eX8_tells_1 ?_
  refine va_get (D := (dC, dI)) (ci := 0) (v := .int (nI np)) (C := RX0) (T := TX0) (N := 17) hx hb hts hiX0 hown hK hP 1 rfl rfl 1 (by decide) v_2 (fun _ h9 => h9) rfl eX8_tells_4 ?_
  refine lv_if_ne (tgt := 12) hx hb eX8_tells_7 (by decide) (fun c_1 => ?_) (fun c_1 => ?_)
  · have c_1 : ¬ np = 0 := fun z => c_1 ((nI_eq (a := np) (b := 0) (Nat.lt_of_le_of_lt hnp (Nat.le_of_ble_eq_true rfl)) (Nat.le_of_ble_eq_true rfl)).mpr z)
    have hsp := hsp.trans (if_neg c_1)
    refine lv_aload_n hx hb eX8_tells_12 rfl (lv_at hl 0 rfl) ?_
    refine va_get (D := (dC, dI)) (ci := 8) (v := .ref ti) (C := RX8) (T := TX8) (N := 16) hx hb hts hiX8 hown hK hP 0 rfl rfl 12 (by decide) v_3 (fun _ h9 => h9) rfl eX8_tells_13 ?_
    refine lv_iconst (v := 0) hx hb eX8_tells_16 (by decide) ?_
    refine va_put (D := (dC, dI)) (ci := 6) (v := .int 0) (ty := .int) (C := RX6) (T := TX6) (N := 10) hx hb hts hiX6 tyX6 tyX6_ok nmX6 hown hK hP hD hS 15 rfl rfl 1 (by decide) v_4 (fun _ h9 => h9) rfl (by decide +kernel) rfl rfl (Nat.le_of_ble_eq_true rfl) eX8_tells_17 (fun H locs hP hD hS => ?_)
    have hP : va_P (dC, dI) vwCl (xtl__w xa xtape (nI tp) rd au xdr hy g (nI hs) tg sg (nI ss) rm ti py bu sm (nI nc) (nI np) (nI ne) (nI st0) q4 q5 q6 q7 q8 q9 q10 q11 q12 q13 q14 q15 q16 k_f4 f4 k_f5 (bN 7 q_f5) k_f6 (bN 7 q_f6) k_f7 f7 k_f8 (bN 4 q_f8) k_f9 (bN 2 q_f9) k_f10 f10 k_f11 f11 k_f12 f12 k_f13 f13 k_f14 f14 k_f15 f15 k_f16 f16 r0 0 r2 r3 r4 r5 (nI nr) r7 r8 tz k_j0 (bN 13 q_j0) k_j2 j2 k_j3 (bN 120 q_j3) k_j4 (bN 120 q_j4) k_j5 j5 k_j7 (bN 120 q_j7) k_j8 j8 tzc (nI tzn) k_ftz ftz) H := hP
    have hD : va_D A (xtl__w xa xtape (nI tp) rd au xdr hy g (nI hs) tg sg (nI ss) rm ti py bu sm (nI nc) (nI np) (nI ne) (nI st0) q4 q5 q6 q7 q8 q9 q10 q11 q12 q13 q14 q15 q16 k_f4 f4 k_f5 (bN 7 q_f5) k_f6 (bN 7 q_f6) k_f7 f7 k_f8 (bN 4 q_f8) k_f9 (bN 2 q_f9) k_f10 f10 k_f11 f11 k_f12 f12 k_f13 f13 k_f14 f14 k_f15 f15 k_f16 f16 r0 0 r2 r3 r4 r5 (nI nr) r7 r8 tz k_j0 (bN 13 q_j0) k_j2 j2 k_j3 (bN 120 q_j3) k_j4 (bN 120 q_j4) k_j5 j5 k_j7 (bN 120 q_j7) k_j8 j8 tzc (nI tzn) k_ftz ftz) := hD
    refine lv_aload_n hx hb eX8_tells_20 rfl (lv_at hl 0 rfl) ?_
    refine va_get (D := (dC, dI)) (ci := 8) (v := .ref au) (C := RX8) (T := TX8) (N := 16) hx hb hts hiX8 hown hK hP 0 rfl rfl 3 (by decide) v_1 (fun _ h9 => h9) rfl eX8_tells_21 ?_
    refine va_get (D := (dC, dI)) (ci := 0) (v := .int (nI st0)) (C := RX0) (T := TX0) (N := 17) hx hb hts hiX0 hown hK hP 1 rfl rfl 3 (by decide) v_5 (fun _ h9 => h9) rfl eX8_tells_24 ?_
    refine lv_istore (lv' := [(7, .int (nI st0)), (0, .ref xa), (1, .int p0), (2, .int p1), (3, .int p2), (4, .int p3), (5, .int p4), (6, .int p5)]) hx hb eX8_tells_27 hl (by decide) rfl (fun ls hl => ?_)
    refine lv_iconst (v := 0) hx hb eX8_tells_29 (by decide) ?_
    refine lv_istore (lv' := [(8, .int 0), (7, .int (nI st0)), (0, .ref xa), (1, .int p0), (2, .int p1), (3, .int p2), (4, .int p3), (5, .int p4), (6, .int p5)]) hx hb eX8_tells_30 hl (by decide) rfl (fun ls hl => ?_)
    obtain ⟨lf_13, dlf_13, hlf_13, hsp⟩ := itr_ex hsp
    delta sp_E_8_tells_L1 at hlf_13
    refine pu_while (fun nn H locs ls => ∃ (g_7 : Nat → Nat) (g_8 : Nat) (g_9 : Int32) (g_10 : Nat) (g_11 : Nat), nn = 5 - g_11 ∧ g_8 ≤ 119 ∧ g_10 ≤ 7 ∧ g_11 ≤ 5 ∧ RR = itrv dlf_13 lf_13 (g_7, g_8, g_9, g_10, g_11) ∧ va_P (dC, dI) vwCl (xtl__w xa xtape (nI tp) rd au xdr hy g (nI hs) tg sg (nI ss) rm ti py bu sm (nI nc) (nI np) (nI ne) (nI st0) q4 q5 q6 q7 q8 q9 q10 q11 q12 q13 q14 q15 q16 k_f4 f4 k_f5 (bN 7 q_f5) k_f6 (bN 7 q_f6) k_f7 f7 k_f8 (bN 4 q_f8) k_f9 (bN 2 q_f9) k_f10 f10 k_f11 f11 k_f12 f12 k_f13 f13 k_f14 f14 k_f15 f15 k_f16 f16 r0 (nI g_8) r2 r3 r4 r5 (nI nr) r7 r8 tz k_j0 (bN 13 g_7) k_j2 j2 k_j3 (bN 120 q_j3) k_j4 (bN 120 q_j4) k_j5 j5 k_j7 (bN 120 q_j7) k_j8 j8 tzc (nI tzn) k_ftz ftz) H ∧ va_D A (xtl__w xa xtape (nI tp) rd au xdr hy g (nI hs) tg sg (nI ss) rm ti py bu sm (nI nc) (nI np) (nI ne) (nI st0) q4 q5 q6 q7 q8 q9 q10 q11 q12 q13 q14 q15 q16 k_f4 f4 k_f5 (bN 7 q_f5) k_f6 (bN 7 q_f6) k_f7 f7 k_f8 (bN 4 q_f8) k_f9 (bN 2 q_f9) k_f10 f10 k_f11 f11 k_f12 f12 k_f13 f13 k_f14 f14 k_f15 f15 k_f16 f16 r0 (nI g_8) r2 r3 r4 r5 (nI nr) r7 r8 tz k_j0 (bN 13 g_7) k_j2 j2 k_j3 (bN 120 q_j3) k_j4 (bN 120 q_j4) k_j5 j5 k_j7 (bN 120 q_j7) k_j8 j8 tzc (nI tzn) k_ftz ftz) ∧ va_S A s.heap H locs ∧ lv_has ls 10 [(0, .ref xa), (1, .int g_9), (2, .int p1), (3, .int p2), (4, .int p3), (5, .int p4), (6, .int p5), (7, .int (nI g_10)), (8, .int (nI g_11))]) 32 ?_ _ _ _ _ ⟨q_j0, 0, p0, st0, 0, rfl, (Nat.le_of_ble_eq_true rfl), hst0, (Nat.le_of_ble_eq_true rfl), hsp, hP, hD, hS, lv_sub hl [2, 3, 4, 5, 6, 7, 8, 1, 0] rfl⟩
    rintro nn ih_12 H locs ls ⟨g_7, g_8, g_9, g_10, g_11, rfl, hg_8, hg_10, hg_11, he_15, hP, hD, hS, hl⟩
    obtain ⟨S_14, hsp, hin_16, hout_17⟩ := itr_step hlf_13 he_15
    refine lv_iload hx hb eX8_tells_32 (lv_at hl 8 rfl) ?_
    refine lv_iconst (v := 5) hx hb eX8_tells_34 (by decide) ?_
    refine lv_icmp_ge (tgt := 158) hx hb eX8_tells_35 (by decide) (fun c_18 => ?_) (fun c_18 => ?_)
    · have c_18 : 5 ≤ g_11 := (nI_leI (a := 5) (b := g_11) (Nat.le_of_ble_eq_true rfl) (Nat.lt_of_le_of_lt hg_11 (Nat.le_of_ble_eq_true rfl))).mp c_18
      have hsp := hsp.trans (if_pos c_18)
      have hsp := hout_17 _ hsp
      refine lv_aload_n hx hb eX8_tells_158 rfl (lv_at hl 0 rfl) ?_
      refine va_get (D := (dC, dI)) (ci := 8) (v := .ref ti) (C := RX8) (T := TX8) (N := 16) hx hb hts hiX8 hown hK hP 0 rfl rfl 12 (by decide) v_3 (fun _ h9 => h9) rfl eX8_tells_159 ?_
      refine lv_aload_n hx hb eX8_tells_162 rfl (lv_at hl 0 rfl) ?_
      refine va_get (D := (dC, dI)) (ci := 8) (v := .ref au) (C := RX8) (T := TX8) (N := 16) hx hb hts hiX8 hown hK hP 0 rfl rfl 3 (by decide) v_1 (fun _ h9 => h9) rfl eX8_tells_163 ?_
      refine lv_iload hx hb eX8_tells_166 (lv_at hl 6 rfl) ?_
      have hPc : va_P (dC, dI) vwCl (tz__w ti r0 (nI g_8) r2 r3 r4 r5 (nI nr) r7 r8 tz k_j0 (bN 13 g_7) k_j2 j2 k_j3 (bN 120 q_j3) k_j4 (bN 120 q_j4) k_j5 j5 k_j7 (bN 120 q_j7) k_j8 j8 au (nI nc) (nI np) (nI ne) (nI st0) q4 q5 q6 q7 q8 q9 q10 q11 q12 q13 q14 q15 q16 k_f4 f4 k_f5 (bN 7 q_f5) k_f6 (bN 7 q_f6) k_f7 f7 k_f8 (bN 4 q_f8) k_f9 (bN 2 q_f9) k_f10 f10 k_f11 f11 k_f12 f12 k_f13 f13 k_f14 f14 k_f15 f15 k_f16 f16 tzc (nI tzn) k_ftz ftz) _ := hP.sub [15, 16, 17, 18, 19, 20, 21, 22, 1, 2, 3, 4, 5, 6, 7, 8, 9, 10, 11, 12, 13, 14, 23, 24] rfl
      have hDc := hD.sub (ws' := (tz__w ti r0 (nI g_8) r2 r3 r4 r5 (nI nr) r7 r8 tz k_j0 (bN 13 g_7) k_j2 j2 k_j3 (bN 120 q_j3) k_j4 (bN 120 q_j4) k_j5 j5 k_j7 (bN 120 q_j7) k_j8 j8 au (nI nc) (nI np) (nI ne) (nI st0) q4 q5 q6 q7 q8 q9 q10 q11 q12 q13 q14 q15 q16 k_f4 f4 k_f5 (bN 7 q_f5) k_f6 (bN 7 q_f6) k_f7 f7 k_f8 (bN 4 q_f8) k_f9 (bN 2 q_f9) k_f10 f10 k_f11 f11 k_f12 f12 k_f13 f13 k_f14 f14 k_f15 f15 k_f16 f16 tzc (nI tzn) k_ftz ftz)) [15, 16, 17, 18, 19, 20, 21, 22, 1, 2, 3, 4, 5, 6, 7, 8, 9, 10, 11, 12, 13, 14, 23, 24] (by decide) rfl
      have hKc : va_K (dC, dI) vwCl (tz__t k_j0 k_j2 k_j3 k_j4 k_j5 k_j7 k_j8 k_f4 k_f5 k_f6 k_f7 k_f8 k_f9 k_f10 k_f11 k_f12 k_f13 k_f14 k_f15 k_f16 k_ftz) s := hK.sub [13, 14, 15, 16, 17, 18, 19, 0, 1, 2, 3, 4, 5, 6, 7, 8, 9, 10, 11, 12, 20] rfl
      have hFc := pu_free hDc hS hA
      refine va_calli (va_runV (As := [.ref au, .int p5]) (rest := []) ⟨hx, hb, hml, hown, hts⟩ (c_E_6_spanOf l dC dI _ ti r0 g_8 r2 r3 r4 r5 nr r7 r8 tz k_j0 g_7 k_j2 j2 k_j3 q_j3 k_j4 q_j4 k_j5 j5 k_j7 q_j7 k_j8 j8 au nc np ne st0 q4 q5 q6 q7 q8 q9 q10 q11 q12 q13 q14 q15 q16 k_f4 f4 k_f5 q_f5 k_f6 q_f6 k_f7 f7 k_f8 q_f8 k_f9 q_f9 k_f10 f10 k_f11 f11 k_f12 f12 k_f13 f13 k_f14 f14 k_f15 f15 k_f16 f16 tzc tzn k_ftz ftz p5 hg_8 hnr hnc hnp hne hst0 htzn) (cwV 2 hts g_E_8_tells_E_6_spanOf rfl rfl rfl (by decide +kernel) ⟨Nat.le_of_ble_eq_true rfl, Nat.le_of_ble_eq_true rfl⟩) ⟨pu_bl, va_recv hK hP (ci := 6) (q0 := 15) rfl rfl, pu_in hPc hKc hDc⟩ rfl rfl hl.1 rfl (lv_room (Nat.le_of_ble_eq_true rfl)) eX8_tells_168 ⟨Nat.le_of_ble_eq_true rfl, Nat.le_of_ble_eq_true rfl⟩) hS (fun q _ h => hFc q h) hFc (fun r_19 u t H1 locs ht hvm hw hB hz1 hk1 hS => ?_)
      obtain ⟨z_ftz_20, z_tzn_21, ⟨hP1, -, hD1⟩, hz_tzn_21, xr_19_0⟩ := hB
      rw [ht] at hP1
      obtain ⟨hP, hD⟩ := pj_a (X := (xtl__w xa xtape (nI tp) rd au xdr hy g (nI hs) tg sg (nI ss) rm ti py bu sm (nI nc) (nI np) (nI ne) (nI st0) q4 q5 q6 q7 q8 q9 q10 q11 q12 q13 q14 q15 q16 k_f4 f4 k_f5 (bN 7 q_f5) k_f6 (bN 7 q_f6) k_f7 f7 k_f8 (bN 4 q_f8) k_f9 (bN 2 q_f9) k_f10 f10 k_f11 f11 k_f12 f12 k_f13 f13 k_f14 f14 k_f15 f15 k_f16 f16 r0 (nI g_8) r2 r3 r4 r5 (nI nr) r7 r8 tz k_j0 (bN 13 g_7) k_j2 j2 k_j3 (bN 120 q_j3) k_j4 (bN 120 q_j4) k_j5 j5 k_j7 (bN 120 q_j7) k_j8 j8 tzc (nI tzn) k_ftz ftz)) (X' := (xtl__w xa xtape (nI tp) rd au xdr hy g (nI hs) tg sg (nI ss) rm ti py bu sm (nI nc) (nI np) (nI ne) (nI st0) q4 q5 q6 q7 q8 q9 q10 q11 q12 q13 q14 q15 q16 k_f4 f4 k_f5 (bN 7 q_f5) k_f6 (bN 7 q_f6) k_f7 f7 k_f8 (bN 4 q_f8) k_f9 (bN 2 q_f9) k_f10 f10 k_f11 f11 k_f12 f12 k_f13 f13 k_f14 f14 k_f15 f15 k_f16 f16 r0 (nI g_8) r2 r3 r4 r5 (nI nr) r7 r8 tz k_j0 (bN 13 g_7) k_j2 j2 k_j3 (bN 120 q_j3) k_j4 (bN 120 q_j4) k_j5 j5 k_j7 (bN 120 q_j7) k_j8 j8 tzc (nI z_tzn_21) k_ftz z_ftz_20)) (wc := (tz__w ti r0 (nI g_8) r2 r3 r4 r5 (nI nr) r7 r8 tz k_j0 (bN 13 g_7) k_j2 j2 k_j3 (bN 120 q_j3) k_j4 (bN 120 q_j4) k_j5 j5 k_j7 (bN 120 q_j7) k_j8 j8 au (nI nc) (nI np) (nI ne) (nI st0) q4 q5 q6 q7 q8 q9 q10 q11 q12 q13 q14 q15 q16 k_f4 f4 k_f5 (bN 7 q_f5) k_f6 (bN 7 q_f6) k_f7 f7 k_f8 (bN 4 q_f8) k_f9 (bN 2 q_f9) k_f10 f10 k_f11 f11 k_f12 f12 k_f13 f13 k_f14 f14 k_f15 f15 k_f16 f16 tzc (nI tzn) k_ftz ftz)) (w1 := (tz__w ti r0 (nI g_8) r2 r3 r4 r5 (nI nr) r7 r8 tz k_j0 (bN 13 g_7) k_j2 j2 k_j3 (bN 120 q_j3) k_j4 (bN 120 q_j4) k_j5 j5 k_j7 (bN 120 q_j7) k_j8 j8 au (nI nc) (nI np) (nI ne) (nI st0) q4 q5 q6 q7 q8 q9 q10 q11 q12 q13 q14 q15 q16 k_f4 f4 k_f5 (bN 7 q_f5) k_f6 (bN 7 q_f6) k_f7 f7 k_f8 (bN 4 q_f8) k_f9 (bN 2 q_f9) k_f10 f10 k_f11 f11 k_f12 f12 k_f13 f13 k_f14 f14 k_f15 f15 k_f16 f16 tzc (nI z_tzn_21) k_ftz z_ftz_20)) hP hD [15, 16, 17, 18, 19, 20, 21, 22, 1, 2, 3, 4, 5, 6, 7, 8, 9, 10, 11, 12, 13, 14, 23, 24] [24, 8, 9, 10, 11, 12, 13, 14, 15, 16, 17, 18, 19, 20, 21, 0, 1, 2, 3, 4, 5, 6, 7, 22, 23] 24 rfl hk1 hP1 rfl rfl rfl (by decide)
      clear hP1 hD1 hFc hPc hDc hKc
      clear hk1 hz1 ht hvm
      generalize H1 = H at hP hS ⊢
      have ir_19 := hw
      have ir_19 : (r_19, z_ftz_20, z_tzn_21) = (sp_E_6_spanOf g_8 g_7 j8 nc st0 f4 q_f5 q_f6 f7 q_f8 q_f9 f12 f13 ftz p5) := Prod.ext ir_19 xr_19_0
      have hsp := hsp.trans (slet_eq ir_19)
      exact W.iret (v := r_19) hx hb hr (fun t ht hW => ⟨⟨r_19, (), rfl, (congrArg Prod.fst (hsp.symm.trans hRR)), ⟨g_7, z_ftz_20, g_8, z_tzn_21, ⟨by rw [ht]; exact hP, va_K.moved hW.alike hK, hD⟩, hg_8, hz_tzn_21, (congrArg Prod.snd (hsp.symm.trans hRR))⟩⟩, hS.F ht⟩) hS.2.2 eX8_tells_171
    · have c_18 : ¬ 5 ≤ g_11 := fun z => c_18 ((nI_leI (a := 5) (b := g_11) (Nat.le_of_ble_eq_true rfl) (Nat.lt_of_le_of_lt hg_11 (Nat.le_of_ble_eq_true rfl))).mpr z)
      have hsp := hsp.trans (if_neg c_18)
      refine lv_iload hx hb eX8_tells_38 (lv_at hl 8 rfl) ?_
      obtain ⟨JR_24, hJR_24, hsp⟩ := slet_ex hsp
      refine pu_join (fun H locs ls st => ∃ (g_22 : Int32), st = [.int g_22] ∧ g_22 = JR_24 ∧ va_P (dC, dI) vwCl (xtl__w xa xtape (nI tp) rd au xdr hy g (nI hs) tg sg (nI ss) rm ti py bu sm (nI nc) (nI np) (nI ne) (nI st0) q4 q5 q6 q7 q8 q9 q10 q11 q12 q13 q14 q15 q16 k_f4 f4 k_f5 (bN 7 q_f5) k_f6 (bN 7 q_f6) k_f7 f7 k_f8 (bN 4 q_f8) k_f9 (bN 2 q_f9) k_f10 f10 k_f11 f11 k_f12 f12 k_f13 f13 k_f14 f14 k_f15 f15 k_f16 f16 r0 (nI g_8) r2 r3 r4 r5 (nI nr) r7 r8 tz k_j0 (bN 13 g_7) k_j2 j2 k_j3 (bN 120 q_j3) k_j4 (bN 120 q_j4) k_j5 j5 k_j7 (bN 120 q_j7) k_j8 j8 tzc (nI tzn) k_ftz ftz) H ∧ va_D A (xtl__w xa xtape (nI tp) rd au xdr hy g (nI hs) tg sg (nI ss) rm ti py bu sm (nI nc) (nI np) (nI ne) (nI st0) q4 q5 q6 q7 q8 q9 q10 q11 q12 q13 q14 q15 q16 k_f4 f4 k_f5 (bN 7 q_f5) k_f6 (bN 7 q_f6) k_f7 f7 k_f8 (bN 4 q_f8) k_f9 (bN 2 q_f9) k_f10 f10 k_f11 f11 k_f12 f12 k_f13 f13 k_f14 f14 k_f15 f15 k_f16 f16 r0 (nI g_8) r2 r3 r4 r5 (nI nr) r7 r8 tz k_j0 (bN 13 g_7) k_j2 j2 k_j3 (bN 120 q_j3) k_j4 (bN 120 q_j4) k_j5 j5 k_j7 (bN 120 q_j7) k_j8 j8 tzc (nI tzn) k_ftz ftz) ∧ va_S A s.heap H locs ∧ lv_has ls 10 [(0, .ref xa), (1, .int g_9), (2, .int p1), (3, .int p2), (4, .int p3), (5, .int p4), (6, .int p5), (7, .int (nI g_10)), (8, .int (nI g_11))]) 80 ?_ (fun j_23 => ?_)
      · rintro H locs ls st ⟨g_22, rfl, he_25, hP, hD, hS, hl⟩
        rw [← he_25] at hsp
        refine lv_istore (lv' := [(9, .int g_22), (0, .ref xa), (1, .int g_9), (2, .int p1), (3, .int p2), (4, .int p3), (5, .int p4), (6, .int p5), (7, .int (nI g_10)), (8, .int (nI g_11))]) hx hb eX8_tells_80 hl (by decide) rfl (fun ls hl => ?_)
        refine lv_iload hx hb eX8_tells_82 (lv_at hl 0 rfl) ?_
        refine lv_iconst (v := (-1)) hx hb eX8_tells_84 (by decide) ?_
        refine lv_icmp_ne (tgt := 91) hx hb eX8_tells_85 (by decide) (fun c_26 => ?_) (fun c_26 => ?_)
        · have hcc_26 := c_26
          have hsp := hsp.trans (if_neg c_26)
          refine lv_aload_n hx hb eX8_tells_91 rfl (lv_at hl 1 rfl) ?_
          refine lv_iload hx hb eX8_tells_92 (lv_at hl 0 rfl) ?_
          have hPc : va_P (dC, dI) vwCl (xo__w xa xtape (nI tp) rd au xdr hy g (nI hs) tg sg (nI ss) rm ti py bu sm (nI nc) (nI np) (nI ne) (nI st0) q4 q5 q6 q7 q8 q9 q10 q11 q12 q13 q14 q15 q16) _ := hP.sub [0, 1] rfl
          have hDc := hD.sub (ws' := (xo__w xa xtape (nI tp) rd au xdr hy g (nI hs) tg sg (nI ss) rm ti py bu sm (nI nc) (nI np) (nI ne) (nI st0) q4 q5 q6 q7 q8 q9 q10 q11 q12 q13 q14 q15 q16)) [0, 1] (by decide) rfl
          have hKc : va_K (dC, dI) vwCl (xo__t ) s := hK.sub [] rfl
          refine va_calli (va_runV (As := [.int g_22]) (rest := []) ⟨hx, hb, hml, hown, hts⟩ (c_E_8_isEdge l dC dI _ xa xtape tp rd au xdr hy g hs tg sg ss rm ti py bu sm nc np ne (nI st0) q4 q5 q6 q7 q8 q9 q10 q11 q12 q13 q14 q15 q16 g_22 htp hhs hss hnc hnp hne (Or.inr ⟨st0, hst0, rfl⟩)) (cwV 1 hts g_E_8_tells_E_8_isEdge rfl rfl rfl (by decide +kernel) ⟨Nat.le_of_ble_eq_true rfl, Nat.le_of_ble_eq_true rfl⟩) ⟨pu_bl, va_recv hK hP (ci := 8) (q0 := 0) rfl rfl, pu_in hPc hKc hDc⟩ rfl rfl hl.1 rfl (lv_room (Nat.le_of_ble_eq_true rfl)) eX8_tells_94 ⟨Nat.le_of_ble_eq_true rfl, Nat.le_of_ble_eq_true rfl⟩) hS (fun q _ h => pu_fr hS hA q h) (pu_fr hS hA) (fun r_27 u t H1 locs ht hvm hw hB hz1 hk1 hS => ?_)
          have hP := pu_keep hP hk1
          clear hk1 hz1 ht hvm
          generalize H1 = H at hP hS ⊢
          rcases hw with ⟨rfl, hw⟩ | ⟨rfl, hn⟩
          · obtain ⟨n_28, hn_28, rfl⟩ := hw
            have hsp := hsp.trans (if_pos (in_q hn_28 (by omega)))
            have hsp := hsp.trans (slet_eq (nI_cl (n := n_28) (by omega)))
            refine lv_if_eq (tgt := 115) hx hb eX8_tells_97 (by decide) (fun z => absurd z (by decide)) (fun _ => ?_)
            refine lv_aload_n hx hb eX8_tells_100 rfl (lv_at hl 1 rfl) ?_
            refine va_get (D := (dC, dI)) (ci := 8) (v := .ref au) (C := RX8) (T := TX8) (N := 16) hx hb hts hiX8 hown hK hP 0 rfl rfl 3 (by decide) v_1 (fun _ h9 => h9) rfl eX8_tells_101 ?_
            refine va_get (D := (dC, dI)) (ci := 0) (v := .ref q5) (C := RX0) (T := TX0) (N := 17) hx hb hts hiX0 hown hK hP 1 rfl rfl 5 (by decide) v_11 (fun _ h9 => h9) rfl eX8_tells_104 ?_
            refine lv_iload hx hb eX8_tells_107 (lv_at hl 0 rfl) ?_
            refine va_iald hx hb hK hP 3 1 rfl rfl (vp_in_nI (n := n_28) (by omega) (Nat.le_of_ble_eq_true rfl)) eX8_tells_109 ?_
            refine lv_topi (fun y_29 ey_29 => ?_)
            obtain ⟨u_30, hu_30, qu_30, xu_30⟩ := bN_getx 7 q_f5 (n := n_28) (by omega)
            obtain rfl : y_29 = nI u_30 := ey_29.trans qu_30
            have hsp := hsp.trans (slet_eq xu_30)
            refine lv_iload hx hb eX8_tells_110 (lv_at hl 8 rfl) ?_
            refine lv_icmp_eq (tgt := 117) hx hb eX8_tells_112 (by decide) (fun c_31 => ?_) (fun c_31 => ?_)
            · have c_31 : u_30 = g_10 := (nI_eq (a := u_30) (b := g_10) (Nat.lt_of_le_of_lt hu_30 (Nat.le_of_ble_eq_true rfl)) (Nat.lt_of_le_of_lt hg_10 (Nat.le_of_ble_eq_true rfl))).mp c_31
              have hsp := hsp.trans (if_pos c_31)
              refine lv_aload_n hx hb eX8_tells_117 rfl (lv_at hl 1 rfl) ?_
              refine va_get (D := (dC, dI)) (ci := 8) (v := .ref ti) (C := RX8) (T := TX8) (N := 16) hx hb hts hiX8 hown hK hP 0 rfl rfl 12 (by decide) v_3 (fun _ h9 => h9) rfl eX8_tells_118 ?_
              refine va_get (D := (dC, dI)) (ci := 6) (v := .ref r0) (C := RX6) (T := TX6) (N := 10) hx hb hts hiX6 hown hK hP 15 rfl rfl 0 (by decide) v_12 (fun _ h9 => h9) rfl eX8_tells_121 ?_
              refine lv_iload hx hb eX8_tells_124 (lv_at hl 9 rfl) ?_
              refine lv_iload hx hb eX8_tells_126 (lv_at hl 0 rfl) ?_
              refine va_iast hx hb hK hP hD hS 16 13 rfl rfl (vp_in_nI (n := g_11) (Nat.lt_of_le_of_lt hg_11 (Nat.le_of_ble_eq_true rfl)) (Nat.le_of_ble_eq_true rfl)) eX8_tells_128 (fun H locs hP hD hS => ?_)
              obtain ⟨q_32, eq_32, kq_32, oq_32, xq_32⟩ := bN_upx 13 g_7 (n := g_11) (v := n_28) (Nat.lt_of_le_of_lt hg_11 (Nat.le_of_ble_eq_true rfl)) (by omega)
              have hP : va_P (dC, dI) vwCl (xtl__w xa xtape (nI tp) rd au xdr hy g (nI hs) tg sg (nI ss) rm ti py bu sm (nI nc) (nI np) (nI ne) (nI st0) q4 q5 q6 q7 q8 q9 q10 q11 q12 q13 q14 q15 q16 k_f4 f4 k_f5 (bN 7 q_f5) k_f6 (bN 7 q_f6) k_f7 f7 k_f8 (bN 4 q_f8) k_f9 (bN 2 q_f9) k_f10 f10 k_f11 f11 k_f12 f12 k_f13 f13 k_f14 f14 k_f15 f15 k_f16 f16 r0 (nI g_8) r2 r3 r4 r5 (nI nr) r7 r8 tz k_j0 (bN 13 q_32) k_j2 j2 k_j3 (bN 120 q_j3) k_j4 (bN 120 q_j4) k_j5 j5 k_j7 (bN 120 q_j7) k_j8 j8 tzc (nI tzn) k_ftz ftz) H := by rw [← eq_32]; exact hP
              have hD : va_D A (xtl__w xa xtape (nI tp) rd au xdr hy g (nI hs) tg sg (nI ss) rm ti py bu sm (nI nc) (nI np) (nI ne) (nI st0) q4 q5 q6 q7 q8 q9 q10 q11 q12 q13 q14 q15 q16 k_f4 f4 k_f5 (bN 7 q_f5) k_f6 (bN 7 q_f6) k_f7 f7 k_f8 (bN 4 q_f8) k_f9 (bN 2 q_f9) k_f10 f10 k_f11 f11 k_f12 f12 k_f13 f13 k_f14 f14 k_f15 f15 k_f16 f16 r0 (nI g_8) r2 r3 r4 r5 (nI nr) r7 r8 tz k_j0 (bN 13 q_32) k_j2 j2 k_j3 (bN 120 q_j3) k_j4 (bN 120 q_j4) k_j5 j5 k_j7 (bN 120 q_j7) k_j8 j8 tzc (nI tzn) k_ftz ftz) := by rw [← eq_32]; exact hD
              have hsp := hsp.trans (slet_eq xq_32)
              refine lv_aload_n hx hb eX8_tells_129 rfl (lv_at hl 1 rfl) ?_
              refine va_get (D := (dC, dI)) (ci := 8) (v := .ref ti) (C := RX8) (T := TX8) (N := 16) hx hb hts hiX8 hown hK hP 0 rfl rfl 12 (by decide) v_3 (fun _ h9 => h9) rfl eX8_tells_130 ?_
              refine lv_iload hx hb eX8_tells_133 (lv_at hl 9 rfl) ?_
              refine lv_iconst (v := 1) hx hb eX8_tells_135 (by decide) ?_
              refine lv_iadd hx hb eX8_tells_136 ?_
              refine lv_topi (fun y_33 ey_33 => ?_)
              obtain rfl : y_33 = (nI (g_11 + 1)) := ey_33.trans (nI_add g_11 1)
              refine va_put (D := (dC, dI)) (ci := 6) (v := .int (nI (g_11 + 1))) (ty := .int) (C := RX6) (T := TX6) (N := 10) hx hb hts hiX6 tyX6 tyX6_ok nmX6 hown hK hP hD hS 15 rfl rfl 1 (by decide) v_4 (fun _ h9 => h9) rfl (by decide +kernel) rfl rfl (Nat.le_of_ble_eq_true rfl) eX8_tells_137 (fun H locs hP hD hS => ?_)
              have hP : va_P (dC, dI) vwCl (xtl__w xa xtape (nI tp) rd au xdr hy g (nI hs) tg sg (nI ss) rm ti py bu sm (nI nc) (nI np) (nI ne) (nI st0) q4 q5 q6 q7 q8 q9 q10 q11 q12 q13 q14 q15 q16 k_f4 f4 k_f5 (bN 7 q_f5) k_f6 (bN 7 q_f6) k_f7 f7 k_f8 (bN 4 q_f8) k_f9 (bN 2 q_f9) k_f10 f10 k_f11 f11 k_f12 f12 k_f13 f13 k_f14 f14 k_f15 f15 k_f16 f16 r0 (nI (g_11 + 1)) r2 r3 r4 r5 (nI nr) r7 r8 tz k_j0 (bN 13 q_32) k_j2 j2 k_j3 (bN 120 q_j3) k_j4 (bN 120 q_j4) k_j5 j5 k_j7 (bN 120 q_j7) k_j8 j8 tzc (nI tzn) k_ftz ftz) H := hP
              have hD : va_D A (xtl__w xa xtape (nI tp) rd au xdr hy g (nI hs) tg sg (nI ss) rm ti py bu sm (nI nc) (nI np) (nI ne) (nI st0) q4 q5 q6 q7 q8 q9 q10 q11 q12 q13 q14 q15 q16 k_f4 f4 k_f5 (bN 7 q_f5) k_f6 (bN 7 q_f6) k_f7 f7 k_f8 (bN 4 q_f8) k_f9 (bN 2 q_f9) k_f10 f10 k_f11 f11 k_f12 f12 k_f13 f13 k_f14 f14 k_f15 f15 k_f16 f16 r0 (nI (g_11 + 1)) r2 r3 r4 r5 (nI nr) r7 r8 tz k_j0 (bN 13 q_32) k_j2 j2 k_j3 (bN 120 q_j3) k_j4 (bN 120 q_j4) k_j5 j5 k_j7 (bN 120 q_j7) k_j8 j8 tzc (nI tzn) k_ftz ftz) := hD
              refine lv_aload_n hx hb eX8_tells_140 rfl (lv_at hl 1 rfl) ?_
              refine va_get (D := (dC, dI)) (ci := 8) (v := .ref au) (C := RX8) (T := TX8) (N := 16) hx hb hts hiX8 hown hK hP 0 rfl rfl 3 (by decide) v_1 (fun _ h9 => h9) rfl eX8_tells_141 ?_
              refine va_get (D := (dC, dI)) (ci := 0) (v := .ref q6) (C := RX0) (T := TX0) (N := 17) hx hb hts hiX0 hown hK hP 1 rfl rfl 6 (by decide) v_13 (fun _ h9 => h9) rfl eX8_tells_144 ?_
              refine lv_iload hx hb eX8_tells_147 (lv_at hl 0 rfl) ?_
              refine va_iald hx hb hK hP 4 2 rfl rfl (vp_in_nI (n := n_28) (by omega) (Nat.le_of_ble_eq_true rfl)) eX8_tells_149 ?_
              refine lv_topi (fun y_34 ey_34 => ?_)
              obtain ⟨u_35, hu_35, qu_35, xu_35⟩ := bN_getx 7 q_f6 (n := n_28) (by omega)
              obtain rfl : y_34 = nI u_35 := ey_34.trans qu_35
              have hsp := hsp.trans (slet_eq xu_35)
              refine lv_istore (lv' := [(7, .int (nI u_35)), (9, .int (nI n_28)), (0, .ref xa), (1, .int g_9), (2, .int p1), (3, .int p2), (4, .int p3), (5, .int p4), (6, .int p5), (8, .int (nI g_11))]) hx hb eX8_tells_150 hl (by decide) rfl (fun ls hl => ?_)
              refine lv_iinc (v := (nI (g_11 + 1))) (lv' := [(8, .int (nI (g_11 + 1))), (7, .int (nI u_35)), (9, .int (nI n_28)), (0, .ref xa), (1, .int g_9), (2, .int p1), (3, .int p2), (4, .int p3), (5, .int p4), (6, .int p5)]) hx hb eX8_tells_152 hl (k := 9) rfl (nI_1 _) (by decide) rfl (fun ls hl => ?_)
              refine lv_goto (tgt := 32) hx hb eX8_tells_155 (by decide) ?_
              exact ih_12 (5 - (g_11 + 1)) (by omega) _ _ _ ⟨q_32, (g_11 + 1), g_9, u_35, (g_11 + 1), rfl, (by omega), hu_35, (by omega), hin_16 _ hsp, hP, hD, hS, lv_sub hl [3, 4, 5, 6, 7, 8, 9, 1, 0] rfl⟩
            · have c_31 : ¬ u_30 = g_10 := fun z => c_31 ((nI_eq (a := u_30) (b := g_10) (Nat.lt_of_le_of_lt hu_30 (Nat.le_of_ble_eq_true rfl)) (Nat.lt_of_le_of_lt hg_10 (Nat.le_of_ble_eq_true rfl))).mpr z)
              have hsp := hsp.trans (if_neg c_31)
              have hsp := hout_17 _ hsp
              refine lv_iconst (v := (-1)) hx hb eX8_tells_115 (by decide) ?_
              exact W.iret (v := (-1)) hx hb hr (fun t ht hW => ⟨⟨(-1), (), rfl, (congrArg Prod.fst (hsp.symm.trans hRR)), ⟨g_7, ftz, g_8, tzn, ⟨by rw [ht]; exact hP, va_K.moved hW.alike hK, hD⟩, hg_8, htzn, (congrArg Prod.snd (hsp.symm.trans hRR))⟩⟩, hS.F ht⟩) hS.2.2 eX8_tells_116
          · have hsp := hsp.trans (if_neg hn)
            refine lv_if_eq (tgt := 115) hx hb eX8_tells_97 (by decide) (fun _ => ?_) (fun z => absurd z (by decide))
            have hsp := hout_17 _ hsp
            refine lv_iconst (v := (-1)) hx hb eX8_tells_115 (by decide) ?_
            exact W.iret (v := (-1)) hx hb hr (fun t ht hW => ⟨⟨(-1), (), rfl, (congrArg Prod.fst (hsp.symm.trans hRR)), ⟨g_7, ftz, g_8, tzn, ⟨by rw [ht]; exact hP, va_K.moved hW.alike hK, hD⟩, hg_8, htzn, (congrArg Prod.snd (hsp.symm.trans hRR))⟩⟩, hS.F ht⟩) hS.2.2 eX8_tells_116
        · have hcc_26 := c_26
          have hsp := hsp.trans (if_pos c_26)
          have hsp := hout_17 _ hsp
          refine lv_goto (tgt := 158) hx hb eX8_tells_88 (by decide) ?_
          refine lv_aload_n hx hb eX8_tells_158 rfl (lv_at hl 1 rfl) ?_
          refine va_get (D := (dC, dI)) (ci := 8) (v := .ref ti) (C := RX8) (T := TX8) (N := 16) hx hb hts hiX8 hown hK hP 0 rfl rfl 12 (by decide) v_3 (fun _ h9 => h9) rfl eX8_tells_159 ?_
          refine lv_aload_n hx hb eX8_tells_162 rfl (lv_at hl 1 rfl) ?_
          refine va_get (D := (dC, dI)) (ci := 8) (v := .ref au) (C := RX8) (T := TX8) (N := 16) hx hb hts hiX8 hown hK hP 0 rfl rfl 3 (by decide) v_1 (fun _ h9 => h9) rfl eX8_tells_163 ?_
          refine lv_iload hx hb eX8_tells_166 (lv_at hl 7 rfl) ?_
          have hPc : va_P (dC, dI) vwCl (tz__w ti r0 (nI g_8) r2 r3 r4 r5 (nI nr) r7 r8 tz k_j0 (bN 13 g_7) k_j2 j2 k_j3 (bN 120 q_j3) k_j4 (bN 120 q_j4) k_j5 j5 k_j7 (bN 120 q_j7) k_j8 j8 au (nI nc) (nI np) (nI ne) (nI st0) q4 q5 q6 q7 q8 q9 q10 q11 q12 q13 q14 q15 q16 k_f4 f4 k_f5 (bN 7 q_f5) k_f6 (bN 7 q_f6) k_f7 f7 k_f8 (bN 4 q_f8) k_f9 (bN 2 q_f9) k_f10 f10 k_f11 f11 k_f12 f12 k_f13 f13 k_f14 f14 k_f15 f15 k_f16 f16 tzc (nI tzn) k_ftz ftz) _ := hP.sub [15, 16, 17, 18, 19, 20, 21, 22, 1, 2, 3, 4, 5, 6, 7, 8, 9, 10, 11, 12, 13, 14, 23, 24] rfl
          have hDc := hD.sub (ws' := (tz__w ti r0 (nI g_8) r2 r3 r4 r5 (nI nr) r7 r8 tz k_j0 (bN 13 g_7) k_j2 j2 k_j3 (bN 120 q_j3) k_j4 (bN 120 q_j4) k_j5 j5 k_j7 (bN 120 q_j7) k_j8 j8 au (nI nc) (nI np) (nI ne) (nI st0) q4 q5 q6 q7 q8 q9 q10 q11 q12 q13 q14 q15 q16 k_f4 f4 k_f5 (bN 7 q_f5) k_f6 (bN 7 q_f6) k_f7 f7 k_f8 (bN 4 q_f8) k_f9 (bN 2 q_f9) k_f10 f10 k_f11 f11 k_f12 f12 k_f13 f13 k_f14 f14 k_f15 f15 k_f16 f16 tzc (nI tzn) k_ftz ftz)) [15, 16, 17, 18, 19, 20, 21, 22, 1, 2, 3, 4, 5, 6, 7, 8, 9, 10, 11, 12, 13, 14, 23, 24] (by decide) rfl
          have hKc : va_K (dC, dI) vwCl (tz__t k_j0 k_j2 k_j3 k_j4 k_j5 k_j7 k_j8 k_f4 k_f5 k_f6 k_f7 k_f8 k_f9 k_f10 k_f11 k_f12 k_f13 k_f14 k_f15 k_f16 k_ftz) s := hK.sub [13, 14, 15, 16, 17, 18, 19, 0, 1, 2, 3, 4, 5, 6, 7, 8, 9, 10, 11, 12, 20] rfl
          have hFc := pu_free hDc hS hA
          refine va_calli (va_runV (As := [.ref au, .int p5]) (rest := []) ⟨hx, hb, hml, hown, hts⟩ (c_E_6_spanOf l dC dI _ ti r0 g_8 r2 r3 r4 r5 nr r7 r8 tz k_j0 g_7 k_j2 j2 k_j3 q_j3 k_j4 q_j4 k_j5 j5 k_j7 q_j7 k_j8 j8 au nc np ne st0 q4 q5 q6 q7 q8 q9 q10 q11 q12 q13 q14 q15 q16 k_f4 f4 k_f5 q_f5 k_f6 q_f6 k_f7 f7 k_f8 q_f8 k_f9 q_f9 k_f10 f10 k_f11 f11 k_f12 f12 k_f13 f13 k_f14 f14 k_f15 f15 k_f16 f16 tzc tzn k_ftz ftz p5 hg_8 hnr hnc hnp hne hst0 htzn) (cwV 2 hts g_E_8_tells_E_6_spanOf rfl rfl rfl (by decide +kernel) ⟨Nat.le_of_ble_eq_true rfl, Nat.le_of_ble_eq_true rfl⟩) ⟨pu_bl, va_recv hK hP (ci := 6) (q0 := 15) rfl rfl, pu_in hPc hKc hDc⟩ rfl rfl hl.1 rfl (lv_room (Nat.le_of_ble_eq_true rfl)) eX8_tells_168 ⟨Nat.le_of_ble_eq_true rfl, Nat.le_of_ble_eq_true rfl⟩) hS (fun q _ h => hFc q h) hFc (fun r_36 u t H1 locs ht hvm hw hB hz1 hk1 hS => ?_)
          obtain ⟨z_ftz_37, z_tzn_38, ⟨hP1, -, hD1⟩, hz_tzn_38, xr_36_0⟩ := hB
          rw [ht] at hP1
          obtain ⟨hP, hD⟩ := pj_a (X := (xtl__w xa xtape (nI tp) rd au xdr hy g (nI hs) tg sg (nI ss) rm ti py bu sm (nI nc) (nI np) (nI ne) (nI st0) q4 q5 q6 q7 q8 q9 q10 q11 q12 q13 q14 q15 q16 k_f4 f4 k_f5 (bN 7 q_f5) k_f6 (bN 7 q_f6) k_f7 f7 k_f8 (bN 4 q_f8) k_f9 (bN 2 q_f9) k_f10 f10 k_f11 f11 k_f12 f12 k_f13 f13 k_f14 f14 k_f15 f15 k_f16 f16 r0 (nI g_8) r2 r3 r4 r5 (nI nr) r7 r8 tz k_j0 (bN 13 g_7) k_j2 j2 k_j3 (bN 120 q_j3) k_j4 (bN 120 q_j4) k_j5 j5 k_j7 (bN 120 q_j7) k_j8 j8 tzc (nI tzn) k_ftz ftz)) (X' := (xtl__w xa xtape (nI tp) rd au xdr hy g (nI hs) tg sg (nI ss) rm ti py bu sm (nI nc) (nI np) (nI ne) (nI st0) q4 q5 q6 q7 q8 q9 q10 q11 q12 q13 q14 q15 q16 k_f4 f4 k_f5 (bN 7 q_f5) k_f6 (bN 7 q_f6) k_f7 f7 k_f8 (bN 4 q_f8) k_f9 (bN 2 q_f9) k_f10 f10 k_f11 f11 k_f12 f12 k_f13 f13 k_f14 f14 k_f15 f15 k_f16 f16 r0 (nI g_8) r2 r3 r4 r5 (nI nr) r7 r8 tz k_j0 (bN 13 g_7) k_j2 j2 k_j3 (bN 120 q_j3) k_j4 (bN 120 q_j4) k_j5 j5 k_j7 (bN 120 q_j7) k_j8 j8 tzc (nI z_tzn_38) k_ftz z_ftz_37)) (wc := (tz__w ti r0 (nI g_8) r2 r3 r4 r5 (nI nr) r7 r8 tz k_j0 (bN 13 g_7) k_j2 j2 k_j3 (bN 120 q_j3) k_j4 (bN 120 q_j4) k_j5 j5 k_j7 (bN 120 q_j7) k_j8 j8 au (nI nc) (nI np) (nI ne) (nI st0) q4 q5 q6 q7 q8 q9 q10 q11 q12 q13 q14 q15 q16 k_f4 f4 k_f5 (bN 7 q_f5) k_f6 (bN 7 q_f6) k_f7 f7 k_f8 (bN 4 q_f8) k_f9 (bN 2 q_f9) k_f10 f10 k_f11 f11 k_f12 f12 k_f13 f13 k_f14 f14 k_f15 f15 k_f16 f16 tzc (nI tzn) k_ftz ftz)) (w1 := (tz__w ti r0 (nI g_8) r2 r3 r4 r5 (nI nr) r7 r8 tz k_j0 (bN 13 g_7) k_j2 j2 k_j3 (bN 120 q_j3) k_j4 (bN 120 q_j4) k_j5 j5 k_j7 (bN 120 q_j7) k_j8 j8 au (nI nc) (nI np) (nI ne) (nI st0) q4 q5 q6 q7 q8 q9 q10 q11 q12 q13 q14 q15 q16 k_f4 f4 k_f5 (bN 7 q_f5) k_f6 (bN 7 q_f6) k_f7 f7 k_f8 (bN 4 q_f8) k_f9 (bN 2 q_f9) k_f10 f10 k_f11 f11 k_f12 f12 k_f13 f13 k_f14 f14 k_f15 f15 k_f16 f16 tzc (nI z_tzn_38) k_ftz z_ftz_37)) hP hD [15, 16, 17, 18, 19, 20, 21, 22, 1, 2, 3, 4, 5, 6, 7, 8, 9, 10, 11, 12, 13, 14, 23, 24] [24, 8, 9, 10, 11, 12, 13, 14, 15, 16, 17, 18, 19, 20, 21, 0, 1, 2, 3, 4, 5, 6, 7, 22, 23] 24 rfl hk1 hP1 rfl rfl rfl (by decide)
          clear hP1 hD1 hFc hPc hDc hKc
          clear hk1 hz1 ht hvm
          generalize H1 = H at hP hS ⊢
          have ir_36 := hw
          have ir_36 : (r_36, z_ftz_37, z_tzn_38) = (sp_E_6_spanOf g_8 g_7 j8 nc st0 f4 q_f5 q_f6 f7 q_f8 q_f9 f12 f13 ftz p5) := Prod.ext ir_36 xr_36_0
          have hsp := hsp.trans (slet_eq ir_36)
          exact W.iret (v := r_36) hx hb hr (fun t ht hW => ⟨⟨r_36, (), rfl, (congrArg Prod.fst (hsp.symm.trans hRR)), ⟨g_7, z_ftz_37, g_8, z_tzn_38, ⟨by rw [ht]; exact hP, va_K.moved hW.alike hK, hD⟩, hg_8, hz_tzn_38, (congrArg Prod.snd (hsp.symm.trans hRR))⟩⟩, hS.F ht⟩) hS.2.2 eX8_tells_171
      have hsp := hJR_24
      refine lv_if_ne (tgt := 47) hx hb eX8_tells_40 (by decide) (fun c_39 => ?_) (fun c_39 => ?_)
      · have c_39 : ¬ g_11 = 0 := fun z => c_39 ((nI_eq (a := g_11) (b := 0) (Nat.lt_of_le_of_lt hg_11 (Nat.le_of_ble_eq_true rfl)) (Nat.le_of_ble_eq_true rfl)).mpr z)
        have hsp := hsp.trans (if_neg c_39)
        refine lv_iload hx hb eX8_tells_47 (lv_at hl 8 rfl) ?_
        refine lv_iconst (v := 1) hx hb eX8_tells_49 (by decide) ?_
        refine lv_icmp_ne (tgt := 57) hx hb eX8_tells_50 (by decide) (fun c_40 => ?_) (fun c_40 => ?_)
        · have c_40 : ¬ g_11 = 1 := fun z => c_40 ((nI_eq (a := g_11) (b := 1) (Nat.lt_of_le_of_lt hg_11 (Nat.le_of_ble_eq_true rfl)) (Nat.le_of_ble_eq_true rfl)).mpr z)
          have hsp := hsp.trans (if_neg c_40)
          refine lv_iload hx hb eX8_tells_57 (lv_at hl 8 rfl) ?_
          refine lv_iconst (v := 2) hx hb eX8_tells_59 (by decide) ?_
          refine lv_icmp_ne (tgt := 67) hx hb eX8_tells_60 (by decide) (fun c_41 => ?_) (fun c_41 => ?_)
          · have c_41 : ¬ g_11 = 2 := fun z => c_41 ((nI_eq (a := g_11) (b := 2) (Nat.lt_of_le_of_lt hg_11 (Nat.le_of_ble_eq_true rfl)) (Nat.le_of_ble_eq_true rfl)).mpr z)
            have hsp := hsp.trans (if_neg c_41)
            refine lv_iload hx hb eX8_tells_67 (lv_at hl 8 rfl) ?_
            refine lv_iconst (v := 3) hx hb eX8_tells_69 (by decide) ?_
            refine lv_icmp_ne (tgt := 78) hx hb eX8_tells_70 (by decide) (fun c_42 => ?_) (fun c_42 => ?_)
            · have c_42 : ¬ g_11 = 3 := fun z => c_42 ((nI_eq (a := g_11) (b := 3) (Nat.lt_of_le_of_lt hg_11 (Nat.le_of_ble_eq_true rfl)) (Nat.le_of_ble_eq_true rfl)).mpr z)
              have hsp := hsp.trans (if_neg c_42)
              refine lv_iload hx hb eX8_tells_78 (lv_at hl 5 rfl) ?_
              exact j_23 _ _ _ _ ⟨p4, rfl, hsp.symm, hP, hD, hS, lv_sub hl [0, 1, 2, 3, 4, 5, 6, 7, 8] rfl⟩
            · have c_42 : g_11 = 3 := (nI_eq (a := g_11) (b := 3) (Nat.lt_of_le_of_lt hg_11 (Nat.le_of_ble_eq_true rfl)) (Nat.le_of_ble_eq_true rfl)).mp c_42
              have hsp := hsp.trans (if_pos c_42)
              refine lv_iload hx hb eX8_tells_73 (lv_at hl 4 rfl) ?_
              refine lv_goto (tgt := 80) hx hb eX8_tells_75 (by decide) ?_
              exact j_23 _ _ _ _ ⟨p3, rfl, hsp.symm, hP, hD, hS, lv_sub hl [0, 1, 2, 3, 4, 5, 6, 7, 8] rfl⟩
          · have c_41 : g_11 = 2 := (nI_eq (a := g_11) (b := 2) (Nat.lt_of_le_of_lt hg_11 (Nat.le_of_ble_eq_true rfl)) (Nat.le_of_ble_eq_true rfl)).mp c_41
            have hsp := hsp.trans (if_pos c_41)
            refine lv_iload_n hx hb eX8_tells_63 rfl (lv_at hl 3 rfl) ?_
            refine lv_goto (tgt := 80) hx hb eX8_tells_64 (by decide) ?_
            exact j_23 _ _ _ _ ⟨p2, rfl, hsp.symm, hP, hD, hS, lv_sub hl [0, 1, 2, 3, 4, 5, 6, 7, 8] rfl⟩
        · have c_40 : g_11 = 1 := (nI_eq (a := g_11) (b := 1) (Nat.lt_of_le_of_lt hg_11 (Nat.le_of_ble_eq_true rfl)) (Nat.le_of_ble_eq_true rfl)).mp c_40
          have hsp := hsp.trans (if_pos c_40)
          refine lv_iload_n hx hb eX8_tells_53 rfl (lv_at hl 2 rfl) ?_
          refine lv_goto (tgt := 80) hx hb eX8_tells_54 (by decide) ?_
          exact j_23 _ _ _ _ ⟨p1, rfl, hsp.symm, hP, hD, hS, lv_sub hl [0, 1, 2, 3, 4, 5, 6, 7, 8] rfl⟩
      · have c_39 : g_11 = 0 := (nI_eq (a := g_11) (b := 0) (Nat.lt_of_le_of_lt hg_11 (Nat.le_of_ble_eq_true rfl)) (Nat.le_of_ble_eq_true rfl)).mp c_39
        have hsp := hsp.trans (if_pos c_39)
        refine lv_iload_n hx hb eX8_tells_43 rfl (lv_at hl 1 rfl) ?_
        refine lv_goto (tgt := 80) hx hb eX8_tells_44 (by decide) ?_
        exact j_23 _ _ _ _ ⟨g_9, rfl, hsp.symm, hP, hD, hS, lv_sub hl [0, 1, 2, 3, 4, 5, 6, 7, 8] rfl⟩
  · have c_1 : np = 0 := (nI_eq (a := np) (b := 0) (Nat.lt_of_le_of_lt hnp (Nat.le_of_ble_eq_true rfl)) (Nat.le_of_ble_eq_true rfl)).mp c_1
    have hsp := hsp.trans (if_pos c_1)
    refine lv_iconst (v := (-1)) hx hb eX8_tells_10 (by decide) ?_
    exact W.iret (v := (-1)) hx hb hr (fun t ht hW => ⟨⟨(-1), (), rfl, (congrArg Prod.fst (hsp.symm.trans hRR)), ⟨q_j0, ftz, ln, tzn, ⟨by rw [ht]; exact hP, va_K.moved hW.alike hK, hD⟩, hln, htzn, (congrArg Prod.snd (hsp.symm.trans hRR))⟩⟩, hS.F ht⟩) hS.2.2 eX8_tells_11
theorem eX8_replays_0 : decode cX8_replays 0 = .ok (.aload_n 0, 1) := by decide +kernel
theorem eX8_replays_1 : decode cX8_replays 1 = .ok (.getfield 69, 3) := by decide +kernel
theorem eX8_replays_4 : decode cX8_replays 4 = .ok (.iconst 0, 1) := by decide +kernel
theorem eX8_replays_5 : decode cX8_replays 5 = .ok (.putfield 107, 3) := by decide +kernel
theorem eX8_replays_8 : decode cX8_replays 8 = .ok (.aload_n 0, 1) := by decide +kernel
theorem eX8_replays_9 : decode cX8_replays 9 = .ok (.iload_n 1, 1) := by decide +kernel
theorem eX8_replays_10 : decode cX8_replays 10 = .ok (.invokevirtual 228, 3) := by decide +kernel
theorem eX8_replays_13 : decode cX8_replays 13 = .ok (.ifCond .eq 25, 3) := by decide +kernel
theorem eX8_replays_38 : decode cX8_replays 38 = .ok (.iconst 0, 1) := by decide +kernel
theorem eX8_replays_39 : decode cX8_replays 39 = .ok (.ireturn, 1) := by decide +kernel
abbrev vs_E_8_replays_0 : List Cond := .code yX8_replays cX8_replays 3 (some .boolean) :: CM
theorem g_E_8_replays_0_E_8_isState_0 : GoodIn vs_E_8_replays_0 (wsV RX8 228 RX8 yX8_isState vs_E_8_isState_0) := cm_gV cm_537 cm_538 cm_539 cm_427 cm_530
noncomputable def sp_E_8_replays_0 : Nat × Nat := (0, 0)
set_option maxHeartbeats 4000000 in
set_option maxRecDepth 100000 in
theorem c_E_8_replays_0 (l : Launch) (dC : Nat → ClassId) (dI : Nat → Nat → Nat) (sz : Nat) (xa : Nat) (xtape : Nat) (tp : Nat) (rd : Nat) (au : Nat) (xdr : Nat) (hy : Nat) (g : Nat) (tg : Nat) (sg : Nat) (rm : Nat) (ti : Nat) (py : Nat) (bu : Nat) (sm : Nat) (nc : Nat) (ne : Nat) (st0 : Int32) (q4 : Nat) (q5 : Nat) (q6 : Nat) (q7 : Nat) (q8 : Nat) (q9 : Nat) (q10 : Nat) (q11 : Nat) (q12 : Nat) (q13 : Nat) (q14 : Nat) (q15 : Nat) (q16 : Nat) (k_f4 : ClassId) (f4 : Nat → Int32) (k_f5 : ClassId) (q_f5 : Nat → Nat) (k_f6 : ClassId) (q_f6 : Nat → Nat) (k_f7 : ClassId) (f7 : Nat → Int32) (k_f8 : ClassId) (q_f8 : Nat → Nat) (k_f9 : ClassId) (q_f9 : Nat → Nat) (k_f10 : ClassId) (f10 : Nat → Int32) (k_f11 : ClassId) (f11 : Nat → Int32) (k_f12 : ClassId) (f12 : Nat → Int32) (k_f13 : ClassId) (f13 : Nat → Int32) (k_f14 : ClassId) (f14 : Nat → Int32) (k_f15 : ClassId) (f15 : Nat → Int32) (k_f16 : ClassId) (f16 : Nat → Int32) (gz : Nat) (g1 : Nat) (g2 : Nat) (g3 : Nat) (g4 : Nat) (g5 : Nat) (gc : Nat) (gfull : Nat) (gx : Int32) (gway : Int32) (gav : Int32) (ggoal : Int32) (gfound : Nat) (gl : Nat) (gsz : Nat) (g16 : Nat) (g17 : Nat) (k_fs2 : ClassId) (fs2 : Nat → Int32) (k_fs3 : ClassId) (fs3 : Nat → Int32) (k_fs4 : ClassId) (fs4 : Nat → Int32) (r0 : Nat) (ln : Nat) (r2 : Nat) (r3 : Nat) (r4 : Nat) (r5 : Nat) (nr : Nat) (r7 : Nat) (r8 : Nat) (tz : Nat) (k_j0 : ClassId) (q_j0 : Nat → Nat) (k_j2 : ClassId) (j2 : Nat → Int32) (k_j3 : ClassId) (q_j3 : Nat → Nat) (k_j4 : ClassId) (q_j4 : Nat → Nat) (k_j5 : ClassId) (j5 : Nat → Int32) (k_j7 : ClassId) (q_j7 : Nat → Nat) (k_j8 : ClassId) (j8 : Nat → Int32) (on : Nat) (si : Nat) (ti0 : Int32) (tm : Nat) (bh : Nat) (k_ftm : ClassId) (ftm : Nat → Int32) (k_fbh : ClassId) (fbh : Nat → Int32) (p0 : Int32) (htp : tp ≤ 900) (hnc : nc ≤ 3) (hne : ne ≤ 14) (hst0 : pm1 7 st0) (hgc : gc ≤ 120) (hgfull : gfull ≤ 1) (hgfound : gfound ≤ 1) (hgl : gl ≤ 1) (hgsz : gsz ≤ 4) (hln : ln ≤ 119) (hnr : nr ≤ 1920) (hon : on ≤ 1) (hsi : si ≤ 7) : Met l yX8_replays vs_E_8_replays_0 ({ frames := 1, cells := 0, slots := 0, locals := 21 }) (va_Pc [.ref xa, .int p0] (pu_B (dC, dI) (xrp__w xa xtape (nI tp) rd au xdr hy g 0 tg sg 0 rm ti py bu sm (nI nc) 0 (nI ne) st0 q4 q5 q6 q7 q8 q9 q10 q11 q12 q13 q14 q15 q16 k_f4 f4 k_f5 (bN 7 q_f5) k_f6 (bN 7 q_f6) k_f7 f7 k_f8 (bN 4 q_f8) k_f9 (bN 2 q_f9) k_f10 f10 k_f11 f11 k_f12 f12 k_f13 f13 k_f14 f14 k_f15 f15 k_f16 f16 gz g1 g2 g3 g4 g5 (nI gc) (nI gfull) gx gway gav ggoal (nI gfound) 120 (nI gl) (nI gsz) g16 g17 k_fs2 fs2 k_fs3 fs3 k_fs4 fs4 r0 (nI ln) r2 r3 r4 r5 (nI nr) r7 r8 tz k_j0 (bN 13 q_j0) k_j2 j2 k_j3 (bN 120 q_j3) k_j4 (bN 120 q_j4) k_j5 j5 k_j7 (bN 120 q_j7) k_j8 j8 (nI on) (nI si) ti0 tm bh k_ftm ftm k_fbh fbh) (xrp__t k_f4 k_f5 k_f6 k_f7 k_f8 k_f9 k_f10 k_f11 k_f12 k_f13 k_f14 k_f15 k_f16 k_fs2 k_fs3 k_fs4 k_j0 k_j2 k_j3 k_j4 k_j5 k_j7 k_j8 k_ftm k_fbh) sz)) (va_Qi (fun (r : Int32) (_ : Unit) => ∃ v : Nat, v ≤ 1 ∧ r = nI v ∧ v = sp_E_8_replays_0.1) (fun _ t => ∃ (z_on : Nat), pu_E (dC, dI) (xrp__w xa xtape (nI tp) rd au xdr hy g 0 tg sg 0 rm ti py bu sm (nI nc) 0 (nI ne) st0 q4 q5 q6 q7 q8 q9 q10 q11 q12 q13 q14 q15 q16 k_f4 f4 k_f5 (bN 7 q_f5) k_f6 (bN 7 q_f6) k_f7 f7 k_f8 (bN 4 q_f8) k_f9 (bN 2 q_f9) k_f10 f10 k_f11 f11 k_f12 f12 k_f13 f13 k_f14 f14 k_f15 f15 k_f16 f16 gz g1 g2 g3 g4 g5 (nI gc) (nI gfull) gx gway gav ggoal (nI gfound) 120 (nI gl) (nI gsz) g16 g17 k_fs2 fs2 k_fs3 fs3 k_fs4 fs4 r0 (nI ln) r2 r3 r4 r5 (nI nr) r7 r8 tz k_j0 (bN 13 q_j0) k_j2 j2 k_j3 (bN 120 q_j3) k_j4 (bN 120 q_j4) k_j5 j5 k_j7 (bN 120 q_j7) k_j8 j8 (nI z_on) (nI si) ti0 tm bh k_ftm ftm k_fbh fbh) (xrp__t k_f4 k_f5 k_f6 k_f7 k_f8 k_f9 k_f10 k_f11 k_f12 k_f13 k_f14 k_f15 k_f16 k_fs2 k_fs3 k_fs4 k_j0 k_j2 k_j3 k_j4 k_j5 k_j7 k_j8 k_ftm k_fbh) (va_A ((xrp__w xa xtape (nI tp) rd au xdr hy g 0 tg sg 0 rm ti py bu sm (nI nc) 0 (nI ne) st0 q4 q5 q6 q7 q8 q9 q10 q11 q12 q13 q14 q15 q16 k_f4 f4 k_f5 (bN 7 q_f5) k_f6 (bN 7 q_f6) k_f7 f7 k_f8 (bN 4 q_f8) k_f9 (bN 2 q_f9) k_f10 f10 k_f11 f11 k_f12 f12 k_f13 f13 k_f14 f14 k_f15 f15 k_f16 f16 gz g1 g2 g3 g4 g5 (nI gc) (nI gfull) gx gway gav ggoal (nI gfound) 120 (nI gl) (nI gsz) g16 g17 k_fs2 fs2 k_fs3 fs3 k_fs4 fs4 r0 (nI ln) r2 r3 r4 r5 (nI nr) r7 r8 tz k_j0 (bN 13 q_j0) k_j2 j2 k_j3 (bN 120 q_j3) k_j4 (bN 120 q_j4) k_j5 j5 k_j7 (bN 120 q_j7) k_j8 j8 (nI on) (nI si) ti0 tm bh k_ftm ftm k_fbh fbh)) sz) t ∧ (z_on ≤ 1) ∧ (z_on = sp_E_8_replays_0.2)) (va_A ((xrp__w xa xtape (nI tp) rd au xdr hy g 0 tg sg 0 rm ti py bu sm (nI nc) 0 (nI ne) st0 q4 q5 q6 q7 q8 q9 q10 q11 q12 q13 q14 q15 q16 k_f4 f4 k_f5 (bN 7 q_f5) k_f6 (bN 7 q_f6) k_f7 f7 k_f8 (bN 4 q_f8) k_f9 (bN 2 q_f9) k_f10 f10 k_f11 f11 k_f12 f12 k_f13 f13 k_f14 f14 k_f15 f15 k_f16 f16 gz g1 g2 g3 g4 g5 (nI gc) (nI gfull) gx gway gav ggoal (nI gfound) 120 (nI gl) (nI gsz) g16 g17 k_fs2 fs2 k_fs3 fs3 k_fs4 fs4 r0 (nI ln) r2 r3 r4 r5 (nI nr) r7 r8 tz k_j0 (bN 13 q_j0) k_j2 j2 k_j3 (bN 120 q_j3) k_j4 (bN 120 q_j4) k_j5 j5 k_j7 (bN 120 q_j7) k_j8 j8 (nI on) (nI si) ti0 tm bh k_ftm ftm k_fbh fbh)) sz)) 0 0 (va_A ((xrp__w xa xtape (nI tp) rd au xdr hy g 0 tg sg 0 rm ti py bu sm (nI nc) 0 (nI ne) st0 q4 q5 q6 q7 q8 q9 q10 q11 q12 q13 q14 q15 q16 k_f4 f4 k_f5 (bN 7 q_f5) k_f6 (bN 7 q_f6) k_f7 f7 k_f8 (bN 4 q_f8) k_f9 (bN 2 q_f9) k_f10 f10 k_f11 f11 k_f12 f12 k_f13 f13 k_f14 f14 k_f15 f15 k_f16 f16 gz g1 g2 g3 g4 g5 (nI gc) (nI gfull) gx gway gav ggoal (nI gfound) 120 (nI gl) (nI gsz) g16 g17 k_fs2 fs2 k_fs3 fs3 k_fs4 fs4 r0 (nI ln) r2 r3 r4 r5 (nI nr) r7 r8 tz k_j0 (bN 13 q_j0) k_j2 j2 k_j3 (bN 120 q_j3) k_j4 (bN 120 q_j4) k_j5 j5 k_j7 (bN 120 q_j7) k_j8 j8 (nI on) (nI si) ti0 tm bh k_ftm ftm k_fbh fbh)) sz) := by
  refine Met.ofW (cc := cX8_replays) (maxL := 3) (ret := (some .boolean)) (by decide) rfl ?_
  intro p e s m args below meth c s₁ B hml hv
  obtain ⟨rfl, rfl, hP, hK, hD0⟩ := hv
  have hx := B.exec
  have hb := B.bytes
  have hr := B.returns
  have hts := atoms_spec (ws := vs_E_8_replays_0) B.pre
  have v_1 := hts (.fieldLink RX8 69 "ClockReach" "play" "LClockReach$Play;") (List.mem_cons_of_mem _ cm_447)
  have v_2 := hts (.fieldLink RX8 107 "ClockReach$Play" "on" "Z") (List.mem_cons_of_mem _ cm_448)
  have hown : s.vm.findClass RX8 = some m.cls := findClass_of_methodNamed B.named
  have hlocks := B.notSynchronized
  have hiX3 : ∀ w ∈ wsX30, w ∈ vs_E_8_replays_0 := fun _ h => List.mem_cons_of_mem _ (cm_X3 h)
  have hiX8 : ∀ w ∈ wsX80, w ∈ vs_E_8_replays_0 := fun _ h => List.mem_cons_of_mem _ (cm_X8 h)
  have hD := hD0.self (sz := s.heap.size)
  generalize hAe : va_A ((xrp__w xa xtape (nI tp) rd au xdr hy g 0 tg sg 0 rm ti py bu sm (nI nc) 0 (nI ne) st0 q4 q5 q6 q7 q8 q9 q10 q11 q12 q13 q14 q15 q16 k_f4 f4 k_f5 (bN 7 q_f5) k_f6 (bN 7 q_f6) k_f7 f7 k_f8 (bN 4 q_f8) k_f9 (bN 2 q_f9) k_f10 f10 k_f11 f11 k_f12 f12 k_f13 f13 k_f14 f14 k_f15 f15 k_f16 f16 gz g1 g2 g3 g4 g5 (nI gc) (nI gfull) gx gway gav ggoal (nI gfound) 120 (nI gl) (nI gsz) g16 g17 k_fs2 fs2 k_fs3 fs3 k_fs4 fs4 r0 (nI ln) r2 r3 r4 r5 (nI nr) r7 r8 tz k_j0 (bN 13 q_j0) k_j2 j2 k_j3 (bN 120 q_j3) k_j4 (bN 120 q_j4) k_j5 j5 k_j7 (bN 120 q_j7) k_j8 j8 (nI on) (nI si) ti0 tm bh k_ftm ftm k_fbh fbh)) s.heap.size = A at hD ⊢
  have hA : ∀ q : Nat, s.heap.size ≤ q → A q := fun q h => by rw [← hAe]; exact Or.inr h
  have hS : va_S A s.heap s.heap [] := va_S.rf
  have hl := lv_entry ([.ref xa, .int p0]) (n := 3) (Nat.le_of_ble_eq_true rfl)
  rw [lg_entry_eq]
  generalize (lg_sl ([.ref xa, .int p0]) ++ List.replicate (3 - (lg_sl ([.ref xa, .int p0])).length) Slot.unset).toArray = ls at hl ⊢
  have hl : lv_has ls 3 [(0, .ref xa), (1, .int p0)] := hl
  obtain ⟨RR, hRR⟩ : ∃ x, x = sp_E_8_replays_0 := ⟨_, rfl⟩
  have hsp := hRR
  refine lv_aload_n hx hb eX8_replays_0 rfl (lv_at hl 0 rfl) ?_
  refine va_get (D := (dC, dI)) (ci := 8) (v := .ref py) (C := RX8) (T := TX8) (N := 16) hx hb hts hiX8 hown hK hP 0 rfl rfl 13 (by decide) v_1 (fun _ h9 => h9) rfl eX8_replays_1 ?_
  refine lv_iconst (v := 0) hx hb eX8_replays_4 (by decide) ?_
  refine va_put (D := (dC, dI)) (ci := 3) (v := .int 0) (ty := .boolean) (C := RX3) (T := TX3) (N := 5) hx hb hts hiX3 tyX3 tyX3_ok nmX3 hown hK hP hD hS 27 rfl rfl 0 (by decide) v_2 (fun _ h9 => h9) rfl (by decide +kernel) rfl rfl (Nat.le_of_ble_eq_true rfl) eX8_replays_5 (fun H locs hP hD hS => ?_)
  have hP : va_P (dC, dI) vwCl (xrp__w xa xtape (nI tp) rd au xdr hy g 0 tg sg 0 rm ti py bu sm (nI nc) 0 (nI ne) st0 q4 q5 q6 q7 q8 q9 q10 q11 q12 q13 q14 q15 q16 k_f4 f4 k_f5 (bN 7 q_f5) k_f6 (bN 7 q_f6) k_f7 f7 k_f8 (bN 4 q_f8) k_f9 (bN 2 q_f9) k_f10 f10 k_f11 f11 k_f12 f12 k_f13 f13 k_f14 f14 k_f15 f15 k_f16 f16 gz g1 g2 g3 g4 g5 (nI gc) (nI gfull) gx gway gav ggoal (nI gfound) 120 (nI gl) (nI gsz) g16 g17 k_fs2 fs2 k_fs3 fs3 k_fs4 fs4 r0 (nI ln) r2 r3 r4 r5 (nI nr) r7 r8 tz k_j0 (bN 13 q_j0) k_j2 j2 k_j3 (bN 120 q_j3) k_j4 (bN 120 q_j4) k_j5 j5 k_j7 (bN 120 q_j7) k_j8 j8 0 (nI si) ti0 tm bh k_ftm ftm k_fbh fbh) H := hP
  have hD : va_D A (xrp__w xa xtape (nI tp) rd au xdr hy g 0 tg sg 0 rm ti py bu sm (nI nc) 0 (nI ne) st0 q4 q5 q6 q7 q8 q9 q10 q11 q12 q13 q14 q15 q16 k_f4 f4 k_f5 (bN 7 q_f5) k_f6 (bN 7 q_f6) k_f7 f7 k_f8 (bN 4 q_f8) k_f9 (bN 2 q_f9) k_f10 f10 k_f11 f11 k_f12 f12 k_f13 f13 k_f14 f14 k_f15 f15 k_f16 f16 gz g1 g2 g3 g4 g5 (nI gc) (nI gfull) gx gway gav ggoal (nI gfound) 120 (nI gl) (nI gsz) g16 g17 k_fs2 fs2 k_fs3 fs3 k_fs4 fs4 r0 (nI ln) r2 r3 r4 r5 (nI nr) r7 r8 tz k_j0 (bN 13 q_j0) k_j2 j2 k_j3 (bN 120 q_j3) k_j4 (bN 120 q_j4) k_j5 j5 k_j7 (bN 120 q_j7) k_j8 j8 0 (nI si) ti0 tm bh k_ftm ftm k_fbh fbh) := hD
  refine lv_aload_n hx hb eX8_replays_8 rfl (lv_at hl 0 rfl) ?_
  refine lv_iload_n hx hb eX8_replays_9 rfl (lv_at hl 1 rfl) ?_
  have hPc : va_P (dC, dI) vwCl (xg0__w xa xtape (nI tp) rd au xdr hy g 0 tg sg 0 rm ti py bu sm gz g1 g2 g3 g4 g5 (nI gc) (nI gfull) gx gway gav ggoal (nI gfound) 120 (nI gl) (nI gsz) g16 g17) _ := hP.sub [0, 15] rfl
  have hDc := hD.sub (ws' := (xg0__w xa xtape (nI tp) rd au xdr hy g 0 tg sg 0 rm ti py bu sm gz g1 g2 g3 g4 g5 (nI gc) (nI gfull) gx gway gav ggoal (nI gfound) 120 (nI gl) (nI gsz) g16 g17)) [0, 15] (by decide) rfl
  have hKc : va_K (dC, dI) vwCl (xg0__t ) s := hK.sub [] rfl
  refine va_calli (va_runV (As := [.int p0]) (rest := []) ⟨hx, hb, hml, hown, hts⟩ (c_E_8_isState_0 l dC dI _ xa xtape tp rd au xdr hy g tg sg 0 rm ti py bu sm gz g1 g2 g3 g4 g5 gc gfull gx gway gav ggoal gfound gl gsz g16 g17 p0 htp (Nat.le_of_ble_eq_true rfl) hgc hgfull hgfound hgl hgsz) (cwV 1 hts g_E_8_replays_0_E_8_isState_0 rfl rfl rfl (by decide +kernel) ⟨Nat.le_of_ble_eq_true rfl, Nat.le_of_ble_eq_true rfl⟩) ⟨pu_bl, va_recv hK hP (ci := 8) (q0 := 0) rfl rfl, pu_in hPc hKc hDc⟩ rfl rfl hl.1 rfl (lv_room (Nat.le_of_ble_eq_true rfl)) eX8_replays_10 ⟨Nat.le_of_ble_eq_true rfl, Nat.le_of_ble_eq_true rfl⟩) hS (fun q _ h => pu_fr hS hA q h) (pu_fr hS hA) (fun r_1 u t H1 locs ht hvm hw hB hz1 hk1 hS => ?_)
  have hP := pu_keep hP hk1
  clear hk1 hz1 ht hvm
  generalize H1 = H at hP hS ⊢
  obtain rfl : r_1 = 0 := hw
  refine lv_if_eq (tgt := 38) hx hb eX8_replays_13 (by decide) (fun _ => ?_) (fun z => absurd z (by decide))
  refine lv_iconst (v := 0) hx hb eX8_replays_38 (by decide) ?_
  exact W.zret (v := 0) (ty := .boolean) hx hb hr (rfl) (fun t ht hW => ⟨⟨0, (), rfl, ⟨0, (Nat.le_of_ble_eq_true rfl), rfl, (congrArg Prod.fst (hsp.symm.trans hRR))⟩, ⟨0, ⟨by rw [ht]; exact hP, va_K.moved hW.alike hK, hD⟩, (Nat.le_of_ble_eq_true rfl), (congrArg Prod.snd (hsp.symm.trans hRR))⟩⟩, hS.F ht⟩) hS.2.2 eX8_replays_39
