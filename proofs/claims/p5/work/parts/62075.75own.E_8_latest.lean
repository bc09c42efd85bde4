theorem eX8_latest_9 : decode cX8_latest 9 = .ok (.iload_n 3, 1) := by decide +kernel
theorem eX8_latest_10 : decode cX8_latest 10 = .ok (.ifCond .lt 10, 3) := by decide +kernel
theorem eX8_latest_13 : decode cX8_latest 13 = .ok (.iload_n 3, 1) := by decide +kernel
theorem eX8_latest_14 : decode cX8_latest 14 = .ok (.sipush 1000, 3) := by decide +kernel
theorem eX8_latest_17 : decode cX8_latest 17 = .ok (.if_icmp .le 5, 3) := by decide +kernel
theorem eX8_latest_22 : decode cX8_latest 22 = .ok (.aload_n 0, 1) := by decide +kernel
theorem eX8_latest_23 : decode cX8_latest 23 = .ok (.getfield 62, 3) := by decide +kernel
theorem eX8_latest_26 : decode cX8_latest 26 = .ok (.aload_n 0, 1) := by decide +kernel
theorem eX8_latest_27 : decode cX8_latest 27 = .ok (.getfield 42, 3) := by decide +kernel
theorem eX8_latest_30 : decode cX8_latest 30 = .ok (.iload_n 1, 1) := by decide +kernel
theorem eX8_latest_31 : decode cX8_latest 31 = .ok (.invokevirtual 323, 3) := by decide +kernel
theorem eX8_latest_34 : decode cX8_latest 34 = .ok (.aload_n 0, 1) := by decide +kernel
theorem eX8_latest_35 : decode cX8_latest 35 = .ok (.getfield 62, 3) := by decide +kernel
theorem eX8_latest_38 : decode cX8_latest 38 = .ok (.aload_n 0, 1) := by decide +kernel
theorem eX8_latest_39 : decode cX8_latest 39 = .ok (.getfield 23, 3) := by decide +kernel
theorem eX8_latest_42 : decode cX8_latest 42 = .ok (.invokevirtual 330, 3) := by decide +kernel
theorem eX8_latest_45 : decode cX8_latest 45 = .ok (.aload_n 0, 1) := by decide +kernel
theorem eX8_latest_46 : decode cX8_latest 46 = .ok (.getfield 62, 3) := by decide +kernel
theorem eX8_latest_49 : decode cX8_latest 49 = .ok (.iload_n 3, 1) := by decide +kernel
theorem eX8_latest_50 : decode cX8_latest 50 = .ok (.sipush 256, 3) := by decide +kernel
theorem eX8_latest_53 : decode cX8_latest 53 = .ok (.imul, 1) := by decide +kernel
theorem eX8_latest_54 : decode cX8_latest 54 = .ok (.invokevirtual 354, 3) := by decide +kernel
theorem eX8_latest_57 : decode cX8_latest 57 = .ok (.ifCond .eq 17, 3) := by decide +kernel
theorem eX8_latest_60 : decode cX8_latest 60 = .ok (.aload_n 0, 1) := by decide +kernel
theorem eX8_latest_61 : decode cX8_latest 61 = .ok (.getfield 62, 3) := by decide +kernel
theorem eX8_latest_64 : decode cX8_latest 64 = .ok (.getfield 340, 3) := by decide +kernel
theorem eX8_latest_67 : decode cX8_latest 67 = .ok (.iload_n 2, 1) := by decide +kernel
theorem eX8_latest_68 : decode cX8_latest 68 = .ok (.iconst 1, 1) := by decide +kernel
theorem eX8_latest_69 : decode cX8_latest 69 = .ok (.iadd, 1) := by decide +kernel
theorem eX8_latest_70 : decode cX8_latest 70 = .ok (.iaload, 1) := by decide +kernel
theorem eX8_latest_71 : decode cX8_latest 71 = .ok (.goto 4, 3) := by decide +kernel
theorem eX8_latest_74 : decode cX8_latest 74 = .ok (.iconst (-1), 1) := by decide +kernel
theorem eX8_latest_75 : decode cX8_latest 75 = .ok (.ireturn, 1) := by decide +kernel
abbrev vs_E_8_latest : List Cond := .code yX8_latest cX8_latest 4 (some .int) :: CM
theorem g_E_8_latest_E_8_isStep : GoodIn vs_E_8_latest (wsV RX8 320 RX8 yX8_isStep vs_E_8_isStep) := cm_gV cm_603 cm_604 cm_605 cm_427 cm_599
theorem g_E_8_latest_E_6_loadRun : GoodIn vs_E_8_latest (wsV RX8 323 RX6 yX6_loadRun vs_E_6_loadRun) := cm_gV cm_606 cm_607 cm_608 cm_383 cm_364
theorem g_E_8_latest_E_6_layRules : GoodIn vs_E_8_latest (wsV RX8 330 RX6 yX6_layRules vs_E_6_layRules) := cm_gV cm_610 cm_611 cm_612 cm_383 cm_370
theorem g_E_8_latest_E_6_findsGreatest : GoodIn vs_E_8_latest (wsV RX8 354 RX6 yX6_findsGreatest vs_E_6_findsGreatest) := cm_gV cm_632 cm_633 cm_634 cm_383 cm_401
noncomputable def sp_E_8_latest (hs : Nat) (nc : Nat) (st0 : Nat) (f4 : Nat → Int32) (q_f5 : Nat → Nat) (q_f6 : Nat → Nat) (f7 : Nat → Int32) (q_f8 : Nat → Nat) (q_f9 : Nat → Nat) (f12 : Nat → Int32) (f13 : Nat → Int32) (gc : Nat) (fs2 : Nat → Int32) (fs3 : Nat → Int32) (fs4 : Nat → Int32) (ln : Nat) (nr : Nat) (q_j0 : Nat → Nat) (j2 : Nat → Int32) (q_j3 : Nat → Nat) (q_j4 : Nat → Nat) (j5 : Nat → Int32) (q_j7 : Nat → Nat) (p0 : Int32) (p1 : Int32) (p2 : Int32) : Int32 × (Nat → Nat) × (Nat → Int32) × (Nat → Nat) × (Nat → Nat) × (Nat → Int32) × (Nat → Nat) × Nat × Nat := (if isStp hs gc fs4 p0 p1 then (slet ((p0 : Int32).toNatClampNeg) (fun n_2 => (slet ((p1 : Int32).toNatClampNeg) (fun n_3 => (if (p2 : Int32) < 0 then ((-1), q_j0, j2, q_j3, q_j4, j5, q_j7, ln, nr) else (if (p2 : Int32) ≤ 1000 then (slet ((p2 : Int32).toNatClampNeg) (fun n_6 => (slet (sp_E_6_loadRun q_j0 fs2 fs3 fs4 n_2) (fun (z_j0_8, z_ln_9) => (slet (sp_E_6_layRules z_ln_9 z_j0_8 q_j3 q_j4 j5 q_j7 nc st0 f4 q_f5 q_f6 f7 q_f8 q_f9 f12 f13) (fun (z_j3_11, z_j4_12, z_j5_13, z_j7_14, z_nr_15) => (slet (sp_E_6_findsGreatest z_ln_9 z_nr_15 j2 z_j3_11 z_j4_12 z_j5_13 (nI (n_6 * 256))) (fun (u_19, z_j2_18) => (if u_19 = 0 then ((-1), z_j0_8, z_j2_18, z_j3_11, z_j4_12, z_j5_13, z_j7_14, z_ln_9, z_nr_15) else (slet (z_j2_18 (n_3 + 1)) (fun y_22 => (y_22, z_j0_8, z_j2_18, z_j3_11, z_j4_12, z_j5_13, z_j7_14, z_ln_9, z_nr_15)))))))))))) else ((-1), q_j0, j2, q_j3, q_j4, j5, q_j7, ln, nr))))))) else ((-1), q_j0, j2, q_j3, q_j4, j5, q_j7, ln, nr))
set_option maxHeartbeats 4000000 in
set_option maxRecDepth 100000 in
theorem c_E_8_latest (l : Launch) (dC : Nat → ClassId) (dI : Nat → Nat → Nat) (sz : Nat) (xa : Nat) (xtape : Nat) (tp : Nat) (rd : Nat) (au : Nat) (xdr : Nat) (hy : Nat) (g : Nat) (hs : Nat) (tg : Nat) (sg : Nat) (ss : Nat) (rm : Nat) (ti : Nat) (py : Nat) (bu : Nat) (sm : Nat) (nc : Nat) (np : Nat) (ne : Nat) (st0 : Nat) (q4 : Nat) (q5 : Nat) (q6 : Nat) (q7 : Nat) (q8 : Nat) (q9 : Nat) (q10 : Nat) (q11 : Nat) (q12 : Nat) (q13 : Nat) (q14 : Nat) (q15 : Nat) (q16 : Nat) (k_f4 : ClassId) (f4 : Nat → Int32) (k_f5 : ClassId) (q_f5 : Nat → Nat) (k_f6 : ClassId) (q_f6 : Nat → Nat) (k_f7 : ClassId) (f7 : Nat → Int32) (k_f8 : ClassId) (q_f8 : Nat → Nat) (k_f9 : ClassId) (q_f9 : Nat → Nat) (k_f10 : ClassId) (f10 : Nat → Int32) (k_f11 : ClassId) (f11 : Nat → Int32) (k_f12 : ClassId) (f12 : Nat → Int32) (k_f13 : ClassId) (f13 : Nat → Int32) (k_f14 : ClassId) (f14 : Nat → Int32) (k_f15 : ClassId) (f15 : Nat → Int32) (k_f16 : ClassId) (f16 : Nat → Int32) (gz : Nat) (g1 : Nat) (g2 : Nat) (g3 : Nat) (g4 : Nat) (g5 : Nat) (gc : Nat) (gfull : Nat) (gx : Int32) (gway : Int32) (gav : Int32) (ggoal : Int32) (gfound : Nat) (gl : Nat) (gsz : Nat) (g16 : Nat) (g17 : Nat) (k_fs2 : ClassId) (fs2 : Nat → Int32) (k_fs3 : ClassId) (fs3 : Nat → Int32) (k_fs4 : ClassId) (fs4 : Nat → Int32) (r0 : Nat) (ln : Nat) (r2 : Nat) (r3 : Nat) (r4 : Nat) (r5 : Nat) (nr : Nat) (r7 : Nat) (r8 : Nat) (tz : Nat) (k_j0 : ClassId) (q_j0 : Nat → Nat) (k_j2 : ClassId) (j2 : Nat → Int32) (k_j3 : ClassId) (q_j3 : Nat → Nat) (k_j4 : ClassId) (q_j4 : Nat → Nat) (k_j5 : ClassId) (j5 : Nat → Int32) (k_j7 : ClassId) (q_j7 : Nat → Nat) (k_j8 : ClassId) (j8 : Nat → Int32) (p0 : Int32) (p1 : Int32) (p2 : Int32) (htp : tp ≤ 900) (hhs : hs ≤ 1) (hss : ss ≤ 1) (hnc : nc ≤ 3) (hnp : np ≤ 8) (hne : ne ≤ 14) (hst0 : st0 ≤ 7) (hgc : gc ≤ 120) (hgfull : gfull ≤ 1) (hgfound : gfound ≤ 1) (hgl : gl ≤ 1) (hgsz : gsz ≤ 4) (hln : ln ≤ 119) (hnr : nr ≤ 1920) (hq0 : gz_ok gc fs2 fs3 fs4) : Met l yX8_latest vs_E_8_latest ({ frames := 3, cells := 0, slots := 0, locals := 74 }) (va_Pc [.ref xa, .int p0, .int p1, .int p2] (pu_B (dC, dI) (xti__w xa xtape (nI tp) rd au xdr hy g (nI hs) tg sg (nI ss) rm ti py bu sm (nI nc) (nI np) (nI ne) (nI st0) q4 q5 q6 q7 q8 q9 q10 q11 q12 q13 q14 q15 q16 k_f4 f4 k_f5 (bN 7 q_f5) k_f6 (bN 7 q_f6) k_f7 f7 k_f8 (bN 4 q_f8) k_f9 (bN 2 q_f9) k_f10 f10 k_f11 f11 k_f12 f12 k_f13 f13 k_f14 f14 k_f15 f15 k_f16 f16 gz g1 g2 g3 g4 g5 (nI gc) (nI gfull) gx gway gav ggoal (nI gfound) 120 (nI gl) (nI gsz) g16 g17 k_fs2 fs2 k_fs3 fs3 k_fs4 fs4 r0 (nI ln) r2 r3 r4 r5 (nI nr) r7 r8 tz k_j0 (bN 13 q_j0) k_j2 j2 k_j3 (bN 120 q_j3) k_j4 (bN 120 q_j4) k_j5 j5 k_j7 (bN 120 q_j7) k_j8 j8) (xti__t k_f4 k_f5 k_f6 k_f7 k_f8 k_f9 k_f10 k_f11 k_f12 k_f13 k_f14 k_f15 k_f16 k_fs2 k_fs3 k_fs4 k_j0 k_j2 k_j3 k_j4 k_j5 k_j7 k_j8) sz)) (va_Qi (fun (r : Int32) (_ : Unit) => r = (sp_E_8_latest hs nc st0 f4 q_f5 q_f6 f7 q_f8 q_f9 f12 f13 gc fs2 fs3 fs4 ln nr q_j0 j2 q_j3 q_j4 j5 q_j7 p0 p1 p2).1) (fun _ t => ∃ (z_j0 : Nat → Nat) (z_j2 : Nat → Int32) (z_j3 : Nat → Nat) (z_j4 : Nat → Nat) (z_j5 : Nat → Int32) (z_j7 : Nat → Nat) (z_ln : Nat) (z_nr : Nat), pu_E (dC, dI) (xti__w xa xtape (nI tp) rd au xdr hy g (nI hs) tg sg (nI ss) rm ti py bu sm (nI nc) (nI np) (nI ne) (nI st0) q4 q5 q6 q7 q8 q9 q10 q11 q12 q13 q14 q15 q16 k_f4 f4 k_f5 (bN 7 q_f5) k_f6 (bN 7 q_f6) k_f7 f7 k_f8 (bN 4 q_f8) k_f9 (bN 2 q_f9) k_f10 f10 k_f11 f11 k_f12 f12 k_f13 f13 k_f14 f14 k_f15 f15 k_f16 f16 gz g1 g2 g3 g4 g5 (nI gc) (nI gfull) gx gway gav ggoal (nI gfound) 120 (nI gl) (nI gsz) g16 g17 k_fs2 fs2 k_fs3 fs3 k_fs4 fs4 r0 (nI z_ln) r2 r3 r4 r5 (nI z_nr) r7 r8 tz k_j0 (bN 13 z_j0) k_j2 z_j2 k_j3 (bN 120 z_j3) k_j4 (bN 120 z_j4) k_j5 z_j5 k_j7 (bN 120 z_j7) k_j8 j8) (xti__t k_f4 k_f5 k_f6 k_f7 k_f8 k_f9 k_f10 k_f11 k_f12 k_f13 k_f14 k_f15 k_f16 k_fs2 k_fs3 k_fs4 k_j0 k_j2 k_j3 k_j4 k_j5 k_j7 k_j8) (va_A ((xti__w xa xtape (nI tp) rd au xdr hy g (nI hs) tg sg (nI ss) rm ti py bu sm (nI nc) (nI np) (nI ne) (nI st0) q4 q5 q6 q7 q8 q9 q10 q11 q12 q13 q14 q15 q16 k_f4 f4 k_f5 (bN 7 q_f5) k_f6 (bN 7 q_f6) k_f7 f7 k_f8 (bN 4 q_f8) k_f9 (bN 2 q_f9) k_f10 f10 k_f11 f11 k_f12 f12 k_f13 f13 k_f14 f14 k_f15 f15 k_f16 f16 gz g1 g2 g3 g4 g5 (nI gc) (nI gfull) gx gway gav ggoal (nI gfound) 120 (nI gl) (nI gsz) g16 g17 k_fs2 fs2 k_fs3 fs3 k_fs4 fs4 r0 (nI ln) r2 r3 r4 r5 (nI nr) r7 r8 tz k_j0 (bN 13 q_j0) k_j2 j2 k_j3 (bN 120 q_j3) k_j4 (bN 120 q_j4) k_j5 j5 k_j7 (bN 120 q_j7) k_j8 j8)) sz) t ∧ (z_ln ≤ 119) ∧ (z_nr ≤ 1920) ∧ ((z_j0, z_j2, z_j3, z_j4, z_j5, z_j7, z_ln, z_nr) = (sp_E_8_latest hs nc st0 f4 q_f5 q_f6 f7 q_f8 q_f9 f12 f13 gc fs2 fs3 fs4 ln nr q_j0 j2 q_j3 q_j4 j5 q_j7 p0 p1 p2).2)) (va_A ((xti__w xa xtape (nI tp) rd au xdr hy g (nI hs) tg sg (nI ss) rm ti py bu sm (nI nc) (nI np) (nI ne) (nI st0) q4 q5 q6 q7 q8 q9 q10 q11 q12 q13 q14 q15 q16 k_f4 f4 k_f5 (bN 7 q_f5) k_f6 (bN 7 q_f6) k_f7 f7 k_f8 (bN 4 q_f8) k_f9 (bN 2 q_f9) k_f10 f10 k_f11 f11 k_f12 f12 k_f13 f13 k_f14 f14 k_f15 f15 k_f16 f16 gz g1 g2 g3 g4 g5 (nI gc) (nI gfull) gx gway gav ggoal (nI gfound) 120 (nI gl) (nI gsz) g16 g17 k_fs2 fs2 k_fs3 fs3 k_fs4 fs4 r0 (nI ln) r2 r3 r4 r5 (nI nr) r7 r8 tz k_j0 (bN 13 q_j0) k_j2 j2 k_j3 (bN 120 q_j3) k_j4 (bN 120 q_j4) k_j5 j5 k_j7 (bN 120 q_j7) k_j8 j8)) sz)) 0 0 (va_A ((xti__w xa xtape (nI tp) rd au xdr hy g (nI hs) tg sg (nI ss) rm ti py bu sm (nI nc) (nI np) (nI ne) (nI st0) q4 q5 q6 q7 q8 q9 q10 q11 q12 q13 q14 q15 q16 k_f4 f4 k_f5 (bN 7 q_f5) k_f6 (bN 7 q_f6) k_f7 f7 k_f8 (bN 4 q_f8) k_f9 (bN 2 q_f9) k_f10 f10 k_f11 f11 k_f12 f12 k_f13 f13 k_f14 f14 k_f15 f15 k_f16 f16 gz g1 g2 g3 g4 g5 (nI gc) (nI gfull) gx gway gav ggoal (nI gfound) 120 (nI gl) (nI gsz) g16 g17 k_fs2 fs2 k_fs3 fs3 k_fs4 fs4 r0 (nI ln) r2 r3 r4 r5 (nI nr) r7 r8 tz k_j0 (bN 13 q_j0) k_j2 j2 k_j3 (bN 120 q_j3) k_j4 (bN 120 q_j4) k_j5 j5 k_j7 (bN 120 q_j7) k_j8 j8)) sz) := by
  refine Met.ofW (cc := cX8_latest) (maxL := 4) (ret := (some .int)) (by decide) rfl ?_
  intro p e s m args below meth c s₁ B hml hv
  obtain ⟨rfl, rfl, hP, hK, hD0⟩ := hv
  have hx := B.exec
  have hb := B.bytes
  have hr := B.returns
  have hts := atoms_spec (ws := vs_E_8_latest) B.pre
  have v_6 := hts (.fieldLink RX8 62 "ClockReach" "timing" "LClockReach$Timing;") (List.mem_cons_of_mem _ cm_601)
  have v_7 := hts (.fieldLink RX8 42 "ClockReach" "shown" "LClockReach$Graph;") (List.mem_cons_of_mem _ cm_456)
  have v_13 := hts (.fieldLink RX8 23 "ClockReach" "model" "LClockReach$Automaton;") (List.mem_cons_of_mem _ cm_434)
  have v_22 := hts (.fieldLink RX8 340 "ClockReach$Timing" "at" "[I") (List.mem_cons_of_mem _ cm_617)
  have hown : s.vm.findClass RX8 = some m.cls := findClass_of_methodNamed B.named
  have hlocks := B.notSynchronized
  have hiX6 : ∀ w ∈ wsX60, w ∈ vs_E_8_latest := fun _ h => List.mem_cons_of_mem _ (cm_X6 h)
  have hiX8 : ∀ w ∈ wsX80, w ∈ vs_E_8_latest := fun _ h => List.mem_cons_of_mem _ (cm_X8 h)
  have hD := hD0.self (sz := s.heap.size)
  generalize hAe : va_A ((xti__w xa xtape (nI tp) rd au xdr hy g (nI hs) tg sg (nI ss) rm ti py bu sm (nI nc) (nI np) (nI ne) (nI st0) q4 q5 q6 q7 q8 q9 q10 q11 q12 q13 q14 q15 q16 k_f4 f4 k_f5 (bN 7 q_f5) k_f6 (bN 7 q_f6) k_f7 f7 k_f8 (bN 4 q_f8) k_f9 (bN 2 q_f9) k_f10 f10 k_f11 f11 k_f12 f12 k_f13 f13 k_f14 f14 k_f15 f15 k_f16 f16 gz g1 g2 g3 g4 g5 (nI gc) (nI gfull) gx gway gav ggoal (nI gfound) 120 (nI gl) (nI gsz) g16 g17 k_fs2 fs2 k_fs3 fs3 k_fs4 fs4 r0 (nI ln) r2 r3 r4 r5 (nI nr) r7 r8 tz k_j0 (bN 13 q_j0) k_j2 j2 k_j3 (bN 120 q_j3) k_j4 (bN 120 q_j4) k_j5 j5 k_j7 (bN 120 q_j7) k_j8 j8)) s.heap.size = A at hD ⊢
  have hA : ∀ q : Nat, s.heap.size ≤ q → A q := fun q h => by rw [← hAe]; exact Or.inr h
  have hS : va_S A s.heap s.heap [] := va_S.rf
  have hl := lv_entry ([.ref xa, .int p0, .int p1, .int p2]) (n := 4) (Nat.le_of_ble_eq_true rfl)
  rw [lg_entry_eq]
  generalize (lg_sl ([.ref xa, .int p0, .int p1, .int p2]) ++ List.replicate (4 - (lg_sl ([.ref xa, .int p0, .int p1, .int p2])).length) Slot.unset).toArray = ls at hl ⊢
  have hl : lv_has ls 4 [(0, .ref xa), (1, .int p0), (2, .int p1), (3, .int p2)] := hl
  obtain ⟨RR, hRR⟩ : ∃ x, x = (sp_E_8_latest hs nc st0 f4 q_f5 q_f6 f7 q_f8 q_f9 f12 f13 gc fs2 fs3 fs4 ln nr q_j0 j2 q_j3 q_j4 j5 q_j7 p0 p1 p2) := ⟨_, rfl⟩
  have hsp := hRR
  refine lv_aload_n hx hb eX8_latest_0 rfl (lv_at hl 0 rfl) ?_
  refine lv_iload_n hx hb eX8_latest_1 rfl (lv_at hl 1 rfl) ?_
  refine lv_iload_n hx hb eX8_latest_2 rfl (lv_at hl 2 rfl) ?_
  have hPc : va_P (dC, dI) vwCl (xgl__w xa xtape (nI tp) rd au xdr hy g (nI hs) tg sg (nI ss) rm ti py bu sm gz g1 g2 g3 g4 g5 (nI gc) (nI gfull) gx gway gav ggoal (nI gfound) 120 (nI gl) (nI gsz) g16 g17 k_fs2 fs2 k_fs3 fs3 k_fs4 fs4) _ := hP.sub [0, 15, 16, 17, 18] rfl
  have hDc := hD.sub (ws' := (xgl__w xa xtape (nI tp) rd au xdr hy g (nI hs) tg sg (nI ss) rm ti py bu sm gz g1 g2 g3 g4 g5 (nI gc) (nI gfull) gx gway gav ggoal (nI gfound) 120 (nI gl) (nI gsz) g16 g17 k_fs2 fs2 k_fs3 fs3 k_fs4 fs4)) [0, 15, 16, 17, 18] (by decide) rfl
  have hKc : va_K (dC, dI) vwCl (xgl__t k_fs2 k_fs3 k_fs4) s := hK.sub [13, 14, 15] rfl
  refine va_calli (va_runV (As := [.int p0, .int p1]) (rest := []) ⟨hx, hb, hml, hown, hts⟩ (c_E_8_isStep l dC dI _ xa xtape tp rd au xdr hy g hs tg sg ss rm ti py bu sm gz g1 g2 g3 g4 g5 gc gfull gx gway gav ggoal gfound gl gsz g16 g17 k_fs2 fs2 k_fs3 fs3 k_fs4 fs4 p0 p1 htp hhs hss hgc hgfull hgfound hgl hgsz (by assumption)) (cwV 2 hts g_E_8_latest_E_8_isStep rfl rfl rfl (by decide +kernel) ⟨Nat.le_of_ble_eq_true rfl, Nat.le_of_ble_eq_true rfl⟩) ⟨pu_bl, va_recv hK hP (ci := 8) (q0 := 0) rfl rfl, pu_in hPc hKc hDc⟩ rfl rfl hl.1 rfl (lv_room (Nat.le_of_ble_eq_true rfl)) eX8_latest_3 ⟨Nat.le_of_ble_eq_true rfl, Nat.le_of_ble_eq_true rfl⟩) hS (fun q _ h => pu_fr hS hA q h) (pu_fr hS hA) (fun r_1 u t H1 locs ht hvm hw hB hz1 hk1 hS => ?_)
  have hP := pu_keep hP hk1
  clear hk1 hz1 ht hvm
  generalize H1 = H at hP hS ⊢
  rcases hw with ⟨rfl, n_2, n_3, hn_2, hn_3, rfl, rfl, hst⟩ | ⟨rfl, hn⟩
  · have hsp := hsp.trans (if_pos hst)
    have hsp := hsp.trans (slet_eq (nI_cl (n := n_2) (by omega)))
    have hsp := hsp.trans (slet_eq (nI_cl (n := n_3) (by omega)))
    refine lv_if_eq (tgt := 20) hx hb eX8_latest_6 (by decide) (fun z => absurd z (by decide)) (fun _ => ?_)
    refine lv_iload_n hx hb eX8_latest_9 rfl (lv_at hl 3 rfl) ?_
    refine lv_if_lt (tgt := 20) hx hb eX8_latest_10 (by decide) (fun c_4 => ?_) (fun c_4 => ?_)
    · have hcc_4 := c_4
      have hsp := hsp.trans (if_pos c_4)
      refine lv_iconst (v := (-1)) hx hb eX8_latest_20 (by decide) ?_
      exact W.iret (v := (-1)) hx hb hr (fun t ht hW => ⟨⟨(-1), (), rfl, (congrArg Prod.fst (hsp.symm.trans hRR)), ⟨q_j0, j2, q_j3, q_j4, j5, q_j7, ln, nr, ⟨by rw [ht]; exact hP, va_K.moved hW.alike hK, hD⟩, hln, hnr, (congrArg Prod.snd (hsp.symm.trans hRR))⟩⟩, hS.F ht⟩) hS.2.2 eX8_latest_21
    · have hcc_4 := c_4
      have hsp := hsp.trans (if_neg c_4)
      have lp2 : ¬ p2 < 0 := c_4
      refine lv_iload_n hx hb eX8_latest_13 rfl (lv_at hl 3 rfl) ?_
      refine lv_sipush (v := 1000) hx hb eX8_latest_14 (by decide) ?_
      refine lv_icmp_le (tgt := 22) hx hb eX8_latest_17 (by decide) (fun c_5 => ?_) (fun c_5 => ?_)
      · have hcc_5 := c_5
        have hsp := hsp.trans (if_pos c_5)
        obtain ⟨n_6, hn_6, rfl⟩ := pu_ule (b := 1000) (by omega) lp2 (c_5)
        have hsp := hsp.trans (slet_eq (nI_cl (n := n_6) (by omega)))
        refine lv_aload_n hx hb eX8_latest_22 rfl (lv_at hl 0 rfl) ?_
        refine va_get (D := (dC, dI)) (ci := 8) (v := .ref ti) (C := RX8) (T := TX8) (N := 16) hx hb hts hiX8 hown hK hP 0 rfl rfl 12 (by decide) v_6 (fun _ h9 => h9) rfl eX8_latest_23 ?_
        refine lv_aload_n hx hb eX8_latest_26 rfl (lv_at hl 0 rfl) ?_
        refine va_get (D := (dC, dI)) (ci := 8) (v := .ref g) (C := RX8) (T := TX8) (N := 16) hx hb hts hiX8 hown hK hP 0 rfl rfl 6 (by decide) v_7 (fun _ h9 => h9) rfl eX8_latest_27 ?_
        refine lv_iload_n hx hb eX8_latest_30 rfl (lv_at hl 1 rfl) ?_
        have hPc : va_P (dC, dI) vwCl (tg__w ti r0 (nI ln) r2 r3 r4 r5 (nI nr) r7 r8 tz k_j0 (bN 13 q_j0) k_j2 j2 k_j3 (bN 120 q_j3) k_j4 (bN 120 q_j4) k_j5 j5 k_j7 (bN 120 q_j7) k_j8 j8 g gz g1 g2 g3 g4 g5 (nI gc) (nI gfull) gx gway gav ggoal (nI gfound) 120 (nI gl) (nI gsz) g16 g17 k_fs2 fs2 k_fs3 fs3 k_fs4 fs4) _ := hP.sub [19, 20, 21, 22, 23, 24, 25, 26, 15, 16, 17, 18] rfl
        have hDc := hD.sub (ws' := (tg__w ti r0 (nI ln) r2 r3 r4 r5 (nI nr) r7 r8 tz k_j0 (bN 13 q_j0) k_j2 j2 k_j3 (bN 120 q_j3) k_j4 (bN 120 q_j4) k_j5 j5 k_j7 (bN 120 q_j7) k_j8 j8 g gz g1 g2 g3 g4 g5 (nI gc) (nI gfull) gx gway gav ggoal (nI gfound) 120 (nI gl) (nI gsz) g16 g17 k_fs2 fs2 k_fs3 fs3 k_fs4 fs4)) [19, 20, 21, 22, 23, 24, 25, 26, 15, 16, 17, 18] (by decide) rfl
        have hKc : va_K (dC, dI) vwCl (tg__t k_j0 k_j2 k_j3 k_j4 k_j5 k_j7 k_j8 k_fs2 k_fs3 k_fs4) s := hK.sub [16, 17, 18, 19, 20, 21, 22, 13, 14, 15] rfl
        have hFc := pu_free hDc hS hA
        refine va_callv (va_runV (As := [.ref g, .int (nI n_2)]) (rest := []) ⟨hx, hb, hml, hown, hts⟩ (c_E_6_loadRun l dC dI _ ti r0 ln r2 r3 r4 r5 nr r7 r8 tz k_j0 q_j0 k_j2 j2 k_j3 q_j3 k_j4 q_j4 k_j5 j5 k_j7 q_j7 k_j8 j8 g gz g1 g2 g3 g4 g5 gc gfull gx gway gav ggoal gfound gl gsz g16 g17 k_fs2 fs2 k_fs3 fs3 k_fs4 fs4 n_2 hln hnr hgc hgfull hgfound hgl hgsz (by omega) (by first | assumption | exact gz_0) (by omega)) (cwV 2 hts g_E_8_latest_E_6_loadRun rfl rfl rfl (by decide +kernel) ⟨Nat.le_of_ble_eq_true rfl, Nat.le_of_ble_eq_true rfl⟩) ⟨pu_bl, va_recv hK hP (ci := 6) (q0 := 19) rfl rfl, pu_in hPc hKc hDc⟩ rfl rfl hl.1 rfl (lv_room (Nat.le_of_ble_eq_true rfl)) eX8_latest_31 ⟨Nat.le_of_ble_eq_true rfl, Nat.le_of_ble_eq_true rfl⟩) hS (fun q _ h => hFc q h) hFc (fun u t H1 locs ht hvm hw hB hz1 hk1 hS => ?_)
        obtain ⟨z_j0_8, z_ln_9, ⟨hP1, -, hD1⟩, hz_ln_9, xr_7_0⟩ := hB
        rw [ht] at hP1
        obtain ⟨hP, hD⟩ := pj_a (X := (xti__w xa xtape (nI tp) rd au xdr hy g (nI hs) tg sg (nI ss) rm ti py bu sm (nI nc) (nI np) (nI ne) (nI st0) q4 q5 q6 q7 q8 q9 q10 q11 q12 q13 q14 q15 q16 k_f4 f4 k_f5 (bN 7 q_f5) k_f6 (bN 7 q_f6) k_f7 f7 k_f8 (bN 4 q_f8) k_f9 (bN 2 q_f9) k_f10 f10 k_f11 f11 k_f12 f12 k_f13 f13 k_f14 f14 k_f15 f15 k_f16 f16 gz g1 g2 g3 g4 g5 (nI gc) (nI gfull) gx gway gav ggoal (nI gfound) 120 (nI gl) (nI gsz) g16 g17 k_fs2 fs2 k_fs3 fs3 k_fs4 fs4 r0 (nI ln) r2 r3 r4 r5 (nI nr) r7 r8 tz k_j0 (bN 13 q_j0) k_j2 j2 k_j3 (bN 120 q_j3) k_j4 (bN 120 q_j4) k_j5 j5 k_j7 (bN 120 q_j7) k_j8 j8)) (X' := (xti__w xa xtape (nI tp) rd au xdr hy g (nI hs) tg sg (nI ss) rm ti py bu sm (nI nc) (nI np) (nI ne) (nI st0) q4 q5 q6 q7 q8 q9 q10 q11 q12 q13 q14 q15 q16 k_f4 f4 k_f5 (bN 7 q_f5) k_f6 (bN 7 q_f6) k_f7 f7 k_f8 (bN 4 q_f8) k_f9 (bN 2 q_f9) k_f10 f10 k_f11 f11 k_f12 f12 k_f13 f13 k_f14 f14 k_f15 f15 k_f16 f16 gz g1 g2 g3 g4 g5 (nI gc) (nI gfull) gx gway gav ggoal (nI gfound) 120 (nI gl) (nI gsz) g16 g17 k_fs2 fs2 k_fs3 fs3 k_fs4 fs4 r0 (nI z_ln_9) r2 r3 r4 r5 (nI nr) r7 r8 tz k_j0 (bN 13 z_j0_8) k_j2 j2 k_j3 (bN 120 q_j3) k_j4 (bN 120 q_j4) k_j5 j5 k_j7 (bN 120 q_j7) k_j8 j8)) (wc := (tg__w ti r0 (nI ln) r2 r3 r4 r5 (nI nr) r7 r8 tz k_j0 (bN 13 q_j0) k_j2 j2 k_j3 (bN 120 q_j3) k_j4 (bN 120 q_j4) k_j5 j5 k_j7 (bN 120 q_j7) k_j8 j8 g gz g1 g2 g3 g4 g5 (nI gc) (nI gfull) gx gway gav ggoal (nI gfound) 120 (nI gl) (nI gsz) g16 g17 k_fs2 fs2 k_fs3 fs3 k_fs4 fs4)) (w1 := (tg__w ti r0 (nI z_ln_9) r2 r3 r4 r5 (nI nr) r7 r8 tz k_j0 (bN 13 z_j0_8) k_j2 j2 k_j3 (bN 120 q_j3) k_j4 (bN 120 q_j4) k_j5 j5 k_j7 (bN 120 q_j7) k_j8 j8 g gz g1 g2 g3 g4 g5 (nI gc) (nI gfull) gx gway gav ggoal (nI gfound) 120 (nI gl) (nI gsz) g16 g17 k_fs2 fs2 k_fs3 fs3 k_fs4 fs4)) hP hD [19, 20, 21, 22, 23, 24, 25, 26, 15, 16, 17, 18] [12, 13, 14, 15, 16, 17, 18, 19, 20, 21, 22, 23, 24, 25, 26, 8, 9, 10, 11, 0, 1, 2, 3, 4, 5, 6, 7] 12 rfl hk1 hP1 rfl rfl rfl (by decide)
        clear hP1 hD1 hFc hPc hDc hKc
        clear hk1 hz1 ht hvm
        generalize H1 = H at hP hS ⊢
        have hsp := hsp.trans (slet_eq xr_7_0)
        refine lv_aload_n hx hb eX8_latest_34 rfl (lv_at hl 0 rfl) ?_
        refine va_get (D := (dC, dI)) (ci := 8) (v := .ref ti) (C := RX8) (T := TX8) (N := 16) hx hb hts hiX8 hown hK hP 0 rfl rfl 12 (by decide) v_6 (fun _ h9 => h9) rfl eX8_latest_35 ?_
        refine lv_aload_n hx hb eX8_latest_38 rfl (lv_at hl 0 rfl) ?_
        refine va_get (D := (dC, dI)) (ci := 8) (v := .ref au) (C := RX8) (T := TX8) (N := 16) hx hb hts hiX8 hown hK hP 0 rfl rfl 3 (by decide) v_13 (fun _ h9 => h9) rfl eX8_latest_39 ?_
        have hPc : va_P (dC, dI) vwCl (ta__w ti r0 (nI z_ln_9) r2 r3 r4 r5 (nI nr) r7 r8 tz k_j0 (bN 13 z_j0_8) k_j2 j2 k_j3 (bN 120 q_j3) k_j4 (bN 120 q_j4) k_j5 j5 k_j7 (bN 120 q_j7) k_j8 j8 au (nI nc) (nI np) (nI ne) (nI st0) q4 q5 q6 q7 q8 q9 q10 q11 q12 q13 q14 q15 q16 k_f4 f4 k_f5 (bN 7 q_f5) k_f6 (bN 7 q_f6) k_f7 f7 k_f8 (bN 4 q_f8) k_f9 (bN 2 q_f9) k_f10 f10 k_f11 f11 k_f12 f12 k_f13 f13 k_f14 f14 k_f15 f15 k_f16 f16) _ := hP.sub [19, 20, 21, 22, 23, 24, 25, 26, 1, 2, 3, 4, 5, 6, 7, 8, 9, 10, 11, 12, 13, 14] rfl
        have hDc := hD.sub (ws' := (ta__w ti r0 (nI z_ln_9) r2 r3 r4 r5 (nI nr) r7 r8 tz k_j0 (bN 13 z_j0_8) k_j2 j2 k_j3 (bN 120 q_j3) k_j4 (bN 120 q_j4) k_j5 j5 k_j7 (bN 120 q_j7) k_j8 j8 au (nI nc) (nI np) (nI ne) (nI st0) q4 q5 q6 q7 q8 q9 q10 q11 q12 q13 q14 q15 q16 k_f4 f4 k_f5 (bN 7 q_f5) k_f6 (bN 7 q_f6) k_f7 f7 k_f8 (bN 4 q_f8) k_f9 (bN 2 q_f9) k_f10 f10 k_f11 f11 k_f12 f12 k_f13 f13 k_f14 f14 k_f15 f15 k_f16 f16)) [19, 20, 21, 22, 23, 24, 25, 26, 1, 2, 3, 4, 5, 6, 7, 8, 9, 10, 11, 12, 13, 14] (by decide) rfl
        have hKc : va_K (dC, dI) vwCl (ta__t k_j0 k_j2 k_j3 k_j4 k_j5 k_j7 k_j8 k_f4 k_f5 k_f6 k_f7 k_f8 k_f9 k_f10 k_f11 k_f12 k_f13 k_f14 k_f15 k_f16) s := hK.sub [16, 17, 18, 19, 20, 21, 22, 0, 1, 2, 3, 4, 5, 6, 7, 8, 9, 10, 11, 12] rfl
        have hFc := pu_free hDc hS hA
        refine va_callv (va_runV (As := [.ref au]) (rest := []) ⟨hx, hb, hml, hown, hts⟩ (c_E_6_layRules l dC dI _ ti r0 z_ln_9 r2 r3 r4 r5 nr r7 r8 tz k_j0 z_j0_8 k_j2 j2 k_j3 q_j3 k_j4 q_j4 k_j5 j5 k_j7 q_j7 k_j8 j8 au nc np ne st0 q4 q5 q6 q7 q8 q9 q10 q11 q12 q13 q14 q15 q16 k_f4 f4 k_f5 q_f5 k_f6 q_f6 k_f7 f7 k_f8 q_f8 k_f9 q_f9 k_f10 f10 k_f11 f11 k_f12 f12 k_f13 f13 k_f14 f14 k_f15 f15 k_f16 f16 hz_ln_9 hnr hnc hnp hne hst0) (cwV 1 hts g_E_8_latest_E_6_layRules rfl rfl rfl (by decide +kernel) ⟨Nat.le_of_ble_eq_true rfl, Nat.le_of_ble_eq_true rfl⟩) ⟨pu_bl, va_recv hK hP (ci := 6) (q0 := 19) rfl rfl, pu_in hPc hKc hDc⟩ rfl rfl hl.1 rfl (lv_room (Nat.le_of_ble_eq_true rfl)) eX8_latest_42 ⟨Nat.le_of_ble_eq_true rfl, Nat.le_of_ble_eq_true rfl⟩) hS (fun q _ h => hFc q h) hFc (fun u t H1 locs ht hvm hw hB hz1 hk1 hS => ?_)
        obtain ⟨z_j3_11, z_j4_12, z_j5_13, z_j7_14, z_nr_15, ⟨hP1, -, hD1⟩, hz_nr_15, xr_10_0⟩ := hB
        rw [ht] at hP1
        obtain ⟨hP, hD⟩ := pj_a (X := (xti__w xa xtape (nI tp) rd au xdr hy g (nI hs) tg sg (nI ss) rm ti py bu sm (nI nc) (nI np) (nI ne) (nI st0) q4 q5 q6 q7 q8 q9 q10 q11 q12 q13 q14 q15 q16 k_f4 f4 k_f5 (bN 7 q_f5) k_f6 (bN 7 q_f6) k_f7 f7 k_f8 (bN 4 q_f8) k_f9 (bN 2 q_f9) k_f10 f10 k_f11 f11 k_f12 f12 k_f13 f13 k_f14 f14 k_f15 f15 k_f16 f16 gz g1 g2 g3 g4 g5 (nI gc) (nI gfull) gx gway gav ggoal (nI gfound) 120 (nI gl) (nI gsz) g16 g17 k_fs2 fs2 k_fs3 fs3 k_fs4 fs4 r0 (nI z_ln_9) r2 r3 r4 r5 (nI nr) r7 r8 tz k_j0 (bN 13 z_j0_8) k_j2 j2 k_j3 (bN 120 q_j3) k_j4 (bN 120 q_j4) k_j5 j5 k_j7 (bN 120 q_j7) k_j8 j8)) (X' := (xti__w xa xtape (nI tp) rd au xdr hy g (nI hs) tg sg (nI ss) rm ti py bu sm (nI nc) (nI np) (nI ne) (nI st0) q4 q5 q6 q7 q8 q9 q10 q11 q12 q13 q14 q15 q16 k_f4 f4 k_f5 (bN 7 q_f5) k_f6 (bN 7 q_f6) k_f7 f7 k_f8 (bN 4 q_f8) k_f9 (bN 2 q_f9) k_f10 f10 k_f11 f11 k_f12 f12 k_f13 f13 k_f14 f14 k_f15 f15 k_f16 f16 gz g1 g2 g3 g4 g5 (nI gc) (nI gfull) gx gway gav ggoal (nI gfound) 120 (nI gl) (nI gsz) g16 g17 k_fs2 fs2 k_fs3 fs3 k_fs4 fs4 r0 (nI z_ln_9) r2 r3 r4 r5 (nI z_nr_15) r7 r8 tz k_j0 (bN 13 z_j0_8) k_j2 j2 k_j3 (bN 120 z_j3_11) k_j4 (bN 120 z_j4_12) k_j5 z_j5_13 k_j7 (bN 120 z_j7_14) k_j8 j8)) (wc := (ta__w ti r0 (nI z_ln_9) r2 r3 r4 r5 (nI nr) r7 r8 tz k_j0 (bN 13 z_j0_8) k_j2 j2 k_j3 (bN 120 q_j3) k_j4 (bN 120 q_j4) k_j5 j5 k_j7 (bN 120 q_j7) k_j8 j8 au (nI nc) (nI np) (nI ne) (nI st0) q4 q5 q6 q7 q8 q9 q10 q11 q12 q13 q14 q15 q16 k_f4 f4 k_f5 (bN 7 q_f5) k_f6 (bN 7 q_f6) k_f7 f7 k_f8 (bN 4 q_f8) k_f9 (bN 2 q_f9) k_f10 f10 k_f11 f11 k_f12 f12 k_f13 f13 k_f14 f14 k_f15 f15 k_f16 f16)) (w1 := (ta__w ti r0 (nI z_ln_9) r2 r3 r4 r5 (nI z_nr_15) r7 r8 tz k_j0 (bN 13 z_j0_8) k_j2 j2 k_j3 (bN 120 z_j3_11) k_j4 (bN 120 z_j4_12) k_j5 z_j5_13 k_j7 (bN 120 z_j7_14) k_j8 j8 au (nI nc) (nI np) (nI ne) (nI st0) q4 q5 q6 q7 q8 q9 q10 q11 q12 q13 q14 q15 q16 k_f4 f4 k_f5 (bN 7 q_f5) k_f6 (bN 7 q_f6) k_f7 f7 k_f8 (bN 4 q_f8) k_f9 (bN 2 q_f9) k_f10 f10 k_f11 f11 k_f12 f12 k_f13 f13 k_f14 f14 k_f15 f15 k_f16 f16)) hP hD [19, 20, 21, 22, 23, 24, 25, 26, 1, 2, 3, 4, 5, 6, 7, 8, 9, 10, 11, 12, 13, 14] [22, 8, 9, 10, 11, 12, 13, 14, 15, 16, 17, 18, 19, 20, 21, 37, 38, 39, 40, 0, 1, 2, 3, 4, 5, 6, 7] 22 rfl hk1 hP1 rfl rfl rfl (by decide)
        clear hP1 hD1 hFc hPc hDc hKc
        clear hk1 hz1 ht hvm
        generalize H1 = H at hP hS ⊢
        have hsp := hsp.trans (slet_eq xr_10_0)
        refine lv_aload_n hx hb eX8_latest_45 rfl (lv_at hl 0 rfl) ?_
        refine va_get (D := (dC, dI)) (ci := 8) (v := .ref ti) (C := RX8) (T := TX8) (N := 16) hx hb hts hiX8 hown hK hP 0 rfl rfl 12 (by decide) v_6 (fun _ h9 => h9) rfl eX8_latest_46 ?_
        refine lv_iload_n hx hb eX8_latest_49 rfl (lv_at hl 3 rfl) ?_
        refine lv_sipush (v := 256) hx hb eX8_latest_50 (by decide) ?_
        refine lv_imul hx hb eX8_latest_53 ?_
        refine lv_topi (fun y_16 ey_16 => ?_)
        obtain rfl : y_16 = (nI (n_6 * 256)) := ey_16.trans (pk_mul n_6 256)
        have hPc : va_P (dC, dI) vwCl (ti__w ti r0 (nI z_ln_9) r2 r3 r4 r5 (nI z_nr_15) r7 r8 tz k_j0 (bN 13 z_j0_8) k_j2 j2 k_j3 (bN 120 z_j3_11) k_j4 (bN 120 z_j4_12) k_j5 z_j5_13 k_j7 (bN 120 z_j7_14) k_j8 j8) _ := hP.sub [19, 20, 21, 22, 23, 24, 25, 26] rfl
        have hDc := hD.sub (ws' := (ti__w ti r0 (nI z_ln_9) r2 r3 r4 r5 (nI z_nr_15) r7 r8 tz k_j0 (bN 13 z_j0_8) k_j2 j2 k_j3 (bN 120 z_j3_11) k_j4 (bN 120 z_j4_12) k_j5 z_j5_13 k_j7 (bN 120 z_j7_14) k_j8 j8)) [19, 20, 21, 22, 23, 24, 25, 26] (by decide) rfl
        have hKc : va_K (dC, dI) vwCl (ti__t k_j0 k_j2 k_j3 k_j4 k_j5 k_j7 k_j8) s := hK.sub [16, 17, 18, 19, 20, 21, 22] rfl
        have hFc := pu_free hDc hS hA
        refine va_calli (va_runV (As := [.int (nI (n_6 * 256))]) (rest := []) ⟨hx, hb, hml, hown, hts⟩ (c_E_6_findsGreatest l dC dI _ ti r0 z_ln_9 r2 r3 r4 r5 z_nr_15 r7 r8 tz k_j0 z_j0_8 k_j2 j2 k_j3 z_j3_11 k_j4 z_j4_12 k_j5 z_j5_13 k_j7 z_j7_14 k_j8 j8 (nI (n_6 * 256)) hz_ln_9 hz_nr_15) (cwV 1 hts g_E_8_latest_E_6_findsGreatest rfl rfl rfl (by decide +kernel) ⟨Nat.le_of_ble_eq_true rfl, Nat.le_of_ble_eq_true rfl⟩) ⟨pu_bl, va_recv hK hP (ci := 6) (q0 := 19) rfl rfl, pu_in hPc hKc hDc⟩ rfl rfl hl.1 rfl (lv_room (Nat.le_of_ble_eq_true rfl)) eX8_latest_54 ⟨Nat.le_of_ble_eq_true rfl, Nat.le_of_ble_eq_true rfl⟩) hS (fun q _ h => hFc q h) hFc (fun r_17 u t H1 locs ht hvm hw hB hz1 hk1 hS => ?_)
        obtain ⟨z_j2_18, ⟨hP1, -, hD1⟩, xr_17_0⟩ := hB
        rw [ht] at hP1
        obtain ⟨hP, hD⟩ := pj_a (X := (xti__w xa xtape (nI tp) rd au xdr hy g (nI hs) tg sg (nI ss) rm ti py bu sm (nI nc) (nI np) (nI ne) (nI st0) q4 q5 q6 q7 q8 q9 q10 q11 q12 q13 q14 q15 q16 k_f4 f4 k_f5 (bN 7 q_f5) k_f6 (bN 7 q_f6) k_f7 f7 k_f8 (bN 4 q_f8) k_f9 (bN 2 q_f9) k_f10 f10 k_f11 f11 k_f12 f12 k_f13 f13 k_f14 f14 k_f15 f15 k_f16 f16 gz g1 g2 g3 g4 g5 (nI gc) (nI gfull) gx gway gav ggoal (nI gfound) 120 (nI gl) (nI gsz) g16 g17 k_fs2 fs2 k_fs3 fs3 k_fs4 fs4 r0 (nI z_ln_9) r2 r3 r4 r5 (nI z_nr_15) r7 r8 tz k_j0 (bN 13 z_j0_8) k_j2 j2 k_j3 (bN 120 z_j3_11) k_j4 (bN 120 z_j4_12) k_j5 z_j5_13 k_j7 (bN 120 z_j7_14) k_j8 j8)) (X' := (xti__w xa xtape (nI tp) rd au xdr hy g (nI hs) tg sg (nI ss) rm ti py bu sm (nI nc) (nI np) (nI ne) (nI st0) q4 q5 q6 q7 q8 q9 q10 q11 q12 q13 q14 q15 q16 k_f4 f4 k_f5 (bN 7 q_f5) k_f6 (bN 7 q_f6) k_f7 f7 k_f8 (bN 4 q_f8) k_f9 (bN 2 q_f9) k_f10 f10 k_f11 f11 k_f12 f12 k_f13 f13 k_f14 f14 k_f15 f15 k_f16 f16 gz g1 g2 g3 g4 g5 (nI gc) (nI gfull) gx gway gav ggoal (nI gfound) 120 (nI gl) (nI gsz) g16 g17 k_fs2 fs2 k_fs3 fs3 k_fs4 fs4 r0 (nI z_ln_9) r2 r3 r4 r5 (nI z_nr_15) r7 r8 tz k_j0 (bN 13 z_j0_8) k_j2 z_j2_18 k_j3 (bN 120 z_j3_11) k_j4 (bN 120 z_j4_12) k_j5 z_j5_13 k_j7 (bN 120 z_j7_14) k_j8 j8)) (wc := (ti__w ti r0 (nI z_ln_9) r2 r3 r4 r5 (nI z_nr_15) r7 r8 tz k_j0 (bN 13 z_j0_8) k_j2 j2 k_j3 (bN 120 z_j3_11) k_j4 (bN 120 z_j4_12) k_j5 z_j5_13 k_j7 (bN 120 z_j7_14) k_j8 j8)) (w1 := (ti__w ti r0 (nI z_ln_9) r2 r3 r4 r5 (nI z_nr_15) r7 r8 tz k_j0 (bN 13 z_j0_8) k_j2 z_j2_18 k_j3 (bN 120 z_j3_11) k_j4 (bN 120 z_j4_12) k_j5 z_j5_13 k_j7 (bN 120 z_j7_14) k_j8 j8)) hP hD [19, 20, 21, 22, 23, 24, 25, 26] [8, 9, 10, 11, 12, 13, 14, 15, 16, 17, 18, 19, 20, 21, 22, 23, 24, 25, 26, 0, 1, 2, 3, 4, 5, 6, 7] 8 rfl hk1 hP1 rfl rfl rfl (by decide)
        clear hP1 hD1 hFc hPc hDc hKc
        clear hk1 hz1 ht hvm
        generalize H1 = H at hP hS ⊢
        obtain ⟨u_19, hu_19, rfl, iu_19⟩ := hw
        have iu_19 : (u_19, z_j2_18) = (sp_E_6_findsGreatest z_ln_9 z_nr_15 j2 z_j3_11 z_j4_12 z_j5_13 (nI (n_6 * 256))) := Prod.ext iu_19 xr_17_0
        have hsp := hsp.trans (slet_eq iu_19)
        refine lv_if_eq (tgt := 74) hx hb eX8_latest_57 (by decide) (fun c_20 => ?_) (fun c_20 => ?_)
        · have c_20 : u_19 = 0 := (nI_eq (a := u_19) (b := 0) (Nat.lt_of_le_of_lt hu_19 (Nat.le_of_ble_eq_true rfl)) (Nat.le_of_ble_eq_true rfl)).mp c_20
          have hsp := hsp.trans (if_pos c_20)
          refine lv_iconst (v := (-1)) hx hb eX8_latest_74 (by decide) ?_
          exact W.iret (v := (-1)) hx hb hr (fun t ht hW => ⟨⟨(-1), (), rfl, (congrArg Prod.fst (hsp.symm.trans hRR)), ⟨z_j0_8, z_j2_18, z_j3_11, z_j4_12, z_j5_13, z_j7_14, z_ln_9, z_nr_15, ⟨by rw [ht]; exact hP, va_K.moved hW.alike hK, hD⟩, hz_ln_9, hz_nr_15, (congrArg Prod.snd (hsp.symm.trans hRR))⟩⟩, hS.F ht⟩) hS.2.2 eX8_latest_75
        · have c_20 : ¬ u_19 = 0 := fun z => c_20 ((nI_eq (a := u_19) (b := 0) (Nat.lt_of_le_of_lt hu_19 (Nat.le_of_ble_eq_true rfl)) (Nat.le_of_ble_eq_true rfl)).mpr z)
          have hsp := hsp.trans (if_neg c_20)
          refine lv_aload_n hx hb eX8_latest_60 rfl (lv_at hl 0 rfl) ?_
          refine va_get (D := (dC, dI)) (ci := 8) (v := .ref ti) (C := RX8) (T := TX8) (N := 16) hx hb hts hiX8 hown hK hP 0 rfl rfl 12 (by decide) v_6 (fun _ h9 => h9) rfl eX8_latest_61 ?_
          refine va_get (D := (dC, dI)) (ci := 6) (v := .ref r2) (C := RX6) (T := TX6) (N := 10) hx hb hts hiX6 hown hK hP 19 rfl rfl 2 (by decide) v_22 (fun _ h9 => h9) rfl eX8_latest_64 ?_
          refine lv_iload_n hx hb eX8_latest_67 rfl (lv_at hl 2 rfl) ?_
          refine lv_iconst (v := 1) hx hb eX8_latest_68 (by decide) ?_
          refine lv_iadd hx hb eX8_latest_69 ?_
          refine lv_topi (fun y_21 ey_21 => ?_)
          obtain rfl : y_21 = (nI (n_3 + 1)) := ey_21.trans (nI_add n_3 1)
          refine va_iald hx hb hK hP 21 17 rfl rfl (vp_in_nI (n := (n_3 + 1)) (by omega) (Nat.le_of_ble_eq_true rfl)) eX8_latest_70 ?_
          refine lv_topi (fun y_22 ey_22 => ?_)
          have ey_22 : y_22 = z_j2_18 (n_3 + 1) := ey_22.trans (congrArg z_j2_18 (nI_clamp (n := (n_3 + 1)) (by omega)))
          have hsp := hsp.trans (slet_eq ey_22)
          refine lv_goto (tgt := 75) hx hb eX8_latest_71 (by decide) ?_
          exact W.iret (v := y_22) hx hb hr (fun t ht hW => ⟨⟨y_22, (), rfl, (congrArg Prod.fst (hsp.symm.trans hRR)), ⟨z_j0_8, z_j2_18, z_j3_11, z_j4_12, z_j5_13, z_j7_14, z_ln_9, z_nr_15, ⟨by rw [ht]; exact hP, va_K.moved hW.alike hK, hD⟩, hz_ln_9, hz_nr_15, (congrArg Prod.snd (hsp.symm.trans hRR))⟩⟩, hS.F ht⟩) hS.2.2 eX8_latest_75
      · have hcc_5 := c_5
        have hsp := hsp.trans (if_neg c_5)
        refine lv_iconst (v := (-1)) hx hb eX8_latest_20 (by decide) ?_
        exact W.iret (v := (-1)) hx hb hr (fun t ht hW => ⟨⟨(-1), (), rfl, (congrArg Prod.fst (hsp.symm.trans hRR)), ⟨q_j0, j2, q_j3, q_j4, j5, q_j7, ln, nr, ⟨by rw [ht]; exact hP, va_K.moved hW.alike hK, hD⟩, hln, hnr, (congrArg Prod.snd (hsp.symm.trans hRR))⟩⟩, hS.F ht⟩) hS.2.2 eX8_latest_21
  · have hsp := hsp.trans (if_neg hn)
    refine lv_if_eq (tgt := 20) hx hb eX8_latest_6 (by decide) (fun _ => ?_) (fun z => absurd z (by decide))
    refine lv_iconst (v := (-1)) hx hb eX8_latest_20 (by decide) ?_
    exact W.iret (v := (-1)) hx hb hr (fun t ht hW => ⟨⟨(-1), (), rfl, (congrArg Prod.fst (hsp.symm.trans hRR)), ⟨q_j0, j2, q_j3, q_j4, j5, q_j7, ln, nr, ⟨by rw [ht]; exact hP, va_K.moved hW.alike hK, hD⟩, hln, hnr, (congrArg Prod.snd (hsp.symm.trans hRR))⟩⟩, hS.F ht⟩) hS.2.2 eX8_latest_21
