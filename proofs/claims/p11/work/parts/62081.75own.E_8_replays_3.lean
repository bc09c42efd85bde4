theorem eX8_replays_16 : decode cX8_replays 16 = .ok (.aload_n 0, 1) := by decide +kernel
theorem eX8_replays_17 : decode cX8_replays 17 = .ok (.iload_n 1, 1) := by decide +kernel
theorem eX8_replays_18 : decode cX8_replays 18 = .ok (.invokevirtual 337, 3) := by decide +kernel
theorem eX8_replays_21 : decode cX8_replays 21 = .ok (.ifCond .eq 17, 3) := by decide +kernel
theorem eX8_replays_24 : decode cX8_replays 24 = .ok (.aload_n 0, 1) := by decide +kernel
theorem eX8_replays_25 : decode cX8_replays 25 = .ok (.getfield 69, 3) := by decide +kernel
theorem eX8_replays_28 : decode cX8_replays 28 = .ok (.aload_n 0, 1) := by decide +kernel
theorem eX8_replays_29 : decode cX8_replays 29 = .ok (.getfield 23, 3) := by decide +kernel
theorem eX8_replays_32 : decode cX8_replays 32 = .ok (.invokevirtual 361, 3) := by decide +kernel
theorem eX8_replays_35 : decode cX8_replays 35 = .ok (.ifCond .ne 5, 3) := by decide +kernel
theorem eX8_replays_40 : decode cX8_replays 40 = .ok (.iconst 0, 1) := by decide +kernel
theorem eX8_replays_41 : decode cX8_replays 41 = .ok (.istore_n 2, 1) := by decide +kernel
theorem eX8_replays_42 : decode cX8_replays 42 = .ok (.iload_n 2, 1) := by decide +kernel
theorem eX8_replays_43 : decode cX8_replays 43 = .ok (.aload_n 0, 1) := by decide +kernel
theorem eX8_replays_44 : decode cX8_replays 44 = .ok (.getfield 62, 3) := by decide +kernel
theorem eX8_replays_47 : decode cX8_replays 47 = .ok (.getfield 351, 3) := by decide +kernel
theorem eX8_replays_50 : decode cX8_replays 50 = .ok (.if_icmp .ge 67, 3) := by decide +kernel
theorem eX8_replays_53 : decode cX8_replays 53 = .ok (.aload_n 0, 1) := by decide +kernel
theorem eX8_replays_54 : decode cX8_replays 54 = .ok (.getfield 69, 3) := by decide +kernel
theorem eX8_replays_57 : decode cX8_replays 57 = .ok (.getfield 107, 3) := by decide +kernel
theorem eX8_replays_60 : decode cX8_replays 60 = .ok (.ifCond .eq 57, 3) := by decide +kernel
theorem eX8_replays_63 : decode cX8_replays 63 = .ok (.aload_n 0, 1) := by decide +kernel
theorem eX8_replays_64 : decode cX8_replays 64 = .ok (.getfield 69, 3) := by decide +kernel
theorem eX8_replays_67 : decode cX8_replays 67 = .ok (.aload_n 0, 1) := by decide +kernel
theorem eX8_replays_68 : decode cX8_replays 68 = .ok (.getfield 69, 3) := by decide +kernel
theorem eX8_replays_71 : decode cX8_replays 71 = .ok (.aload_n 0, 1) := by decide +kernel
theorem eX8_replays_72 : decode cX8_replays 72 = .ok (.getfield 23, 3) := by decide +kernel
theorem eX8_replays_75 : decode cX8_replays 75 = .ok (.aload_n 0, 1) := by decide +kernel
theorem eX8_replays_76 : decode cX8_replays 76 = .ok (.getfield 62, 3) := by decide +kernel
theorem eX8_replays_79 : decode cX8_replays 79 = .ok (.getfield 340, 3) := by decide +kernel
theorem eX8_replays_82 : decode cX8_replays 82 = .ok (.iload_n 2, 1) := by decide +kernel
theorem eX8_replays_83 : decode cX8_replays 83 = .ok (.iconst 1, 1) := by decide +kernel
theorem eX8_replays_84 : decode cX8_replays 84 = .ok (.iadd, 1) := by decide +kernel
theorem eX8_replays_85 : decode cX8_replays 85 = .ok (.iaload, 1) := by decide +kernel
theorem eX8_replays_86 : decode cX8_replays 86 = .ok (.aload_n 0, 1) := by decide +kernel
theorem eX8_replays_87 : decode cX8_replays 87 = .ok (.getfield 62, 3) := by decide +kernel
theorem eX8_replays_90 : decode cX8_replays 90 = .ok (.getfield 340, 3) := by decide +kernel
theorem eX8_replays_93 : decode cX8_replays 93 = .ok (.iload_n 2, 1) := by decide +kernel
theorem eX8_replays_94 : decode cX8_replays 94 = .ok (.iaload, 1) := by decide +kernel
theorem eX8_replays_95 : decode cX8_replays 95 = .ok (.isub, 1) := by decide +kernel
theorem eX8_replays_96 : decode cX8_replays 96 = .ok (.aload_n 0, 1) := by decide +kernel
theorem eX8_replays_97 : decode cX8_replays 97 = .ok (.getfield 62, 3) := by decide +kernel
theorem eX8_replays_100 : decode cX8_replays 100 = .ok (.getfield 327, 3) := by decide +kernel
theorem eX8_replays_103 : decode cX8_replays 103 = .ok (.iload_n 2, 1) := by decide +kernel
theorem eX8_replays_104 : decode cX8_replays 104 = .ok (.iaload, 1) := by decide +kernel
theorem eX8_replays_105 : decode cX8_replays 105 = .ok (.invokevirtual 394, 3) := by decide +kernel
theorem eX8_replays_108 : decode cX8_replays 108 = .ok (.putfield 107, 3) := by decide +kernel
theorem eX8_replays_111 : decode cX8_replays 111 = .ok (.iinc 2 1, 3) := by decide +kernel
theorem eX8_replays_114 : decode cX8_replays 114 = .ok (.goto (-72), 3) := by decide +kernel
theorem eX8_replays_117 : decode cX8_replays 117 = .ok (.aload_n 0, 1) := by decide +kernel
theorem eX8_replays_118 : decode cX8_replays 118 = .ok (.getfield 69, 3) := by decide +kernel
theorem eX8_replays_121 : decode cX8_replays 121 = .ok (.getfield 107, 3) := by decide +kernel
theorem eX8_replays_124 : decode cX8_replays 124 = .ok (.ireturn, 1) := by decide +kernel
abbrev vs_E_8_replays : List Cond := .code yX8_replays cX8_replays 3 (some .boolean) :: CM
theorem g_E_8_replays_E_8_isState : GoodIn vs_E_8_replays (wsV RX8 228 RX8 yX8_isState vs_E_8_isState) := cm_gV cm_537 cm_538 cm_539 cm_427 cm_530
theorem g_E_8_replays_E_8_timesRun : GoodIn vs_E_8_replays (wsV RX8 337 RX8 yX8_timesRun vs_E_8_timesRun) := cm_gV cm_618 cm_619 cm_620 cm_427 cm_609
theorem g_E_8_replays_E_3_startsIn : GoodIn vs_E_8_replays (wsV RX8 361 RX3 yX3_startsIn vs_E_3_startsIn) := cm_gV cm_643 cm_644 cm_645 cm_204 cm_170
theorem g_E_8_replays_E_3_goesBy : GoodIn vs_E_8_replays (wsV RX8 394 RX3 yX3_goesBy vs_E_3_goesBy) := cm_gV cm_658 cm_659 cm_660 cm_204 cm_205
noncomputable def sp_E_8_replays_L1 (f4 : Nat → Int32) (q_f5 : Nat → Nat) (q_f6 : Nat → Nat) (f7 : Nat → Int32) (q_f8 : Nat → Nat) (q_f9 : Nat → Nat) (f12 : Nat → Int32) (f13 : Nat → Int32) (z_j0_4 : Nat → Nat) (z_j2_5 : Nat → Int32) (z_ln_10 : Nat) : ((Nat → Int32) × (Nat → Int32) × Nat × Nat × Int32 × Nat) → ((Nat → Int32) × (Nat → Int32) × Nat × Nat × Int32 × Nat) ⊕ (Nat × Nat × Nat × Int32 × (Nat → Int32) × (Nat → Int32)) := fun (g_36, g_37, g_38, g_39, g_40, g_41) => (if z_ln_10 ≤ g_41 then (Sum.inr (g_41, g_38, g_39, g_40, g_36, g_37)) else (if g_38 = 0 then (Sum.inr (g_41, g_38, g_39, g_40, g_36, g_37)) else (slet (z_j2_5 (g_41 + 1)) (fun y_51 => (slet (z_j2_5 g_41) (fun y_52 => (slet ((y_51 : Int32) - y_52) (fun y_53 => (slet (min (z_j0_4 g_41) 13) (fun u_55 => (slet (sp_E_3_goesBy g_39 g_40 g_36 g_37 f4 q_f5 q_f6 f7 q_f8 q_f9 f12 f13 y_53 u_55) (fun (u_61, z_ftm_57, z_fbh_58, z_si_59, z_ti_60) => (Sum.inl (z_ftm_57, z_fbh_58, u_61, z_si_59, z_ti_60, (g_41 + 1)))))))))))))))
noncomputable def sp_E_8_replays (hs : Nat) (nc : Nat) (np : Nat) (st0 : Nat) (f4 : Nat → Int32) (q_f5 : Nat → Nat) (q_f6 : Nat → Nat) (f7 : Nat → Int32) (q_f8 : Nat → Nat) (q_f9 : Nat → Nat) (f12 : Nat → Int32) (f13 : Nat → Int32) (gc : Nat) (fs2 : Nat → Int32) (fs3 : Nat → Int32) (fs4 : Nat → Int32) (ln : Nat) (nr : Nat) (q_j0 : Nat → Nat) (j2 : Nat → Int32) (q_j3 : Nat → Nat) (q_j4 : Nat → Nat) (j5 : Nat → Int32) (q_j7 : Nat → Nat) (si : Nat) (ti0 : Int32) (ftm : Nat → Int32) (fbh : Nat → Int32) (p0 : Int32) : Nat × (Nat → Nat) × (Nat → Int32) × (Nat → Nat) × (Nat → Nat) × (Nat → Int32) × (Nat → Nat) × (Nat → Int32) × (Nat → Int32) × Nat × Nat × Nat × Nat × Int32 := (if hs = 1 ∧ (0 : Int32) ≤ p0 ∧ p0 < nI gc then (slet ((p0 : Int32).toNatClampNeg) (fun n_2 => (slet (sp_E_8_timesRun nc st0 f4 q_f5 q_f6 f7 q_f8 q_f9 f12 f13 fs2 fs3 fs4 q_j0 j2 q_j3 q_j4 j5 q_j7 n_2) (fun (u_12, z_j0_4, z_j2_5, z_j3_6, z_j4_7, z_j5_8, z_j7_9, z_ln_10, z_nr_11) => (if u_12 = 0 then (0, z_j0_4, z_j2_5, z_j3_6, z_j4_7, z_j5_8, z_j7_9, ftm, fbh, z_ln_10, z_nr_11, 0, si, ti0) else (slet (sp_E_3_startsIn si ti0 ftm np st0 q_f8 q_f9 f12 f13) (fun (u_19, z_ftm_15, z_on_16, z_si_17, z_ti_18) => (if u_19 = 0 then (0, z_j0_4, z_j2_5, z_j3_6, z_j4_7, z_j5_8, z_j7_9, z_ftm_15, fbh, z_ln_10, z_nr_11, z_on_16, z_si_17, z_ti_18) else (slet (α := Nat × Nat × Nat × Int32 × (Nat → Int32) × (Nat → Int32)) (itrv (α := (Nat → Int32) × (Nat → Int32) × Nat × Nat × Int32 × Nat) (β := (Nat × Nat × Nat × Int32 × (Nat → Int32) × (Nat → Int32))) default (sp_E_8_replays_L1 f4 q_f5 q_f6 f7 q_f8 q_f9 f12 f13 z_j0_4 z_j2_5 z_ln_10) (z_ftm_15, fbh, z_on_16, z_si_17, z_ti_18, 0)) (fun (g_21, g_22, g_23, g_24, g_25, g_26) => (g_22, z_j0_4, z_j2_5, z_j3_6, z_j4_7, z_j5_8, z_j7_9, g_25, g_26, z_ln_10, z_nr_11, g_22, g_23, g_24))))))))))) else (0, q_j0, j2, q_j3, q_j4, j5, q_j7, ftm, fbh, ln, nr, 0, si, ti0))
set_option maxHeartbeats 4000000 in
set_option maxRecDepth 100000 in
theorem c_E_8_replays (l : Launch) (dC : Nat → ClassId) (dI : Nat → Nat → Nat) (sz : Nat) (xa : Nat) (xtape : Nat) (tp : Nat) (rd : Nat) (au : Nat) (xdr : Nat) (hy : Nat) (g : Nat) (hs : Nat) (tg : Nat) (sg : Nat) (ss : Nat) (rm : Nat) (ti : Nat) (py : Nat) (bu : Nat) (sm : Nat) (nc : Nat) (np : Nat) (ne : Nat) (st0 : Nat) (q4 : Nat) (q5 : Nat) (q6 : Nat) (q7 : Nat) (q8 : Nat) (q9 : Nat) (q10 : Nat) (q11 : Nat) (q12 : Nat) (q13 : Nat) (q14 : Nat) (q15 : Nat) (q16 : Nat) (k_f4 : ClassId) (f4 : Nat → Int32) (k_f5 : ClassId) (q_f5 : Nat → Nat) (k_f6 : ClassId) (q_f6 : Nat → Nat) (k_f7 : ClassId) (f7 : Nat → Int32) (k_f8 : ClassId) (q_f8 : Nat → Nat) (k_f9 : ClassId) (q_f9 : Nat → Nat) (k_f10 : ClassId) (f10 : Nat → Int32) (k_f11 : ClassId) (f11 : Nat → Int32) (k_f12 : ClassId) (f12 : Nat → Int32) (k_f13 : ClassId) (f13 : Nat → Int32) (k_f14 : ClassId) (f14 : Nat → Int32) (k_f15 : ClassId) (f15 : Nat → Int32) (k_f16 : ClassId) (f16 : Nat → Int32) (gz : Nat) (g1 : Nat) (g2 : Nat) (g3 : Nat) (g4 : Nat) (g5 : Nat) (gc : Nat) (gfull : Nat) (gx : Int32) (gway : Int32) (gav : Int32) (ggoal : Int32) (gfound : Nat) (gl : Nat) (gsz : Nat) (g16 : Nat) (g17 : Nat) (k_fs2 : ClassId) (fs2 : Nat → Int32) (k_fs3 : ClassId) (fs3 : Nat → Int32) (k_fs4 : ClassId) (fs4 : Nat → Int32) (r0 : Nat) (ln : Nat) (r2 : Nat) (r3 : Nat) (r4 : Nat) (r5 : Nat) (nr : Nat) (r7 : Nat) (r8 : Nat) (tz : Nat) (k_j0 : ClassId) (q_j0 : Nat → Nat) (k_j2 : ClassId) (j2 : Nat → Int32) (k_j3 : ClassId) (q_j3 : Nat → Nat) (k_j4 : ClassId) (q_j4 : Nat → Nat) (k_j5 : ClassId) (j5 : Nat → Int32) (k_j7 : ClassId) (q_j7 : Nat → Nat) (k_j8 : ClassId) (j8 : Nat → Int32) (on : Nat) (si : Nat) (ti0 : Int32) (tm : Nat) (bh : Nat) (k_ftm : ClassId) (ftm : Nat → Int32) (k_fbh : ClassId) (fbh : Nat → Int32) (p0 : Int32) (htp : tp ≤ 900) (hhs : hs ≤ 1) (hss : ss ≤ 1) (hnc : nc ≤ 3) (hnp : np ≤ 8) (hne : ne ≤ 14) (hst0 : st0 ≤ 7) (hgc : gc ≤ 120) (hgfull : gfull ≤ 1) (hgfound : gfound ≤ 1) (hgl : gl ≤ 1) (hgsz : gsz ≤ 4) (hln : ln ≤ 119) (hnr : nr ≤ 1920) (hon : on ≤ 1) (hsi : si ≤ 7) (hq0 : gz_ok gc fs2 fs3 fs4) : Met l yX8_replays vs_E_8_replays ({ frames := 4, cells := 0, slots := 0, locals := 95 }) (va_Pc [.ref xa, .int p0] (pu_B (dC, dI) (xrp__w xa xtape (nI tp) rd au xdr hy g (nI hs) tg sg (nI ss) rm ti py bu sm (nI nc) (nI np) (nI ne) (nI st0) q4 q5 q6 q7 q8 q9 q10 q11 q12 q13 q14 q15 q16 k_f4 f4 k_f5 (bN 7 q_f5) k_f6 (bN 7 q_f6) k_f7 f7 k_f8 (bN 4 q_f8) k_f9 (bN 2 q_f9) k_f10 f10 k_f11 f11 k_f12 f12 k_f13 f13 k_f14 f14 k_f15 f15 k_f16 f16 gz g1 g2 g3 g4 g5 (nI gc) (nI gfull) gx gway gav ggoal (nI gfound) 120 (nI gl) (nI gsz) g16 g17 k_fs2 fs2 k_fs3 fs3 k_fs4 fs4 r0 (nI ln) r2 r3 r4 r5 (nI nr) r7 r8 tz k_j0 (bN 13 q_j0) k_j2 j2 k_j3 (bN 120 q_j3) k_j4 (bN 120 q_j4) k_j5 j5 k_j7 (bN 120 q_j7) k_j8 j8 (nI on) (nI si) ti0 tm bh k_ftm ftm k_fbh fbh) (xrp__t k_f4 k_f5 k_f6 k_f7 k_f8 k_f9 k_f10 k_f11 k_f12 k_f13 k_f14 k_f15 k_f16 k_fs2 k_fs3 k_fs4 k_j0 k_j2 k_j3 k_j4 k_j5 k_j7 k_j8 k_ftm k_fbh) sz)) (va_Qi (fun (r : Int32) (_ : Unit) => ∃ v : Nat, v ≤ 1 ∧ r = nI v ∧ v = (sp_E_8_replays hs nc np st0 f4 q_f5 q_f6 f7 q_f8 q_f9 f12 f13 gc fs2 fs3 fs4 ln nr q_j0 j2 q_j3 q_j4 j5 q_j7 si ti0 ftm fbh p0).1) (fun _ t => ∃ (z_j0 : Nat → Nat) (z_j2 : Nat → Int32) (z_j3 : Nat → Nat) (z_j4 : Nat → Nat) (z_j5 : Nat → Int32) (z_j7 : Nat → Nat) (z_ftm : Nat → Int32) (z_fbh : Nat → Int32) (z_ln : Nat) (z_nr : Nat) (z_on : Nat) (z_si : Nat) (z_ti0 : Int32), pu_E (dC, dI) (xrp__w xa xtape (nI tp) rd au xdr hy g (nI hs) tg sg (nI ss) rm ti py bu sm (nI nc) (nI np) (nI ne) (nI st0) q4 q5 q6 q7 q8 q9 q10 q11 q12 q13 q14 q15 q16 k_f4 f4 k_f5 (bN 7 q_f5) k_f6 (bN 7 q_f6) k_f7 f7 k_f8 (bN 4 q_f8) k_f9 (bN 2 q_f9) k_f10 f10 k_f11 f11 k_f12 f12 k_f13 f13 k_f14 f14 k_f15 f15 k_f16 f16 gz g1 g2 g3 g4 g5 (nI gc) (nI gfull) gx gway gav ggoal (nI gfound) 120 (nI gl) (nI gsz) g16 g17 k_fs2 fs2 k_fs3 fs3 k_fs4 fs4 r0 (nI z_ln) r2 r3 r4 r5 (nI z_nr) r7 r8 tz k_j0 (bN 13 z_j0) k_j2 z_j2 k_j3 (bN 120 z_j3) k_j4 (bN 120 z_j4) k_j5 z_j5 k_j7 (bN 120 z_j7) k_j8 j8 (nI z_on) (nI z_si) z_ti0 tm bh k_ftm z_ftm k_fbh z_fbh) (xrp__t k_f4 k_f5 k_f6 k_f7 k_f8 k_f9 k_f10 k_f11 k_f12 k_f13 k_f14 k_f15 k_f16 k_fs2 k_fs3 k_fs4 k_j0 k_j2 k_j3 k_j4 k_j5 k_j7 k_j8 k_ftm k_fbh) (va_A ((xrp__w xa xtape (nI tp) rd au xdr hy g (nI hs) tg sg (nI ss) rm ti py bu sm (nI nc) (nI np) (nI ne) (nI st0) q4 q5 q6 q7 q8 q9 q10 q11 q12 q13 q14 q15 q16 k_f4 f4 k_f5 (bN 7 q_f5) k_f6 (bN 7 q_f6) k_f7 f7 k_f8 (bN 4 q_f8) k_f9 (bN 2 q_f9) k_f10 f10 k_f11 f11 k_f12 f12 k_f13 f13 k_f14 f14 k_f15 f15 k_f16 f16 gz g1 g2 g3 g4 g5 (nI gc) (nI gfull) gx gway gav ggoal (nI gfound) 120 (nI gl) (nI gsz) g16 g17 k_fs2 fs2 k_fs3 fs3 k_fs4 fs4 r0 (nI ln) r2 r3 r4 r5 (nI nr) r7 r8 tz k_j0 (bN 13 q_j0) k_j2 j2 k_j3 (bN 120 q_j3) k_j4 (bN 120 q_j4) k_j5 j5 k_j7 (bN 120 q_j7) k_j8 j8 (nI on) (nI si) ti0 tm bh k_ftm ftm k_fbh fbh)) sz) t ∧ (z_ln ≤ 119) ∧ (z_nr ≤ 1920) ∧ (z_on ≤ 1) ∧ (z_si ≤ 7) ∧ ((z_j0, z_j2, z_j3, z_j4, z_j5, z_j7, z_ftm, z_fbh, z_ln, z_nr, z_on, z_si, z_ti0) = (sp_E_8_replays hs nc np st0 f4 q_f5 q_f6 f7 q_f8 q_f9 f12 f13 gc fs2 fs3 fs4 ln nr q_j0 j2 q_j3 q_j4 j5 q_j7 si ti0 ftm fbh p0).2)) (va_A ((xrp__w xa xtape (nI tp) rd au xdr hy g (nI hs) tg sg (nI ss) rm ti py bu sm (nI nc) (nI np) (nI ne) (nI st0) q4 q5 q6 q7 q8 q9 q10 q11 q12 q13 q14 q15 q16 k_f4 f4 k_f5 (bN 7 q_f5) k_f6 (bN 7 q_f6) k_f7 f7 k_f8 (bN 4 q_f8) k_f9 (bN 2 q_f9) k_f10 f10 k_f11 f11 k_f12 f12 k_f13 f13 k_f14 f14 k_f15 f15 k_f16 f16 gz g1 g2 g3 g4 g5 (nI gc) (nI gfull) gx gway gav ggoal (nI gfound) 120 (nI gl) (nI gsz) g16 g17 k_fs2 fs2 k_fs3 fs3 k_fs4 fs4 r0 (nI ln) r2 r3 r4 r5 (nI nr) r7 r8 tz k_j0 (bN 13 q_j0) k_j2 j2 k_j3 (bN 120 q_j3) k_j4 (bN 120 q_j4) k_j5 j5 k_j7 (bN 120 q_j7) k_j8 j8 (nI on) (nI si) ti0 tm bh k_ftm ftm k_fbh fbh)) sz)) 0 0 (va_A ((xrp__w xa xtape (nI tp) rd au xdr hy g (nI hs) tg sg (nI ss) rm ti py bu sm (nI nc) (nI np) (nI ne) (nI st0) q4 q5 q6 q7 q8 q9 q10 q11 q12 q13 q14 q15 q16 k_f4 f4 k_f5 (bN 7 q_f5) k_f6 (bN 7 q_f6) k_f7 f7 k_f8 (bN 4 q_f8) k_f9 (bN 2 q_f9) k_f10 f10 k_f11 f11 k_f12 f12 k_f13 f13 k_f14 f14 k_f15 f15 k_f16 f16 gz g1 g2 g3 g4 g5 (nI gc) (nI gfull) gx gway gav ggoal (nI gfound) 120 (nI gl) (nI gsz) g16 g17 k_fs2 fs2 k_fs3 fs3 k_fs4 fs4 r0 (nI ln) r2 r3 r4 r5 (nI nr) r7 r8 tz k_j0 (bN 13 q_j0) k_j2 j2 k_j3 (bN 120 q_j3) k_j4 (bN 120 q_j4) k_j5 j5 k_j7 (bN 120 q_j7) k_j8 j8 (nI on) (nI si) ti0 tm bh k_ftm ftm k_fbh fbh)) sz) := by
  refine Met.ofW (cc := cX8_replays) (maxL := 3) (ret := (some .boolean)) (by decide) rfl ?_
  intro p e s m args below meth c s₁ B hml hv
  obtain ⟨rfl, rfl, hP, hK, hD0⟩ := hv
  have hx := B.exec
  have hb := B.bytes
  have hr := B.returns
  have hts := atoms_spec (ws := vs_E_8_replays) B.pre
  have v_1 := hts (.fieldLink RX8 69 "ClockReach" "play" "LClockReach$Play;") (List.mem_cons_of_mem _ cm_447)
  have v_2 := hts (.fieldLink RX8 107 "ClockReach$Play" "on" "Z") (List.mem_cons_of_mem _ cm_448)
  have v_12 := hts (.fieldLink RX8 23 "ClockReach" "model" "LClockReach$Automaton;") (List.mem_cons_of_mem _ cm_434)
  have v_18 := hts (.fieldLink RX8 62 "ClockReach" "timing" "LClockReach$Timing;") (List.mem_cons_of_mem _ cm_601)
  have v_19 := hts (.fieldLink RX8 351 "ClockReach$Timing" "length" "I") (List.mem_cons_of_mem _ cm_630)
  have v_20 := hts (.fieldLink RX8 340 "ClockReach$Timing" "at" "[I") (List.mem_cons_of_mem _ cm_617)
  have v_21 := hts (.fieldLink RX8 327 "ClockReach$Timing" "path" "[I") (List.mem_cons_of_mem _ cm_602)
  have hown : s.vm.findClass RX8 = some m.cls := findClass_of_methodNamed B.named
  have hlocks := B.notSynchronized
  have hiX3 : ∀ w ∈ wsX30, w ∈ vs_E_8_replays := fun _ h => List.mem_cons_of_mem _ (cm_X3 h)
  have hiX6 : ∀ w ∈ wsX60, w ∈ vs_E_8_replays := fun _ h => List.mem_cons_of_mem _ (cm_X6 h)
  have hiX8 : ∀ w ∈ wsX80, w ∈ vs_E_8_replays := fun _ h => List.mem_cons_of_mem _ (cm_X8 h)
  have hD := hD0.self (sz := s.heap.size)
  generalize hAe : va_A ((xrp__w xa xtape (nI tp) rd au xdr hy g (nI hs) tg sg (nI ss) rm ti py bu sm (nI nc) (nI np) (nI ne) (nI st0) q4 q5 q6 q7 q8 q9 q10 q11 q12 q13 q14 q15 q16 k_f4 f4 k_f5 (bN 7 q_f5) k_f6 (bN 7 q_f6) k_f7 f7 k_f8 (bN 4 q_f8) k_f9 (bN 2 q_f9) k_f10 f10 k_f11 f11 k_f12 f12 k_f13 f13 k_f14 f14 k_f15 f15 k_f16 f16 gz g1 g2 g3 g4 g5 (nI gc) (nI gfull) gx gway gav ggoal (nI gfound) 120 (nI gl) (nI gsz) g16 g17 k_fs2 fs2 k_fs3 fs3 k_fs4 fs4 r0 (nI ln) r2 r3 r4 r5 (nI nr) r7 r8 tz k_j0 (bN 13 q_j0) k_j2 j2 k_j3 (bN 120 q_j3) k_j4 (bN 120 q_j4) k_j5 j5 k_j7 (bN 120 q_j7) k_j8 j8 (nI on) (nI si) ti0 tm bh k_ftm ftm k_fbh fbh)) s.heap.size = A at hD ⊢
  have hA : ∀ q : Nat, s.heap.size ≤ q → A q := fun q h => by rw [← hAe]; exact Or.inr h
  have hS : va_S A s.heap s.heap [] := va_S.rf
  have hl := lv_entry ([.ref xa, .int p0]) (n := 3) (Nat.le_of_ble_eq_true rfl)
  rw [lg_entry_eq]
  generalize (lg_sl ([.ref xa, .int p0]) ++ List.replicate (3 - (lg_sl ([.ref xa, .int p0])).length) Slot.unset).toArray = ls at hl ⊢
  have hl : lv_has ls 3 [(0, .ref xa), (1, .int p0)] := hl
  obtain ⟨RR, hRR⟩ : ∃ x, x = (sp_E_8_replays hs nc np st0 f4 q_f5 q_f6 f7 q_f8 q_f9 f12 f13 gc fs2 fs3 fs4 ln nr q_j0 j2 q_j3 q_j4 j5 q_j7 si ti0 ftm fbh p0) := ⟨_, rfl⟩
  have hsp := hRR
  refine lv_aload_n hx hb eX8_replays_0 rfl (lv_at hl 0 rfl) ?_
  refine va_get (D := (dC, dI)) (ci := 8) (v := .ref py) (C := RX8) (T := TX8) (N := 16) hx hb hts hiX8 hown hK hP 0 rfl rfl 13 (by decide) v_1 (fun _ h9 => h9) rfl eX8_replays_1 ?_
  refine lv_iconst (v := 0) hx hb eX8_replays_4 (by decide) ?_
  refine va_put (D := (dC, dI)) (ci := 3) (v := .int 0) (ty := .boolean) (C := RX3) (T := TX3) (N := 5) hx hb hts hiX3 tyX3 tyX3_ok nmX3 hown hK hP hD hS 27 rfl rfl 0 (by decide) v_2 (fun _ h9 => h9) rfl (by decide +kernel) rfl rfl (Nat.le_of_ble_eq_true rfl) eX8_replays_5 (fun H locs hP hD hS => ?_)
  have hP : va_P (dC, dI) vwCl (xrp__w xa xtape (nI tp) rd au xdr hy g (nI hs) tg sg (nI ss) rm ti py bu sm (nI nc) (nI np) (nI ne) (nI st0) q4 q5 q6 q7 q8 q9 q10 q11 q12 q13 q14 q15 q16 k_f4 f4 k_f5 (bN 7 q_f5) k_f6 (bN 7 q_f6) k_f7 f7 k_f8 (bN 4 q_f8) k_f9 (bN 2 q_f9) k_f10 f10 k_f11 f11 k_f12 f12 k_f13 f13 k_f14 f14 k_f15 f15 k_f16 f16 gz g1 g2 g3 g4 g5 (nI gc) (nI gfull) gx gway gav ggoal (nI gfound) 120 (nI gl) (nI gsz) g16 g17 k_fs2 fs2 k_fs3 fs3 k_fs4 fs4 r0 (nI ln) r2 r3 r4 r5 (nI nr) r7 r8 tz k_j0 (bN 13 q_j0) k_j2 j2 k_j3 (bN 120 q_j3) k_j4 (bN 120 q_j4) k_j5 j5 k_j7 (bN 120 q_j7) k_j8 j8 0 (nI si) ti0 tm bh k_ftm ftm k_fbh fbh) H := hP
  have hD : va_D A (xrp__w xa xtape (nI tp) rd au xdr hy g (nI hs) tg sg (nI ss) rm ti py bu sm (nI nc) (nI np) (nI ne) (nI st0) q4 q5 q6 q7 q8 q9 q10 q11 q12 q13 q14 q15 q16 k_f4 f4 k_f5 (bN 7 q_f5) k_f6 (bN 7 q_f6) k_f7 f7 k_f8 (bN 4 q_f8) k_f9 (bN 2 q_f9) k_f10 f10 k_f11 f11 k_f12 f12 k_f13 f13 k_f14 f14 k_f15 f15 k_f16 f16 gz g1 g2 g3 g4 g5 (nI gc) (nI gfull) gx gway gav ggoal (nI gfound) 120 (nI gl) (nI gsz) g16 g17 k_fs2 fs2 k_fs3 fs3 k_fs4 fs4 r0 (nI ln) r2 r3 r4 r5 (nI nr) r7 r8 tz k_j0 (bN 13 q_j0) k_j2 j2 k_j3 (bN 120 q_j3) k_j4 (bN 120 q_j4) k_j5 j5 k_j7 (bN 120 q_j7) k_j8 j8 0 (nI si) ti0 tm bh k_ftm ftm k_fbh fbh) := hD
  refine lv_aload_n hx hb eX8_replays_8 rfl (lv_at hl 0 rfl) ?_
  refine lv_iload_n hx hb eX8_replays_9 rfl (lv_at hl 1 rfl) ?_
  have hPc : va_P (dC, dI) vwCl (xg0__w xa xtape (nI tp) rd au xdr hy g (nI hs) tg sg (nI ss) rm ti py bu sm gz g1 g2 g3 g4 g5 (nI gc) (nI gfull) gx gway gav ggoal (nI gfound) 120 (nI gl) (nI gsz) g16 g17) _ := hP.sub [0, 15] rfl
  have hDc := hD.sub (ws' := (xg0__w xa xtape (nI tp) rd au xdr hy g (nI hs) tg sg (nI ss) rm ti py bu sm gz g1 g2 g3 g4 g5 (nI gc) (nI gfull) gx gway gav ggoal (nI gfound) 120 (nI gl) (nI gsz) g16 g17)) [0, 15] (by decide) rfl
  have hKc : va_K (dC, dI) vwCl (xg0__t ) s := hK.sub [] rfl
  refine va_calli (va_runV (As := [.int p0]) (rest := []) ⟨hx, hb, hml, hown, hts⟩ (c_E_8_isState l dC dI _ xa xtape tp rd au xdr hy g hs tg sg ss rm ti py bu sm gz g1 g2 g3 g4 g5 gc gfull gx gway gav ggoal gfound gl gsz g16 g17 p0 htp hhs hss hgc hgfull hgfound hgl hgsz) (cwV 1 hts g_E_8_replays_E_8_isState rfl rfl rfl (by decide +kernel) ⟨Nat.le_of_ble_eq_true rfl, Nat.le_of_ble_eq_true rfl⟩) ⟨pu_bl, va_recv hK hP (ci := 8) (q0 := 0) rfl rfl, pu_in hPc hKc hDc⟩ rfl rfl hl.1 rfl (lv_room (Nat.le_of_ble_eq_true rfl)) eX8_replays_10 ⟨Nat.le_of_ble_eq_true rfl, Nat.le_of_ble_eq_true rfl⟩) hS (fun q _ h => pu_fr hS hA q h) (pu_fr hS hA) (fun r_1 u t H1 locs ht hvm hw hB hz1 hk1 hS => ?_)
  have hP := pu_keep hP hk1
  clear hk1 hz1 ht hvm
  generalize H1 = H at hP hS ⊢
  rcases hw with ⟨rfl, hw⟩ | ⟨rfl, hn⟩
  · obtain ⟨hs1, n_2, hn_2, rfl⟩ := hw
    have hsp := hsp.trans (if_pos ⟨hs1, in_q hn_2 (by omega)⟩)
    have hsp := hsp.trans (slet_eq (nI_cl (n := n_2) (by omega)))
    refine lv_if_eq (tgt := 38) hx hb eX8_replays_13 (by decide) (fun z => absurd z (by decide)) (fun _ => ?_)
    refine lv_aload_n hx hb eX8_replays_16 rfl (lv_at hl 0 rfl) ?_
    refine lv_iload_n hx hb eX8_replays_17 rfl (lv_at hl 1 rfl) ?_
    have hPc : va_P (dC, dI) vwCl (xti__w xa xtape (nI tp) rd au xdr hy g (nI hs) tg sg (nI ss) rm ti py bu sm (nI nc) (nI np) (nI ne) (nI st0) q4 q5 q6 q7 q8 q9 q10 q11 q12 q13 q14 q15 q16 k_f4 f4 k_f5 (bN 7 q_f5) k_f6 (bN 7 q_f6) k_f7 f7 k_f8 (bN 4 q_f8) k_f9 (bN 2 q_f9) k_f10 f10 k_f11 f11 k_f12 f12 k_f13 f13 k_f14 f14 k_f15 f15 k_f16 f16 gz g1 g2 g3 g4 g5 (nI gc) (nI gfull) gx gway gav ggoal (nI gfound) 120 (nI gl) (nI gsz) g16 g17 k_fs2 fs2 k_fs3 fs3 k_fs4 fs4 r0 (nI ln) r2 r3 r4 r5 (nI nr) r7 r8 tz k_j0 (bN 13 q_j0) k_j2 j2 k_j3 (bN 120 q_j3) k_j4 (bN 120 q_j4) k_j5 j5 k_j7 (bN 120 q_j7) k_j8 j8) _ := hP.sub [0, 1, 2, 3, 4, 5, 6, 7, 8, 9, 10, 11, 12, 13, 14, 15, 16, 17, 18, 19, 20, 21, 22, 23, 24, 25, 26] rfl
    have hDc := hD.sub (ws' := (xti__w xa xtape (nI tp) rd au xdr hy g (nI hs) tg sg (nI ss) rm ti py bu sm (nI nc) (nI np) (nI ne) (nI st0) q4 q5 q6 q7 q8 q9 q10 q11 q12 q13 q14 q15 q16 k_f4 f4 k_f5 (bN 7 q_f5) k_f6 (bN 7 q_f6) k_f7 f7 k_f8 (bN 4 q_f8) k_f9 (bN 2 q_f9) k_f10 f10 k_f11 f11 k_f12 f12 k_f13 f13 k_f14 f14 k_f15 f15 k_f16 f16 gz g1 g2 g3 g4 g5 (nI gc) (nI gfull) gx gway gav ggoal (nI gfound) 120 (nI gl) (nI gsz) g16 g17 k_fs2 fs2 k_fs3 fs3 k_fs4 fs4 r0 (nI ln) r2 r3 r4 r5 (nI nr) r7 r8 tz k_j0 (bN 13 q_j0) k_j2 j2 k_j3 (bN 120 q_j3) k_j4 (bN 120 q_j4) k_j5 j5 k_j7 (bN 120 q_j7) k_j8 j8)) [0, 1, 2, 3, 4, 5, 6, 7, 8, 9, 10, 11, 12, 13, 14, 15, 16, 17, 18, 19, 20, 21, 22, 23, 24, 25, 26] (by decide) rfl
    have hKc : va_K (dC, dI) vwCl (xti__t k_f4 k_f5 k_f6 k_f7 k_f8 k_f9 k_f10 k_f11 k_f12 k_f13 k_f14 k_f15 k_f16 k_fs2 k_fs3 k_fs4 k_j0 k_j2 k_j3 k_j4 k_j5 k_j7 k_j8) s := hK.sub [0, 1, 2, 3, 4, 5, 6, 7, 8, 9, 10, 11, 12, 13, 14, 15, 16, 17, 18, 19, 20, 21, 22] rfl
    have hFc := pu_free hDc hS hA
    refine va_calli (va_runV (As := [.int (nI n_2)]) (rest := []) ⟨hx, hb, hml, hown, hts⟩ (c_E_8_timesRun l dC dI _ xa xtape tp rd au xdr hy g hs tg sg ss rm ti py bu sm nc np ne st0 q4 q5 q6 q7 q8 q9 q10 q11 q12 q13 q14 q15 q16 k_f4 f4 k_f5 q_f5 k_f6 q_f6 k_f7 f7 k_f8 q_f8 k_f9 q_f9 k_f10 f10 k_f11 f11 k_f12 f12 k_f13 f13 k_f14 f14 k_f15 f15 k_f16 f16 gz g1 g2 g3 g4 g5 gc gfull gx gway gav ggoal gfound gl gsz g16 g17 k_fs2 fs2 k_fs3 fs3 k_fs4 fs4 r0 ln r2 r3 r4 r5 nr r7 r8 tz k_j0 q_j0 k_j2 j2 k_j3 q_j3 k_j4 q_j4 k_j5 j5 k_j7 q_j7 k_j8 j8 n_2 htp hhs hss hnc hnp hne hst0 hgc hgfull hgfound hgl hgsz hln hnr (by omega) (by assumption) (by omega)) (cwV 1 hts g_E_8_replays_E_8_timesRun rfl rfl rfl (by decide +kernel) ⟨Nat.le_of_ble_eq_true rfl, Nat.le_of_ble_eq_true rfl⟩) ⟨pu_bl, va_recv hK hP (ci := 8) (q0 := 0) rfl rfl, pu_in hPc hKc hDc⟩ rfl rfl hl.1 rfl (lv_room (Nat.le_of_ble_eq_true rfl)) eX8_replays_18 ⟨Nat.le_of_ble_eq_true rfl, Nat.le_of_ble_eq_true rfl⟩) hS (fun q _ h => hFc q h) hFc (fun r_3 u t H1 locs ht hvm hw hB hz1 hk1 hS => ?_)
    obtain ⟨z_j0_4, z_j2_5, z_j3_6, z_j4_7, z_j5_8, z_j7_9, z_ln_10, z_nr_11, ⟨hP1, -, hD1⟩, hz_ln_10, hz_nr_11, xr_3_0⟩ := hB
    rw [ht] at hP1
    obtain ⟨hP, hD⟩ := pj_a (X := (xrp__w xa xtape (nI tp) rd au xdr hy g (nI hs) tg sg (nI ss) rm ti py bu sm (nI nc) (nI np) (nI ne) (nI st0) q4 q5 q6 q7 q8 q9 q10 q11 q12 q13 q14 q15 q16 k_f4 f4 k_f5 (bN 7 q_f5) k_f6 (bN 7 q_f6) k_f7 f7 k_f8 (bN 4 q_f8) k_f9 (bN 2 q_f9) k_f10 f10 k_f11 f11 k_f12 f12 k_f13 f13 k_f14 f14 k_f15 f15 k_f16 f16 gz g1 g2 g3 g4 g5 (nI gc) (nI gfull) gx gway gav ggoal (nI gfound) 120 (nI gl) (nI gsz) g16 g17 k_fs2 fs2 k_fs3 fs3 k_fs4 fs4 r0 (nI ln) r2 r3 r4 r5 (nI nr) r7 r8 tz k_j0 (bN 13 q_j0) k_j2 j2 k_j3 (bN 120 q_j3) k_j4 (bN 120 q_j4) k_j5 j5 k_j7 (bN 120 q_j7) k_j8 j8 0 (nI si) ti0 tm bh k_ftm ftm k_fbh fbh)) (X' := (xrp__w xa xtape (nI tp) rd au xdr hy g (nI hs) tg sg (nI ss) rm ti py bu sm (nI nc) (nI np) (nI ne) (nI st0) q4 q5 q6 q7 q8 q9 q10 q11 q12 q13 q14 q15 q16 k_f4 f4 k_f5 (bN 7 q_f5) k_f6 (bN 7 q_f6) k_f7 f7 k_f8 (bN 4 q_f8) k_f9 (bN 2 q_f9) k_f10 f10 k_f11 f11 k_f12 f12 k_f13 f13 k_f14 f14 k_f15 f15 k_f16 f16 gz g1 g2 g3 g4 g5 (nI gc) (nI gfull) gx gway gav ggoal (nI gfound) 120 (nI gl) (nI gsz) g16 g17 k_fs2 fs2 k_fs3 fs3 k_fs4 fs4 r0 (nI z_ln_10) r2 r3 r4 r5 (nI z_nr_11) r7 r8 tz k_j0 (bN 13 z_j0_4) k_j2 z_j2_5 k_j3 (bN 120 z_j3_6) k_j4 (bN 120 z_j4_7) k_j5 z_j5_8 k_j7 (bN 120 z_j7_9) k_j8 j8 0 (nI si) ti0 tm bh k_ftm ftm k_fbh fbh)) (wc := (xti__w xa xtape (nI tp) rd au xdr hy g (nI hs) tg sg (nI ss) rm ti py bu sm (nI nc) (nI np) (nI ne) (nI st0) q4 q5 q6 q7 q8 q9 q10 q11 q12 q13 q14 q15 q16 k_f4 f4 k_f5 (bN 7 q_f5) k_f6 (bN 7 q_f6) k_f7 f7 k_f8 (bN 4 q_f8) k_f9 (bN 2 q_f9) k_f10 f10 k_f11 f11 k_f12 f12 k_f13 f13 k_f14 f14 k_f15 f15 k_f16 f16 gz g1 g2 g3 g4 g5 (nI gc) (nI gfull) gx gway gav ggoal (nI gfound) 120 (nI gl) (nI gsz) g16 g17 k_fs2 fs2 k_fs3 fs3 k_fs4 fs4 r0 (nI ln) r2 r3 r4 r5 (nI nr) r7 r8 tz k_j0 (bN 13 q_j0) k_j2 j2 k_j3 (bN 120 q_j3) k_j4 (bN 120 q_j4) k_j5 j5 k_j7 (bN 120 q_j7) k_j8 j8)) (w1 := (xti__w xa xtape (nI tp) rd au xdr hy g (nI hs) tg sg (nI ss) rm ti py bu sm (nI nc) (nI np) (nI ne) (nI st0) q4 q5 q6 q7 q8 q9 q10 q11 q12 q13 q14 q15 q16 k_f4 f4 k_f5 (bN 7 q_f5) k_f6 (bN 7 q_f6) k_f7 f7 k_f8 (bN 4 q_f8) k_f9 (bN 2 q_f9) k_f10 f10 k_f11 f11 k_f12 f12 k_f13 f13 k_f14 f14 k_f15 f15 k_f16 f16 gz g1 g2 g3 g4 g5 (nI gc) (nI gfull) gx gway gav ggoal (nI gfound) 120 (nI gl) (nI gsz) g16 g17 k_fs2 fs2 k_fs3 fs3 k_fs4 fs4 r0 (nI z_ln_10) r2 r3 r4 r5 (nI z_nr_11) r7 r8 tz k_j0 (bN 13 z_j0_4) k_j2 z_j2_5 k_j3 (bN 120 z_j3_6) k_j4 (bN 120 z_j4_7) k_j5 z_j5_8 k_j7 (bN 120 z_j7_9) k_j8 j8)) hP hD [0, 1, 2, 3, 4, 5, 6, 7, 8, 9, 10, 11, 12, 13, 14, 15, 16, 17, 18, 19, 20, 21, 22, 23, 24, 25, 26] [0, 1, 2, 3, 4, 5, 6, 7, 8, 9, 10, 11, 12, 13, 14, 15, 16, 17, 18, 19, 20, 21, 22, 23, 24, 25, 26, 54, 55, 56] 27 rfl hk1 hP1 rfl rfl rfl (by decide)
    clear hP1 hD1 hFc hPc hDc hKc
    clear hk1 hz1 ht hvm
    generalize H1 = H at hP hS ⊢
    obtain ⟨u_12, hu_12, rfl, iu_12⟩ := hw
    have iu_12 : (u_12, z_j0_4, z_j2_5, z_j3_6, z_j4_7, z_j5_8, z_j7_9, z_ln_10, z_nr_11) = (sp_E_8_timesRun nc st0 f4 q_f5 q_f6 f7 q_f8 q_f9 f12 f13 fs2 fs3 fs4 q_j0 j2 q_j3 q_j4 j5 q_j7 n_2) := Prod.ext iu_12 xr_3_0
    have hsp := hsp.trans (slet_eq iu_12)
    refine lv_if_eq (tgt := 38) hx hb eX8_replays_21 (by decide) (fun c_13 => ?_) (fun c_13 => ?_)
    · have c_13 : u_12 = 0 := (nI_eq (a := u_12) (b := 0) (Nat.lt_of_le_of_lt hu_12 (Nat.le_of_ble_eq_true rfl)) (Nat.le_of_ble_eq_true rfl)).mp c_13
      have hsp := hsp.trans (if_pos c_13)
      refine lv_iconst (v := 0) hx hb eX8_replays_38 (by decide) ?_
      exact W.zret (v := 0) (ty := .boolean) hx hb hr (rfl) (fun t ht hW => ⟨⟨0, (), rfl, ⟨0, (Nat.le_of_ble_eq_true rfl), rfl, (congrArg Prod.fst (hsp.symm.trans hRR))⟩, ⟨z_j0_4, z_j2_5, z_j3_6, z_j4_7, z_j5_8, z_j7_9, ftm, fbh, z_ln_10, z_nr_11, 0, si, ti0, ⟨by rw [ht]; exact hP, va_K.moved hW.alike hK, hD⟩, hz_ln_10, hz_nr_11, (Nat.le_of_ble_eq_true rfl), hsi, (congrArg Prod.snd (hsp.symm.trans hRR))⟩⟩, hS.F ht⟩) hS.2.2 eX8_replays_39
    · have c_13 : ¬ u_12 = 0 := fun z => c_13 ((nI_eq (a := u_12) (b := 0) (Nat.lt_of_le_of_lt hu_12 (Nat.le_of_ble_eq_true rfl)) (Nat.le_of_ble_eq_true rfl)).mpr z)
      have hsp := hsp.trans (if_neg c_13)
      refine lv_aload_n hx hb eX8_replays_24 rfl (lv_at hl 0 rfl) ?_
      refine va_get (D := (dC, dI)) (ci := 8) (v := .ref py) (C := RX8) (T := TX8) (N := 16) hx hb hts hiX8 hown hK hP 0 rfl rfl 13 (by decide) v_1 (fun _ h9 => h9) rfl eX8_replays_25 ?_
      refine lv_aload_n hx hb eX8_replays_28 rfl (lv_at hl 0 rfl) ?_
      refine va_get (D := (dC, dI)) (ci := 8) (v := .ref au) (C := RX8) (T := TX8) (N := 16) hx hb hts hiX8 hown hK hP 0 rfl rfl 3 (by decide) v_12 (fun _ h9 => h9) rfl eX8_replays_29 ?_
      have hPc : va_P (dC, dI) vwCl (pa__w py 0 (nI si) ti0 tm bh k_ftm ftm k_fbh fbh au (nI nc) (nI np) (nI ne) (nI st0) q4 q5 q6 q7 q8 q9 q10 q11 q12 q13 q14 q15 q16 k_f4 f4 k_f5 (bN 7 q_f5) k_f6 (bN 7 q_f6) k_f7 f7 k_f8 (bN 4 q_f8) k_f9 (bN 2 q_f9) k_f10 f10 k_f11 f11 k_f12 f12 k_f13 f13 k_f14 f14 k_f15 f15 k_f16 f16) _ := hP.sub [27, 28, 29, 1, 2, 3, 4, 5, 6, 7, 8, 9, 10, 11, 12, 13, 14] rfl
      have hDc := hD.sub (ws' := (pa__w py 0 (nI si) ti0 tm bh k_ftm ftm k_fbh fbh au (nI nc) (nI np) (nI ne) (nI st0) q4 q5 q6 q7 q8 q9 q10 q11 q12 q13 q14 q15 q16 k_f4 f4 k_f5 (bN 7 q_f5) k_f6 (bN 7 q_f6) k_f7 f7 k_f8 (bN 4 q_f8) k_f9 (bN 2 q_f9) k_f10 f10 k_f11 f11 k_f12 f12 k_f13 f13 k_f14 f14 k_f15 f15 k_f16 f16)) [27, 28, 29, 1, 2, 3, 4, 5, 6, 7, 8, 9, 10, 11, 12, 13, 14] (by decide) rfl
      have hKc : va_K (dC, dI) vwCl (pa__t k_ftm k_fbh k_f4 k_f5 k_f6 k_f7 k_f8 k_f9 k_f10 k_f11 k_f12 k_f13 k_f14 k_f15 k_f16) s := hK.sub [23, 24, 0, 1, 2, 3, 4, 5, 6, 7, 8, 9, 10, 11, 12] rfl
      have hFc := pu_free hDc hS hA
      refine va_calli (va_runV (As := [.ref au]) (rest := []) ⟨hx, hb, hml, hown, hts⟩ (c_E_3_startsIn l dC dI _ py 0 si ti0 tm bh k_ftm ftm k_fbh fbh au nc np ne st0 q4 q5 q6 q7 q8 q9 q10 q11 q12 q13 q14 q15 q16 k_f4 f4 k_f5 q_f5 k_f6 q_f6 k_f7 f7 k_f8 q_f8 k_f9 q_f9 k_f10 f10 k_f11 f11 k_f12 f12 k_f13 f13 k_f14 f14 k_f15 f15 k_f16 f16 (Nat.le_of_ble_eq_true rfl) hsi hnc hnp hne hst0) (cwV 1 hts g_E_8_replays_E_3_startsIn rfl rfl rfl (by decide +kernel) ⟨Nat.le_of_ble_eq_true rfl, Nat.le_of_ble_eq_true rfl⟩) ⟨pu_bl, va_recv hK hP (ci := 3) (q0 := 27) rfl rfl, pu_in hPc hKc hDc⟩ rfl rfl hl.1 rfl (lv_room (Nat.le_of_ble_eq_true rfl)) eX8_replays_32 ⟨Nat.le_of_ble_eq_true rfl, Nat.le_of_ble_eq_true rfl⟩) hS (fun q _ h => hFc q h) hFc (fun r_14 u t H1 locs ht hvm hw hB hz1 hk1 hS => ?_)
      obtain ⟨z_ftm_15, z_on_16, z_si_17, z_ti_18, ⟨hP1, -, hD1⟩, hz_on_16, hz_si_17, xr_14_0⟩ := hB
      rw [ht] at hP1
      obtain ⟨hP, hD⟩ := pj_a (X := (xrp__w xa xtape (nI tp) rd au xdr hy g (nI hs) tg sg (nI ss) rm ti py bu sm (nI nc) (nI np) (nI ne) (nI st0) q4 q5 q6 q7 q8 q9 q10 q11 q12 q13 q14 q15 q16 k_f4 f4 k_f5 (bN 7 q_f5) k_f6 (bN 7 q_f6) k_f7 f7 k_f8 (bN 4 q_f8) k_f9 (bN 2 q_f9) k_f10 f10 k_f11 f11 k_f12 f12 k_f13 f13 k_f14 f14 k_f15 f15 k_f16 f16 gz g1 g2 g3 g4 g5 (nI gc) (nI gfull) gx gway gav ggoal (nI gfound) 120 (nI gl) (nI gsz) g16 g17 k_fs2 fs2 k_fs3 fs3 k_fs4 fs4 r0 (nI z_ln_10) r2 r3 r4 r5 (nI z_nr_11) r7 r8 tz k_j0 (bN 13 z_j0_4) k_j2 z_j2_5 k_j3 (bN 120 z_j3_6) k_j4 (bN 120 z_j4_7) k_j5 z_j5_8 k_j7 (bN 120 z_j7_9) k_j8 j8 0 (nI si) ti0 tm bh k_ftm ftm k_fbh fbh)) (X' := (xrp__w xa xtape (nI tp) rd au xdr hy g (nI hs) tg sg (nI ss) rm ti py bu sm (nI nc) (nI np) (nI ne) (nI st0) q4 q5 q6 q7 q8 q9 q10 q11 q12 q13 q14 q15 q16 k_f4 f4 k_f5 (bN 7 q_f5) k_f6 (bN 7 q_f6) k_f7 f7 k_f8 (bN 4 q_f8) k_f9 (bN 2 q_f9) k_f10 f10 k_f11 f11 k_f12 f12 k_f13 f13 k_f14 f14 k_f15 f15 k_f16 f16 gz g1 g2 g3 g4 g5 (nI gc) (nI gfull) gx gway gav ggoal (nI gfound) 120 (nI gl) (nI gsz) g16 g17 k_fs2 fs2 k_fs3 fs3 k_fs4 fs4 r0 (nI z_ln_10) r2 r3 r4 r5 (nI z_nr_11) r7 r8 tz k_j0 (bN 13 z_j0_4) k_j2 z_j2_5 k_j3 (bN 120 z_j3_6) k_j4 (bN 120 z_j4_7) k_j5 z_j5_8 k_j7 (bN 120 z_j7_9) k_j8 j8 (nI z_on_16) (nI z_si_17) z_ti_18 tm bh k_ftm z_ftm_15 k_fbh fbh)) (wc := (pa__w py 0 (nI si) ti0 tm bh k_ftm ftm k_fbh fbh au (nI nc) (nI np) (nI ne) (nI st0) q4 q5 q6 q7 q8 q9 q10 q11 q12 q13 q14 q15 q16 k_f4 f4 k_f5 (bN 7 q_f5) k_f6 (bN 7 q_f6) k_f7 f7 k_f8 (bN 4 q_f8) k_f9 (bN 2 q_f9) k_f10 f10 k_f11 f11 k_f12 f12 k_f13 f13 k_f14 f14 k_f15 f15 k_f16 f16)) (w1 := (pa__w py (nI z_on_16) (nI z_si_17) z_ti_18 tm bh k_ftm z_ftm_15 k_fbh fbh au (nI nc) (nI np) (nI ne) (nI st0) q4 q5 q6 q7 q8 q9 q10 q11 q12 q13 q14 q15 q16 k_f4 f4 k_f5 (bN 7 q_f5) k_f6 (bN 7 q_f6) k_f7 f7 k_f8 (bN 4 q_f8) k_f9 (bN 2 q_f9) k_f10 f10 k_f11 f11 k_f12 f12 k_f13 f13 k_f14 f14 k_f15 f15 k_f16 f16)) hP hD [27, 28, 29, 1, 2, 3, 4, 5, 6, 7, 8, 9, 10, 11, 12, 13, 14] [17, 3, 4, 5, 6, 7, 8, 9, 10, 11, 12, 13, 14, 15, 16, 32, 33, 34, 35, 36, 37, 38, 39, 40, 41, 42, 43, 0, 1, 2] 17 rfl hk1 hP1 rfl rfl rfl (by decide)
      clear hP1 hD1 hFc hPc hDc hKc
      clear hk1 hz1 ht hvm
      generalize H1 = H at hP hS ⊢
      obtain ⟨u_19, hu_19, rfl, iu_19⟩ := hw
      have iu_19 : (u_19, z_ftm_15, z_on_16, z_si_17, z_ti_18) = (sp_E_3_startsIn si ti0 ftm np st0 q_f8 q_f9 f12 f13) := Prod.ext iu_19 xr_14_0
      have hsp := hsp.trans (slet_eq iu_19)
      refine lv_if_ne (tgt := 40) hx hb eX8_replays_35 (by decide) (fun c_20 => ?_) (fun c_20 => ?_)
      · have c_20 : ¬ u_19 = 0 := fun z => c_20 ((nI_eq (a := u_19) (b := 0) (Nat.lt_of_le_of_lt hu_19 (Nat.le_of_ble_eq_true rfl)) (Nat.le_of_ble_eq_true rfl)).mpr z)
        have hsp := hsp.trans (if_neg c_20)
        refine lv_iconst (v := 0) hx hb eX8_replays_40 (by decide) ?_
        refine lv_istore_n (lv' := [(2, .int 0), (0, .ref xa), (1, .int (nI n_2))]) hx hb eX8_replays_41 rfl hl (by decide) rfl (fun ls hl => ?_)
        obtain ⟨JR_28, hJR_28, hsp⟩ := slet_ex hsp
        refine pu_join (fun H locs ls st => ∃ (g_21 : Nat) (g_22 : Nat) (g_23 : Nat) (g_24 : Int32) (g_25 : Nat → Int32) (g_26 : Nat → Int32), st = [] ∧ g_21 ≤ 119 ∧ g_22 ≤ 1 ∧ g_23 ≤ 7 ∧ (g_21, g_22, g_23, g_24, g_25, g_26) = JR_28 ∧ va_P (dC, dI) vwCl (xrp__w xa xtape (nI tp) rd au xdr hy g (nI hs) tg sg (nI ss) rm ti py bu sm (nI nc) (nI np) (nI ne) (nI st0) q4 q5 q6 q7 q8 q9 q10 q11 q12 q13 q14 q15 q16 k_f4 f4 k_f5 (bN 7 q_f5) k_f6 (bN 7 q_f6) k_f7 f7 k_f8 (bN 4 q_f8) k_f9 (bN 2 q_f9) k_f10 f10 k_f11 f11 k_f12 f12 k_f13 f13 k_f14 f14 k_f15 f15 k_f16 f16 gz g1 g2 g3 g4 g5 (nI gc) (nI gfull) gx gway gav ggoal (nI gfound) 120 (nI gl) (nI gsz) g16 g17 k_fs2 fs2 k_fs3 fs3 k_fs4 fs4 r0 (nI z_ln_10) r2 r3 r4 r5 (nI z_nr_11) r7 r8 tz k_j0 (bN 13 z_j0_4) k_j2 z_j2_5 k_j3 (bN 120 z_j3_6) k_j4 (bN 120 z_j4_7) k_j5 z_j5_8 k_j7 (bN 120 z_j7_9) k_j8 j8 (nI g_22) (nI g_23) g_24 tm bh k_ftm g_25 k_fbh g_26) H ∧ va_D A (xrp__w xa xtape (nI tp) rd au xdr hy g (nI hs) tg sg (nI ss) rm ti py bu sm (nI nc) (nI np) (nI ne) (nI st0) q4 q5 q6 q7 q8 q9 q10 q11 q12 q13 q14 q15 q16 k_f4 f4 k_f5 (bN 7 q_f5) k_f6 (bN 7 q_f6) k_f7 f7 k_f8 (bN 4 q_f8) k_f9 (bN 2 q_f9) k_f10 f10 k_f11 f11 k_f12 f12 k_f13 f13 k_f14 f14 k_f15 f15 k_f16 f16 gz g1 g2 g3 g4 g5 (nI gc) (nI gfull) gx gway gav ggoal (nI gfound) 120 (nI gl) (nI gsz) g16 g17 k_fs2 fs2 k_fs3 fs3 k_fs4 fs4 r0 (nI z_ln_10) r2 r3 r4 r5 (nI z_nr_11) r7 r8 tz k_j0 (bN 13 z_j0_4) k_j2 z_j2_5 k_j3 (bN 120 z_j3_6) k_j4 (bN 120 z_j4_7) k_j5 z_j5_8 k_j7 (bN 120 z_j7_9) k_j8 j8 (nI g_22) (nI g_23) g_24 tm bh k_ftm g_25 k_fbh g_26) ∧ va_S A s.heap H locs ∧ lv_has ls 3 [(0, .ref xa), (1, .int (nI n_2)), (2, .int (nI g_21))]) 117 ?_ (fun j_27 => ?_)
        · rintro H locs ls st ⟨g_21, g_22, g_23, g_24, g_25, g_26, rfl, hg_21, hg_22, hg_23, he_29, hP, hD, hS, hl⟩
          rw [← he_29] at hsp
          refine lv_aload_n hx hb eX8_replays_117 rfl (lv_at hl 0 rfl) ?_
          refine va_get (D := (dC, dI)) (ci := 8) (v := .ref py) (C := RX8) (T := TX8) (N := 16) hx hb hts hiX8 hown hK hP 0 rfl rfl 13 (by decide) v_1 (fun _ h9 => h9) rfl eX8_replays_118 ?_
          refine va_get (D := (dC, dI)) (ci := 3) (v := .int (nI g_22)) (C := RX3) (T := TX3) (N := 5) hx hb hts hiX3 hown hK hP 27 rfl rfl 0 (by decide) v_2 (fun _ h9 => h9) rfl eX8_replays_121 ?_
          exact W.zret (v := (nI g_22)) (ty := .boolean) hx hb hr (pu_nz (pu_b1 (n := g_22) (by omega))) (fun t ht hW => ⟨⟨(nI g_22), (), rfl, ⟨g_22, hg_22, rfl, (congrArg Prod.fst (hsp.symm.trans hRR))⟩, ⟨z_j0_4, z_j2_5, z_j3_6, z_j4_7, z_j5_8, z_j7_9, g_25, g_26, z_ln_10, z_nr_11, g_22, g_23, g_24, ⟨by rw [ht]; exact hP, va_K.moved hW.alike hK, hD⟩, hz_ln_10, hz_nr_11, hg_22, hg_23, (congrArg Prod.snd (hsp.symm.trans hRR))⟩⟩, hS.F ht⟩) hS.2.2 eX8_replays_124
        have hsp := hJR_28
        obtain ⟨lf_43, dlf_43, hlf_43, hsp⟩ := itr_ex hsp
        delta sp_E_8_replays_L1 at hlf_43
        refine pu_while (fun nn H locs ls => ∃ (g_36 : Nat → Int32) (g_37 : Nat → Int32) (g_38 : Nat) (g_39 : Nat) (g_40 : Int32) (g_41 : Nat), nn = 119 - g_41 ∧ g_38 ≤ 1 ∧ g_39 ≤ 7 ∧ g_41 ≤ 119 ∧ JR_28 = itrv dlf_43 lf_43 (g_36, g_37, g_38, g_39, g_40, g_41) ∧ va_P (dC, dI) vwCl (xrp__w xa xtape (nI tp) rd au xdr hy g (nI hs) tg sg (nI ss) rm ti py bu sm (nI nc) (nI np) (nI ne) (nI st0) q4 q5 q6 q7 q8 q9 q10 q11 q12 q13 q14 q15 q16 k_f4 f4 k_f5 (bN 7 q_f5) k_f6 (bN 7 q_f6) k_f7 f7 k_f8 (bN 4 q_f8) k_f9 (bN 2 q_f9) k_f10 f10 k_f11 f11 k_f12 f12 k_f13 f13 k_f14 f14 k_f15 f15 k_f16 f16 gz g1 g2 g3 g4 g5 (nI gc) (nI gfull) gx gway gav ggoal (nI gfound) 120 (nI gl) (nI gsz) g16 g17 k_fs2 fs2 k_fs3 fs3 k_fs4 fs4 r0 (nI z_ln_10) r2 r3 r4 r5 (nI z_nr_11) r7 r8 tz k_j0 (bN 13 z_j0_4) k_j2 z_j2_5 k_j3 (bN 120 z_j3_6) k_j4 (bN 120 z_j4_7) k_j5 z_j5_8 k_j7 (bN 120 z_j7_9) k_j8 j8 (nI g_38) (nI g_39) g_40 tm bh k_ftm g_36 k_fbh g_37) H ∧ va_D A (xrp__w xa xtape (nI tp) rd au xdr hy g (nI hs) tg sg (nI ss) rm ti py bu sm (nI nc) (nI np) (nI ne) (nI st0) q4 q5 q6 q7 q8 q9 q10 q11 q12 q13 q14 q15 q16 k_f4 f4 k_f5 (bN 7 q_f5) k_f6 (bN 7 q_f6) k_f7 f7 k_f8 (bN 4 q_f8) k_f9 (bN 2 q_f9) k_f10 f10 k_f11 f11 k_f12 f12 k_f13 f13 k_f14 f14 k_f15 f15 k_f16 f16 gz g1 g2 g3 g4 g5 (nI gc) (nI gfull) gx gway gav ggoal (nI gfound) 120 (nI gl) (nI gsz) g16 g17 k_fs2 fs2 k_fs3 fs3 k_fs4 fs4 r0 (nI z_ln_10) r2 r3 r4 r5 (nI z_nr_11) r7 r8 tz k_j0 (bN 13 z_j0_4) k_j2 z_j2_5 k_j3 (bN 120 z_j3_6) k_j4 (bN 120 z_j4_7) k_j5 z_j5_8 k_j7 (bN 120 z_j7_9) k_j8 j8 (nI g_38) (nI g_39) g_40 tm bh k_ftm g_36 k_fbh g_37) ∧ va_S A s.heap H locs ∧ lv_has ls 3 [(0, .ref xa), (1, .int (nI n_2)), (2, .int (nI g_41))]) 42 ?_ _ _ _ _ ⟨z_ftm_15, fbh, z_on_16, z_si_17, z_ti_18, 0, rfl, hz_on_16, hz_si_17, (Nat.le_of_ble_eq_true rfl), hsp, hP, hD, hS, lv_sub hl [1, 2, 0] rfl⟩
        rintro nn ih_42 H locs ls ⟨g_36, g_37, g_38, g_39, g_40, g_41, rfl, hg_38, hg_39, hg_41, he_45, hP, hD, hS, hl⟩
        obtain ⟨S_44, hsp, hin_46, hout_47⟩ := itr_step hlf_43 he_45
        refine lv_iload_n hx hb eX8_replays_42 rfl (lv_at hl 2 rfl) ?_
        refine lv_aload_n hx hb eX8_replays_43 rfl (lv_at hl 0 rfl) ?_
        refine va_get (D := (dC, dI)) (ci := 8) (v := .ref ti) (C := RX8) (T := TX8) (N := 16) hx hb hts hiX8 hown hK hP 0 rfl rfl 12 (by decide) v_18 (fun _ h9 => h9) rfl eX8_replays_44 ?_
        refine va_get (D := (dC, dI)) (ci := 6) (v := .int (nI z_ln_10)) (C := RX6) (T := TX6) (N := 10) hx hb hts hiX6 hown hK hP 19 rfl rfl 1 (by decide) v_19 (fun _ h9 => h9) rfl eX8_replays_47 ?_
        refine lv_icmp_ge (tgt := 117) hx hb eX8_replays_50 (by decide) (fun c_48 => ?_) (fun c_48 => ?_)
        · have c_48 : z_ln_10 ≤ g_41 := (nI_leI (a := z_ln_10) (b := g_41) (Nat.lt_of_le_of_lt hz_ln_10 (Nat.le_of_ble_eq_true rfl)) (Nat.lt_of_le_of_lt hg_41 (Nat.le_of_ble_eq_true rfl))).mp c_48
          have hsp := hsp.trans (if_pos c_48)
          have hsp := hout_47 _ hsp
          exact j_27 _ _ _ _ ⟨g_41, g_38, g_39, g_40, g_36, g_37, rfl, hg_41, hg_38, hg_39, hsp.symm, hP, hD, hS, lv_sub hl [0, 1, 2] rfl⟩
        · have c_48 : ¬ z_ln_10 ≤ g_41 := fun z => c_48 ((nI_leI (a := z_ln_10) (b := g_41) (Nat.lt_of_le_of_lt hz_ln_10 (Nat.le_of_ble_eq_true rfl)) (Nat.lt_of_le_of_lt hg_41 (Nat.le_of_ble_eq_true rfl))).mpr z)
          have hsp := hsp.trans (if_neg c_48)
          refine lv_aload_n hx hb eX8_replays_53 rfl (lv_at hl 0 rfl) ?_
          refine va_get (D := (dC, dI)) (ci := 8) (v := .ref py) (C := RX8) (T := TX8) (N := 16) hx hb hts hiX8 hown hK hP 0 rfl rfl 13 (by decide) v_1 (fun _ h9 => h9) rfl eX8_replays_54 ?_
          refine va_get (D := (dC, dI)) (ci := 3) (v := .int (nI g_38)) (C := RX3) (T := TX3) (N := 5) hx hb hts hiX3 hown hK hP 27 rfl rfl 0 (by decide) v_2 (fun _ h9 => h9) rfl eX8_replays_57 ?_
          refine lv_if_eq (tgt := 117) hx hb eX8_replays_60 (by decide) (fun c_49 => ?_) (fun c_49 => ?_)
          · have c_49 : g_38 = 0 := (nI_eq (a := g_38) (b := 0) (Nat.lt_of_le_of_lt hg_38 (Nat.le_of_ble_eq_true rfl)) (Nat.le_of_ble_eq_true rfl)).mp c_49
            have hsp := hsp.trans (if_pos c_49)
            have hsp := hout_47 _ hsp
            exact j_27 _ _ _ _ ⟨g_41, g_38, g_39, g_40, g_36, g_37, rfl, hg_41, hg_38, hg_39, hsp.symm, hP, hD, hS, lv_sub hl [0, 1, 2] rfl⟩
          · have c_49 : ¬ g_38 = 0 := fun z => c_49 ((nI_eq (a := g_38) (b := 0) (Nat.lt_of_le_of_lt hg_38 (Nat.le_of_ble_eq_true rfl)) (Nat.le_of_ble_eq_true rfl)).mpr z)
            have hsp := hsp.trans (if_neg c_49)
            refine lv_aload_n hx hb eX8_replays_63 rfl (lv_at hl 0 rfl) ?_
            refine va_get (D := (dC, dI)) (ci := 8) (v := .ref py) (C := RX8) (T := TX8) (N := 16) hx hb hts hiX8 hown hK hP 0 rfl rfl 13 (by decide) v_1 (fun _ h9 => h9) rfl eX8_replays_64 ?_
            refine lv_aload_n hx hb eX8_replays_67 rfl (lv_at hl 0 rfl) ?_
            refine va_get (D := (dC, dI)) (ci := 8) (v := .ref py) (C := RX8) (T := TX8) (N := 16) hx hb hts hiX8 hown hK hP 0 rfl rfl 13 (by decide) v_1 (fun _ h9 => h9) rfl eX8_replays_68 ?_
            refine lv_aload_n hx hb eX8_replays_71 rfl (lv_at hl 0 rfl) ?_
            refine va_get (D := (dC, dI)) (ci := 8) (v := .ref au) (C := RX8) (T := TX8) (N := 16) hx hb hts hiX8 hown hK hP 0 rfl rfl 3 (by decide) v_12 (fun _ h9 => h9) rfl eX8_replays_72 ?_
            refine lv_aload_n hx hb eX8_replays_75 rfl (lv_at hl 0 rfl) ?_
            refine va_get (D := (dC, dI)) (ci := 8) (v := .ref ti) (C := RX8) (T := TX8) (N := 16) hx hb hts hiX8 hown hK hP 0 rfl rfl 12 (by decide) v_18 (fun _ h9 => h9) rfl eX8_replays_76 ?_
            refine va_get (D := (dC, dI)) (ci := 6) (v := .ref r2) (C := RX6) (T := TX6) (N := 10) hx hb hts hiX6 hown hK hP 19 rfl rfl 2 (by decide) v_20 (fun _ h9 => h9) rfl eX8_replays_79 ?_
            refine lv_iload_n hx hb eX8_replays_82 rfl (lv_at hl 2 rfl) ?_
            refine lv_iconst (v := 1) hx hb eX8_replays_83 (by decide) ?_
            refine lv_iadd hx hb eX8_replays_84 ?_
            refine lv_topi (fun y_50 ey_50 => ?_)
            obtain rfl : y_50 = (nI (g_41 + 1)) := ey_50.trans (nI_add g_41 1)
            refine va_iald hx hb hK hP 21 17 rfl rfl (vp_in_nI (n := (g_41 + 1)) (by omega) (Nat.le_of_ble_eq_true rfl)) eX8_replays_85 ?_
            refine lv_topi (fun y_51 ey_51 => ?_)
            have ey_51 : y_51 = z_j2_5 (g_41 + 1) := ey_51.trans (congrArg z_j2_5 (nI_clamp (n := (g_41 + 1)) (by omega)))
            have hsp := hsp.trans (slet_eq ey_51)
            refine lv_aload_n hx hb eX8_replays_86 rfl (lv_at hl 0 rfl) ?_
            refine va_get (D := (dC, dI)) (ci := 8) (v := .ref ti) (C := RX8) (T := TX8) (N := 16) hx hb hts hiX8 hown hK hP 0 rfl rfl 12 (by decide) v_18 (fun _ h9 => h9) rfl eX8_replays_87 ?_
            refine va_get (D := (dC, dI)) (ci := 6) (v := .ref r2) (C := RX6) (T := TX6) (N := 10) hx hb hts hiX6 hown hK hP 19 rfl rfl 2 (by decide) v_20 (fun _ h9 => h9) rfl eX8_replays_90 ?_
            refine lv_iload_n hx hb eX8_replays_93 rfl (lv_at hl 2 rfl) ?_
            refine va_iald hx hb hK hP 21 17 rfl rfl (vp_in_nI (n := g_41) (Nat.lt_of_le_of_lt hg_41 (Nat.le_of_ble_eq_true rfl)) (Nat.le_of_ble_eq_true rfl)) eX8_replays_94 ?_
            refine lv_topi (fun y_52 ey_52 => ?_)
            have ey_52 : y_52 = z_j2_5 g_41 := ey_52.trans (congrArg z_j2_5 (nI_clamp (n := g_41) (Nat.lt_of_le_of_lt hg_41 (Nat.le_of_ble_eq_true rfl))))
            have hsp := hsp.trans (slet_eq ey_52)
            refine lv_isub hx hb eX8_replays_95 ?_
            refine lv_topi (fun y_53 ey_53 => ?_)
            have hsp := hsp.trans (slet_eq ey_53)
            refine lv_aload_n hx hb eX8_replays_96 rfl (lv_at hl 0 rfl) ?_
            refine va_get (D := (dC, dI)) (ci := 8) (v := .ref ti) (C := RX8) (T := TX8) (N := 16) hx hb hts hiX8 hown hK hP 0 rfl rfl 12 (by decide) v_18 (fun _ h9 => h9) rfl eX8_replays_97 ?_
            refine va_get (D := (dC, dI)) (ci := 6) (v := .ref r0) (C := RX6) (T := TX6) (N := 10) hx hb hts hiX6 hown hK hP 19 rfl rfl 0 (by decide) v_21 (fun _ h9 => h9) rfl eX8_replays_100 ?_
            refine lv_iload_n hx hb eX8_replays_103 rfl (lv_at hl 2 rfl) ?_
            refine va_iald hx hb hK hP 20 16 rfl rfl (vp_in_nI (n := g_41) (Nat.lt_of_le_of_lt hg_41 (Nat.le_of_ble_eq_true rfl)) (Nat.le_of_ble_eq_true rfl)) eX8_replays_104 ?_
            refine lv_topi (fun y_54 ey_54 => ?_)
            obtain ⟨u_55, hu_55, qu_55, xu_55⟩ := bN_getx 13 z_j0_4 (n := g_41) (Nat.lt_of_le_of_lt hg_41 (Nat.le_of_ble_eq_true rfl))
            obtain rfl : y_54 = nI u_55 := ey_54.trans qu_55
            have hsp := hsp.trans (slet_eq xu_55)
            have hPc : va_P (dC, dI) vwCl (pa__w py (nI g_38) (nI g_39) g_40 tm bh k_ftm g_36 k_fbh g_37 au (nI nc) (nI np) (nI ne) (nI st0) q4 q5 q6 q7 q8 q9 q10 q11 q12 q13 q14 q15 q16 k_f4 f4 k_f5 (bN 7 q_f5) k_f6 (bN 7 q_f6) k_f7 f7 k_f8 (bN 4 q_f8) k_f9 (bN 2 q_f9) k_f10 f10 k_f11 f11 k_f12 f12 k_f13 f13 k_f14 f14 k_f15 f15 k_f16 f16) _ := hP.sub [27, 28, 29, 1, 2, 3, 4, 5, 6, 7, 8, 9, 10, 11, 12, 13, 14] rfl
            have hDc := hD.sub (ws' := (pa__w py (nI g_38) (nI g_39) g_40 tm bh k_ftm g_36 k_fbh g_37 au (nI nc) (nI np) (nI ne) (nI st0) q4 q5 q6 q7 q8 q9 q10 q11 q12 q13 q14 q15 q16 k_f4 f4 k_f5 (bN 7 q_f5) k_f6 (bN 7 q_f6) k_f7 f7 k_f8 (bN 4 q_f8) k_f9 (bN 2 q_f9) k_f10 f10 k_f11 f11 k_f12 f12 k_f13 f13 k_f14 f14 k_f15 f15 k_f16 f16)) [27, 28, 29, 1, 2, 3, 4, 5, 6, 7, 8, 9, 10, 11, 12, 13, 14] (by decide) rfl
            have hKc : va_K (dC, dI) vwCl (pa__t k_ftm k_fbh k_f4 k_f5 k_f6 k_f7 k_f8 k_f9 k_f10 k_f11 k_f12 k_f13 k_f14 k_f15 k_f16) s := hK.sub [23, 24, 0, 1, 2, 3, 4, 5, 6, 7, 8, 9, 10, 11, 12] rfl
            have hFc := pu_free hDc hS hA
            refine va_calli (va_runV (As := [.ref au, .int y_53, .int (nI u_55)]) (rest := [.ref py]) ⟨hx, hb, hml, hown, hts⟩ (c_E_3_goesBy l dC dI _ py g_38 g_39 g_40 tm bh k_ftm g_36 k_fbh g_37 au nc np ne (nI st0) q4 q5 q6 q7 q8 q9 q10 q11 q12 q13 q14 q15 q16 k_f4 f4 k_f5 q_f5 k_f6 q_f6 k_f7 f7 k_f8 q_f8 k_f9 q_f9 k_f10 f10 k_f11 f11 k_f12 f12 k_f13 f13 k_f14 f14 k_f15 f15 k_f16 f16 y_53 u_55 hg_38 hg_39 hnc hnp hne (Or.inr ⟨st0, hst0, rfl⟩) hu_55) (cwV 3 hts g_E_8_replays_E_3_goesBy rfl rfl rfl (by decide +kernel) ⟨Nat.le_of_ble_eq_true rfl, Nat.le_of_ble_eq_true rfl⟩) ⟨pu_bl, va_recv hK hP (ci := 3) (q0 := 27) rfl rfl, pu_in hPc hKc hDc⟩ rfl rfl hl.1 rfl (lv_room (Nat.le_of_ble_eq_true rfl)) eX8_replays_105 ⟨Nat.le_of_ble_eq_true rfl, Nat.le_of_ble_eq_true rfl⟩) hS (fun q _ h => hFc q h) hFc (fun r_56 u t H1 locs ht hvm hw hB hz1 hk1 hS => ?_)
            obtain ⟨z_ftm_57, z_fbh_58, z_si_59, z_ti_60, ⟨hP1, -, hD1⟩, hz_si_59, xr_56_0⟩ := hB
            rw [ht] at hP1
            obtain ⟨hP, hD⟩ := pj_a (X := (xrp__w xa xtape (nI tp) rd au xdr hy g (nI hs) tg sg (nI ss) rm ti py bu sm (nI nc) (nI np) (nI ne) (nI st0) q4 q5 q6 q7 q8 q9 q10 q11 q12 q13 q14 q15 q16 k_f4 f4 k_f5 (bN 7 q_f5) k_f6 (bN 7 q_f6) k_f7 f7 k_f8 (bN 4 q_f8) k_f9 (bN 2 q_f9) k_f10 f10 k_f11 f11 k_f12 f12 k_f13 f13 k_f14 f14 k_f15 f15 k_f16 f16 gz g1 g2 g3 g4 g5 (nI gc) (nI gfull) gx gway gav ggoal (nI gfound) 120 (nI gl) (nI gsz) g16 g17 k_fs2 fs2 k_fs3 fs3 k_fs4 fs4 r0 (nI z_ln_10) r2 r3 r4 r5 (nI z_nr_11) r7 r8 tz k_j0 (bN 13 z_j0_4) k_j2 z_j2_5 k_j3 (bN 120 z_j3_6) k_j4 (bN 120 z_j4_7) k_j5 z_j5_8 k_j7 (bN 120 z_j7_9) k_j8 j8 (nI g_38) (nI g_39) g_40 tm bh k_ftm g_36 k_fbh g_37)) (X' := (xrp__w xa xtape (nI tp) rd au xdr hy g (nI hs) tg sg (nI ss) rm ti py bu sm (nI nc) (nI np) (nI ne) (nI st0) q4 q5 q6 q7 q8 q9 q10 q11 q12 q13 q14 q15 q16 k_f4 f4 k_f5 (bN 7 q_f5) k_f6 (bN 7 q_f6) k_f7 f7 k_f8 (bN 4 q_f8) k_f9 (bN 2 q_f9) k_f10 f10 k_f11 f11 k_f12 f12 k_f13 f13 k_f14 f14 k_f15 f15 k_f16 f16 gz g1 g2 g3 g4 g5 (nI gc) (nI gfull) gx gway gav ggoal (nI gfound) 120 (nI gl) (nI gsz) g16 g17 k_fs2 fs2 k_fs3 fs3 k_fs4 fs4 r0 (nI z_ln_10) r2 r3 r4 r5 (nI z_nr_11) r7 r8 tz k_j0 (bN 13 z_j0_4) k_j2 z_j2_5 k_j3 (bN 120 z_j3_6) k_j4 (bN 120 z_j4_7) k_j5 z_j5_8 k_j7 (bN 120 z_j7_9) k_j8 j8 (nI g_38) (nI z_si_59) z_ti_60 tm bh k_ftm z_ftm_57 k_fbh z_fbh_58)) (wc := (pa__w py (nI g_38) (nI g_39) g_40 tm bh k_ftm g_36 k_fbh g_37 au (nI nc) (nI np) (nI ne) (nI st0) q4 q5 q6 q7 q8 q9 q10 q11 q12 q13 q14 q15 q16 k_f4 f4 k_f5 (bN 7 q_f5) k_f6 (bN 7 q_f6) k_f7 f7 k_f8 (bN 4 q_f8) k_f9 (bN 2 q_f9) k_f10 f10 k_f11 f11 k_f12 f12 k_f13 f13 k_f14 f14 k_f15 f15 k_f16 f16)) (w1 := (pa__w py (nI g_38) (nI z_si_59) z_ti_60 tm bh k_ftm z_ftm_57 k_fbh z_fbh_58 au (nI nc) (nI np) (nI ne) (nI st0) q4 q5 q6 q7 q8 q9 q10 q11 q12 q13 q14 q15 q16 k_f4 f4 k_f5 (bN 7 q_f5) k_f6 (bN 7 q_f6) k_f7 f7 k_f8 (bN 4 q_f8) k_f9 (bN 2 q_f9) k_f10 f10 k_f11 f11 k_f12 f12 k_f13 f13 k_f14 f14 k_f15 f15 k_f16 f16)) hP hD [27, 28, 29, 1, 2, 3, 4, 5, 6, 7, 8, 9, 10, 11, 12, 13, 14] [17, 3, 4, 5, 6, 7, 8, 9, 10, 11, 12, 13, 14, 15, 16, 32, 33, 34, 35, 36, 37, 38, 39, 40, 41, 42, 43, 0, 1, 2] 17 rfl hk1 hP1 rfl rfl rfl (by decide)
            clear hP1 hD1 hFc hPc hDc hKc
            clear hk1 hz1 ht hvm
            generalize H1 = H at hP hS ⊢
            obtain ⟨u_61, hu_61, rfl, iu_61⟩ := hw
            have iu_61 : (u_61, z_ftm_57, z_fbh_58, z_si_59, z_ti_60) = (sp_E_3_goesBy g_39 g_40 g_36 g_37 f4 q_f5 q_f6 f7 q_f8 q_f9 f12 f13 y_53 u_55) := Prod.ext iu_61 xr_56_0
            have hsp := hsp.trans (slet_eq iu_61)
            refine va_put (D := (dC, dI)) (ci := 3) (v := .int (nI u_61)) (ty := .boolean) (C := RX3) (T := TX3) (N := 5) hx hb hts hiX3 tyX3 tyX3_ok nmX3 hown hK hP hD hS 27 rfl rfl 0 (by decide) v_2 (fun _ h9 => h9) rfl (by decide +kernel) (pu_nz (pu_b1 (n := u_61) (by omega))) (pu_fz (pu_b1 (n := u_61) (by omega))) (Nat.le_of_ble_eq_true rfl) eX8_replays_108 (fun H locs hP hD hS => ?_)
            have hP : va_P (dC, dI) vwCl (xrp__w xa xtape (nI tp) rd au xdr hy g (nI hs) tg sg (nI ss) rm ti py bu sm (nI nc) (nI np) (nI ne) (nI st0) q4 q5 q6 q7 q8 q9 q10 q11 q12 q13 q14 q15 q16 k_f4 f4 k_f5 (bN 7 q_f5) k_f6 (bN 7 q_f6) k_f7 f7 k_f8 (bN 4 q_f8) k_f9 (bN 2 q_f9) k_f10 f10 k_f11 f11 k_f12 f12 k_f13 f13 k_f14 f14 k_f15 f15 k_f16 f16 gz g1 g2 g3 g4 g5 (nI gc) (nI gfull) gx gway gav ggoal (nI gfound) 120 (nI gl) (nI gsz) g16 g17 k_fs2 fs2 k_fs3 fs3 k_fs4 fs4 r0 (nI z_ln_10) r2 r3 r4 r5 (nI z_nr_11) r7 r8 tz k_j0 (bN 13 z_j0_4) k_j2 z_j2_5 k_j3 (bN 120 z_j3_6) k_j4 (bN 120 z_j4_7) k_j5 z_j5_8 k_j7 (bN 120 z_j7_9) k_j8 j8 (nI u_61) (nI z_si_59) z_ti_60 tm bh k_ftm z_ftm_57 k_fbh z_fbh_58) H := hP
            have hD : va_D A (xrp__w xa xtape (nI tp) rd au xdr hy g (nI hs) tg sg (nI ss) rm ti py bu sm (nI nc) (nI np) (nI ne) (nI st0) q4 q5 q6 q7 q8 q9 q10 q11 q12 q13 q14 q15 q16 k_f4 f4 k_f5 (bN 7 q_f5) k_f6 (bN 7 q_f6) k_f7 f7 k_f8 (bN 4 q_f8) k_f9 (bN 2 q_f9) k_f10 f10 k_f11 f11 k_f12 f12 k_f13 f13 k_f14 f14 k_f15 f15 k_f16 f16 gz g1 g2 g3 g4 g5 (nI gc) (nI gfull) gx gway gav ggoal (nI gfound) 120 (nI gl) (nI gsz) g16 g17 k_fs2 fs2 k_fs3 fs3 k_fs4 fs4 r0 (nI z_ln_10) r2 r3 r4 r5 (nI z_nr_11) r7 r8 tz k_j0 (bN 13 z_j0_4) k_j2 z_j2_5 k_j3 (bN 120 z_j3_6) k_j4 (bN 120 z_j4_7) k_j5 z_j5_8 k_j7 (bN 120 z_j7_9) k_j8 j8 (nI u_61) (nI z_si_59) z_ti_60 tm bh k_ftm z_ftm_57 k_fbh z_fbh_58) := hD
            refine lv_iinc (v := (nI (g_41 + 1))) (lv' := [(2, .int (nI (g_41 + 1))), (0, .ref xa), (1, .int (nI n_2))]) hx hb eX8_replays_111 hl (k := 2) rfl (nI_1 _) (by decide) rfl (fun ls hl => ?_)
            refine lv_goto (tgt := 42) hx hb eX8_replays_114 (by decide) ?_
            exact ih_42 (119 - (g_41 + 1)) (by omega) _ _ _ ⟨z_ftm_57, z_fbh_58, u_61, z_si_59, z_ti_60, (g_41 + 1), rfl, hu_61, hz_si_59, (by omega), hin_46 _ hsp, hP, hD, hS, lv_sub hl [1, 2, 0] rfl⟩
      · have c_20 : u_19 = 0 := (nI_eq (a := u_19) (b := 0) (Nat.lt_of_le_of_lt hu_19 (Nat.le_of_ble_eq_true rfl)) (Nat.le_of_ble_eq_true rfl)).mp c_20
        have hsp := hsp.trans (if_pos c_20)
        refine lv_iconst (v := 0) hx hb eX8_replays_38 (by decide) ?_
        exact W.zret (v := 0) (ty := .boolean) hx hb hr (rfl) (fun t ht hW => ⟨⟨0, (), rfl, ⟨0, (Nat.le_of_ble_eq_true rfl), rfl, (congrArg Prod.fst (hsp.symm.trans hRR))⟩, ⟨z_j0_4, z_j2_5, z_j3_6, z_j4_7, z_j5_8, z_j7_9, z_ftm_15, fbh, z_ln_10, z_nr_11, z_on_16, z_si_17, z_ti_18, ⟨by rw [ht]; exact hP, va_K.moved hW.alike hK, hD⟩, hz_ln_10, hz_nr_11, hz_on_16, hz_si_17, (congrArg Prod.snd (hsp.symm.trans hRR))⟩⟩, hS.F ht⟩) hS.2.2 eX8_replays_39
  · have hsp := hsp.trans (if_neg hn)
    refine lv_if_eq (tgt := 38) hx hb eX8_replays_13 (by decide) (fun _ => ?_) (fun z => absurd z (by decide))
    refine lv_iconst (v := 0) hx hb eX8_replays_38 (by decide) ?_
    exact W.zret (v := 0) (ty := .boolean) hx hb hr (rfl) (fun t ht hW => ⟨⟨0, (), rfl, ⟨0, (Nat.le_of_ble_eq_true rfl), rfl, (congrArg Prod.fst (hsp.symm.trans hRR))⟩, ⟨q_j0, j2, q_j3, q_j4, j5, q_j7, ftm, fbh, ln, nr, 0, si, ti0, ⟨by rw [ht]; exact hP, va_K.moved hW.alike hK, hD⟩, hln, hnr, (Nat.le_of_ble_eq_true rfl), hsi, (congrArg Prod.snd (hsp.symm.trans hRR))⟩⟩, hS.F ht⟩) hS.2.2 eX8_replays_39
theorem eX8_about_0 : decode cX8_about 0 = .ok (.iload_n 1, 1) := by decide +kernel
theorem eX8_about_1 : decode cX8_about 1 = .ok (.tableswitch 168 0 9 #[55, 63, 71, 79, 87, 95, 114, 136, 155, 163], 55) := by decide +kernel
theorem eX8_about_56 : decode cX8_about 56 = .ok (.aload_n 0, 1) := by decide +kernel
theorem eX8_about_57 : decode cX8_about 57 = .ok (.getfield 23, 3) := by decide +kernel
theorem eX8_about_60 : decode cX8_about 60 = .ok (.getfield 116, 3) := by decide +kernel
theorem eX8_about_63 : decode cX8_about 63 = .ok (.ireturn, 1) := by decide +kernel
theorem eX8_about_64 : decode cX8_about 64 = .ok (.aload_n 0, 1) := by decide +kernel
theorem eX8_about_65 : decode cX8_about 65 = .ok (.getfield 23, 3) := by decide +kernel
theorem eX8_about_68 : decode cX8_about 68 = .ok (.getfield 97, 3) := by decide +kernel
theorem eX8_about_71 : decode cX8_about 71 = .ok (.ireturn, 1) := by decide +kernel
theorem eX8_about_72 : decode cX8_about 72 = .ok (.aload_n 0, 1) := by decide +kernel
theorem eX8_about_73 : decode cX8_about 73 = .ok (.getfield 23, 3) := by decide +kernel
theorem eX8_about_76 : decode cX8_about 76 = .ok (.getfield 119, 3) := by decide +kernel
theorem eX8_about_79 : decode cX8_about 79 = .ok (.ireturn, 1) := by decide +kernel
theorem eX8_about_80 : decode cX8_about 80 = .ok (.aload_n 0, 1) := by decide +kernel
theorem eX8_about_81 : decode cX8_about 81 = .ok (.getfield 23, 3) := by decide +kernel
theorem eX8_about_84 : decode cX8_about 84 = .ok (.getfield 122, 3) := by decide +kernel
theorem eX8_about_87 : decode cX8_about 87 = .ok (.ireturn, 1) := by decide +kernel
theorem eX8_about_88 : decode cX8_about 88 = .ok (.aload_n 0, 1) := by decide +kernel
theorem eX8_about_89 : decode cX8_about 89 = .ok (.getfield 23, 3) := by decide +kernel
theorem eX8_about_92 : decode cX8_about 92 = .ok (.invokevirtual 125, 3) := by decide +kernel
theorem eX8_about_95 : decode cX8_about 95 = .ok (.ireturn, 1) := by decide +kernel
theorem eX8_about_96 : decode cX8_about 96 = .ok (.aload_n 0, 1) := by decide +kernel
theorem eX8_about_97 : decode cX8_about 97 = .ok (.getfield 100, 3) := by decide +kernel
theorem eX8_about_100 : decode cX8_about 100 = .ok (.ifCond .eq 13, 3) := by decide +kernel
theorem eX8_about_103 : decode cX8_about 103 = .ok (.aload_n 0, 1) := by decide +kernel
theorem eX8_about_104 : decode cX8_about 104 = .ok (.getfield 42, 3) := by decide +kernel
theorem eX8_about_107 : decode cX8_about 107 = .ok (.getfield 129, 3) := by decide +kernel
theorem eX8_about_110 : decode cX8_about 110 = .ok (.goto 4, 3) := by decide +kernel
theorem eX8_about_113 : decode cX8_about 113 = .ok (.iconst (-1), 1) := by decide +kernel
theorem eX8_about_114 : decode cX8_about 114 = .ok (.ireturn, 1) := by decide +kernel
theorem eX8_about_115 : decode cX8_about 115 = .ok (.aload_n 0, 1) := by decide +kernel
theorem eX8_about_116 : decode cX8_about 116 = .ok (.getfield 100, 3) := by decide +kernel
theorem eX8_about_119 : decode cX8_about 119 = .ok (.ifCond .eq 16, 3) := by decide +kernel
theorem eX8_about_122 : decode cX8_about 122 = .ok (.aload_n 0, 1) := by decide +kernel
theorem eX8_about_123 : decode cX8_about 123 = .ok (.getfield 42, 3) := by decide +kernel
theorem eX8_about_126 : decode cX8_about 126 = .ok (.getfield 130, 3) := by decide +kernel
theorem eX8_about_129 : decode cX8_about 129 = .ok (.invokestatic 133, 3) := by decide +kernel
theorem eX8_about_132 : decode cX8_about 132 = .ok (.goto 4, 3) := by decide +kernel
theorem eX8_about_135 : decode cX8_about 135 = .ok (.iconst (-1), 1) := by decide +kernel
theorem eX8_about_136 : decode cX8_about 136 = .ok (.ireturn, 1) := by decide +kernel
theorem eX8_about_137 : decode cX8_about 137 = .ok (.aload_n 0, 1) := by decide +kernel
theorem eX8_about_138 : decode cX8_about 138 = .ok (.getfield 100, 3) := by decide +kernel
theorem eX8_about_141 : decode cX8_about 141 = .ok (.ifCond .eq 13, 3) := by decide +kernel
theorem eX8_about_144 : decode cX8_about 144 = .ok (.aload_n 0, 1) := by decide +kernel
theorem eX8_about_145 : decode cX8_about 145 = .ok (.getfield 42, 3) := by decide +kernel
theorem eX8_about_148 : decode cX8_about 148 = .ok (.getfield 137, 3) := by decide +kernel
theorem eX8_about_151 : decode cX8_about 151 = .ok (.goto 4, 3) := by decide +kernel
theorem eX8_about_154 : decode cX8_about 154 = .ok (.iconst (-1), 1) := by decide +kernel
theorem eX8_about_155 : decode cX8_about 155 = .ok (.ireturn, 1) := by decide +kernel
theorem eX8_about_156 : decode cX8_about 156 = .ok (.aload_n 0, 1) := by decide +kernel
theorem eX8_about_157 : decode cX8_about 157 = .ok (.getfield 33, 3) := by decide +kernel
theorem eX8_about_160 : decode cX8_about 160 = .ok (.getfield 91, 3) := by decide +kernel
theorem eX8_about_163 : decode cX8_about 163 = .ok (.ireturn, 1) := by decide +kernel
theorem eX8_about_164 : decode cX8_about 164 = .ok (.aload_n 0, 1) := by decide +kernel
theorem eX8_about_165 : decode cX8_about 165 = .ok (.getfield 79, 3) := by decide +kernel
theorem eX8_about_168 : decode cX8_about 168 = .ok (.ireturn, 1) := by decide +kernel
theorem eX8_about_169 : decode cX8_about 169 = .ok (.iconst (-1), 1) := by decide +kernel
theorem eX8_about_170 : decode cX8_about 170 = .ok (.ireturn, 1) := by decide +kernel
abbrev vs_E_8_about : List Cond := .code yX8_about cX8_about 2 (some .int) :: CM
theorem g_E_8_about_E_0_allConditions : GoodIn vs_E_8_about (wsV RX8 125 RX0 yX0_allConditions vs_E_0_allConditions) := cm_gV cm_460 cm_461 cm_462 cm_19 cm_39
theorem g_E_8_about_E_8_bit : GoodIn vs_E_8_about (va_wsS RX8 133 yX8_bit vs_E_8_bit) := cm_gS cm_463 cm_464 cm_427 cm_465
noncomputable def sp_E_8_about (tp : Nat) (hs : Nat) (nc : Nat) (np : Nat) (ne : Nat) (st0 : Int32) (q_f8 : Nat → Nat) (gc : Nat) (gfull : Nat) (gway : Int32) (hk : Nat) (p0 : Int32) : Int32 := (if (p0 : Int32) = 0 then (nI nc) else (if (p0 : Int32) = 1 then (nI np) else (if (p0 : Int32) = 2 then (nI ne) else (if (p0 : Int32) = 3 then (if (st0 : Int32) = -1 then (-1) else (slet ((st0 : Int32).toNatClampNeg) (fun n_6 => (nI n_6)))) else (if (p0 : Int32) = 4 then (slet (sp_E_0_allConditions q_f8) (fun r_8 => r_8)) else (if (p0 : Int32) = 5 then (if hs = 0 then (-1) else (nI gc)) else (if (p0 : Int32) = 6 then (if hs = 0 then (-1) else (slet (sp_E_8_bit (nI gfull)) (fun u_14 => (nI u_14)))) else (if (p0 : Int32) = 7 then (if hs = 0 then (-1) else gway) else (if (p0 : Int32) = 8 then (nI hk) else (if (p0 : Int32) = 9 then (nI tp) else (-1)))))))))))
set_option maxHeartbeats 4000000 in
set_option maxRecDepth 100000 in
theorem c_E_8_about (l : Launch) (dC : Nat → ClassId) (dI : Nat → Nat → Nat) (sz : Nat) (xa : Nat) (xtape : Nat) (tp : Nat) (rd : Nat) (au : Nat) (xdr : Nat) (hy : Nat) (g : Nat) (hs : Nat) (tg : Nat) (sg : Nat) (ss : Nat) (rm : Nat) (ti : Nat) (py : Nat) (bu : Nat) (sm : Nat) (nc : Nat) (np : Nat) (ne : Nat) (st0 : Int32) (q4 : Nat) (q5 : Nat) (q6 : Nat) (q7 : Nat) (q8 : Nat) (q9 : Nat) (q10 : Nat) (q11 : Nat) (q12 : Nat) (q13 : Nat) (q14 : Nat) (q15 : Nat) (q16 : Nat) (k_f4 : ClassId) (f4 : Nat → Int32) (k_f5 : ClassId) (q_f5 : Nat → Nat) (k_f6 : ClassId) (q_f6 : Nat → Nat) (k_f7 : ClassId) (f7 : Nat → Int32) (k_f8 : ClassId) (q_f8 : Nat → Nat) (k_f9 : ClassId) (q_f9 : Nat → Nat) (k_f10 : ClassId) (f10 : Nat → Int32) (k_f11 : ClassId) (f11 : Nat → Int32) (k_f12 : ClassId) (f12 : Nat → Int32) (k_f13 : ClassId) (f13 : Nat → Int32) (k_f14 : ClassId) (f14 : Nat → Int32) (k_f15 : ClassId) (f15 : Nat → Int32) (k_f16 : ClassId) (f16 : Nat → Int32) (gz : Nat) (g1 : Nat) (g2 : Nat) (g3 : Nat) (g4 : Nat) (g5 : Nat) (gc : Nat) (gfull : Nat) (gx : Int32) (gway : Int32) (gav : Int32) (ggoal : Int32) (gfound : Nat) (gl : Nat) (gsz : Nat) (g16 : Nat) (g17 : Nat) (hk : Nat) (co : Nat) (ol : Nat) (p0 : Int32) (htp : tp ≤ 900) (hhs : hs ≤ 1) (hss : ss ≤ 1) (hnc : nc ≤ 3) (hnp : np ≤ 8) (hne : ne ≤ 14) (hst0 : pm1 7 st0) (hgc : gc ≤ 120) (hgfull : gfull ≤ 1) (hgfound : gfound ≤ 1) (hgl : gl ≤ 1) (hgsz : gsz ≤ 4) (hhk : hk ≤ 20) : Met l yX8_about vs_E_8_about ({ frames := 1, cells := 0, slots := 0, locals := 22 }) (va_Pc [.ref xa, .int p0] (pu_B (dC, dI) (xab__w xa xtape (nI tp) rd au xdr hy g (nI hs) tg sg (nI ss) rm ti py bu sm (nI nc) (nI np) (nI ne) st0 q4 q5 q6 q7 q8 q9 q10 q11 q12 q13 q14 q15 q16 k_f4 f4 k_f5 (bN 7 q_f5) k_f6 (bN 7 q_f6) k_f7 f7 k_f8 (bN 4 q_f8) k_f9 (bN 2 q_f9) k_f10 f10 k_f11 f11 k_f12 f12 k_f13 f13 k_f14 f14 k_f15 f15 k_f16 f16 gz g1 g2 g3 g4 g5 (nI gc) (nI gfull) gx gway gav ggoal (nI gfound) 120 (nI gl) (nI gsz) g16 g17 (nI hk) co ol) (xab__t k_f4 k_f5 k_f6 k_f7 k_f8 k_f9 k_f10 k_f11 k_f12 k_f13 k_f14 k_f15 k_f16) sz)) (va_Qi (fun (r : Int32) (_ : Unit) => r = (sp_E_8_about tp hs nc np ne st0 q_f8 gc gfull gway hk p0)) (fun _ _ => True) (va_A [] sz)) 0 0 (va_A [] sz) := by
  refine Met.ofW (cc := cX8_about) (maxL := 2) (ret := (some .int)) (by decide) rfl ?_
  intro p e s m args below meth c s₁ B hml hv
  obtain ⟨rfl, rfl, hP, hK, hD0⟩ := hv
  have hx := B.exec
  have hb := B.bytes
  have hr := B.returns
  have hts := atoms_spec (ws := vs_E_8_about) B.pre
  have v_1 := hts (.fieldLink RX8 23 "ClockReach" "model" "LClockReach$Automaton;") (List.mem_cons_of_mem _ cm_434)
  have v_2 := hts (.fieldLink RX8 116 "ClockReach$Automaton" "clocks" "I") (List.mem_cons_of_mem _ cm_453)
  have v_3 := hts (.fieldLink RX8 97 "ClockReach$Automaton" "places" "I") (List.mem_cons_of_mem _ cm_437)
  have v_4 := hts (.fieldLink RX8 119 "ClockReach$Automaton" "edges" "I") (List.mem_cons_of_mem _ cm_454)
  have v_5 := hts (.fieldLink RX8 122 "ClockReach$Automaton" "start" "I") (List.mem_cons_of_mem _ cm_455)
  have v_11 := hts (.fieldLink RX8 100 "ClockReach" "hasShown" "Z") (List.mem_cons_of_mem _ cm_445)
  have v_12 := hts (.fieldLink RX8 42 "ClockReach" "shown" "LClockReach$Graph;") (List.mem_cons_of_mem _ cm_456)
  have v_13 := hts (.fieldLink RX8 129 "ClockReach$Graph" "count" "I") (List.mem_cons_of_mem _ cm_457)
  have v_14 := hts (.fieldLink RX8 130 "ClockReach$Graph" "full" "Z") (List.mem_cons_of_mem _ cm_458)
  have v_19 := hts (.fieldLink RX8 137 "ClockReach$Graph" "way" "I") (List.mem_cons_of_mem _ cm_459)
  have v_20 := hts (.fieldLink RX8 33 "ClockReach" "history" "LClockReach$History;") (List.mem_cons_of_mem _ cm_435)
  have v_21 := hts (.fieldLink RX8 91 "ClockReach$History" "count" "I") (List.mem_cons_of_mem _ cm_436)
  have v_22 := hts (.fieldLink RX8 79 "ClockReach" "taped" "I") (List.mem_cons_of_mem _ cm_423)
  have hown : s.vm.findClass RX8 = some m.cls := findClass_of_methodNamed B.named
  have hlocks := B.notSynchronized
  have hiX0 : ∀ w ∈ wsX00, w ∈ vs_E_8_about := fun _ h => List.mem_cons_of_mem _ (cm_X0 h)
  have hiX1 : ∀ w ∈ wsX10, w ∈ vs_E_8_about := fun _ h => List.mem_cons_of_mem _ (cm_X1 h)
  have hiX2 : ∀ w ∈ wsX20, w ∈ vs_E_8_about := fun _ h => List.mem_cons_of_mem _ (cm_X2 h)
  have hiX8 : ∀ w ∈ wsX80, w ∈ vs_E_8_about := fun _ h => List.mem_cons_of_mem _ (cm_X8 h)
  have hD := hD0
  have hA : ∀ q : Nat, s.heap.size ≤ q → va_A [] s.heap.size q := fun _ h => Or.inr h
  have hS : va_S (va_A [] s.heap.size) s.heap s.heap [] := va_S.rf
  have hl := lv_entry ([.ref xa, .int p0]) (n := 2) (Nat.le_of_ble_eq_true rfl)
  rw [lg_entry_eq]
  generalize (lg_sl ([.ref xa, .int p0]) ++ List.replicate (2 - (lg_sl ([.ref xa, .int p0])).length) Slot.unset).toArray = ls at hl ⊢
  have hl : lv_has ls 2 [(0, .ref xa), (1, .int p0)] := hl
  obtain ⟨RR, hRR⟩ : ∃ x, x = (sp_E_8_about tp hs nc np ne st0 q_f8 gc gfull gway hk p0) := ⟨_, rfl⟩
  have hsp := hRR
  refine lv_iload_n hx hb eX8_about_0 rfl (lv_at hl 1 rfl) ?_
  by_cases w_1 : p0 = 0
  · subst w_1
    have hsp := hsp.trans (if_pos rfl)
    refine lv_tableIn (tgt := 56) (off := 55) hx hb eX8_about_1 (by decide) (by decide) rfl (by decide) ?_
    refine lv_aload_n hx hb eX8_about_56 rfl (lv_at hl 0 rfl) ?_
    refine va_get (D := (dC, dI)) (ci := 8) (v := .ref au) (C := RX8) (T := TX8) (N := 16) hx hb hts hiX8 hown hK hP 0 rfl rfl 3 (by decide) v_1 (fun _ h9 => h9) rfl eX8_about_57 ?_
    refine va_get (D := (dC, dI)) (ci := 0) (v := .int (nI nc)) (C := RX0) (T := TX0) (N := 17) hx hb hts hiX0 hown hK hP 1 rfl rfl 0 (by decide) v_2 (fun _ h9 => h9) rfl eX8_about_60 ?_
    exact W.iret (v := (nI nc)) hx hb hr (fun t ht hW => ⟨⟨(nI nc), (), rfl, (hsp.symm.trans hRR), trivial⟩, hS.F ht⟩) hS.2.2 eX8_about_63
  have hsp := hsp.trans (if_neg w_1)
  by_cases w_2 : p0 = 1
  · subst w_2
    have hsp := hsp.trans (if_pos rfl)
    refine lv_tableIn (tgt := 64) (off := 63) hx hb eX8_about_1 (by decide) (by decide) rfl (by decide) ?_
    refine lv_aload_n hx hb eX8_about_64 rfl (lv_at hl 0 rfl) ?_
    refine va_get (D := (dC, dI)) (ci := 8) (v := .ref au) (C := RX8) (T := TX8) (N := 16) hx hb hts hiX8 hown hK hP 0 rfl rfl 3 (by decide) v_1 (fun _ h9 => h9) rfl eX8_about_65 ?_
    refine va_get (D := (dC, dI)) (ci := 0) (v := .int (nI np)) (C := RX0) (T := TX0) (N := 17) hx hb hts hiX0 hown hK hP 1 rfl rfl 1 (by decide) v_3 (fun _ h9 => h9) rfl eX8_about_68 ?_
    exact W.iret (v := (nI np)) hx hb hr (fun t ht hW => ⟨⟨(nI np), (), rfl, (hsp.symm.trans hRR), trivial⟩, hS.F ht⟩) hS.2.2 eX8_about_71
  have hsp := hsp.trans (if_neg w_2)
  by_cases w_3 : p0 = 2
  · subst w_3
    have hsp := hsp.trans (if_pos rfl)
    refine lv_tableIn (tgt := 72) (off := 71) hx hb eX8_about_1 (by decide) (by decide) rfl (by decide) ?_
    refine lv_aload_n hx hb eX8_about_72 rfl (lv_at hl 0 rfl) ?_
    refine va_get (D := (dC, dI)) (ci := 8) (v := .ref au) (C := RX8) (T := TX8) (N := 16) hx hb hts hiX8 hown hK hP 0 rfl rfl 3 (by decide) v_1 (fun _ h9 => h9) rfl eX8_about_73 ?_
    refine va_get (D := (dC, dI)) (ci := 0) (v := .int (nI ne)) (C := RX0) (T := TX0) (N := 17) hx hb hts hiX0 hown hK hP 1 rfl rfl 2 (by decide) v_4 (fun _ h9 => h9) rfl eX8_about_76 ?_
    exact W.iret (v := (nI ne)) hx hb hr (fun t ht hW => ⟨⟨(nI ne), (), rfl, (hsp.symm.trans hRR), trivial⟩, hS.F ht⟩) hS.2.2 eX8_about_79
  have hsp := hsp.trans (if_neg w_3)
  by_cases w_4 : p0 = 3
  · subst w_4
    have hsp := hsp.trans (if_pos rfl)
    refine lv_tableIn (tgt := 80) (off := 79) hx hb eX8_about_1 (by decide) (by decide) rfl (by decide) ?_
    refine lv_aload_n hx hb eX8_about_80 rfl (lv_at hl 0 rfl) ?_
    refine va_get (D := (dC, dI)) (ci := 8) (v := .ref au) (C := RX8) (T := TX8) (N := 16) hx hb hts hiX8 hown hK hP 0 rfl rfl 3 (by decide) v_1 (fun _ h9 => h9) rfl eX8_about_81 ?_
    refine va_get (D := (dC, dI)) (ci := 0) (v := .int st0) (C := RX0) (T := TX0) (N := 17) hx hb hts hiX0 hown hK hP 1 rfl rfl 3 (by decide) v_5 (fun _ h9 => h9) rfl eX8_about_84 ?_
    refine lv_topi (fun y_5 ey_5 => ?_)
    have mn_6 := hst0
    rcases mn_6 with en_6 | ⟨n_6, hn_6, en_6⟩
    · obtain rfl : y_5 = (-1) := ey_5.trans en_6
      have hsp := hsp.trans (if_pos en_6)
      exact W.iret (v := (-1)) hx hb hr (fun t ht hW => ⟨⟨(-1), (), rfl, (hsp.symm.trans hRR), trivial⟩, hS.F ht⟩) hS.2.2 eX8_about_87
    · obtain rfl : y_5 = (nI n_6) := ey_5.trans en_6
      have hsp := hsp.trans (if_neg (fun z => pu_nneg (n := n_6) (k := -1) (by omega) (by decide) (en_6.symm.trans z)))
      have hsp := hsp.trans (slet_eq (by rw [en_6]; exact nI_cl (by omega) : n_6 = (st0 : Int32).toNatClampNeg))
      exact W.iret (v := (nI n_6)) hx hb hr (fun t ht hW => ⟨⟨(nI n_6), (), rfl, (hsp.symm.trans hRR), trivial⟩, hS.F ht⟩) hS.2.2 eX8_about_87
  have hsp := hsp.trans (if_neg w_4)
  by_cases w_7 : p0 = 4
  · subst w_7
    have hsp := hsp.trans (if_pos rfl)
    refine lv_tableIn (tgt := 88) (off := 87) hx hb eX8_about_1 (by decide) (by decide) rfl (by decide) ?_
    refine lv_aload_n hx hb eX8_about_88 rfl (lv_at hl 0 rfl) ?_
    refine va_get (D := (dC, dI)) (ci := 8) (v := .ref au) (C := RX8) (T := TX8) (N := 16) hx hb hts hiX8 hown hK hP 0 rfl rfl 3 (by decide) v_1 (fun _ h9 => h9) rfl eX8_about_89 ?_
    have hPc : va_P (dC, dI) vwCl (au__w au (nI nc) (nI np) (nI ne) st0 q4 q5 q6 q7 q8 q9 q10 q11 q12 q13 q14 q15 q16 k_f4 f4 k_f5 (bN 7 q_f5) k_f6 (bN 7 q_f6) k_f7 f7 k_f8 (bN 4 q_f8) k_f9 (bN 2 q_f9) k_f10 f10 k_f11 f11 k_f12 f12 k_f13 f13 k_f14 f14 k_f15 f15 k_f16 f16) _ := hP.sub [1, 2, 3, 4, 5, 6, 7, 8, 9, 10, 11, 12, 13, 14] rfl
    have hDc := hD.sub (ws' := (au__w au (nI nc) (nI np) (nI ne) st0 q4 q5 q6 q7 q8 q9 q10 q11 q12 q13 q14 q15 q16 k_f4 f4 k_f5 (bN 7 q_f5) k_f6 (bN 7 q_f6) k_f7 f7 k_f8 (bN 4 q_f8) k_f9 (bN 2 q_f9) k_f10 f10 k_f11 f11 k_f12 f12 k_f13 f13 k_f14 f14 k_f15 f15 k_f16 f16)) [1, 2, 3, 4, 5, 6, 7, 8, 9, 10, 11, 12, 13, 14] (by decide) rfl
    have hKc : va_K (dC, dI) vwCl (au__t k_f4 k_f5 k_f6 k_f7 k_f8 k_f9 k_f10 k_f11 k_f12 k_f13 k_f14 k_f15 k_f16) s := hK.sub [0, 1, 2, 3, 4, 5, 6, 7, 8, 9, 10, 11, 12] rfl
    refine va_calli (va_runV (As := []) (rest := []) ⟨hx, hb, hml, hown, hts⟩ (c_E_0_allConditions l dC dI _ au nc np ne st0 q4 q5 q6 q7 q8 q9 q10 q11 q12 q13 q14 q15 q16 k_f4 f4 k_f5 q_f5 k_f6 q_f6 k_f7 f7 k_f8 q_f8 k_f9 q_f9 k_f10 f10 k_f11 f11 k_f12 f12 k_f13 f13 k_f14 f14 k_f15 f15 k_f16 f16 hnc hnp hne (hst0)) (cwV 0 hts g_E_8_about_E_0_allConditions rfl rfl rfl (by decide +kernel) ⟨Nat.le_of_ble_eq_true rfl, Nat.le_of_ble_eq_true rfl⟩) ⟨pu_bl, va_recv hK hP (ci := 0) (q0 := 1) rfl rfl, pu_in hPc hKc hDc⟩ rfl rfl hl.1 rfl (lv_room (Nat.le_of_ble_eq_true rfl)) eX8_about_92 ⟨Nat.le_of_ble_eq_true rfl, Nat.le_of_ble_eq_true rfl⟩) hS (fun q _ h => pu_fr hS hA q h) (pu_fr hS hA) (fun r_8 u t H1 locs ht hvm hw hB hz1 hk1 hS => ?_)
    have hP := pu_keep hP hk1
    clear hk1 hz1 ht hvm
    generalize H1 = H at hP hS ⊢
    have ir_8 := hw
    have hsp := hsp.trans (slet_eq ir_8)
    exact W.iret (v := r_8) hx hb hr (fun t ht hW => ⟨⟨r_8, (), rfl, (hsp.symm.trans hRR), trivial⟩, hS.F ht⟩) hS.2.2 eX8_about_95
  have hsp := hsp.trans (if_neg w_7)
  by_cases w_9 : p0 = 5
  · subst w_9
    have hsp := hsp.trans (if_pos rfl)
    refine lv_tableIn (tgt := 96) (off := 95) hx hb eX8_about_1 (by decide) (by decide) rfl (by decide) ?_
    refine lv_aload_n hx hb eX8_about_96 rfl (lv_at hl 0 rfl) ?_
    refine va_get (D := (dC, dI)) (ci := 8) (v := .int (nI hs)) (C := RX8) (T := TX8) (N := 16) hx hb hts hiX8 hown hK hP 0 rfl rfl 7 (by decide) v_11 (fun _ h9 => h9) rfl eX8_about_97 ?_
    refine lv_if_eq (tgt := 113) hx hb eX8_about_100 (by decide) (fun c_10 => ?_) (fun c_10 => ?_)
    · have c_10 : hs = 0 := (nI_eq (a := hs) (b := 0) (Nat.lt_of_le_of_lt hhs (Nat.le_of_ble_eq_true rfl)) (Nat.le_of_ble_eq_true rfl)).mp c_10
      have hsp := hsp.trans (if_pos c_10)
      refine lv_iconst (v := (-1)) hx hb eX8_about_113 (by decide) ?_
      exact W.iret (v := (-1)) hx hb hr (fun t ht hW => ⟨⟨(-1), (), rfl, (hsp.symm.trans hRR), trivial⟩, hS.F ht⟩) hS.2.2 eX8_about_114
    · have c_10 : ¬ hs = 0 := fun z => c_10 ((nI_eq (a := hs) (b := 0) (Nat.lt_of_le_of_lt hhs (Nat.le_of_ble_eq_true rfl)) (Nat.le_of_ble_eq_true rfl)).mpr z)
      have hsp := hsp.trans (if_neg c_10)
      refine lv_aload_n hx hb eX8_about_103 rfl (lv_at hl 0 rfl) ?_
      refine va_get (D := (dC, dI)) (ci := 8) (v := .ref g) (C := RX8) (T := TX8) (N := 16) hx hb hts hiX8 hown hK hP 0 rfl rfl 6 (by decide) v_12 (fun _ h9 => h9) rfl eX8_about_104 ?_
      refine va_get (D := (dC, dI)) (ci := 1) (v := .int (nI gc)) (C := RX1) (T := TX1) (N := 18) hx hb hts hiX1 hown hK hP 15 rfl rfl 6 (by decide) v_13 (fun _ h9 => h9) rfl eX8_about_107 ?_
      refine lv_goto (tgt := 114) hx hb eX8_about_110 (by decide) ?_
      exact W.iret (v := (nI gc)) hx hb hr (fun t ht hW => ⟨⟨(nI gc), (), rfl, (hsp.symm.trans hRR), trivial⟩, hS.F ht⟩) hS.2.2 eX8_about_114
  have hsp := hsp.trans (if_neg w_9)
  by_cases w_11 : p0 = 6
  · subst w_11
    have hsp := hsp.trans (if_pos rfl)
    refine lv_tableIn (tgt := 115) (off := 114) hx hb eX8_about_1 (by decide) (by decide) rfl (by decide) ?_
    refine lv_aload_n hx hb eX8_about_115 rfl (lv_at hl 0 rfl) ?_
    refine va_get (D := (dC, dI)) (ci := 8) (v := .int (nI hs)) (C := RX8) (T := TX8) (N := 16) hx hb hts hiX8 hown hK hP 0 rfl rfl 7 (by decide) v_11 (fun _ h9 => h9) rfl eX8_about_116 ?_
    refine lv_if_eq (tgt := 135) hx hb eX8_about_119 (by decide) (fun c_12 => ?_) (fun c_12 => ?_)
    · have c_12 : hs = 0 := (nI_eq (a := hs) (b := 0) (Nat.lt_of_le_of_lt hhs (Nat.le_of_ble_eq_true rfl)) (Nat.le_of_ble_eq_true rfl)).mp c_12
      have hsp := hsp.trans (if_pos c_12)
      refine lv_iconst (v := (-1)) hx hb eX8_about_135 (by decide) ?_
      exact W.iret (v := (-1)) hx hb hr (fun t ht hW => ⟨⟨(-1), (), rfl, (hsp.symm.trans hRR), trivial⟩, hS.F ht⟩) hS.2.2 eX8_about_136
    · have c_12 : ¬ hs = 0 := fun z => c_12 ((nI_eq (a := hs) (b := 0) (Nat.lt_of_le_of_lt hhs (Nat.le_of_ble_eq_true rfl)) (Nat.le_of_ble_eq_true rfl)).mpr z)
      have hsp := hsp.trans (if_neg c_12)
      refine lv_aload_n hx hb eX8_about_122 rfl (lv_at hl 0 rfl) ?_
      refine va_get (D := (dC, dI)) (ci := 8) (v := .ref g) (C := RX8) (T := TX8) (N := 16) hx hb hts hiX8 hown hK hP 0 rfl rfl 6 (by decide) v_12 (fun _ h9 => h9) rfl eX8_about_123 ?_
      refine va_get (D := (dC, dI)) (ci := 1) (v := .int (nI gfull)) (C := RX1) (T := TX1) (N := 18) hx hb hts hiX1 hown hK hP 15 rfl rfl 7 (by decide) v_14 (fun _ h9 => h9) rfl eX8_about_126 ?_
      refine va_calli (va_runS (As := [.int (nI gfull)]) (rest := []) ⟨hx, hb, hml, hown, hts⟩ (c_E_8_bit l dC dI _ (nI gfull)) (va_cwS 1 hts g_E_8_about_E_8_bit rfl rfl rfl (by decide +kernel) ⟨Nat.le_of_ble_eq_true rfl, Nat.le_of_ble_eq_true rfl⟩) ⟨pu_bl, pu_in (hP.sub [] rfl) (hK.sub [] rfl) (hD.sub [] (by decide) rfl)⟩ rfl rfl hl.1 rfl (lv_room (Nat.le_of_ble_eq_true rfl)) eX8_about_129 ⟨Nat.le_of_ble_eq_true rfl, Nat.le_of_ble_eq_true rfl⟩) hS (fun q _ h => pu_fr hS hA q h) (pu_fr hS hA) (fun r_13 u t H1 locs ht hvm hw hB hz1 hk1 hS => ?_)
      have hP := pu_keep hP hk1
      clear hk1 hz1 ht hvm
      generalize H1 = H at hP hS ⊢
      obtain ⟨u_14, hu_14, rfl, iu_14⟩ := hw
      have hsp := hsp.trans (slet_eq iu_14)
      refine lv_goto (tgt := 136) hx hb eX8_about_132 (by decide) ?_
      exact W.iret (v := (nI u_14)) hx hb hr (fun t ht hW => ⟨⟨(nI u_14), (), rfl, (hsp.symm.trans hRR), trivial⟩, hS.F ht⟩) hS.2.2 eX8_about_136
  have hsp := hsp.trans (if_neg w_11)
  by_cases w_15 : p0 = 7
  · subst w_15
    have hsp := hsp.trans (if_pos rfl)
    refine lv_tableIn (tgt := 137) (off := 136) hx hb eX8_about_1 (by decide) (by decide) rfl (by decide) ?_
    refine lv_aload_n hx hb eX8_about_137 rfl (lv_at hl 0 rfl) ?_
    refine va_get (D := (dC, dI)) (ci := 8) (v := .int (nI hs)) (C := RX8) (T := TX8) (N := 16) hx hb hts hiX8 hown hK hP 0 rfl rfl 7 (by decide) v_11 (fun _ h9 => h9) rfl eX8_about_138 ?_
    refine lv_if_eq (tgt := 154) hx hb eX8_about_141 (by decide) (fun c_16 => ?_) (fun c_16 => ?_)
    · have c_16 : hs = 0 := (nI_eq (a := hs) (b := 0) (Nat.lt_of_le_of_lt hhs (Nat.le_of_ble_eq_true rfl)) (Nat.le_of_ble_eq_true rfl)).mp c_16
      have hsp := hsp.trans (if_pos c_16)
      refine lv_iconst (v := (-1)) hx hb eX8_about_154 (by decide) ?_
      exact W.iret (v := (-1)) hx hb hr (fun t ht hW => ⟨⟨(-1), (), rfl, (hsp.symm.trans hRR), trivial⟩, hS.F ht⟩) hS.2.2 eX8_about_155
    · have c_16 : ¬ hs = 0 := fun z => c_16 ((nI_eq (a := hs) (b := 0) (Nat.lt_of_le_of_lt hhs (Nat.le_of_ble_eq_true rfl)) (Nat.le_of_ble_eq_true rfl)).mpr z)
      have hsp := hsp.trans (if_neg c_16)
      refine lv_aload_n hx hb eX8_about_144 rfl (lv_at hl 0 rfl) ?_
      refine va_get (D := (dC, dI)) (ci := 8) (v := .ref g) (C := RX8) (T := TX8) (N := 16) hx hb hts hiX8 hown hK hP 0 rfl rfl 6 (by decide) v_12 (fun _ h9 => h9) rfl eX8_about_145 ?_
      refine va_get (D := (dC, dI)) (ci := 1) (v := .int gway) (C := RX1) (T := TX1) (N := 18) hx hb hts hiX1 hown hK hP 15 rfl rfl 9 (by decide) v_19 (fun _ h9 => h9) rfl eX8_about_148 ?_
      refine lv_goto (tgt := 155) hx hb eX8_about_151 (by decide) ?_
      exact W.iret (v := gway) hx hb hr (fun t ht hW => ⟨⟨gway, (), rfl, (hsp.symm.trans hRR), trivial⟩, hS.F ht⟩) hS.2.2 eX8_about_155
  have hsp := hsp.trans (if_neg w_15)
  by_cases w_17 : p0 = 8
  · subst w_17
    have hsp := hsp.trans (if_pos rfl)
    refine lv_tableIn (tgt := 156) (off := 155) hx hb eX8_about_1 (by decide) (by decide) rfl (by decide) ?_
    refine lv_aload_n hx hb eX8_about_156 rfl (lv_at hl 0 rfl) ?_
    refine va_get (D := (dC, dI)) (ci := 8) (v := .ref hy) (C := RX8) (T := TX8) (N := 16) hx hb hts hiX8 hown hK hP 0 rfl rfl 5 (by decide) v_20 (fun _ h9 => h9) rfl eX8_about_157 ?_
    refine va_get (D := (dC, dI)) (ci := 2) (v := .int (nI hk)) (C := RX2) (T := TX2) (N := 3) hx hb hts hiX2 hown hK hP 16 rfl rfl 0 (by decide) v_21 (fun _ h9 => h9) rfl eX8_about_160 ?_
    exact W.iret (v := (nI hk)) hx hb hr (fun t ht hW => ⟨⟨(nI hk), (), rfl, (hsp.symm.trans hRR), trivial⟩, hS.F ht⟩) hS.2.2 eX8_about_163
  have hsp := hsp.trans (if_neg w_17)
  by_cases w_18 : p0 = 9
  · subst w_18
    have hsp := hsp.trans (if_pos rfl)
    refine lv_tableIn (tgt := 164) (off := 163) hx hb eX8_about_1 (by decide) (by decide) rfl (by decide) ?_
    refine lv_aload_n hx hb eX8_about_164 rfl (lv_at hl 0 rfl) ?_
    refine va_get (D := (dC, dI)) (ci := 8) (v := .int (nI tp)) (C := RX8) (T := TX8) (N := 16) hx hb hts hiX8 hown hK hP 0 rfl rfl 1 (by decide) v_22 (fun _ h9 => h9) rfl eX8_about_165 ?_
    exact W.iret (v := (nI tp)) hx hb hr (fun t ht hW => ⟨⟨(nI tp), (), rfl, (hsp.symm.trans hRR), trivial⟩, hS.F ht⟩) hS.2.2 eX8_about_168
  have hsp := hsp.trans (if_neg w_18)
  refine lv_tableOut (tgt := 169) hx hb eX8_about_1 (by
      have zw_1 : Int32.toInt p0 ≠ 0 := fun g => w_1 ((fa_eq _ _).mpr g)
      have zw_2 : Int32.toInt p0 ≠ 1 := fun g => w_2 ((fa_eq _ _).mpr g)
      have zw_3 : Int32.toInt p0 ≠ 2 := fun g => w_3 ((fa_eq _ _).mpr g)
      have zw_4 : Int32.toInt p0 ≠ 3 := fun g => w_4 ((fa_eq _ _).mpr g)
      have zw_7 : Int32.toInt p0 ≠ 4 := fun g => w_7 ((fa_eq _ _).mpr g)
      have zw_9 : Int32.toInt p0 ≠ 5 := fun g => w_9 ((fa_eq _ _).mpr g)
      have zw_11 : Int32.toInt p0 ≠ 6 := fun g => w_11 ((fa_eq _ _).mpr g)
      have zw_15 : Int32.toInt p0 ≠ 7 := fun g => w_15 ((fa_eq _ _).mpr g)
      have zw_17 : Int32.toInt p0 ≠ 8 := fun g => w_17 ((fa_eq _ _).mpr g)
      have zw_18 : Int32.toInt p0 ≠ 9 := fun g => w_18 ((fa_eq _ _).mpr g)
      omega) (by decide) ?_
  refine lv_iconst (v := (-1)) hx hb eX8_about_169 (by decide) ?_
  exact W.iret (v := (-1)) hx hb hr (fun t ht hW => ⟨⟨(-1), (), rfl, (hsp.symm.trans hRR), trivial⟩, hS.F ht⟩) hS.2.2 eX8_about_170
theorem eX8_within_0 : decode cX8_within 0 = .ok (.aload_n 0, 1) := by decide +kernel
theorem eX8_within_1 : decode cX8_within 1 = .ok (.iload_n 1, 1) := by decide +kernel
theorem eX8_within_2 : decode cX8_within 2 = .ok (.invokevirtual 228, 3) := by decide +kernel
theorem eX8_within_5 : decode cX8_within 5 = .ok (.ifCond .eq 11, 3) := by decide +kernel
theorem eX8_within_8 : decode cX8_within 8 = .ok (.aload_n 0, 1) := by decide +kernel
theorem eX8_within_9 : decode cX8_within 9 = .ok (.iload_n 2, 1) := by decide +kernel
theorem eX8_within_10 : decode cX8_within 10 = .ok (.invokevirtual 228, 3) := by decide +kernel
theorem eX8_within_13 : decode cX8_within 13 = .ok (.ifCond .ne 5, 3) := by decide +kernel
theorem eX8_within_16 : decode cX8_within 16 = .ok (.iconst (-1), 1) := by decide +kernel
theorem eX8_within_17 : decode cX8_within 17 = .ok (.ireturn, 1) := by decide +kernel
theorem eX8_within_18 : decode cX8_within 18 = .ok (.aload_n 0, 1) := by decide +kernel
theorem eX8_within_19 : decode cX8_within 19 = .ok (.getfield 42, 3) := by decide +kernel
theorem eX8_within_22 : decode cX8_within 22 = .ok (.getfield 249, 3) := by decide +kernel
theorem eX8_within_25 : decode cX8_within 25 = .ok (.iload_n 1, 1) := by decide +kernel
theorem eX8_within_26 : decode cX8_within 26 = .ok (.aaload, 1) := by decide +kernel
theorem eX8_within_27 : decode cX8_within 27 = .ok (.aload_n 0, 1) := by decide +kernel
theorem eX8_within_28 : decode cX8_within 28 = .ok (.getfield 42, 3) := by decide +kernel
theorem eX8_within_31 : decode cX8_within 31 = .ok (.getfield 249, 3) := by decide +kernel
theorem eX8_within_34 : decode cX8_within 34 = .ok (.iload_n 2, 1) := by decide +kernel
theorem eX8_within_35 : decode cX8_within 35 = .ok (.aaload, 1) := by decide +kernel
theorem eX8_within_36 : decode cX8_within 36 = .ok (.invokevirtual 276, 3) := by decide +kernel
theorem eX8_within_39 : decode cX8_within 39 = .ok (.invokestatic 133, 3) := by decide +kernel
theorem eX8_within_42 : decode cX8_within 42 = .ok (.ireturn, 1) := by decide +kernel
abbrev vs_E_8_within : List Cond := .code yX8_within cX8_within 3 (some .int) :: CM
theorem g_E_8_within_E_8_isState : GoodIn vs_E_8_within (wsV RX8 228 RX8 yX8_isState vs_E_8_isState) := cm_gV cm_537 cm_538 cm_539 cm_427 cm_530
theorem g_E_8_within_E_7_holdsAll_s_16 : GoodIn vs_E_8_within (wsV RX8 276 RX7 yX7_holdsAll vs_E_7_holdsAll_s_16) := cm_gV cm_561 cm_144 cm_145 cm_45 cm_146
theorem g_E_8_within_E_8_bit : GoodIn vs_E_8_within (va_wsS RX8 133 yX8_bit vs_E_8_bit) := cm_gS cm_463 cm_464 cm_427 cm_465
theorem g_E_8_within_E_7_holdsAll_16 : GoodIn vs_E_8_within (wsV RX8 276 RX7 yX7_holdsAll vs_E_7_holdsAll_16) := cm_gV cm_561 cm_144 cm_145 cm_45 cm_146
noncomputable def sp_E_8_within (hs : Nat) (gc : Nat) (o : Nat) (qs : Nat → Nat) (fz : Nat → Nat → Int32) (p0 : Int32) (p1 : Int32) : Int32 := (if hs = 1 ∧ (0 : Int32) ≤ p0 ∧ p0 < nI gc then (slet ((p0 : Int32).toNatClampNeg) (fun n_2 => (if hs = 1 ∧ (0 : Int32) ≤ p1 ∧ p1 < nI gc then (slet ((p1 : Int32).toNatClampNeg) (fun n_4 => (if n_2 = n_4 then (slet (sp_E_7_holdsAll_s_16 (min (qs (o + n_2)) 4) (fz (o + n_2))) (fun u_6 => (slet (sp_E_8_bit (nI u_6)) (fun u_8 => (nI u_8))))) else (slet (sp_E_7_holdsAll_16 (fz (o + n_4)) (min (qs (o + n_2)) 4) (fz (o + n_2))) (fun u_10 => (slet (sp_E_8_bit (nI u_10)) (fun u_12 => (nI u_12)))))))) else (-1)))) else (-1))
set_option maxHeartbeats 4000000 in
set_option maxRecDepth 100000 in
theorem c_E_8_within (l : Launch) (dC : Nat → ClassId) (dI : Nat → Nat → Nat) (sz : Nat) (xa : Nat) (xtape : Nat) (tp : Nat) (rd : Nat) (au : Nat) (xdr : Nat) (hy : Nat) (g : Nat) (hs : Nat) (tg : Nat) (sg : Nat) (ss : Nat) (rm : Nat) (ti : Nat) (py : Nat) (bu : Nat) (sm : Nat) (nc : Nat) (np : Nat) (ne : Nat) (st0 : Int32) (q4 : Nat) (q5 : Nat) (q6 : Nat) (q7 : Nat) (q8 : Nat) (q9 : Nat) (q10 : Nat) (q11 : Nat) (q12 : Nat) (q13 : Nat) (q14 : Nat) (q15 : Nat) (q16 : Nat) (k_f4 : ClassId) (f4 : Nat → Int32) (k_f5 : ClassId) (q_f5 : Nat → Nat) (k_f6 : ClassId) (q_f6 : Nat → Nat) (k_f7 : ClassId) (f7 : Nat → Int32) (k_f8 : ClassId) (q_f8 : Nat → Nat) (k_f9 : ClassId) (q_f9 : Nat → Nat) (k_f10 : ClassId) (f10 : Nat → Int32) (k_f11 : ClassId) (f11 : Nat → Int32) (k_f12 : ClassId) (f12 : Nat → Int32) (k_f13 : ClassId) (f13 : Nat → Int32) (k_f14 : ClassId) (f14 : Nat → Int32) (k_f15 : ClassId) (f15 : Nat → Int32) (k_f16 : ClassId) (f16 : Nat → Int32) (gz : Nat) (g1 : Nat) (g2 : Nat) (g3 : Nat) (g4 : Nat) (g5 : Nat) (gc : Nat) (gfull : Nat) (gx : Int32) (gway : Int32) (gav : Int32) (ggoal : Int32) (gfound : Nat) (gl : Nat) (gsz : Nat) (g16 : Nat) (g17 : Nat) (k_fgz : ClassId) (k_s1g : ClassId) (q_s1g : Nat → Nat) (k_s2g : ClassId) (s2g : Nat → Int32) (k_s3g : ClassId) (s3g : Nat → Int32) (k_s4g : ClassId) (s4g : Nat → Int32) (k_s5g : ClassId) (s5g : Nat → Int32) (k_hig : ClassId) (hig : Nat → Int32) (k_log : ClassId) (log : Nat → Int32) (k_fbu : ClassId) (fbu : Nat → Int32) (N : Nat) (o : Nat) (az ac : Nat → Nat) (kz : Nat → ClassId) (qs : Nat → Nat) (fz : Nat → Nat → Int32) (p0 : Int32) (p1 : Int32) (htp : tp ≤ 900) (hhs : hs ≤ 1) (hss : ss ≤ 1) (hnc : nc ≤ 3) (hnp : np ≤ 8) (hne : ne ≤ 14) (hst0 : pm1 7 st0) (hgc : gc ≤ 120) (hgfull : gfull ≤ 1) (hgfound : gfound ≤ 1) (hgl : gl ≤ 1) (hgsz : gsz ≤ 4) (hN : o + 121 ≤ N) : Met l yX8_within vs_E_8_within ({ frames := 1, cells := 0, slots := 0, locals := 22 }) (va_Pc [.ref xa, .int p0, .int p1] (pu_B (dC, dI) ((xg__w xa xtape (nI tp) rd au xdr hy g (nI hs) tg sg (nI ss) rm ti py bu sm (nI nc) (nI np) (nI ne) st0 q4 q5 q6 q7 q8 q9 q10 q11 q12 q13 q14 q15 q16 k_f4 f4 k_f5 (bN 7 q_f5) k_f6 (bN 7 q_f6) k_f7 f7 k_f8 (bN 4 q_f8) k_f9 (bN 2 q_f9) k_f10 f10 k_f11 f11 k_f12 f12 k_f13 f13 k_f14 f14 k_f15 f15 k_f16 f16 gz g1 g2 g3 g4 g5 (nI gc) (nI gfull) gx gway gav ggoal (nI gfound) 120 (nI gl) (nI gsz) g16 g17 k_fgz (zs o 121 az) k_s1g (bN 7 q_s1g) k_s2g s2g k_s3g s3g k_s4g s4g k_s5g s5g k_hig hig k_log log k_fbu fbu) ++ zp 4 16 N az ac kz qs fz) ((xg__t k_f4 k_f5 k_f6 k_f7 k_f8 k_f9 k_f10 k_f11 k_f12 k_f13 k_f14 k_f15 k_f16 k_fgz k_s1g k_s2g k_s3g k_s4g k_s5g k_hig k_log k_fbu) ++ zt N kz) sz)) (va_Qi (fun (r : Int32) (_ : Unit) => r = (sp_E_8_within hs gc o qs fz p0 p1)) (fun _ _ => True) (va_A [] sz)) 0 0 (va_A [] sz) := by
  refine Met.ofW (cc := cX8_within) (maxL := 3) (ret := (some .int)) (by decide) rfl ?_
  intro p e s m args below meth c s₁ B hml hv
  obtain ⟨rfl, rfl, hP, hK, hD0⟩ := hv
  have hx := B.exec
  have hb := B.bytes
  have hr := B.returns
  have hts := atoms_spec (ws := vs_E_8_within) B.pre
  have v_6 := hts (.fieldLink RX8 42 "ClockReach" "shown" "LClockReach$Graph;") (List.mem_cons_of_mem _ cm_456)
  have v_7 := hts (.fieldLink RX8 249 "ClockReach$Graph" "zones" "[LClockReach$Zone;") (List.mem_cons_of_mem _ cm_544)
  have hown : s.vm.findClass RX8 = some m.cls := findClass_of_methodNamed B.named
  have hlocks := B.notSynchronized
  have hiX1 : ∀ w ∈ wsX10, w ∈ vs_E_8_within := fun _ h => List.mem_cons_of_mem _ (cm_X1 h)
  have hiX8 : ∀ w ∈ wsX80, w ∈ vs_E_8_within := fun _ h => List.mem_cons_of_mem _ (cm_X8 h)
  have hD := hD0
  have hA : ∀ q : Nat, s.heap.size ≤ q → va_A [] s.heap.size q := fun _ h => Or.inr h
  have hS : va_S (va_A [] s.heap.size) s.heap s.heap [] := va_S.rf
  have hl := lv_entry ([.ref xa, .int p0, .int p1]) (n := 3) (Nat.le_of_ble_eq_true rfl)
  rw [lg_entry_eq]
  generalize (lg_sl ([.ref xa, .int p0, .int p1]) ++ List.replicate (3 - (lg_sl ([.ref xa, .int p0, .int p1])).length) Slot.unset).toArray = ls at hl ⊢
  have hl : lv_has ls 3 [(0, .ref xa), (1, .int p0), (2, .int p1)] := hl
  obtain ⟨RR, hRR⟩ : ∃ x, x = (sp_E_8_within hs gc o qs fz p0 p1) := ⟨_, rfl⟩
  have hsp := hRR
  refine lv_aload_n hx hb eX8_within_0 rfl (lv_at hl 0 rfl) ?_
  refine lv_iload_n hx hb eX8_within_1 rfl (lv_at hl 1 rfl) ?_
  have hPc : va_P (dC, dI) vwCl [(xa, .inr (8, [.ref xtape, .int (nI tp), .ref rd, .ref au, .ref xdr, .ref hy, .ref g, .int (nI hs), .ref tg, .ref sg, .int (nI ss), .ref rm, .ref ti, .ref py, .ref bu, .ref sm])), (g, .inr (1, [.ref gz, .ref g1, .ref g2, .ref g3, .ref g4, .ref g5, .int (nI gc), .int (nI gfull), .int gx, .int gway, .int gav, .int ggoal, .int (nI gfound), .int 120, .int (nI gl), .int (nI gsz), .ref g16, .ref g17]))] _ := hP.sub [0, 15] rfl
  have hDc : va_D (fun _ => True) [(xa, .inr (8, [.ref xtape, .int (nI tp), .ref rd, .ref au, .ref xdr, .ref hy, .ref g, .int (nI hs), .ref tg, .ref sg, .int (nI ss), .ref rm, .ref ti, .ref py, .ref bu, .ref sm])), (g, .inr (1, [.ref gz, .ref g1, .ref g2, .ref g3, .ref g4, .ref g5, .int (nI gc), .int (nI gfull), .int gx, .int gway, .int gav, .int ggoal, .int (nI gfound), .int 120, .int (nI gl), .int (nI gsz), .ref g16, .ref g17]))] := (zp_left hD).sub [0, 15] (by decide) rfl
  have hKc : va_K (dC, dI) vwCl [] s := hK.sub [] rfl
  refine va_calli (va_runV (As := [.int p0]) (rest := []) ⟨hx, hb, hml, hown, hts⟩ (c_E_8_isState l dC dI _ xa xtape tp rd au xdr hy g hs tg sg ss rm ti py bu sm gz g1 g2 g3 g4 g5 gc gfull gx gway gav ggoal gfound gl gsz g16 g17 p0 htp hhs hss hgc hgfull hgfound hgl hgsz) (cwV 1 hts g_E_8_within_E_8_isState rfl rfl rfl (by decide +kernel) ⟨Nat.le_of_ble_eq_true rfl, Nat.le_of_ble_eq_true rfl⟩) ⟨pu_bl, va_recv hK hP (ci := 8) (q0 := 0) rfl rfl, pu_in hPc hKc hDc⟩ rfl rfl hl.1 rfl (lv_room (Nat.le_of_ble_eq_true rfl)) eX8_within_2 ⟨Nat.le_of_ble_eq_true rfl, Nat.le_of_ble_eq_true rfl⟩) hS (fun q _ h => pu_fr hS hA q h) (pu_fr hS hA) (fun r_1 u t H1 locs ht hvm hw hB hz1 hk1 hS => ?_)
  have hP := pu_keep hP hk1
  clear hPc hDc hKc
  clear hk1 hz1 ht hvm
  generalize H1 = H at hP hS ⊢
  rcases hw with ⟨rfl, hw⟩ | ⟨rfl, hn⟩
  · obtain ⟨hs1, n_2, hn_2, rfl⟩ := hw
    have hsp := hsp.trans (if_pos ⟨hs1, in_q hn_2 (by omega)⟩)
    have hsp := hsp.trans (slet_eq (nI_cl (n := n_2) (by omega)))
    refine lv_if_eq (tgt := 16) hx hb eX8_within_5 (by decide) (fun z => absurd z (by decide)) (fun _ => ?_)
    refine lv_aload_n hx hb eX8_within_8 rfl (lv_at hl 0 rfl) ?_
    refine lv_iload_n hx hb eX8_within_9 rfl (lv_at hl 2 rfl) ?_
    have hPc : va_P (dC, dI) vwCl [(xa, .inr (8, [.ref xtape, .int (nI tp), .ref rd, .ref au, .ref xdr, .ref hy, .ref g, .int (nI hs), .ref tg, .ref sg, .int (nI ss), .ref rm, .ref ti, .ref py, .ref bu, .ref sm])), (g, .inr (1, [.ref gz, .ref g1, .ref g2, .ref g3, .ref g4, .ref g5, .int (nI gc), .int (nI gfull), .int gx, .int gway, .int gav, .int ggoal, .int (nI gfound), .int 120, .int (nI gl), .int (nI gsz), .ref g16, .ref g17]))] _ := hP.sub [0, 15] rfl
    have hDc : va_D (fun _ => True) [(xa, .inr (8, [.ref xtape, .int (nI tp), .ref rd, .ref au, .ref xdr, .ref hy, .ref g, .int (nI hs), .ref tg, .ref sg, .int (nI ss), .ref rm, .ref ti, .ref py, .ref bu, .ref sm])), (g, .inr (1, [.ref gz, .ref g1, .ref g2, .ref g3, .ref g4, .ref g5, .int (nI gc), .int (nI gfull), .int gx, .int gway, .int gav, .int ggoal, .int (nI gfound), .int 120, .int (nI gl), .int (nI gsz), .ref g16, .ref g17]))] := (zp_left hD).sub [0, 15] (by decide) rfl
    have hKc : va_K (dC, dI) vwCl [] s := hK.sub [] rfl
    refine va_calli (va_runV (As := [.int p1]) (rest := []) ⟨hx, hb, hml, hown, hts⟩ (c_E_8_isState l dC dI _ xa xtape tp rd au xdr hy g hs tg sg ss rm ti py bu sm gz g1 g2 g3 g4 g5 gc gfull gx gway gav ggoal gfound gl gsz g16 g17 p1 htp hhs hss hgc hgfull hgfound hgl hgsz) (cwV 1 hts g_E_8_within_E_8_isState rfl rfl rfl (by decide +kernel) ⟨Nat.le_of_ble_eq_true rfl, Nat.le_of_ble_eq_true rfl⟩) ⟨pu_bl, va_recv hK hP (ci := 8) (q0 := 0) rfl rfl, pu_in hPc hKc hDc⟩ rfl rfl hl.1 rfl (lv_room (Nat.le_of_ble_eq_true rfl)) eX8_within_10 ⟨Nat.le_of_ble_eq_true rfl, Nat.le_of_ble_eq_true rfl⟩) hS (fun q _ h => pu_fr hS hA q h) (pu_fr hS hA) (fun r_3 u t H1 locs ht hvm hw hB hz1 hk1 hS => ?_)
    have hP := pu_keep hP hk1
    clear hPc hDc hKc
    clear hk1 hz1 ht hvm
    generalize H1 = H at hP hS ⊢
    rcases hw with ⟨rfl, hw⟩ | ⟨rfl, hn⟩
    · obtain ⟨hs1, n_4, hn_4, rfl⟩ := hw
      have hsp := hsp.trans (if_pos ⟨hs1, in_q hn_4 (by omega)⟩)
      have hsp := hsp.trans (slet_eq (nI_cl (n := n_4) (by omega)))
      refine lv_if_ne (tgt := 18) hx hb eX8_within_13 (by decide) (fun _ => ?_) (fun z => absurd z (by decide))
      refine lv_aload_n hx hb eX8_within_18 rfl (lv_at hl 0 rfl) ?_
      refine va_get (D := (dC, dI)) (ci := 8) (v := .ref g) (C := RX8) (T := TX8) (N := 16) hx hb hts hiX8 hown hK hP 0 rfl rfl 6 (by decide) v_6 (fun _ h9 => h9) rfl eX8_within_19 ?_
      refine va_get (D := (dC, dI)) (ci := 1) (v := .ref gz) (C := RX1) (T := TX1) (N := 18) hx hb hts hiX1 hown hK hP 15 rfl rfl 0 (by decide) v_7 (fun _ h9 => h9) rfl eX8_within_22 ?_
      refine lv_iload_n hx hb eX8_within_25 rfl (lv_at hl 1 rfl) ?_
      refine va_aldq hx hb hK hP 16 13 rfl rfl (vp_in_nI (n := n_2) (by omega) (Nat.le_of_ble_eq_true rfl)) eX8_within_26 ?_
      refine W.eq (g2 := F0 m 27 ls [.ref (az (o + n_2))]) (by rw [zs_get (by omega) (by omega)]) ?_
      refine lv_aload_n hx hb eX8_within_27 rfl (lv_at hl 0 rfl) ?_
      refine va_get (D := (dC, dI)) (ci := 8) (v := .ref g) (C := RX8) (T := TX8) (N := 16) hx hb hts hiX8 hown hK hP 0 rfl rfl 6 (by decide) v_6 (fun _ h9 => h9) rfl eX8_within_28 ?_
      refine va_get (D := (dC, dI)) (ci := 1) (v := .ref gz) (C := RX1) (T := TX1) (N := 18) hx hb hts hiX1 hown hK hP 15 rfl rfl 0 (by decide) v_7 (fun _ h9 => h9) rfl eX8_within_31 ?_
      refine lv_iload_n hx hb eX8_within_34 rfl (lv_at hl 2 rfl) ?_
      refine va_aldq hx hb hK hP 16 13 rfl rfl (vp_in_nI (n := n_4) (by omega) (Nat.le_of_ble_eq_true rfl)) eX8_within_35 ?_
      refine W.eq (g2 := F0 m 36 ls [.ref (az (o + n_4)), .ref (az (o + n_2))]) (by rw [zs_get (by omega) (by omega)]) ?_
      by_cases hjk : n_2 = n_4
      · subst hjk
        have hsp := hsp.trans (if_pos rfl)
        have hPz := zp_cut (k := (o + n_2)) hP (by omega)
        have hPc : va_P (dC, dI) vwCl ([] ++ [(az (o + n_2), .inr (7, [.ref (ac (o + n_2)), .int (nI (min (qs (o + n_2)) 4))])), (ac (o + n_2), .inl (kz (o + n_2), 16, .inl (fz (o + n_2))))]) _ := va_P.app (hP.sub [] rfl) hPz
        have hDc : va_D (fun _ => True) ([] ++ [(az (o + n_2), .inr (7, [.ref (ac (o + n_2)), .int (nI (min (qs (o + n_2)) 4))])), (ac (o + n_2), .inl (kz (o + n_2), 16, .inl (fz (o + n_2))))]) := zp_cutD hD (by omega) [] (by decide) rfl
        have hKc : va_K (dC, dI) vwCl ([] ++ [(kz (o + n_2), .int)]) s := zp_K hK (by omega) [] rfl
        refine va_calli (va_runV (As := [.ref (az (o + n_2))]) (rest := []) ⟨hx, hb, hml, hown, hts⟩ (c_E_7_holdsAll_s_16 l dC dI _ (az (o + n_2)) (ac (o + n_2)) (min (qs (o + n_2)) 4) (kz (o + n_2)) (fz (o + n_2)) (Nat.min_le_right _ _)) (cwV 1 hts g_E_8_within_E_7_holdsAll_s_16 rfl rfl rfl (by decide +kernel) ⟨Nat.le_of_ble_eq_true rfl, Nat.le_of_ble_eq_true rfl⟩) ⟨pu_bl, va_recv hK hPz (ci := 7) (q0 := 0) rfl rfl, pu_in hPc hKc hDc⟩ rfl rfl hl.1 rfl (lv_room (Nat.le_of_ble_eq_true rfl)) eX8_within_36 ⟨Nat.le_of_ble_eq_true rfl, Nat.le_of_ble_eq_true rfl⟩) hS (fun q _ h => pu_fr hS hA q h) (pu_fr hS hA) (fun r_5 u t H1 locs ht hvm hw hB hz1 hk1 hS => ?_)
        have hP := pu_keep hP hk1
        clear hPc hDc hKc
        clear hk1 hz1 ht hvm
        generalize H1 = H at hP hS ⊢
        obtain ⟨u_6, hu_6, rfl, iu_6⟩ := hw
        have hsp := hsp.trans (slet_eq iu_6)
        have hPc : va_P (dC, dI) vwCl [] _ := hP.sub [] rfl
        have hDc : va_D (fun _ => True) [] := (zp_left hD).sub [] (by decide) rfl
        have hKc : va_K (dC, dI) vwCl [] s := hK.sub [] rfl
        refine va_calli (va_runS (As := [.int (nI u_6)]) (rest := []) ⟨hx, hb, hml, hown, hts⟩ (c_E_8_bit l dC dI _ (nI u_6)) (va_cwS 1 hts g_E_8_within_E_8_bit rfl rfl rfl (by decide +kernel) ⟨Nat.le_of_ble_eq_true rfl, Nat.le_of_ble_eq_true rfl⟩) ⟨pu_bl, pu_in hPc hKc hDc⟩ rfl rfl hl.1 rfl (lv_room (Nat.le_of_ble_eq_true rfl)) eX8_within_39 ⟨Nat.le_of_ble_eq_true rfl, Nat.le_of_ble_eq_true rfl⟩) hS (fun q _ h => pu_fr hS hA q h) (pu_fr hS hA) (fun r_7 u t H1 locs ht hvm hw hB hz1 hk1 hS => ?_)
        have hP := pu_keep hP hk1
        clear hPc hDc hKc
        clear hk1 hz1 ht hvm
        generalize H1 = H at hP hS ⊢
        obtain ⟨u_8, hu_8, rfl, iu_8⟩ := hw
        have hsp := hsp.trans (slet_eq iu_8)
        exact W.iret (v := (nI u_8)) hx hb hr (fun t ht hW => ⟨⟨(nI u_8), (), rfl, (hsp.symm.trans hRR), trivial⟩, hS.F ht⟩) hS.2.2 eX8_within_42
      · have hsp := hsp.trans (if_neg hjk)
        have hPz := zp_cut (k := (o + n_2)) hP (by omega)
        have hPy := zp_cut (k := (o + n_4)) hP (by omega)
        have hPc : va_P (dC, dI) vwCl ([(az (o + n_4), .inr (7, [.ref (ac (o + n_4)), .int (nI (min (qs (o + n_4)) 4))])), (ac (o + n_4), .inl (kz (o + n_4), 16, .inl (fz (o + n_4))))] ++ [(az (o + n_2), .inr (7, [.ref (ac (o + n_2)), .int (nI (min (qs (o + n_2)) 4))])), (ac (o + n_2), .inl (kz (o + n_2), 16, .inl (fz (o + n_2))))]) _ := va_P.app hPy hPz
        have hDc : va_D (fun _ => True) ([(az (o + n_4), .inr (7, [.ref (ac (o + n_4)), .int (nI (min (qs (o + n_4)) 4))])), (ac (o + n_4), .inl (kz (o + n_4), 16, .inl (fz (o + n_4))))] ++ [(az (o + n_2), .inr (7, [.ref (ac (o + n_2)), .int (nI (min (qs (o + n_2)) 4))])), (ac (o + n_2), .inl (kz (o + n_2), 16, .inl (fz (o + n_2))))]) := zp_cutD2 hD (by omega) (by omega) (by omega)
        have hKc : va_K (dC, dI) vwCl [(kz (o + n_4), .int), (kz (o + n_2), .int)] s := zp_K2 hK (by omega) (by omega)
        refine va_calli (va_runV (As := [.ref (az (o + n_4))]) (rest := []) ⟨hx, hb, hml, hown, hts⟩ (c_E_7_holdsAll_16 l dC dI _ (az (o + n_4)) (ac (o + n_4)) (min (qs (o + n_4)) 4) (kz (o + n_4)) (fz (o + n_4)) (az (o + n_2)) (ac (o + n_2)) (min (qs (o + n_2)) 4) (kz (o + n_2)) (fz (o + n_2)) (Nat.min_le_right _ _) (Nat.min_le_right _ _)) (cwV 1 hts g_E_8_within_E_7_holdsAll_16 rfl rfl rfl (by decide +kernel) ⟨Nat.le_of_ble_eq_true rfl, Nat.le_of_ble_eq_true rfl⟩) ⟨pu_bl, va_recv hK hPz (ci := 7) (q0 := 0) rfl rfl, pu_in hPc hKc hDc⟩ rfl rfl hl.1 rfl (lv_room (Nat.le_of_ble_eq_true rfl)) eX8_within_36 ⟨Nat.le_of_ble_eq_true rfl, Nat.le_of_ble_eq_true rfl⟩) hS (fun q _ h => pu_fr hS hA q h) (pu_fr hS hA) (fun r_9 u t H1 locs ht hvm hw hB hz1 hk1 hS => ?_)
        have hP := pu_keep hP hk1
        clear hPc hDc hKc
        clear hk1 hz1 ht hvm
        generalize H1 = H at hP hS ⊢
        obtain ⟨u_10, hu_10, rfl, iu_10⟩ := hw
        have hsp := hsp.trans (slet_eq iu_10)
        have hPc : va_P (dC, dI) vwCl [] _ := hP.sub [] rfl
        have hDc : va_D (fun _ => True) [] := (zp_left hD).sub [] (by decide) rfl
        have hKc : va_K (dC, dI) vwCl [] s := hK.sub [] rfl
        refine va_calli (va_runS (As := [.int (nI u_10)]) (rest := []) ⟨hx, hb, hml, hown, hts⟩ (c_E_8_bit l dC dI _ (nI u_10)) (va_cwS 1 hts g_E_8_within_E_8_bit rfl rfl rfl (by decide +kernel) ⟨Nat.le_of_ble_eq_true rfl, Nat.le_of_ble_eq_true rfl⟩) ⟨pu_bl, pu_in hPc hKc hDc⟩ rfl rfl hl.1 rfl (lv_room (Nat.le_of_ble_eq_true rfl)) eX8_within_39 ⟨Nat.le_of_ble_eq_true rfl, Nat.le_of_ble_eq_true rfl⟩) hS (fun q _ h => pu_fr hS hA q h) (pu_fr hS hA) (fun r_11 u t H1 locs ht hvm hw hB hz1 hk1 hS => ?_)
        have hP := pu_keep hP hk1
        clear hPc hDc hKc
        clear hk1 hz1 ht hvm
        generalize H1 = H at hP hS ⊢
        obtain ⟨u_12, hu_12, rfl, iu_12⟩ := hw
        have hsp := hsp.trans (slet_eq iu_12)
        exact W.iret (v := (nI u_12)) hx hb hr (fun t ht hW => ⟨⟨(nI u_12), (), rfl, (hsp.symm.trans hRR), trivial⟩, hS.F ht⟩) hS.2.2 eX8_within_42
    · have hsp := hsp.trans (if_neg hn)
      refine lv_if_ne (tgt := 18) hx hb eX8_within_13 (by decide) (fun z => absurd z (by decide)) (fun _ => ?_)
      refine lv_iconst (v := (-1)) hx hb eX8_within_16 (by decide) ?_
      exact W.iret (v := (-1)) hx hb hr (fun t ht hW => ⟨⟨(-1), (), rfl, (hsp.symm.trans hRR), trivial⟩, hS.F ht⟩) hS.2.2 eX8_within_17
  · have hsp := hsp.trans (if_neg hn)
    refine lv_if_eq (tgt := 16) hx hb eX8_within_5 (by decide) (fun _ => ?_) (fun z => absurd z (by decide))
    refine lv_iconst (v := (-1)) hx hb eX8_within_16 (by decide) ?_
    exact W.iret (v := (-1)) hx hb hr (fun t ht hW => ⟨⟨(-1), (), rfl, (hsp.symm.trans hRR), trivial⟩, hS.F ht⟩) hS.2.2 eX8_within_17
