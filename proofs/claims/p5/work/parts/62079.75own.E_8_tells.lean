theorem eX8_tells_12 : decode cX8_tells 12 = .ok (.aload_n 0, 1) := by decide +kernel
theorem eX8_tells_13 : decode cX8_tells 13 = .ok (.getfield 62, 3) := by decide +kernel
theorem eX8_tells_16 : decode cX8_tells 16 = .ok (.iconst 0, 1) := by decide +kernel
theorem eX8_tells_17 : decode cX8_tells 17 = .ok (.putfield 351, 3) := by decide +kernel
theorem eX8_tells_20 : decode cX8_tells 20 = .ok (.aload_n 0, 1) := by decide +kernel
theorem eX8_tells_21 : decode cX8_tells 21 = .ok (.getfield 23, 3) := by decide +kernel
theorem eX8_tells_24 : decode cX8_tells 24 = .ok (.getfield 122, 3) := by decide +kernel
theorem eX8_tells_27 : decode cX8_tells 27 = .ok (.istore 7, 2) := by decide +kernel
theorem eX8_tells_29 : decode cX8_tells 29 = .ok (.iconst 0, 1) := by decide +kernel
theorem eX8_tells_30 : decode cX8_tells 30 = .ok (.istore 8, 2) := by decide +kernel
theorem eX8_tells_32 : decode cX8_tells 32 = .ok (.iload 8, 2) := by decide +kernel
theorem eX8_tells_34 : decode cX8_tells 34 = .ok (.iconst 5, 1) := by decide +kernel
theorem eX8_tells_35 : decode cX8_tells 35 = .ok (.if_icmp .ge 123, 3) := by decide +kernel
theorem eX8_tells_38 : decode cX8_tells 38 = .ok (.iload 8, 2) := by decide +kernel
theorem eX8_tells_40 : decode cX8_tells 40 = .ok (.ifCond .ne 7, 3) := by decide +kernel
theorem eX8_tells_43 : decode cX8_tells 43 = .ok (.iload_n 1, 1) := by decide +kernel
theorem eX8_tells_44 : decode cX8_tells 44 = .ok (.goto 36, 3) := by decide +kernel
theorem eX8_tells_47 : decode cX8_tells 47 = .ok (.iload 8, 2) := by decide +kernel
theorem eX8_tells_49 : decode cX8_tells 49 = .ok (.iconst 1, 1) := by decide +kernel
theorem eX8_tells_50 : decode cX8_tells 50 = .ok (.if_icmp .ne 7, 3) := by decide +kernel
theorem eX8_tells_53 : decode cX8_tells 53 = .ok (.iload_n 2, 1) := by decide +kernel
theorem eX8_tells_54 : decode cX8_tells 54 = .ok (.goto 26, 3) := by decide +kernel
theorem eX8_tells_57 : decode cX8_tells 57 = .ok (.iload 8, 2) := by decide +kernel
theorem eX8_tells_59 : decode cX8_tells 59 = .ok (.iconst 2, 1) := by decide +kernel
theorem eX8_tells_60 : decode cX8_tells 60 = .ok (.if_icmp .ne 7, 3) := by decide +kernel
theorem eX8_tells_63 : decode cX8_tells 63 = .ok (.iload_n 3, 1) := by decide +kernel
theorem eX8_tells_64 : decode cX8_tells 64 = .ok (.goto 16, 3) := by decide +kernel
theorem eX8_tells_67 : decode cX8_tells 67 = .ok (.iload 8, 2) := by decide +kernel
theorem eX8_tells_69 : decode cX8_tells 69 = .ok (.iconst 3, 1) := by decide +kernel
theorem eX8_tells_70 : decode cX8_tells 70 = .ok (.if_icmp .ne 8, 3) := by decide +kernel
theorem eX8_tells_73 : decode cX8_tells 73 = .ok (.iload 4, 2) := by decide +kernel
theorem eX8_tells_75 : decode cX8_tells 75 = .ok (.goto 5, 3) := by decide +kernel
theorem eX8_tells_78 : decode cX8_tells 78 = .ok (.iload 5, 2) := by decide +kernel
theorem eX8_tells_80 : decode cX8_tells 80 = .ok (.istore 9, 2) := by decide +kernel
theorem eX8_tells_82 : decode cX8_tells 82 = .ok (.iload 9, 2) := by decide +kernel
theorem eX8_tells_84 : decode cX8_tells 84 = .ok (.iconst (-1), 1) := by decide +kernel
theorem eX8_tells_85 : decode cX8_tells 85 = .ok (.if_icmp .ne 6, 3) := by decide +kernel
theorem eX8_tells_88 : decode cX8_tells 88 = .ok (.goto 70, 3) := by decide +kernel
theorem eX8_tells_91 : decode cX8_tells 91 = .ok (.aload_n 0, 1) := by decide +kernel
theorem eX8_tells_92 : decode cX8_tells 92 = .ok (.iload 9, 2) := by decide +kernel
theorem eX8_tells_94 : decode cX8_tells 94 = .ok (.invokevirtual 165, 3) := by decide +kernel
theorem eX8_tells_97 : decode cX8_tells 97 = .ok (.ifCond .eq 18, 3) := by decide +kernel
theorem eX8_tells_100 : decode cX8_tells 100 = .ok (.aload_n 0, 1) := by decide +kernel
theorem eX8_tells_101 : decode cX8_tells 101 = .ok (.getfield 23, 3) := by decide +kernel
theorem eX8_tells_104 : decode cX8_tells 104 = .ok (.getfield 155, 3) := by decide +kernel
theorem eX8_tells_107 : decode cX8_tells 107 = .ok (.iload 9, 2) := by decide +kernel
theorem eX8_tells_109 : decode cX8_tells 109 = .ok (.iaload, 1) := by decide +kernel
theorem eX8_tells_110 : decode cX8_tells 110 = .ok (.iload 7, 2) := by decide +kernel
theorem eX8_tells_112 : decode cX8_tells 112 = .ok (.if_icmp .eq 5, 3) := by decide +kernel
theorem eX8_tells_115 : decode cX8_tells 115 = .ok (.iconst (-1), 1) := by decide +kernel
theorem eX8_tells_116 : decode cX8_tells 116 = .ok (.ireturn, 1) := by decide +kernel
theorem eX8_tells_117 : decode cX8_tells 117 = .ok (.aload_n 0, 1) := by decide +kernel
theorem eX8_tells_118 : decode cX8_tells 118 = .ok (.getfield 62, 3) := by decide +kernel
theorem eX8_tells_121 : decode cX8_tells 121 = .ok (.getfield 327, 3) := by decide +kernel
theorem eX8_tells_124 : decode cX8_tells 124 = .ok (.iload 8, 2) := by decide +kernel
theorem eX8_tells_126 : decode cX8_tells 126 = .ok (.iload 9, 2) := by decide +kernel
theorem eX8_tells_128 : decode cX8_tells 128 = .ok (.iastore, 1) := by decide +kernel
theorem eX8_tells_129 : decode cX8_tells 129 = .ok (.aload_n 0, 1) := by decide +kernel
theorem eX8_tells_130 : decode cX8_tells 130 = .ok (.getfield 62, 3) := by decide +kernel
theorem eX8_tells_133 : decode cX8_tells 133 = .ok (.iload 8, 2) := by decide +kernel
theorem eX8_tells_135 : decode cX8_tells 135 = .ok (.iconst 1, 1) := by decide +kernel
theorem eX8_tells_136 : decode cX8_tells 136 = .ok (.iadd, 1) := by decide +kernel
theorem eX8_tells_137 : decode cX8_tells 137 = .ok (.putfield 351, 3) := by decide +kernel
theorem eX8_tells_140 : decode cX8_tells 140 = .ok (.aload_n 0, 1) := by decide +kernel
theorem eX8_tells_141 : decode cX8_tells 141 = .ok (.getfield 23, 3) := by decide +kernel
theorem eX8_tells_144 : decode cX8_tells 144 = .ok (.getfield 162, 3) := by decide +kernel
theorem eX8_tells_147 : decode cX8_tells 147 = .ok (.iload 9, 2) := by decide +kernel
theorem eX8_tells_149 : decode cX8_tells 149 = .ok (.iaload, 1) := by decide +kernel
theorem eX8_tells_150 : decode cX8_tells 150 = .ok (.istore 7, 2) := by decide +kernel
theorem eX8_tells_152 : decode cX8_tells 152 = .ok (.iinc 8 1, 3) := by decide +kernel
theorem eX8_tells_155 : decode cX8_tells 155 = .ok (.goto (-123), 3) := by decide +kernel
theorem eX8_tells_158 : decode cX8_tells 158 = .ok (.aload_n 0, 1) := by decide +kernel
theorem eX8_tells_159 : decode cX8_tells 159 = .ok (.getfield 62, 3) := by decide +kernel
theorem eX8_tells_162 : decode cX8_tells 162 = .ok (.aload_n 0, 1) := by decide +kernel
theorem eX8_tells_163 : decode cX8_tells 163 = .ok (.getfield 23, 3) := by decide +kernel
theorem eX8_tells_166 : decode cX8_tells 166 = .ok (.iload 6, 2) := by decide +kernel
theorem eX8_tells_168 : decode cX8_tells 168 = .ok (.invokevirtual 347, 3) := by decide +kernel
theorem eX8_tells_171 : decode cX8_tells 171 = .ok (.ireturn, 1) := by decide +kernel
abbrev vs_E_8_tells : List Cond := .code yX8_tells cX8_tells 10 (some .int) :: CM
theorem g_E_8_tells_E_6_spanOf : GoodIn vs_E_8_tells (wsV RX8 347 RX6 yX6_spanOf vs_E_6_spanOf) := cm_gV cm_626 cm_627 cm_628 cm_383 cm_403
theorem g_E_8_tells_E_8_isEdge : GoodIn vs_E_8_tells (wsV RX8 165 RX8 yX8_isEdge vs_E_8_isEdge) := cm_gV cm_483 cm_484 cm_485 cm_427 cm_479
noncomputable def sp_E_8_tells_L1 (nc : Nat) (ne : Nat) (st0 : Nat) (f4 : Nat → Int32) (q_f5 : Nat → Nat) (q_f6 : Nat → Nat) (f7 : Nat → Int32) (q_f8 : Nat → Nat) (q_f9 : Nat → Nat) (f12 : Nat → Int32) (f13 : Nat → Int32) (j8 : Nat → Int32) (tzn : Nat) (ftz : Nat → Int32) (p1 : Int32) (p2 : Int32) (p3 : Int32) (p4 : Int32) (p5 : Int32) : ((Nat → Nat) × Nat × Int32 × Nat × Nat) → ((Nat → Nat) × Nat × Int32 × Nat × Nat) ⊕ (Int32 × (Nat → Nat) × (Nat → Int32) × Nat × Nat) := fun (g_7, g_8, g_9, g_10, g_11) => (if 5 ≤ g_11 then (Sum.inr (slet (sp_E_6_spanOf g_8 g_7 j8 nc st0 f4 q_f5 q_f6 f7 q_f8 q_f9 f12 f13 ftz p5) (fun (r_19, z_ftz_20, z_tzn_21) => (r_19, g_7, z_ftz_20, g_8, z_tzn_21)))) else (slet (α := Int32) (if g_11 = 0 then g_9 else (if g_11 = 1 then p1 else (if g_11 = 2 then p2 else (if g_11 = 3 then p3 else p4)))) (fun g_22 => (if (g_22 : Int32) = (-1) then (Sum.inr (slet (sp_E_6_spanOf g_8 g_7 j8 nc st0 f4 q_f5 q_f6 f7 q_f8 q_f9 f12 f13 ftz p5) (fun (r_36, z_ftz_37, z_tzn_38) => (r_36, g_7, z_ftz_37, g_8, z_tzn_38)))) else (if (0 : Int32) ≤ g_22 ∧ g_22 < nI ne then (slet ((g_22 : Int32).toNatClampNeg) (fun n_28 => (slet (min (q_f5 n_28) 7) (fun u_30 => (if u_30 = g_10 then (slet (updN g_7 g_11 n_28) (fun q_32 => (slet (min (q_f6 n_28) 7) (fun u_35 => (Sum.inl (q_32, (g_11 + 1), g_9, u_35, (g_11 + 1))))))) else (Sum.inr ((-1), g_7, ftz, g_8, tzn))))))) else (Sum.inr ((-1), g_7, ftz, g_8, tzn)))))))
noncomputable def sp_E_8_tells (nc : Nat) (np : Nat) (ne : Nat) (st0 : Nat) (f4 : Nat → Int32) (q_f5 : Nat → Nat) (q_f6 : Nat → Nat) (f7 : Nat → Int32) (q_f8 : Nat → Nat) (q_f9 : Nat → Nat) (f12 : Nat → Int32) (f13 : Nat → Int32) (ln : Nat) (q_j0 : Nat → Nat) (j8 : Nat → Int32) (tzn : Nat) (ftz : Nat → Int32) (p0 : Int32) (p1 : Int32) (p2 : Int32) (p3 : Int32) (p4 : Int32) (p5 : Int32) : Int32 × (Nat → Nat) × (Nat → Int32) × Nat × Nat := (if np = 0 then ((-1), q_j0, ftz, ln, tzn) else (itrv (α := (Nat → Nat) × Nat × Int32 × Nat × Nat) (β := (Int32 × (Nat → Nat) × (Nat → Int32) × Nat × Nat)) default (sp_E_8_tells_L1 nc ne st0 f4 q_f5 q_f6 f7 q_f8 q_f9 f12 f13 j8 tzn ftz p1 p2 p3 p4 p5) (q_j0, 0, p0, st0, 0)))
set_option maxHeartbeats 4000000 in
set_option maxRecDepth 100000 in
theorem c_E_8_tells (l : Launch) (dC : Nat → ClassId) (dI : Nat → Nat → Nat) (sz : Nat) (xa : Nat) (xtape : Nat) (tp : Nat) (rd : Nat) (au : Nat) (xdr : Nat) (hy : Nat) (g : Nat) (hs : Nat) (tg : Nat) (sg : Nat) (ss : Nat) (rm : Nat) (ti : Nat) (py : Nat) (bu : Nat) (sm : Nat) (nc : Nat) (np : Nat) (ne : Nat) (st0 : Nat) (q4 : Nat) (q5 : Nat) (q6 : Nat) (q7 : Nat) (q8 : Nat) (q9 : Nat) (q10 : Nat) (q11 : Nat) (q12 : Nat) (q13 : Nat) (q14 : Nat) (q15 : Nat) (q16 : Nat) (k_f4 : ClassId) (f4 : Nat → Int32) (k_f5 : ClassId) (q_f5 : Nat → Nat) (k_f6 : ClassId) (q_f6 : Nat → Nat) (k_f7 : ClassId) (f7 : Nat → Int32) (k_f8 : ClassId) (q_f8 : Nat → Nat) (k_f9 : ClassId) (q_f9 : Nat → Nat) (k_f10 : ClassId) (f10 : Nat → Int32) (k_f11 : ClassId) (f11 : Nat → Int32) (k_f12 : ClassId) (f12 : Nat → Int32) (k_f13 : ClassId) (f13 : Nat → Int32) (k_f14 : ClassId) (f14 : Nat → Int32) (k_f15 : ClassId) (f15 : Nat → Int32) (k_f16 : ClassId) (f16 : Nat → Int32) (r0 : Nat) (ln : Nat) (r2 : Nat) (r3 : Nat) (r4 : Nat) (r5 : Nat) (nr : Nat) (r7 : Nat) (r8 : Nat) (tz : Nat) (k_j0 : ClassId) (q_j0 : Nat → Nat) (k_j2 : ClassId) (j2 : Nat → Int32) (k_j3 : ClassId) (q_j3 : Nat → Nat) (k_j4 : ClassId) (q_j4 : Nat → Nat) (k_j5 : ClassId) (j5 : Nat → Int32) (k_j7 : ClassId) (q_j7 : Nat → Nat) (k_j8 : ClassId) (j8 : Nat → Int32) (tzc : Nat) (tzn : Nat) (k_ftz : ClassId) (ftz : Nat → Int32) (p0 : Int32) (p1 : Int32) (p2 : Int32) (p3 : Int32) (p4 : Int32) (p5 : Int32) (htp : tp ≤ 900) (hhs : hs ≤ 1) (hss : ss ≤ 1) (hnc : nc ≤ 3) (hnp : np ≤ 8) (hne : ne ≤ 14) (hst0 : st0 ≤ 7) (hln : ln ≤ 119) (hnr : nr ≤ 1920) (htzn : tzn ≤ 5) : Met l yX8_tells vs_E_8_tells ({ frames := 4, cells := 0, slots := 0, locals := 102 }) (va_Pc [.ref xa, .int p0, .int p1, .int p2, .int p3, .int p4, .int p5] (pu_B (dC, dI) (xtl__w xa xtape (nI tp) rd au xdr hy g (nI hs) tg sg (nI ss) rm ti py bu sm (nI nc) (nI np) (nI ne) (nI st0) q4 q5 q6 q7 q8 q9 q10 q11 q12 q13 q14 q15 q16 k_f4 f4 k_f5 (bN 7 q_f5) k_f6 (bN 7 q_f6) k_f7 f7 k_f8 (bN 4 q_f8) k_f9 (bN 2 q_f9) k_f10 f10 k_f11 f11 k_f12 f12 k_f13 f13 k_f14 f14 k_f15 f15 k_f16 f16 r0 (nI ln) r2 r3 r4 r5 (nI nr) r7 r8 tz k_j0 (bN 13 q_j0) k_j2 j2 k_j3 (bN 120 q_j3) k_j4 (bN 120 q_j4) k_j5 j5 k_j7 (bN 120 q_j7) k_j8 j8 tzc (nI tzn) k_ftz ftz) (xtl__t k_f4 k_f5 k_f6 k_f7 k_f8 k_f9 k_f10 k_f11 k_f12 k_f13 k_f14 k_f15 k_f16 k_j0 k_j2 k_j3 k_j4 k_j5 k_j7 k_j8 k_ftz) sz)) (va_Qi (fun (r : Int32) (_ : Unit) => r = (sp_E_8_tells nc np ne st0 f4 q_f5 q_f6 f7 q_f8 q_f9 f12 f13 ln q_j0 j8 tzn ftz p0 p1 p2 p3 p4 p5).1) (fun _ t => ∃ (z_j0 : Nat → Nat) (z_ftz : Nat → Int32) (z_ln : Nat) (z_tzn : Nat), pu_E (dC, dI) (xtl__w xa xtape (nI tp) rd au xdr hy g (nI hs) tg sg (nI ss) rm ti py bu sm (nI nc) (nI np) (nI ne) (nI st0) q4 q5 q6 q7 q8 q9 q10 q11 q12 q13 q14 q15 q16 k_f4 f4 k_f5 (bN 7 q_f5) k_f6 (bN 7 q_f6) k_f7 f7 k_f8 (bN 4 q_f8) k_f9 (bN 2 q_f9) k_f10 f10 k_f11 f11 k_f12 f12 k_f13 f13 k_f14 f14 k_f15 f15 k_f16 f16 r0 (nI z_ln) r2 r3 r4 r5 (nI nr) r7 r8 tz k_j0 (bN 13 z_j0) k_j2 j2 k_j3 (bN 120 q_j3) k_j4 (bN 120 q_j4) k_j5 j5 k_j7 (bN 120 q_j7) k_j8 j8 tzc (nI z_tzn) k_ftz z_ftz) (xtl__t k_f4 k_f5 k_f6 k_f7 k_f8 k_f9 k_f10 k_f11 k_f12 k_f13 k_f14 k_f15 k_f16 k_j0 k_j2 k_j3 k_j4 k_j5 k_j7 k_j8 k_ftz) (va_A ((xtl__w xa xtape (nI tp) rd au xdr hy g (nI hs) tg sg (nI ss) rm ti py bu sm (nI nc) (nI np) (nI ne) (nI st0) q4 q5 q6 q7 q8 q9 q10 q11 q12 q13 q14 q15 q16 k_f4 f4 k_f5 (bN 7 q_f5) k_f6 (bN 7 q_f6) k_f7 f7 k_f8 (bN 4 q_f8) k_f9 (bN 2 q_f9) k_f10 f10 k_f11 f11 k_f12 f12 k_f13 f13 k_f14 f14 k_f15 f15 k_f16 f16 r0 (nI ln) r2 r3 r4 r5 (nI nr) r7 r8 tz k_j0 (bN 13 q_j0) k_j2 j2 k_j3 (bN 120 q_j3) k_j4 (bN 120 q_j4) k_j5 j5 k_j7 (bN 120 q_j7) k_j8 j8 tzc (nI tzn) k_ftz ftz)) sz) t ∧ (z_ln ≤ 119) ∧ (z_tzn ≤ 5) ∧ ((z_j0, z_ftz, z_ln, z_tzn) = (sp_E_8_tells nc np ne st0 f4 q_f5 q_f6 f7 q_f8 q_f9 f12 f13 ln q_j0 j8 tzn ftz p0 p1 p2 p3 p4 p5).2)) (va_A ((xtl__w xa xtape (nI tp) rd au xdr hy g (nI hs) tg sg (nI ss) rm ti py bu sm (nI nc) (nI np) (nI ne) (nI st0) q4 q5 q6 q7 q8 q9 q10 q11 q12 q13 q14 q15 q16 k_f4 f4 k_f5 (bN 7 q_f5) k_f6 (bN 7 q_f6) k_f7 f7 k_f8 (bN 4 q_f8) k_f9 (bN 2 q_f9) k_f10 f10 k_f11 f11 k_f12 f12 k_f13 f13 k_f14 f14 k_f15 f15 k_f16 f16 r0 (nI ln) r2 r3 r4 r5 (nI nr) r7 r8 tz k_j0 (bN 13 q_j0) k_j2 j2 k_j3 (bN 120 q_j3) k_j4 (bN 120 q_j4) k_j5 j5 k_j7 (bN 120 q_j7) k_j8 j8 tzc (nI tzn) k_ftz ftz)) sz)) 0 0 (va_A ((xtl__w xa xtape (nI tp) rd au xdr hy g (nI hs) tg sg (nI ss) rm ti py bu sm (nI nc) (nI np) (nI ne) (nI st0) q4 q5 q6 q7 q8 q9 q10 q11 q12 q13 q14 q15 q16 k_f4 f4 k_f5 (bN 7 q_f5) k_f6 (bN 7 q_f6) k_f7 f7 k_f8 (bN 4 q_f8) k_f9 (bN 2 q_f9) k_f10 f10 k_f11 f11 k_f12 f12 k_f13 f13 k_f14 f14 k_f15 f15 k_f16 f16 r0 (nI ln) r2 r3 r4 r5 (nI nr) r7 r8 tz k_j0 (bN 13 q_j0) k_j2 j2 k_j3 (bN 120 q_j3) k_j4 (bN 120 q_j4) k_j5 j5 k_j7 (bN 120 q_j7) k_j8 j8 tzc (nI tzn) k_ftz ftz)) sz) := by
  refine Met.ofW (cc := cX8_tells) (maxL := 10) (ret := (some .int)) (by decide) rfl ?_
  intro p e s m args below meth c s₁ B hml hv
  obtain ⟨rfl, rfl, hP, hK, hD0⟩ := hv
  have hx := B.exec
  have hb := B.bytes
  have hr := B.returns
  have hts := atoms_spec (ws := vs_E_8_tells) B.pre
  have v_1 := hts (.fieldLink RX8 23 "ClockReach" "model" "LClockReach$Automaton;") (List.mem_cons_of_mem _ cm_434)
  have v_2 := hts (.fieldLink RX8 97 "ClockReach$Automaton" "places" "I") (List.mem_cons_of_mem _ cm_437)
  have v_3 := hts (.fieldLink RX8 62 "ClockReach" "timing" "LClockReach$Timing;") (List.mem_cons_of_mem _ cm_601)
  have v_4 := hts (.fieldLink RX8 351 "ClockReach$Timing" "length" "I") (List.mem_cons_of_mem _ cm_630)
  have v_5 := hts (.fieldLink RX8 122 "ClockReach$Automaton" "start" "I") (List.mem_cons_of_mem _ cm_455)
  have v_11 := hts (.fieldLink RX8 155 "ClockReach$Automaton" "sources" "[I") (List.mem_cons_of_mem _ cm_469)
  have v_12 := hts (.fieldLink RX8 327 "ClockReach$Timing" "path" "[I") (List.mem_cons_of_mem _ cm_602)
  have v_13 := hts (.fieldLink RX8 162 "ClockReach$Automaton" "targets" "[I") (List.mem_cons_of_mem _ cm_470)
  have hown : s.vm.findClass RX8 = some m.cls := findClass_of_methodNamed B.named
  have hlocks := B.notSynchronized
  have hiX0 : ∀ w ∈ wsX00, w ∈ vs_E_8_tells := fun _ h => List.mem_cons_of_mem _ (cm_X0 h)
  have hiX6 : ∀ w ∈ wsX60, w ∈ vs_E_8_tells := fun _ h => List.mem_cons_of_mem _ (cm_X6 h)
  have hiX8 : ∀ w ∈ wsX80, w ∈ vs_E_8_tells := fun _ h => List.mem_cons_of_mem _ (cm_X8 h)
  have hD := hD0.self (sz := s.heap.size)
  generalize hAe : va_A ((xtl__w xa xtape (nI tp) rd au xdr hy g (nI hs) tg sg (nI ss) rm ti py bu sm (nI nc) (nI np) (nI ne) (nI st0) q4 q5 q6 q7 q8 q9 q10 q11 q12 q13 q14 q15 q16 k_f4 f4 k_f5 (bN 7 q_f5) k_f6 (bN 7 q_f6) k_f7 f7 k_f8 (bN 4 q_f8) k_f9 (bN 2 q_f9) k_f10 f10 k_f11 f11 k_f12 f12 k_f13 f13 k_f14 f14 k_f15 f15 k_f16 f16 r0 (nI ln) r2 r3 r4 r5 (nI nr) r7 r8 tz k_j0 (bN 13 q_j0) k_j2 j2 k_j3 (bN 120 q_j3) k_j4 (bN 120 q_j4) k_j5 j5 k_j7 (bN 120 q_j7) k_j8 j8 tzc (nI tzn) k_ftz ftz)) s.heap.size = A at hD ⊢
  have hA : ∀ q : Nat, s.heap.size ≤ q → A q := fun q h => by rw [← hAe]; exact Or.inr h
  have hS : va_S A s.heap s.heap [] := va_S.rf
  have hl := lv_entry ([.ref xa, .int p0, .int p1, .int p2, .int p3, .int p4, .int p5]) (n := 10) (Nat.le_of_ble_eq_true rfl)
  rw [lg_entry_eq]
  generalize (lg_sl ([.ref xa, .int p0, .int p1, .int p2, .int p3, .int p4, .int p5]) ++ List.replicate (10 - (lg_sl ([.ref xa, .int p0, .int p1, .int p2, .int p3, .int p4, .int p5])).length) Slot.unset).toArray = ls at hl ⊢
  have hl : lv_has ls 10 [(0, .ref xa), (1, .int p0), (2, .int p1), (3, .int p2), (4, .int p3), (5, .int p4), (6, .int p5)] := hl
  obtain ⟨RR, hRR⟩ : ∃ x, x = (sp_E_8_tells nc np ne st0 f4 q_f5 q_f6 f7 q_f8 q_f9 f12 f13 ln q_j0 j8 tzn ftz p0 p1 p2 p3 p4 p5) := ⟨_, rfl⟩
  have hsp := hRR
  refine lv_aload_n hx hb eX8_tells_0 rfl (lv_at hl 0 rfl) ?_
  refine va_get (D := (dC, dI)) (ci := 8) (v := .ref au) (C := RX8) (T := TX8) (N := 16) hx hb hts hiX8 hown hK hP 0 rfl rfl 3 (by decide) v_1 (fun _ h9 => h9) rfl eX8_tells_1 ?_
  refine va_get (D := (dC, dI)) (ci := 0) (v := .int (nI np)) (C := RX0) (T := TX0) (N := 17) hx hb hts hiX0 hown hK hP 1 rfl rfl 1 (by decide) v_2 (fun _ h9 => h9) rfl eX8_tells_4 ?_
  refine lv_if_ne (tgt := 12) hx hb eX8_tells_7 (by decide) (fun c_1 => ?_) (fun c_1 => ?_)
  · have c_1 : ¬ np = 0 := fun z => c_1 ((nI_eq (a := np) (b := 0) (Nat.lt_of_le_of_lt hnp (Nat.le_of_ble_eq_true rfl)) (Nat.le_of_ble_eq_true rfl)).mpr z)
    have hsp := hsp.trans (if_neg c_1)
    refine lv_aload_n hx hb eX8_tells_12 rfl (lv_at hl 0 rfl) ?_
    refine va_get (D := (dC, dI)) (ci := 8) (v := .ref ti) (C := RX8) (T := TX8) (N := 16) hx hb hts hiX8 hown hK hP 0 rfl rfl 12 (by decide) v_3 (fun _ h9 => h9) rfl eX8_tells_13 ?_
    refine lv_iconst (v := 0) hx hb eX8_tells_16 (by decide) ?_
    refine va_put (D := (dC, dI)) (ci := 6) (v := .int 0) (ty := .int) (C := RX6) (T := TX6) (N := 10) hx hb hts hiX6 tyX6 tyX6_ok nmX6 hown hK hP hD hS 15 rfl rfl 1 (by decide) v_4 (fun _ h9 => h9) rfl (by decide +kernel) rfl rfl (Nat.le_of_ble_eq_true rfl) eX8_tells_17 (fun H locs hP hD hS => ?_)
    have hP : va_P (dC, dI) vwCl (xtl__w xa xtape (nI tp) rd au xdr hy g (nI hs) tg sg (nI ss) rm ti py bu sm (nI nc) (nI np) (nI ne) (nI st0) q4 q5 q6 q7 q8 q9 q10 q11 q12 q13 q14 q15 q16 k_f4 f4 k_f5 (bN 7 q_f5) k_f6 (bN 7 q_f6) k_f7 f7 k_f8 (bN 4 q_f8) k_f9 (bN 2 q_f9) k_f10 f10 k_f11 f11 k_f12 f12 k_f13 f13 k_f14 f14 k_f15 f15 k_f16 f16 r0 0 r2 r3 r4 r5 (nI nr) r7 r8 tz k_j0 (bN 13 q_j0) k_j2 j2 k_j3 (bN 120 q_j3) k_j4 (bN 120 q_j4) k_j5 j5 k_j7 (bN 120 q_j7) k_j8 j8 tzc (nI tzn) k_ftz ftz) H := hP
    have hD : va_D A (xtl__w xa xtape (nI tp) rd au xdr hy g (nI hs) tg sg (nI ss) rm ti py bu sm (nI nc) (nI np) (nI ne) (nI st0) q4 q5 q6 q7 q8 q9 q10 q11 q12 q13 q14 q15 q16 k_f4 f4 k_f5 (bN 7 q_f5) k_f6 (bN 7 q_f6) k_f7 f7 k_f8 (bN 4 q_f8) k_f9 (bN 2 q_f9) k_f10 f10 k_f11 f11 k_f12 f12 k_f13 f13 k_f14 f14 k_f15 f15 k_f16 f16 r0 0 r2 r3 r4 r5 (nI nr) r7 r8 tz k_j0 (bN 13 q_j0) k_j2 j2 k_j3 (bN 120 q_j3) k_j4 (bN 120 q_j4) k_j5 j5 k_j7 (bN 120 q_j7) k_j8 j8 tzc (nI tzn) k_ftz ftz) := hD
    refine lv_aload_n hx hb eX8_tells_20 rfl (lv_at hl 0 rfl) ?_
    refine va_get (D := (dC, dI)) (ci := 8) (v := .ref au) (C := RX8) (T := TX8) (N := 16) hx hb hts hiX8 hown hK hP 0 rfl rfl 3 (by decide) v_1 (fun _ h9 => h9) rfl eX8_tells_21 ?_
    refine va_get (D := (dC, dI)) (ci := 0) (v := .int (nI st0)) (C := RX0) (T := TX0) (N := 17) hx hb hts hiX0 hown hK hP 1 rfl rfl 3 (by decide) v_5 (fun _ h9 => h9) rfl eX8_tells_24 ?_
    refine lv_istore (lv' := [(7, .int (nI st0)), (0, .ref xa), (1, .int p0), (2, .int p1), (3, .int p2), (4, .int p3), (5, .int p4), (6, .int p5)]) hx hb eX8_tells_27 hl (by decide) rfl (fun ls hl => ?_)
    refine lv_iconst (v := 0) hx hb eX8_tells_29 (by decide) ?_
    refine lv_istore (lv' := [(8, .int 0), (7, .int (nI st0)), (0, .ref xa), (1, .int p0), (2, .int p1), (3, .int p2), (4, .int p3), (5, .int p4), (6, .int p5)]) hx hb eX8_tells_30 hl (by decide) rfl (fun ls hl => ?_)
    obtain ⟨lf_13, dlf_13, hlf_13, hsp⟩ := itr_ex hsp
    delta sp_E_8_tells_L1 at hlf_13
    refine pu_while (fun nn H locs ls => ∃ (g_7 : Nat → Nat) (g_8 : Nat) (g_9 : Int32) (g_10 : Nat) (g_11 : Nat), nn = 5 - g_11 ∧ g_8 ≤ 119 ∧ g_10 ≤ 7 ∧ g_11 ≤ 5 ∧ RR = itrv dlf_13 lf_13 (g_7, g_8, g_9, g_10, g_11) ∧ va_P (dC, dI) vwCl (xtl__w xa xtape (nI tp) rd au xdr hy g (nI hs) tg sg (nI ss) rm ti py bu sm (nI nc) (nI np) (nI ne) (nI st0) q4 q5 q6 q7 q8 q9 q10 q11 q12 q13 q14 q15 q16 k_f4 f4 k_f5 (bN 7 q_f5) k_f6 (bN 7 q_f6) k_f7 f7 k_f8 (bN 4 q_f8) k_f9 (bN 2 q_f9) k_f10 f10 k_f11 f11 k_f12 f12 k_f13 f13 k_f14 f14 k_f15 f15 k_f16 f16 r0 (nI g_8) r2 r3 r4 r5 (nI nr) r7 r8 tz k_j0 (bN 13 g_7) k_j2 j2 k_j3 (bN 120 q_j3) k_j4 (bN 120 q_j4) k_j5 j5 k_j7 (bN 120 q_j7) k_j8 j8 tzc (nI tzn) k_ftz ftz) H ∧ va_D A (xtl__w xa xtape (nI tp) rd au xdr hy g (nI hs) tg sg (nI ss) rm ti py bu sm (nI nc) (nI np) (nI ne) (nI st0) q4 q5 q6 q7 q8 q9 q10 q11 q12 q13 q14 q15 q16 k_f4 f4 k_f5 (bN 7 q_f5) k_f6 (bN 7 q_f6) k_f7 f7 k_f8 (bN 4 q_f8) k_f9 (bN 2 q_f9) k_f10 f10 k_f11 f11 k_f12 f12 k_f13 f13 k_f14 f14 k_f15 f15 k_f16 f16 r0 (nI g_8) r2 r3 r4 r5 (nI nr) r7 r8 tz k_j0 (bN 13 g_7) k_j2 j2 k_j3 (bN 120 q_j3) k_j4 (bN 120 q_j4) k_j5 j5 k_j7 (bN 120 q_j7) k_j8 j8 tzc (nI tzn) k_ftz ftz) ∧ va_S A s.heap H locs ∧ lv_has ls 10 [(0, .ref xa), (1, .int g_9), (2, .int p1), (3, .int p2), (4, .int p3), (5, .int p4), (6, .int p5), (7, .int (nI g_10)), (8, .int (nI g_11))]) 32 ?_ _ _ _ _ ⟨q_j0, 0, p0, st0, 0, rfl, (Nat.le_of_ble_eq_true rfl), hst0, (Nat.le_of_ble_eq_true rfl), hsp, hP, hD, hS, lv_sub hl [2, 3, 4, 5, 6, 7, 8, 1, 0] rfl⟩
    rintro nn ih_12 H locs ls ⟨g_7, g_8, g_9, g_10, g_11, rfl, hg_8, hg_10, hg_11, he_15, hP, hD, hS, hl⟩
    obtain ⟨S_14, hsp, hin_16, hout_17⟩ := itr_step hlf_13 he_15
    refine lv_iload hx hb eX8_tells_32 (lv_at hl 8 rfl) ?_
    refine lv_iconst (v := 5) hx hb eX8_tells_34 (by decide) ?_
    refine lv_icmp_ge (tgt := 158) hx hb eX8_tells_35 (by decide) (fun c_18 => ?_) (fun c_18 => ?_)
    · have c_18 : 5 ≤ g_11 := (nI_leI (a := 5) (b := g_11) (Nat.le_of_ble_eq_true rfl) (Nat.lt_of_le_of_lt hg_11 (Nat.le_of_ble_eq_true rfl))).mp c_18
      have hsp := hsp.trans (if_pos c_18)
      have hsp := hout_17 _ hsp
      refine lv_aload_n hx hb eX8_tells_158 rfl (lv_at hl 0 rfl) ?_
      refine va_get (D := (dC, dI)) (ci := 8) (v := .ref ti) (C := RX8) (T := TX8) (N := 16) hx hb hts hiX8 hown hK hP 0 rfl rfl 12 (by decide) v_3 (fun _ h9 => h9) rfl eX8_tells_159 ?_
      refine lv_aload_n hx hb eX8_tells_162 rfl (lv_at hl 0 rfl) ?_
      refine va_get (D := (dC, dI)) (ci := 8) (v := .ref au) (C := RX8) (T := TX8) (N := 16) hx hb hts hiX8 hown hK hP 0 rfl rfl 3 (by decide) v_1 (fun _ h9 => h9) rfl eX8_tells_163 ?_
      refine lv_iload hx hb eX8_tells_166 (lv_at hl 6 rfl) ?_
      have hPc : va_P (dC, dI) vwCl (tz__w ti r0 (nI g_8) r2 r3 r4 r5 (nI nr) r7 r8 tz k_j0 (bN 13 g_7) k_j2 j2 k_j3 (bN 120 q_j3) k_j4 (bN 120 q_j4) k_j5 j5 k_j7 (bN 120 q_j7) k_j8 j8 au (nI nc) (nI np) (nI ne) (nI st0) q4 q5 q6 q7 q8 q9 q10 q11 q12 q13 q14 q15 q16 k_f4 f4 k_f5 (bN 7 q_f5) k_f6 (bN 7 q_f6) k_f7 f7 k_f8 (bN 4 q_f8) k_f9 (bN 2 q_f9) k_f10 f10 k_f11 f11 k_f12 f12 k_f13 f13 k_f14 f14 k_f15 f15 k_f16 f16 tzc (nI tzn) k_ftz ftz) _ := hP.sub [15, 16, 17, 18, 19, 20, 21, 22, 1, 2, 3, 4, 5, 6, 7, 8, 9, 10, 11, 12, 13, 14, 23, 24] rfl
      have hDc := hD.sub (ws' := (tz__w ti r0 (nI g_8) r2 r3 r4 r5 (nI nr) r7 r8 tz k_j0 (bN 13 g_7) k_j2 j2 k_j3 (bN 120 q_j3) k_j4 (bN 120 q_j4) k_j5 j5 k_j7 (bN 120 q_j7) k_j8 j8 au (nI nc) (nI np) (nI ne) (nI st0) q4 q5 q6 q7 q8 q9 q10 q11 q12 q13 q14 q15 q16 k_f4 f4 k_f5 (bN 7 q_f5) k_f6 (bN 7 q_f6) k_f7 f7 k_f8 (bN 4 q_f8) k_f9 (bN 2 q_f9) k_f10 f10 k_f11 f11 k_f12 f12 k_f13 f13 k_f14 f14 k_f15 f15 k_f16 f16 tzc (nI tzn) k_ftz ftz)) [15, 16, 17, 18, 19, 20, 21, 22, 1, 2, 3, 4, 5, 6, 7, 8, 9, 10, 11, 12, 13, 14, 23, 24] (by decide) rfl
      have hKc : va_K (dC, dI) vwCl (tz__t k_j0 k_j2 k_j3 k_j4 k_j5 k_j7 k_j8 k_f4 k_f5 k_f6 k_f7 k_f8 k_f9 k_f10 k_f11 k_f12 k_f13 k_f14 k_f15 k_f16 k_ftz) s := hK.sub [13, 14, 15, 16, 17, 18, 19, 0, 1, 2, 3, 4, 5, 6, 7, 8, 9, 10, 11, 12, 20] rfl
      have hFc := pu_free hDc hS hA
      refine va_calli (va_runV (As := [.ref au, .int p5]) (rest := []) ⟨hx, hb, hml, hown, hts⟩ (c_E_6_spanOf l dC dI _ ti r0 g_8 r2 r3 r4 r5 nr r7 r8 tz k_j0 g_7 k_j2 j2 k_j3 q_j3 k_j4 q_j4 k_j5 j5 k_j7 q_j7 k_j8 j8 au nc np ne st0 q4 q5 q6 q7 q8 q9 q10 q11 q12 q13 q14 q15 q16 k_f4 f4 k_f5 q_f5 k_f6 q_f6 k_f7 f7 k_f8 q_f8 k_f9 q_f9 k_f10 f10 k_f11 f11 k_f12 f12 k_f13 f13 k_f14 f14 k_f15 f15 k_f16 f16 tzc tzn k_ftz ftz p5 hg_8 hnr hnc hnp hne hst0 htzn) (cwV 2 hts g_E_8_tells_E_6_spanOf rfl rfl rfl (by decide +kernel) ⟨Nat.le_of_ble_eq_true rfl, Nat.le_of_ble_eq_true rfl⟩) ⟨pu_bl, va_recv hK hP (ci := 6) (q0 := 15) rfl rfl, pu_in hPc hKc hDc⟩ rfl rfl hl.1 rfl (lv_room (Nat.le_of_ble_eq_true rfl)) eX8_tells_168 ⟨Nat.le_of_ble_eq_true rfl, Nat.le_of_ble_eq_true rfl⟩) hS (fun q _ h => hFc q h) hFc (fun r_19 u t H1 locs ht hvm hw hB hz1 hk1 hS => ?_)
      obtain ⟨z_ftz_20, z_tzn_21, ⟨hP1, -, hD1⟩, hz_tzn_21, xr_19_0⟩ := hB
      rw [ht] at hP1
      obtain ⟨hP, hD⟩ := pj_a (X := (xtl__w xa xtape (nI tp) rd au xdr hy g (nI hs) tg sg (nI ss) rm ti py bu sm (nI nc) (nI np) (nI ne) (nI st0) q4 q5 q6 q7 q8 q9 q10 q11 q12 q13 q14 q15 q16 k_f4 f4 k_f5 (bN 7 q_f5) k_f6 (bN 7 q_f6) k_f7 f7 k_f8 (bN 4 q_f8) k_f9 (bN 2 q_f9) k_f10 f10 k_f11 f11 k_f12 f12 k_f13 f13 k_f14 f14 k_f15 f15 k_f16 f16 r0 (nI g_8) r2 r3 r4 r5 (nI nr) r7 r8 tz k_j0 (bN 13 g_7) k_j2 j2 k_j3 (bN 120 q_j3) k_j4 (bN 120 q_j4) k_j5 j5 k_j7 (bN 120 q_j7) k_j8 j8 tzc (nI tzn) k_ftz ftz)) (X' := (xtl__w xa xtape (nI tp) rd au xdr hy g (nI hs) tg sg (nI ss) rm ti py bu sm (nI nc) (nI np) (nI ne) (nI st0) q4 q5 q6 q7 q8 q9 q10 q11 q12 q13 q14 q15 q16 k_f4 f4 k_f5 (bN 7 q_f5) k_f6 (bN 7 q_f6) k_f7 f7 k_f8 (bN 4 q_f8) k_f9 (bN 2 q_f9) k_f10 f10 k_f11 f11 k_f12 f12 k_f13 f13 k_f14 f14 k_f15 f15 k_f16 f16 r0 (nI g_8) r2 r3 r4 r5 (nI nr) r7 r8 tz k_j0 (bN 13 g_7) k_j2 j2 k_j3 (bN 120 q_j3) k_j4 (bN 120 q_j4) k_j5 j5 k_j7 (bN 120 q_j7) k_j8 j8 tzc (nI z_tzn_21) k_ftz z_ftz_20)) (wc := (tz__w ti r0 (nI g_8) r2 r3 r4 r5 (nI nr) r7 r8 tz k_j0 (bN 13 g_7) k_j2 j2 k_j3 (bN 120 q_j3) k_j4 (bN 120 q_j4) k_j5 j5 k_j7 (bN 120 q_j7) k_j8 j8 au (nI nc) (nI np) (nI ne) (nI st0) q4 q5 q6 q7 q8 q9 q10 q11 q12 q13 q14 q15 q16 k_f4 f4 k_f5 (bN 7 q_f5) k_f6 (bN 7 q_f6) k_f7 f7 k_f8 (bN 4 q_f8) k_f9 (bN 2 q_f9) k_f10 f10 k_f11 f11 k_f12 f12 k_f13 f13 k_f14 f14 k_f15 f15 k_f16 f16 tzc (nI tzn) k_ftz ftz)) (w1 := (tz__w ti r0 (nI g_8) r2 r3 r4 r5 (nI nr) r7 r8 tz k_j0 (bN 13 g_7) k_j2 j2 k_j3 (bN 120 q_j3) k_j4 (bN 120 q_j4) k_j5 j5 k_j7 (bN 120 q_j7) k_j8 j8 au (nI nc) (nI np) (nI ne) (nI st0) q4 q5 q6 q7 q8 q9 q10 q11 q12 q13 q14 q15 q16 k_f4 f4 k_f5 (bN 7 q_f5) k_f6 (bN 7 q_f6) k_f7 f7 k_f8 (bN 4 q_f8) k_f9 (bN 2 q_f9) k_f10 f10 k_f11 f11 k_f12 f12 k_f13 f13 k_f14 f14 k_f15 f15 k_f16 f16 tzc (nI z_tzn_21) k_ftz z_ftz_20)) hP hD [15, 16, 17, 18, 19, 20, 21, 22, 1, 2, 3, 4, 5, 6, 7, 8, 9, 10, 11, 12, 13, 14, 23, 24] [24, 8, 9, 10, 11, 12, 13, 14, 15, 16, 17, 18, 19, 20, 21, 0, 1, 2, 3, 4, 5, 6, 7, 22, 23] 24 rfl hk1 hP1 rfl rfl rfl (by decide)
      clear hP1 hD1 hFc hPc hDc hKc
      clear hk1 hz1 ht hvm
      generalize H1 = H at hP hS ⊢
      have ir_19 := hw
      have ir_19 : (r_19, z_ftz_20, z_tzn_21) = (sp_E_6_spanOf g_8 g_7 j8 nc st0 f4 q_f5 q_f6 f7 q_f8 q_f9 f12 f13 ftz p5) := Prod.ext ir_19 xr_19_0
      have hsp := hsp.trans (slet_eq ir_19)
      exact W.iret (v := r_19) hx hb hr (fun t ht hW => ⟨⟨r_19, (), rfl, (congrArg Prod.fst (hsp.symm.trans hRR)), ⟨g_7, z_ftz_20, g_8, z_tzn_21, ⟨by rw [ht]; exact hP, va_K.moved hW.alike hK, hD⟩, hg_8, hz_tzn_21, (congrArg Prod.snd (hsp.symm.trans hRR))⟩⟩, hS.F ht⟩) hS.2.2 eX8_tells_171
    · have c_18 : ¬ 5 ≤ g_11 := fun z => c_18 ((nI_leI (a := 5) (b := g_11) (Nat.le_of_ble_eq_true rfl) (Nat.lt_of_le_of_lt hg_11 (Nat.le_of_ble_eq_true rfl))).mpr z)
      have hsp := hsp.trans (if_neg c_18)
      refine lv_iload hx hb eX8_tells_38 (lv_at hl 8 rfl) ?_
      obtain ⟨JR_24, hJR_24, hsp⟩ := slet_ex hsp
      refine pu_join (fun H locs ls st => ∃ (g_22 : Int32), st = [.int g_22] ∧ g_22 = JR_24 ∧ va_P (dC, dI) vwCl (xtl__w xa xtape (nI tp) rd au xdr hy g (nI hs) tg sg (nI ss) rm ti py bu sm (nI nc) (nI np) (nI ne) (nI st0) q4 q5 q6 q7 q8 q9 q10 q11 q12 q13 q14 q15 q16 k_f4 f4 k_f5 (bN 7 q_f5) k_f6 (bN 7 q_f6) k_f7 f7 k_f8 (bN 4 q_f8) k_f9 (bN 2 q_f9) k_f10 f10 k_f11 f11 k_f12 f12 k_f13 f13 k_f14 f14 k_f15 f15 k_f16 f16 r0 (nI g_8) r2 r3 r4 r5 (nI nr) r7 r8 tz k_j0 (bN 13 g_7) k_j2 j2 k_j3 (bN 120 q_j3) k_j4 (bN 120 q_j4) k_j5 j5 k_j7 (bN 120 q_j7) k_j8 j8 tzc (nI tzn) k_ftz ftz) H ∧ va_D A (xtl__w xa xtape (nI tp) rd au xdr hy g (nI hs) tg sg (nI ss) rm ti py bu sm (nI nc) (nI np) (nI ne) (nI st0) q4 q5 q6 q7 q8 q9 q10 q11 q12 q13 q14 q15 q16 k_f4 f4 k_f5 (bN 7 q_f5) k_f6 (bN 7 q_f6) k_f7 f7 k_f8 (bN 4 q_f8) k_f9 (bN 2 q_f9) k_f10 f10 k_f11 f11 k_f12 f12 k_f13 f13 k_f14 f14 k_f15 f15 k_f16 f16 r0 (nI g_8) r2 r3 r4 r5 (nI nr) r7 r8 tz k_j0 (bN 13 g_7) k_j2 j2 k_j3 (bN 120 q_j3) k_j4 (bN 120 q_j4) k_j5 j5 k_j7 (bN 120 q_j7) k_j8 j8 tzc (nI tzn) k_ftz ftz) ∧ va_S A s.heap H locs ∧ lv_has ls 10 [(0, .ref xa), (1, .int g_9), (2, .int p1), (3, .int p2), (4, .int p3), (5, .int p4), (6, .int p5), (7, .int (nI g_10)), (8, .int (nI g_11))]) 80 ?_ (fun j_23 => ?_)
      · rintro H locs ls st ⟨g_22, rfl, he_25, hP, hD, hS, hl⟩
        rw [← he_25] at hsp
        refine lv_istore (lv' := [(9, .int g_22), (0, .ref xa), (1, .int g_9), (2, .int p1), (3, .int p2), (4, .int p3), (5, .int p4), (6, .int p5), (7, .int (nI g_10)), (8, .int (nI g_11))]) hx hb eX8_tells_80 hl (by decide) rfl (fun ls hl => ?_)
        refine lv_iload hx hb eX8_tells_82 (lv_at hl 0 rfl) ?_
        refine lv_iconst (v := (-1)) hx hb eX8_tells_84 (by decide) ?_
        refine lv_icmp_ne (tgt := 91) hx hb eX8_tells_85 (by decide) (fun c_26 => ?_) (fun c_26 => ?_)
        · have hcc_26 := c_26
          have hsp := hsp.trans (if_neg c_26)
          refine lv_aload_n hx hb eX8_tells_91 rfl (lv_at hl 1 rfl) ?_
          refine lv_iload hx hb eX8_tells_92 (lv_at hl 0 rfl) ?_
          have hPc : va_P (dC, dI) vwCl (xo__w xa xtape (nI tp) rd au xdr hy g (nI hs) tg sg (nI ss) rm ti py bu sm (nI nc) (nI np) (nI ne) (nI st0) q4 q5 q6 q7 q8 q9 q10 q11 q12 q13 q14 q15 q16) _ := hP.sub [0, 1] rfl
          have hDc := hD.sub (ws' := (xo__w xa xtape (nI tp) rd au xdr hy g (nI hs) tg sg (nI ss) rm ti py bu sm (nI nc) (nI np) (nI ne) (nI st0) q4 q5 q6 q7 q8 q9 q10 q11 q12 q13 q14 q15 q16)) [0, 1] (by decide) rfl
          have hKc : va_K (dC, dI) vwCl (xo__t ) s := hK.sub [] rfl
          refine va_calli (va_runV (As := [.int g_22]) (rest := []) ⟨hx, hb, hml, hown, hts⟩ (c_E_8_isEdge l dC dI _ xa xtape tp rd au xdr hy g hs tg sg ss rm ti py bu sm nc np ne (nI st0) q4 q5 q6 q7 q8 q9 q10 q11 q12 q13 q14 q15 q16 g_22 htp hhs hss hnc hnp hne (Or.inr ⟨st0, hst0, rfl⟩)) (cwV 1 hts g_E_8_tells_E_8_isEdge rfl rfl rfl (by decide +kernel) ⟨Nat.le_of_ble_eq_true rfl, Nat.le_of_ble_eq_true rfl⟩) ⟨pu_bl, va_recv hK hP (ci := 8) (q0 := 0) rfl rfl, pu_in hPc hKc hDc⟩ rfl rfl hl.1 rfl (lv_room (Nat.le_of_ble_eq_true rfl)) eX8_tells_94 ⟨Nat.le_of_ble_eq_true rfl, Nat.le_of_ble_eq_true rfl⟩) hS (fun q _ h => pu_fr hS hA q h) (pu_fr hS hA) (fun r_27 u t H1 locs ht hvm hw hB hz1 hk1 hS => ?_)
          have hP := pu_keep hP hk1
          clear hk1 hz1 ht hvm
          generalize H1 = H at hP hS ⊢
          rcases hw with ⟨rfl, hw⟩ | ⟨rfl, hn⟩
          · obtain ⟨n_28, hn_28, rfl⟩ := hw
            have hsp := hsp.trans (if_pos (in_q hn_28 (by omega)))
            have hsp := hsp.trans (slet_eq (nI_cl (n := n_28) (by omega)))
            refine lv_if_eq (tgt := 115) hx hb eX8_tells_97 (by decide) (fun z => absurd z (by decide)) (fun _ => ?_)
            refine lv_aload_n hx hb eX8_tells_100 rfl (lv_at hl 1 rfl) ?_
            refine va_get (D := (dC, dI)) (ci := 8) (v := .ref au) (C := RX8) (T := TX8) (N := 16) hx hb hts hiX8 hown hK hP 0 rfl rfl 3 (by decide) v_1 (fun _ h9 => h9) rfl eX8_tells_101 ?_
            refine va_get (D := (dC, dI)) (ci := 0) (v := .ref q5) (C := RX0) (T := TX0) (N := 17) hx hb hts hiX0 hown hK hP 1 rfl rfl 5 (by decide) v_11 (fun _ h9 => h9) rfl eX8_tells_104 ?_
            refine lv_iload hx hb eX8_tells_107 (lv_at hl 0 rfl) ?_
            refine va_iald hx hb hK hP 3 1 rfl rfl (vp_in_nI (n := n_28) (by omega) (Nat.le_of_ble_eq_true rfl)) eX8_tells_109 ?_
            refine lv_topi (fun y_29 ey_29 => ?_)
            obtain ⟨u_30, hu_30, qu_30, xu_30⟩ := bN_getx 7 q_f5 (n := n_28) (by omega)
            obtain rfl : y_29 = nI u_30 := ey_29.trans qu_30
            have hsp := hsp.trans (slet_eq xu_30)
            refine lv_iload hx hb eX8_tells_110 (lv_at hl 8 rfl) ?_
            refine lv_icmp_eq (tgt := 117) hx hb eX8_tells_112 (by decide) (fun c_31 => ?_) (fun c_31 => ?_)
            · have c_31 : u_30 = g_10 := (nI_eq (a := u_30) (b := g_10) (Nat.lt_of_le_of_lt hu_30 (Nat.le_of_ble_eq_true rfl)) (Nat.lt_of_le_of_lt hg_10 (Nat.le_of_ble_eq_true rfl))).mp c_31
              have hsp := hsp.trans (if_pos c_31)
              refine lv_aload_n hx hb eX8_tells_117 rfl (lv_at hl 1 rfl) ?_
              refine va_get (D := (dC, dI)) (ci := 8) (v := .ref ti) (C := RX8) (T := TX8) (N := 16) hx hb hts hiX8 hown hK hP 0 rfl rfl 12 (by decide) v_3 (fun _ h9 => h9) rfl eX8_tells_118 ?_
              refine va_get (D := (dC, dI)) (ci := 6) (v := .ref r0) (C := RX6) (T := TX6) (N := 10) hx hb hts hiX6 hown hK hP 15 rfl rfl 0 (by decide) v_12 (fun _ h9 => h9) rfl eX8_tells_121 ?_
              refine lv_iload hx hb eX8_tells_124 (lv_at hl 9 rfl) ?_
              refine lv_iload hx hb eX8_tells_126 (lv_at hl 0 rfl) ?_
              refine va_iast hx hb hK hP hD hS 16 13 rfl rfl (vp_in_nI (n := g_11) (Nat.lt_of_le_of_lt hg_11 (Nat.le_of_ble_eq_true rfl)) (Nat.le_of_ble_eq_true rfl)) eX8_tells_128 (fun H locs hP hD hS => ?_)
              obtain ⟨q_32, eq_32, kq_32, oq_32, xq_32⟩ := bN_upx 13 g_7 (n := g_11) (v := n_28) (Nat.lt_of_le_of_lt hg_11 (Nat.le_of_ble_eq_true rfl)) (by omega)
              have hP : va_P (dC, dI) vwCl (xtl__w xa xtape (nI tp) rd au xdr hy g (nI hs) tg sg (nI ss) rm ti py bu sm (nI nc) (nI np) (nI ne) (nI st0) q4 q5 q6 q7 q8 q9 q10 q11 q12 q13 q14 q15 q16 k_f4 f4 k_f5 (bN 7 q_f5) k_f6 (bN 7 q_f6) k_f7 f7 k_f8 (bN 4 q_f8) k_f9 (bN 2 q_f9) k_f10 f10 k_f11 f11 k_f12 f12 k_f13 f13 k_f14 f14 k_f15 f15 k_f16 f16 r0 (nI g_8) r2 r3 r4 r5 (nI nr) r7 r8 tz k_j0 (bN 13 q_32) k_j2 j2 k_j3 (bN 120 q_j3) k_j4 (bN 120 q_j4) k_j5 j5 k_j7 (bN 120 q_j7) k_j8 j8 tzc (nI tzn) k_ftz ftz) H := by rw [← eq_32]; exact hP
              have hD : va_D A (xtl__w xa xtape (nI tp) rd au xdr hy g (nI hs) tg sg (nI ss) rm ti py bu sm (nI nc) (nI np) (nI ne) (nI st0) q4 q5 q6 q7 q8 q9 q10 q11 q12 q13 q14 q15 q16 k_f4 f4 k_f5 (bN 7 q_f5) k_f6 (bN 7 q_f6) k_f7 f7 k_f8 (bN 4 q_f8) k_f9 (bN 2 q_f9) k_f10 f10 k_f11 f11 k_f12 f12 k_f13 f13 k_f14 f14 k_f15 f15 k_f16 f16 r0 (nI g_8) r2 r3 r4 r5 (nI nr) r7 r8 tz k_j0 (bN 13 q_32) k_j2 j2 k_j3 (bN 120 q_j3) k_j4 (bN 120 q_j4) k_j5 j5 k_j7 (bN 120 q_j7) k_j8 j8 tzc (nI tzn) k_ftz ftz) := by rw [← eq_32]; exact hD
              have hsp := hsp.trans (slet_eq xq_32)
              refine lv_aload_n hx hb eX8_tells_129 rfl (lv_at hl 1 rfl) ?_
              refine va_get (D := (dC, dI)) (ci := 8) (v := .ref ti) (C := RX8) (T := TX8) (N := 16) hx hb hts hiX8 hown hK hP 0 rfl rfl 12 (by decide) v_3 (fun _ h9 => h9) rfl eX8_tells_130 ?_
              refine lv_iload hx hb eX8_tells_133 (lv_at hl 9 rfl) ?_
              refine lv_iconst (v := 1) hx hb eX8_tells_135 (by decide) ?_
              refine lv_iadd hx hb eX8_tells_136 ?_
              refine lv_topi (fun y_33 ey_33 => ?_)
              obtain rfl : y_33 = (nI (g_11 + 1)) := ey_33.trans (nI_add g_11 1)
              refine va_put (D := (dC, dI)) (ci := 6) (v := .int (nI (g_11 + 1))) (ty := .int) (C := RX6) (T := TX6) (N := 10) hx hb hts hiX6 tyX6 tyX6_ok nmX6 hown hK hP hD hS 15 rfl rfl 1 (by decide) v_4 (fun _ h9 => h9) rfl (by decide +kernel) rfl rfl (Nat.le_of_ble_eq_true rfl) eX8_tells_137 (fun H locs hP hD hS => ?_)
              have hP : va_P (dC, dI) vwCl (xtl__w xa xtape (nI tp) rd au xdr hy g (nI hs) tg sg (nI ss) rm ti py bu sm (nI nc) (nI np) (nI ne) (nI st0) q4 q5 q6 q7 q8 q9 q10 q11 q12 q13 q14 q15 q16 k_f4 f4 k_f5 (bN 7 q_f5) k_f6 (bN 7 q_f6) k_f7 f7 k_f8 (bN 4 q_f8) k_f9 (bN 2 q_f9) k_f10 f10 k_f11 f11 k_f12 f12 k_f13 f13 k_f14 f14 k_f15 f15 k_f16 f16 r0 (nI (g_11 + 1)) r2 r3 r4 r5 (nI nr) r7 r8 tz k_j0 (bN 13 q_32) k_j2 j2 k_j3 (bN 120 q_j3) k_j4 (bN 120 q_j4) k_j5 j5 k_j7 (bN 120 q_j7) k_j8 j8 tzc (nI tzn) k_ftz ftz) H := hP
              have hD : va_D A (xtl__w xa xtape (nI tp) rd au xdr hy g (nI hs) tg sg (nI ss) rm ti py bu sm (nI nc) (nI np) (nI ne) (nI st0) q4 q5 q6 q7 q8 q9 q10 q11 q12 q13 q14 q15 q16 k_f4 f4 k_f5 (bN 7 q_f5) k_f6 (bN 7 q_f6) k_f7 f7 k_f8 (bN 4 q_f8) k_f9 (bN 2 q_f9) k_f10 f10 k_f11 f11 k_f12 f12 k_f13 f13 k_f14 f14 k_f15 f15 k_f16 f16 r0 (nI (g_11 + 1)) r2 r3 r4 r5 (nI nr) r7 r8 tz k_j0 (bN 13 q_32) k_j2 j2 k_j3 (bN 120 q_j3) k_j4 (bN 120 q_j4) k_j5 j5 k_j7 (bN 120 q_j7) k_j8 j8 tzc (nI tzn) k_ftz ftz) := hD
              refine lv_aload_n hx hb eX8_tells_140 rfl (lv_at hl 1 rfl) ?_
              refine va_get (D := (dC, dI)) (ci := 8) (v := .ref au) (C := RX8) (T := TX8) (N := 16) hx hb hts hiX8 hown hK hP 0 rfl rfl 3 (by decide) v_1 (fun _ h9 => h9) rfl eX8_tells_141 ?_
              refine va_get (D := (dC, dI)) (ci := 0) (v := .ref q6) (C := RX0) (T := TX0) (N := 17) hx hb hts hiX0 hown hK hP 1 rfl rfl 6 (by decide) v_13 (fun _ h9 => h9) rfl eX8_tells_144 ?_
              refine lv_iload hx hb eX8_tells_147 (lv_at hl 0 rfl) ?_
              refine va_iald hx hb hK hP 4 2 rfl rfl (vp_in_nI (n := n_28) (by omega) (Nat.le_of_ble_eq_true rfl)) eX8_tells_149 ?_
              refine lv_topi (fun y_34 ey_34 => ?_)
              obtain ⟨u_35, hu_35, qu_35, xu_35⟩ := bN_getx 7 q_f6 (n := n_28) (by omega)
              obtain rfl : y_34 = nI u_35 := ey_34.trans qu_35
              have hsp := hsp.trans (slet_eq xu_35)
              refine lv_istore (lv' := [(7, .int (nI u_35)), (9, .int (nI n_28)), (0, .ref xa), (1, .int g_9), (2, .int p1), (3, .int p2), (4, .int p3), (5, .int p4), (6, .int p5), (8, .int (nI g_11))]) hx hb eX8_tells_150 hl (by decide) rfl (fun ls hl => ?_)
              refine lv_iinc (v := (nI (g_11 + 1))) (lv' := [(8, .int (nI (g_11 + 1))), (7, .int (nI u_35)), (9, .int (nI n_28)), (0, .ref xa), (1, .int g_9), (2, .int p1), (3, .int p2), (4, .int p3), (5, .int p4), (6, .int p5)]) hx hb eX8_tells_152 hl (k := 9) rfl (nI_1 _) (by decide) rfl (fun ls hl => ?_)
              refine lv_goto (tgt := 32) hx hb eX8_tells_155 (by decide) ?_
              exact ih_12 (5 - (g_11 + 1)) (by omega) _ _ _ ⟨q_32, (g_11 + 1), g_9, u_35, (g_11 + 1), rfl, (by omega), hu_35, (by omega), hin_16 _ hsp, hP, hD, hS, lv_sub hl [3, 4, 5, 6, 7, 8, 9, 1, 0] rfl⟩
            · have c_31 : ¬ u_30 = g_10 := fun z => c_31 ((nI_eq (a := u_30) (b := g_10) (Nat.lt_of_le_of_lt hu_30 (Nat.le_of_ble_eq_true rfl)) (Nat.lt_of_le_of_lt hg_10 (Nat.le_of_ble_eq_true rfl))).mpr z)
              have hsp := hsp.trans (if_neg c_31)
              have hsp := hout_17 _ hsp
              refine lv_iconst (v := (-1)) hx hb eX8_tells_115 (by decide) ?_
              exact W.iret (v := (-1)) hx hb hr (fun t ht hW => ⟨⟨(-1), (), rfl, (congrArg Prod.fst (hsp.symm.trans hRR)), ⟨g_7, ftz, g_8, tzn, ⟨by rw [ht]; exact hP, va_K.moved hW.alike hK, hD⟩, hg_8, htzn, (congrArg Prod.snd (hsp.symm.trans hRR))⟩⟩, hS.F ht⟩) hS.2.2 eX8_tells_116
          · have hsp := hsp.trans (if_neg hn)
            refine lv_if_eq (tgt := 115) hx hb eX8_tells_97 (by decide) (fun _ => ?_) (fun z => absurd z (by decide))
            have hsp := hout_17 _ hsp
            refine lv_iconst (v := (-1)) hx hb eX8_tells_115 (by decide) ?_
            exact W.iret (v := (-1)) hx hb hr (fun t ht hW => ⟨⟨(-1), (), rfl, (congrArg Prod.fst (hsp.symm.trans hRR)), ⟨g_7, ftz, g_8, tzn, ⟨by rw [ht]; exact hP, va_K.moved hW.alike hK, hD⟩, hg_8, htzn, (congrArg Prod.snd (hsp.symm.trans hRR))⟩⟩, hS.F ht⟩) hS.2.2 eX8_tells_116
        · have hcc_26 := c_26
          have hsp := hsp.trans (if_pos c_26)
          have hsp := hout_17 _ hsp
          refine lv_goto (tgt := 158) hx hb eX8_tells_88 (by decide) ?_
          refine lv_aload_n hx hb eX8_tells_158 rfl (lv_at hl 1 rfl) ?_
          refine va_get (D := (dC, dI)) (ci := 8) (v := .ref ti) (C := RX8) (T := TX8) (N := 16) hx hb hts hiX8 hown hK hP 0 rfl rfl 12 (by decide) v_3 (fun _ h9 => h9) rfl eX8_tells_159 ?_
          refine lv_aload_n hx hb eX8_tells_162 rfl (lv_at hl 1 rfl) ?_
          refine va_get (D := (dC, dI)) (ci := 8) (v := .ref au) (C := RX8) (T := TX8) (N := 16) hx hb hts hiX8 hown hK hP 0 rfl rfl 3 (by decide) v_1 (fun _ h9 => h9) rfl eX8_tells_163 ?_
          refine lv_iload hx hb eX8_tells_166 (lv_at hl 7 rfl) ?_
          have hPc : va_P (dC, dI) vwCl (tz__w ti r0 (nI g_8) r2 r3 r4 r5 (nI nr) r7 r8 tz k_j0 (bN 13 g_7) k_j2 j2 k_j3 (bN 120 q_j3) k_j4 (bN 120 q_j4) k_j5 j5 k_j7 (bN 120 q_j7) k_j8 j8 au (nI nc) (nI np) (nI ne) (nI st0) q4 q5 q6 q7 q8 q9 q10 q11 q12 q13 q14 q15 q16 k_f4 f4 k_f5 (bN 7 q_f5) k_f6 (bN 7 q_f6) k_f7 f7 k_f8 (bN 4 q_f8) k_f9 (bN 2 q_f9) k_f10 f10 k_f11 f11 k_f12 f12 k_f13 f13 k_f14 f14 k_f15 f15 k_f16 f16 tzc (nI tzn) k_ftz ftz) _ := hP.sub [15, 16, 17, 18, 19, 20, 21, 22, 1, 2, 3, 4, 5, 6, 7, 8, 9, 10, 11, 12, 13, 14, 23, 24] rfl
          have hDc := hD.sub (ws' := (tz__w ti r0 (nI g_8) r2 r3 r4 r5 (nI nr) r7 r8 tz k_j0 (bN 13 g_7) k_j2 j2 k_j3 (bN 120 q_j3) k_j4 (bN 120 q_j4) k_j5 j5 k_j7 (bN 120 q_j7) k_j8 j8 au (nI nc) (nI np) (nI ne) (nI st0) q4 q5 q6 q7 q8 q9 q10 q11 q12 q13 q14 q15 q16 k_f4 f4 k_f5 (bN 7 q_f5) k_f6 (bN 7 q_f6) k_f7 f7 k_f8 (bN 4 q_f8) k_f9 (bN 2 q_f9) k_f10 f10 k_f11 f11 k_f12 f12 k_f13 f13 k_f14 f14 k_f15 f15 k_f16 f16 tzc (nI tzn) k_ftz ftz)) [15, 16, 17, 18, 19, 20, 21, 22, 1, 2, 3, 4, 5, 6, 7, 8, 9, 10, 11, 12, 13, 14, 23, 24] (by decide) rfl
          have hKc : va_K (dC, dI) vwCl (tz__t k_j0 k_j2 k_j3 k_j4 k_j5 k_j7 k_j8 k_f4 k_f5 k_f6 k_f7 k_f8 k_f9 k_f10 k_f11 k_f12 k_f13 k_f14 k_f15 k_f16 k_ftz) s := hK.sub [13, 14, 15, 16, 17, 18, 19, 0, 1, 2, 3, 4, 5, 6, 7, 8, 9, 10, 11, 12, 20] rfl
          have hFc := pu_free hDc hS hA
          refine va_calli (va_runV (As := [.ref au, .int p5]) (rest := []) ⟨hx, hb, hml, hown, hts⟩ (c_E_6_spanOf l dC dI _ ti r0 g_8 r2 r3 r4 r5 nr r7 r8 tz k_j0 g_7 k_j2 j2 k_j3 q_j3 k_j4 q_j4 k_j5 j5 k_j7 q_j7 k_j8 j8 au nc np ne st0 q4 q5 q6 q7 q8 q9 q10 q11 q12 q13 q14 q15 q16 k_f4 f4 k_f5 q_f5 k_f6 q_f6 k_f7 f7 k_f8 q_f8 k_f9 q_f9 k_f10 f10 k_f11 f11 k_f12 f12 k_f13 f13 k_f14 f14 k_f15 f15 k_f16 f16 tzc tzn k_ftz ftz p5 hg_8 hnr hnc hnp hne hst0 htzn) (cwV 2 hts g_E_8_tells_E_6_spanOf rfl rfl rfl (by decide +kernel) ⟨Nat.le_of_ble_eq_true rfl, Nat.le_of_ble_eq_true rfl⟩) ⟨pu_bl, va_recv hK hP (ci := 6) (q0 := 15) rfl rfl, pu_in hPc hKc hDc⟩ rfl rfl hl.1 rfl (lv_room (Nat.le_of_ble_eq_true rfl)) eX8_tells_168 ⟨Nat.le_of_ble_eq_true rfl, Nat.le_of_ble_eq_true rfl⟩) hS (fun q _ h => hFc q h) hFc (fun r_36 u t H1 locs ht hvm hw hB hz1 hk1 hS => ?_)
          obtain ⟨z_ftz_37, z_tzn_38, ⟨hP1, -, hD1⟩, hz_tzn_38, xr_36_0⟩ := hB
          rw [ht] at hP1
          obtain ⟨hP, hD⟩ := pj_a (X := (xtl__w xa xtape (nI tp) rd au xdr hy g (nI hs) tg sg (nI ss) rm ti py bu sm (nI nc) (nI np) (nI ne) (nI st0) q4 q5 q6 q7 q8 q9 q10 q11 q12 q13 q14 q15 q16 k_f4 f4 k_f5 (bN 7 q_f5) k_f6 (bN 7 q_f6) k_f7 f7 k_f8 (bN 4 q_f8) k_f9 (bN 2 q_f9) k_f10 f10 k_f11 f11 k_f12 f12 k_f13 f13 k_f14 f14 k_f15 f15 k_f16 f16 r0 (nI g_8) r2 r3 r4 r5 (nI nr) r7 r8 tz k_j0 (bN 13 g_7) k_j2 j2 k_j3 (bN 120 q_j3) k_j4 (bN 120 q_j4) k_j5 j5 k_j7 (bN 120 q_j7) k_j8 j8 tzc (nI tzn) k_ftz ftz)) (X' := (xtl__w xa xtape (nI tp) rd au xdr hy g (nI hs) tg sg (nI ss) rm ti py bu sm (nI nc) (nI np) (nI ne) (nI st0) q4 q5 q6 q7 q8 q9 q10 q11 q12 q13 q14 q15 q16 k_f4 f4 k_f5 (bN 7 q_f5) k_f6 (bN 7 q_f6) k_f7 f7 k_f8 (bN 4 q_f8) k_f9 (bN 2 q_f9) k_f10 f10 k_f11 f11 k_f12 f12 k_f13 f13 k_f14 f14 k_f15 f15 k_f16 f16 r0 (nI g_8) r2 r3 r4 r5 (nI nr) r7 r8 tz k_j0 (bN 13 g_7) k_j2 j2 k_j3 (bN 120 q_j3) k_j4 (bN 120 q_j4) k_j5 j5 k_j7 (bN 120 q_j7) k_j8 j8 tzc (nI z_tzn_38) k_ftz z_ftz_37)) (wc := (tz__w ti r0 (nI g_8) r2 r3 r4 r5 (nI nr) r7 r8 tz k_j0 (bN 13 g_7) k_j2 j2 k_j3 (bN 120 q_j3) k_j4 (bN 120 q_j4) k_j5 j5 k_j7 (bN 120 q_j7) k_j8 j8 au (nI nc) (nI np) (nI ne) (nI st0) q4 q5 q6 q7 q8 q9 q10 q11 q12 q13 q14 q15 q16 k_f4 f4 k_f5 (bN 7 q_f5) k_f6 (bN 7 q_f6) k_f7 f7 k_f8 (bN 4 q_f8) k_f9 (bN 2 q_f9) k_f10 f10 k_f11 f11 k_f12 f12 k_f13 f13 k_f14 f14 k_f15 f15 k_f16 f16 tzc (nI tzn) k_ftz ftz)) (w1 := (tz__w ti r0 (nI g_8) r2 r3 r4 r5 (nI nr) r7 r8 tz k_j0 (bN 13 g_7) k_j2 j2 k_j3 (bN 120 q_j3) k_j4 (bN 120 q_j4) k_j5 j5 k_j7 (bN 120 q_j7) k_j8 j8 au (nI nc) (nI np) (nI ne) (nI st0) q4 q5 q6 q7 q8 q9 q10 q11 q12 q13 q14 q15 q16 k_f4 f4 k_f5 (bN 7 q_f5) k_f6 (bN 7 q_f6) k_f7 f7 k_f8 (bN 4 q_f8) k_f9 (bN 2 q_f9) k_f10 f10 k_f11 f11 k_f12 f12 k_f13 f13 k_f14 f14 k_f15 f15 k_f16 f16 tzc (nI z_tzn_38) k_ftz z_ftz_37)) hP hD [15, 16, 17, 18, 19, 20, 21, 22, 1, 2, 3, 4, 5, 6, 7, 8, 9, 10, 11, 12, 13, 14, 23, 24] [24, 8, 9, 10, 11, 12, 13, 14, 15, 16, 17, 18, 19, 20, 21, 0, 1, 2, 3, 4, 5, 6, 7, 22, 23] 24 rfl hk1 hP1 rfl rfl rfl (by decide)
          clear hP1 hD1 hFc hPc hDc hKc
          clear hk1 hz1 ht hvm
          generalize H1 = H at hP hS ⊢
          have ir_36 := hw
          have ir_36 : (r_36, z_ftz_37, z_tzn_38) = (sp_E_6_spanOf g_8 g_7 j8 nc st0 f4 q_f5 q_f6 f7 q_f8 q_f9 f12 f13 ftz p5) := Prod.ext ir_36 xr_36_0
          have hsp := hsp.trans (slet_eq ir_36)
          exact W.iret (v := r_36) hx hb hr (fun t ht hW => ⟨⟨r_36, (), rfl, (congrArg Prod.fst (hsp.symm.trans hRR)), ⟨g_7, z_ftz_37, g_8, z_tzn_38, ⟨by rw [ht]; exact hP, va_K.moved hW.alike hK, hD⟩, hg_8, hz_tzn_38, (congrArg Prod.snd (hsp.symm.trans hRR))⟩⟩, hS.F ht⟩) hS.2.2 eX8_tells_171
      have hsp := hJR_24
      refine lv_if_ne (tgt := 47) hx hb eX8_tells_40 (by decide) (fun c_39 => ?_) (fun c_39 => ?_)
      · have c_39 : ¬ g_11 = 0 := fun z => c_39 ((nI_eq (a := g_11) (b := 0) (Nat.lt_of_le_of_lt hg_11 (Nat.le_of_ble_eq_true rfl)) (Nat.le_of_ble_eq_true rfl)).mpr z)
        have hsp := hsp.trans (if_neg c_39)
        refine lv_iload hx hb eX8_tells_47 (lv_at hl 8 rfl) ?_
        refine lv_iconst (v := 1) hx hb eX8_tells_49 (by decide) ?_
        refine lv_icmp_ne (tgt := 57) hx hb eX8_tells_50 (by decide) (fun c_40 => ?_) (fun c_40 => ?_)
        · have c_40 : ¬ g_11 = 1 := fun z => c_40 ((nI_eq (a := g_11) (b := 1) (Nat.lt_of_le_of_lt hg_11 (Nat.le_of_ble_eq_true rfl)) (Nat.le_of_ble_eq_true rfl)).mpr z)
          have hsp := hsp.trans (if_neg c_40)
          refine lv_iload hx hb eX8_tells_57 (lv_at hl 8 rfl) ?_
          refine lv_iconst (v := 2) hx hb eX8_tells_59 (by decide) ?_
          refine lv_icmp_ne (tgt := 67) hx hb eX8_tells_60 (by decide) (fun c_41 => ?_) (fun c_41 => ?_)
          · have c_41 : ¬ g_11 = 2 := fun z => c_41 ((nI_eq (a := g_11) (b := 2) (Nat.lt_of_le_of_lt hg_11 (Nat.le_of_ble_eq_true rfl)) (Nat.le_of_ble_eq_true rfl)).mpr z)
            have hsp := hsp.trans (if_neg c_41)
            refine lv_iload hx hb eX8_tells_67 (lv_at hl 8 rfl) ?_
            refine lv_iconst (v := 3) hx hb eX8_tells_69 (by decide) ?_
            refine lv_icmp_ne (tgt := 78) hx hb eX8_tells_70 (by decide) (fun c_42 => ?_) (fun c_42 => ?_)
            · have c_42 : ¬ g_11 = 3 := fun z => c_42 ((nI_eq (a := g_11) (b := 3) (Nat.lt_of_le_of_lt hg_11 (Nat.le_of_ble_eq_true rfl)) (Nat.le_of_ble_eq_true rfl)).mpr z)
              have hsp := hsp.trans (if_neg c_42)
              refine lv_iload hx hb eX8_tells_78 (lv_at hl 5 rfl) ?_
              exact j_23 _ _ _ _ ⟨p4, rfl, hsp.symm, hP, hD, hS, lv_sub hl [0, 1, 2, 3, 4, 5, 6, 7, 8] rfl⟩
            · have c_42 : g_11 = 3 := (nI_eq (a := g_11) (b := 3) (Nat.lt_of_le_of_lt hg_11 (Nat.le_of_ble_eq_true rfl)) (Nat.le_of_ble_eq_true rfl)).mp c_42
              have hsp := hsp.trans (if_pos c_42)
              refine lv_iload hx hb eX8_tells_73 (lv_at hl 4 rfl) ?_
              refine lv_goto (tgt := 80) hx hb eX8_tells_75 (by decide) ?_
              exact j_23 _ _ _ _ ⟨p3, rfl, hsp.symm, hP, hD, hS, lv_sub hl [0, 1, 2, 3, 4, 5, 6, 7, 8] rfl⟩
          · have c_41 : g_11 = 2 := (nI_eq (a := g_11) (b := 2) (Nat.lt_of_le_of_lt hg_11 (Nat.le_of_ble_eq_true rfl)) (Nat.le_of_ble_eq_true rfl)).mp c_41
            have hsp := hsp.trans (if_pos c_41)
            refine lv_iload_n hx hb eX8_tells_63 rfl (lv_at hl 3 rfl) ?_
            refine lv_goto (tgt := 80) hx hb eX8_tells_64 (by decide) ?_
            exact j_23 _ _ _ _ ⟨p2, rfl, hsp.symm, hP, hD, hS, lv_sub hl [0, 1, 2, 3, 4, 5, 6, 7, 8] rfl⟩
        · have c_40 : g_11 = 1 := (nI_eq (a := g_11) (b := 1) (Nat.lt_of_le_of_lt hg_11 (Nat.le_of_ble_eq_true rfl)) (Nat.le_of_ble_eq_true rfl)).mp c_40
          have hsp := hsp.trans (if_pos c_40)
          refine lv_iload_n hx hb eX8_tells_53 rfl (lv_at hl 2 rfl) ?_
          refine lv_goto (tgt := 80) hx hb eX8_tells_54 (by decide) ?_
          exact j_23 _ _ _ _ ⟨p1, rfl, hsp.symm, hP, hD, hS, lv_sub hl [0, 1, 2, 3, 4, 5, 6, 7, 8] rfl⟩
      · have c_39 : g_11 = 0 := (nI_eq (a := g_11) (b := 0) (Nat.lt_of_le_of_lt hg_11 (Nat.le_of_ble_eq_true rfl)) (Nat.le_of_ble_eq_true rfl)).mp c_39
        have hsp := hsp.trans (if_pos c_39)
        refine lv_iload_n hx hb eX8_tells_43 rfl (lv_at hl 1 rfl) ?_
        refine lv_goto (tgt := 80) hx hb eX8_tells_44 (by decide) ?_
        exact j_23 _ _ _ _ ⟨g_9, rfl, hsp.symm, hP, hD, hS, lv_sub hl [0, 1, 2, 3, 4, 5, 6, 7, 8] rfl⟩
  · have c_1 : np = 0 := (nI_eq (a := np) (b := 0) (Nat.lt_of_le_of_lt hnp (Nat.le_of_ble_eq_true rfl)) (Nat.le_of_ble_eq_true rfl)).mp c_1
    have hsp := hsp.trans (if_pos c_1)
    refine lv_iconst (v := (-1)) hx hb eX8_tells_10 (by decide) ?_
    exact W.iret (v := (-1)) hx hb hr (fun t ht hW => ⟨⟨(-1), (), rfl, (congrArg Prod.fst (hsp.symm.trans hRR)), ⟨q_j0, ftz, ln, tzn, ⟨by rw [ht]; exact hP, va_K.moved hW.alike hK, hD⟩, hln, htzn, (congrArg Prod.snd (hsp.symm.trans hRR))⟩⟩, hS.F ht⟩) hS.2.2 eX8_tells_11
