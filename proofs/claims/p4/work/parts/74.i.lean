theorem eX8_soonest_0 : decode cX8_soonest 0 = .ok (.aload_n 0, 1) := by decide +kernel
theorem eX8_soonest_1 : decode cX8_soonest 1 = .ok (.iload_n 1, 1) := by decide +kernel
theorem eX8_soonest_2 : decode cX8_soonest 2 = .ok (.invokevirtual 140, 3) := by decide +kernel
theorem eX8_soonest_5 : decode cX8_soonest 5 = .ok (.ifCond .eq 12, 3) := by decide +kernel
theorem eX8_soonest_17 : decode cX8_soonest 17 = .ok (.iconst (-1), 1) := by decide +kernel
theorem eX8_soonest_18 : decode cX8_soonest 18 = .ok (.ireturn, 1) := by decide +kernel
abbrev vs_C_8_soonest_0 : List Cond := .code yX8_soonest cX8_soonest 4 (some .int) :: CM
theorem g_C_8_soonest_0_C_8_isPlace : GoodIn vs_C_8_soonest_0 (wsV RX8 140 RX8 yX8_isPlace vs_C_8_isPlace) := cm_gV cm_471 cm_472 cm_473 cm_427 cm_474
set_option maxHeartbeats 4000000 in
set_option maxRecDepth 100000 in
theorem c_C_8_soonest_0 (l : Launch) (dC : Nat → ClassId) (dI : Nat → Nat → Nat) (sz : Nat) (xa : Nat) (xtape : Nat) (tp : Nat) (rd : Nat) (au : Nat) (xdr : Nat) (hy : Nat) (g : Nat) (tg : Nat) (sg : Nat) (rm : Nat) (ti : Nat) (py : Nat) (bu : Nat) (sm : Nat) (nc : Nat) (ne : Nat) (st0 : Int32) (q4 : Nat) (q5 : Nat) (q6 : Nat) (q7 : Nat) (q8 : Nat) (q9 : Nat) (q10 : Nat) (q11 : Nat) (q12 : Nat) (q13 : Nat) (q14 : Nat) (q15 : Nat) (q16 : Nat) (k_f4 : ClassId) (f4 : Nat → Int32) (k_f5 : ClassId) (q_f5 : Nat → Nat) (k_f6 : ClassId) (q_f6 : Nat → Nat) (k_f7 : ClassId) (f7 : Nat → Int32) (k_f8 : ClassId) (q_f8 : Nat → Nat) (k_f9 : ClassId) (q_f9 : Nat → Nat) (k_f10 : ClassId) (f10 : Nat → Int32) (k_f11 : ClassId) (f11 : Nat → Int32) (k_f12 : ClassId) (f12 : Nat → Int32) (k_f13 : ClassId) (f13 : Nat → Int32) (k_f14 : ClassId) (f14 : Nat → Int32) (k_f15 : ClassId) (f15 : Nat → Int32) (k_f16 : ClassId) (f16 : Nat → Int32) (uz : Nat) (u1 : Nat) (u2 : Nat) (u3 : Nat) (u4 : Nat) (u5 : Nat) (uc : Nat) (ufull : Nat) (ux : Int32) (uway : Int32) (uav : Int32) (ugoal : Int32) (ufound : Nat) (ul : Nat) (usz : Nat) (u16 : Nat) (u17 : Nat) (k_fuz : ClassId) (k_s1u : ClassId) (q_s1u : Nat → Nat) (k_s2u : ClassId) (s2u : Nat → Int32) (k_s3u : ClassId) (s3u : Nat → Int32) (k_s4u : ClassId) (s4u : Nat → Int32) (k_s5u : ClassId) (s5u : Nat → Int32) (k_hiu : ClassId) (hiu : Nat → Int32) (k_lou : ClassId) (lou : Nat → Int32) (k_fbu : ClassId) (fbu : Nat → Int32) (N : Nat) (o : Nat) (az ac : Nat → Nat) (kz : Nat → ClassId) (qs : Nat → Nat) (fz : Nat → Nat → Int32) (p0 : Int32) (p1 : Int32) (htp : tp ≤ 900) (hnc : nc ≤ 3) (hne : ne ≤ 14) (hst0 : pm1 7 st0) (huc : uc ≤ 400) (hufull : ufull ≤ 1) (hufound : ufound ≤ 1) (hul : ul ≤ 1) (husz : usz ≤ 5) (hN : o + 401 ≤ N) : Met l yX8_soonest vs_C_8_soonest_0 ({ frames := 1, cells := 0, slots := 0, locals := 21 }) (va_Pc [.ref xa, .int p0, .int p1] (pu_B (dC, dI) ((xso__w xa xtape (nI tp) rd au xdr hy g 0 tg sg 0 rm ti py bu sm (nI nc) 0 (nI ne) st0 q4 q5 q6 q7 q8 q9 q10 q11 q12 q13 q14 q15 q16 k_f4 f4 k_f5 (bN 7 q_f5) k_f6 (bN 7 q_f6) k_f7 f7 k_f8 (bN 4 q_f8) k_f9 (bN 2 q_f9) k_f10 f10 k_f11 f11 k_f12 f12 k_f13 f13 k_f14 f14 k_f15 f15 k_f16 f16 uz u1 u2 u3 u4 u5 (nI uc) (nI ufull) ux uway uav ugoal (nI ufound) 400 (nI ul) (nI usz) u16 u17 k_fuz (zs o 401 az) k_s1u (bN 7 q_s1u) k_s2u s2u k_s3u s3u k_s4u s4u k_s5u s5u k_hiu hiu k_lou lou k_fbu fbu) ++ zp 5 25 N az ac kz qs fz) ((xso__t k_f4 k_f5 k_f6 k_f7 k_f8 k_f9 k_f10 k_f11 k_f12 k_f13 k_f14 k_f15 k_f16 k_fuz k_s1u k_s2u k_s3u k_s4u k_s5u k_hiu k_lou k_fbu) ++ zt N kz) sz)) (va_Qi (fun (r : Int32) (_ : Unit) => True) (fun _ _ => True) (va_A [] sz)) 0 0 (va_A [] sz) := by
  refine Met.ofW (cc := cX8_soonest) (maxL := 4) (ret := (some .int)) (by decide) rfl ?_
  intro p e s m args below meth c s₁ B hml hv
  obtain ⟨rfl, rfl, hP, hK, hD0⟩ := hv
  have hx := B.exec
  have hb := B.bytes
  have hr := B.returns
  have hts := atoms_spec (ws := vs_C_8_soonest_0) B.pre
  have hown : s.vm.findClass RX8 = some m.cls := findClass_of_methodNamed B.named
  have hlocks := B.notSynchronized
  have hD := hD0
  have hA : ∀ q : Nat, s.heap.size ≤ q → va_A [] s.heap.size q := fun _ h => Or.inr h
  have hS : va_S (va_A [] s.heap.size) s.heap s.heap [] := va_S.rf
  have hl := lv_entry ([.ref xa, .int p0, .int p1]) (n := 4) (Nat.le_of_ble_eq_true rfl)
  rw [lg_entry_eq]
  generalize (lg_sl ([.ref xa, .int p0, .int p1]) ++ List.replicate (4 - (lg_sl ([.ref xa, .int p0, .int p1])).length) Slot.unset).toArray = ls at hl ⊢
  have hl : lv_has ls 4 [(0, .ref xa), (1, .int p0), (2, .int p1)] := hl
  refine lv_aload_n hx hb eX8_soonest_0 rfl (lv_at hl 0 rfl) ?_
  refine lv_iload_n hx hb eX8_soonest_1 rfl (lv_at hl 1 rfl) ?_
  have hPc : va_P (dC, dI) vwCl [(xa, .inr (8, [.ref xtape, .int (nI tp), .ref rd, .ref au, .ref xdr, .ref hy, .ref g, .int 0, .ref tg, .ref sg, .int 0, .ref rm, .ref ti, .ref py, .ref bu, .ref sm])), (au, .inr (0, [.int (nI nc), .int 0, .int (nI ne), .int st0, .ref q4, .ref q5, .ref q6, .ref q7, .ref q8, .ref q9, .ref q10, .ref q11, .ref q12, .ref q13, .ref q14, .ref q15, .ref q16]))] _ := hP.sub [0, 1] rfl
  have hDc : va_D (fun _ => True) [(xa, .inr (8, [.ref xtape, .int (nI tp), .ref rd, .ref au, .ref xdr, .ref hy, .ref g, .int 0, .ref tg, .ref sg, .int 0, .ref rm, .ref ti, .ref py, .ref bu, .ref sm])), (au, .inr (0, [.int (nI nc), .int 0, .int (nI ne), .int st0, .ref q4, .ref q5, .ref q6, .ref q7, .ref q8, .ref q9, .ref q10, .ref q11, .ref q12, .ref q13, .ref q14, .ref q15, .ref q16]))] := (zp_left hD).sub [0, 1] (by decide) rfl
  have hKc : va_K (dC, dI) vwCl [] s := hK.sub [] rfl
  refine va_calli (va_runV (As := [.int p0]) (rest := []) ⟨hx, hb, hml, hown, hts⟩ (c_C_8_isPlace l dC dI _ xa xtape tp rd au xdr hy g 0 tg sg 0 rm ti py bu sm nc 0 ne st0 q4 q5 q6 q7 q8 q9 q10 q11 q12 q13 q14 q15 q16 p0 htp (Nat.le_of_ble_eq_true rfl) (Nat.le_of_ble_eq_true rfl) hnc (Nat.le_of_ble_eq_true rfl) hne (hst0)) (cwV 1 hts g_C_8_soonest_0_C_8_isPlace rfl rfl rfl (by decide +kernel) ⟨Nat.le_of_ble_eq_true rfl, Nat.le_of_ble_eq_true rfl⟩) ⟨pu_bl, va_recv hK hP (ci := 8) (q0 := 0) rfl rfl, pu_in hPc hKc hDc⟩ rfl rfl hl.1 rfl (lv_room (Nat.le_of_ble_eq_true rfl)) eX8_soonest_2 ⟨Nat.le_of_ble_eq_true rfl, Nat.le_of_ble_eq_true rfl⟩) hS (fun q _ h => pu_fr hS hA q h) (pu_fr hS hA) (fun r_1 u t H1 locs ht hvm hw hB hz1 hk1 hS => ?_)
  have hP := pu_keep hP hk1
  clear hPc hDc hKc
  clear hk1 hz1 ht hvm
  generalize H1 = H at hP hS ⊢
  rcases hw with ⟨rfl, hw⟩ | rfl
  · obtain ⟨n_2, hn_2, -⟩ := hw
    exact absurd hn_2 (Nat.not_lt_zero _)
  · refine lv_if_eq (tgt := 17) hx hb eX8_soonest_5 (by decide) (fun _ => ?_) (fun z => absurd z (by decide))
    refine lv_iconst (v := (-1)) hx hb eX8_soonest_17 (by decide) ?_
    exact W.iret (v := (-1)) hx hb hr (fun t ht hW => ⟨⟨(-1), (), rfl, trivial, trivial⟩, hS.F ht⟩) hS.2.2 eX8_soonest_18
theorem eX8_soonest_8 : decode cX8_soonest 8 = .ok (.iload_n 2, 1) := by decide +kernel
theorem eX8_soonest_9 : decode cX8_soonest 9 = .ok (.ifCond .lt 8, 3) := by decide +kernel
theorem eX8_soonest_12 : decode cX8_soonest 12 = .ok (.iload_n 2, 1) := by decide +kernel
theorem eX8_soonest_13 : decode cX8_soonest 13 = .ok (.iconst 1, 1) := by decide +kernel
theorem eX8_soonest_14 : decode cX8_soonest 14 = .ok (.if_icmp .le 5, 3) := by decide +kernel
theorem eX8_soonest_19 : decode cX8_soonest 19 = .ok (.aload_n 0, 1) := by decide +kernel
theorem eX8_soonest_20 : decode cX8_soonest 20 = .ok (.getfield 104, 3) := by decide +kernel
theorem eX8_soonest_23 : decode cX8_soonest 23 = .ok (.ifCond .ne 49, 3) := by decide +kernel
theorem eX8_soonest_26 : decode cX8_soonest 26 = .ok (.aload_n 0, 1) := by decide +kernel
theorem eX8_soonest_27 : decode cX8_soonest 27 = .ok (.getfield 49, 3) := by decide +kernel
theorem eX8_soonest_30 : decode cX8_soonest 30 = .ok (.aload_n 0, 1) := by decide +kernel
theorem eX8_soonest_31 : decode cX8_soonest 31 = .ok (.getfield 23, 3) := by decide +kernel
theorem eX8_soonest_34 : decode cX8_soonest 34 = .ok (.iconst 2, 1) := by decide +kernel
theorem eX8_soonest_35 : decode cX8_soonest 35 = .ok (.iconst 1, 1) := by decide +kernel
theorem eX8_soonest_36 : decode cX8_soonest 36 = .ok (.aload_n 0, 1) := by decide +kernel
theorem eX8_soonest_37 : decode cX8_soonest 37 = .ok (.getfield 23, 3) := by decide +kernel
theorem eX8_soonest_40 : decode cX8_soonest 40 = .ok (.getfield 116, 3) := by decide +kernel
theorem eX8_soonest_43 : decode cX8_soonest 43 = .ok (.iconst 2, 1) := by decide +kernel
theorem eX8_soonest_44 : decode cX8_soonest 44 = .ok (.iadd, 1) := by decide +kernel
theorem eX8_soonest_45 : decode cX8_soonest 45 = .ok (.invokevirtual 212, 3) := by decide +kernel
theorem eX8_soonest_48 : decode cX8_soonest 48 = .ok (.aload_n 0, 1) := by decide +kernel
theorem eX8_soonest_49 : decode cX8_soonest 49 = .ok (.aload_n 0, 1) := by decide +kernel
theorem eX8_soonest_50 : decode cX8_soonest 50 = .ok (.getfield 49, 3) := by decide +kernel
theorem eX8_soonest_53 : decode cX8_soonest 53 = .ok (.invokevirtual 216, 3) := by decide +kernel
theorem eX8_soonest_56 : decode cX8_soonest 56 = .ok (.aload_n 0, 1) := by decide +kernel
theorem eX8_soonest_57 : decode cX8_soonest 57 = .ok (.getfield 49, 3) := by decide +kernel
theorem eX8_soonest_60 : decode cX8_soonest 60 = .ok (.aload_n 0, 1) := by decide +kernel
theorem eX8_soonest_61 : decode cX8_soonest 61 = .ok (.getfield 23, 3) := by decide +kernel
theorem eX8_soonest_64 : decode cX8_soonest 64 = .ok (.invokevirtual 220, 3) := by decide +kernel
theorem eX8_soonest_67 : decode cX8_soonest 67 = .ok (.aload_n 0, 1) := by decide +kernel
theorem eX8_soonest_68 : decode cX8_soonest 68 = .ok (.iconst 1, 1) := by decide +kernel
theorem eX8_soonest_69 : decode cX8_soonest 69 = .ok (.putfield 104, 3) := by decide +kernel
theorem eX8_soonest_72 : decode cX8_soonest 72 = .ok (.aload_n 0, 1) := by decide +kernel
theorem eX8_soonest_73 : decode cX8_soonest 73 = .ok (.getfield 49, 3) := by decide +kernel
theorem eX8_soonest_76 : decode cX8_soonest 76 = .ok (.getfield 130, 3) := by decide +kernel
theorem eX8_soonest_79 : decode cX8_soonest 79 = .ok (.ifCond .eq 6, 3) := by decide +kernel
theorem eX8_soonest_82 : decode cX8_soonest 82 = .ok (.bipush (-2), 2) := by decide +kernel
theorem eX8_soonest_84 : decode cX8_soonest 84 = .ok (.ireturn, 1) := by decide +kernel
theorem eX8_soonest_85 : decode cX8_soonest 85 = .ok (.aload_n 0, 1) := by decide +kernel
theorem eX8_soonest_86 : decode cX8_soonest 86 = .ok (.getfield 49, 3) := by decide +kernel
theorem eX8_soonest_89 : decode cX8_soonest 89 = .ok (.iload_n 1, 1) := by decide +kernel
theorem eX8_soonest_90 : decode cX8_soonest 90 = .ok (.iconst 0, 1) := by decide +kernel
theorem eX8_soonest_91 : decode cX8_soonest 91 = .ok (.aload_n 0, 1) := by decide +kernel
theorem eX8_soonest_92 : decode cX8_soonest 92 = .ok (.getfield 23, 3) := by decide +kernel
theorem eX8_soonest_95 : decode cX8_soonest 95 = .ok (.getfield 116, 3) := by decide +kernel
theorem eX8_soonest_98 : decode cX8_soonest 98 = .ok (.iconst 1, 1) := by decide +kernel
theorem eX8_soonest_99 : decode cX8_soonest 99 = .ok (.iadd, 1) := by decide +kernel
theorem eX8_soonest_100 : decode cX8_soonest 100 = .ok (.invokevirtual 357, 3) := by decide +kernel
theorem eX8_soonest_103 : decode cX8_soonest 103 = .ok (.istore_n 3, 1) := by decide +kernel
theorem eX8_soonest_104 : decode cX8_soonest 104 = .ok (.iload_n 3, 1) := by decide +kernel
theorem eX8_soonest_105 : decode cX8_soonest 105 = .ok (.bipush (-120), 2) := by decide +kernel
theorem eX8_soonest_107 : decode cX8_soonest 107 = .ok (.if_icmp .gt 5, 3) := by decide +kernel
theorem eX8_soonest_110 : decode cX8_soonest 110 = .ok (.iconst (-1), 1) := by decide +kernel
theorem eX8_soonest_111 : decode cX8_soonest 111 = .ok (.ireturn, 1) := by decide +kernel
theorem eX8_soonest_112 : decode cX8_soonest 112 = .ok (.iload_n 2, 1) := by decide +kernel
theorem eX8_soonest_113 : decode cX8_soonest 113 = .ok (.ifCond .ne 10, 3) := by decide +kernel
theorem eX8_soonest_116 : decode cX8_soonest 116 = .ok (.iload_n 3, 1) := by decide +kernel
theorem eX8_soonest_117 : decode cX8_soonest 117 = .ok (.iconst 1, 1) := by decide +kernel
theorem eX8_soonest_118 : decode cX8_soonest 118 = .ok (.ishr, 1) := by decide +kernel
theorem eX8_soonest_119 : decode cX8_soonest 119 = .ok (.ineg, 1) := by decide +kernel
theorem eX8_soonest_120 : decode cX8_soonest 120 = .ok (.goto 6, 3) := by decide +kernel
theorem eX8_soonest_123 : decode cX8_soonest 123 = .ok (.iload_n 3, 1) := by decide +kernel
theorem eX8_soonest_124 : decode cX8_soonest 124 = .ok (.iconst 1, 1) := by decide +kernel
theorem eX8_soonest_125 : decode cX8_soonest 125 = .ok (.iand, 1) := by decide +kernel
theorem eX8_soonest_126 : decode cX8_soonest 126 = .ok (.ireturn, 1) := by decide +kernel
abbrev vs_C_8_soonest : List Cond := .code yX8_soonest cX8_soonest 4 (some .int) :: CM
theorem g_C_8_soonest_C_8_isPlace : GoodIn vs_C_8_soonest (wsV RX8 140 RX8 yX8_isPlace vs_C_8_isPlace) := cm_gV cm_471 cm_472 cm_473 cm_427 cm_474
theorem g_C_8_soonest_C_1_loosestAt_25 : GoodIn vs_C_8_soonest (wsV RX8 357 RX1 yX1_loosestAt vs_C_1_loosestAt_25) := cm_gV cm_637 cm_638 cm_639 cm_113 cm_153
theorem g_C_8_soonest_C_1_plan_25 : GoodIn vs_C_8_soonest (wsV RX8 212 RX1 yX1_plan vs_C_1_plan_25) := cm_gV cm_516 cm_517 cm_518 cm_113 cm_75
theorem g_C_8_soonest_C_8_beginAtZero_25 : GoodIn vs_C_8_soonest (wsV RX8 216 RX8 yX8_beginAtZero vs_C_8_beginAtZero_25) := cm_gV cm_519 cm_520 cm_521 cm_427 cm_522
theorem g_C_8_soonest_C_1_grow_25 : GoodIn vs_C_8_soonest (wsV RX8 220 RX1 yX1_grow vs_C_1_grow_25) := cm_gV cm_527 cm_528 cm_529 cm_113 cm_120
set_option maxHeartbeats 4000000 in
set_option maxRecDepth 100000 in
theorem c_C_8_soonest (l : Launch) (dC : Nat → ClassId) (dI : Nat → Nat → Nat) (sz : Nat) (xa : Nat) (xtape : Nat) (tp : Nat) (rd : Nat) (au : Nat) (xdr : Nat) (hy : Nat) (g : Nat) (hs : Nat) (tg : Nat) (sg : Nat) (ss : Nat) (rm : Nat) (ti : Nat) (py : Nat) (bu : Nat) (sm : Nat) (nc : Nat) (np : Nat) (ne : Nat) (st0 : Nat) (q4 : Nat) (q5 : Nat) (q6 : Nat) (q7 : Nat) (q8 : Nat) (q9 : Nat) (q10 : Nat) (q11 : Nat) (q12 : Nat) (q13 : Nat) (q14 : Nat) (q15 : Nat) (q16 : Nat) (k_f4 : ClassId) (f4 : Nat → Int32) (k_f5 : ClassId) (q_f5 : Nat → Nat) (k_f6 : ClassId) (q_f6 : Nat → Nat) (k_f7 : ClassId) (f7 : Nat → Int32) (k_f8 : ClassId) (q_f8 : Nat → Nat) (k_f9 : ClassId) (q_f9 : Nat → Nat) (k_f10 : ClassId) (f10 : Nat → Int32) (k_f11 : ClassId) (f11 : Nat → Int32) (k_f12 : ClassId) (f12 : Nat → Int32) (k_f13 : ClassId) (f13 : Nat → Int32) (k_f14 : ClassId) (f14 : Nat → Int32) (k_f15 : ClassId) (f15 : Nat → Int32) (k_f16 : ClassId) (f16 : Nat → Int32) (uz : Nat) (u1 : Nat) (u2 : Nat) (u3 : Nat) (u4 : Nat) (u5 : Nat) (uc : Nat) (ufull : Nat) (ux : Int32) (uway : Int32) (uav : Int32) (ugoal : Int32) (ufound : Nat) (ul : Nat) (usz : Nat) (u16 : Nat) (u17 : Nat) (k_fuz : ClassId) (k_s1u : ClassId) (q_s1u : Nat → Nat) (k_s2u : ClassId) (s2u : Nat → Int32) (k_s3u : ClassId) (s3u : Nat → Int32) (k_s4u : ClassId) (s4u : Nat → Int32) (k_s5u : ClassId) (s5u : Nat → Int32) (k_hiu : ClassId) (hiu : Nat → Int32) (k_lou : ClassId) (lou : Nat → Int32) (k_fbu : ClassId) (fbu : Nat → Int32) (N : Nat) (o : Nat) (az ac : Nat → Nat) (kz : Nat → ClassId) (qs : Nat → Nat) (fz : Nat → Nat → Int32) (p0 : Int32) (p1 : Int32) (htp : tp ≤ 900) (hhs : hs ≤ 1) (hss : ss ≤ 1) (hnc : nc ≤ 3) (hnp : np ≤ 8) (hne : ne ≤ 14) (hst0 : st0 ≤ 7) (huc : uc ≤ 400) (hufull : ufull ≤ 1) (hufound : ufound ≤ 1) (hul : ul ≤ 1) (husz : usz ≤ 5) (hN : o + 401 ≤ N) (hq0 : gz_ok uc s2u s3u s4u) : Met l yX8_soonest vs_C_8_soonest ({ frames := 5, cells := 0, slots := 0, locals := 125 }) (va_Pc [.ref xa, .int p0, .int p1] (pu_B (dC, dI) ((xso__w xa xtape (nI tp) rd au xdr hy g (nI hs) tg sg (nI ss) rm ti py bu sm (nI nc) (nI np) (nI ne) (nI st0) q4 q5 q6 q7 q8 q9 q10 q11 q12 q13 q14 q15 q16 k_f4 f4 k_f5 (bN 7 q_f5) k_f6 (bN 7 q_f6) k_f7 f7 k_f8 (bN 4 q_f8) k_f9 (bN 2 q_f9) k_f10 f10 k_f11 f11 k_f12 f12 k_f13 f13 k_f14 f14 k_f15 f15 k_f16 f16 uz u1 u2 u3 u4 u5 (nI uc) (nI ufull) ux uway uav ugoal (nI ufound) 400 (nI ul) (nI usz) u16 u17 k_fuz (zs o 401 az) k_s1u (bN 7 q_s1u) k_s2u s2u k_s3u s3u k_s4u s4u k_s5u s5u k_hiu hiu k_lou lou k_fbu fbu) ++ zp 5 25 N az ac kz qs fz) ((xso__t k_f4 k_f5 k_f6 k_f7 k_f8 k_f9 k_f10 k_f11 k_f12 k_f13 k_f14 k_f15 k_f16 k_fuz k_s1u k_s2u k_s3u k_s4u k_s5u k_hiu k_lou k_fbu) ++ zt N kz) sz)) (va_Qi (fun (r : Int32) (_ : Unit) => True) (fun _ t => ∃ (z_s1u : Nat → Nat) (z_s2u : Nat → Int32) (z_s3u : Nat → Int32) (z_s4u : Nat → Int32) (z_s5u : Nat → Int32) (z_hiu : Nat → Int32) (z_lou : Nat → Int32) (z_fbu : Nat → Int32) (z_ss : Nat) (z_uav : Int32) (z_ugoal : Int32) (z_ufound : Nat) (z_ul : Nat) (z_usz : Nat) (z_uc : Nat) (z_ufull : Nat) (z_ux : Int32) (z_uway : Int32) (z_fz : Nat → Nat → Int32) (z_qs : Nat → Nat), pu_E (dC, dI) ((xso__w xa xtape (nI tp) rd au xdr hy g (nI hs) tg sg (nI z_ss) rm ti py bu sm (nI nc) (nI np) (nI ne) (nI st0) q4 q5 q6 q7 q8 q9 q10 q11 q12 q13 q14 q15 q16 k_f4 f4 k_f5 (bN 7 q_f5) k_f6 (bN 7 q_f6) k_f7 f7 k_f8 (bN 4 q_f8) k_f9 (bN 2 q_f9) k_f10 f10 k_f11 f11 k_f12 f12 k_f13 f13 k_f14 f14 k_f15 f15 k_f16 f16 uz u1 u2 u3 u4 u5 (nI z_uc) (nI z_ufull) z_ux z_uway z_uav z_ugoal (nI z_ufound) 400 (nI z_ul) (nI z_usz) u16 u17 k_fuz (zs o 401 az) k_s1u (bN 7 z_s1u) k_s2u z_s2u k_s3u z_s3u k_s4u z_s4u k_s5u z_s5u k_hiu z_hiu k_lou z_lou k_fbu z_fbu) ++ zp 5 25 N az ac kz z_qs z_fz) ((xso__t k_f4 k_f5 k_f6 k_f7 k_f8 k_f9 k_f10 k_f11 k_f12 k_f13 k_f14 k_f15 k_f16 k_fuz k_s1u k_s2u k_s3u k_s4u k_s5u k_hiu k_lou k_fbu) ++ zt N kz) (va_A (((xso__w xa xtape (nI tp) rd au xdr hy g (nI hs) tg sg (nI ss) rm ti py bu sm (nI nc) (nI np) (nI ne) (nI st0) q4 q5 q6 q7 q8 q9 q10 q11 q12 q13 q14 q15 q16 k_f4 f4 k_f5 (bN 7 q_f5) k_f6 (bN 7 q_f6) k_f7 f7 k_f8 (bN 4 q_f8) k_f9 (bN 2 q_f9) k_f10 f10 k_f11 f11 k_f12 f12 k_f13 f13 k_f14 f14 k_f15 f15 k_f16 f16 uz u1 u2 u3 u4 u5 (nI uc) (nI ufull) ux uway uav ugoal (nI ufound) 400 (nI ul) (nI usz) u16 u17 k_fuz (zs o 401 az) k_s1u (bN 7 q_s1u) k_s2u s2u k_s3u s3u k_s4u s4u k_s5u s5u k_hiu hiu k_lou lou k_fbu fbu) ++ zp 5 25 N az ac kz qs fz)) sz) t ∧ (z_ss ≤ 1) ∧ (z_ufound ≤ 1) ∧ (z_ul ≤ 1) ∧ (z_usz ≤ 5) ∧ (z_uc ≤ 400) ∧ (z_ufull ≤ 1) ∧ (gz_ok z_uc z_s2u z_s3u z_s4u)) (va_A (((xso__w xa xtape (nI tp) rd au xdr hy g (nI hs) tg sg (nI ss) rm ti py bu sm (nI nc) (nI np) (nI ne) (nI st0) q4 q5 q6 q7 q8 q9 q10 q11 q12 q13 q14 q15 q16 k_f4 f4 k_f5 (bN 7 q_f5) k_f6 (bN 7 q_f6) k_f7 f7 k_f8 (bN 4 q_f8) k_f9 (bN 2 q_f9) k_f10 f10 k_f11 f11 k_f12 f12 k_f13 f13 k_f14 f14 k_f15 f15 k_f16 f16 uz u1 u2 u3 u4 u5 (nI uc) (nI ufull) ux uway uav ugoal (nI ufound) 400 (nI ul) (nI usz) u16 u17 k_fuz (zs o 401 az) k_s1u (bN 7 q_s1u) k_s2u s2u k_s3u s3u k_s4u s4u k_s5u s5u k_hiu hiu k_lou lou k_fbu fbu) ++ zp 5 25 N az ac kz qs fz)) sz)) 0 0 (va_A (((xso__w xa xtape (nI tp) rd au xdr hy g (nI hs) tg sg (nI ss) rm ti py bu sm (nI nc) (nI np) (nI ne) (nI st0) q4 q5 q6 q7 q8 q9 q10 q11 q12 q13 q14 q15 q16 k_f4 f4 k_f5 (bN 7 q_f5) k_f6 (bN 7 q_f6) k_f7 f7 k_f8 (bN 4 q_f8) k_f9 (bN 2 q_f9) k_f10 f10 k_f11 f11 k_f12 f12 k_f13 f13 k_f14 f14 k_f15 f15 k_f16 f16 uz u1 u2 u3 u4 u5 (nI uc) (nI ufull) ux uway uav ugoal (nI ufound) 400 (nI ul) (nI usz) u16 u17 k_fuz (zs o 401 az) k_s1u (bN 7 q_s1u) k_s2u s2u k_s3u s3u k_s4u s4u k_s5u s5u k_hiu hiu k_lou lou k_fbu fbu) ++ zp 5 25 N az ac kz qs fz)) sz) := by
  refine Met.ofW (cc := cX8_soonest) (maxL := 4) (ret := (some .int)) (by decide) rfl ?_
  intro p e s m args below meth c s₁ B hml hv
  obtain ⟨rfl, rfl, hP, hK, hD0⟩ := hv
  have hx := B.exec
  have hb := B.bytes
  have hr := B.returns
  have hts := atoms_spec (ws := vs_C_8_soonest) B.pre
  have v_6 := hts (.fieldLink RX8 104 "ClockReach" "soonStands" "Z") (List.mem_cons_of_mem _ cm_446)
  have v_7 := hts (.fieldLink RX8 49 "ClockReach" "soon" "LClockReach$Graph;") (List.mem_cons_of_mem _ cm_636)
  have v_8 := hts (.fieldLink RX8 23 "ClockReach" "model" "LClockReach$Automaton;") (List.mem_cons_of_mem _ cm_434)
  have v_9 := hts (.fieldLink RX8 116 "ClockReach$Automaton" "clocks" "I") (List.mem_cons_of_mem _ cm_453)
  have v_23 := hts (.fieldLink RX8 130 "ClockReach$Graph" "full" "Z") (List.mem_cons_of_mem _ cm_458)
  have hown : s.vm.findClass RX8 = some m.cls := findClass_of_methodNamed B.named
  have hlocks := B.notSynchronized
  have hiX0 : ∀ w ∈ wsX00, w ∈ vs_C_8_soonest := fun _ h => List.mem_cons_of_mem _ (cm_X0 h)
  have hiX1 : ∀ w ∈ wsX10, w ∈ vs_C_8_soonest := fun _ h => List.mem_cons_of_mem _ (cm_X1 h)
  have hiX8 : ∀ w ∈ wsX80, w ∈ vs_C_8_soonest := fun _ h => List.mem_cons_of_mem _ (cm_X8 h)
  have hD := hD0.self (sz := s.heap.size)
  generalize hAe : va_A (((xso__w xa xtape (nI tp) rd au xdr hy g (nI hs) tg sg (nI ss) rm ti py bu sm (nI nc) (nI np) (nI ne) (nI st0) q4 q5 q6 q7 q8 q9 q10 q11 q12 q13 q14 q15 q16 k_f4 f4 k_f5 (bN 7 q_f5) k_f6 (bN 7 q_f6) k_f7 f7 k_f8 (bN 4 q_f8) k_f9 (bN 2 q_f9) k_f10 f10 k_f11 f11 k_f12 f12 k_f13 f13 k_f14 f14 k_f15 f15 k_f16 f16 uz u1 u2 u3 u4 u5 (nI uc) (nI ufull) ux uway uav ugoal (nI ufound) 400 (nI ul) (nI usz) u16 u17 k_fuz (zs o 401 az) k_s1u (bN 7 q_s1u) k_s2u s2u k_s3u s3u k_s4u s4u k_s5u s5u k_hiu hiu k_lou lou k_fbu fbu) ++ zp 5 25 N az ac kz qs fz)) s.heap.size = A at hD ⊢
  have hA : ∀ q : Nat, s.heap.size ≤ q → A q := fun q h => by rw [← hAe]; exact Or.inr h
  have hS : va_S A s.heap s.heap [] := va_S.rf
  have hl := lv_entry ([.ref xa, .int p0, .int p1]) (n := 4) (Nat.le_of_ble_eq_true rfl)
  rw [lg_entry_eq]
  generalize (lg_sl ([.ref xa, .int p0, .int p1]) ++ List.replicate (4 - (lg_sl ([.ref xa, .int p0, .int p1])).length) Slot.unset).toArray = ls at hl ⊢
  have hl : lv_has ls 4 [(0, .ref xa), (1, .int p0), (2, .int p1)] := hl
  refine lv_aload_n hx hb eX8_soonest_0 rfl (lv_at hl 0 rfl) ?_
  refine lv_iload_n hx hb eX8_soonest_1 rfl (lv_at hl 1 rfl) ?_
  have hPc : va_P (dC, dI) vwCl [(xa, .inr (8, [.ref xtape, .int (nI tp), .ref rd, .ref au, .ref xdr, .ref hy, .ref g, .int (nI hs), .ref tg, .ref sg, .int (nI ss), .ref rm, .ref ti, .ref py, .ref bu, .ref sm])), (au, .inr (0, [.int (nI nc), .int (nI np), .int (nI ne), .int (nI st0), .ref q4, .ref q5, .ref q6, .ref q7, .ref q8, .ref q9, .ref q10, .ref q11, .ref q12, .ref q13, .ref q14, .ref q15, .ref q16]))] _ := hP.sub [0, 1] rfl
  have hDc : va_D A [(xa, .inr (8, [.ref xtape, .int (nI tp), .ref rd, .ref au, .ref xdr, .ref hy, .ref g, .int (nI hs), .ref tg, .ref sg, .int (nI ss), .ref rm, .ref ti, .ref py, .ref bu, .ref sm])), (au, .inr (0, [.int (nI nc), .int (nI np), .int (nI ne), .int (nI st0), .ref q4, .ref q5, .ref q6, .ref q7, .ref q8, .ref q9, .ref q10, .ref q11, .ref q12, .ref q13, .ref q14, .ref q15, .ref q16]))] := (zp_left hD).sub [0, 1] (by decide) rfl
  have hKc : va_K (dC, dI) vwCl [] s := hK.sub [] rfl
  refine va_calli (va_runV (As := [.int p0]) (rest := []) ⟨hx, hb, hml, hown, hts⟩ (c_C_8_isPlace l dC dI _ xa xtape tp rd au xdr hy g hs tg sg ss rm ti py bu sm nc np ne (nI st0) q4 q5 q6 q7 q8 q9 q10 q11 q12 q13 q14 q15 q16 p0 htp hhs hss hnc hnp hne (Or.inr ⟨st0, hst0, rfl⟩)) (cwV 1 hts g_C_8_soonest_C_8_isPlace rfl rfl rfl (by decide +kernel) ⟨Nat.le_of_ble_eq_true rfl, Nat.le_of_ble_eq_true rfl⟩) ⟨pu_bl, va_recv hK hP (ci := 8) (q0 := 0) rfl rfl, pu_in hPc hKc hDc⟩ rfl rfl hl.1 rfl (lv_room (Nat.le_of_ble_eq_true rfl)) eX8_soonest_2 ⟨Nat.le_of_ble_eq_true rfl, Nat.le_of_ble_eq_true rfl⟩) hS (fun q _ h => pu_fr hS hA q h) (pu_fr hS hA) (fun r_1 u t H1 locs ht hvm hw hB hz1 hk1 hS => ?_)
  have hP := pu_keep hP hk1
  clear hPc hDc hKc
  clear hk1 hz1 ht hvm
  generalize H1 = H at hP hS ⊢
  rcases hw with ⟨rfl, hw⟩ | rfl
  · obtain ⟨n_2, hn_2, rfl⟩ := hw
    refine lv_if_eq (tgt := 17) hx hb eX8_soonest_5 (by decide) (fun z => absurd z (by decide)) (fun _ => ?_)
    refine lv_iload_n hx hb eX8_soonest_8 rfl (lv_at hl 2 rfl) ?_
    refine lv_if_lt (tgt := 17) hx hb eX8_soonest_9 (by decide) (fun c_3 => ?_) (fun c_3 => ?_)
    · refine lv_iconst (v := (-1)) hx hb eX8_soonest_17 (by decide) ?_
      exact W.iret (v := (-1)) hx hb hr (fun t ht hW => ⟨⟨(-1), (), rfl, trivial, ⟨q_s1u, s2u, s3u, s4u, s5u, hiu, lou, fbu, ss, uav, ugoal, ufound, ul, usz, uc, ufull, ux, uway, fz, qs, ⟨by rw [ht]; exact hP, va_K.moved hW.alike hK, hD⟩, hss, hufound, hul, husz, huc, hufull, by first | assumption | exact gz_0⟩⟩, hS.F ht⟩) hS.2.2 eX8_soonest_18
    · have lp1 : ¬ p1 < 0 := c_3
      refine lv_iload_n hx hb eX8_soonest_12 rfl (lv_at hl 2 rfl) ?_
      refine lv_iconst (v := 1) hx hb eX8_soonest_13 (by decide) ?_
      refine lv_icmp_le (tgt := 19) hx hb eX8_soonest_14 (by decide) (fun c_4 => ?_) (fun c_4 => ?_)
      · obtain ⟨n_5, hn_5, rfl⟩ := pu_ule (b := 1) (by omega) lp1 (c_4)
        refine lv_aload_n hx hb eX8_soonest_19 rfl (lv_at hl 0 rfl) ?_
        refine va_get (D := (dC, dI)) (ci := 8) (v := .int (nI ss)) (C := RX8) (T := TX8) (N := 16) hx hb hts hiX8 hown hK hP 0 rfl rfl 10 (by decide) v_6 (fun _ h9 => h9) rfl eX8_soonest_20 ?_
        refine pu_join (fun H locs ls st => ∃ (g_6 : Nat) (g_7 : Nat) (g_8 : Nat) (g_9 : Int32) (g_10 : Int32) (g_11 : Int32) (g_12 : Int32) (g_13 : Nat) (g_14 : Nat) (g_15 : Nat) (g_16 : Nat → Nat) (g_17 : Nat → Int32) (g_18 : Nat → Int32) (g_19 : Nat → Int32) (g_20 : Nat → Int32) (g_21 : Nat → Int32) (g_22 : Nat → Int32) (g_23 : Nat → Int32) (g_24 : Nat → Nat) (g_25 : Nat → Nat → Int32), st = [] ∧ (1 ≤ g_6 ∧ g_6 ≤ 1) ∧ g_7 ≤ 400 ∧ g_8 ≤ 1 ∧ g_13 ≤ 1 ∧ g_14 ≤ 1 ∧ g_15 ≤ 5 ∧ gz_ok g_7 g_17 g_18 g_19 ∧ va_P (dC, dI) vwCl ((xso__w xa xtape (nI tp) rd au xdr hy g (nI hs) tg sg (nI g_6) rm ti py bu sm (nI nc) (nI np) (nI ne) (nI st0) q4 q5 q6 q7 q8 q9 q10 q11 q12 q13 q14 q15 q16 k_f4 f4 k_f5 (bN 7 q_f5) k_f6 (bN 7 q_f6) k_f7 f7 k_f8 (bN 4 q_f8) k_f9 (bN 2 q_f9) k_f10 f10 k_f11 f11 k_f12 f12 k_f13 f13 k_f14 f14 k_f15 f15 k_f16 f16 uz u1 u2 u3 u4 u5 (nI g_7) (nI g_8) g_9 g_10 g_11 g_12 (nI g_13) 400 (nI g_14) (nI g_15) u16 u17 k_fuz (zs o 401 az) k_s1u (bN 7 g_16) k_s2u g_17 k_s3u g_18 k_s4u g_19 k_s5u g_20 k_hiu g_21 k_lou g_22 k_fbu g_23) ++ zp 5 25 N az ac kz g_24 g_25) H ∧ va_D A ((xso__w xa xtape (nI tp) rd au xdr hy g (nI hs) tg sg (nI g_6) rm ti py bu sm (nI nc) (nI np) (nI ne) (nI st0) q4 q5 q6 q7 q8 q9 q10 q11 q12 q13 q14 q15 q16 k_f4 f4 k_f5 (bN 7 q_f5) k_f6 (bN 7 q_f6) k_f7 f7 k_f8 (bN 4 q_f8) k_f9 (bN 2 q_f9) k_f10 f10 k_f11 f11 k_f12 f12 k_f13 f13 k_f14 f14 k_f15 f15 k_f16 f16 uz u1 u2 u3 u4 u5 (nI g_7) (nI g_8) g_9 g_10 g_11 g_12 (nI g_13) 400 (nI g_14) (nI g_15) u16 u17 k_fuz (zs o 401 az) k_s1u (bN 7 g_16) k_s2u g_17 k_s3u g_18 k_s4u g_19 k_s5u g_20 k_hiu g_21 k_lou g_22 k_fbu g_23) ++ zp 5 25 N az ac kz g_24 g_25) ∧ va_S A s.heap H locs ∧ lv_has ls 4 [(0, .ref xa), (1, .int (nI n_2)), (2, .int (nI n_5))]) 72 ?_ (fun j_27 => ?_)
        · rintro H locs ls st ⟨g_6, g_7, g_8, g_9, g_10, g_11, g_12, g_13, g_14, g_15, g_16, g_17, g_18, g_19, g_20, g_21, g_22, g_23, g_24, g_25, rfl, hg_6, hg_7, hg_8, hg_13, hg_14, hg_15, he_26, hP, hD, hS, hl⟩
          refine lv_aload_n hx hb eX8_soonest_72 rfl (lv_at hl 0 rfl) ?_
          refine va_get (D := (dC, dI)) (ci := 8) (v := .ref sg) (C := RX8) (T := TX8) (N := 16) hx hb hts hiX8 hown hK hP 0 rfl rfl 9 (by decide) v_7 (fun _ h9 => h9) rfl eX8_soonest_73 ?_
          refine va_get (D := (dC, dI)) (ci := 1) (v := .int (nI g_8)) (C := RX1) (T := TX1) (N := 18) hx hb hts hiX1 hown hK hP 15 rfl rfl 7 (by decide) v_23 (fun _ h9 => h9) rfl eX8_soonest_76 ?_
          refine lv_if_eq (tgt := 85) hx hb eX8_soonest_79 (by decide) (fun c_28 => ?_) (fun c_28 => ?_)
          · have c_28 : g_8 = 0 := (nI_eq (a := g_8) (b := 0) (Nat.lt_of_le_of_lt hg_8 (Nat.le_of_ble_eq_true rfl)) (Nat.le_of_ble_eq_true rfl)).mp c_28
            refine lv_aload_n hx hb eX8_soonest_85 rfl (lv_at hl 0 rfl) ?_
            refine va_get (D := (dC, dI)) (ci := 8) (v := .ref sg) (C := RX8) (T := TX8) (N := 16) hx hb hts hiX8 hown hK hP 0 rfl rfl 9 (by decide) v_7 (fun _ h9 => h9) rfl eX8_soonest_86 ?_
            refine lv_iload_n hx hb eX8_soonest_89 rfl (lv_at hl 1 rfl) ?_
            refine lv_iconst (v := 0) hx hb eX8_soonest_90 (by decide) ?_
            refine lv_aload_n hx hb eX8_soonest_91 rfl (lv_at hl 0 rfl) ?_
            refine va_get (D := (dC, dI)) (ci := 8) (v := .ref au) (C := RX8) (T := TX8) (N := 16) hx hb hts hiX8 hown hK hP 0 rfl rfl 3 (by decide) v_8 (fun _ h9 => h9) rfl eX8_soonest_92 ?_
            refine va_get (D := (dC, dI)) (ci := 0) (v := .int (nI nc)) (C := RX0) (T := TX0) (N := 17) hx hb hts hiX0 hown hK hP 1 rfl rfl 0 (by decide) v_9 (fun _ h9 => h9) rfl eX8_soonest_95 ?_
            refine lv_iconst (v := 1) hx hb eX8_soonest_98 (by decide) ?_
            refine lv_iadd hx hb eX8_soonest_99 ?_
            refine lv_topi (fun y_29 ey_29 => ?_)
            obtain rfl : y_29 = (nI (nc + 1)) := ey_29.trans (nI_add nc 1)
            have hPc : va_P (dC, dI) vwCl ([(sg, .inr (1, [.ref uz, .ref u1, .ref u2, .ref u3, .ref u4, .ref u5, .int (nI g_7), .int (nI g_8), .int g_9, .int g_10, .int g_11, .int g_12, .int (nI g_13), .int 400, .int (nI g_14), .int (nI g_15), .ref u16, .ref u17])), (uz, .inl (k_fuz, 401, .inr (.inr (.inr (.inr (zs o 401 az)))))), (u1, .inl (k_s1u, 400, .inl (bN 7 g_16))), (u2, .inl (k_s2u, 400, .inl g_17)), (u3, .inl (k_s3u, 400, .inl g_18)), (u4, .inl (k_s4u, 400, .inl g_19)), (u5, .inl (k_s5u, 400, .inl g_20)), (u16, .inl (k_hiu, 5, .inl g_21)), (u17, .inl (k_lou, 5, .inl g_22))] ++ zp 5 25 N az ac kz g_24 g_25) _ := hP.part [15, 16, 17, 18, 19, 20, 21, 22, 23] rfl
            have hDc : va_D A ([(sg, .inr (1, [.ref uz, .ref u1, .ref u2, .ref u3, .ref u4, .ref u5, .int (nI g_7), .int (nI g_8), .int g_9, .int g_10, .int g_11, .int g_12, .int (nI g_13), .int 400, .int (nI g_14), .int (nI g_15), .ref u16, .ref u17])), (uz, .inl (k_fuz, 401, .inr (.inr (.inr (.inr (zs o 401 az)))))), (u1, .inl (k_s1u, 400, .inl (bN 7 g_16))), (u2, .inl (k_s2u, 400, .inl g_17)), (u3, .inl (k_s3u, 400, .inl g_18)), (u4, .inl (k_s4u, 400, .inl g_19)), (u5, .inl (k_s5u, 400, .inl g_20)), (u16, .inl (k_hiu, 5, .inl g_21)), (u17, .inl (k_lou, 5, .inl g_22))] ++ zp 5 25 N az ac kz g_24 g_25) := hD.part [15, 16, 17, 18, 19, 20, 21, 22, 23] (by decide) rfl
            have hKc : va_K (dC, dI) vwCl ([(k_fuz, .object RX7), (k_s1u, .int), (k_s2u, .int), (k_s3u, .int), (k_s4u, .int), (k_s5u, .int), (k_hiu, .int), (k_lou, .int)] ++ zt N kz) s := zk_part hK [13, 14, 15, 16, 17, 18, 19, 20] rfl
            refine va_calli (va_runV (As := [.int (nI n_2), .int 0, .int (nI (nc + 1))]) (rest := []) ⟨hx, hb, hml, hown, hts⟩ (c_C_1_loosestAt_25 l dC dI _ sg uz u1 u2 u3 u4 u5 g_7 g_8 g_9 g_10 g_11 g_12 g_13 g_14 g_15 u16 u17 k_fuz k_s1u g_16 k_s2u g_17 k_s3u g_18 k_s4u g_19 k_s5u g_20 k_hiu g_21 k_lou g_22 N o az ac kz g_24 g_25 (nI n_2) 0 (nc + 1) hg_7 hg_8 hg_13 hg_14 hg_15 (by omega) (Nat.le_of_ble_eq_true rfl) (by omega)) (cwV 3 hts g_C_8_soonest_C_1_loosestAt_25 rfl rfl rfl (by decide +kernel) ⟨Nat.le_of_ble_eq_true rfl, Nat.le_of_ble_eq_true rfl⟩) ⟨pu_bl, va_recv hK hP (ci := 1) (q0 := 15) rfl rfl, pu_in hPc hKc hDc⟩ rfl rfl hl.1 rfl (lv_room (Nat.le_of_ble_eq_true rfl)) eX8_soonest_100 ⟨Nat.le_of_ble_eq_true rfl, Nat.le_of_ble_eq_true rfl⟩) hS (fun q _ h => pu_fr hS hA q h) (pu_fr hS hA) (fun r_30 u t H1 locs ht hvm hw hB hz1 hk1 hS => ?_)
            have hP := pu_keep hP hk1
            clear hPc hDc hKc
            clear hk1 hz1 ht hvm
            generalize H1 = H at hP hS ⊢
            refine lv_istore_n (lv' := [(3, .int r_30), (0, .ref xa), (1, .int (nI n_2)), (2, .int (nI n_5))]) hx hb eX8_soonest_103 rfl hl (by decide) rfl (fun ls hl => ?_)
            refine lv_iload_n hx hb eX8_soonest_104 rfl (lv_at hl 0 rfl) ?_
            refine lv_bipush (v := (-120)) hx hb eX8_soonest_105 (by decide) ?_
            refine lv_icmp_gt (tgt := 112) hx hb eX8_soonest_107 (by decide) (fun c_31 => ?_) (fun c_31 => ?_)
            · refine lv_iload_n hx hb eX8_soonest_112 rfl (lv_at hl 3 rfl) ?_
              refine lv_if_ne (tgt := 123) hx hb eX8_soonest_113 (by decide) (fun c_32 => ?_) (fun c_32 => ?_)
              · have c_32 : ¬ n_5 = 0 := fun z => c_32 ((nI_eq (a := n_5) (b := 0) (by omega) (Nat.le_of_ble_eq_true rfl)).mpr z)
                refine lv_iload_n hx hb eX8_soonest_123 rfl (lv_at hl 0 rfl) ?_
                refine lv_iconst (v := 1) hx hb eX8_soonest_124 (by decide) ?_
                refine lv_iand hx hb eX8_soonest_125 ?_
                refine lv_topi (fun y_33 ey_33 => ?_)
                exact W.iret (v := y_33) hx hb hr (fun t ht hW => ⟨⟨y_33, (), rfl, trivial, ⟨g_16, g_17, g_18, g_19, g_20, g_21, g_22, g_23, g_6, g_11, g_12, g_13, g_14, g_15, g_7, g_8, g_9, g_10, g_25, g_24, ⟨by rw [ht]; exact hP, va_K.moved hW.alike hK, hD⟩, hg_6.2, hg_13, hg_14, hg_15, hg_7, hg_8, by first | assumption | exact gz_0⟩⟩, hS.F ht⟩) hS.2.2 eX8_soonest_126
              · have c_32 : n_5 = 0 := (nI_eq (a := n_5) (b := 0) (by omega) (Nat.le_of_ble_eq_true rfl)).mp c_32
                refine lv_iload_n hx hb eX8_soonest_116 rfl (lv_at hl 0 rfl) ?_
                refine lv_iconst (v := 1) hx hb eX8_soonest_117 (by decide) ?_
                refine lv_ishr hx hb eX8_soonest_118 ?_
                refine lv_topi (fun y_34 ey_34 => ?_)
                refine lv_ineg hx hb eX8_soonest_119 ?_
                refine lv_topi (fun y_35 ey_35 => ?_)
                refine lv_goto (tgt := 126) hx hb eX8_soonest_120 (by decide) ?_
                exact W.iret (v := y_35) hx hb hr (fun t ht hW => ⟨⟨y_35, (), rfl, trivial, ⟨g_16, g_17, g_18, g_19, g_20, g_21, g_22, g_23, g_6, g_11, g_12, g_13, g_14, g_15, g_7, g_8, g_9, g_10, g_25, g_24, ⟨by rw [ht]; exact hP, va_K.moved hW.alike hK, hD⟩, hg_6.2, hg_13, hg_14, hg_15, hg_7, hg_8, by first | assumption | exact gz_0⟩⟩, hS.F ht⟩) hS.2.2 eX8_soonest_126
            · refine lv_iconst (v := (-1)) hx hb eX8_soonest_110 (by decide) ?_
              exact W.iret (v := (-1)) hx hb hr (fun t ht hW => ⟨⟨(-1), (), rfl, trivial, ⟨g_16, g_17, g_18, g_19, g_20, g_21, g_22, g_23, g_6, g_11, g_12, g_13, g_14, g_15, g_7, g_8, g_9, g_10, g_25, g_24, ⟨by rw [ht]; exact hP, va_K.moved hW.alike hK, hD⟩, hg_6.2, hg_13, hg_14, hg_15, hg_7, hg_8, by first | assumption | exact gz_0⟩⟩, hS.F ht⟩) hS.2.2 eX8_soonest_111
          · have c_28 : ¬ g_8 = 0 := fun z => c_28 ((nI_eq (a := g_8) (b := 0) (Nat.lt_of_le_of_lt hg_8 (Nat.le_of_ble_eq_true rfl)) (Nat.le_of_ble_eq_true rfl)).mpr z)
            refine lv_bipush (v := (-2)) hx hb eX8_soonest_82 (by decide) ?_
            exact W.iret (v := (-2)) hx hb hr (fun t ht hW => ⟨⟨(-2), (), rfl, trivial, ⟨g_16, g_17, g_18, g_19, g_20, g_21, g_22, g_23, g_6, g_11, g_12, g_13, g_14, g_15, g_7, g_8, g_9, g_10, g_25, g_24, ⟨by rw [ht]; exact hP, va_K.moved hW.alike hK, hD⟩, hg_6.2, hg_13, hg_14, hg_15, hg_7, hg_8, by first | assumption | exact gz_0⟩⟩, hS.F ht⟩) hS.2.2 eX8_soonest_84
        refine lv_if_ne (tgt := 72) hx hb eX8_soonest_23 (by decide) (fun c_36 => ?_) (fun c_36 => ?_)
        · have c_36 : ¬ ss = 0 := fun z => c_36 ((nI_eq (a := ss) (b := 0) (Nat.lt_of_le_of_lt hss (Nat.le_of_ble_eq_true rfl)) (Nat.le_of_ble_eq_true rfl)).mpr z)
          exact j_27 _ _ _ _ ⟨ss, uc, ufull, ux, uway, uav, ugoal, ufound, ul, usz, q_s1u, s2u, s3u, s4u, s5u, hiu, lou, fbu, qs, fz, rfl, ⟨by omega, by omega⟩, huc, hufull, hufound, hul, husz, by first | assumption | exact gz_0, hP, hD, hS, lv_sub hl [0, 1, 2] rfl⟩
        · have c_36 : ss = 0 := (nI_eq (a := ss) (b := 0) (Nat.lt_of_le_of_lt hss (Nat.le_of_ble_eq_true rfl)) (Nat.le_of_ble_eq_true rfl)).mp c_36
          refine lv_aload_n hx hb eX8_soonest_26 rfl (lv_at hl 0 rfl) ?_
          refine va_get (D := (dC, dI)) (ci := 8) (v := .ref sg) (C := RX8) (T := TX8) (N := 16) hx hb hts hiX8 hown hK hP 0 rfl rfl 9 (by decide) v_7 (fun _ h9 => h9) rfl eX8_soonest_27 ?_
          refine lv_aload_n hx hb eX8_soonest_30 rfl (lv_at hl 0 rfl) ?_
          refine va_get (D := (dC, dI)) (ci := 8) (v := .ref au) (C := RX8) (T := TX8) (N := 16) hx hb hts hiX8 hown hK hP 0 rfl rfl 3 (by decide) v_8 (fun _ h9 => h9) rfl eX8_soonest_31 ?_
          refine lv_iconst (v := 2) hx hb eX8_soonest_34 (by decide) ?_
          refine lv_iconst (v := 1) hx hb eX8_soonest_35 (by decide) ?_
          refine lv_aload_n hx hb eX8_soonest_36 rfl (lv_at hl 0 rfl) ?_
          refine va_get (D := (dC, dI)) (ci := 8) (v := .ref au) (C := RX8) (T := TX8) (N := 16) hx hb hts hiX8 hown hK hP 0 rfl rfl 3 (by decide) v_8 (fun _ h9 => h9) rfl eX8_soonest_37 ?_
          refine va_get (D := (dC, dI)) (ci := 0) (v := .int (nI nc)) (C := RX0) (T := TX0) (N := 17) hx hb hts hiX0 hown hK hP 1 rfl rfl 0 (by decide) v_9 (fun _ h9 => h9) rfl eX8_soonest_40 ?_
          refine lv_iconst (v := 2) hx hb eX8_soonest_43 (by decide) ?_
          refine lv_iadd hx hb eX8_soonest_44 ?_
          refine lv_topi (fun y_37 ey_37 => ?_)
          obtain rfl : y_37 = (nI (nc + 2)) := ey_37.trans (nI_add nc 2)
          have hPc : va_P (dC, dI) vwCl ([(sg, .inr (1, [.ref uz, .ref u1, .ref u2, .ref u3, .ref u4, .ref u5, .int (nI uc), .int (nI ufull), .int ux, .int uway, .int uav, .int ugoal, .int (nI ufound), .int 400, .int (nI ul), .int (nI usz), .ref u16, .ref u17])), (uz, .inl (k_fuz, 401, .inr (.inr (.inr (.inr (zs o 401 az)))))), (u1, .inl (k_s1u, 400, .inl (bN 7 q_s1u))), (u2, .inl (k_s2u, 400, .inl s2u)), (u3, .inl (k_s3u, 400, .inl s3u)), (u4, .inl (k_s4u, 400, .inl s4u)), (u5, .inl (k_s5u, 400, .inl s5u)), (u16, .inl (k_hiu, 5, .inl hiu)), (u17, .inl (k_lou, 5, .inl lou)), (au, .inr (0, [.int (nI nc), .int (nI np), .int (nI ne), .int (nI st0), .ref q4, .ref q5, .ref q6, .ref q7, .ref q8, .ref q9, .ref q10, .ref q11, .ref q12, .ref q13, .ref q14, .ref q15, .ref q16])), (q4, .inl (k_f4, 8, .inl f4)), (q5, .inl (k_f5, 14, .inl (bN 7 q_f5))), (q6, .inl (k_f6, 14, .inl (bN 7 q_f6))), (q7, .inl (k_f7, 14, .inl f7)), (q8, .inl (k_f8, 22, .inl (bN 4 q_f8))), (q9, .inl (k_f9, 88, .inl (bN 2 q_f9))), (q10, .inl (k_f10, 88, .inl f10)), (q11, .inl (k_f11, 88, .inl f11)), (q12, .inl (k_f12, 88, .inl f12)), (q13, .inl (k_f13, 88, .inl f13)), (q14, .inl (k_f14, 4, .inl f14)), (q15, .inl (k_f15, 4, .inl f15)), (q16, .inl (k_f16, 4, .inl f16))] ++ zp 5 25 N az ac kz qs fz) _ := hP.part [15, 16, 17, 18, 19, 20, 21, 22, 23, 1, 2, 3, 4, 5, 6, 7, 8, 9, 10, 11, 12, 13, 14] rfl
          have hDc : va_D A ([(sg, .inr (1, [.ref uz, .ref u1, .ref u2, .ref u3, .ref u4, .ref u5, .int (nI uc), .int (nI ufull), .int ux, .int uway, .int uav, .int ugoal, .int (nI ufound), .int 400, .int (nI ul), .int (nI usz), .ref u16, .ref u17])), (uz, .inl (k_fuz, 401, .inr (.inr (.inr (.inr (zs o 401 az)))))), (u1, .inl (k_s1u, 400, .inl (bN 7 q_s1u))), (u2, .inl (k_s2u, 400, .inl s2u)), (u3, .inl (k_s3u, 400, .inl s3u)), (u4, .inl (k_s4u, 400, .inl s4u)), (u5, .inl (k_s5u, 400, .inl s5u)), (u16, .inl (k_hiu, 5, .inl hiu)), (u17, .inl (k_lou, 5, .inl lou)), (au, .inr (0, [.int (nI nc), .int (nI np), .int (nI ne), .int (nI st0), .ref q4, .ref q5, .ref q6, .ref q7, .ref q8, .ref q9, .ref q10, .ref q11, .ref q12, .ref q13, .ref q14, .ref q15, .ref q16])), (q4, .inl (k_f4, 8, .inl f4)), (q5, .inl (k_f5, 14, .inl (bN 7 q_f5))), (q6, .inl (k_f6, 14, .inl (bN 7 q_f6))), (q7, .inl (k_f7, 14, .inl f7)), (q8, .inl (k_f8, 22, .inl (bN 4 q_f8))), (q9, .inl (k_f9, 88, .inl (bN 2 q_f9))), (q10, .inl (k_f10, 88, .inl f10)), (q11, .inl (k_f11, 88, .inl f11)), (q12, .inl (k_f12, 88, .inl f12)), (q13, .inl (k_f13, 88, .inl f13)), (q14, .inl (k_f14, 4, .inl f14)), (q15, .inl (k_f15, 4, .inl f15)), (q16, .inl (k_f16, 4, .inl f16))] ++ zp 5 25 N az ac kz qs fz) := hD.part [15, 16, 17, 18, 19, 20, 21, 22, 23, 1, 2, 3, 4, 5, 6, 7, 8, 9, 10, 11, 12, 13, 14] (by decide) rfl
          have hKc : va_K (dC, dI) vwCl ([(k_fuz, .object RX7), (k_s1u, .int), (k_s2u, .int), (k_s3u, .int), (k_s4u, .int), (k_s5u, .int), (k_hiu, .int), (k_lou, .int), (k_f4, .boolean), (k_f5, .int), (k_f6, .int), (k_f7, .int), (k_f8, .int), (k_f9, .int), (k_f10, .int), (k_f11, .int), (k_f12, .int), (k_f13, .int), (k_f14, .int), (k_f15, .int), (k_f16, .int)] ++ zt N kz) s := zk_part hK [13, 14, 15, 16, 17, 18, 19, 20, 0, 1, 2, 3, 4, 5, 6, 7, 8, 9, 10, 11, 12] rfl
          have hFc := pu_free hDc hS hA
          refine va_callv (va_runV (As := [.ref au, .int 2, .int 1, .int (nI (nc + 2))]) (rest := []) ⟨hx, hb, hml, hown, hts⟩ (c_C_1_plan_25 l dC dI _ sg uz u1 u2 u3 u4 u5 uc ufull ux uway uav ugoal ufound ul usz u16 u17 k_fuz k_s1u q_s1u k_s2u s2u k_s3u s3u k_s4u s4u k_s5u s5u k_hiu hiu k_lou lou au nc np ne (nI st0) q4 q5 q6 q7 q8 q9 q10 q11 q12 q13 q14 q15 q16 k_f4 f4 k_f5 q_f5 k_f6 q_f6 k_f7 f7 k_f8 q_f8 k_f9 q_f9 k_f10 f10 k_f11 f11 k_f12 f12 k_f13 f13 k_f14 f14 k_f15 f15 k_f16 f16 N o az ac kz qs fz 2 1 (nc + 2) huc hufull hufound hul husz hnc hnp hne (Or.inr ⟨st0, hst0, rfl⟩) (by omega) (Nat.le_of_ble_eq_true rfl) (by omega)) (cwV 4 hts g_C_8_soonest_C_1_plan_25 rfl rfl rfl (by decide +kernel) ⟨Nat.le_of_ble_eq_true rfl, Nat.le_of_ble_eq_true rfl⟩) ⟨pu_bl, va_recv hK hP (ci := 1) (q0 := 15) rfl rfl, pu_in hPc hKc hDc⟩ rfl rfl hl.1 rfl (lv_room (Nat.le_of_ble_eq_true rfl)) eX8_soonest_45 ⟨Nat.le_of_ble_eq_true rfl, Nat.le_of_ble_eq_true rfl⟩) hS (fun q _ h => hFc q h) hFc (fun u t H1 locs ht hvm hw hB hz1 hk1 hS => ?_)
          obtain ⟨z_fhi_39, z_flo_40, z_gav_41, z_ggoal_42, z_gfound_43, z_gl_44, z_gsz_45, z_gway_46, ⟨hP1, -, hD1⟩, hz_gfound_43, hz_gl_44, hz_gsz_45⟩ := hB
          rw [ht] at hP1
          obtain ⟨hP, hD⟩ := pj_c (X := (xso__w xa xtape (nI tp) rd au xdr hy g (nI hs) tg sg (nI ss) rm ti py bu sm (nI nc) (nI np) (nI ne) (nI st0) q4 q5 q6 q7 q8 q9 q10 q11 q12 q13 q14 q15 q16 k_f4 f4 k_f5 (bN 7 q_f5) k_f6 (bN 7 q_f6) k_f7 f7 k_f8 (bN 4 q_f8) k_f9 (bN 2 q_f9) k_f10 f10 k_f11 f11 k_f12 f12 k_f13 f13 k_f14 f14 k_f15 f15 k_f16 f16 uz u1 u2 u3 u4 u5 (nI uc) (nI ufull) ux uway uav ugoal (nI ufound) 400 (nI ul) (nI usz) u16 u17 k_fuz (zs o 401 az) k_s1u (bN 7 q_s1u) k_s2u s2u k_s3u s3u k_s4u s4u k_s5u s5u k_hiu hiu k_lou lou k_fbu fbu)) (X' := (xso__w xa xtape (nI tp) rd au xdr hy g (nI hs) tg sg (nI ss) rm ti py bu sm (nI nc) (nI np) (nI ne) (nI st0) q4 q5 q6 q7 q8 q9 q10 q11 q12 q13 q14 q15 q16 k_f4 f4 k_f5 (bN 7 q_f5) k_f6 (bN 7 q_f6) k_f7 f7 k_f8 (bN 4 q_f8) k_f9 (bN 2 q_f9) k_f10 f10 k_f11 f11 k_f12 f12 k_f13 f13 k_f14 f14 k_f15 f15 k_f16 f16 uz u1 u2 u3 u4 u5 (nI uc) (nI ufull) ux z_gway_46 z_gav_41 z_ggoal_42 (nI z_gfound_43) 400 (nI z_gl_44) (nI z_gsz_45) u16 u17 k_fuz (zs o 401 az) k_s1u (bN 7 q_s1u) k_s2u s2u k_s3u s3u k_s4u s4u k_s5u s5u k_hiu z_fhi_39 k_lou z_flo_40 k_fbu fbu)) (wc := (gt1__w sg uz u1 u2 u3 u4 u5 (nI uc) (nI ufull) ux uway uav ugoal (nI ufound) 400 (nI ul) (nI usz) u16 u17 k_fuz (zs o 401 az) k_s1u (bN 7 q_s1u) k_s2u s2u k_s3u s3u k_s4u s4u k_s5u s5u k_hiu hiu k_lou lou au (nI nc) (nI np) (nI ne) (nI st0) q4 q5 q6 q7 q8 q9 q10 q11 q12 q13 q14 q15 q16 k_f4 f4 k_f5 (bN 7 q_f5) k_f6 (bN 7 q_f6) k_f7 f7 k_f8 (bN 4 q_f8) k_f9 (bN 2 q_f9) k_f10 f10 k_f11 f11 k_f12 f12 k_f13 f13 k_f14 f14 k_f15 f15 k_f16 f16)) (w1 := (gt1__w sg uz u1 u2 u3 u4 u5 (nI uc) (nI ufull) ux z_gway_46 z_gav_41 z_ggoal_42 (nI z_gfound_43) 400 (nI z_gl_44) (nI z_gsz_45) u16 u17 k_fuz (zs o 401 az) k_s1u (bN 7 q_s1u) k_s2u s2u k_s3u s3u k_s4u s4u k_s5u s5u k_hiu z_fhi_39 k_lou z_flo_40 au (nI nc) (nI np) (nI ne) (nI st0) q4 q5 q6 q7 q8 q9 q10 q11 q12 q13 q14 q15 q16 k_f4 f4 k_f5 (bN 7 q_f5) k_f6 (bN 7 q_f6) k_f7 f7 k_f8 (bN 4 q_f8) k_f9 (bN 2 q_f9) k_f10 f10 k_f11 f11 k_f12 f12 k_f13 f13 k_f14 f14 k_f15 f15 k_f16 f16)) hP hD [15, 16, 17, 18, 19, 20, 21, 22, 23, 1, 2, 3, 4, 5, 6, 7, 8, 9, 10, 11, 12, 13, 14] [23, 9, 10, 11, 12, 13, 14, 15, 16, 17, 18, 19, 20, 21, 22, 0, 1, 2, 3, 4, 5, 6, 7, 8, 47] 23 rfl hk1 hP1 rfl zp_f rfl rfl (by decide)
          clear hP1 hD1 hFc
          clear hPc hDc hKc
          clear hk1 hz1 ht hvm
          generalize H1 = H at hP hS ⊢
          refine lv_aload_n hx hb eX8_soonest_48 rfl (lv_at hl 0 rfl) ?_
          refine lv_aload_n hx hb eX8_soonest_49 rfl (lv_at hl 0 rfl) ?_
          refine va_get (D := (dC, dI)) (ci := 8) (v := .ref sg) (C := RX8) (T := TX8) (N := 16) hx hb hts hiX8 hown hK hP 0 rfl rfl 9 (by decide) v_7 (fun _ h9 => h9) rfl eX8_soonest_50 ?_
          have hFc := pu_free hD hS hA
          refine va_callv (va_runV (As := [.ref sg]) (rest := []) ⟨hx, hb, hml, hown, hts⟩ (c_C_8_beginAtZero_25 l dC dI _ xa xtape tp rd au xdr hy g hs tg sg ss rm ti py bu sm nc np ne st0 q4 q5 q6 q7 q8 q9 q10 q11 q12 q13 q14 q15 q16 k_f4 f4 k_f5 q_f5 k_f6 q_f6 k_f7 f7 k_f8 q_f8 k_f9 q_f9 k_f10 f10 k_f11 f11 k_f12 f12 k_f13 f13 k_f14 f14 k_f15 f15 k_f16 f16 sg uz u1 u2 u3 u4 u5 uc ufull ux z_gway_46 z_gav_41 z_ggoal_42 z_gfound_43 z_gl_44 z_gsz_45 u16 u17 k_fuz k_s1u q_s1u k_s2u s2u k_s3u s3u k_s4u s4u k_s5u s5u k_hiu z_fhi_39 k_lou z_flo_40 k_fbu fbu N o az ac kz qs fz htp hhs hss hnc hnp hne hst0 huc hufull hz_gfound_43 hz_gl_44 hz_gsz_45 (by omega)) (cwV 1 hts g_C_8_soonest_C_8_beginAtZero_25 rfl rfl rfl (by decide +kernel) ⟨Nat.le_of_ble_eq_true rfl, Nat.le_of_ble_eq_true rfl⟩) ⟨pu_bl, va_recv hK hP (ci := 8) (q0 := 0) rfl rfl, pu_in hP hK hD⟩ rfl rfl hl.1 rfl (lv_room (Nat.le_of_ble_eq_true rfl)) eX8_soonest_53 ⟨Nat.le_of_ble_eq_true rfl, Nat.le_of_ble_eq_true rfl⟩) hS (fun q _ h => hFc q h) hFc (fun u t H1 locs ht hvm hw hB hz1 hk1 hS => ?_)
          obtain ⟨z_s1gx_48, z_s2gx_49, z_s3gx_50, z_s4gx_51, z_s5gx_52, z_fbu_53, z_gxfound_54, z_gxc_55, z_gxfull_56, z_gxx_57, z_fz_58, z_qs_59, ⟨hP1, -, hD1⟩, hz_gxfound_54, hz_gxc_55, hz_gxfull_56, xr_47_0⟩ := hB
          rw [ht] at hP1
          have hP := hP1
          have hD := pu_all hFc hD1
          clear hP1 hD1 hFc
          clear hk1 hz1 ht hvm
          generalize H1 = H at hP hS ⊢
          refine lv_aload_n hx hb eX8_soonest_56 rfl (lv_at hl 0 rfl) ?_
          refine va_get (D := (dC, dI)) (ci := 8) (v := .ref sg) (C := RX8) (T := TX8) (N := 16) hx hb hts hiX8 hown hK hP 0 rfl rfl 9 (by decide) v_7 (fun _ h9 => h9) rfl eX8_soonest_57 ?_
          refine lv_aload_n hx hb eX8_soonest_60 rfl (lv_at hl 0 rfl) ?_
          refine va_get (D := (dC, dI)) (ci := 8) (v := .ref au) (C := RX8) (T := TX8) (N := 16) hx hb hts hiX8 hown hK hP 0 rfl rfl 3 (by decide) v_8 (fun _ h9 => h9) rfl eX8_soonest_61 ?_
          have hPc : va_P (dC, dI) vwCl ([(sg, .inr (1, [.ref uz, .ref u1, .ref u2, .ref u3, .ref u4, .ref u5, .int (nI z_gxc_55), .int (nI z_gxfull_56), .int z_gxx_57, .int z_gway_46, .int z_gav_41, .int z_ggoal_42, .int (nI z_gxfound_54), .int 400, .int (nI z_gl_44), .int (nI z_gsz_45), .ref u16, .ref u17])), (uz, .inl (k_fuz, 401, .inr (.inr (.inr (.inr (zs o 401 az)))))), (u1, .inl (k_s1u, 400, .inl (bN 7 z_s1gx_48))), (u2, .inl (k_s2u, 400, .inl z_s2gx_49)), (u3, .inl (k_s3u, 400, .inl z_s3gx_50)), (u4, .inl (k_s4u, 400, .inl z_s4gx_51)), (u5, .inl (k_s5u, 400, .inl z_s5gx_52)), (u16, .inl (k_hiu, 5, .inl z_fhi_39)), (u17, .inl (k_lou, 5, .inl z_flo_40)), (au, .inr (0, [.int (nI nc), .int (nI np), .int (nI ne), .int (nI st0), .ref q4, .ref q5, .ref q6, .ref q7, .ref q8, .ref q9, .ref q10, .ref q11, .ref q12, .ref q13, .ref q14, .ref q15, .ref q16])), (q4, .inl (k_f4, 8, .inl f4)), (q5, .inl (k_f5, 14, .inl (bN 7 q_f5))), (q6, .inl (k_f6, 14, .inl (bN 7 q_f6))), (q7, .inl (k_f7, 14, .inl f7)), (q8, .inl (k_f8, 22, .inl (bN 4 q_f8))), (q9, .inl (k_f9, 88, .inl (bN 2 q_f9))), (q10, .inl (k_f10, 88, .inl f10)), (q11, .inl (k_f11, 88, .inl f11)), (q12, .inl (k_f12, 88, .inl f12)), (q13, .inl (k_f13, 88, .inl f13)), (q14, .inl (k_f14, 4, .inl f14)), (q15, .inl (k_f15, 4, .inl f15)), (q16, .inl (k_f16, 4, .inl f16))] ++ zp 5 25 N az ac kz z_qs_59 z_fz_58) _ := hP.part [15, 16, 17, 18, 19, 20, 21, 22, 23, 1, 2, 3, 4, 5, 6, 7, 8, 9, 10, 11, 12, 13, 14] rfl
          have hDc : va_D A ([(sg, .inr (1, [.ref uz, .ref u1, .ref u2, .ref u3, .ref u4, .ref u5, .int (nI z_gxc_55), .int (nI z_gxfull_56), .int z_gxx_57, .int z_gway_46, .int z_gav_41, .int z_ggoal_42, .int (nI z_gxfound_54), .int 400, .int (nI z_gl_44), .int (nI z_gsz_45), .ref u16, .ref u17])), (uz, .inl (k_fuz, 401, .inr (.inr (.inr (.inr (zs o 401 az)))))), (u1, .inl (k_s1u, 400, .inl (bN 7 z_s1gx_48))), (u2, .inl (k_s2u, 400, .inl z_s2gx_49)), (u3, .inl (k_s3u, 400, .inl z_s3gx_50)), (u4, .inl (k_s4u, 400, .inl z_s4gx_51)), (u5, .inl (k_s5u, 400, .inl z_s5gx_52)), (u16, .inl (k_hiu, 5, .inl z_fhi_39)), (u17, .inl (k_lou, 5, .inl z_flo_40)), (au, .inr (0, [.int (nI nc), .int (nI np), .int (nI ne), .int (nI st0), .ref q4, .ref q5, .ref q6, .ref q7, .ref q8, .ref q9, .ref q10, .ref q11, .ref q12, .ref q13, .ref q14, .ref q15, .ref q16])), (q4, .inl (k_f4, 8, .inl f4)), (q5, .inl (k_f5, 14, .inl (bN 7 q_f5))), (q6, .inl (k_f6, 14, .inl (bN 7 q_f6))), (q7, .inl (k_f7, 14, .inl f7)), (q8, .inl (k_f8, 22, .inl (bN 4 q_f8))), (q9, .inl (k_f9, 88, .inl (bN 2 q_f9))), (q10, .inl (k_f10, 88, .inl f10)), (q11, .inl (k_f11, 88, .inl f11)), (q12, .inl (k_f12, 88, .inl f12)), (q13, .inl (k_f13, 88, .inl f13)), (q14, .inl (k_f14, 4, .inl f14)), (q15, .inl (k_f15, 4, .inl f15)), (q16, .inl (k_f16, 4, .inl f16))] ++ zp 5 25 N az ac kz z_qs_59 z_fz_58) := hD.part [15, 16, 17, 18, 19, 20, 21, 22, 23, 1, 2, 3, 4, 5, 6, 7, 8, 9, 10, 11, 12, 13, 14] (by decide) rfl
          have hKc : va_K (dC, dI) vwCl ([(k_fuz, .object RX7), (k_s1u, .int), (k_s2u, .int), (k_s3u, .int), (k_s4u, .int), (k_s5u, .int), (k_hiu, .int), (k_lou, .int), (k_f4, .boolean), (k_f5, .int), (k_f6, .int), (k_f7, .int), (k_f8, .int), (k_f9, .int), (k_f10, .int), (k_f11, .int), (k_f12, .int), (k_f13, .int), (k_f14, .int), (k_f15, .int), (k_f16, .int)] ++ zt N kz) s := zk_part hK [13, 14, 15, 16, 17, 18, 19, 20, 0, 1, 2, 3, 4, 5, 6, 7, 8, 9, 10, 11, 12] rfl
          have hFc := pu_free hDc hS hA
          refine va_callv (va_runV (As := [.ref au]) (rest := []) ⟨hx, hb, hml, hown, hts⟩ (c_C_1_grow_25 l dC dI _ sg uz u1 u2 u3 u4 u5 z_gxc_55 z_gxfull_56 z_gxx_57 z_gway_46 z_gav_41 z_ggoal_42 z_gxfound_54 z_gl_44 z_gsz_45 u16 u17 k_fuz k_s1u z_s1gx_48 k_s2u z_s2gx_49 k_s3u z_s3gx_50 k_s4u z_s4gx_51 k_s5u z_s5gx_52 k_hiu z_fhi_39 k_lou z_flo_40 au nc np ne (nI st0) q4 q5 q6 q7 q8 q9 q10 q11 q12 q13 q14 q15 q16 k_f4 f4 k_f5 q_f5 k_f6 q_f6 k_f7 f7 k_f8 q_f8 k_f9 q_f9 k_f10 f10 k_f11 f11 k_f12 f12 k_f13 f13 k_f14 f14 k_f15 f15 k_f16 f16 N o az ac kz z_qs_59 z_fz_58 hz_gxc_55 hz_gxfull_56 hz_gxfound_54 hz_gl_44 hz_gsz_45 hnc hnp hne (Or.inr ⟨st0, hst0, rfl⟩) (by omega) (by first | assumption | exact gz_0)) (cwV 1 hts g_C_8_soonest_C_1_grow_25 rfl rfl rfl (by decide +kernel) ⟨Nat.le_of_ble_eq_true rfl, Nat.le_of_ble_eq_true rfl⟩) ⟨pu_bl, va_recv hK hP (ci := 1) (q0 := 15) rfl rfl, pu_in hPc hKc hDc⟩ rfl rfl hl.1 rfl (lv_room (Nat.le_of_ble_eq_true rfl)) eX8_soonest_64 ⟨Nat.le_of_ble_eq_true rfl, Nat.le_of_ble_eq_true rfl⟩) hS (fun q _ h => hFc q h) hFc (fun u t H1 locs ht hvm hw hB hz1 hk1 hS => ?_)
          obtain ⟨z_fs1_61, z_fs2_62, z_fs3_63, z_fs4_64, z_fs5_65, z_gfound_66, z_gc_67, z_gfull_68, z_gx_69, z_fz_70, z_qs_71, ⟨hP1, -, hD1⟩, hz_gfound_66, hz_gc_67, hz_gfull_68, xr_60_0⟩ := hB
          rw [ht] at hP1
          obtain ⟨hP, hD⟩ := pj_c (X := (xso__w xa xtape (nI tp) rd au xdr hy g (nI hs) tg sg (nI ss) rm ti py bu sm (nI nc) (nI np) (nI ne) (nI st0) q4 q5 q6 q7 q8 q9 q10 q11 q12 q13 q14 q15 q16 k_f4 f4 k_f5 (bN 7 q_f5) k_f6 (bN 7 q_f6) k_f7 f7 k_f8 (bN 4 q_f8) k_f9 (bN 2 q_f9) k_f10 f10 k_f11 f11 k_f12 f12 k_f13 f13 k_f14 f14 k_f15 f15 k_f16 f16 uz u1 u2 u3 u4 u5 (nI z_gxc_55) (nI z_gxfull_56) z_gxx_57 z_gway_46 z_gav_41 z_ggoal_42 (nI z_gxfound_54) 400 (nI z_gl_44) (nI z_gsz_45) u16 u17 k_fuz (zs o 401 az) k_s1u (bN 7 z_s1gx_48) k_s2u z_s2gx_49 k_s3u z_s3gx_50 k_s4u z_s4gx_51 k_s5u z_s5gx_52 k_hiu z_fhi_39 k_lou z_flo_40 k_fbu z_fbu_53)) (X' := (xso__w xa xtape (nI tp) rd au xdr hy g (nI hs) tg sg (nI ss) rm ti py bu sm (nI nc) (nI np) (nI ne) (nI st0) q4 q5 q6 q7 q8 q9 q10 q11 q12 q13 q14 q15 q16 k_f4 f4 k_f5 (bN 7 q_f5) k_f6 (bN 7 q_f6) k_f7 f7 k_f8 (bN 4 q_f8) k_f9 (bN 2 q_f9) k_f10 f10 k_f11 f11 k_f12 f12 k_f13 f13 k_f14 f14 k_f15 f15 k_f16 f16 uz u1 u2 u3 u4 u5 (nI z_gc_67) (nI z_gfull_68) z_gx_69 z_gway_46 z_gav_41 z_ggoal_42 (nI z_gfound_66) 400 (nI z_gl_44) (nI z_gsz_45) u16 u17 k_fuz (zs o 401 az) k_s1u (bN 7 z_fs1_61) k_s2u z_fs2_62 k_s3u z_fs3_63 k_s4u z_fs4_64 k_s5u z_fs5_65 k_hiu z_fhi_39 k_lou z_flo_40 k_fbu z_fbu_53)) (wc := (gt1__w sg uz u1 u2 u3 u4 u5 (nI z_gxc_55) (nI z_gxfull_56) z_gxx_57 z_gway_46 z_gav_41 z_ggoal_42 (nI z_gxfound_54) 400 (nI z_gl_44) (nI z_gsz_45) u16 u17 k_fuz (zs o 401 az) k_s1u (bN 7 z_s1gx_48) k_s2u z_s2gx_49 k_s3u z_s3gx_50 k_s4u z_s4gx_51 k_s5u z_s5gx_52 k_hiu z_fhi_39 k_lou z_flo_40 au (nI nc) (nI np) (nI ne) (nI st0) q4 q5 q6 q7 q8 q9 q10 q11 q12 q13 q14 q15 q16 k_f4 f4 k_f5 (bN 7 q_f5) k_f6 (bN 7 q_f6) k_f7 f7 k_f8 (bN 4 q_f8) k_f9 (bN 2 q_f9) k_f10 f10 k_f11 f11 k_f12 f12 k_f13 f13 k_f14 f14 k_f15 f15 k_f16 f16)) (w1 := (gt1__w sg uz u1 u2 u3 u4 u5 (nI z_gc_67) (nI z_gfull_68) z_gx_69 z_gway_46 z_gav_41 z_ggoal_42 (nI z_gfound_66) 400 (nI z_gl_44) (nI z_gsz_45) u16 u17 k_fuz (zs o 401 az) k_s1u (bN 7 z_fs1_61) k_s2u z_fs2_62 k_s3u z_fs3_63 k_s4u z_fs4_64 k_s5u z_fs5_65 k_hiu z_fhi_39 k_lou z_flo_40 au (nI nc) (nI np) (nI ne) (nI st0) q4 q5 q6 q7 q8 q9 q10 q11 q12 q13 q14 q15 q16 k_f4 f4 k_f5 (bN 7 q_f5) k_f6 (bN 7 q_f6) k_f7 f7 k_f8 (bN 4 q_f8) k_f9 (bN 2 q_f9) k_f10 f10 k_f11 f11 k_f12 f12 k_f13 f13 k_f14 f14 k_f15 f15 k_f16 f16)) hP hD [15, 16, 17, 18, 19, 20, 21, 22, 23, 1, 2, 3, 4, 5, 6, 7, 8, 9, 10, 11, 12, 13, 14] [23, 9, 10, 11, 12, 13, 14, 15, 16, 17, 18, 19, 20, 21, 22, 0, 1, 2, 3, 4, 5, 6, 7, 8, 47] 23 rfl hk1 hP1 rfl zp_f rfl rfl (by decide)
          clear hP1 hD1 hFc
          clear hPc hDc hKc
          clear hk1 hz1 ht hvm
          generalize H1 = H at hP hS ⊢
          refine lv_aload_n hx hb eX8_soonest_67 rfl (lv_at hl 0 rfl) ?_
          refine lv_iconst (v := 1) hx hb eX8_soonest_68 (by decide) ?_
          refine va_put (D := (dC, dI)) (ci := 8) (v := .int 1) (ty := .boolean) (C := RX8) (T := TX8) (N := 16) hx hb hts hiX8 tyX8 tyX8_ok nmX8 hown hK hP hD hS 0 rfl rfl 10 (by decide) v_6 (fun _ h9 => h9) rfl (by decide +kernel) rfl rfl (Nat.le_of_ble_eq_true rfl) eX8_soonest_69 (fun H locs hP hD hS => ?_)
          have hP : va_P (dC, dI) vwCl ((xso__w xa xtape (nI tp) rd au xdr hy g (nI hs) tg sg 1 rm ti py bu sm (nI nc) (nI np) (nI ne) (nI st0) q4 q5 q6 q7 q8 q9 q10 q11 q12 q13 q14 q15 q16 k_f4 f4 k_f5 (bN 7 q_f5) k_f6 (bN 7 q_f6) k_f7 f7 k_f8 (bN 4 q_f8) k_f9 (bN 2 q_f9) k_f10 f10 k_f11 f11 k_f12 f12 k_f13 f13 k_f14 f14 k_f15 f15 k_f16 f16 uz u1 u2 u3 u4 u5 (nI z_gc_67) (nI z_gfull_68) z_gx_69 z_gway_46 z_gav_41 z_ggoal_42 (nI z_gfound_66) 400 (nI z_gl_44) (nI z_gsz_45) u16 u17 k_fuz (zs o 401 az) k_s1u (bN 7 z_fs1_61) k_s2u z_fs2_62 k_s3u z_fs3_63 k_s4u z_fs4_64 k_s5u z_fs5_65 k_hiu z_fhi_39 k_lou z_flo_40 k_fbu z_fbu_53) ++ zp 5 25 N az ac kz z_qs_71 z_fz_70) H := hP
          have hD : va_D A ((xso__w xa xtape (nI tp) rd au xdr hy g (nI hs) tg sg 1 rm ti py bu sm (nI nc) (nI np) (nI ne) (nI st0) q4 q5 q6 q7 q8 q9 q10 q11 q12 q13 q14 q15 q16 k_f4 f4 k_f5 (bN 7 q_f5) k_f6 (bN 7 q_f6) k_f7 f7 k_f8 (bN 4 q_f8) k_f9 (bN 2 q_f9) k_f10 f10 k_f11 f11 k_f12 f12 k_f13 f13 k_f14 f14 k_f15 f15 k_f16 f16 uz u1 u2 u3 u4 u5 (nI z_gc_67) (nI z_gfull_68) z_gx_69 z_gway_46 z_gav_41 z_ggoal_42 (nI z_gfound_66) 400 (nI z_gl_44) (nI z_gsz_45) u16 u17 k_fuz (zs o 401 az) k_s1u (bN 7 z_fs1_61) k_s2u z_fs2_62 k_s3u z_fs3_63 k_s4u z_fs4_64 k_s5u z_fs5_65 k_hiu z_fhi_39 k_lou z_flo_40 k_fbu z_fbu_53) ++ zp 5 25 N az ac kz z_qs_71 z_fz_70) := hD
          exact j_27 _ _ _ _ ⟨1, z_gc_67, z_gfull_68, z_gx_69, z_gway_46, z_gav_41, z_ggoal_42, z_gfound_66, z_gl_44, z_gsz_45, z_fs1_61, z_fs2_62, z_fs3_63, z_fs4_64, z_fs5_65, z_fhi_39, z_flo_40, z_fbu_53, z_qs_71, z_fz_70, rfl, ⟨by omega, by omega⟩, hz_gc_67, hz_gfull_68, hz_gfound_66, hz_gl_44, hz_gsz_45, by first | assumption | exact gz_0, hP, hD, hS, lv_sub hl [0, 1, 2] rfl⟩
      · refine lv_iconst (v := (-1)) hx hb eX8_soonest_17 (by decide) ?_
        exact W.iret (v := (-1)) hx hb hr (fun t ht hW => ⟨⟨(-1), (), rfl, trivial, ⟨q_s1u, s2u, s3u, s4u, s5u, hiu, lou, fbu, ss, uav, ugoal, ufound, ul, usz, uc, ufull, ux, uway, fz, qs, ⟨by rw [ht]; exact hP, va_K.moved hW.alike hK, hD⟩, hss, hufound, hul, husz, huc, hufull, by first | assumption | exact gz_0⟩⟩, hS.F ht⟩) hS.2.2 eX8_soonest_18
  · refine lv_if_eq (tgt := 17) hx hb eX8_soonest_5 (by decide) (fun _ => ?_) (fun z => absurd z (by decide))
    refine lv_iconst (v := (-1)) hx hb eX8_soonest_17 (by decide) ?_
    exact W.iret (v := (-1)) hx hb hr (fun t ht hW => ⟨⟨(-1), (), rfl, trivial, ⟨q_s1u, s2u, s3u, s4u, s5u, hiu, lou, fbu, ss, uav, ugoal, ufound, ul, usz, uc, ufull, ux, uway, fz, qs, ⟨by rw [ht]; exact hP, va_K.moved hW.alike hK, hD⟩, hss, hufound, hul, husz, huc, hufull, by first | assumption | exact gz_0⟩⟩, hS.F ht⟩) hS.2.2 eX8_soonest_18
