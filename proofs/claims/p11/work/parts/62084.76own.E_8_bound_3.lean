theorem eX8_bound_0 : decode cX8_bound 0 = .ok (.iload_n 2, 1) := by decide +kernel
theorem eX8_bound_1 : decode cX8_bound 1 = .ok (.iconst (-1), 1) := by decide +kernel
theorem eX8_bound_2 : decode cX8_bound 2 = .ok (.if_icmp .lt 34, 3) := by decide +kernel
theorem eX8_bound_5 : decode cX8_bound 5 = .ok (.iload_n 2, 1) := by decide +kernel
theorem eX8_bound_6 : decode cX8_bound 6 = .ok (.aload_n 0, 1) := by decide +kernel
theorem eX8_bound_7 : decode cX8_bound 7 = .ok (.getfield 23, 3) := by decide +kernel
theorem eX8_bound_10 : decode cX8_bound 10 = .ok (.getfield 116, 3) := by decide +kernel
theorem eX8_bound_13 : decode cX8_bound 13 = .ok (.if_icmp .ge 23, 3) := by decide +kernel
theorem eX8_bound_16 : decode cX8_bound 16 = .ok (.iload_n 3, 1) := by decide +kernel
theorem eX8_bound_17 : decode cX8_bound 17 = .ok (.iconst (-1), 1) := by decide +kernel
theorem eX8_bound_18 : decode cX8_bound 18 = .ok (.if_icmp .lt 18, 3) := by decide +kernel
theorem eX8_bound_21 : decode cX8_bound 21 = .ok (.iload_n 3, 1) := by decide +kernel
theorem eX8_bound_22 : decode cX8_bound 22 = .ok (.aload_n 0, 1) := by decide +kernel
theorem eX8_bound_23 : decode cX8_bound 23 = .ok (.getfield 23, 3) := by decide +kernel
theorem eX8_bound_26 : decode cX8_bound 26 = .ok (.getfield 116, 3) := by decide +kernel
theorem eX8_bound_29 : decode cX8_bound 29 = .ok (.if_icmp .ge 7, 3) := by decide +kernel
theorem eX8_bound_32 : decode cX8_bound 32 = .ok (.iconst 1, 1) := by decide +kernel
theorem eX8_bound_33 : decode cX8_bound 33 = .ok (.goto 4, 3) := by decide +kernel
theorem eX8_bound_36 : decode cX8_bound 36 = .ok (.iconst 0, 1) := by decide +kernel
theorem eX8_bound_37 : decode cX8_bound 37 = .ok (.istore 5, 2) := by decide +kernel
theorem eX8_bound_39 : decode cX8_bound 39 = .ok (.aload_n 0, 1) := by decide +kernel
theorem eX8_bound_40 : decode cX8_bound 40 = .ok (.iload_n 1, 1) := by decide +kernel
theorem eX8_bound_41 : decode cX8_bound 41 = .ok (.invokevirtual 228, 3) := by decide +kernel
theorem eX8_bound_44 : decode cX8_bound 44 = .ok (.ifCond .eq 19, 3) := by decide +kernel
theorem eX8_bound_47 : decode cX8_bound 47 = .ok (.iload 5, 2) := by decide +kernel
theorem eX8_bound_49 : decode cX8_bound 49 = .ok (.ifCond .eq 14, 3) := by decide +kernel
theorem eX8_bound_52 : decode cX8_bound 52 = .ok (.iload 4, 2) := by decide +kernel
theorem eX8_bound_54 : decode cX8_bound 54 = .ok (.ifCond .lt 9, 3) := by decide +kernel
theorem eX8_bound_57 : decode cX8_bound 57 = .ok (.iload 4, 2) := by decide +kernel
theorem eX8_bound_59 : decode cX8_bound 59 = .ok (.iconst 1, 1) := by decide +kernel
theorem eX8_bound_60 : decode cX8_bound 60 = .ok (.if_icmp .le 7, 3) := by decide +kernel
theorem eX8_bound_63 : decode cX8_bound 63 = .ok (.ldc_w 271, 3) := by decide +kernel
theorem eX8_bound_66 : decode cX8_bound 66 = .ok (.ireturn, 1) := by decide +kernel
theorem eX8_bound_67 : decode cX8_bound 67 = .ok (.aload_n 0, 1) := by decide +kernel
theorem eX8_bound_68 : decode cX8_bound 68 = .ok (.getfield 42, 3) := by decide +kernel
theorem eX8_bound_71 : decode cX8_bound 71 = .ok (.getfield 249, 3) := by decide +kernel
theorem eX8_bound_74 : decode cX8_bound 74 = .ok (.iload_n 1, 1) := by decide +kernel
theorem eX8_bound_75 : decode cX8_bound 75 = .ok (.aaload, 1) := by decide +kernel
theorem eX8_bound_76 : decode cX8_bound 76 = .ok (.iload_n 2, 1) := by decide +kernel
theorem eX8_bound_77 : decode cX8_bound 77 = .ok (.iconst 1, 1) := by decide +kernel
theorem eX8_bound_78 : decode cX8_bound 78 = .ok (.iadd, 1) := by decide +kernel
theorem eX8_bound_79 : decode cX8_bound 79 = .ok (.iload_n 3, 1) := by decide +kernel
theorem eX8_bound_80 : decode cX8_bound 80 = .ok (.iconst 1, 1) := by decide +kernel
theorem eX8_bound_81 : decode cX8_bound 81 = .ok (.iadd, 1) := by decide +kernel
theorem eX8_bound_82 : decode cX8_bound 82 = .ok (.invokevirtual 272, 3) := by decide +kernel
theorem eX8_bound_85 : decode cX8_bound 85 = .ok (.istore 6, 2) := by decide +kernel
theorem eX8_bound_87 : decode cX8_bound 87 = .ok (.iload 6, 2) := by decide +kernel
theorem eX8_bound_89 : decode cX8_bound 89 = .ok (.ldc_w 275, 3) := by decide +kernel
theorem eX8_bound_92 : decode cX8_bound 92 = .ok (.if_icmp .ne 7, 3) := by decide +kernel
theorem eX8_bound_95 : decode cX8_bound 95 = .ok (.ldc_w 275, 3) := by decide +kernel
theorem eX8_bound_98 : decode cX8_bound 98 = .ok (.ireturn, 1) := by decide +kernel
theorem eX8_bound_99 : decode cX8_bound 99 = .ok (.iload 4, 2) := by decide +kernel
theorem eX8_bound_101 : decode cX8_bound 101 = .ok (.ifCond .ne 10, 3) := by decide +kernel
theorem eX8_bound_104 : decode cX8_bound 104 = .ok (.iload 6, 2) := by decide +kernel
theorem eX8_bound_106 : decode cX8_bound 106 = .ok (.iconst 1, 1) := by decide +kernel
theorem eX8_bound_107 : decode cX8_bound 107 = .ok (.ishr, 1) := by decide +kernel
theorem eX8_bound_108 : decode cX8_bound 108 = .ok (.goto 7, 3) := by decide +kernel
theorem eX8_bound_111 : decode cX8_bound 111 = .ok (.iload 6, 2) := by decide +kernel
theorem eX8_bound_113 : decode cX8_bound 113 = .ok (.iconst 1, 1) := by decide +kernel
theorem eX8_bound_114 : decode cX8_bound 114 = .ok (.iand, 1) := by decide +kernel
theorem eX8_bound_115 : decode cX8_bound 115 = .ok (.ireturn, 1) := by decide +kernel
abbrev vs_E_8_bound : List Cond := .code yX8_bound cX8_bound 7 (some .int) :: CM
theorem g_E_8_bound_E_8_isState : GoodIn vs_E_8_bound (wsV RX8 228 RX8 yX8_isState vs_E_8_isState) := cm_gV cm_537 cm_538 cm_539 cm_427 cm_530
theorem g_E_8_bound_E_7_cellOf_16 : GoodIn vs_E_8_bound (wsV RX8 272 RX7 yX7_cellOf vs_E_7_cellOf_16) := cm_gV cm_559 cm_157 cm_158 cm_45 cm_159
noncomputable def sp_E_8_bound (hs : Nat) (nc : Nat) (gc : Nat) (o : Nat) (qs : Nat → Nat) (fz : Nat → Nat → Int32) (p0 : Int32) (p1 : Int32) (p2 : Int32) (p3 : Int32) : Int32 := (if (p1 : Int32) < (-1) then (if hs = 1 ∧ (0 : Int32) ≤ p0 ∧ p0 < nI gc then (slet ((p0 : Int32).toNatClampNeg) (fun n_3 => (-2147483648))) else (-2147483648)) else (if ((nI nc) : Int32) ≤ p1 then (if hs = 1 ∧ (0 : Int32) ≤ p0 ∧ p0 < nI gc then (slet ((p0 : Int32).toNatClampNeg) (fun n_6 => (-2147483648))) else (-2147483648)) else (if (p1 : Int32) = -1 then (if (p2 : Int32) < (-1) then (if hs = 1 ∧ (0 : Int32) ≤ p0 ∧ p0 < nI gc then (slet ((p0 : Int32).toNatClampNeg) (fun n_10 => (-2147483648))) else (-2147483648)) else (if ((nI nc) : Int32) ≤ p2 then (if hs = 1 ∧ (0 : Int32) ≤ p0 ∧ p0 < nI gc then (slet ((p0 : Int32).toNatClampNeg) (fun n_13 => (-2147483648))) else (-2147483648)) else (if (p2 : Int32) = -1 then (if hs = 1 ∧ (0 : Int32) ≤ p0 ∧ p0 < nI gc then (slet ((p0 : Int32).toNatClampNeg) (fun n_16 => (if (p3 : Int32) < 0 then (-2147483648) else (if (p3 : Int32) ≤ 1 then (slet ((p3 : Int32).toNatClampNeg) (fun n_19 => (slet (sp_E_7_cellOf_16 (min (qs (o + n_16)) 4) (fz (o + n_16)) 0 0) (fun r_22 => (if (r_22 : Int32) = 2147483647 then 2147483647 else (if n_19 = 0 then (slet ((r_22 : Int32) >>> ((1 : Int32) &&& 31)) (fun y_26 => y_26)) else (slet ((r_22 : Int32) &&& (1 : Int32)) (fun y_25 => y_25)))))))) else (-2147483648))))) else (-2147483648)) else (slet ((p2 : Int32).toNatClampNeg) (fun n_14 => (if hs = 1 ∧ (0 : Int32) ≤ p0 ∧ p0 < nI gc then (slet ((p0 : Int32).toNatClampNeg) (fun n_28 => (if (p3 : Int32) < 0 then (-2147483648) else (if (p3 : Int32) ≤ 1 then (slet ((p3 : Int32).toNatClampNeg) (fun n_31 => (slet (sp_E_7_cellOf_16 (min (qs (o + n_28)) 4) (fz (o + n_28)) 0 (n_14 + 1)) (fun r_34 => (if (r_34 : Int32) = 2147483647 then 2147483647 else (if n_31 = 0 then (slet ((r_34 : Int32) >>> ((1 : Int32) &&& 31)) (fun y_38 => y_38)) else (slet ((r_34 : Int32) &&& (1 : Int32)) (fun y_37 => y_37)))))))) else (-2147483648))))) else (-2147483648))))))) else (slet ((p1 : Int32).toNatClampNeg) (fun n_7 => (if (p2 : Int32) < (-1) then (if hs = 1 ∧ (0 : Int32) ≤ p0 ∧ p0 < nI gc then (slet ((p0 : Int32).toNatClampNeg) (fun n_41 => (-2147483648))) else (-2147483648)) else (if ((nI nc) : Int32) ≤ p2 then (if hs = 1 ∧ (0 : Int32) ≤ p0 ∧ p0 < nI gc then (slet ((p0 : Int32).toNatClampNeg) (fun n_44 => (-2147483648))) else (-2147483648)) else (if (p2 : Int32) = -1 then (if hs = 1 ∧ (0 : Int32) ≤ p0 ∧ p0 < nI gc then (slet ((p0 : Int32).toNatClampNeg) (fun n_47 => (if (p3 : Int32) < 0 then (-2147483648) else (if (p3 : Int32) ≤ 1 then (slet ((p3 : Int32).toNatClampNeg) (fun n_50 => (slet (sp_E_7_cellOf_16 (min (qs (o + n_47)) 4) (fz (o + n_47)) (n_7 + 1) 0) (fun r_53 => (if (r_53 : Int32) = 2147483647 then 2147483647 else (if n_50 = 0 then (slet ((r_53 : Int32) >>> ((1 : Int32) &&& 31)) (fun y_57 => y_57)) else (slet ((r_53 : Int32) &&& (1 : Int32)) (fun y_56 => y_56)))))))) else (-2147483648))))) else (-2147483648)) else (slet ((p2 : Int32).toNatClampNeg) (fun n_45 => (if hs = 1 ∧ (0 : Int32) ≤ p0 ∧ p0 < nI gc then (slet ((p0 : Int32).toNatClampNeg) (fun n_59 => (if (p3 : Int32) < 0 then (-2147483648) else (if (p3 : Int32) ≤ 1 then (slet ((p3 : Int32).toNatClampNeg) (fun n_62 => (slet (sp_E_7_cellOf_16 (min (qs (o + n_59)) 4) (fz (o + n_59)) (n_7 + 1) (n_45 + 1)) (fun r_65 => (if (r_65 : Int32) = 2147483647 then 2147483647 else (if n_62 = 0 then (slet ((r_65 : Int32) >>> ((1 : Int32) &&& 31)) (fun y_69 => y_69)) else (slet ((r_65 : Int32) &&& (1 : Int32)) (fun y_68 => y_68)))))))) else (-2147483648))))) else (-2147483648))))))))))))
set_option maxHeartbeats 4000000 in
set_option maxRecDepth 100000 in
theorem c_E_8_bound (l : Launch) (dC : Nat → ClassId) (dI : Nat → Nat → Nat) (sz : Nat) (xa : Nat) (xtape : Nat) (tp : Nat) (rd : Nat) (au : Nat) (xdr : Nat) (hy : Nat) (g : Nat) (hs : Nat) (tg : Nat) (sg : Nat) (ss : Nat) (rm : Nat) (ti : Nat) (py : Nat) (bu : Nat) (sm : Nat) (nc : Nat) (np : Nat) (ne : Nat) (st0 : Int32) (q4 : Nat) (q5 : Nat) (q6 : Nat) (q7 : Nat) (q8 : Nat) (q9 : Nat) (q10 : Nat) (q11 : Nat) (q12 : Nat) (q13 : Nat) (q14 : Nat) (q15 : Nat) (q16 : Nat) (k_f4 : ClassId) (f4 : Nat → Int32) (k_f5 : ClassId) (q_f5 : Nat → Nat) (k_f6 : ClassId) (q_f6 : Nat → Nat) (k_f7 : ClassId) (f7 : Nat → Int32) (k_f8 : ClassId) (q_f8 : Nat → Nat) (k_f9 : ClassId) (q_f9 : Nat → Nat) (k_f10 : ClassId) (f10 : Nat → Int32) (k_f11 : ClassId) (f11 : Nat → Int32) (k_f12 : ClassId) (f12 : Nat → Int32) (k_f13 : ClassId) (f13 : Nat → Int32) (k_f14 : ClassId) (f14 : Nat → Int32) (k_f15 : ClassId) (f15 : Nat → Int32) (k_f16 : ClassId) (f16 : Nat → Int32) (gz : Nat) (g1 : Nat) (g2 : Nat) (g3 : Nat) (g4 : Nat) (g5 : Nat) (gc : Nat) (gfull : Nat) (gx : Int32) (gway : Int32) (gav : Int32) (ggoal : Int32) (gfound : Nat) (gl : Nat) (gsz : Nat) (g16 : Nat) (g17 : Nat) (k_fgz : ClassId) (k_s1g : ClassId) (q_s1g : Nat → Nat) (k_s2g : ClassId) (s2g : Nat → Int32) (k_s3g : ClassId) (s3g : Nat → Int32) (k_s4g : ClassId) (s4g : Nat → Int32) (k_s5g : ClassId) (s5g : Nat → Int32) (k_hig : ClassId) (hig : Nat → Int32) (k_log : ClassId) (log : Nat → Int32) (k_fbu : ClassId) (fbu : Nat → Int32) (N : Nat) (o : Nat) (az ac : Nat → Nat) (kz : Nat → ClassId) (qs : Nat → Nat) (fz : Nat → Nat → Int32) (p0 : Int32) (p1 : Int32) (p2 : Int32) (p3 : Int32) (htp : tp ≤ 900) (hhs : hs ≤ 1) (hss : ss ≤ 1) (hnc : nc ≤ 3) (hnp : np ≤ 8) (hne : ne ≤ 14) (hst0 : pm1 7 st0) (hgc : gc ≤ 120) (hgfull : gfull ≤ 1) (hgfound : gfound ≤ 1) (hgl : gl ≤ 1) (hgsz : gsz ≤ 4) (hN : o + 121 ≤ N) : Met l yX8_bound vs_E_8_bound ({ frames := 1, cells := 0, slots := 0, locals := 22 }) (va_Pc [.ref xa, .int p0, .int p1, .int p2, .int p3] (pu_B (dC, dI) ((xg__w xa xtape (nI tp) rd au xdr hy g (nI hs) tg sg (nI ss) rm ti py bu sm (nI nc) (nI np) (nI ne) st0 q4 q5 q6 q7 q8 q9 q10 q11 q12 q13 q14 q15 q16 k_f4 f4 k_f5 (bN 7 q_f5) k_f6 (bN 7 q_f6) k_f7 f7 k_f8 (bN 4 q_f8) k_f9 (bN 2 q_f9) k_f10 f10 k_f11 f11 k_f12 f12 k_f13 f13 k_f14 f14 k_f15 f15 k_f16 f16 gz g1 g2 g3 g4 g5 (nI gc) (nI gfull) gx gway gav ggoal (nI gfound) 120 (nI gl) (nI gsz) g16 g17 k_fgz (zs o 121 az) k_s1g (bN 7 q_s1g) k_s2g s2g k_s3g s3g k_s4g s4g k_s5g s5g k_hig hig k_log log k_fbu fbu) ++ zp 4 16 N az ac kz qs fz) ((xg__t k_f4 k_f5 k_f6 k_f7 k_f8 k_f9 k_f10 k_f11 k_f12 k_f13 k_f14 k_f15 k_f16 k_fgz k_s1g k_s2g k_s3g k_s4g k_s5g k_hig k_log k_fbu) ++ zt N kz) sz)) (va_Qi (fun (r : Int32) (_ : Unit) => r = (sp_E_8_bound hs nc gc o qs fz p0 p1 p2 p3)) (fun _ _ => True) (va_A [] sz)) 0 0 (va_A [] sz) := by
  refine Met.ofW (cc := cX8_bound) (maxL := 7) (ret := (some .int)) (by decide) rfl ?_
  intro p e s m args below meth c s₁ B hml hv
  obtain ⟨rfl, rfl, hP, hK, hD0⟩ := hv
  have hx := B.exec
  have hb := B.bytes
  have hr := B.returns
  have hts := atoms_spec (ws := vs_E_8_bound) B.pre
  have v_6 := hts (.constant RX8 271 (-2147483648)) (List.mem_cons_of_mem _ cm_557)
  have v_7 := hts (.fieldLink RX8 23 "ClockReach" "model" "LClockReach$Automaton;") (List.mem_cons_of_mem _ cm_434)
  have v_8 := hts (.fieldLink RX8 116 "ClockReach$Automaton" "clocks" "I") (List.mem_cons_of_mem _ cm_453)
  have v_9 := hts (.fieldLink RX8 42 "ClockReach" "shown" "LClockReach$Graph;") (List.mem_cons_of_mem _ cm_456)
  have v_10 := hts (.fieldLink RX8 249 "ClockReach$Graph" "zones" "[LClockReach$Zone;") (List.mem_cons_of_mem _ cm_544)
  have v_16 := hts (.constant RX8 275 (2147483647)) (List.mem_cons_of_mem _ cm_558)
  have hown : s.vm.findClass RX8 = some m.cls := findClass_of_methodNamed B.named
  have hlocks := B.notSynchronized
  have hiX0 : ∀ w ∈ wsX00, w ∈ vs_E_8_bound := fun _ h => List.mem_cons_of_mem _ (cm_X0 h)
  have hiX1 : ∀ w ∈ wsX10, w ∈ vs_E_8_bound := fun _ h => List.mem_cons_of_mem _ (cm_X1 h)
  have hiX8 : ∀ w ∈ wsX80, w ∈ vs_E_8_bound := fun _ h => List.mem_cons_of_mem _ (cm_X8 h)
  have hD := hD0
  have hA : ∀ q : Nat, s.heap.size ≤ q → va_A [] s.heap.size q := fun _ h => Or.inr h
  have hS : va_S (va_A [] s.heap.size) s.heap s.heap [] := va_S.rf
  have hl := lv_entry ([.ref xa, .int p0, .int p1, .int p2, .int p3]) (n := 7) (Nat.le_of_ble_eq_true rfl)
  rw [lg_entry_eq]
  generalize (lg_sl ([.ref xa, .int p0, .int p1, .int p2, .int p3]) ++ List.replicate (7 - (lg_sl ([.ref xa, .int p0, .int p1, .int p2, .int p3])).length) Slot.unset).toArray = ls at hl ⊢
  have hl : lv_has ls 7 [(0, .ref xa), (1, .int p0), (2, .int p1), (3, .int p2), (4, .int p3)] := hl
  obtain ⟨RR, hRR⟩ : ∃ x, x = (sp_E_8_bound hs nc gc o qs fz p0 p1 p2 p3) := ⟨_, rfl⟩
  have hsp := hRR
  refine lv_iload_n hx hb eX8_bound_0 rfl (lv_at hl 2 rfl) ?_
  refine lv_iconst (v := (-1)) hx hb eX8_bound_1 (by decide) ?_
  refine lv_icmp_lt (tgt := 36) hx hb eX8_bound_2 (by decide) (fun c_1 => ?_) (fun c_1 => ?_)
  · have hcc_1 := c_1
    have hsp := hsp.trans (if_pos c_1)
    refine lv_iconst (v := 0) hx hb eX8_bound_36 (by decide) ?_
    refine lv_istore (lv' := [(5, .int 0), (0, .ref xa), (1, .int p0), (2, .int p1), (3, .int p2), (4, .int p3)]) hx hb eX8_bound_37 hl (by decide) rfl (fun ls hl => ?_)
    refine lv_aload_n hx hb eX8_bound_39 rfl (lv_at hl 1 rfl) ?_
    refine lv_iload_n hx hb eX8_bound_40 rfl (lv_at hl 2 rfl) ?_
    have hPc : va_P (dC, dI) vwCl [(xa, .inr (8, [.ref xtape, .int (nI tp), .ref rd, .ref au, .ref xdr, .ref hy, .ref g, .int (nI hs), .ref tg, .ref sg, .int (nI ss), .ref rm, .ref ti, .ref py, .ref bu, .ref sm])), (g, .inr (1, [.ref gz, .ref g1, .ref g2, .ref g3, .ref g4, .ref g5, .int (nI gc), .int (nI gfull), .int gx, .int gway, .int gav, .int ggoal, .int (nI gfound), .int 120, .int (nI gl), .int (nI gsz), .ref g16, .ref g17]))] _ := hP.sub [0, 15] rfl
    have hDc : va_D (fun _ => True) [(xa, .inr (8, [.ref xtape, .int (nI tp), .ref rd, .ref au, .ref xdr, .ref hy, .ref g, .int (nI hs), .ref tg, .ref sg, .int (nI ss), .ref rm, .ref ti, .ref py, .ref bu, .ref sm])), (g, .inr (1, [.ref gz, .ref g1, .ref g2, .ref g3, .ref g4, .ref g5, .int (nI gc), .int (nI gfull), .int gx, .int gway, .int gav, .int ggoal, .int (nI gfound), .int 120, .int (nI gl), .int (nI gsz), .ref g16, .ref g17]))] := (zp_left hD).sub [0, 15] (by decide) rfl
    have hKc : va_K (dC, dI) vwCl [] s := hK.sub [] rfl
    refine va_calli (va_runV (As := [.int p0]) (rest := []) ⟨hx, hb, hml, hown, hts⟩ (c_E_8_isState l dC dI _ xa xtape tp rd au xdr hy g hs tg sg ss rm ti py bu sm gz g1 g2 g3 g4 g5 gc gfull gx gway gav ggoal gfound gl gsz g16 g17 p0 htp hhs hss hgc hgfull hgfound hgl hgsz) (cwV 1 hts g_E_8_bound_E_8_isState rfl rfl rfl (by decide +kernel) ⟨Nat.le_of_ble_eq_true rfl, Nat.le_of_ble_eq_true rfl⟩) ⟨pu_bl, va_recv hK hP (ci := 8) (q0 := 0) rfl rfl, pu_in hPc hKc hDc⟩ rfl rfl hl.1 rfl (lv_room (Nat.le_of_ble_eq_true rfl)) eX8_bound_41 ⟨Nat.le_of_ble_eq_true rfl, Nat.le_of_ble_eq_true rfl⟩) hS (fun q _ h => pu_fr hS hA q h) (pu_fr hS hA) (fun r_2 u t H1 locs ht hvm hw hB hz1 hk1 hS => ?_)
    have hP := pu_keep hP hk1
    clear hPc hDc hKc
    clear hk1 hz1 ht hvm
    generalize H1 = H at hP hS ⊢
    rcases hw with ⟨rfl, hw⟩ | ⟨rfl, hn⟩
    · obtain ⟨hs1, n_3, hn_3, rfl⟩ := hw
      have hsp := hsp.trans (if_pos ⟨hs1, in_q hn_3 (by omega)⟩)
      have hsp := hsp.trans (slet_eq (nI_cl (n := n_3) (by omega)))
      refine lv_if_eq (tgt := 63) hx hb eX8_bound_44 (by decide) (fun z => absurd z (by decide)) (fun _ => ?_)
      refine lv_iload hx hb eX8_bound_47 (lv_at hl 0 rfl) ?_
      refine lv_if_eq (tgt := 63) hx hb eX8_bound_49 (by decide) (fun _ => ?_) (fun z => absurd z (by decide))
      refine lv_ldcw hx hb hown v_6 eX8_bound_63 ?_
      exact W.iret (v := (-2147483648)) hx hb hr (fun t ht hW => ⟨⟨(-2147483648), (), rfl, (hsp.symm.trans hRR), trivial⟩, hS.F ht⟩) hS.2.2 eX8_bound_66
    · have hsp := hsp.trans (if_neg hn)
      refine lv_if_eq (tgt := 63) hx hb eX8_bound_44 (by decide) (fun _ => ?_) (fun z => absurd z (by decide))
      refine lv_ldcw hx hb hown v_6 eX8_bound_63 ?_
      exact W.iret (v := (-2147483648)) hx hb hr (fun t ht hW => ⟨⟨(-2147483648), (), rfl, (hsp.symm.trans hRR), trivial⟩, hS.F ht⟩) hS.2.2 eX8_bound_66
  · have hcc_1 := c_1
    have hsp := hsp.trans (if_neg c_1)
    have lp1 : -1 ≤ p1 := Int32.not_lt.mp c_1
    refine lv_iload_n hx hb eX8_bound_5 rfl (lv_at hl 2 rfl) ?_
    refine lv_aload_n hx hb eX8_bound_6 rfl (lv_at hl 0 rfl) ?_
    refine va_get (D := (dC, dI)) (ci := 8) (v := .ref au) (C := RX8) (T := TX8) (N := 16) hx hb hts hiX8 hown hK hP 0 rfl rfl 3 (by decide) v_7 (fun _ h9 => h9) rfl eX8_bound_7 ?_
    refine va_get (D := (dC, dI)) (ci := 0) (v := .int (nI nc)) (C := RX0) (T := TX0) (N := 17) hx hb hts hiX0 hown hK hP 1 rfl rfl 0 (by decide) v_8 (fun _ h9 => h9) rfl eX8_bound_10 ?_
    refine lv_icmp_ge (tgt := 36) hx hb eX8_bound_13 (by decide) (fun c_4 => ?_) (fun c_4 => ?_)
    · have hcc_4 := c_4
      have hsp := hsp.trans (if_pos c_4)
      refine lv_iconst (v := 0) hx hb eX8_bound_36 (by decide) ?_
      refine lv_istore (lv' := [(5, .int 0), (0, .ref xa), (1, .int p0), (2, .int p1), (3, .int p2), (4, .int p3)]) hx hb eX8_bound_37 hl (by decide) rfl (fun ls hl => ?_)
      refine lv_aload_n hx hb eX8_bound_39 rfl (lv_at hl 1 rfl) ?_
      refine lv_iload_n hx hb eX8_bound_40 rfl (lv_at hl 2 rfl) ?_
      have hPc : va_P (dC, dI) vwCl [(xa, .inr (8, [.ref xtape, .int (nI tp), .ref rd, .ref au, .ref xdr, .ref hy, .ref g, .int (nI hs), .ref tg, .ref sg, .int (nI ss), .ref rm, .ref ti, .ref py, .ref bu, .ref sm])), (g, .inr (1, [.ref gz, .ref g1, .ref g2, .ref g3, .ref g4, .ref g5, .int (nI gc), .int (nI gfull), .int gx, .int gway, .int gav, .int ggoal, .int (nI gfound), .int 120, .int (nI gl), .int (nI gsz), .ref g16, .ref g17]))] _ := hP.sub [0, 15] rfl
      have hDc : va_D (fun _ => True) [(xa, .inr (8, [.ref xtape, .int (nI tp), .ref rd, .ref au, .ref xdr, .ref hy, .ref g, .int (nI hs), .ref tg, .ref sg, .int (nI ss), .ref rm, .ref ti, .ref py, .ref bu, .ref sm])), (g, .inr (1, [.ref gz, .ref g1, .ref g2, .ref g3, .ref g4, .ref g5, .int (nI gc), .int (nI gfull), .int gx, .int gway, .int gav, .int ggoal, .int (nI gfound), .int 120, .int (nI gl), .int (nI gsz), .ref g16, .ref g17]))] := (zp_left hD).sub [0, 15] (by decide) rfl
      have hKc : va_K (dC, dI) vwCl [] s := hK.sub [] rfl
      refine va_calli (va_runV (As := [.int p0]) (rest := []) ⟨hx, hb, hml, hown, hts⟩ (c_E_8_isState l dC dI _ xa xtape tp rd au xdr hy g hs tg sg ss rm ti py bu sm gz g1 g2 g3 g4 g5 gc gfull gx gway gav ggoal gfound gl gsz g16 g17 p0 htp hhs hss hgc hgfull hgfound hgl hgsz) (cwV 1 hts g_E_8_bound_E_8_isState rfl rfl rfl (by decide +kernel) ⟨Nat.le_of_ble_eq_true rfl, Nat.le_of_ble_eq_true rfl⟩) ⟨pu_bl, va_recv hK hP (ci := 8) (q0 := 0) rfl rfl, pu_in hPc hKc hDc⟩ rfl rfl hl.1 rfl (lv_room (Nat.le_of_ble_eq_true rfl)) eX8_bound_41 ⟨Nat.le_of_ble_eq_true rfl, Nat.le_of_ble_eq_true rfl⟩) hS (fun q _ h => pu_fr hS hA q h) (pu_fr hS hA) (fun r_5 u t H1 locs ht hvm hw hB hz1 hk1 hS => ?_)
      have hP := pu_keep hP hk1
      clear hPc hDc hKc
      clear hk1 hz1 ht hvm
      generalize H1 = H at hP hS ⊢
      rcases hw with ⟨rfl, hw⟩ | ⟨rfl, hn⟩
      · obtain ⟨hs1, n_6, hn_6, rfl⟩ := hw
        have hsp := hsp.trans (if_pos ⟨hs1, in_q hn_6 (by omega)⟩)
        have hsp := hsp.trans (slet_eq (nI_cl (n := n_6) (by omega)))
        refine lv_if_eq (tgt := 63) hx hb eX8_bound_44 (by decide) (fun z => absurd z (by decide)) (fun _ => ?_)
        refine lv_iload hx hb eX8_bound_47 (lv_at hl 0 rfl) ?_
        refine lv_if_eq (tgt := 63) hx hb eX8_bound_49 (by decide) (fun _ => ?_) (fun z => absurd z (by decide))
        refine lv_ldcw hx hb hown v_6 eX8_bound_63 ?_
        exact W.iret (v := (-2147483648)) hx hb hr (fun t ht hW => ⟨⟨(-2147483648), (), rfl, (hsp.symm.trans hRR), trivial⟩, hS.F ht⟩) hS.2.2 eX8_bound_66
      · have hsp := hsp.trans (if_neg hn)
        refine lv_if_eq (tgt := 63) hx hb eX8_bound_44 (by decide) (fun _ => ?_) (fun z => absurd z (by decide))
        refine lv_ldcw hx hb hown v_6 eX8_bound_63 ?_
        exact W.iret (v := (-2147483648)) hx hb hr (fun t ht hW => ⟨⟨(-2147483648), (), rfl, (hsp.symm.trans hRR), trivial⟩, hS.F ht⟩) hS.2.2 eX8_bound_66
    · have hcc_4 := c_4
      have hsp := hsp.trans (if_neg c_4)
      rcases pu_ulm (b := nc) (by omega) lp1 (Int32.not_le.mp c_4) with rfl | ⟨n_7, hn_7, rfl⟩
      · have hsp := hsp.trans (if_pos rfl)
        refine lv_iload_n hx hb eX8_bound_16 rfl (lv_at hl 3 rfl) ?_
        refine lv_iconst (v := (-1)) hx hb eX8_bound_17 (by decide) ?_
        refine lv_icmp_lt (tgt := 36) hx hb eX8_bound_18 (by decide) (fun c_8 => ?_) (fun c_8 => ?_)
        · have hcc_8 := c_8
          have hsp := hsp.trans (if_pos c_8)
          refine lv_iconst (v := 0) hx hb eX8_bound_36 (by decide) ?_
          refine lv_istore (lv' := [(5, .int 0), (0, .ref xa), (1, .int p0), (2, .int (-1)), (3, .int p2), (4, .int p3)]) hx hb eX8_bound_37 hl (by decide) rfl (fun ls hl => ?_)
          refine lv_aload_n hx hb eX8_bound_39 rfl (lv_at hl 1 rfl) ?_
          refine lv_iload_n hx hb eX8_bound_40 rfl (lv_at hl 2 rfl) ?_
          have hPc : va_P (dC, dI) vwCl [(xa, .inr (8, [.ref xtape, .int (nI tp), .ref rd, .ref au, .ref xdr, .ref hy, .ref g, .int (nI hs), .ref tg, .ref sg, .int (nI ss), .ref rm, .ref ti, .ref py, .ref bu, .ref sm])), (g, .inr (1, [.ref gz, .ref g1, .ref g2, .ref g3, .ref g4, .ref g5, .int (nI gc), .int (nI gfull), .int gx, .int gway, .int gav, .int ggoal, .int (nI gfound), .int 120, .int (nI gl), .int (nI gsz), .ref g16, .ref g17]))] _ := hP.sub [0, 15] rfl
          have hDc : va_D (fun _ => True) [(xa, .inr (8, [.ref xtape, .int (nI tp), .ref rd, .ref au, .ref xdr, .ref hy, .ref g, .int (nI hs), .ref tg, .ref sg, .int (nI ss), .ref rm, .ref ti, .ref py, .ref bu, .ref sm])), (g, .inr (1, [.ref gz, .ref g1, .ref g2, .ref g3, .ref g4, .ref g5, .int (nI gc), .int (nI gfull), .int gx, .int gway, .int gav, .int ggoal, .int (nI gfound), .int 120, .int (nI gl), .int (nI gsz), .ref g16, .ref g17]))] := (zp_left hD).sub [0, 15] (by decide) rfl
          have hKc : va_K (dC, dI) vwCl [] s := hK.sub [] rfl
          refine va_calli (va_runV (As := [.int p0]) (rest := []) ⟨hx, hb, hml, hown, hts⟩ (c_E_8_isState l dC dI _ xa xtape tp rd au xdr hy g hs tg sg ss rm ti py bu sm gz g1 g2 g3 g4 g5 gc gfull gx gway gav ggoal gfound gl gsz g16 g17 p0 htp hhs hss hgc hgfull hgfound hgl hgsz) (cwV 1 hts g_E_8_bound_E_8_isState rfl rfl rfl (by decide +kernel) ⟨Nat.le_of_ble_eq_true rfl, Nat.le_of_ble_eq_true rfl⟩) ⟨pu_bl, va_recv hK hP (ci := 8) (q0 := 0) rfl rfl, pu_in hPc hKc hDc⟩ rfl rfl hl.1 rfl (lv_room (Nat.le_of_ble_eq_true rfl)) eX8_bound_41 ⟨Nat.le_of_ble_eq_true rfl, Nat.le_of_ble_eq_true rfl⟩) hS (fun q _ h => pu_fr hS hA q h) (pu_fr hS hA) (fun r_9 u t H1 locs ht hvm hw hB hz1 hk1 hS => ?_)
          have hP := pu_keep hP hk1
          clear hPc hDc hKc
          clear hk1 hz1 ht hvm
          generalize H1 = H at hP hS ⊢
          rcases hw with ⟨rfl, hw⟩ | ⟨rfl, hn⟩
          · obtain ⟨hs1, n_10, hn_10, rfl⟩ := hw
            have hsp := hsp.trans (if_pos ⟨hs1, in_q hn_10 (by omega)⟩)
            have hsp := hsp.trans (slet_eq (nI_cl (n := n_10) (by omega)))
            refine lv_if_eq (tgt := 63) hx hb eX8_bound_44 (by decide) (fun z => absurd z (by decide)) (fun _ => ?_)
            refine lv_iload hx hb eX8_bound_47 (lv_at hl 0 rfl) ?_
            refine lv_if_eq (tgt := 63) hx hb eX8_bound_49 (by decide) (fun _ => ?_) (fun z => absurd z (by decide))
            refine lv_ldcw hx hb hown v_6 eX8_bound_63 ?_
            exact W.iret (v := (-2147483648)) hx hb hr (fun t ht hW => ⟨⟨(-2147483648), (), rfl, (hsp.symm.trans hRR), trivial⟩, hS.F ht⟩) hS.2.2 eX8_bound_66
          · have hsp := hsp.trans (if_neg hn)
            refine lv_if_eq (tgt := 63) hx hb eX8_bound_44 (by decide) (fun _ => ?_) (fun z => absurd z (by decide))
            refine lv_ldcw hx hb hown v_6 eX8_bound_63 ?_
            exact W.iret (v := (-2147483648)) hx hb hr (fun t ht hW => ⟨⟨(-2147483648), (), rfl, (hsp.symm.trans hRR), trivial⟩, hS.F ht⟩) hS.2.2 eX8_bound_66
        · have hcc_8 := c_8
          have hsp := hsp.trans (if_neg c_8)
          have lp2 : -1 ≤ p2 := Int32.not_lt.mp c_8
          refine lv_iload_n hx hb eX8_bound_21 rfl (lv_at hl 3 rfl) ?_
          refine lv_aload_n hx hb eX8_bound_22 rfl (lv_at hl 0 rfl) ?_
          refine va_get (D := (dC, dI)) (ci := 8) (v := .ref au) (C := RX8) (T := TX8) (N := 16) hx hb hts hiX8 hown hK hP 0 rfl rfl 3 (by decide) v_7 (fun _ h9 => h9) rfl eX8_bound_23 ?_
          refine va_get (D := (dC, dI)) (ci := 0) (v := .int (nI nc)) (C := RX0) (T := TX0) (N := 17) hx hb hts hiX0 hown hK hP 1 rfl rfl 0 (by decide) v_8 (fun _ h9 => h9) rfl eX8_bound_26 ?_
          refine lv_icmp_ge (tgt := 36) hx hb eX8_bound_29 (by decide) (fun c_11 => ?_) (fun c_11 => ?_)
          · have hcc_11 := c_11
            have hsp := hsp.trans (if_pos c_11)
            refine lv_iconst (v := 0) hx hb eX8_bound_36 (by decide) ?_
            refine lv_istore (lv' := [(5, .int 0), (0, .ref xa), (1, .int p0), (2, .int (-1)), (3, .int p2), (4, .int p3)]) hx hb eX8_bound_37 hl (by decide) rfl (fun ls hl => ?_)
            refine lv_aload_n hx hb eX8_bound_39 rfl (lv_at hl 1 rfl) ?_
            refine lv_iload_n hx hb eX8_bound_40 rfl (lv_at hl 2 rfl) ?_
            have hPc : va_P (dC, dI) vwCl [(xa, .inr (8, [.ref xtape, .int (nI tp), .ref rd, .ref au, .ref xdr, .ref hy, .ref g, .int (nI hs), .ref tg, .ref sg, .int (nI ss), .ref rm, .ref ti, .ref py, .ref bu, .ref sm])), (g, .inr (1, [.ref gz, .ref g1, .ref g2, .ref g3, .ref g4, .ref g5, .int (nI gc), .int (nI gfull), .int gx, .int gway, .int gav, .int ggoal, .int (nI gfound), .int 120, .int (nI gl), .int (nI gsz), .ref g16, .ref g17]))] _ := hP.sub [0, 15] rfl
            have hDc : va_D (fun _ => True) [(xa, .inr (8, [.ref xtape, .int (nI tp), .ref rd, .ref au, .ref xdr, .ref hy, .ref g, .int (nI hs), .ref tg, .ref sg, .int (nI ss), .ref rm, .ref ti, .ref py, .ref bu, .ref sm])), (g, .inr (1, [.ref gz, .ref g1, .ref g2, .ref g3, .ref g4, .ref g5, .int (nI gc), .int (nI gfull), .int gx, .int gway, .int gav, .int ggoal, .int (nI gfound), .int 120, .int (nI gl), .int (nI gsz), .ref g16, .ref g17]))] := (zp_left hD).sub [0, 15] (by decide) rfl
            have hKc : va_K (dC, dI) vwCl [] s := hK.sub [] rfl
            refine va_calli (va_runV (As := [.int p0]) (rest := []) ⟨hx, hb, hml, hown, hts⟩ (c_E_8_isState l dC dI _ xa xtape tp rd au xdr hy g hs tg sg ss rm ti py bu sm gz g1 g2 g3 g4 g5 gc gfull gx gway gav ggoal gfound gl gsz g16 g17 p0 htp hhs hss hgc hgfull hgfound hgl hgsz) (cwV 1 hts g_E_8_bound_E_8_isState rfl rfl rfl (by decide +kernel) ⟨Nat.le_of_ble_eq_true rfl, Nat.le_of_ble_eq_true rfl⟩) ⟨pu_bl, va_recv hK hP (ci := 8) (q0 := 0) rfl rfl, pu_in hPc hKc hDc⟩ rfl rfl hl.1 rfl (lv_room (Nat.le_of_ble_eq_true rfl)) eX8_bound_41 ⟨Nat.le_of_ble_eq_true rfl, Nat.le_of_ble_eq_true rfl⟩) hS (fun q _ h => pu_fr hS hA q h) (pu_fr hS hA) (fun r_12 u t H1 locs ht hvm hw hB hz1 hk1 hS => ?_)
            have hP := pu_keep hP hk1
            clear hPc hDc hKc
            clear hk1 hz1 ht hvm
            generalize H1 = H at hP hS ⊢
            rcases hw with ⟨rfl, hw⟩ | ⟨rfl, hn⟩
            · obtain ⟨hs1, n_13, hn_13, rfl⟩ := hw
              have hsp := hsp.trans (if_pos ⟨hs1, in_q hn_13 (by omega)⟩)
              have hsp := hsp.trans (slet_eq (nI_cl (n := n_13) (by omega)))
              refine lv_if_eq (tgt := 63) hx hb eX8_bound_44 (by decide) (fun z => absurd z (by decide)) (fun _ => ?_)
              refine lv_iload hx hb eX8_bound_47 (lv_at hl 0 rfl) ?_
              refine lv_if_eq (tgt := 63) hx hb eX8_bound_49 (by decide) (fun _ => ?_) (fun z => absurd z (by decide))
              refine lv_ldcw hx hb hown v_6 eX8_bound_63 ?_
              exact W.iret (v := (-2147483648)) hx hb hr (fun t ht hW => ⟨⟨(-2147483648), (), rfl, (hsp.symm.trans hRR), trivial⟩, hS.F ht⟩) hS.2.2 eX8_bound_66
            · have hsp := hsp.trans (if_neg hn)
              refine lv_if_eq (tgt := 63) hx hb eX8_bound_44 (by decide) (fun _ => ?_) (fun z => absurd z (by decide))
              refine lv_ldcw hx hb hown v_6 eX8_bound_63 ?_
              exact W.iret (v := (-2147483648)) hx hb hr (fun t ht hW => ⟨⟨(-2147483648), (), rfl, (hsp.symm.trans hRR), trivial⟩, hS.F ht⟩) hS.2.2 eX8_bound_66
          · have hcc_11 := c_11
            have hsp := hsp.trans (if_neg c_11)
            rcases pu_ulm (b := nc) (by omega) lp2 (Int32.not_le.mp c_11) with rfl | ⟨n_14, hn_14, rfl⟩
            · have hsp := hsp.trans (if_pos rfl)
              refine lv_iconst (v := 1) hx hb eX8_bound_32 (by decide) ?_
              refine lv_goto (tgt := 37) hx hb eX8_bound_33 (by decide) ?_
              refine lv_istore (lv' := [(5, .int 1), (0, .ref xa), (1, .int p0), (2, .int (-1)), (3, .int (-1)), (4, .int p3)]) hx hb eX8_bound_37 hl (by decide) rfl (fun ls hl => ?_)
              refine lv_aload_n hx hb eX8_bound_39 rfl (lv_at hl 1 rfl) ?_
              refine lv_iload_n hx hb eX8_bound_40 rfl (lv_at hl 2 rfl) ?_
              have hPc : va_P (dC, dI) vwCl [(xa, .inr (8, [.ref xtape, .int (nI tp), .ref rd, .ref au, .ref xdr, .ref hy, .ref g, .int (nI hs), .ref tg, .ref sg, .int (nI ss), .ref rm, .ref ti, .ref py, .ref bu, .ref sm])), (g, .inr (1, [.ref gz, .ref g1, .ref g2, .ref g3, .ref g4, .ref g5, .int (nI gc), .int (nI gfull), .int gx, .int gway, .int gav, .int ggoal, .int (nI gfound), .int 120, .int (nI gl), .int (nI gsz), .ref g16, .ref g17]))] _ := hP.sub [0, 15] rfl
              have hDc : va_D (fun _ => True) [(xa, .inr (8, [.ref xtape, .int (nI tp), .ref rd, .ref au, .ref xdr, .ref hy, .ref g, .int (nI hs), .ref tg, .ref sg, .int (nI ss), .ref rm, .ref ti, .ref py, .ref bu, .ref sm])), (g, .inr (1, [.ref gz, .ref g1, .ref g2, .ref g3, .ref g4, .ref g5, .int (nI gc), .int (nI gfull), .int gx, .int gway, .int gav, .int ggoal, .int (nI gfound), .int 120, .int (nI gl), .int (nI gsz), .ref g16, .ref g17]))] := (zp_left hD).sub [0, 15] (by decide) rfl
              have hKc : va_K (dC, dI) vwCl [] s := hK.sub [] rfl
              refine va_calli (va_runV (As := [.int p0]) (rest := []) ⟨hx, hb, hml, hown, hts⟩ (c_E_8_isState l dC dI _ xa xtape tp rd au xdr hy g hs tg sg ss rm ti py bu sm gz g1 g2 g3 g4 g5 gc gfull gx gway gav ggoal gfound gl gsz g16 g17 p0 htp hhs hss hgc hgfull hgfound hgl hgsz) (cwV 1 hts g_E_8_bound_E_8_isState rfl rfl rfl (by decide +kernel) ⟨Nat.le_of_ble_eq_true rfl, Nat.le_of_ble_eq_true rfl⟩) ⟨pu_bl, va_recv hK hP (ci := 8) (q0 := 0) rfl rfl, pu_in hPc hKc hDc⟩ rfl rfl hl.1 rfl (lv_room (Nat.le_of_ble_eq_true rfl)) eX8_bound_41 ⟨Nat.le_of_ble_eq_true rfl, Nat.le_of_ble_eq_true rfl⟩) hS (fun q _ h => pu_fr hS hA q h) (pu_fr hS hA) (fun r_15 u t H1 locs ht hvm hw hB hz1 hk1 hS => ?_)
              have hP := pu_keep hP hk1
              clear hPc hDc hKc
              clear hk1 hz1 ht hvm
              generalize H1 = H at hP hS ⊢
              rcases hw with ⟨rfl, hw⟩ | ⟨rfl, hn⟩
              · obtain ⟨hs1, n_16, hn_16, rfl⟩ := hw
                have hsp := hsp.trans (if_pos ⟨hs1, in_q hn_16 (by omega)⟩)
                have hsp := hsp.trans (slet_eq (nI_cl (n := n_16) (by omega)))
                refine lv_if_eq (tgt := 63) hx hb eX8_bound_44 (by decide) (fun z => absurd z (by decide)) (fun _ => ?_)
                refine lv_iload hx hb eX8_bound_47 (lv_at hl 0 rfl) ?_
                refine lv_if_eq (tgt := 63) hx hb eX8_bound_49 (by decide) (fun z => absurd z (by decide)) (fun _ => ?_)
                refine lv_iload hx hb eX8_bound_52 (lv_at hl 5 rfl) ?_
                refine lv_if_lt (tgt := 63) hx hb eX8_bound_54 (by decide) (fun c_17 => ?_) (fun c_17 => ?_)
                · have hcc_17 := c_17
                  have hsp := hsp.trans (if_pos c_17)
                  refine lv_ldcw hx hb hown v_6 eX8_bound_63 ?_
                  exact W.iret (v := (-2147483648)) hx hb hr (fun t ht hW => ⟨⟨(-2147483648), (), rfl, (hsp.symm.trans hRR), trivial⟩, hS.F ht⟩) hS.2.2 eX8_bound_66
                · have hcc_17 := c_17
                  have hsp := hsp.trans (if_neg c_17)
                  have lp3 : ¬ p3 < 0 := c_17
                  refine lv_iload hx hb eX8_bound_57 (lv_at hl 5 rfl) ?_
                  refine lv_iconst (v := 1) hx hb eX8_bound_59 (by decide) ?_
                  refine lv_icmp_le (tgt := 67) hx hb eX8_bound_60 (by decide) (fun c_18 => ?_) (fun c_18 => ?_)
                  · have hcc_18 := c_18
                    have hsp := hsp.trans (if_pos c_18)
                    obtain ⟨n_19, hn_19, rfl⟩ := pu_ule (b := 1) (by omega) lp3 (c_18)
                    have hsp := hsp.trans (slet_eq (nI_cl (n := n_19) (by omega)))
                    refine lv_aload_n hx hb eX8_bound_67 rfl (lv_at hl 1 rfl) ?_
                    refine va_get (D := (dC, dI)) (ci := 8) (v := .ref g) (C := RX8) (T := TX8) (N := 16) hx hb hts hiX8 hown hK hP 0 rfl rfl 6 (by decide) v_9 (fun _ h9 => h9) rfl eX8_bound_68 ?_
                    refine va_get (D := (dC, dI)) (ci := 1) (v := .ref gz) (C := RX1) (T := TX1) (N := 18) hx hb hts hiX1 hown hK hP 15 rfl rfl 0 (by decide) v_10 (fun _ h9 => h9) rfl eX8_bound_71 ?_
                    refine lv_iload_n hx hb eX8_bound_74 rfl (lv_at hl 2 rfl) ?_
                    refine va_aldq hx hb hK hP 16 13 rfl rfl (vp_in_nI (n := n_16) (by omega) (Nat.le_of_ble_eq_true rfl)) eX8_bound_75 ?_
                    refine W.eq (g2 := F0 m 76 ls [.ref (az (o + n_16))]) (by rw [zs_get (by omega) (by omega)]) ?_
                    refine lv_iload_n hx hb eX8_bound_76 rfl (lv_at hl 3 rfl) ?_
                    refine lv_iconst (v := 1) hx hb eX8_bound_77 (by decide) ?_
                    refine lv_iadd hx hb eX8_bound_78 ?_
                    refine lv_topi (fun y_20 ey_20 => ?_)
                    obtain rfl : y_20 = 0 := ey_20.trans (by decide)
                    refine lv_iload_n hx hb eX8_bound_79 rfl (lv_at hl 4 rfl) ?_
                    refine lv_iconst (v := 1) hx hb eX8_bound_80 (by decide) ?_
                    refine lv_iadd hx hb eX8_bound_81 ?_
                    refine lv_topi (fun y_21 ey_21 => ?_)
                    obtain rfl : y_21 = 0 := ey_21.trans (by decide)
                    have hPz := zp_cut (k := (o + n_16)) hP (by omega)
                    have hPc : va_P (dC, dI) vwCl ([] ++ [(az (o + n_16), .inr (7, [.ref (ac (o + n_16)), .int (nI (min (qs (o + n_16)) 4))])), (ac (o + n_16), .inl (kz (o + n_16), 16, .inl (fz (o + n_16))))]) _ := va_P.app (hP.sub [] rfl) hPz
                    have hDc : va_D (fun _ => True) ([] ++ [(az (o + n_16), .inr (7, [.ref (ac (o + n_16)), .int (nI (min (qs (o + n_16)) 4))])), (ac (o + n_16), .inl (kz (o + n_16), 16, .inl (fz (o + n_16))))]) := zp_cutD hD (by omega) [] (by decide) rfl
                    have hKc : va_K (dC, dI) vwCl ([] ++ [(kz (o + n_16), .int)]) s := zp_K hK (by omega) [] rfl
                    refine va_calli (va_runV (As := [.int 0, .int 0]) (rest := []) ⟨hx, hb, hml, hown, hts⟩ (c_E_7_cellOf_16 l dC dI _ (az (o + n_16)) (ac (o + n_16)) (min (qs (o + n_16)) 4) (kz (o + n_16)) (fz (o + n_16)) 0 0 (Nat.min_le_right _ _) (Nat.le_of_ble_eq_true rfl) (Nat.le_of_ble_eq_true rfl)) (cwV 2 hts g_E_8_bound_E_7_cellOf_16 rfl rfl rfl (by decide +kernel) ⟨Nat.le_of_ble_eq_true rfl, Nat.le_of_ble_eq_true rfl⟩) ⟨pu_bl, va_recv hK hPz (ci := 7) (q0 := 0) rfl rfl, pu_in hPc hKc hDc⟩ rfl rfl hl.1 rfl (lv_room (Nat.le_of_ble_eq_true rfl)) eX8_bound_82 ⟨Nat.le_of_ble_eq_true rfl, Nat.le_of_ble_eq_true rfl⟩) hS (fun q _ h => pu_fr hS hA q h) (pu_fr hS hA) (fun r_22 u t H1 locs ht hvm hw hB hz1 hk1 hS => ?_)
                    have hP := pu_keep hP hk1
                    clear hPc hDc hKc
                    clear hk1 hz1 ht hvm
                    generalize H1 = H at hP hS ⊢
                    have ir_22 := hw
                    have hsp := hsp.trans (slet_eq ir_22)
                    refine lv_istore (lv' := [(6, .int r_22), (5, .int 1), (0, .ref xa), (1, .int (nI n_16)), (2, .int (-1)), (3, .int (-1)), (4, .int (nI n_19))]) hx hb eX8_bound_85 hl (by decide) rfl (fun ls hl => ?_)
                    refine lv_iload hx hb eX8_bound_87 (lv_at hl 0 rfl) ?_
                    refine lv_ldcw hx hb hown v_16 eX8_bound_89 ?_
                    refine lv_icmp_ne (tgt := 99) hx hb eX8_bound_92 (by decide) (fun c_23 => ?_) (fun c_23 => ?_)
                    · have hcc_23 := c_23
                      have hsp := hsp.trans (if_neg c_23)
                      refine lv_iload hx hb eX8_bound_99 (lv_at hl 6 rfl) ?_
                      refine lv_if_ne (tgt := 111) hx hb eX8_bound_101 (by decide) (fun c_24 => ?_) (fun c_24 => ?_)
                      · have c_24 : ¬ n_19 = 0 := fun z => c_24 ((nI_eq (a := n_19) (b := 0) (by omega) (Nat.le_of_ble_eq_true rfl)).mpr z)
                        have hsp := hsp.trans (if_neg c_24)
                        refine lv_iload hx hb eX8_bound_111 (lv_at hl 0 rfl) ?_
                        refine lv_iconst (v := 1) hx hb eX8_bound_113 (by decide) ?_
                        refine lv_iand hx hb eX8_bound_114 ?_
                        refine lv_topi (fun y_25 ey_25 => ?_)
                        have hsp := hsp.trans (slet_eq ey_25)
                        exact W.iret (v := y_25) hx hb hr (fun t ht hW => ⟨⟨y_25, (), rfl, (hsp.symm.trans hRR), trivial⟩, hS.F ht⟩) hS.2.2 eX8_bound_115
                      · have c_24 : n_19 = 0 := (nI_eq (a := n_19) (b := 0) (by omega) (Nat.le_of_ble_eq_true rfl)).mp c_24
                        have hsp := hsp.trans (if_pos c_24)
                        refine lv_iload hx hb eX8_bound_104 (lv_at hl 0 rfl) ?_
                        refine lv_iconst (v := 1) hx hb eX8_bound_106 (by decide) ?_
                        refine lv_ishr hx hb eX8_bound_107 ?_
                        refine lv_topi (fun y_26 ey_26 => ?_)
                        have hsp := hsp.trans (slet_eq ey_26)
                        refine lv_goto (tgt := 115) hx hb eX8_bound_108 (by decide) ?_
                        exact W.iret (v := y_26) hx hb hr (fun t ht hW => ⟨⟨y_26, (), rfl, (hsp.symm.trans hRR), trivial⟩, hS.F ht⟩) hS.2.2 eX8_bound_115
                    · have hcc_23 := c_23
                      have hsp := hsp.trans (if_pos c_23)
                      refine lv_ldcw hx hb hown v_16 eX8_bound_95 ?_
                      exact W.iret (v := 2147483647) hx hb hr (fun t ht hW => ⟨⟨2147483647, (), rfl, (hsp.symm.trans hRR), trivial⟩, hS.F ht⟩) hS.2.2 eX8_bound_98
                  · have hcc_18 := c_18
                    have hsp := hsp.trans (if_neg c_18)
                    refine lv_ldcw hx hb hown v_6 eX8_bound_63 ?_
                    exact W.iret (v := (-2147483648)) hx hb hr (fun t ht hW => ⟨⟨(-2147483648), (), rfl, (hsp.symm.trans hRR), trivial⟩, hS.F ht⟩) hS.2.2 eX8_bound_66
              · have hsp := hsp.trans (if_neg hn)
                refine lv_if_eq (tgt := 63) hx hb eX8_bound_44 (by decide) (fun _ => ?_) (fun z => absurd z (by decide))
                refine lv_ldcw hx hb hown v_6 eX8_bound_63 ?_
                exact W.iret (v := (-2147483648)) hx hb hr (fun t ht hW => ⟨⟨(-2147483648), (), rfl, (hsp.symm.trans hRR), trivial⟩, hS.F ht⟩) hS.2.2 eX8_bound_66
            · have hsp := hsp.trans (if_neg (pu_nneg (n := n_14) (k := -1) (by omega) (by decide)))
              have hsp := hsp.trans (slet_eq (nI_cl (n := n_14) (by omega)))
              refine lv_iconst (v := 1) hx hb eX8_bound_32 (by decide) ?_
              refine lv_goto (tgt := 37) hx hb eX8_bound_33 (by decide) ?_
              refine lv_istore (lv' := [(5, .int 1), (0, .ref xa), (1, .int p0), (2, .int (-1)), (3, .int (nI n_14)), (4, .int p3)]) hx hb eX8_bound_37 hl (by decide) rfl (fun ls hl => ?_)
              refine lv_aload_n hx hb eX8_bound_39 rfl (lv_at hl 1 rfl) ?_
              refine lv_iload_n hx hb eX8_bound_40 rfl (lv_at hl 2 rfl) ?_
              have hPc : va_P (dC, dI) vwCl [(xa, .inr (8, [.ref xtape, .int (nI tp), .ref rd, .ref au, .ref xdr, .ref hy, .ref g, .int (nI hs), .ref tg, .ref sg, .int (nI ss), .ref rm, .ref ti, .ref py, .ref bu, .ref sm])), (g, .inr (1, [.ref gz, .ref g1, .ref g2, .ref g3, .ref g4, .ref g5, .int (nI gc), .int (nI gfull), .int gx, .int gway, .int gav, .int ggoal, .int (nI gfound), .int 120, .int (nI gl), .int (nI gsz), .ref g16, .ref g17]))] _ := hP.sub [0, 15] rfl
              have hDc : va_D (fun _ => True) [(xa, .inr (8, [.ref xtape, .int (nI tp), .ref rd, .ref au, .ref xdr, .ref hy, .ref g, .int (nI hs), .ref tg, .ref sg, .int (nI ss), .ref rm, .ref ti, .ref py, .ref bu, .ref sm])), (g, .inr (1, [.ref gz, .ref g1, .ref g2, .ref g3, .ref g4, .ref g5, .int (nI gc), .int (nI gfull), .int gx, .int gway, .int gav, .int ggoal, .int (nI gfound), .int 120, .int (nI gl), .int (nI gsz), .ref g16, .ref g17]))] := (zp_left hD).sub [0, 15] (by decide) rfl
              have hKc : va_K (dC, dI) vwCl [] s := hK.sub [] rfl
              refine va_calli (va_runV (As := [.int p0]) (rest := []) ⟨hx, hb, hml, hown, hts⟩ (c_E_8_isState l dC dI _ xa xtape tp rd au xdr hy g hs tg sg ss rm ti py bu sm gz g1 g2 g3 g4 g5 gc gfull gx gway gav ggoal gfound gl gsz g16 g17 p0 htp hhs hss hgc hgfull hgfound hgl hgsz) (cwV 1 hts g_E_8_bound_E_8_isState rfl rfl rfl (by decide +kernel) ⟨Nat.le_of_ble_eq_true rfl, Nat.le_of_ble_eq_true rfl⟩) ⟨pu_bl, va_recv hK hP (ci := 8) (q0 := 0) rfl rfl, pu_in hPc hKc hDc⟩ rfl rfl hl.1 rfl (lv_room (Nat.le_of_ble_eq_true rfl)) eX8_bound_41 ⟨Nat.le_of_ble_eq_true rfl, Nat.le_of_ble_eq_true rfl⟩) hS (fun q _ h => pu_fr hS hA q h) (pu_fr hS hA) (fun r_27 u t H1 locs ht hvm hw hB hz1 hk1 hS => ?_)
              have hP := pu_keep hP hk1
              clear hPc hDc hKc
              clear hk1 hz1 ht hvm
              generalize H1 = H at hP hS ⊢
              rcases hw with ⟨rfl, hw⟩ | ⟨rfl, hn⟩
              · obtain ⟨hs1, n_28, hn_28, rfl⟩ := hw
                have hsp := hsp.trans (if_pos ⟨hs1, in_q hn_28 (by omega)⟩)
                have hsp := hsp.trans (slet_eq (nI_cl (n := n_28) (by omega)))
                refine lv_if_eq (tgt := 63) hx hb eX8_bound_44 (by decide) (fun z => absurd z (by decide)) (fun _ => ?_)
                refine lv_iload hx hb eX8_bound_47 (lv_at hl 0 rfl) ?_
                refine lv_if_eq (tgt := 63) hx hb eX8_bound_49 (by decide) (fun z => absurd z (by decide)) (fun _ => ?_)
                refine lv_iload hx hb eX8_bound_52 (lv_at hl 5 rfl) ?_
                refine lv_if_lt (tgt := 63) hx hb eX8_bound_54 (by decide) (fun c_29 => ?_) (fun c_29 => ?_)
                · have hcc_29 := c_29
                  have hsp := hsp.trans (if_pos c_29)
                  refine lv_ldcw hx hb hown v_6 eX8_bound_63 ?_
                  exact W.iret (v := (-2147483648)) hx hb hr (fun t ht hW => ⟨⟨(-2147483648), (), rfl, (hsp.symm.trans hRR), trivial⟩, hS.F ht⟩) hS.2.2 eX8_bound_66
                · have hcc_29 := c_29
                  have hsp := hsp.trans (if_neg c_29)
                  have lp3 : ¬ p3 < 0 := c_29
                  refine lv_iload hx hb eX8_bound_57 (lv_at hl 5 rfl) ?_
                  refine lv_iconst (v := 1) hx hb eX8_bound_59 (by decide) ?_
                  refine lv_icmp_le (tgt := 67) hx hb eX8_bound_60 (by decide) (fun c_30 => ?_) (fun c_30 => ?_)
                  · have hcc_30 := c_30
                    have hsp := hsp.trans (if_pos c_30)
                    obtain ⟨n_31, hn_31, rfl⟩ := pu_ule (b := 1) (by omega) lp3 (c_30)
                    have hsp := hsp.trans (slet_eq (nI_cl (n := n_31) (by omega)))
                    refine lv_aload_n hx hb eX8_bound_67 rfl (lv_at hl 1 rfl) ?_
                    refine va_get (D := (dC, dI)) (ci := 8) (v := .ref g) (C := RX8) (T := TX8) (N := 16) hx hb hts hiX8 hown hK hP 0 rfl rfl 6 (by decide) v_9 (fun _ h9 => h9) rfl eX8_bound_68 ?_
                    refine va_get (D := (dC, dI)) (ci := 1) (v := .ref gz) (C := RX1) (T := TX1) (N := 18) hx hb hts hiX1 hown hK hP 15 rfl rfl 0 (by decide) v_10 (fun _ h9 => h9) rfl eX8_bound_71 ?_
                    refine lv_iload_n hx hb eX8_bound_74 rfl (lv_at hl 2 rfl) ?_
                    refine va_aldq hx hb hK hP 16 13 rfl rfl (vp_in_nI (n := n_28) (by omega) (Nat.le_of_ble_eq_true rfl)) eX8_bound_75 ?_
                    refine W.eq (g2 := F0 m 76 ls [.ref (az (o + n_28))]) (by rw [zs_get (by omega) (by omega)]) ?_
                    refine lv_iload_n hx hb eX8_bound_76 rfl (lv_at hl 3 rfl) ?_
                    refine lv_iconst (v := 1) hx hb eX8_bound_77 (by decide) ?_
                    refine lv_iadd hx hb eX8_bound_78 ?_
                    refine lv_topi (fun y_32 ey_32 => ?_)
                    obtain rfl : y_32 = 0 := ey_32.trans (by decide)
                    refine lv_iload_n hx hb eX8_bound_79 rfl (lv_at hl 4 rfl) ?_
                    refine lv_iconst (v := 1) hx hb eX8_bound_80 (by decide) ?_
                    refine lv_iadd hx hb eX8_bound_81 ?_
                    refine lv_topi (fun y_33 ey_33 => ?_)
                    obtain rfl : y_33 = (nI (n_14 + 1)) := ey_33.trans (nI_add n_14 1)
                    have hPz := zp_cut (k := (o + n_28)) hP (by omega)
                    have hPc : va_P (dC, dI) vwCl ([] ++ [(az (o + n_28), .inr (7, [.ref (ac (o + n_28)), .int (nI (min (qs (o + n_28)) 4))])), (ac (o + n_28), .inl (kz (o + n_28), 16, .inl (fz (o + n_28))))]) _ := va_P.app (hP.sub [] rfl) hPz
                    have hDc : va_D (fun _ => True) ([] ++ [(az (o + n_28), .inr (7, [.ref (ac (o + n_28)), .int (nI (min (qs (o + n_28)) 4))])), (ac (o + n_28), .inl (kz (o + n_28), 16, .inl (fz (o + n_28))))]) := zp_cutD hD (by omega) [] (by decide) rfl
                    have hKc : va_K (dC, dI) vwCl ([] ++ [(kz (o + n_28), .int)]) s := zp_K hK (by omega) [] rfl
                    refine va_calli (va_runV (As := [.int 0, .int (nI (n_14 + 1))]) (rest := []) ⟨hx, hb, hml, hown, hts⟩ (c_E_7_cellOf_16 l dC dI _ (az (o + n_28)) (ac (o + n_28)) (min (qs (o + n_28)) 4) (kz (o + n_28)) (fz (o + n_28)) 0 (n_14 + 1) (Nat.min_le_right _ _) (Nat.le_of_ble_eq_true rfl) (by omega)) (cwV 2 hts g_E_8_bound_E_7_cellOf_16 rfl rfl rfl (by decide +kernel) ⟨Nat.le_of_ble_eq_true rfl, Nat.le_of_ble_eq_true rfl⟩) ⟨pu_bl, va_recv hK hPz (ci := 7) (q0 := 0) rfl rfl, pu_in hPc hKc hDc⟩ rfl rfl hl.1 rfl (lv_room (Nat.le_of_ble_eq_true rfl)) eX8_bound_82 ⟨Nat.le_of_ble_eq_true rfl, Nat.le_of_ble_eq_true rfl⟩) hS (fun q _ h => pu_fr hS hA q h) (pu_fr hS hA) (fun r_34 u t H1 locs ht hvm hw hB hz1 hk1 hS => ?_)
                    have hP := pu_keep hP hk1
                    clear hPc hDc hKc
                    clear hk1 hz1 ht hvm
                    generalize H1 = H at hP hS ⊢
                    have ir_34 := hw
                    have hsp := hsp.trans (slet_eq ir_34)
                    refine lv_istore (lv' := [(6, .int r_34), (5, .int 1), (0, .ref xa), (1, .int (nI n_28)), (2, .int (-1)), (3, .int (nI n_14)), (4, .int (nI n_31))]) hx hb eX8_bound_85 hl (by decide) rfl (fun ls hl => ?_)
                    refine lv_iload hx hb eX8_bound_87 (lv_at hl 0 rfl) ?_
                    refine lv_ldcw hx hb hown v_16 eX8_bound_89 ?_
                    refine lv_icmp_ne (tgt := 99) hx hb eX8_bound_92 (by decide) (fun c_35 => ?_) (fun c_35 => ?_)
                    · have hcc_35 := c_35
                      have hsp := hsp.trans (if_neg c_35)
                      refine lv_iload hx hb eX8_bound_99 (lv_at hl 6 rfl) ?_
                      refine lv_if_ne (tgt := 111) hx hb eX8_bound_101 (by decide) (fun c_36 => ?_) (fun c_36 => ?_)
                      · have c_36 : ¬ n_31 = 0 := fun z => c_36 ((nI_eq (a := n_31) (b := 0) (by omega) (Nat.le_of_ble_eq_true rfl)).mpr z)
                        have hsp := hsp.trans (if_neg c_36)
                        refine lv_iload hx hb eX8_bound_111 (lv_at hl 0 rfl) ?_
                        refine lv_iconst (v := 1) hx hb eX8_bound_113 (by decide) ?_
                        refine lv_iand hx hb eX8_bound_114 ?_
                        refine lv_topi (fun y_37 ey_37 => ?_)
                        have hsp := hsp.trans (slet_eq ey_37)
                        exact W.iret (v := y_37) hx hb hr (fun t ht hW => ⟨⟨y_37, (), rfl, (hsp.symm.trans hRR), trivial⟩, hS.F ht⟩) hS.2.2 eX8_bound_115
                      · have c_36 : n_31 = 0 := (nI_eq (a := n_31) (b := 0) (by omega) (Nat.le_of_ble_eq_true rfl)).mp c_36
                        have hsp := hsp.trans (if_pos c_36)
                        refine lv_iload hx hb eX8_bound_104 (lv_at hl 0 rfl) ?_
                        refine lv_iconst (v := 1) hx hb eX8_bound_106 (by decide) ?_
                        refine lv_ishr hx hb eX8_bound_107 ?_
                        refine lv_topi (fun y_38 ey_38 => ?_)
                        have hsp := hsp.trans (slet_eq ey_38)
                        refine lv_goto (tgt := 115) hx hb eX8_bound_108 (by decide) ?_
                        exact W.iret (v := y_38) hx hb hr (fun t ht hW => ⟨⟨y_38, (), rfl, (hsp.symm.trans hRR), trivial⟩, hS.F ht⟩) hS.2.2 eX8_bound_115
                    · have hcc_35 := c_35
                      have hsp := hsp.trans (if_pos c_35)
                      refine lv_ldcw hx hb hown v_16 eX8_bound_95 ?_
                      exact W.iret (v := 2147483647) hx hb hr (fun t ht hW => ⟨⟨2147483647, (), rfl, (hsp.symm.trans hRR), trivial⟩, hS.F ht⟩) hS.2.2 eX8_bound_98
                  · have hcc_30 := c_30
                    have hsp := hsp.trans (if_neg c_30)
                    refine lv_ldcw hx hb hown v_6 eX8_bound_63 ?_
                    exact W.iret (v := (-2147483648)) hx hb hr (fun t ht hW => ⟨⟨(-2147483648), (), rfl, (hsp.symm.trans hRR), trivial⟩, hS.F ht⟩) hS.2.2 eX8_bound_66
              · have hsp := hsp.trans (if_neg hn)
                refine lv_if_eq (tgt := 63) hx hb eX8_bound_44 (by decide) (fun _ => ?_) (fun z => absurd z (by decide))
                refine lv_ldcw hx hb hown v_6 eX8_bound_63 ?_
                exact W.iret (v := (-2147483648)) hx hb hr (fun t ht hW => ⟨⟨(-2147483648), (), rfl, (hsp.symm.trans hRR), trivial⟩, hS.F ht⟩) hS.2.2 eX8_bound_66
      · have hsp := hsp.trans (if_neg (pu_nneg (n := n_7) (k := -1) (by omega) (by decide)))
        have hsp := hsp.trans (slet_eq (nI_cl (n := n_7) (by omega)))
        refine lv_iload_n hx hb eX8_bound_16 rfl (lv_at hl 3 rfl) ?_
        refine lv_iconst (v := (-1)) hx hb eX8_bound_17 (by decide) ?_
        refine lv_icmp_lt (tgt := 36) hx hb eX8_bound_18 (by decide) (fun c_39 => ?_) (fun c_39 => ?_)
        · have hcc_39 := c_39
          have hsp := hsp.trans (if_pos c_39)
          refine lv_iconst (v := 0) hx hb eX8_bound_36 (by decide) ?_
          refine lv_istore (lv' := [(5, .int 0), (0, .ref xa), (1, .int p0), (2, .int (nI n_7)), (3, .int p2), (4, .int p3)]) hx hb eX8_bound_37 hl (by decide) rfl (fun ls hl => ?_)
          refine lv_aload_n hx hb eX8_bound_39 rfl (lv_at hl 1 rfl) ?_
          refine lv_iload_n hx hb eX8_bound_40 rfl (lv_at hl 2 rfl) ?_
          have hPc : va_P (dC, dI) vwCl [(xa, .inr (8, [.ref xtape, .int (nI tp), .ref rd, .ref au, .ref xdr, .ref hy, .ref g, .int (nI hs), .ref tg, .ref sg, .int (nI ss), .ref rm, .ref ti, .ref py, .ref bu, .ref sm])), (g, .inr (1, [.ref gz, .ref g1, .ref g2, .ref g3, .ref g4, .ref g5, .int (nI gc), .int (nI gfull), .int gx, .int gway, .int gav, .int ggoal, .int (nI gfound), .int 120, .int (nI gl), .int (nI gsz), .ref g16, .ref g17]))] _ := hP.sub [0, 15] rfl
          have hDc : va_D (fun _ => True) [(xa, .inr (8, [.ref xtape, .int (nI tp), .ref rd, .ref au, .ref xdr, .ref hy, .ref g, .int (nI hs), .ref tg, .ref sg, .int (nI ss), .ref rm, .ref ti, .ref py, .ref bu, .ref sm])), (g, .inr (1, [.ref gz, .ref g1, .ref g2, .ref g3, .ref g4, .ref g5, .int (nI gc), .int (nI gfull), .int gx, .int gway, .int gav, .int ggoal, .int (nI gfound), .int 120, .int (nI gl), .int (nI gsz), .ref g16, .ref g17]))] := (zp_left hD).sub [0, 15] (by decide) rfl
          have hKc : va_K (dC, dI) vwCl [] s := hK.sub [] rfl
          refine va_calli (va_runV (As := [.int p0]) (rest := []) ⟨hx, hb, hml, hown, hts⟩ (c_E_8_isState l dC dI _ xa xtape tp rd au xdr hy g hs tg sg ss rm ti py bu sm gz g1 g2 g3 g4 g5 gc gfull gx gway gav ggoal gfound gl gsz g16 g17 p0 htp hhs hss hgc hgfull hgfound hgl hgsz) (cwV 1 hts g_E_8_bound_E_8_isState rfl rfl rfl (by decide +kernel) ⟨Nat.le_of_ble_eq_true rfl, Nat.le_of_ble_eq_true rfl⟩) ⟨pu_bl, va_recv hK hP (ci := 8) (q0 := 0) rfl rfl, pu_in hPc hKc hDc⟩ rfl rfl hl.1 rfl (lv_room (Nat.le_of_ble_eq_true rfl)) eX8_bound_41 ⟨Nat.le_of_ble_eq_true rfl, Nat.le_of_ble_eq_true rfl⟩) hS (fun q _ h => pu_fr hS hA q h) (pu_fr hS hA) (fun r_40 u t H1 locs ht hvm hw hB hz1 hk1 hS => ?_)
          have hP := pu_keep hP hk1
          clear hPc hDc hKc
          clear hk1 hz1 ht hvm
          generalize H1 = H at hP hS ⊢
          rcases hw with ⟨rfl, hw⟩ | ⟨rfl, hn⟩
          · obtain ⟨hs1, n_41, hn_41, rfl⟩ := hw
            have hsp := hsp.trans (if_pos ⟨hs1, in_q hn_41 (by omega)⟩)
            have hsp := hsp.trans (slet_eq (nI_cl (n := n_41) (by omega)))
            refine lv_if_eq (tgt := 63) hx hb eX8_bound_44 (by decide) (fun z => absurd z (by decide)) (fun _ => ?_)
            refine lv_iload hx hb eX8_bound_47 (lv_at hl 0 rfl) ?_
            refine lv_if_eq (tgt := 63) hx hb eX8_bound_49 (by decide) (fun _ => ?_) (fun z => absurd z (by decide))
            refine lv_ldcw hx hb hown v_6 eX8_bound_63 ?_
            exact W.iret (v := (-2147483648)) hx hb hr (fun t ht hW => ⟨⟨(-2147483648), (), rfl, (hsp.symm.trans hRR), trivial⟩, hS.F ht⟩) hS.2.2 eX8_bound_66
          · have hsp := hsp.trans (if_neg hn)
            refine lv_if_eq (tgt := 63) hx hb eX8_bound_44 (by decide) (fun _ => ?_) (fun z => absurd z (by decide))
            refine lv_ldcw hx hb hown v_6 eX8_bound_63 ?_
            exact W.iret (v := (-2147483648)) hx hb hr (fun t ht hW => ⟨⟨(-2147483648), (), rfl, (hsp.symm.trans hRR), trivial⟩, hS.F ht⟩) hS.2.2 eX8_bound_66
        · have hcc_39 := c_39
          have hsp := hsp.trans (if_neg c_39)
          have lp2 : -1 ≤ p2 := Int32.not_lt.mp c_39
          refine lv_iload_n hx hb eX8_bound_21 rfl (lv_at hl 3 rfl) ?_
          refine lv_aload_n hx hb eX8_bound_22 rfl (lv_at hl 0 rfl) ?_
          refine va_get (D := (dC, dI)) (ci := 8) (v := .ref au) (C := RX8) (T := TX8) (N := 16) hx hb hts hiX8 hown hK hP 0 rfl rfl 3 (by decide) v_7 (fun _ h9 => h9) rfl eX8_bound_23 ?_
          refine va_get (D := (dC, dI)) (ci := 0) (v := .int (nI nc)) (C := RX0) (T := TX0) (N := 17) hx hb hts hiX0 hown hK hP 1 rfl rfl 0 (by decide) v_8 (fun _ h9 => h9) rfl eX8_bound_26 ?_
          refine lv_icmp_ge (tgt := 36) hx hb eX8_bound_29 (by decide) (fun c_42 => ?_) (fun c_42 => ?_)
          · have hcc_42 := c_42
            have hsp := hsp.trans (if_pos c_42)
            refine lv_iconst (v := 0) hx hb eX8_bound_36 (by decide) ?_
            refine lv_istore (lv' := [(5, .int 0), (0, .ref xa), (1, .int p0), (2, .int (nI n_7)), (3, .int p2), (4, .int p3)]) hx hb eX8_bound_37 hl (by decide) rfl (fun ls hl => ?_)
            refine lv_aload_n hx hb eX8_bound_39 rfl (lv_at hl 1 rfl) ?_
            refine lv_iload_n hx hb eX8_bound_40 rfl (lv_at hl 2 rfl) ?_
            have hPc : va_P (dC, dI) vwCl [(xa, .inr (8, [.ref xtape, .int (nI tp), .ref rd, .ref au, .ref xdr, .ref hy, .ref g, .int (nI hs), .ref tg, .ref sg, .int (nI ss), .ref rm, .ref ti, .ref py, .ref bu, .ref sm])), (g, .inr (1, [.ref gz, .ref g1, .ref g2, .ref g3, .ref g4, .ref g5, .int (nI gc), .int (nI gfull), .int gx, .int gway, .int gav, .int ggoal, .int (nI gfound), .int 120, .int (nI gl), .int (nI gsz), .ref g16, .ref g17]))] _ := hP.sub [0, 15] rfl
            have hDc : va_D (fun _ => True) [(xa, .inr (8, [.ref xtape, .int (nI tp), .ref rd, .ref au, .ref xdr, .ref hy, .ref g, .int (nI hs), .ref tg, .ref sg, .int (nI ss), .ref rm, .ref ti, .ref py, .ref bu, .ref sm])), (g, .inr (1, [.ref gz, .ref g1, .ref g2, .ref g3, .ref g4, .ref g5, .int (nI gc), .int (nI gfull), .int gx, .int gway, .int gav, .int ggoal, .int (nI gfound), .int 120, .int (nI gl), .int (nI gsz), .ref g16, .ref g17]))] := (zp_left hD).sub [0, 15] (by decide) rfl
            have hKc : va_K (dC, dI) vwCl [] s := hK.sub [] rfl
            refine va_calli (va_runV (As := [.int p0]) (rest := []) ⟨hx, hb, hml, hown, hts⟩ (c_E_8_isState l dC dI _ xa xtape tp rd au xdr hy g hs tg sg ss rm ti py bu sm gz g1 g2 g3 g4 g5 gc gfull gx gway gav ggoal gfound gl gsz g16 g17 p0 htp hhs hss hgc hgfull hgfound hgl hgsz) (cwV 1 hts g_E_8_bound_E_8_isState rfl rfl rfl (by decide +kernel) ⟨Nat.le_of_ble_eq_true rfl, Nat.le_of_ble_eq_true rfl⟩) ⟨pu_bl, va_recv hK hP (ci := 8) (q0 := 0) rfl rfl, pu_in hPc hKc hDc⟩ rfl rfl hl.1 rfl (lv_room (Nat.le_of_ble_eq_true rfl)) eX8_bound_41 ⟨Nat.le_of_ble_eq_true rfl, Nat.le_of_ble_eq_true rfl⟩) hS (fun q _ h => pu_fr hS hA q h) (pu_fr hS hA) (fun r_43 u t H1 locs ht hvm hw hB hz1 hk1 hS => ?_)
            have hP := pu_keep hP hk1
            clear hPc hDc hKc
            clear hk1 hz1 ht hvm
            generalize H1 = H at hP hS ⊢
            rcases hw with ⟨rfl, hw⟩ | ⟨rfl, hn⟩
            · obtain ⟨hs1, n_44, hn_44, rfl⟩ := hw
              have hsp := hsp.trans (if_pos ⟨hs1, in_q hn_44 (by omega)⟩)
              have hsp := hsp.trans (slet_eq (nI_cl (n := n_44) (by omega)))
              refine lv_if_eq (tgt := 63) hx hb eX8_bound_44 (by decide) (fun z => absurd z (by decide)) (fun _ => ?_)
              refine lv_iload hx hb eX8_bound_47 (lv_at hl 0 rfl) ?_
              refine lv_if_eq (tgt := 63) hx hb eX8_bound_49 (by decide) (fun _ => ?_) (fun z => absurd z (by decide))
              refine lv_ldcw hx hb hown v_6 eX8_bound_63 ?_
              exact W.iret (v := (-2147483648)) hx hb hr (fun t ht hW => ⟨⟨(-2147483648), (), rfl, (hsp.symm.trans hRR), trivial⟩, hS.F ht⟩) hS.2.2 eX8_bound_66
            · have hsp := hsp.trans (if_neg hn)
              refine lv_if_eq (tgt := 63) hx hb eX8_bound_44 (by decide) (fun _ => ?_) (fun z => absurd z (by decide))
              refine lv_ldcw hx hb hown v_6 eX8_bound_63 ?_
              exact W.iret (v := (-2147483648)) hx hb hr (fun t ht hW => ⟨⟨(-2147483648), (), rfl, (hsp.symm.trans hRR), trivial⟩, hS.F ht⟩) hS.2.2 eX8_bound_66
          · have hcc_42 := c_42
            have hsp := hsp.trans (if_neg c_42)
            rcases pu_ulm (b := nc) (by omega) lp2 (Int32.not_le.mp c_42) with rfl | ⟨n_45, hn_45, rfl⟩
            · have hsp := hsp.trans (if_pos rfl)
              refine lv_iconst (v := 1) hx hb eX8_bound_32 (by decide) ?_
              refine lv_goto (tgt := 37) hx hb eX8_bound_33 (by decide) ?_
              refine lv_istore (lv' := [(5, .int 1), (0, .ref xa), (1, .int p0), (2, .int (nI n_7)), (3, .int (-1)), (4, .int p3)]) hx hb eX8_bound_37 hl (by decide) rfl (fun ls hl => ?_)
              refine lv_aload_n hx hb eX8_bound_39 rfl (lv_at hl 1 rfl) ?_
              refine lv_iload_n hx hb eX8_bound_40 rfl (lv_at hl 2 rfl) ?_
              have hPc : va_P (dC, dI) vwCl [(xa, .inr (8, [.ref xtape, .int (nI tp), .ref rd, .ref au, .ref xdr, .ref hy, .ref g, .int (nI hs), .ref tg, .ref sg, .int (nI ss), .ref rm, .ref ti, .ref py, .ref bu, .ref sm])), (g, .inr (1, [.ref gz, .ref g1, .ref g2, .ref g3, .ref g4, .ref g5, .int (nI gc), .int (nI gfull), .int gx, .int gway, .int gav, .int ggoal, .int (nI gfound), .int 120, .int (nI gl), .int (nI gsz), .ref g16, .ref g17]))] _ := hP.sub [0, 15] rfl
              have hDc : va_D (fun _ => True) [(xa, .inr (8, [.ref xtape, .int (nI tp), .ref rd, .ref au, .ref xdr, .ref hy, .ref g, .int (nI hs), .ref tg, .ref sg, .int (nI ss), .ref rm, .ref ti, .ref py, .ref bu, .ref sm])), (g, .inr (1, [.ref gz, .ref g1, .ref g2, .ref g3, .ref g4, .ref g5, .int (nI gc), .int (nI gfull), .int gx, .int gway, .int gav, .int ggoal, .int (nI gfound), .int 120, .int (nI gl), .int (nI gsz), .ref g16, .ref g17]))] := (zp_left hD).sub [0, 15] (by decide) rfl
              have hKc : va_K (dC, dI) vwCl [] s := hK.sub [] rfl
              refine va_calli (va_runV (As := [.int p0]) (rest := []) ⟨hx, hb, hml, hown, hts⟩ (c_E_8_isState l dC dI _ xa xtape tp rd au xdr hy g hs tg sg ss rm ti py bu sm gz g1 g2 g3 g4 g5 gc gfull gx gway gav ggoal gfound gl gsz g16 g17 p0 htp hhs hss hgc hgfull hgfound hgl hgsz) (cwV 1 hts g_E_8_bound_E_8_isState rfl rfl rfl (by decide +kernel) ⟨Nat.le_of_ble_eq_true rfl, Nat.le_of_ble_eq_true rfl⟩) ⟨pu_bl, va_recv hK hP (ci := 8) (q0 := 0) rfl rfl, pu_in hPc hKc hDc⟩ rfl rfl hl.1 rfl (lv_room (Nat.le_of_ble_eq_true rfl)) eX8_bound_41 ⟨Nat.le_of_ble_eq_true rfl, Nat.le_of_ble_eq_true rfl⟩) hS (fun q _ h => pu_fr hS hA q h) (pu_fr hS hA) (fun r_46 u t H1 locs ht hvm hw hB hz1 hk1 hS => ?_)
              have hP := pu_keep hP hk1
              clear hPc hDc hKc
              clear hk1 hz1 ht hvm
              generalize H1 = H at hP hS ⊢
              rcases hw with ⟨rfl, hw⟩ | ⟨rfl, hn⟩
              · obtain ⟨hs1, n_47, hn_47, rfl⟩ := hw
                have hsp := hsp.trans (if_pos ⟨hs1, in_q hn_47 (by omega)⟩)
                have hsp := hsp.trans (slet_eq (nI_cl (n := n_47) (by omega)))
                refine lv_if_eq (tgt := 63) hx hb eX8_bound_44 (by decide) (fun z => absurd z (by decide)) (fun _ => ?_)
                refine lv_iload hx hb eX8_bound_47 (lv_at hl 0 rfl) ?_
                refine lv_if_eq (tgt := 63) hx hb eX8_bound_49 (by decide) (fun z => absurd z (by decide)) (fun _ => ?_)
                refine lv_iload hx hb eX8_bound_52 (lv_at hl 5 rfl) ?_
                refine lv_if_lt (tgt := 63) hx hb eX8_bound_54 (by decide) (fun c_48 => ?_) (fun c_48 => ?_)
                · have hcc_48 := c_48
                  have hsp := hsp.trans (if_pos c_48)
                  refine lv_ldcw hx hb hown v_6 eX8_bound_63 ?_
                  exact W.iret (v := (-2147483648)) hx hb hr (fun t ht hW => ⟨⟨(-2147483648), (), rfl, (hsp.symm.trans hRR), trivial⟩, hS.F ht⟩) hS.2.2 eX8_bound_66
                · have hcc_48 := c_48
                  have hsp := hsp.trans (if_neg c_48)
                  have lp3 : ¬ p3 < 0 := c_48
                  refine lv_iload hx hb eX8_bound_57 (lv_at hl 5 rfl) ?_
                  refine lv_iconst (v := 1) hx hb eX8_bound_59 (by decide) ?_
                  refine lv_icmp_le (tgt := 67) hx hb eX8_bound_60 (by decide) (fun c_49 => ?_) (fun c_49 => ?_)
                  · have hcc_49 := c_49
                    have hsp := hsp.trans (if_pos c_49)
                    obtain ⟨n_50, hn_50, rfl⟩ := pu_ule (b := 1) (by omega) lp3 (c_49)
                    have hsp := hsp.trans (slet_eq (nI_cl (n := n_50) (by omega)))
                    refine lv_aload_n hx hb eX8_bound_67 rfl (lv_at hl 1 rfl) ?_
                    refine va_get (D := (dC, dI)) (ci := 8) (v := .ref g) (C := RX8) (T := TX8) (N := 16) hx hb hts hiX8 hown hK hP 0 rfl rfl 6 (by decide) v_9 (fun _ h9 => h9) rfl eX8_bound_68 ?_
                    refine va_get (D := (dC, dI)) (ci := 1) (v := .ref gz) (C := RX1) (T := TX1) (N := 18) hx hb hts hiX1 hown hK hP 15 rfl rfl 0 (by decide) v_10 (fun _ h9 => h9) rfl eX8_bound_71 ?_
                    refine lv_iload_n hx hb eX8_bound_74 rfl (lv_at hl 2 rfl) ?_
                    refine va_aldq hx hb hK hP 16 13 rfl rfl (vp_in_nI (n := n_47) (by omega) (Nat.le_of_ble_eq_true rfl)) eX8_bound_75 ?_
                    refine W.eq (g2 := F0 m 76 ls [.ref (az (o + n_47))]) (by rw [zs_get (by omega) (by omega)]) ?_
                    refine lv_iload_n hx hb eX8_bound_76 rfl (lv_at hl 3 rfl) ?_
                    refine lv_iconst (v := 1) hx hb eX8_bound_77 (by decide) ?_
                    refine lv_iadd hx hb eX8_bound_78 ?_
                    refine lv_topi (fun y_51 ey_51 => ?_)
                    obtain rfl : y_51 = (nI (n_7 + 1)) := ey_51.trans (nI_add n_7 1)
                    refine lv_iload_n hx hb eX8_bound_79 rfl (lv_at hl 4 rfl) ?_
                    refine lv_iconst (v := 1) hx hb eX8_bound_80 (by decide) ?_
                    refine lv_iadd hx hb eX8_bound_81 ?_
                    refine lv_topi (fun y_52 ey_52 => ?_)
                    obtain rfl : y_52 = 0 := ey_52.trans (by decide)
                    have hPz := zp_cut (k := (o + n_47)) hP (by omega)
                    have hPc : va_P (dC, dI) vwCl ([] ++ [(az (o + n_47), .inr (7, [.ref (ac (o + n_47)), .int (nI (min (qs (o + n_47)) 4))])), (ac (o + n_47), .inl (kz (o + n_47), 16, .inl (fz (o + n_47))))]) _ := va_P.app (hP.sub [] rfl) hPz
                    have hDc : va_D (fun _ => True) ([] ++ [(az (o + n_47), .inr (7, [.ref (ac (o + n_47)), .int (nI (min (qs (o + n_47)) 4))])), (ac (o + n_47), .inl (kz (o + n_47), 16, .inl (fz (o + n_47))))]) := zp_cutD hD (by omega) [] (by decide) rfl
                    have hKc : va_K (dC, dI) vwCl ([] ++ [(kz (o + n_47), .int)]) s := zp_K hK (by omega) [] rfl
                    refine va_calli (va_runV (As := [.int (nI (n_7 + 1)), .int 0]) (rest := []) ⟨hx, hb, hml, hown, hts⟩ (c_E_7_cellOf_16 l dC dI _ (az (o + n_47)) (ac (o + n_47)) (min (qs (o + n_47)) 4) (kz (o + n_47)) (fz (o + n_47)) (n_7 + 1) 0 (Nat.min_le_right _ _) (by omega) (Nat.le_of_ble_eq_true rfl)) (cwV 2 hts g_E_8_bound_E_7_cellOf_16 rfl rfl rfl (by decide +kernel) ⟨Nat.le_of_ble_eq_true rfl, Nat.le_of_ble_eq_true rfl⟩) ⟨pu_bl, va_recv hK hPz (ci := 7) (q0 := 0) rfl rfl, pu_in hPc hKc hDc⟩ rfl rfl hl.1 rfl (lv_room (Nat.le_of_ble_eq_true rfl)) eX8_bound_82 ⟨Nat.le_of_ble_eq_true rfl, Nat.le_of_ble_eq_true rfl⟩) hS (fun q _ h => pu_fr hS hA q h) (pu_fr hS hA) (fun r_53 u t H1 locs ht hvm hw hB hz1 hk1 hS => ?_)
                    have hP := pu_keep hP hk1
                    clear hPc hDc hKc
                    clear hk1 hz1 ht hvm
                    generalize H1 = H at hP hS ⊢
                    have ir_53 := hw
                    have hsp := hsp.trans (slet_eq ir_53)
                    refine lv_istore (lv' := [(6, .int r_53), (5, .int 1), (0, .ref xa), (1, .int (nI n_47)), (2, .int (nI n_7)), (3, .int (-1)), (4, .int (nI n_50))]) hx hb eX8_bound_85 hl (by decide) rfl (fun ls hl => ?_)
                    refine lv_iload hx hb eX8_bound_87 (lv_at hl 0 rfl) ?_
                    refine lv_ldcw hx hb hown v_16 eX8_bound_89 ?_
                    refine lv_icmp_ne (tgt := 99) hx hb eX8_bound_92 (by decide) (fun c_54 => ?_) (fun c_54 => ?_)
                    · have hcc_54 := c_54
                      have hsp := hsp.trans (if_neg c_54)
                      refine lv_iload hx hb eX8_bound_99 (lv_at hl 6 rfl) ?_
                      refine lv_if_ne (tgt := 111) hx hb eX8_bound_101 (by decide) (fun c_55 => ?_) (fun c_55 => ?_)
                      · have c_55 : ¬ n_50 = 0 := fun z => c_55 ((nI_eq (a := n_50) (b := 0) (by omega) (Nat.le_of_ble_eq_true rfl)).mpr z)
                        have hsp := hsp.trans (if_neg c_55)
                        refine lv_iload hx hb eX8_bound_111 (lv_at hl 0 rfl) ?_
                        refine lv_iconst (v := 1) hx hb eX8_bound_113 (by decide) ?_
                        refine lv_iand hx hb eX8_bound_114 ?_
                        refine lv_topi (fun y_56 ey_56 => ?_)
                        have hsp := hsp.trans (slet_eq ey_56)
                        exact W.iret (v := y_56) hx hb hr (fun t ht hW => ⟨⟨y_56, (), rfl, (hsp.symm.trans hRR), trivial⟩, hS.F ht⟩) hS.2.2 eX8_bound_115
                      · have c_55 : n_50 = 0 := (nI_eq (a := n_50) (b := 0) (by omega) (Nat.le_of_ble_eq_true rfl)).mp c_55
                        have hsp := hsp.trans (if_pos c_55)
                        refine lv_iload hx hb eX8_bound_104 (lv_at hl 0 rfl) ?_
                        refine lv_iconst (v := 1) hx hb eX8_bound_106 (by decide) ?_
                        refine lv_ishr hx hb eX8_bound_107 ?_
                        refine lv_topi (fun y_57 ey_57 => ?_)
                        have hsp := hsp.trans (slet_eq ey_57)
                        refine lv_goto (tgt := 115) hx hb eX8_bound_108 (by decide) ?_
                        exact W.iret (v := y_57) hx hb hr (fun t ht hW => ⟨⟨y_57, (), rfl, (hsp.symm.trans hRR), trivial⟩, hS.F ht⟩) hS.2.2 eX8_bound_115
                    · have hcc_54 := c_54
                      have hsp := hsp.trans (if_pos c_54)
                      refine lv_ldcw hx hb hown v_16 eX8_bound_95 ?_
                      exact W.iret (v := 2147483647) hx hb hr (fun t ht hW => ⟨⟨2147483647, (), rfl, (hsp.symm.trans hRR), trivial⟩, hS.F ht⟩) hS.2.2 eX8_bound_98
                  · have hcc_49 := c_49
                    have hsp := hsp.trans (if_neg c_49)
                    refine lv_ldcw hx hb hown v_6 eX8_bound_63 ?_
                    exact W.iret (v := (-2147483648)) hx hb hr (fun t ht hW => ⟨⟨(-2147483648), (), rfl, (hsp.symm.trans hRR), trivial⟩, hS.F ht⟩) hS.2.2 eX8_bound_66
              · have hsp := hsp.trans (if_neg hn)
                refine lv_if_eq (tgt := 63) hx hb eX8_bound_44 (by decide) (fun _ => ?_) (fun z => absurd z (by decide))
                refine lv_ldcw hx hb hown v_6 eX8_bound_63 ?_
                exact W.iret (v := (-2147483648)) hx hb hr (fun t ht hW => ⟨⟨(-2147483648), (), rfl, (hsp.symm.trans hRR), trivial⟩, hS.F ht⟩) hS.2.2 eX8_bound_66
            · have hsp := hsp.trans (if_neg (pu_nneg (n := n_45) (k := -1) (by omega) (by decide)))
              have hsp := hsp.trans (slet_eq (nI_cl (n := n_45) (by omega)))
              refine lv_iconst (v := 1) hx hb eX8_bound_32 (by decide) ?_
              refine lv_goto (tgt := 37) hx hb eX8_bound_33 (by decide) ?_
              refine lv_istore (lv' := [(5, .int 1), (0, .ref xa), (1, .int p0), (2, .int (nI n_7)), (3, .int (nI n_45)), (4, .int p3)]) hx hb eX8_bound_37 hl (by decide) rfl (fun ls hl => ?_)
              refine lv_aload_n hx hb eX8_bound_39 rfl (lv_at hl 1 rfl) ?_
              refine lv_iload_n hx hb eX8_bound_40 rfl (lv_at hl 2 rfl) ?_
              have hPc : va_P (dC, dI) vwCl [(xa, .inr (8, [.ref xtape, .int (nI tp), .ref rd, .ref au, .ref xdr, .ref hy, .ref g, .int (nI hs), .ref tg, .ref sg, .int (nI ss), .ref rm, .ref ti, .ref py, .ref bu, .ref sm])), (g, .inr (1, [.ref gz, .ref g1, .ref g2, .ref g3, .ref g4, .ref g5, .int (nI gc), .int (nI gfull), .int gx, .int gway, .int gav, .int ggoal, .int (nI gfound), .int 120, .int (nI gl), .int (nI gsz), .ref g16, .ref g17]))] _ := hP.sub [0, 15] rfl
              have hDc : va_D (fun _ => True) [(xa, .inr (8, [.ref xtape, .int (nI tp), .ref rd, .ref au, .ref xdr, .ref hy, .ref g, .int (nI hs), .ref tg, .ref sg, .int (nI ss), .ref rm, .ref ti, .ref py, .ref bu, .ref sm])), (g, .inr (1, [.ref gz, .ref g1, .ref g2, .ref g3, .ref g4, .ref g5, .int (nI gc), .int (nI gfull), .int gx, .int gway, .int gav, .int ggoal, .int (nI gfound), .int 120, .int (nI gl), .int (nI gsz), .ref g16, .ref g17]))] := (zp_left hD).sub [0, 15] (by decide) rfl
              have hKc : va_K (dC, dI) vwCl [] s := hK.sub [] rfl
              refine va_calli (va_runV (As := [.int p0]) (rest := []) ⟨hx, hb, hml, hown, hts⟩ (c_E_8_isState l dC dI _ xa xtape tp rd au xdr hy g hs tg sg ss rm ti py bu sm gz g1 g2 g3 g4 g5 gc gfull gx gway gav ggoal gfound gl gsz g16 g17 p0 htp hhs hss hgc hgfull hgfound hgl hgsz) (cwV 1 hts g_E_8_bound_E_8_isState rfl rfl rfl (by decide +kernel) ⟨Nat.le_of_ble_eq_true rfl, Nat.le_of_ble_eq_true rfl⟩) ⟨pu_bl, va_recv hK hP (ci := 8) (q0 := 0) rfl rfl, pu_in hPc hKc hDc⟩ rfl rfl hl.1 rfl (lv_room (Nat.le_of_ble_eq_true rfl)) eX8_bound_41 ⟨Nat.le_of_ble_eq_true rfl, Nat.le_of_ble_eq_true rfl⟩) hS (fun q _ h => pu_fr hS hA q h) (pu_fr hS hA) (fun r_58 u t H1 locs ht hvm hw hB hz1 hk1 hS => ?_)
              have hP := pu_keep hP hk1
              clear hPc hDc hKc
              clear hk1 hz1 ht hvm
              generalize H1 = H at hP hS ⊢
              rcases hw with ⟨rfl, hw⟩ | ⟨rfl, hn⟩
              · obtain ⟨hs1, n_59, hn_59, rfl⟩ := hw
                have hsp := hsp.trans (if_pos ⟨hs1, in_q hn_59 (by omega)⟩)
                have hsp := hsp.trans (slet_eq (nI_cl (n := n_59) (by omega)))
                refine lv_if_eq (tgt := 63) hx hb eX8_bound_44 (by decide) (fun z => absurd z (by decide)) (fun _ => ?_)
                refine lv_iload hx hb eX8_bound_47 (lv_at hl 0 rfl) ?_
                refine lv_if_eq (tgt := 63) hx hb eX8_bound_49 (by decide) (fun z => absurd z (by decide)) (fun _ => ?_)
                refine lv_iload hx hb eX8_bound_52 (lv_at hl 5 rfl) ?_
                refine lv_if_lt (tgt := 63) hx hb eX8_bound_54 (by decide) (fun c_60 => ?_) (fun c_60 => ?_)
                · have hcc_60 := c_60
                  have hsp := hsp.trans (if_pos c_60)
                  refine lv_ldcw hx hb hown v_6 eX8_bound_63 ?_
                  exact W.iret (v := (-2147483648)) hx hb hr (fun t ht hW => ⟨⟨(-2147483648), (), rfl, (hsp.symm.trans hRR), trivial⟩, hS.F ht⟩) hS.2.2 eX8_bound_66
                · have hcc_60 := c_60
                  have hsp := hsp.trans (if_neg c_60)
                  have lp3 : ¬ p3 < 0 := c_60
                  refine lv_iload hx hb eX8_bound_57 (lv_at hl 5 rfl) ?_
                  refine lv_iconst (v := 1) hx hb eX8_bound_59 (by decide) ?_
                  refine lv_icmp_le (tgt := 67) hx hb eX8_bound_60 (by decide) (fun c_61 => ?_) (fun c_61 => ?_)
                  · have hcc_61 := c_61
                    have hsp := hsp.trans (if_pos c_61)
                    obtain ⟨n_62, hn_62, rfl⟩ := pu_ule (b := 1) (by omega) lp3 (c_61)
                    have hsp := hsp.trans (slet_eq (nI_cl (n := n_62) (by omega)))
                    refine lv_aload_n hx hb eX8_bound_67 rfl (lv_at hl 1 rfl) ?_
                    refine va_get (D := (dC, dI)) (ci := 8) (v := .ref g) (C := RX8) (T := TX8) (N := 16) hx hb hts hiX8 hown hK hP 0 rfl rfl 6 (by decide) v_9 (fun _ h9 => h9) rfl eX8_bound_68 ?_
                    refine va_get (D := (dC, dI)) (ci := 1) (v := .ref gz) (C := RX1) (T := TX1) (N := 18) hx hb hts hiX1 hown hK hP 15 rfl rfl 0 (by decide) v_10 (fun _ h9 => h9) rfl eX8_bound_71 ?_
                    refine lv_iload_n hx hb eX8_bound_74 rfl (lv_at hl 2 rfl) ?_
                    refine va_aldq hx hb hK hP 16 13 rfl rfl (vp_in_nI (n := n_59) (by omega) (Nat.le_of_ble_eq_true rfl)) eX8_bound_75 ?_
                    refine W.eq (g2 := F0 m 76 ls [.ref (az (o + n_59))]) (by rw [zs_get (by omega) (by omega)]) ?_
                    refine lv_iload_n hx hb eX8_bound_76 rfl (lv_at hl 3 rfl) ?_
                    refine lv_iconst (v := 1) hx hb eX8_bound_77 (by decide) ?_
                    refine lv_iadd hx hb eX8_bound_78 ?_
                    refine lv_topi (fun y_63 ey_63 => ?_)
                    obtain rfl : y_63 = (nI (n_7 + 1)) := ey_63.trans (nI_add n_7 1)
                    refine lv_iload_n hx hb eX8_bound_79 rfl (lv_at hl 4 rfl) ?_
                    refine lv_iconst (v := 1) hx hb eX8_bound_80 (by decide) ?_
                    refine lv_iadd hx hb eX8_bound_81 ?_
                    refine lv_topi (fun y_64 ey_64 => ?_)
                    obtain rfl : y_64 = (nI (n_45 + 1)) := ey_64.trans (nI_add n_45 1)
                    have hPz := zp_cut (k := (o + n_59)) hP (by omega)
                    have hPc : va_P (dC, dI) vwCl ([] ++ [(az (o + n_59), .inr (7, [.ref (ac (o + n_59)), .int (nI (min (qs (o + n_59)) 4))])), (ac (o + n_59), .inl (kz (o + n_59), 16, .inl (fz (o + n_59))))]) _ := va_P.app (hP.sub [] rfl) hPz
                    have hDc : va_D (fun _ => True) ([] ++ [(az (o + n_59), .inr (7, [.ref (ac (o + n_59)), .int (nI (min (qs (o + n_59)) 4))])), (ac (o + n_59), .inl (kz (o + n_59), 16, .inl (fz (o + n_59))))]) := zp_cutD hD (by omega) [] (by decide) rfl
                    have hKc : va_K (dC, dI) vwCl ([] ++ [(kz (o + n_59), .int)]) s := zp_K hK (by omega) [] rfl
                    refine va_calli (va_runV (As := [.int (nI (n_7 + 1)), .int (nI (n_45 + 1))]) (rest := []) ⟨hx, hb, hml, hown, hts⟩ (c_E_7_cellOf_16 l dC dI _ (az (o + n_59)) (ac (o + n_59)) (min (qs (o + n_59)) 4) (kz (o + n_59)) (fz (o + n_59)) (n_7 + 1) (n_45 + 1) (Nat.min_le_right _ _) (by omega) (by omega)) (cwV 2 hts g_E_8_bound_E_7_cellOf_16 rfl rfl rfl (by decide +kernel) ⟨Nat.le_of_ble_eq_true rfl, Nat.le_of_ble_eq_true rfl⟩) ⟨pu_bl, va_recv hK hPz (ci := 7) (q0 := 0) rfl rfl, pu_in hPc hKc hDc⟩ rfl rfl hl.1 rfl (lv_room (Nat.le_of_ble_eq_true rfl)) eX8_bound_82 ⟨Nat.le_of_ble_eq_true rfl, Nat.le_of_ble_eq_true rfl⟩) hS (fun q _ h => pu_fr hS hA q h) (pu_fr hS hA) (fun r_65 u t H1 locs ht hvm hw hB hz1 hk1 hS => ?_)
                    have hP := pu_keep hP hk1
                    clear hPc hDc hKc
                    clear hk1 hz1 ht hvm
                    generalize H1 = H at hP hS ⊢
                    have ir_65 := hw
                    have hsp := hsp.trans (slet_eq ir_65)
                    refine lv_istore (lv' := [(6, .int r_65), (5, .int 1), (0, .ref xa), (1, .int (nI n_59)), (2, .int (nI n_7)), (3, .int (nI n_45)), (4, .int (nI n_62))]) hx hb eX8_bound_85 hl (by decide) rfl (fun ls hl => ?_)
                    refine lv_iload hx hb eX8_bound_87 (lv_at hl 0 rfl) ?_
                    refine lv_ldcw hx hb hown v_16 eX8_bound_89 ?_
                    refine lv_icmp_ne (tgt := 99) hx hb eX8_bound_92 (by decide) (fun c_66 => ?_) (fun c_66 => ?_)
                    · have hcc_66 := c_66
                      have hsp := hsp.trans (if_neg c_66)
                      refine lv_iload hx hb eX8_bound_99 (lv_at hl 6 rfl) ?_
                      refine lv_if_ne (tgt := 111) hx hb eX8_bound_101 (by decide) (fun c_67 => ?_) (fun c_67 => ?_)
                      · have c_67 : ¬ n_62 = 0 := fun z => c_67 ((nI_eq (a := n_62) (b := 0) (by omega) (Nat.le_of_ble_eq_true rfl)).mpr z)
                        have hsp := hsp.trans (if_neg c_67)
                        refine lv_iload hx hb eX8_bound_111 (lv_at hl 0 rfl) ?_
                        refine lv_iconst (v := 1) hx hb eX8_bound_113 (by decide) ?_
                        refine lv_iand hx hb eX8_bound_114 ?_
                        refine lv_topi (fun y_68 ey_68 => ?_)
                        have hsp := hsp.trans (slet_eq ey_68)
                        exact W.iret (v := y_68) hx hb hr (fun t ht hW => ⟨⟨y_68, (), rfl, (hsp.symm.trans hRR), trivial⟩, hS.F ht⟩) hS.2.2 eX8_bound_115
                      · have c_67 : n_62 = 0 := (nI_eq (a := n_62) (b := 0) (by omega) (Nat.le_of_ble_eq_true rfl)).mp c_67
                        have hsp := hsp.trans (if_pos c_67)
                        refine lv_iload hx hb eX8_bound_104 (lv_at hl 0 rfl) ?_
                        refine lv_iconst (v := 1) hx hb eX8_bound_106 (by decide) ?_
                        refine lv_ishr hx hb eX8_bound_107 ?_
                        refine lv_topi (fun y_69 ey_69 => ?_)
                        have hsp := hsp.trans (slet_eq ey_69)
                        refine lv_goto (tgt := 115) hx hb eX8_bound_108 (by decide) ?_
                        exact W.iret (v := y_69) hx hb hr (fun t ht hW => ⟨⟨y_69, (), rfl, (hsp.symm.trans hRR), trivial⟩, hS.F ht⟩) hS.2.2 eX8_bound_115
                    · have hcc_66 := c_66
                      have hsp := hsp.trans (if_pos c_66)
                      refine lv_ldcw hx hb hown v_16 eX8_bound_95 ?_
                      exact W.iret (v := 2147483647) hx hb hr (fun t ht hW => ⟨⟨2147483647, (), rfl, (hsp.symm.trans hRR), trivial⟩, hS.F ht⟩) hS.2.2 eX8_bound_98
                  · have hcc_61 := c_61
                    have hsp := hsp.trans (if_neg c_61)
                    refine lv_ldcw hx hb hown v_6 eX8_bound_63 ?_
                    exact W.iret (v := (-2147483648)) hx hb hr (fun t ht hW => ⟨⟨(-2147483648), (), rfl, (hsp.symm.trans hRR), trivial⟩, hS.F ht⟩) hS.2.2 eX8_bound_66
              · have hsp := hsp.trans (if_neg hn)
                refine lv_if_eq (tgt := 63) hx hb eX8_bound_44 (by decide) (fun _ => ?_) (fun z => absurd z (by decide))
                refine lv_ldcw hx hb hown v_6 eX8_bound_63 ?_
                exact W.iret (v := (-2147483648)) hx hb hr (fun t ht hW => ⟨⟨(-2147483648), (), rfl, (hsp.symm.trans hRR), trivial⟩, hS.F ht⟩) hS.2.2 eX8_bound_66
theorem eX8_has_0 : decode cX8_has 0 = .ok (.aload_n 0, 1) := by decide +kernel
theorem eX8_has_1 : decode cX8_has 1 = .ok (.iload_n 1, 1) := by decide +kernel
theorem eX8_has_2 : decode cX8_has 2 = .ok (.invokevirtual 228, 3) := by decide +kernel
theorem eX8_has_5 : decode cX8_has 5 = .ok (.ifCond .ne 5, 3) := by decide +kernel
theorem eX8_has_8 : decode cX8_has 8 = .ok (.iconst (-1), 1) := by decide +kernel
theorem eX8_has_9 : decode cX8_has 9 = .ok (.ireturn, 1) := by decide +kernel
theorem eX8_has_10 : decode cX8_has 10 = .ok (.aload_n 0, 1) := by decide +kernel
theorem eX8_has_11 : decode cX8_has 11 = .ok (.getfield 76, 3) := by decide +kernel
theorem eX8_has_14 : decode cX8_has 14 = .ok (.iconst 0, 1) := by decide +kernel
theorem eX8_has_15 : decode cX8_has 15 = .ok (.iconst 0, 1) := by decide +kernel
theorem eX8_has_16 : decode cX8_has 16 = .ok (.iastore, 1) := by decide +kernel
theorem eX8_has_17 : decode cX8_has 17 = .ok (.aload_n 0, 1) := by decide +kernel
theorem eX8_has_18 : decode cX8_has 18 = .ok (.getfield 76, 3) := by decide +kernel
theorem eX8_has_21 : decode cX8_has 21 = .ok (.iconst 1, 1) := by decide +kernel
theorem eX8_has_22 : decode cX8_has 22 = .ok (.iload_n 2, 1) := by decide +kernel
theorem eX8_has_23 : decode cX8_has 23 = .ok (.iastore, 1) := by decide +kernel
theorem eX8_has_24 : decode cX8_has 24 = .ok (.aload_n 0, 1) := by decide +kernel
theorem eX8_has_25 : decode cX8_has 25 = .ok (.getfield 76, 3) := by decide +kernel
theorem eX8_has_28 : decode cX8_has 28 = .ok (.iconst 2, 1) := by decide +kernel
theorem eX8_has_29 : decode cX8_has 29 = .ok (.iload_n 3, 1) := by decide +kernel
theorem eX8_has_30 : decode cX8_has 30 = .ok (.iastore, 1) := by decide +kernel
theorem eX8_has_31 : decode cX8_has 31 = .ok (.aload_n 0, 1) := by decide +kernel
theorem eX8_has_32 : decode cX8_has 32 = .ok (.getfield 76, 3) := by decide +kernel
theorem eX8_has_35 : decode cX8_has 35 = .ok (.iconst 3, 1) := by decide +kernel
theorem eX8_has_36 : decode cX8_has 36 = .ok (.iload 4, 2) := by decide +kernel
theorem eX8_has_38 : decode cX8_has 38 = .ok (.iastore, 1) := by decide +kernel
theorem eX8_has_39 : decode cX8_has 39 = .ok (.aload_n 0, 1) := by decide +kernel
theorem eX8_has_40 : decode cX8_has 40 = .ok (.getfield 42, 3) := by decide +kernel
theorem eX8_has_43 : decode cX8_has 43 = .ok (.getfield 249, 3) := by decide +kernel
theorem eX8_has_46 : decode cX8_has 46 = .ok (.iload_n 1, 1) := by decide +kernel
theorem eX8_has_47 : decode cX8_has 47 = .ok (.aaload, 1) := by decide +kernel
theorem eX8_has_48 : decode cX8_has 48 = .ok (.aload_n 0, 1) := by decide +kernel
theorem eX8_has_49 : decode cX8_has 49 = .ok (.getfield 76, 3) := by decide +kernel
theorem eX8_has_52 : decode cX8_has 52 = .ok (.invokevirtual 279, 3) := by decide +kernel
theorem eX8_has_55 : decode cX8_has 55 = .ok (.invokestatic 133, 3) := by decide +kernel
theorem eX8_has_58 : decode cX8_has 58 = .ok (.ireturn, 1) := by decide +kernel
abbrev vs_E_8_has : List Cond := .code yX8_has cX8_has 5 (some .int) :: CM
theorem g_E_8_has_E_8_isState : GoodIn vs_E_8_has (wsV RX8 228 RX8 yX8_isState vs_E_8_isState) := cm_gV cm_537 cm_538 cm_539 cm_427 cm_530
theorem g_E_8_has_E_7_holdsTimes : GoodIn vs_E_8_has (wsV RX8 279 RX7 yX7_holdsTimes vs_E_7_holdsTimes) := cm_gV cm_564 cm_565 cm_566 cm_45 cm_413
theorem g_E_8_has_E_8_bit : GoodIn vs_E_8_has (va_wsS RX8 133 yX8_bit vs_E_8_bit) := cm_gS cm_463 cm_464 cm_427 cm_465
noncomputable def sp_E_8_has (hs : Nat) (gc : Nat) (fsm : Nat → Int32) (o : Nat) (qs : Nat → Nat) (fz : Nat → Nat → Int32) (p0 : Int32) (p1 : Int32) (p2 : Int32) (p3 : Int32) : Int32 × (Nat → Int32) := (if hs = 1 ∧ (0 : Int32) ≤ p0 ∧ p0 < nI gc then (slet ((p0 : Int32).toNatClampNeg) (fun n_2 => (slet (upd fsm 0 0) (fun f_3 => (slet (upd f_3 1 p1) (fun f_4 => (slet (upd f_4 2 p2) (fun f_5 => (slet (upd f_5 3 p3) (fun f_6 => (slet (sp_E_7_holdsTimes f_6 (min (qs (o + n_2)) 4) (fz (o + n_2))) (fun u_8 => (slet (sp_E_8_bit (nI u_8)) (fun u_10 => ((nI u_10), f_6))))))))))))))) else ((-1), fsm))
set_option maxHeartbeats 4000000 in
set_option maxRecDepth 100000 in
theorem c_E_8_has (l : Launch) (dC : Nat → ClassId) (dI : Nat → Nat → Nat) (sz : Nat) (xa : Nat) (xtape : Nat) (tp : Nat) (rd : Nat) (au : Nat) (xdr : Nat) (hy : Nat) (g : Nat) (hs : Nat) (tg : Nat) (sg : Nat) (ss : Nat) (rm : Nat) (ti : Nat) (py : Nat) (bu : Nat) (sm : Nat) (gz : Nat) (g1 : Nat) (g2 : Nat) (g3 : Nat) (g4 : Nat) (g5 : Nat) (gc : Nat) (gfull : Nat) (gx : Int32) (gway : Int32) (gav : Int32) (ggoal : Int32) (gfound : Nat) (gl : Nat) (gsz : Nat) (g16 : Nat) (g17 : Nat) (k_fgz : ClassId) (k_s1g : ClassId) (q_s1g : Nat → Nat) (k_s2g : ClassId) (s2g : Nat → Int32) (k_s3g : ClassId) (s3g : Nat → Int32) (k_s4g : ClassId) (s4g : Nat → Int32) (k_s5g : ClassId) (s5g : Nat → Int32) (k_hig : ClassId) (hig : Nat → Int32) (k_log : ClassId) (log : Nat → Int32) (k_fsm : ClassId) (fsm : Nat → Int32) (N : Nat) (o : Nat) (az ac : Nat → Nat) (kz : Nat → ClassId) (qs : Nat → Nat) (fz : Nat → Nat → Int32) (p0 : Int32) (p1 : Int32) (p2 : Int32) (p3 : Int32) (htp : tp ≤ 900) (hhs : hs ≤ 1) (hss : ss ≤ 1) (hgc : gc ≤ 120) (hgfull : gfull ≤ 1) (hgfound : gfound ≤ 1) (hgl : gl ≤ 1) (hgsz : gsz ≤ 4) (hN : o + 121 ≤ N) : Met l yX8_has vs_E_8_has ({ frames := 2, cells := 0, slots := 0, locals := 44 }) (va_Pc [.ref xa, .int p0, .int p1, .int p2, .int p3] (pu_B (dC, dI) ((xgp__w xa xtape (nI tp) rd au xdr hy g (nI hs) tg sg (nI ss) rm ti py bu sm gz g1 g2 g3 g4 g5 (nI gc) (nI gfull) gx gway gav ggoal (nI gfound) 120 (nI gl) (nI gsz) g16 g17 k_fgz (zs o 121 az) k_s1g (bN 7 q_s1g) k_s2g s2g k_s3g s3g k_s4g s4g k_s5g s5g k_hig hig k_log log k_fsm fsm) ++ zp 4 16 N az ac kz qs fz) ((xgp__t k_fgz k_s1g k_s2g k_s3g k_s4g k_s5g k_hig k_log k_fsm) ++ zt N kz) sz)) (va_Qi (fun (r : Int32) (_ : Unit) => r = (sp_E_8_has hs gc fsm o qs fz p0 p1 p2 p3).1) (fun _ t => ∃ (z_fsm : Nat → Int32), pu_E (dC, dI) ((xgp__w xa xtape (nI tp) rd au xdr hy g (nI hs) tg sg (nI ss) rm ti py bu sm gz g1 g2 g3 g4 g5 (nI gc) (nI gfull) gx gway gav ggoal (nI gfound) 120 (nI gl) (nI gsz) g16 g17 k_fgz (zs o 121 az) k_s1g (bN 7 q_s1g) k_s2g s2g k_s3g s3g k_s4g s4g k_s5g s5g k_hig hig k_log log k_fsm z_fsm) ++ zp 4 16 N az ac kz qs fz) ((xgp__t k_fgz k_s1g k_s2g k_s3g k_s4g k_s5g k_hig k_log k_fsm) ++ zt N kz) (va_A (((xgp__w xa xtape (nI tp) rd au xdr hy g (nI hs) tg sg (nI ss) rm ti py bu sm gz g1 g2 g3 g4 g5 (nI gc) (nI gfull) gx gway gav ggoal (nI gfound) 120 (nI gl) (nI gsz) g16 g17 k_fgz (zs o 121 az) k_s1g (bN 7 q_s1g) k_s2g s2g k_s3g s3g k_s4g s4g k_s5g s5g k_hig hig k_log log k_fsm fsm) ++ zp 4 16 N az ac kz qs fz)) sz) t ∧ (z_fsm = (sp_E_8_has hs gc fsm o qs fz p0 p1 p2 p3).2)) (va_A (((xgp__w xa xtape (nI tp) rd au xdr hy g (nI hs) tg sg (nI ss) rm ti py bu sm gz g1 g2 g3 g4 g5 (nI gc) (nI gfull) gx gway gav ggoal (nI gfound) 120 (nI gl) (nI gsz) g16 g17 k_fgz (zs o 121 az) k_s1g (bN 7 q_s1g) k_s2g s2g k_s3g s3g k_s4g s4g k_s5g s5g k_hig hig k_log log k_fsm fsm) ++ zp 4 16 N az ac kz qs fz)) sz)) 0 0 (va_A (((xgp__w xa xtape (nI tp) rd au xdr hy g (nI hs) tg sg (nI ss) rm ti py bu sm gz g1 g2 g3 g4 g5 (nI gc) (nI gfull) gx gway gav ggoal (nI gfound) 120 (nI gl) (nI gsz) g16 g17 k_fgz (zs o 121 az) k_s1g (bN 7 q_s1g) k_s2g s2g k_s3g s3g k_s4g s4g k_s5g s5g k_hig hig k_log log k_fsm fsm) ++ zp 4 16 N az ac kz qs fz)) sz) := by
  refine Met.ofW (cc := cX8_has) (maxL := 5) (ret := (some .int)) (by decide) rfl ?_
  intro p e s m args below meth c s₁ B hml hv
  obtain ⟨rfl, rfl, hP, hK, hD0⟩ := hv
  have hx := B.exec
  have hb := B.bytes
  have hr := B.returns
  have hts := atoms_spec (ws := vs_E_8_has) B.pre
  have v_6 := hts (.fieldLink RX8 76 "ClockReach" "sample" "[I") (List.mem_cons_of_mem _ cm_563)
  have v_7 := hts (.fieldLink RX8 42 "ClockReach" "shown" "LClockReach$Graph;") (List.mem_cons_of_mem _ cm_456)
  have v_8 := hts (.fieldLink RX8 249 "ClockReach$Graph" "zones" "[LClockReach$Zone;") (List.mem_cons_of_mem _ cm_544)
  have hown : s.vm.findClass RX8 = some m.cls := findClass_of_methodNamed B.named
  have hlocks := B.notSynchronized
  have hiX1 : ∀ w ∈ wsX10, w ∈ vs_E_8_has := fun _ h => List.mem_cons_of_mem _ (cm_X1 h)
  have hiX8 : ∀ w ∈ wsX80, w ∈ vs_E_8_has := fun _ h => List.mem_cons_of_mem _ (cm_X8 h)
  have hD := hD0.self (sz := s.heap.size)
  generalize hAe : va_A (((xgp__w xa xtape (nI tp) rd au xdr hy g (nI hs) tg sg (nI ss) rm ti py bu sm gz g1 g2 g3 g4 g5 (nI gc) (nI gfull) gx gway gav ggoal (nI gfound) 120 (nI gl) (nI gsz) g16 g17 k_fgz (zs o 121 az) k_s1g (bN 7 q_s1g) k_s2g s2g k_s3g s3g k_s4g s4g k_s5g s5g k_hig hig k_log log k_fsm fsm) ++ zp 4 16 N az ac kz qs fz)) s.heap.size = A at hD ⊢
  have hA : ∀ q : Nat, s.heap.size ≤ q → A q := fun q h => by rw [← hAe]; exact Or.inr h
  have hS : va_S A s.heap s.heap [] := va_S.rf
  have hl := lv_entry ([.ref xa, .int p0, .int p1, .int p2, .int p3]) (n := 5) (Nat.le_of_ble_eq_true rfl)
  rw [lg_entry_eq]
  generalize (lg_sl ([.ref xa, .int p0, .int p1, .int p2, .int p3]) ++ List.replicate (5 - (lg_sl ([.ref xa, .int p0, .int p1, .int p2, .int p3])).length) Slot.unset).toArray = ls at hl ⊢
  have hl : lv_has ls 5 [(0, .ref xa), (1, .int p0), (2, .int p1), (3, .int p2), (4, .int p3)] := hl
  obtain ⟨RR, hRR⟩ : ∃ x, x = (sp_E_8_has hs gc fsm o qs fz p0 p1 p2 p3) := ⟨_, rfl⟩
  have hsp := hRR
  refine lv_aload_n hx hb eX8_has_0 rfl (lv_at hl 0 rfl) ?_
  refine lv_iload_n hx hb eX8_has_1 rfl (lv_at hl 1 rfl) ?_
  have hPc : va_P (dC, dI) vwCl [(xa, .inr (8, [.ref xtape, .int (nI tp), .ref rd, .ref au, .ref xdr, .ref hy, .ref g, .int (nI hs), .ref tg, .ref sg, .int (nI ss), .ref rm, .ref ti, .ref py, .ref bu, .ref sm])), (g, .inr (1, [.ref gz, .ref g1, .ref g2, .ref g3, .ref g4, .ref g5, .int (nI gc), .int (nI gfull), .int gx, .int gway, .int gav, .int ggoal, .int (nI gfound), .int 120, .int (nI gl), .int (nI gsz), .ref g16, .ref g17]))] _ := hP.sub [0, 1] rfl
  have hDc : va_D A [(xa, .inr (8, [.ref xtape, .int (nI tp), .ref rd, .ref au, .ref xdr, .ref hy, .ref g, .int (nI hs), .ref tg, .ref sg, .int (nI ss), .ref rm, .ref ti, .ref py, .ref bu, .ref sm])), (g, .inr (1, [.ref gz, .ref g1, .ref g2, .ref g3, .ref g4, .ref g5, .int (nI gc), .int (nI gfull), .int gx, .int gway, .int gav, .int ggoal, .int (nI gfound), .int 120, .int (nI gl), .int (nI gsz), .ref g16, .ref g17]))] := (zp_left hD).sub [0, 1] (by decide) rfl
  have hKc : va_K (dC, dI) vwCl [] s := hK.sub [] rfl
  refine va_calli (va_runV (As := [.int p0]) (rest := []) ⟨hx, hb, hml, hown, hts⟩ (c_E_8_isState l dC dI _ xa xtape tp rd au xdr hy g hs tg sg ss rm ti py bu sm gz g1 g2 g3 g4 g5 gc gfull gx gway gav ggoal gfound gl gsz g16 g17 p0 htp hhs hss hgc hgfull hgfound hgl hgsz) (cwV 1 hts g_E_8_has_E_8_isState rfl rfl rfl (by decide +kernel) ⟨Nat.le_of_ble_eq_true rfl, Nat.le_of_ble_eq_true rfl⟩) ⟨pu_bl, va_recv hK hP (ci := 8) (q0 := 0) rfl rfl, pu_in hPc hKc hDc⟩ rfl rfl hl.1 rfl (lv_room (Nat.le_of_ble_eq_true rfl)) eX8_has_2 ⟨Nat.le_of_ble_eq_true rfl, Nat.le_of_ble_eq_true rfl⟩) hS (fun q _ h => pu_fr hS hA q h) (pu_fr hS hA) (fun r_1 u t H1 locs ht hvm hw hB hz1 hk1 hS => ?_)
  have hP := pu_keep hP hk1
  clear hPc hDc hKc
  clear hk1 hz1 ht hvm
  generalize H1 = H at hP hS ⊢
  rcases hw with ⟨rfl, hw⟩ | ⟨rfl, hn⟩
  · obtain ⟨hs1, n_2, hn_2, rfl⟩ := hw
    have hsp := hsp.trans (if_pos ⟨hs1, in_q hn_2 (by omega)⟩)
    have hsp := hsp.trans (slet_eq (nI_cl (n := n_2) (by omega)))
    refine lv_if_ne (tgt := 10) hx hb eX8_has_5 (by decide) (fun _ => ?_) (fun z => absurd z (by decide))
    refine lv_aload_n hx hb eX8_has_10 rfl (lv_at hl 0 rfl) ?_
    refine va_get (D := (dC, dI)) (ci := 8) (v := .ref sm) (C := RX8) (T := TX8) (N := 16) hx hb hts hiX8 hown hK hP 0 rfl rfl 15 (by decide) v_6 (fun _ h9 => h9) rfl eX8_has_11 ?_
    refine lv_iconst (v := 0) hx hb eX8_has_14 (by decide) ?_
    refine lv_iconst (v := 0) hx hb eX8_has_15 (by decide) ?_
    refine va_iast hx hb hK hP hD hS 10 8 rfl rfl (vp_in_nI (n := 0) (Nat.le_of_ble_eq_true rfl) (Nat.le_of_ble_eq_true rfl)) eX8_has_16 (fun H locs hP hD hS => ?_)
    obtain ⟨f_3, ef_3, xf_3⟩ := up_x fsm (n := 0) 0 (Nat.le_of_ble_eq_true rfl)
    have hP : va_P (dC, dI) vwCl ((xgp__w xa xtape (nI tp) rd au xdr hy g (nI hs) tg sg (nI ss) rm ti py bu sm gz g1 g2 g3 g4 g5 (nI gc) (nI gfull) gx gway gav ggoal (nI gfound) 120 (nI gl) (nI gsz) g16 g17 k_fgz (zs o 121 az) k_s1g (bN 7 q_s1g) k_s2g s2g k_s3g s3g k_s4g s4g k_s5g s5g k_hig hig k_log log k_fsm f_3) ++ zp 4 16 N az ac kz qs fz) H := by rw [← ef_3]; exact hP
    have hD : va_D A ((xgp__w xa xtape (nI tp) rd au xdr hy g (nI hs) tg sg (nI ss) rm ti py bu sm gz g1 g2 g3 g4 g5 (nI gc) (nI gfull) gx gway gav ggoal (nI gfound) 120 (nI gl) (nI gsz) g16 g17 k_fgz (zs o 121 az) k_s1g (bN 7 q_s1g) k_s2g s2g k_s3g s3g k_s4g s4g k_s5g s5g k_hig hig k_log log k_fsm f_3) ++ zp 4 16 N az ac kz qs fz) := by rw [← ef_3]; exact hD
    have hsp := hsp.trans (slet_eq xf_3)
    refine lv_aload_n hx hb eX8_has_17 rfl (lv_at hl 0 rfl) ?_
    refine va_get (D := (dC, dI)) (ci := 8) (v := .ref sm) (C := RX8) (T := TX8) (N := 16) hx hb hts hiX8 hown hK hP 0 rfl rfl 15 (by decide) v_6 (fun _ h9 => h9) rfl eX8_has_18 ?_
    refine lv_iconst (v := 1) hx hb eX8_has_21 (by decide) ?_
    refine lv_iload_n hx hb eX8_has_22 rfl (lv_at hl 2 rfl) ?_
    refine va_iast hx hb hK hP hD hS 10 8 rfl rfl (vp_in_nI (n := 1) (Nat.le_of_ble_eq_true rfl) (Nat.le_of_ble_eq_true rfl)) eX8_has_23 (fun H locs hP hD hS => ?_)
    obtain ⟨f_4, ef_4, xf_4⟩ := up_x f_3 (n := 1) p1 (Nat.le_of_ble_eq_true rfl)
    have hP : va_P (dC, dI) vwCl ((xgp__w xa xtape (nI tp) rd au xdr hy g (nI hs) tg sg (nI ss) rm ti py bu sm gz g1 g2 g3 g4 g5 (nI gc) (nI gfull) gx gway gav ggoal (nI gfound) 120 (nI gl) (nI gsz) g16 g17 k_fgz (zs o 121 az) k_s1g (bN 7 q_s1g) k_s2g s2g k_s3g s3g k_s4g s4g k_s5g s5g k_hig hig k_log log k_fsm f_4) ++ zp 4 16 N az ac kz qs fz) H := by rw [← ef_4]; exact hP
    have hD : va_D A ((xgp__w xa xtape (nI tp) rd au xdr hy g (nI hs) tg sg (nI ss) rm ti py bu sm gz g1 g2 g3 g4 g5 (nI gc) (nI gfull) gx gway gav ggoal (nI gfound) 120 (nI gl) (nI gsz) g16 g17 k_fgz (zs o 121 az) k_s1g (bN 7 q_s1g) k_s2g s2g k_s3g s3g k_s4g s4g k_s5g s5g k_hig hig k_log log k_fsm f_4) ++ zp 4 16 N az ac kz qs fz) := by rw [← ef_4]; exact hD
    have hsp := hsp.trans (slet_eq xf_4)
    refine lv_aload_n hx hb eX8_has_24 rfl (lv_at hl 0 rfl) ?_
    refine va_get (D := (dC, dI)) (ci := 8) (v := .ref sm) (C := RX8) (T := TX8) (N := 16) hx hb hts hiX8 hown hK hP 0 rfl rfl 15 (by decide) v_6 (fun _ h9 => h9) rfl eX8_has_25 ?_
    refine lv_iconst (v := 2) hx hb eX8_has_28 (by decide) ?_
    refine lv_iload_n hx hb eX8_has_29 rfl (lv_at hl 3 rfl) ?_
    refine va_iast hx hb hK hP hD hS 10 8 rfl rfl (vp_in_nI (n := 2) (Nat.le_of_ble_eq_true rfl) (Nat.le_of_ble_eq_true rfl)) eX8_has_30 (fun H locs hP hD hS => ?_)
    obtain ⟨f_5, ef_5, xf_5⟩ := up_x f_4 (n := 2) p2 (Nat.le_of_ble_eq_true rfl)
    have hP : va_P (dC, dI) vwCl ((xgp__w xa xtape (nI tp) rd au xdr hy g (nI hs) tg sg (nI ss) rm ti py bu sm gz g1 g2 g3 g4 g5 (nI gc) (nI gfull) gx gway gav ggoal (nI gfound) 120 (nI gl) (nI gsz) g16 g17 k_fgz (zs o 121 az) k_s1g (bN 7 q_s1g) k_s2g s2g k_s3g s3g k_s4g s4g k_s5g s5g k_hig hig k_log log k_fsm f_5) ++ zp 4 16 N az ac kz qs fz) H := by rw [← ef_5]; exact hP
    have hD : va_D A ((xgp__w xa xtape (nI tp) rd au xdr hy g (nI hs) tg sg (nI ss) rm ti py bu sm gz g1 g2 g3 g4 g5 (nI gc) (nI gfull) gx gway gav ggoal (nI gfound) 120 (nI gl) (nI gsz) g16 g17 k_fgz (zs o 121 az) k_s1g (bN 7 q_s1g) k_s2g s2g k_s3g s3g k_s4g s4g k_s5g s5g k_hig hig k_log log k_fsm f_5) ++ zp 4 16 N az ac kz qs fz) := by rw [← ef_5]; exact hD
    have hsp := hsp.trans (slet_eq xf_5)
    refine lv_aload_n hx hb eX8_has_31 rfl (lv_at hl 0 rfl) ?_
    refine va_get (D := (dC, dI)) (ci := 8) (v := .ref sm) (C := RX8) (T := TX8) (N := 16) hx hb hts hiX8 hown hK hP 0 rfl rfl 15 (by decide) v_6 (fun _ h9 => h9) rfl eX8_has_32 ?_
    refine lv_iconst (v := 3) hx hb eX8_has_35 (by decide) ?_
    refine lv_iload hx hb eX8_has_36 (lv_at hl 4 rfl) ?_
    refine va_iast hx hb hK hP hD hS 10 8 rfl rfl (vp_in_nI (n := 3) (Nat.le_of_ble_eq_true rfl) (Nat.le_of_ble_eq_true rfl)) eX8_has_38 (fun H locs hP hD hS => ?_)
    obtain ⟨f_6, ef_6, xf_6⟩ := up_x f_5 (n := 3) p3 (Nat.le_of_ble_eq_true rfl)
    have hP : va_P (dC, dI) vwCl ((xgp__w xa xtape (nI tp) rd au xdr hy g (nI hs) tg sg (nI ss) rm ti py bu sm gz g1 g2 g3 g4 g5 (nI gc) (nI gfull) gx gway gav ggoal (nI gfound) 120 (nI gl) (nI gsz) g16 g17 k_fgz (zs o 121 az) k_s1g (bN 7 q_s1g) k_s2g s2g k_s3g s3g k_s4g s4g k_s5g s5g k_hig hig k_log log k_fsm f_6) ++ zp 4 16 N az ac kz qs fz) H := by rw [← ef_6]; exact hP
    have hD : va_D A ((xgp__w xa xtape (nI tp) rd au xdr hy g (nI hs) tg sg (nI ss) rm ti py bu sm gz g1 g2 g3 g4 g5 (nI gc) (nI gfull) gx gway gav ggoal (nI gfound) 120 (nI gl) (nI gsz) g16 g17 k_fgz (zs o 121 az) k_s1g (bN 7 q_s1g) k_s2g s2g k_s3g s3g k_s4g s4g k_s5g s5g k_hig hig k_log log k_fsm f_6) ++ zp 4 16 N az ac kz qs fz) := by rw [← ef_6]; exact hD
    have hsp := hsp.trans (slet_eq xf_6)
    refine lv_aload_n hx hb eX8_has_39 rfl (lv_at hl 0 rfl) ?_
    refine va_get (D := (dC, dI)) (ci := 8) (v := .ref g) (C := RX8) (T := TX8) (N := 16) hx hb hts hiX8 hown hK hP 0 rfl rfl 6 (by decide) v_7 (fun _ h9 => h9) rfl eX8_has_40 ?_
    refine va_get (D := (dC, dI)) (ci := 1) (v := .ref gz) (C := RX1) (T := TX1) (N := 18) hx hb hts hiX1 hown hK hP 1 rfl rfl 0 (by decide) v_8 (fun _ h9 => h9) rfl eX8_has_43 ?_
    refine lv_iload_n hx hb eX8_has_46 rfl (lv_at hl 1 rfl) ?_
    refine va_aldq hx hb hK hP 2 0 rfl rfl (vp_in_nI (n := n_2) (by omega) (Nat.le_of_ble_eq_true rfl)) eX8_has_47 ?_
    refine W.eq (g2 := F0 m 48 ls [.ref (az (o + n_2))]) (by rw [zs_get (by omega) (by omega)]) ?_
    refine lv_aload_n hx hb eX8_has_48 rfl (lv_at hl 0 rfl) ?_
    refine va_get (D := (dC, dI)) (ci := 8) (v := .ref sm) (C := RX8) (T := TX8) (N := 16) hx hb hts hiX8 hown hK hP 0 rfl rfl 15 (by decide) v_6 (fun _ h9 => h9) rfl eX8_has_49 ?_
    have hPz := zp_cut (k := (o + n_2)) hP (by omega)
    have hPc : va_P (dC, dI) vwCl ([(sm, .inl (k_fsm, 4, .inl f_6))] ++ [(az (o + n_2), .inr (7, [.ref (ac (o + n_2)), .int (nI (min (qs (o + n_2)) 4))])), (ac (o + n_2), .inl (kz (o + n_2), 16, .inl (fz (o + n_2))))]) _ := va_P.app (hP.sub [10] rfl) hPz
    have hDc : va_D A ([(sm, .inl (k_fsm, 4, .inl f_6))] ++ [(az (o + n_2), .inr (7, [.ref (ac (o + n_2)), .int (nI (min (qs (o + n_2)) 4))])), (ac (o + n_2), .inl (kz (o + n_2), 16, .inl (fz (o + n_2))))]) := zp_cutD hD (by omega) [10] (by decide) rfl
    have hKc : va_K (dC, dI) vwCl ([(k_fsm, .int)] ++ [(kz (o + n_2), .int)]) s := zp_K hK (by omega) [8] rfl
    refine va_calli (va_runV (As := [.ref sm]) (rest := []) ⟨hx, hb, hml, hown, hts⟩ (c_E_7_holdsTimes l dC dI _ sm k_fsm f_6 (az (o + n_2)) (ac (o + n_2)) (min (qs (o + n_2)) 4) (kz (o + n_2)) (fz (o + n_2)) (Nat.min_le_right _ _)) (cwV 1 hts g_E_8_has_E_7_holdsTimes rfl rfl rfl (by decide +kernel) ⟨Nat.le_of_ble_eq_true rfl, Nat.le_of_ble_eq_true rfl⟩) ⟨pu_bl, va_recv hK hPz (ci := 7) (q0 := 0) rfl rfl, pu_in hPc hKc hDc⟩ rfl rfl hl.1 rfl (lv_room (Nat.le_of_ble_eq_true rfl)) eX8_has_52 ⟨Nat.le_of_ble_eq_true rfl, Nat.le_of_ble_eq_true rfl⟩) hS (fun q _ h => pu_fr hS hA q h) (pu_fr hS hA) (fun r_7 u t H1 locs ht hvm hw hB hz1 hk1 hS => ?_)
    have hP := pu_keep hP hk1
    clear hPc hDc hKc
    clear hk1 hz1 ht hvm
    generalize H1 = H at hP hS ⊢
    obtain ⟨u_8, hu_8, rfl, iu_8⟩ := hw
    have hsp := hsp.trans (slet_eq iu_8)
    have hPc : va_P (dC, dI) vwCl [] _ := hP.sub [] rfl
    have hDc : va_D A [] := (zp_left hD).sub [] (by decide) rfl
    have hKc : va_K (dC, dI) vwCl [] s := hK.sub [] rfl
    refine va_calli (va_runS (As := [.int (nI u_8)]) (rest := []) ⟨hx, hb, hml, hown, hts⟩ (c_E_8_bit l dC dI _ (nI u_8)) (va_cwS 1 hts g_E_8_has_E_8_bit rfl rfl rfl (by decide +kernel) ⟨Nat.le_of_ble_eq_true rfl, Nat.le_of_ble_eq_true rfl⟩) ⟨pu_bl, pu_in hPc hKc hDc⟩ rfl rfl hl.1 rfl (lv_room (Nat.le_of_ble_eq_true rfl)) eX8_has_55 ⟨Nat.le_of_ble_eq_true rfl, Nat.le_of_ble_eq_true rfl⟩) hS (fun q _ h => pu_fr hS hA q h) (pu_fr hS hA) (fun r_9 u t H1 locs ht hvm hw hB hz1 hk1 hS => ?_)
    have hP := pu_keep hP hk1
    clear hPc hDc hKc
    clear hk1 hz1 ht hvm
    generalize H1 = H at hP hS ⊢
    obtain ⟨u_10, hu_10, rfl, iu_10⟩ := hw
    have hsp := hsp.trans (slet_eq iu_10)
    exact W.iret (v := (nI u_10)) hx hb hr (fun t ht hW => ⟨⟨(nI u_10), (), rfl, (congrArg Prod.fst (hsp.symm.trans hRR)), ⟨f_6, ⟨by rw [ht]; exact hP, va_K.moved hW.alike hK, hD⟩, (congrArg Prod.snd (hsp.symm.trans hRR))⟩⟩, hS.F ht⟩) hS.2.2 eX8_has_58
  · have hsp := hsp.trans (if_neg hn)
    refine lv_if_ne (tgt := 10) hx hb eX8_has_5 (by decide) (fun z => absurd z (by decide)) (fun _ => ?_)
    refine lv_iconst (v := (-1)) hx hb eX8_has_8 (by decide) ?_
    exact W.iret (v := (-1)) hx hb hr (fun t ht hW => ⟨⟨(-1), (), rfl, (congrArg Prod.fst (hsp.symm.trans hRR)), ⟨fsm, ⟨by rw [ht]; exact hP, va_K.moved hW.alike hK, hD⟩, (congrArg Prod.snd (hsp.symm.trans hRR))⟩⟩, hS.F ht⟩) hS.2.2 eX8_has_9
theorem eX8_lets_0 : decode cX8_lets 0 = .ok (.aload_n 0, 1) := by decide +kernel
theorem eX8_lets_1 : decode cX8_lets 1 = .ok (.iload_n 1, 1) := by decide +kernel
theorem eX8_lets_2 : decode cX8_lets 2 = .ok (.iload_n 2, 1) := by decide +kernel
theorem eX8_lets_3 : decode cX8_lets 3 = .ok (.invokevirtual 171, 3) := by decide +kernel
theorem eX8_lets_6 : decode cX8_lets 6 = .ok (.istore 5, 2) := by decide +kernel
theorem eX8_lets_8 : decode cX8_lets 8 = .ok (.iload 5, 2) := by decide +kernel
theorem eX8_lets_10 : decode cX8_lets 10 = .ok (.iconst (-1), 1) := by decide +kernel
theorem eX8_lets_11 : decode cX8_lets 11 = .ok (.if_icmp .eq 22, 3) := by decide +kernel
theorem eX8_lets_14 : decode cX8_lets 14 = .ok (.aload_n 0, 1) := by decide +kernel
theorem eX8_lets_15 : decode cX8_lets 15 = .ok (.iload_n 3, 1) := by decide +kernel
theorem eX8_lets_16 : decode cX8_lets 16 = .ok (.invokevirtual 140, 3) := by decide +kernel
theorem eX8_lets_19 : decode cX8_lets 19 = .ok (.ifCond .eq 14, 3) := by decide +kernel
theorem eX8_lets_33 : decode cX8_lets 33 = .ok (.iconst (-1), 1) := by decide +kernel
theorem eX8_lets_34 : decode cX8_lets 34 = .ok (.ireturn, 1) := by decide +kernel
abbrev vs_E_8_lets_0 : List Cond := .code yX8_lets cX8_lets 10 (some .int) :: CM
theorem g_E_8_lets_0_E_8_slotOf : GoodIn vs_E_8_lets_0 (wsV RX8 171 RX8 yX8_slotOf vs_E_8_slotOf) := cm_gV cm_490 cm_491 cm_492 cm_427 cm_493
theorem g_E_8_lets_0_E_8_isPlace : GoodIn vs_E_8_lets_0 (wsV RX8 140 RX8 yX8_isPlace vs_E_8_isPlace) := cm_gV cm_471 cm_472 cm_473 cm_427 cm_474
noncomputable def sp_E_8_lets_0 (ne : Nat) (q_f8 : Nat → Nat) (p0 : Int32) (p1 : Int32) : Int32 := (slet (sp_E_8_slotOf 0 ne q_f8 p0 p1) (fun u_2 => (if u_2 = 0 then (-1) else (slet (u_2 - 1) (fun n_3 => (-1))))))
set_option maxHeartbeats 4000000 in
set_option maxRecDepth 100000 in
theorem c_E_8_lets_0 (l : Launch) (dC : Nat → ClassId) (dI : Nat → Nat → Nat) (sz : Nat) (xa : Nat) (xtape : Nat) (tp : Nat) (rd : Nat) (au : Nat) (xdr : Nat) (hy : Nat) (g : Nat) (tg : Nat) (sg : Nat) (rm : Nat) (ti : Nat) (py : Nat) (bu : Nat) (sm : Nat) (nc : Nat) (ne : Nat) (st0 : Int32) (q4 : Nat) (q5 : Nat) (q6 : Nat) (q7 : Nat) (q8 : Nat) (q9 : Nat) (q10 : Nat) (q11 : Nat) (q12 : Nat) (q13 : Nat) (q14 : Nat) (q15 : Nat) (q16 : Nat) (k_f4 : ClassId) (f4 : Nat → Int32) (k_f5 : ClassId) (q_f5 : Nat → Nat) (k_f6 : ClassId) (q_f6 : Nat → Nat) (k_f7 : ClassId) (f7 : Nat → Int32) (k_f8 : ClassId) (q_f8 : Nat → Nat) (k_f9 : ClassId) (q_f9 : Nat → Nat) (k_f10 : ClassId) (f10 : Nat → Int32) (k_f11 : ClassId) (f11 : Nat → Int32) (k_f12 : ClassId) (f12 : Nat → Int32) (k_f13 : ClassId) (f13 : Nat → Int32) (k_f14 : ClassId) (f14 : Nat → Int32) (k_f15 : ClassId) (f15 : Nat → Int32) (k_f16 : ClassId) (f16 : Nat → Int32) (tz : Nat) (t1 : Nat) (t2 : Nat) (t3 : Nat) (t4 : Nat) (t5 : Nat) (tc : Nat) (tfull : Nat) (tx : Int32) (tway : Int32) (tav : Int32) (tgoal : Int32) (tfound : Nat) (tl : Nat) (tsz : Nat) (t16 : Nat) (t17 : Nat) (k_ftz : ClassId) (k_s1t : ClassId) (q_s1t : Nat → Nat) (k_s2t : ClassId) (s2t : Nat → Int32) (k_s3t : ClassId) (s3t : Nat → Int32) (k_s4t : ClassId) (s4t : Nat → Int32) (k_s5t : ClassId) (s5t : Nat → Int32) (k_hit : ClassId) (hit : Nat → Int32) (k_lot : ClassId) (lot : Nat → Int32) (k_fbu : ClassId) (fbu : Nat → Int32) (N : Nat) (o : Nat) (az ac : Nat → Nat) (kz : Nat → ClassId) (qs : Nat → Nat) (fz : Nat → Nat → Int32) (p0 : Int32) (p1 : Int32) (p2 : Int32) (p3 : Int32) (htp : tp ≤ 900) (hnc : nc ≤ 3) (hne : ne ≤ 14) (hst0 : pm1 7 st0) (htc : tc ≤ 120) (htfull : tfull ≤ 1) (htfound : tfound ≤ 1) (htl : tl ≤ 1) (htsz : tsz ≤ 4) (hN : o + 121 ≤ N) : Met l yX8_lets vs_E_8_lets_0 ({ frames := 2, cells := 0, slots := 0, locals := 44 }) (va_Pc [.ref xa, .int p0, .int p1, .int p2, .int p3] (pu_B (dC, dI) ((xtr__w xa xtape (nI tp) rd au xdr hy g 0 tg sg 0 rm ti py bu sm (nI nc) 0 (nI ne) st0 q4 q5 q6 q7 q8 q9 q10 q11 q12 q13 q14 q15 q16 k_f4 f4 k_f5 (bN 7 q_f5) k_f6 (bN 7 q_f6) k_f7 f7 k_f8 (bN 4 q_f8) k_f9 (bN 2 q_f9) k_f10 f10 k_f11 f11 k_f12 f12 k_f13 f13 k_f14 f14 k_f15 f15 k_f16 f16 tz t1 t2 t3 t4 t5 (nI tc) (nI tfull) tx tway tav tgoal (nI tfound) 120 (nI tl) (nI tsz) t16 t17 k_ftz (zs o 121 az) k_s1t (bN 7 q_s1t) k_s2t s2t k_s3t s3t k_s4t s4t k_s5t s5t k_hit hit k_lot lot k_fbu fbu) ++ zp 4 16 N az ac kz qs fz) ((xtr__t k_f4 k_f5 k_f6 k_f7 k_f8 k_f9 k_f10 k_f11 k_f12 k_f13 k_f14 k_f15 k_f16 k_ftz k_s1t k_s2t k_s3t k_s4t k_s5t k_hit k_lot k_fbu) ++ zt N kz) sz)) (va_Qi (fun (r : Int32) (_ : Unit) => r = (sp_E_8_lets_0 ne q_f8 p0 p1)) (fun _ _ => True) (va_A [] sz)) 0 0 (va_A [] sz) := by
  refine Met.ofW (cc := cX8_lets) (maxL := 10) (ret := (some .int)) (by decide) rfl ?_
  intro p e s m args below meth c s₁ B hml hv
  obtain ⟨rfl, rfl, hP, hK, hD0⟩ := hv
  have hx := B.exec
  have hb := B.bytes
  have hr := B.returns
  have hts := atoms_spec (ws := vs_E_8_lets_0) B.pre
  have hown : s.vm.findClass RX8 = some m.cls := findClass_of_methodNamed B.named
  have hlocks := B.notSynchronized
  have hD := hD0
  have hA : ∀ q : Nat, s.heap.size ≤ q → va_A [] s.heap.size q := fun _ h => Or.inr h
  have hS : va_S (va_A [] s.heap.size) s.heap s.heap [] := va_S.rf
  have hl := lv_entry ([.ref xa, .int p0, .int p1, .int p2, .int p3]) (n := 10) (Nat.le_of_ble_eq_true rfl)
  rw [lg_entry_eq]
  generalize (lg_sl ([.ref xa, .int p0, .int p1, .int p2, .int p3]) ++ List.replicate (10 - (lg_sl ([.ref xa, .int p0, .int p1, .int p2, .int p3])).length) Slot.unset).toArray = ls at hl ⊢
  have hl : lv_has ls 10 [(0, .ref xa), (1, .int p0), (2, .int p1), (3, .int p2), (4, .int p3)] := hl
  obtain ⟨RR, hRR⟩ : ∃ x, x = (sp_E_8_lets_0 ne q_f8 p0 p1) := ⟨_, rfl⟩
  have hsp := hRR
  refine lv_aload_n hx hb eX8_lets_0 rfl (lv_at hl 0 rfl) ?_
  refine lv_iload_n hx hb eX8_lets_1 rfl (lv_at hl 1 rfl) ?_
  refine lv_iload_n hx hb eX8_lets_2 rfl (lv_at hl 2 rfl) ?_
  have hPc : va_P (dC, dI) vwCl [(xa, .inr (8, [.ref xtape, .int (nI tp), .ref rd, .ref au, .ref xdr, .ref hy, .ref g, .int 0, .ref tg, .ref sg, .int 0, .ref rm, .ref ti, .ref py, .ref bu, .ref sm])), (au, .inr (0, [.int (nI nc), .int 0, .int (nI ne), .int st0, .ref q4, .ref q5, .ref q6, .ref q7, .ref q8, .ref q9, .ref q10, .ref q11, .ref q12, .ref q13, .ref q14, .ref q15, .ref q16])), (q4, .inl (k_f4, 8, .inl f4)), (q5, .inl (k_f5, 14, .inl (bN 7 q_f5))), (q6, .inl (k_f6, 14, .inl (bN 7 q_f6))), (q7, .inl (k_f7, 14, .inl f7)), (q8, .inl (k_f8, 22, .inl (bN 4 q_f8))), (q9, .inl (k_f9, 88, .inl (bN 2 q_f9))), (q10, .inl (k_f10, 88, .inl f10)), (q11, .inl (k_f11, 88, .inl f11)), (q12, .inl (k_f12, 88, .inl f12)), (q13, .inl (k_f13, 88, .inl f13)), (q14, .inl (k_f14, 4, .inl f14)), (q15, .inl (k_f15, 4, .inl f15)), (q16, .inl (k_f16, 4, .inl f16))] _ := hP.sub [0, 1, 2, 3, 4, 5, 6, 7, 8, 9, 10, 11, 12, 13, 14] rfl
  have hDc : va_D (fun _ => True) [(xa, .inr (8, [.ref xtape, .int (nI tp), .ref rd, .ref au, .ref xdr, .ref hy, .ref g, .int 0, .ref tg, .ref sg, .int 0, .ref rm, .ref ti, .ref py, .ref bu, .ref sm])), (au, .inr (0, [.int (nI nc), .int 0, .int (nI ne), .int st0, .ref q4, .ref q5, .ref q6, .ref q7, .ref q8, .ref q9, .ref q10, .ref q11, .ref q12, .ref q13, .ref q14, .ref q15, .ref q16])), (q4, .inl (k_f4, 8, .inl f4)), (q5, .inl (k_f5, 14, .inl (bN 7 q_f5))), (q6, .inl (k_f6, 14, .inl (bN 7 q_f6))), (q7, .inl (k_f7, 14, .inl f7)), (q8, .inl (k_f8, 22, .inl (bN 4 q_f8))), (q9, .inl (k_f9, 88, .inl (bN 2 q_f9))), (q10, .inl (k_f10, 88, .inl f10)), (q11, .inl (k_f11, 88, .inl f11)), (q12, .inl (k_f12, 88, .inl f12)), (q13, .inl (k_f13, 88, .inl f13)), (q14, .inl (k_f14, 4, .inl f14)), (q15, .inl (k_f15, 4, .inl f15)), (q16, .inl (k_f16, 4, .inl f16))] := (zp_left hD).sub [0, 1, 2, 3, 4, 5, 6, 7, 8, 9, 10, 11, 12, 13, 14] (by decide) rfl
  have hKc : va_K (dC, dI) vwCl [(k_f4, .boolean), (k_f5, .int), (k_f6, .int), (k_f7, .int), (k_f8, .int), (k_f9, .int), (k_f10, .int), (k_f11, .int), (k_f12, .int), (k_f13, .int), (k_f14, .int), (k_f15, .int), (k_f16, .int)] s := hK.sub [0, 1, 2, 3, 4, 5, 6, 7, 8, 9, 10, 11, 12] rfl
  refine va_calli (va_runV (As := [.int p0, .int p1]) (rest := []) ⟨hx, hb, hml, hown, hts⟩ (c_E_8_slotOf l dC dI _ xa xtape tp rd au xdr hy g 0 tg sg 0 rm ti py bu sm nc 0 ne st0 q4 q5 q6 q7 q8 q9 q10 q11 q12 q13 q14 q15 q16 k_f4 f4 k_f5 q_f5 k_f6 q_f6 k_f7 f7 k_f8 q_f8 k_f9 q_f9 k_f10 f10 k_f11 f11 k_f12 f12 k_f13 f13 k_f14 f14 k_f15 f15 k_f16 f16 p0 p1 htp (Nat.le_of_ble_eq_true rfl) (Nat.le_of_ble_eq_true rfl) hnc (Nat.le_of_ble_eq_true rfl) hne (hst0)) (cwV 2 hts g_E_8_lets_0_E_8_slotOf rfl rfl rfl (by decide +kernel) ⟨Nat.le_of_ble_eq_true rfl, Nat.le_of_ble_eq_true rfl⟩) ⟨pu_bl, va_recv hK hP (ci := 8) (q0 := 0) rfl rfl, pu_in hPc hKc hDc⟩ rfl rfl hl.1 rfl (lv_room (Nat.le_of_ble_eq_true rfl)) eX8_lets_3 ⟨Nat.le_of_ble_eq_true rfl, Nat.le_of_ble_eq_true rfl⟩) hS (fun q _ h => pu_fr hS hA q h) (pu_fr hS hA) (fun r_1 u t H1 locs ht hvm hw hB hz1 hk1 hS => ?_)
  have hP := pu_keep hP hk1
  clear hPc hDc hKc
  clear hk1 hz1 ht hvm
  generalize H1 = H at hP hS ⊢
  obtain ⟨u_2, hu_2, mu_2, iu_2⟩ := hw
  have hsp := hsp.trans (slet_eq iu_2)
  rcases mI_get u_2 with ⟨zn_3, wn_3⟩ | ⟨n_3, zn_3, wn_3⟩
  · obtain rfl : r_1 = -1 := mu_2.trans wn_3
    have hsp := hsp.trans (if_pos zn_3)
    refine lv_istore (lv' := [(5, .int (-1)), (0, .ref xa), (1, .int p0), (2, .int p1), (3, .int p2), (4, .int p3)]) hx hb eX8_lets_6 hl (by decide) rfl (fun ls hl => ?_)
    refine lv_iload hx hb eX8_lets_8 (lv_at hl 0 rfl) ?_
    refine lv_iconst (v := (-1)) hx hb eX8_lets_10 (by decide) ?_
    refine lv_icmp_eq (tgt := 33) hx hb eX8_lets_11 (by decide) (fun _ => ?_) (fun z => absurd z (by decide))
    refine lv_iconst (v := (-1)) hx hb eX8_lets_33 (by decide) ?_
    exact W.iret (v := (-1)) hx hb hr (fun t ht hW => ⟨⟨(-1), (), rfl, (hsp.symm.trans hRR), trivial⟩, hS.F ht⟩) hS.2.2 eX8_lets_34
  · obtain rfl : r_1 = nI n_3 := mu_2.trans wn_3
    have hn_3 : n_3 ≤ 87 := by omega
    have hsp := hsp.trans (if_neg (by omega))
    have hsp := hsp.trans (slet_eq (by omega : n_3 = u_2 - 1))
    refine lv_istore (lv' := [(5, .int (nI n_3)), (0, .ref xa), (1, .int p0), (2, .int p1), (3, .int p2), (4, .int p3)]) hx hb eX8_lets_6 hl (by decide) rfl (fun ls hl => ?_)
    refine lv_iload hx hb eX8_lets_8 (lv_at hl 0 rfl) ?_
    refine lv_iconst (v := (-1)) hx hb eX8_lets_10 (by decide) ?_
    refine lv_icmp_eq (tgt := 33) hx hb eX8_lets_11 (by decide) (fun z => absurd z (pu_nneg (n := n_3) (by omega) (by decide))) (fun _ => ?_)
    refine lv_aload_n hx hb eX8_lets_14 rfl (lv_at hl 1 rfl) ?_
    refine lv_iload_n hx hb eX8_lets_15 rfl (lv_at hl 4 rfl) ?_
    have hPc : va_P (dC, dI) vwCl [(xa, .inr (8, [.ref xtape, .int (nI tp), .ref rd, .ref au, .ref xdr, .ref hy, .ref g, .int 0, .ref tg, .ref sg, .int 0, .ref rm, .ref ti, .ref py, .ref bu, .ref sm])), (au, .inr (0, [.int (nI nc), .int 0, .int (nI ne), .int st0, .ref q4, .ref q5, .ref q6, .ref q7, .ref q8, .ref q9, .ref q10, .ref q11, .ref q12, .ref q13, .ref q14, .ref q15, .ref q16]))] _ := hP.sub [0, 1] rfl
    have hDc : va_D (fun _ => True) [(xa, .inr (8, [.ref xtape, .int (nI tp), .ref rd, .ref au, .ref xdr, .ref hy, .ref g, .int 0, .ref tg, .ref sg, .int 0, .ref rm, .ref ti, .ref py, .ref bu, .ref sm])), (au, .inr (0, [.int (nI nc), .int 0, .int (nI ne), .int st0, .ref q4, .ref q5, .ref q6, .ref q7, .ref q8, .ref q9, .ref q10, .ref q11, .ref q12, .ref q13, .ref q14, .ref q15, .ref q16]))] := (zp_left hD).sub [0, 1] (by decide) rfl
    have hKc : va_K (dC, dI) vwCl [] s := hK.sub [] rfl
    refine va_calli (va_runV (As := [.int p2]) (rest := []) ⟨hx, hb, hml, hown, hts⟩ (c_E_8_isPlace l dC dI _ xa xtape tp rd au xdr hy g 0 tg sg 0 rm ti py bu sm nc 0 ne st0 q4 q5 q6 q7 q8 q9 q10 q11 q12 q13 q14 q15 q16 p2 htp (Nat.le_of_ble_eq_true rfl) (Nat.le_of_ble_eq_true rfl) hnc (Nat.le_of_ble_eq_true rfl) hne (hst0)) (cwV 1 hts g_E_8_lets_0_E_8_isPlace rfl rfl rfl (by decide +kernel) ⟨Nat.le_of_ble_eq_true rfl, Nat.le_of_ble_eq_true rfl⟩) ⟨pu_bl, va_recv hK hP (ci := 8) (q0 := 0) rfl rfl, pu_in hPc hKc hDc⟩ rfl rfl hl.1 rfl (lv_room (Nat.le_of_ble_eq_true rfl)) eX8_lets_16 ⟨Nat.le_of_ble_eq_true rfl, Nat.le_of_ble_eq_true rfl⟩) hS (fun q _ h => pu_fr hS hA q h) (pu_fr hS hA) (fun r_4 u t H1 locs ht hvm hw hB hz1 hk1 hS => ?_)
    have hP := pu_keep hP hk1
    clear hPc hDc hKc
    clear hk1 hz1 ht hvm
    generalize H1 = H at hP hS ⊢
    rcases hw with ⟨rfl, hw⟩ | ⟨rfl, hn⟩
    · obtain ⟨n_5, hn_5, -⟩ := hw
      exact absurd hn_5 (Nat.not_lt_zero _)
    · refine lv_if_eq (tgt := 33) hx hb eX8_lets_19 (by decide) (fun _ => ?_) (fun z => absurd z (by decide))
      refine lv_iconst (v := (-1)) hx hb eX8_lets_33 (by decide) ?_
      exact W.iret (v := (-1)) hx hb hr (fun t ht hW => ⟨⟨(-1), (), rfl, (hsp.symm.trans hRR), trivial⟩, hS.F ht⟩) hS.2.2 eX8_lets_34
