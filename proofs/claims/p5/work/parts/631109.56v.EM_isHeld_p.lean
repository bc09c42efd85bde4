abbrev vs_EM_isHeld_p : List Cond := .code yX9_isHeld cX9_isHeld 8 (some .boolean) :: VM
theorem g_EM_isHeld_p_EM_manyOf_p : GoodIn vs_EM_isHeld_p (wsV RX9 295 RX9 yX9_manyOf vs_EM_manyOf_p) := gm_V vm_152 vm_153 vm_154 vm_19 vm_155
theorem g_EM_isHeld_p_EM_spot_p : GoodIn vs_EM_isHeld_p (wsV RX9 311 RX9 yX9_spot vs_EM_spot_p) := gm_V vm_160 vm_161 vm_162 vm_19 vm_163
theorem g_EM_isHeld_p_EM_isOf : GoodIn vs_EM_isHeld_p (va_wsS RX9 248 yX9_isOf vs_EM_isOf) := gm_S vm_114 vm_115 vm_19 vm_116
noncomputable def sp_EM_isHeld_p_L1 (x16 : Nat) (q4 : Nat → Nat) (q9 : Nat → Nat) (q10 : Nat → Nat) (f11 : Nat → Int32) (m13_0 : Nat) (m13_1 : Nat) (f64 : Nat → Int32) (a0 : Nat) (p1 : Int32) : (Nat) → (Nat) ⊕ (Nat) := fun g_2 => (slet (sp_EM_manyOf_p x16 q4 m13_0 m13_1 a0) (fun u_10 => (if u_10 = 0 then (Sum.inr 1) else (slet (u_10 - 1) (fun n_11 => (if n_11 ≤ g_2 then (Sum.inr 1) else (slet (min (q9 (80 * x16 + (56 + 3 * (a0 - 100)) + g_2)) 2) (fun u_15 => (slet (α := Int32) (slet (sp_EM_isOf p1 (nI u_15)) (fun u_45 => (if u_45 = 0 then (slet (f64 u_15) (fun y_49 => y_49)) else 0))) (fun g_16 => (slet (f11 (80 * x16 + (56 + 3 * (a0 - 100)) + g_2)) (fun y_20 => (slet ((256 : Int32) * y_20) (fun y_21 => (slet (min (q10 (80 * x16 + (56 + 3 * (a0 - 100)) + g_2)) (if (80 * x16 + (56 + 3 * (a0 - 100)) + g_2) % 80 < 56 then 4 else 1)) (fun u_23 => (slet (α := Nat) (if u_23 = 0 then (if (y_21 : Int32) ≤ g_16 then 0 else 1) else (if u_23 = 1 then (if (y_21 : Int32) < g_16 then 0 else 1) else (if u_23 = 2 then (if (g_16 : Int32) = y_21 then 1 else 0) else (if u_23 = 3 then (if (g_16 : Int32) < y_21 then 0 else 1) else (if (g_16 : Int32) ≤ y_21 then 0 else 1))))) (fun g_24 => (if g_24 = 0 then (Sum.inr 0) else (Sum.inl (g_2 + 1)))))))))))))))))))))
noncomputable def sp_EM_isHeld_p (x16 : Nat) (q4 : Nat → Nat) (q9 : Nat → Nat) (q10 : Nat → Nat) (f11 : Nat → Int32) (m13_0 : Nat) (m13_1 : Nat) (f64 : Nat → Int32) (a0 : Nat) (p1 : Int32) : Nat := (itrv (α := Nat) (β := (Nat)) default (sp_EM_isHeld_p_L1 x16 q4 q9 q10 f11 m13_0 m13_1 f64 a0 p1) 0)
set_option maxHeartbeats 4000000 in
set_option maxRecDepth 100000 in
theorem c_EM_isHeld_p (l : Launch) (dC : Nat → ClassId) (dI : Nat → Nat → Nat) (sz : Nat) (ad : Nat → Nat) (ck : Nat → ClassId) (x0 : Int32) (x16 : Nat) (x18 : Nat) (x19 : Nat) (x20 : Int32) (x21 : Nat) (x22 : Nat) (x23 : Int32) (x24 : Int32) (x25 : Int32) (x26 : Nat) (x27 : Int32) (x28 : Nat) (x29 : Nat) (x30 : Nat) (x33 : Nat) (x45 : Int32) (x46 : Nat) (x52 : Nat) (x53 : Nat) (x61 : Nat) (x62 : Nat) (x63 : Nat) (x65 : Nat) (x66 : Int32) (f1 : Nat → Int32) (f2 : Nat → Int32) (f3 : Nat → Int32) (q4 : Nat → Nat) (q5 : Nat → Nat) (q6 : Nat → Nat) (q7 : Nat → Nat) (f8 : Nat → Int32) (q9 : Nat → Nat) (q10 : Nat → Nat) (f11 : Nat → Int32) (m12_0 m12_1 : Nat) (m13_0 m13_1 : Nat) (m14_0 m14_1 : Nat) (m15_0 m15_1 : Nat) (f17 : Nat → Int32) (q31 : Nat → Nat) (f32 : Nat → Int32) (f34 : Nat → Int32) (f35 : Nat → Int32) (f36 : Nat → Int32) (f37 : Nat → Int32) (q38 : Nat → Nat) (f39 : Nat → Int32) (f40 : Nat → Int32) (f41 : Nat → Int32) (m42_0 m42_1 : Nat) (f43 : Nat → Int32) (f44 : Nat → Int32) (f47 : Nat → Int32) (f48 : Nat → Int32) (f49 : Nat → Int32) (f50 : Nat → Int32) (f51 : Nat → Int32) (q54 : Nat → Nat) (q55 : Nat → Nat) (q56 : Nat → Nat) (f57 : Nat → Int32) (q58 : Nat → Nat) (f59 : Nat → Int32) (f60 : Nat → Int32) (f64 : Nat → Int32) (a0 : Nat) (p1 : Int32) (hx16 : x16 ≤ 1) (hx18 : x18 ≤ 900) (hx19 : x19 ≤ 900) (hx21 : x21 ≤ 900) (hx22 : x22 ≤ 4) (hx26 : x26 ≤ 6) (hx28 : x28 ≤ 1) (hx29 : x29 ≤ 1) (hx30 : x30 ≤ 1) (hx33 : x33 ≤ 20) (hx46 : x46 ≤ 5) (hx52 : x52 ≤ 2400) (hx53 : x53 ≤ 119) (hx61 : x61 ≤ 119) (hx62 : x62 ≤ 2000) (hx63 : x63 ≤ 1) (hx65 : x65 ≤ 7) (hm12_0 : m12_0 ≤ 3) (hm12_1 : m12_1 ≤ 3) (hm13_0 : m13_0 ≤ 8) (hm13_1 : m13_1 ≤ 8) (hm14_0 : m14_0 ≤ 14) (hm14_1 : m14_1 ≤ 14) (hm15_0 : m15_0 ≤ 8) (hm15_1 : m15_1 ≤ 8) (hm42_0 : m42_0 ≤ 120) (hm42_1 : m42_1 ≤ 400) (ha0 : a0 ≤ 107) (hb0 : 100 ≤ a0) : Met l yX9_isHeld vs_EM_isHeld_p ({ frames := 3, cells := 0, slots := 0, locals := 64 }) (va_Pc [.ref (ad 0), .int (nI a0), .int p1] (pu_B (dC, dI) (mo_w ad ck x0 (nI x16) (nI x18) (nI x19) x20 (nI x21) (nI x22) x23 x24 x25 (nI x26) x27 (nI x28) (nI x29) (nI x30) (nI x33) x45 (nI x46) (nI x52) (nI x53) (nI x61) (nI x62) (nI x63) (nI x65) x66 f1 f2 f3 (bN 3 q4) (bN 7 q5) (bN 7 q6) (bN 4 q7) f8 (bN 2 q9) (bH q10) f11 (b2 m12_0 m12_1) (b2 m13_0 m13_1) (b2 m14_0 m14_1) (b2m m15_0 m15_1) f17 (bA 159 q31) f32 f34 f35 f36 f37 (bN 7 q38) f39 f40 f41 (b2 m42_0 m42_1) f43 f44 f47 f48 f49 f50 f51 (bN 13 q54) (bN 120 q55) (bN 120 q56) f57 (bN 120 q58) f59 f60 f64) (mo_t ck) sz)) (va_Qi (fun (r : Int32) (_ : Unit) => ∃ v : Nat, v ≤ 1 ∧ r = nI v ∧ v = (sp_EM_isHeld_p x16 q4 q9 q10 f11 m13_0 m13_1 f64 a0 p1)) (fun _ _ => True) (va_A [] sz)) 0 0 (va_A [] sz) := by
  refine Met.ofW (cc := cX9_isHeld) (maxL := 8) (ret := (some .boolean)) (by decide) rfl ?_
  intro p e s m args below meth c s₁ B hml hv
  obtain ⟨rfl, rfl, hP, hK, hD0⟩ := hv
  have hx := B.exec
  have hb := B.bytes
  have hr := B.returns
  have hts := atoms_spec (ws := vs_EM_isHeld_p) B.pre
  have v_10 := hts (.fieldLink RX9 34 "ClockReachModel" "ofClock" "[I") (List.mem_cons_of_mem _ vm_98)
  have v_14 := hts (.fieldLink RX9 139 "ClockReachModel" "clockTime" "[I") (List.mem_cons_of_mem _ vm_358)
  have v_15 := hts (.fieldLink RX9 40 "ClockReachModel" "limit" "[I") (List.mem_cons_of_mem _ vm_100)
  have v_16 := hts (.fieldLink RX9 37 "ClockReachModel" "how" "[I") (List.mem_cons_of_mem _ vm_99)
  have hown : s.vm.findClass RX9 = some m.cls := findClass_of_methodNamed B.named
  have hlocks := B.notSynchronized
  have hiX9 : ∀ w ∈ wsX90, w ∈ vs_EM_isHeld_p := fun _ h => List.mem_cons_of_mem _ (vmi_L h)
  have hD := hD0
  have hA : ∀ q : Nat, s.heap.size ≤ q → va_A [] s.heap.size q := fun _ h => Or.inr h
  have hS : va_S (va_A [] s.heap.size) s.heap s.heap [] := va_S.rf
  have hl := lv_entry ([.ref (ad 0), .int (nI a0), .int p1]) (n := 8) (Nat.le_of_ble_eq_true rfl)
  rw [lg_entry_eq]
  generalize (lg_sl ([.ref (ad 0), .int (nI a0), .int p1]) ++ List.replicate (8 - (lg_sl ([.ref (ad 0), .int (nI a0), .int p1])).length) Slot.unset).toArray = ls at hl ⊢
  have hl : lv_has ls 8 [(0, .ref (ad 0)), (1, .int (nI a0)), (2, .int p1)] := hl
  obtain ⟨RR, hRR⟩ : ∃ x, x = (sp_EM_isHeld_p x16 q4 q9 q10 f11 m13_0 m13_1 f64 a0 p1) := ⟨_, rfl⟩
  have hsp := hRR
  refine lv_iconst (v := 0) hx hb dX9_isHeld_0 (by decide) ?_
  refine lv_istore_n (lv' := [(3, .int 0), (0, .ref (ad 0)), (1, .int (nI a0)), (2, .int p1)]) hx hb dX9_isHeld_1 rfl hl (by decide) rfl (fun ls hl => ?_)
  obtain ⟨lf_4, dlf_4, hlf_4, hsp⟩ := itr_ex hsp
  delta sp_EM_isHeld_p_L1 at hlf_4
  refine pu_while (fun nn H locs ls => ∃ (g_2 : Nat), nn = 3 - g_2 ∧ g_2 ≤ 3 ∧ RR = itrv dlf_4 lf_4 g_2 ∧ va_P (dC, dI) vwCl (mo_w ad ck x0 (nI x16) (nI x18) (nI x19) x20 (nI x21) (nI x22) x23 x24 x25 (nI x26) x27 (nI x28) (nI x29) (nI x30) (nI x33) x45 (nI x46) (nI x52) (nI x53) (nI x61) (nI x62) (nI x63) (nI x65) x66 f1 f2 f3 (bN 3 q4) (bN 7 q5) (bN 7 q6) (bN 4 q7) f8 (bN 2 q9) (bH q10) f11 (b2 m12_0 m12_1) (b2 m13_0 m13_1) (b2 m14_0 m14_1) (b2m m15_0 m15_1) f17 (bA 159 q31) f32 f34 f35 f36 f37 (bN 7 q38) f39 f40 f41 (b2 m42_0 m42_1) f43 f44 f47 f48 f49 f50 f51 (bN 13 q54) (bN 120 q55) (bN 120 q56) f57 (bN 120 q58) f59 f60 f64) H ∧ va_D (fun _ => True) (mo_w ad ck x0 (nI x16) (nI x18) (nI x19) x20 (nI x21) (nI x22) x23 x24 x25 (nI x26) x27 (nI x28) (nI x29) (nI x30) (nI x33) x45 (nI x46) (nI x52) (nI x53) (nI x61) (nI x62) (nI x63) (nI x65) x66 f1 f2 f3 (bN 3 q4) (bN 7 q5) (bN 7 q6) (bN 4 q7) f8 (bN 2 q9) (bH q10) f11 (b2 m12_0 m12_1) (b2 m13_0 m13_1) (b2 m14_0 m14_1) (b2m m15_0 m15_1) f17 (bA 159 q31) f32 f34 f35 f36 f37 (bN 7 q38) f39 f40 f41 (b2 m42_0 m42_1) f43 f44 f47 f48 f49 f50 f51 (bN 13 q54) (bN 120 q55) (bN 120 q56) f57 (bN 120 q58) f59 f60 f64) ∧ va_S (va_A [] s.heap.size) s.heap H locs ∧ lv_has ls 8 [(0, .ref (ad 0)), (1, .int (nI a0)), (2, .int p1), (3, .int (nI g_2))]) 2 ?_ _ _ _ _ ⟨0, rfl, (Nat.le_of_ble_eq_true rfl), hsp, hP, hD, hS, lv_sub hl [1, 2, 3, 0] rfl⟩
  rintro nn ih_3 H locs ls ⟨g_2, rfl, hg_2, he_6, hP, hD, hS, hl⟩
  obtain ⟨S_5, hsp, hin_7, hout_8⟩ := itr_step hlf_4 he_6
  refine lv_iload_n hx hb dX9_isHeld_2 rfl (lv_at hl 3 rfl) ?_
  refine lv_aload_n hx hb dX9_isHeld_3 rfl (lv_at hl 0 rfl) ?_
  refine lv_iload_n hx hb dX9_isHeld_4 rfl (lv_at hl 1 rfl) ?_
  refine va_calli (va_runV (As := [.int (nI a0)]) (rest := [.int (nI g_2)]) ⟨hx, hb, hml, hown, hts⟩ (c_EM_manyOf_p l dC dI _ ad ck x0 x16 x18 x19 x20 x21 x22 x23 x24 x25 x26 x27 x28 x29 x30 x33 x45 x46 x52 x53 x61 x62 x63 x65 x66 f1 f2 f3 q4 q5 q6 q7 f8 q9 q10 f11 m12_0 m12_1 m13_0 m13_1 m14_0 m14_1 m15_0 m15_1 f17 q31 f32 f34 f35 f36 f37 q38 f39 f40 f41 m42_0 m42_1 f43 f44 f47 f48 f49 f50 f51 q54 q55 q56 f57 q58 f59 f60 f64 a0 hx16 hx18 hx19 hx21 hx22 hx26 hx28 hx29 hx30 hx33 hx46 hx52 hx53 hx61 hx62 hx63 hx65 hm12_0 hm12_1 hm13_0 hm13_1 hm14_0 hm14_1 hm15_0 hm15_1 hm42_0 hm42_1 ha0 (by omega)) (cwV 1 hts g_EM_isHeld_p_EM_manyOf_p rfl rfl rfl (by decide +kernel) ⟨Nat.le_of_ble_eq_true rfl, Nat.le_of_ble_eq_true rfl⟩) ⟨pu_bl, va_recv hK hP (ci := 9) (q0 := 0) rfl rfl, pu_in hP hK hD⟩ rfl rfl hl.1 rfl (lv_room (Nat.le_of_ble_eq_true rfl)) dX9_isHeld_5 ⟨Nat.le_of_ble_eq_true rfl, Nat.le_of_ble_eq_true rfl⟩) hS (fun q _ h => pu_fr hS hA q h) (pu_fr hS hA) (fun r_9 u t H1 locs ht hvm hw hB hz1 hk1 hS => ?_)
  have hP := pu_keep hP hk1
  clear hk1 hz1 ht hvm
  generalize H1 = H at hP hS ⊢
  obtain ⟨u_10, hu_10, mu_10, iu_10⟩ := hw
  replace hsp := hsp.trans (slet_eq iu_10)
  rcases mI_get u_10 with ⟨zn_11, wn_11⟩ | ⟨n_11, zn_11, wn_11⟩
  · obtain rfl : r_9 = -1 := mu_10.trans wn_11
    replace hsp := hsp.trans (if_pos zn_11)
    refine lv_icmp_ge (tgt := 194) hx hb dX9_isHeld_8 (by decide) (fun _ => ?_) (fun z => absurd (pu_negle (n := g_2) (by omega) (by decide)) z)
    replace hsp := hout_8 _ hsp
    refine lv_iconst (v := 1) hx hb dX9_isHeld_194 (by decide) ?_
    exact W.zret (v := 1) (ty := .boolean) hx hb hr (rfl) (fun t ht hW => ⟨⟨1, (), rfl, ⟨1, (Nat.le_of_ble_eq_true rfl), rfl, (hsp.symm.trans hRR)⟩, trivial⟩, hS.F ht⟩) hS.2.2 dX9_isHeld_195
  · obtain rfl : r_9 = nI n_11 := mu_10.trans wn_11
    have hn_11 : n_11 ≤ 3 := by omega
    replace hsp := hsp.trans (if_neg (by omega))
    replace hsp := hsp.trans (slet_eq (by omega : n_11 = u_10 - 1))
    refine lv_icmp_ge (tgt := 194) hx hb dX9_isHeld_8 (by decide) (fun c_12 => ?_) (fun c_12 => ?_)
    · have c_12 : n_11 ≤ g_2 := (nI_leI (a := n_11) (b := g_2) (Nat.lt_of_le_of_lt hn_11 (Nat.le_of_ble_eq_true rfl)) (Nat.lt_of_le_of_lt hg_2 (Nat.le_of_ble_eq_true rfl))).mp c_12
      replace hsp := hsp.trans (if_pos c_12)
      replace hsp := hout_8 _ hsp
      refine lv_iconst (v := 1) hx hb dX9_isHeld_194 (by decide) ?_
      exact W.zret (v := 1) (ty := .boolean) hx hb hr (rfl) (fun t ht hW => ⟨⟨1, (), rfl, ⟨1, (Nat.le_of_ble_eq_true rfl), rfl, (hsp.symm.trans hRR)⟩, trivial⟩, hS.F ht⟩) hS.2.2 dX9_isHeld_195
    · have c_12 : ¬ n_11 ≤ g_2 := fun z => c_12 ((nI_leI (a := n_11) (b := g_2) (Nat.lt_of_le_of_lt hn_11 (Nat.le_of_ble_eq_true rfl)) (Nat.lt_of_le_of_lt hg_2 (Nat.le_of_ble_eq_true rfl))).mpr z)
      replace hsp := hsp.trans (if_neg c_12)
      refine lv_aload_n hx hb dX9_isHeld_11 rfl (lv_at hl 0 rfl) ?_
      refine lv_iload_n hx hb dX9_isHeld_12 rfl (lv_at hl 1 rfl) ?_
      refine lv_iload_n hx hb dX9_isHeld_13 rfl (lv_at hl 3 rfl) ?_
      refine va_calli (va_runV (As := [.int (nI a0), .int (nI g_2)]) (rest := []) ⟨hx, hb, hml, hown, hts⟩ (c_EM_spot_p l dC dI _ ad ck x0 x16 x18 x19 x20 x21 x22 x23 x24 x25 x26 x27 x28 x29 x30 x33 x45 x46 x52 x53 x61 x62 x63 x65 x66 f1 f2 f3 q4 q5 q6 q7 f8 q9 q10 f11 m12_0 m12_1 m13_0 m13_1 m14_0 m14_1 m15_0 m15_1 f17 q31 f32 f34 f35 f36 f37 q38 f39 f40 f41 m42_0 m42_1 f43 f44 f47 f48 f49 f50 f51 q54 q55 q56 f57 q58 f59 f60 f64 a0 g_2 hx16 hx18 hx19 hx21 hx22 hx26 hx28 hx29 hx30 hx33 hx46 hx52 hx53 hx61 hx62 hx63 hx65 hm12_0 hm12_1 hm13_0 hm13_1 hm14_0 hm14_1 hm15_0 hm15_1 hm42_0 hm42_1 ha0 (by omega) (by omega)) (cwV 2 hts g_EM_isHeld_p_EM_spot_p rfl rfl rfl (by decide +kernel) ⟨Nat.le_of_ble_eq_true rfl, Nat.le_of_ble_eq_true rfl⟩) ⟨pu_bl, va_recv hK hP (ci := 9) (q0 := 0) rfl rfl, pu_in hP hK hD⟩ rfl rfl hl.1 rfl (lv_room (Nat.le_of_ble_eq_true rfl)) dX9_isHeld_14 ⟨Nat.le_of_ble_eq_true rfl, Nat.le_of_ble_eq_true rfl⟩) hS (fun q _ h => pu_fr hS hA q h) (pu_fr hS hA) (fun r_13 u t H1 locs ht hvm hw hB hz1 hk1 hS => ?_)
      have hP := pu_keep hP hk1
      clear hk1 hz1 ht hvm
      generalize H1 = H at hP hS ⊢
      obtain rfl : r_13 = nI (80 * x16 + (56 + 3 * (a0 - 100)) + g_2) := hw
      refine lv_istore (lv' := [(4, .int (nI (80 * x16 + (56 + 3 * (a0 - 100)) + g_2))), (0, .ref (ad 0)), (1, .int (nI a0)), (2, .int p1), (3, .int (nI g_2))]) hx hb dX9_isHeld_17 hl (by decide) rfl (fun ls hl => ?_)
      refine lv_iload_n hx hb dX9_isHeld_19 rfl (lv_at hl 3 rfl) ?_
      refine lv_aload_n hx hb dX9_isHeld_20 rfl (lv_at hl 1 rfl) ?_
      refine va_get (D := (dC, dI)) (ci := 9) (v := .ref (ad 9)) (C := RX9) (T := TX9) (N := 67) hx hb hts hiX9 hown hK hP 0 rfl rfl 9 (by decide) v_10 (fun _ h9 => h9) rfl dX9_isHeld_21 ?_
      refine lv_iload hx hb dX9_isHeld_24 (lv_at hl 0 rfl) ?_
      refine va_iald hx hb hK hP 9 8 rfl rfl (vp_in_nI (n := (80 * x16 + (56 + 3 * (a0 - 100)) + g_2)) (by omega) (Nat.le_of_ble_eq_true rfl)) dX9_isHeld_26 ?_
      refine lv_topi (fun y_14 ey_14 => ?_)
      obtain ⟨u_15, hu_15, qu_15, xu_15⟩ := bN_getx 2 q9 (n := (80 * x16 + (56 + 3 * (a0 - 100)) + g_2)) (by first | omega | exact Nat.lt_trans (sp_ix (by omega) (by omega) (by omega)) (by decide : 14641 < 2 ^ 31) | exact Nat.lt_trans (sp_ix0 (by omega) (by omega)) (by decide : 14641 < 2 ^ 31) | exact Nat.lt_trans (zx16 (by omega) (by omega) (by omega)) (Nat.le_of_ble_eq_true rfl) | exact Nat.lt_trans (zy16 (by omega) (by omega)) (Nat.le_of_ble_eq_true rfl) | exact Nat.lt_trans (zx25 (by omega) (by omega) (by omega)) (Nat.le_of_ble_eq_true rfl) | exact Nat.lt_trans (zy25 (by omega) (by omega)) (Nat.le_of_ble_eq_true rfl))
      obtain rfl : y_14 = nI u_15 := ey_14.trans qu_15
      replace hsp := hsp.trans (slet_eq xu_15)
      obtain ⟨JR_18, hJR_18, hsp⟩ := slet_ex hsp
      refine pu_join (fun H locs ls st => ∃ (g_16 : Int32), st = [.int g_16] ∧ g_16 = JR_18 ∧ va_P (dC, dI) vwCl (mo_w ad ck x0 (nI x16) (nI x18) (nI x19) x20 (nI x21) (nI x22) x23 x24 x25 (nI x26) x27 (nI x28) (nI x29) (nI x30) (nI x33) x45 (nI x46) (nI x52) (nI x53) (nI x61) (nI x62) (nI x63) (nI x65) x66 f1 f2 f3 (bN 3 q4) (bN 7 q5) (bN 7 q6) (bN 4 q7) f8 (bN 2 q9) (bH q10) f11 (b2 m12_0 m12_1) (b2 m13_0 m13_1) (b2 m14_0 m14_1) (b2m m15_0 m15_1) f17 (bA 159 q31) f32 f34 f35 f36 f37 (bN 7 q38) f39 f40 f41 (b2 m42_0 m42_1) f43 f44 f47 f48 f49 f50 f51 (bN 13 q54) (bN 120 q55) (bN 120 q56) f57 (bN 120 q58) f59 f60 f64) H ∧ va_D (fun _ => True) (mo_w ad ck x0 (nI x16) (nI x18) (nI x19) x20 (nI x21) (nI x22) x23 x24 x25 (nI x26) x27 (nI x28) (nI x29) (nI x30) (nI x33) x45 (nI x46) (nI x52) (nI x53) (nI x61) (nI x62) (nI x63) (nI x65) x66 f1 f2 f3 (bN 3 q4) (bN 7 q5) (bN 7 q6) (bN 4 q7) f8 (bN 2 q9) (bH q10) f11 (b2 m12_0 m12_1) (b2 m13_0 m13_1) (b2 m14_0 m14_1) (b2m m15_0 m15_1) f17 (bA 159 q31) f32 f34 f35 f36 f37 (bN 7 q38) f39 f40 f41 (b2 m42_0 m42_1) f43 f44 f47 f48 f49 f50 f51 (bN 13 q54) (bN 120 q55) (bN 120 q56) f57 (bN 120 q58) f59 f60 f64) ∧ va_S (va_A [] s.heap.size) s.heap H locs ∧ lv_has ls 8 [(0, .ref (ad 0)), (1, .int (nI a0)), (2, .int p1), (3, .int (nI g_2)), (4, .int (nI (80 * x16 + (56 + 3 * (a0 - 100)) + g_2)))]) 49 ?_ (fun j_17 => ?_)
      · rintro H locs ls st ⟨g_16, rfl, he_19, hP, hD, hS, hl⟩
        rw [← he_19] at hsp
        refine lv_istore (lv' := [(5, .int g_16), (0, .ref (ad 0)), (1, .int (nI a0)), (2, .int p1), (3, .int (nI g_2)), (4, .int (nI (80 * x16 + (56 + 3 * (a0 - 100)) + g_2)))]) hx hb dX9_isHeld_49 hl (by decide) rfl (fun ls hl => ?_)
        refine lv_sipush (v := 256) hx hb dX9_isHeld_51 (by decide) ?_
        refine lv_aload_n hx hb dX9_isHeld_54 rfl (lv_at hl 1 rfl) ?_
        refine va_get (D := (dC, dI)) (ci := 9) (v := .ref (ad 11)) (C := RX9) (T := TX9) (N := 67) hx hb hts hiX9 hown hK hP 0 rfl rfl 11 (by decide) v_15 (fun _ h9 => h9) rfl dX9_isHeld_55 ?_
        refine lv_iload hx hb dX9_isHeld_58 (lv_at hl 5 rfl) ?_
        refine va_iald hx hb hK hP 11 10 rfl rfl (vp_in_nI (n := (80 * x16 + (56 + 3 * (a0 - 100)) + g_2)) (by omega) (Nat.le_of_ble_eq_true rfl)) dX9_isHeld_60 ?_
        refine lv_topi (fun y_20 ey_20 => ?_)
        have ey_20 : y_20 = f11 (80 * x16 + (56 + 3 * (a0 - 100)) + g_2) := ey_20.trans (congrArg f11 (nI_clamp (n := (80 * x16 + (56 + 3 * (a0 - 100)) + g_2)) (by first | omega | exact Nat.lt_trans (sp_ix (by omega) (by omega) (by omega)) (by decide : 14641 < 2 ^ 31) | exact Nat.lt_trans (sp_ix0 (by omega) (by omega)) (by decide : 14641 < 2 ^ 31) | exact Nat.lt_trans (zx16 (by omega) (by omega) (by omega)) (Nat.le_of_ble_eq_true rfl) | exact Nat.lt_trans (zy16 (by omega) (by omega)) (Nat.le_of_ble_eq_true rfl) | exact Nat.lt_trans (zx25 (by omega) (by omega) (by omega)) (Nat.le_of_ble_eq_true rfl) | exact Nat.lt_trans (zy25 (by omega) (by omega)) (Nat.le_of_ble_eq_true rfl))))
        replace hsp := hsp.trans (slet_eq ey_20)
        refine lv_imul hx hb dX9_isHeld_61 ?_
        refine lv_topi (fun y_21 ey_21 => ?_)
        replace hsp := hsp.trans (slet_eq ey_21)
        refine lv_istore (lv' := [(6, .int y_21), (5, .int g_16), (0, .ref (ad 0)), (1, .int (nI a0)), (2, .int p1), (3, .int (nI g_2)), (4, .int (nI (80 * x16 + (56 + 3 * (a0 - 100)) + g_2)))]) hx hb dX9_isHeld_62 hl (by decide) rfl (fun ls hl => ?_)
        refine lv_aload_n hx hb dX9_isHeld_64 rfl (lv_at hl 2 rfl) ?_
        refine va_get (D := (dC, dI)) (ci := 9) (v := .ref (ad 10)) (C := RX9) (T := TX9) (N := 67) hx hb hts hiX9 hown hK hP 0 rfl rfl 10 (by decide) v_16 (fun _ h9 => h9) rfl dX9_isHeld_65 ?_
        refine lv_iload hx hb dX9_isHeld_68 (lv_at hl 6 rfl) ?_
        refine va_iald hx hb hK hP 10 9 rfl rfl (vp_in_nI (n := (80 * x16 + (56 + 3 * (a0 - 100)) + g_2)) (by omega) (Nat.le_of_ble_eq_true rfl)) dX9_isHeld_70 ?_
        refine lv_topi (fun y_22 ey_22 => ?_)
        obtain ⟨u_23, hu_23, qu_23, xu_23⟩ := bH_getx q10 (i := (80 * x16 + (56 + 3 * (a0 - 100)) + g_2)) (by omega)
        obtain rfl : y_22 = nI u_23 := ey_22.trans qu_23
        replace hsp := hsp.trans (slet_eq xu_23)
        obtain ⟨JR_26, hJR_26, hsp⟩ := slet_ex hsp
        refine pu_join (fun H locs ls st => ∃ (g_24 : Nat), st = [.int (nI g_24)] ∧ g_24 ≤ 1 ∧ g_24 = JR_26 ∧ va_P (dC, dI) vwCl (mo_w ad ck x0 (nI x16) (nI x18) (nI x19) x20 (nI x21) (nI x22) x23 x24 x25 (nI x26) x27 (nI x28) (nI x29) (nI x30) (nI x33) x45 (nI x46) (nI x52) (nI x53) (nI x61) (nI x62) (nI x63) (nI x65) x66 f1 f2 f3 (bN 3 q4) (bN 7 q5) (bN 7 q6) (bN 4 q7) f8 (bN 2 q9) (bH q10) f11 (b2 m12_0 m12_1) (b2 m13_0 m13_1) (b2 m14_0 m14_1) (b2m m15_0 m15_1) f17 (bA 159 q31) f32 f34 f35 f36 f37 (bN 7 q38) f39 f40 f41 (b2 m42_0 m42_1) f43 f44 f47 f48 f49 f50 f51 (bN 13 q54) (bN 120 q55) (bN 120 q56) f57 (bN 120 q58) f59 f60 f64) H ∧ va_D (fun _ => True) (mo_w ad ck x0 (nI x16) (nI x18) (nI x19) x20 (nI x21) (nI x22) x23 x24 x25 (nI x26) x27 (nI x28) (nI x29) (nI x30) (nI x33) x45 (nI x46) (nI x52) (nI x53) (nI x61) (nI x62) (nI x63) (nI x65) x66 f1 f2 f3 (bN 3 q4) (bN 7 q5) (bN 7 q6) (bN 4 q7) f8 (bN 2 q9) (bH q10) f11 (b2 m12_0 m12_1) (b2 m13_0 m13_1) (b2 m14_0 m14_1) (b2m m15_0 m15_1) f17 (bA 159 q31) f32 f34 f35 f36 f37 (bN 7 q38) f39 f40 f41 (b2 m42_0 m42_1) f43 f44 f47 f48 f49 f50 f51 (bN 13 q54) (bN 120 q55) (bN 120 q56) f57 (bN 120 q58) f59 f60 f64) ∧ va_S (va_A [] s.heap.size) s.heap H locs ∧ lv_has ls 8 [(0, .ref (ad 0)), (1, .int (nI a0)), (2, .int p1), (3, .int (nI g_2)), (4, .int (nI (80 * x16 + (56 + 3 * (a0 - 100)) + g_2))), (5, .int g_16), (6, .int y_21)]) 179 ?_ (fun j_25 => ?_)
        · rintro H locs ls st ⟨g_24, rfl, hg_24, he_27, hP, hD, hS, hl⟩
          rw [← he_27] at hsp
          refine lv_istore (lv' := [(7, .int (nI g_24)), (0, .ref (ad 0)), (1, .int (nI a0)), (2, .int p1), (3, .int (nI g_2)), (4, .int (nI (80 * x16 + (56 + 3 * (a0 - 100)) + g_2))), (5, .int g_16), (6, .int y_21)]) hx hb dX9_isHeld_179 hl (by decide) rfl (fun ls hl => ?_)
          refine lv_iload hx hb dX9_isHeld_181 (lv_at hl 0 rfl) ?_
          refine lv_if_ne (tgt := 188) hx hb dX9_isHeld_183 (by decide) (fun c_28 => ?_) (fun c_28 => ?_)
          · have c_28 : ¬ g_24 = 0 := fun z => c_28 ((nI_eq (a := g_24) (b := 0) (Nat.lt_of_le_of_lt hg_24 (Nat.le_of_ble_eq_true rfl)) (Nat.le_of_ble_eq_true rfl)).mpr z)
            replace hsp := hsp.trans (if_neg c_28)
            refine lv_iinc (v := (nI (g_2 + 1))) (lv' := [(3, .int (nI (g_2 + 1))), (7, .int (nI g_24)), (0, .ref (ad 0)), (1, .int (nI a0)), (2, .int p1), (4, .int (nI (80 * x16 + (56 + 3 * (a0 - 100)) + g_2))), (5, .int g_16), (6, .int y_21)]) hx hb dX9_isHeld_188 hl (k := 4) rfl (nI_1 _) (by decide) rfl (fun ls hl => ?_)
            refine lv_goto (tgt := 2) hx hb dX9_isHeld_191 (by decide) ?_
            exact ih_3 (3 - (g_2 + 1)) (by omega) _ _ _ ⟨(g_2 + 1), rfl, (by omega), hin_7 _ hsp, hP, hD, hS, lv_sub hl [2, 3, 4, 0] rfl⟩
          · have c_28 : g_24 = 0 := (nI_eq (a := g_24) (b := 0) (Nat.lt_of_le_of_lt hg_24 (Nat.le_of_ble_eq_true rfl)) (Nat.le_of_ble_eq_true rfl)).mp c_28
            replace hsp := hsp.trans (if_pos c_28)
            replace hsp := hout_8 _ hsp
            refine lv_iconst (v := 0) hx hb dX9_isHeld_186 (by decide) ?_
            exact W.zret (v := 0) (ty := .boolean) hx hb hr (rfl) (fun t ht hW => ⟨⟨0, (), rfl, ⟨0, (Nat.le_of_ble_eq_true rfl), rfl, (hsp.symm.trans hRR)⟩, trivial⟩, hS.F ht⟩) hS.2.2 dX9_isHeld_187
        have hsp := hJR_26
        refine lv_if_ne (tgt := 89) hx hb dX9_isHeld_71 (by decide) (fun c_29 => ?_) (fun c_29 => ?_)
        · have c_29 : ¬ u_23 = 0 := fun z => c_29 ((nI_eq (a := u_23) (b := 0) (by omega) (Nat.le_of_ble_eq_true rfl)).mpr z)
          replace hsp := hsp.trans (if_neg c_29)
          refine lv_aload_n hx hb dX9_isHeld_89 rfl (lv_at hl 2 rfl) ?_
          refine va_get (D := (dC, dI)) (ci := 9) (v := .ref (ad 10)) (C := RX9) (T := TX9) (N := 67) hx hb hts hiX9 hown hK hP 0 rfl rfl 10 (by decide) v_16 (fun _ h9 => h9) rfl dX9_isHeld_90 ?_
          refine lv_iload hx hb dX9_isHeld_93 (lv_at hl 6 rfl) ?_
          refine va_iald hx hb hK hP 10 9 rfl rfl (vp_in_nI (n := (80 * x16 + (56 + 3 * (a0 - 100)) + g_2)) (by omega) (Nat.le_of_ble_eq_true rfl)) dX9_isHeld_95 ?_
          refine lv_topi (fun y_30 ey_30 => ?_)
          obtain rfl : y_30 = nI u_23 := ey_30.trans qu_23
          refine lv_iconst (v := 1) hx hb dX9_isHeld_96 (by decide) ?_
          refine lv_icmp_ne (tgt := 115) hx hb dX9_isHeld_97 (by decide) (fun c_32 => ?_) (fun c_32 => ?_)
          · have c_32 : ¬ u_23 = 1 := fun z => c_32 ((nI_eq (a := u_23) (b := 1) (by omega) (Nat.le_of_ble_eq_true rfl)).mpr z)
            replace hsp := hsp.trans (if_neg c_32)
            refine lv_aload_n hx hb dX9_isHeld_115 rfl (lv_at hl 2 rfl) ?_
            refine va_get (D := (dC, dI)) (ci := 9) (v := .ref (ad 10)) (C := RX9) (T := TX9) (N := 67) hx hb hts hiX9 hown hK hP 0 rfl rfl 10 (by decide) v_16 (fun _ h9 => h9) rfl dX9_isHeld_116 ?_
            refine lv_iload hx hb dX9_isHeld_119 (lv_at hl 6 rfl) ?_
            refine va_iald hx hb hK hP 10 9 rfl rfl (vp_in_nI (n := (80 * x16 + (56 + 3 * (a0 - 100)) + g_2)) (by omega) (Nat.le_of_ble_eq_true rfl)) dX9_isHeld_121 ?_
            refine lv_topi (fun y_33 ey_33 => ?_)
            obtain rfl : y_33 = nI u_23 := ey_33.trans qu_23
            refine lv_iconst (v := 2) hx hb dX9_isHeld_122 (by decide) ?_
            refine lv_icmp_ne (tgt := 141) hx hb dX9_isHeld_123 (by decide) (fun c_35 => ?_) (fun c_35 => ?_)
            · have c_35 : ¬ u_23 = 2 := fun z => c_35 ((nI_eq (a := u_23) (b := 2) (by omega) (Nat.le_of_ble_eq_true rfl)).mpr z)
              replace hsp := hsp.trans (if_neg c_35)
              refine lv_aload_n hx hb dX9_isHeld_141 rfl (lv_at hl 2 rfl) ?_
              refine va_get (D := (dC, dI)) (ci := 9) (v := .ref (ad 10)) (C := RX9) (T := TX9) (N := 67) hx hb hts hiX9 hown hK hP 0 rfl rfl 10 (by decide) v_16 (fun _ h9 => h9) rfl dX9_isHeld_142 ?_
              refine lv_iload hx hb dX9_isHeld_145 (lv_at hl 6 rfl) ?_
              refine va_iald hx hb hK hP 10 9 rfl rfl (vp_in_nI (n := (80 * x16 + (56 + 3 * (a0 - 100)) + g_2)) (by omega) (Nat.le_of_ble_eq_true rfl)) dX9_isHeld_147 ?_
              refine lv_topi (fun y_36 ey_36 => ?_)
              obtain rfl : y_36 = nI u_23 := ey_36.trans qu_23
              refine lv_iconst (v := 3) hx hb dX9_isHeld_148 (by decide) ?_
              refine lv_icmp_ne (tgt := 167) hx hb dX9_isHeld_149 (by decide) (fun c_38 => ?_) (fun c_38 => ?_)
              · have c_38 : ¬ u_23 = 3 := fun z => c_38 ((nI_eq (a := u_23) (b := 3) (by omega) (Nat.le_of_ble_eq_true rfl)).mpr z)
                replace hsp := hsp.trans (if_neg c_38)
                refine lv_iload hx hb dX9_isHeld_167 (lv_at hl 1 rfl) ?_
                refine lv_iload hx hb dX9_isHeld_169 (lv_at hl 0 rfl) ?_
                refine lv_icmp_le (tgt := 178) hx hb dX9_isHeld_171 (by decide) (fun c_39 => ?_) (fun c_39 => ?_)
                · have hcc_39 := c_39
                  replace hsp := hsp.trans (if_pos c_39)
                  refine lv_iconst (v := 0) hx hb dX9_isHeld_178 (by decide) ?_
                  exact j_25 _ _ _ _ ⟨0, rfl, (Nat.le_of_ble_eq_true rfl), hsp.symm, hP, hD, hS, lv_sub hl [2, 3, 4, 5, 6, 1, 0] rfl⟩
                · have hcc_39 := c_39
                  replace hsp := hsp.trans (if_neg c_39)
                  refine lv_iconst (v := 1) hx hb dX9_isHeld_174 (by decide) ?_
                  refine lv_goto (tgt := 179) hx hb dX9_isHeld_175 (by decide) ?_
                  exact j_25 _ _ _ _ ⟨1, rfl, (Nat.le_of_ble_eq_true rfl), hsp.symm, hP, hD, hS, lv_sub hl [2, 3, 4, 5, 6, 1, 0] rfl⟩
              · have c_38 : u_23 = 3 := (nI_eq (a := u_23) (b := 3) (by omega) (Nat.le_of_ble_eq_true rfl)).mp c_38
                replace hsp := hsp.trans (if_pos c_38)
                refine lv_iload hx hb dX9_isHeld_152 (lv_at hl 1 rfl) ?_
                refine lv_iload hx hb dX9_isHeld_154 (lv_at hl 0 rfl) ?_
                refine lv_icmp_lt (tgt := 163) hx hb dX9_isHeld_156 (by decide) (fun c_40 => ?_) (fun c_40 => ?_)
                · have hcc_40 := c_40
                  replace hsp := hsp.trans (if_pos c_40)
                  refine lv_iconst (v := 0) hx hb dX9_isHeld_163 (by decide) ?_
                  refine lv_goto (tgt := 179) hx hb dX9_isHeld_164 (by decide) ?_
                  exact j_25 _ _ _ _ ⟨0, rfl, (Nat.le_of_ble_eq_true rfl), hsp.symm, hP, hD, hS, lv_sub hl [2, 3, 4, 5, 6, 1, 0] rfl⟩
                · have hcc_40 := c_40
                  replace hsp := hsp.trans (if_neg c_40)
                  refine lv_iconst (v := 1) hx hb dX9_isHeld_159 (by decide) ?_
                  refine lv_goto (tgt := 179) hx hb dX9_isHeld_160 (by decide) ?_
                  exact j_25 _ _ _ _ ⟨1, rfl, (Nat.le_of_ble_eq_true rfl), hsp.symm, hP, hD, hS, lv_sub hl [2, 3, 4, 5, 6, 1, 0] rfl⟩
            · have c_35 : u_23 = 2 := (nI_eq (a := u_23) (b := 2) (by omega) (Nat.le_of_ble_eq_true rfl)).mp c_35
              replace hsp := hsp.trans (if_pos c_35)
              refine lv_iload hx hb dX9_isHeld_126 (lv_at hl 1 rfl) ?_
              refine lv_iload hx hb dX9_isHeld_128 (lv_at hl 0 rfl) ?_
              refine lv_icmp_ne (tgt := 137) hx hb dX9_isHeld_130 (by decide) (fun c_41 => ?_) (fun c_41 => ?_)
              · have hcc_41 := c_41
                replace hsp := hsp.trans (if_neg c_41)
                refine lv_iconst (v := 0) hx hb dX9_isHeld_137 (by decide) ?_
                refine lv_goto (tgt := 179) hx hb dX9_isHeld_138 (by decide) ?_
                exact j_25 _ _ _ _ ⟨0, rfl, (Nat.le_of_ble_eq_true rfl), hsp.symm, hP, hD, hS, lv_sub hl [2, 3, 4, 5, 6, 1, 0] rfl⟩
              · have hcc_41 := c_41
                replace hsp := hsp.trans (if_pos c_41)
                refine lv_iconst (v := 1) hx hb dX9_isHeld_133 (by decide) ?_
                refine lv_goto (tgt := 179) hx hb dX9_isHeld_134 (by decide) ?_
                exact j_25 _ _ _ _ ⟨1, rfl, (Nat.le_of_ble_eq_true rfl), hsp.symm, hP, hD, hS, lv_sub hl [2, 3, 4, 5, 6, 1, 0] rfl⟩
          · have c_32 : u_23 = 1 := (nI_eq (a := u_23) (b := 1) (by omega) (Nat.le_of_ble_eq_true rfl)).mp c_32
            replace hsp := hsp.trans (if_pos c_32)
            refine lv_iload hx hb dX9_isHeld_100 (lv_at hl 1 rfl) ?_
            refine lv_iload hx hb dX9_isHeld_102 (lv_at hl 0 rfl) ?_
            refine lv_icmp_gt (tgt := 111) hx hb dX9_isHeld_104 (by decide) (fun c_42 => ?_) (fun c_42 => ?_)
            · have hcc_42 := c_42
              replace hsp := hsp.trans (if_pos c_42)
              refine lv_iconst (v := 0) hx hb dX9_isHeld_111 (by decide) ?_
              refine lv_goto (tgt := 179) hx hb dX9_isHeld_112 (by decide) ?_
              exact j_25 _ _ _ _ ⟨0, rfl, (Nat.le_of_ble_eq_true rfl), hsp.symm, hP, hD, hS, lv_sub hl [2, 3, 4, 5, 6, 1, 0] rfl⟩
            · have hcc_42 := c_42
              replace hsp := hsp.trans (if_neg c_42)
              refine lv_iconst (v := 1) hx hb dX9_isHeld_107 (by decide) ?_
              refine lv_goto (tgt := 179) hx hb dX9_isHeld_108 (by decide) ?_
              exact j_25 _ _ _ _ ⟨1, rfl, (Nat.le_of_ble_eq_true rfl), hsp.symm, hP, hD, hS, lv_sub hl [2, 3, 4, 5, 6, 1, 0] rfl⟩
        · have c_29 : u_23 = 0 := (nI_eq (a := u_23) (b := 0) (by omega) (Nat.le_of_ble_eq_true rfl)).mp c_29
          replace hsp := hsp.trans (if_pos c_29)
          refine lv_iload hx hb dX9_isHeld_74 (lv_at hl 1 rfl) ?_
          refine lv_iload hx hb dX9_isHeld_76 (lv_at hl 0 rfl) ?_
          refine lv_icmp_ge (tgt := 85) hx hb dX9_isHeld_78 (by decide) (fun c_43 => ?_) (fun c_43 => ?_)
          · have hcc_43 := c_43
            replace hsp := hsp.trans (if_pos c_43)
            refine lv_iconst (v := 0) hx hb dX9_isHeld_85 (by decide) ?_
            refine lv_goto (tgt := 179) hx hb dX9_isHeld_86 (by decide) ?_
            exact j_25 _ _ _ _ ⟨0, rfl, (Nat.le_of_ble_eq_true rfl), hsp.symm, hP, hD, hS, lv_sub hl [2, 3, 4, 5, 6, 1, 0] rfl⟩
          · have hcc_43 := c_43
            replace hsp := hsp.trans (if_neg c_43)
            refine lv_iconst (v := 1) hx hb dX9_isHeld_81 (by decide) ?_
            refine lv_goto (tgt := 179) hx hb dX9_isHeld_82 (by decide) ?_
            exact j_25 _ _ _ _ ⟨1, rfl, (Nat.le_of_ble_eq_true rfl), hsp.symm, hP, hD, hS, lv_sub hl [2, 3, 4, 5, 6, 1, 0] rfl⟩
      have hsp := hJR_18
      refine va_calli (va_runS (As := [.int p1, .int (nI u_15)]) (rest := []) ⟨hx, hb, hml, hown, hts⟩ (c_EM_isOf l dC dI _ ad ck x0 x16 x18 x19 x20 x21 x22 x23 x24 x25 x26 x27 x28 x29 x30 x33 x45 x46 x52 x53 x61 x62 x63 x65 x66 f1 f2 f3 q4 q5 q6 q7 f8 q9 q10 f11 m12_0 m12_1 m13_0 m13_1 m14_0 m14_1 m15_0 m15_1 f17 q31 f32 f34 f35 f36 f37 q38 f39 f40 f41 m42_0 m42_1 f43 f44 f47 f48 f49 f50 f51 q54 q55 q56 f57 q58 f59 f60 f64 p1 (nI u_15) hx16 hx18 hx19 hx21 hx22 hx26 hx28 hx29 hx30 hx33 hx46 hx52 hx53 hx61 hx62 hx63 hx65 hm12_0 hm12_1 hm13_0 hm13_1 hm14_0 hm14_1 hm15_0 hm15_1 hm42_0 hm42_1) (va_cwS 2 hts g_EM_isHeld_p_EM_isOf rfl rfl rfl (by decide +kernel) ⟨Nat.le_of_ble_eq_true rfl, Nat.le_of_ble_eq_true rfl⟩) ⟨pu_bl, pu_in hP hK hD⟩ rfl rfl hl.1 rfl (lv_room (Nat.le_of_ble_eq_true rfl)) dX9_isHeld_27 ⟨Nat.le_of_ble_eq_true rfl, Nat.le_of_ble_eq_true rfl⟩) hS (fun q _ h => pu_fr hS hA q h) (pu_fr hS hA) (fun r_44 u t H1 locs ht hvm hw hB hz1 hk1 hS => ?_)
      have hP := pu_keep hP hk1
      clear hk1 hz1 ht hvm
      generalize H1 = H at hP hS ⊢
      obtain ⟨u_45, hu_45, rfl, iu_45⟩ := hw
      replace hsp := hsp.trans (slet_eq iu_45)
      refine lv_if_eq (tgt := 37) hx hb dX9_isHeld_30 (by decide) (fun c_46 => ?_) (fun c_46 => ?_)
      · have c_46 : u_45 = 0 := (nI_eq (a := u_45) (b := 0) (Nat.lt_of_le_of_lt hu_45 (Nat.le_of_ble_eq_true rfl)) (Nat.le_of_ble_eq_true rfl)).mp c_46
        replace hsp := hsp.trans (if_pos c_46)
        refine lv_aload_n hx hb dX9_isHeld_37 rfl (lv_at hl 1 rfl) ?_
        refine va_get (D := (dC, dI)) (ci := 9) (v := .ref (ad 64)) (C := RX9) (T := TX9) (N := 67) hx hb hts hiX9 hown hK hP 0 rfl rfl 64 (by decide) v_14 (fun _ h9 => h9) rfl dX9_isHeld_38 ?_
        refine lv_aload_n hx hb dX9_isHeld_41 rfl (lv_at hl 1 rfl) ?_
        refine va_get (D := (dC, dI)) (ci := 9) (v := .ref (ad 9)) (C := RX9) (T := TX9) (N := 67) hx hb hts hiX9 hown hK hP 0 rfl rfl 9 (by decide) v_10 (fun _ h9 => h9) rfl dX9_isHeld_42 ?_
        refine lv_iload hx hb dX9_isHeld_45 (lv_at hl 0 rfl) ?_
        refine va_iald hx hb hK hP 9 8 rfl rfl (vp_in_nI (n := (80 * x16 + (56 + 3 * (a0 - 100)) + g_2)) (by omega) (Nat.le_of_ble_eq_true rfl)) dX9_isHeld_47 ?_
        refine lv_topi (fun y_47 ey_47 => ?_)
        obtain rfl : y_47 = nI u_15 := ey_47.trans qu_15
        refine va_iald hx hb hK hP 42 41 rfl rfl (vp_in_nI (n := u_15) (Nat.lt_of_le_of_lt hu_15 (Nat.le_of_ble_eq_true rfl)) (Nat.le_of_ble_eq_true rfl)) dX9_isHeld_48 ?_
        refine lv_topi (fun y_49 ey_49 => ?_)
        have ey_49 : y_49 = f64 u_15 := ey_49.trans (congrArg f64 (nI_clamp (n := u_15) (Nat.lt_of_le_of_lt hu_15 (Nat.le_of_ble_eq_true rfl))))
        replace hsp := hsp.trans (slet_eq ey_49)
        exact j_17 _ _ _ _ ⟨y_49, rfl, hsp.symm, hP, hD, hS, lv_sub hl [1, 2, 3, 4, 0] rfl⟩
      · have c_46 : ¬ u_45 = 0 := fun z => c_46 ((nI_eq (a := u_45) (b := 0) (Nat.lt_of_le_of_lt hu_45 (Nat.le_of_ble_eq_true rfl)) (Nat.le_of_ble_eq_true rfl)).mpr z)
        replace hsp := hsp.trans (if_neg c_46)
        refine lv_iconst (v := 0) hx hb dX9_isHeld_33 (by decide) ?_
        refine lv_goto (tgt := 49) hx hb dX9_isHeld_34 (by decide) ?_
        exact j_17 _ _ _ _ ⟨0, rfl, hsp.symm, hP, hD, hS, lv_sub hl [1, 2, 3, 4, 0] rfl⟩
