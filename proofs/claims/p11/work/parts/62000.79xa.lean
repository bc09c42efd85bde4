theorem eX4_refuse_0 : decode cX4_refuse 0 = .ok (.aload_n 0, 1) := by decide +kernel
theorem eX4_refuse_1 : decode cX4_refuse 1 = .ok (.iload_n 1, 1) := by decide +kernel
theorem eX4_refuse_2 : decode cX4_refuse 2 = .ok (.putfield 63, 3) := by decide +kernel
theorem eX4_refuse_5 : decode cX4_refuse 5 = .ok (.aload_n 0, 1) := by decide +kernel
theorem eX4_refuse_6 : decode cX4_refuse 6 = .ok (.aload_n 0, 1) := by decide +kernel
theorem eX4_refuse_7 : decode cX4_refuse 7 = .ok (.getfield 118, 3) := by decide +kernel
theorem eX4_refuse_10 : decode cX4_refuse 10 = .ok (.putfield 9, 3) := by decide +kernel
theorem eX4_refuse_13 : decode cX4_refuse 13 = .ok (.iconst 0, 1) := by decide +kernel
theorem eX4_refuse_14 : decode cX4_refuse 14 = .ok (.ireturn, 1) := by decide +kernel
abbrev vs_E_4_refuse : List Cond := .code yX4_refuse cX4_refuse 2 (some .boolean) :: CM
noncomputable def sp_E_4_refuse (tka : Int32) (p0 : Int32) : Int32 × Int32 := (p0, tka)
set_option maxHeartbeats 4000000 in
set_option maxRecDepth 100000 in
theorem c_E_4_refuse (l : Launch) (dC : Nat → ClassId) (dI : Nat → Nat → Nat) (sz : Nat) (rd : Nat) (fa : Int32) (fat : Int32) (tp : Nat) (len : Nat) (pos : Nat) (kd : Nat) (vl : Int32) (tka : Int32) (au : Nat) (rw : Nat) (rc : Nat) (rp : Nat) (k_ft : ClassId) (ft : Nat → Int32) (k_fw : ClassId) (fw : Nat → Int32) (k_fcn : ClassId) (fcn : Nat → Int32) (k_fpn : ClassId) (fpn : Nat → Int32) (p0 : Int32) (hlen : len ≤ 900) (hpos : pos ≤ 900) (hkd : kd ≤ 15) : Met l yX4_refuse vs_E_4_refuse ({ frames := 0, cells := 0, slots := 0, locals := 0 }) (va_Pc [.ref rd, .int p0] (pu_B (dC, dI) (rd__w rd fa fat tp (nI len) (nI pos) (nI kd) vl tka au rw rc rp k_ft ft k_fw fw k_fcn fcn k_fpn fpn) (rd__t k_ft k_fw k_fcn k_fpn) sz)) (va_Qi (fun (r : Int32) (_ : Unit) => r = 0) (fun _ t => ∃ (z_fa : Int32) (z_fat : Int32), pu_E (dC, dI) (rd__w rd z_fa z_fat tp (nI len) (nI pos) (nI kd) vl tka au rw rc rp k_ft ft k_fw fw k_fcn fcn k_fpn fpn) (rd__t k_ft k_fw k_fcn k_fpn) (va_A ((rd__w rd fa fat tp (nI len) (nI pos) (nI kd) vl tka au rw rc rp k_ft ft k_fw fw k_fcn fcn k_fpn fpn)) sz) t ∧ ((z_fa, z_fat) = (sp_E_4_refuse tka p0))) (va_A ((rd__w rd fa fat tp (nI len) (nI pos) (nI kd) vl tka au rw rc rp k_ft ft k_fw fw k_fcn fcn k_fpn fpn)) sz)) 0 0 (va_A ((rd__w rd fa fat tp (nI len) (nI pos) (nI kd) vl tka au rw rc rp k_ft ft k_fw fw k_fcn fcn k_fpn fpn)) sz) := by
  refine Met.ofW (cc := cX4_refuse) (maxL := 2) (ret := (some .boolean)) (by decide) rfl ?_
  intro p e s m args below meth c s₁ B hml hv
  obtain ⟨rfl, rfl, hP, hK, hD0⟩ := hv
  have hx := B.exec
  have hb := B.bytes
  have hr := B.returns
  have hts := atoms_spec (ws := vs_E_4_refuse) B.pre
  have v_1 := hts (.fieldLink RX4 63 "ClockReach$Reader" "fault" "I") (List.mem_cons_of_mem _ cm_219)
  have v_2 := hts (.fieldLink RX4 118 "ClockReach$Reader" "tokenAt" "I") (List.mem_cons_of_mem _ cm_234)
  have v_3 := hts (.fieldLink RX4 9 "ClockReach$Reader" "faultAt" "I") (List.mem_cons_of_mem _ cm_220)
  have hown : s.vm.findClass RX4 = some m.cls := findClass_of_methodNamed B.named
  have hlocks := B.notSynchronized
  have hiX4 : ∀ w ∈ wsX40, w ∈ vs_E_4_refuse := fun _ h => List.mem_cons_of_mem _ (cm_X4 h)
  have hD := hD0.self (sz := s.heap.size)
  generalize hAe : va_A ((rd__w rd fa fat tp (nI len) (nI pos) (nI kd) vl tka au rw rc rp k_ft ft k_fw fw k_fcn fcn k_fpn fpn)) s.heap.size = A at hD ⊢
  have hA : ∀ q : Nat, s.heap.size ≤ q → A q := fun q h => by rw [← hAe]; exact Or.inr h
  have hS : va_S A s.heap s.heap [] := va_S.rf
  have hl := lv_entry ([.ref rd, .int p0]) (n := 2) (Nat.le_of_ble_eq_true rfl)
  rw [lg_entry_eq]
  generalize (lg_sl ([.ref rd, .int p0]) ++ List.replicate (2 - (lg_sl ([.ref rd, .int p0])).length) Slot.unset).toArray = ls at hl ⊢
  have hl : lv_has ls 2 [(0, .ref rd), (1, .int p0)] := hl
  obtain ⟨RR, hRR⟩ : ∃ x, x = (sp_E_4_refuse tka p0) := ⟨_, rfl⟩
  have hsp := hRR
  refine lv_aload_n hx hb eX4_refuse_0 rfl (lv_at hl 0 rfl) ?_
  refine lv_iload_n hx hb eX4_refuse_1 rfl (lv_at hl 1 rfl) ?_
  refine va_put (D := (dC, dI)) (ci := 4) (v := .int p0) (ty := .int) (C := RX4) (T := TX4) (N := 12) hx hb hts hiX4 tyX4 tyX4_ok nmX4 hown hK hP hD hS 0 rfl rfl 0 (by decide) v_1 (fun _ h9 => h9) rfl (by decide +kernel) rfl rfl (Nat.le_of_ble_eq_true rfl) eX4_refuse_2 (fun H locs hP hD hS => ?_)
  have hP : va_P (dC, dI) vwCl (rd__w rd p0 fat tp (nI len) (nI pos) (nI kd) vl tka au rw rc rp k_ft ft k_fw fw k_fcn fcn k_fpn fpn) H := hP
  have hD : va_D A (rd__w rd p0 fat tp (nI len) (nI pos) (nI kd) vl tka au rw rc rp k_ft ft k_fw fw k_fcn fcn k_fpn fpn) := hD
  refine lv_aload_n hx hb eX4_refuse_5 rfl (lv_at hl 0 rfl) ?_
  refine lv_aload_n hx hb eX4_refuse_6 rfl (lv_at hl 0 rfl) ?_
  refine va_get (D := (dC, dI)) (ci := 4) (v := .int tka) (C := RX4) (T := TX4) (N := 12) hx hb hts hiX4 hown hK hP 0 rfl rfl 7 (by decide) v_2 (fun _ h9 => h9) rfl eX4_refuse_7 ?_
  refine va_put (D := (dC, dI)) (ci := 4) (v := .int tka) (ty := .int) (C := RX4) (T := TX4) (N := 12) hx hb hts hiX4 tyX4 tyX4_ok nmX4 hown hK hP hD hS 0 rfl rfl 1 (by decide) v_3 (fun _ h9 => h9) rfl (by decide +kernel) rfl rfl (Nat.le_of_ble_eq_true rfl) eX4_refuse_10 (fun H locs hP hD hS => ?_)
  have hP : va_P (dC, dI) vwCl (rd__w rd p0 tka tp (nI len) (nI pos) (nI kd) vl tka au rw rc rp k_ft ft k_fw fw k_fcn fcn k_fpn fpn) H := hP
  have hD : va_D A (rd__w rd p0 tka tp (nI len) (nI pos) (nI kd) vl tka au rw rc rp k_ft ft k_fw fw k_fcn fcn k_fpn fpn) := hD
  refine lv_iconst (v := 0) hx hb eX4_refuse_13 (by decide) ?_
  exact W.zret (v := 0) (ty := .boolean) hx hb hr (rfl) (fun t ht hW => ⟨⟨0, (), rfl, rfl, ⟨p0, tka, ⟨by rw [ht]; exact hP, va_K.moved hW.alike hK, hD⟩, (hsp.symm.trans hRR)⟩⟩, hS.F ht⟩) hS.2.2 eX4_refuse_14
theorem eX4_refuseToken_0 : decode cX4_refuseToken 0 = .ok (.aload_n 0, 1) := by decide +kernel
theorem eX4_refuseToken_1 : decode cX4_refuseToken 1 = .ok (.aload_n 0, 1) := by decide +kernel
theorem eX4_refuseToken_2 : decode cX4_refuseToken 2 = .ok (.getfield 78, 3) := by decide +kernel
theorem eX4_refuseToken_5 : decode cX4_refuseToken 5 = .ok (.ifCond .ne 7, 3) := by decide +kernel
theorem eX4_refuseToken_8 : decode cX4_refuseToken 8 = .ok (.iconst 1, 1) := by decide +kernel
theorem eX4_refuseToken_9 : decode cX4_refuseToken 9 = .ok (.goto 4, 3) := by decide +kernel
theorem eX4_refuseToken_12 : decode cX4_refuseToken 12 = .ok (.iconst 2, 1) := by decide +kernel
theorem eX4_refuseToken_13 : decode cX4_refuseToken 13 = .ok (.invokevirtual 103, 3) := by decide +kernel
theorem eX4_refuseToken_16 : decode cX4_refuseToken 16 = .ok (.ireturn, 1) := by decide +kernel
abbrev vs_E_4_refuseToken : List Cond := .code yX4_refuseToken cX4_refuseToken 1 (some .boolean) :: CM
theorem g_E_4_refuseToken_E_4_refuse : GoodIn vs_E_4_refuseToken (wsV RX4 103 RX4 yX4_refuse vs_E_4_refuse) := cm_gV cm_255 cm_256 cm_257 cm_232 cm_258
noncomputable def sp_E_4_refuseToken (kd : Nat) (tka : Int32) : Int32 × Int32 := (slet (α := Nat) (if kd = 0 then 1 else 2) (fun g_1 => (slet (sp_E_4_refuse tka (nI g_1)) (fun (z_fa_6, z_fat_7) => (z_fa_6, z_fat_7)))))
set_option maxHeartbeats 4000000 in
set_option maxRecDepth 100000 in
theorem c_E_4_refuseToken (l : Launch) (dC : Nat → ClassId) (dI : Nat → Nat → Nat) (sz : Nat) (rd : Nat) (fa : Int32) (fat : Int32) (tp : Nat) (len : Nat) (pos : Nat) (kd : Nat) (vl : Int32) (tka : Int32) (au : Nat) (rw : Nat) (rc : Nat) (rp : Nat) (k_ft : ClassId) (ft : Nat → Int32) (k_fw : ClassId) (fw : Nat → Int32) (k_fcn : ClassId) (fcn : Nat → Int32) (k_fpn : ClassId) (fpn : Nat → Int32) (hlen : len ≤ 900) (hpos : pos ≤ 900) (hkd : kd ≤ 15) : Met l yX4_refuseToken vs_E_4_refuseToken ({ frames := 1, cells := 0, slots := 0, locals := 21 }) (va_Pc [.ref rd] (pu_B (dC, dI) (rd__w rd fa fat tp (nI len) (nI pos) (nI kd) vl tka au rw rc rp k_ft ft k_fw fw k_fcn fcn k_fpn fpn) (rd__t k_ft k_fw k_fcn k_fpn) sz)) (va_Qi (fun (r : Int32) (_ : Unit) => r = 0) (fun _ t => ∃ (z_fa : Int32) (z_fat : Int32), pu_E (dC, dI) (rd__w rd z_fa z_fat tp (nI len) (nI pos) (nI kd) vl tka au rw rc rp k_ft ft k_fw fw k_fcn fcn k_fpn fpn) (rd__t k_ft k_fw k_fcn k_fpn) (va_A ((rd__w rd fa fat tp (nI len) (nI pos) (nI kd) vl tka au rw rc rp k_ft ft k_fw fw k_fcn fcn k_fpn fpn)) sz) t ∧ ((z_fa, z_fat) = (sp_E_4_refuseToken kd tka))) (va_A ((rd__w rd fa fat tp (nI len) (nI pos) (nI kd) vl tka au rw rc rp k_ft ft k_fw fw k_fcn fcn k_fpn fpn)) sz)) 0 0 (va_A ((rd__w rd fa fat tp (nI len) (nI pos) (nI kd) vl tka au rw rc rp k_ft ft k_fw fw k_fcn fcn k_fpn fpn)) sz) := by
  refine Met.ofW (cc := cX4_refuseToken) (maxL := 1) (ret := (some .boolean)) (by decide) rfl ?_
  intro p e s m args below meth c s₁ B hml hv
  obtain ⟨rfl, rfl, hP, hK, hD0⟩ := hv
  have hx := B.exec
  have hb := B.bytes
  have hr := B.returns
  have hts := atoms_spec (ws := vs_E_4_refuseToken) B.pre
  have v_1 := hts (.fieldLink RX4 78 "ClockReach$Reader" "kind" "I") (List.mem_cons_of_mem _ cm_222)
  have hown : s.vm.findClass RX4 = some m.cls := findClass_of_methodNamed B.named
  have hlocks := B.notSynchronized
  have hiX4 : ∀ w ∈ wsX40, w ∈ vs_E_4_refuseToken := fun _ h => List.mem_cons_of_mem _ (cm_X4 h)
  have hD := hD0.self (sz := s.heap.size)
  generalize hAe : va_A ((rd__w rd fa fat tp (nI len) (nI pos) (nI kd) vl tka au rw rc rp k_ft ft k_fw fw k_fcn fcn k_fpn fpn)) s.heap.size = A at hD ⊢
  have hA : ∀ q : Nat, s.heap.size ≤ q → A q := fun q h => by rw [← hAe]; exact Or.inr h
  have hS : va_S A s.heap s.heap [] := va_S.rf
  have hl := lv_entry ([.ref rd]) (n := 1) (Nat.le_of_ble_eq_true rfl)
  rw [lg_entry_eq]
  generalize (lg_sl ([.ref rd]) ++ List.replicate (1 - (lg_sl ([.ref rd])).length) Slot.unset).toArray = ls at hl ⊢
  have hl : lv_has ls 1 [(0, .ref rd)] := hl
  obtain ⟨RR, hRR⟩ : ∃ x, x = (sp_E_4_refuseToken kd tka) := ⟨_, rfl⟩
  have hsp := hRR
  refine lv_aload_n hx hb eX4_refuseToken_0 rfl (lv_at hl 0 rfl) ?_
  refine lv_aload_n hx hb eX4_refuseToken_1 rfl (lv_at hl 0 rfl) ?_
  refine va_get (D := (dC, dI)) (ci := 4) (v := .int (nI kd)) (C := RX4) (T := TX4) (N := 12) hx hb hts hiX4 hown hK hP 0 rfl rfl 5 (by decide) v_1 (fun _ h9 => h9) rfl eX4_refuseToken_2 ?_
  obtain ⟨JR_3, hJR_3, hsp⟩ := slet_ex hsp
  refine pu_join (fun H locs ls st => ∃ (g_1 : Nat), st = [.int (nI g_1), .ref rd] ∧ (1 ≤ g_1 ∧ g_1 ≤ 2) ∧ g_1 = JR_3 ∧ va_P (dC, dI) vwCl (rd__w rd fa fat tp (nI len) (nI pos) (nI kd) vl tka au rw rc rp k_ft ft k_fw fw k_fcn fcn k_fpn fpn) H ∧ va_D A (rd__w rd fa fat tp (nI len) (nI pos) (nI kd) vl tka au rw rc rp k_ft ft k_fw fw k_fcn fcn k_fpn fpn) ∧ va_S A s.heap H locs ∧ lv_has ls 1 [(0, .ref rd)]) 13 ?_ (fun j_2 => ?_)
  · rintro H locs ls st ⟨g_1, rfl, hg_1, he_4, hP, hD, hS, hl⟩
    rw [← he_4] at hsp
    have hFc := pu_free hD hS hA
    refine va_calli (va_runV (As := [.int (nI g_1)]) (rest := []) ⟨hx, hb, hml, hown, hts⟩ (c_E_4_refuse l dC dI _ rd fa fat tp len pos kd vl tka au rw rc rp k_ft ft k_fw fw k_fcn fcn k_fpn fpn (nI g_1) hlen hpos hkd) (cwV 1 hts g_E_4_refuseToken_E_4_refuse rfl rfl rfl (by decide +kernel) ⟨Nat.le_of_ble_eq_true rfl, Nat.le_of_ble_eq_true rfl⟩) ⟨pu_bl, va_recv hK hP (ci := 4) (q0 := 0) rfl rfl, pu_in hP hK hD⟩ rfl rfl hl.1 rfl (lv_room (Nat.le_of_ble_eq_true rfl)) eX4_refuseToken_13 ⟨Nat.le_of_ble_eq_true rfl, Nat.le_of_ble_eq_true rfl⟩) hS (fun q _ h => hFc q h) hFc (fun r_5 u t H1 locs ht hvm hw hB hz1 hk1 hS => ?_)
    obtain ⟨z_fa_6, z_fat_7, ⟨hP1, -, hD1⟩, xr_5_0⟩ := hB
    rw [ht] at hP1
    have hP := hP1
    have hD := pu_all hFc hD1
    clear hP1 hD1 hFc
    clear hk1 hz1 ht hvm
    generalize H1 = H at hP hS ⊢
    have hsp := hsp.trans (slet_eq xr_5_0)
    obtain rfl : r_5 = 0 := hw
    exact W.zret (v := 0) (ty := .boolean) hx hb hr (rfl) (fun t ht hW => ⟨⟨0, (), rfl, rfl, ⟨z_fa_6, z_fat_7, ⟨by rw [ht]; exact hP, va_K.moved hW.alike hK, hD⟩, (hsp.symm.trans hRR)⟩⟩, hS.F ht⟩) hS.2.2 eX4_refuseToken_16
  have hsp := hJR_3
  refine lv_if_ne (tgt := 12) hx hb eX4_refuseToken_5 (by decide) (fun c_8 => ?_) (fun c_8 => ?_)
  · have c_8 : ¬ kd = 0 := fun z => c_8 ((nI_eq (a := kd) (b := 0) (Nat.lt_of_le_of_lt hkd (Nat.le_of_ble_eq_true rfl)) (Nat.le_of_ble_eq_true rfl)).mpr z)
    have hsp := hsp.trans (if_neg c_8)
    refine lv_iconst (v := 2) hx hb eX4_refuseToken_12 (by decide) ?_
    exact j_2 _ _ _ _ ⟨2, rfl, ⟨by omega, by omega⟩, hsp.symm, hP, hD, hS, lv_sub hl [0] rfl⟩
  · have c_8 : kd = 0 := (nI_eq (a := kd) (b := 0) (Nat.lt_of_le_of_lt hkd (Nat.le_of_ble_eq_true rfl)) (Nat.le_of_ble_eq_true rfl)).mp c_8
    have hsp := hsp.trans (if_pos c_8)
    refine lv_iconst (v := 1) hx hb eX4_refuseToken_8 (by decide) ?_
    refine lv_goto (tgt := 13) hx hb eX4_refuseToken_9 (by decide) ?_
    exact j_2 _ _ _ _ ⟨1, rfl, ⟨by omega, by omega⟩, hsp.symm, hP, hD, hS, lv_sub hl [0] rfl⟩
theorem eX4_scanSign_0 : decode cX4_scanSign 0 = .ok (.aload_n 0, 1) := by decide +kernel
theorem eX4_scanSign_1 : decode cX4_scanSign 1 = .ok (.getfield 55, 3) := by decide +kernel
theorem eX4_scanSign_4 : decode cX4_scanSign 4 = .ok (.aload_n 0, 1) := by decide +kernel
theorem eX4_scanSign_5 : decode cX4_scanSign 5 = .ok (.getfield 60, 3) := by decide +kernel
theorem eX4_scanSign_8 : decode cX4_scanSign 8 = .ok (.iaload, 1) := by decide +kernel
theorem eX4_scanSign_9 : decode cX4_scanSign 9 = .ok (.tableswitch 65 59 62 #[56, 31, 39, 47], 31) := by decide +kernel
theorem eX4_scanSign_40 : decode cX4_scanSign 40 = .ok (.aload_n 0, 1) := by decide +kernel
theorem eX4_scanSign_41 : decode cX4_scanSign 41 = .ok (.iconst 4, 1) := by decide +kernel
theorem eX4_scanSign_42 : decode cX4_scanSign 42 = .ok (.putfield 78, 3) := by decide +kernel
theorem eX4_scanSign_45 : decode cX4_scanSign 45 = .ok (.goto 34, 3) := by decide +kernel
theorem eX4_scanSign_48 : decode cX4_scanSign 48 = .ok (.aload_n 0, 1) := by decide +kernel
theorem eX4_scanSign_49 : decode cX4_scanSign 49 = .ok (.iconst 5, 1) := by decide +kernel
theorem eX4_scanSign_50 : decode cX4_scanSign 50 = .ok (.putfield 78, 3) := by decide +kernel
theorem eX4_scanSign_53 : decode cX4_scanSign 53 = .ok (.goto 26, 3) := by decide +kernel
theorem eX4_scanSign_56 : decode cX4_scanSign 56 = .ok (.aload_n 0, 1) := by decide +kernel
theorem eX4_scanSign_57 : decode cX4_scanSign 57 = .ok (.bipush 6, 2) := by decide +kernel
theorem eX4_scanSign_59 : decode cX4_scanSign 59 = .ok (.putfield 78, 3) := by decide +kernel
theorem eX4_scanSign_62 : decode cX4_scanSign 62 = .ok (.goto 17, 3) := by decide +kernel
theorem eX4_scanSign_65 : decode cX4_scanSign 65 = .ok (.aload_n 0, 1) := by decide +kernel
theorem eX4_scanSign_66 : decode cX4_scanSign 66 = .ok (.bipush 7, 2) := by decide +kernel
theorem eX4_scanSign_68 : decode cX4_scanSign 68 = .ok (.putfield 78, 3) := by decide +kernel
theorem eX4_scanSign_71 : decode cX4_scanSign 71 = .ok (.goto 8, 3) := by decide +kernel
theorem eX4_scanSign_74 : decode cX4_scanSign 74 = .ok (.aload_n 0, 1) := by decide +kernel
theorem eX4_scanSign_75 : decode cX4_scanSign 75 = .ok (.iconst 0, 1) := by decide +kernel
theorem eX4_scanSign_76 : decode cX4_scanSign 76 = .ok (.putfield 78, 3) := by decide +kernel
theorem eX4_scanSign_79 : decode cX4_scanSign 79 = .ok (.aload_n 0, 1) := by decide +kernel
theorem eX4_scanSign_80 : decode cX4_scanSign 80 = .ok (.dup, 1) := by decide +kernel
theorem eX4_scanSign_81 : decode cX4_scanSign 81 = .ok (.getfield 60, 3) := by decide +kernel
theorem eX4_scanSign_84 : decode cX4_scanSign 84 = .ok (.iconst 1, 1) := by decide +kernel
theorem eX4_scanSign_85 : decode cX4_scanSign 85 = .ok (.iadd, 1) := by decide +kernel
theorem eX4_scanSign_86 : decode cX4_scanSign 86 = .ok (.putfield 60, 3) := by decide +kernel
theorem eX4_scanSign_89 : decode cX4_scanSign 89 = .ok (.return_, 1) := by decide +kernel
abbrev vs_E_4_scanSign : List Cond := .code yX4_scanSign cX4_scanSign 1 none :: CM
noncomputable def sp_E_4_scanSign (pos : Nat) (ft : Nat → Int32) : Nat × Nat := (slet (ft pos) (fun y_1 => (slet (α := Nat) (if (y_1 : Int32) = 59 then 7 else (if (y_1 : Int32) = 60 then 4 else (if (y_1 : Int32) = 61 then 5 else (if (y_1 : Int32) = 62 then 6 else 0)))) (fun g_2 => ((pos + 1), g_2)))))
set_option maxHeartbeats 4000000 in
set_option maxRecDepth 100000 in
theorem c_E_4_scanSign (l : Launch) (dC : Nat → ClassId) (dI : Nat → Nat → Nat) (sz : Nat) (rd : Nat) (fa : Int32) (fat : Int32) (tp : Nat) (len : Nat) (pos : Nat) (kd : Nat) (vl : Int32) (tka : Int32) (au : Nat) (rw : Nat) (rc : Nat) (rp : Nat) (k_ft : ClassId) (ft : Nat → Int32) (k_fw : ClassId) (fw : Nat → Int32) (k_fcn : ClassId) (fcn : Nat → Int32) (k_fpn : ClassId) (fpn : Nat → Int32) (hlen : len ≤ 900) (hpos : pos ≤ 899) (hkd : kd ≤ 15) : Met l yX4_scanSign vs_E_4_scanSign ({ frames := 0, cells := 0, slots := 0, locals := 0 }) (va_Pc [.ref rd] (pu_B (dC, dI) (rd__w rd fa fat tp (nI len) (nI pos) (nI kd) vl tka au rw rc rp k_ft ft k_fw fw k_fcn fcn k_fpn fpn) (rd__t k_ft k_fw k_fcn k_fpn) sz)) (va_Qv (fun (_ : Unit) => True) (fun _ t => ∃ (z_pos : Nat) (z_kd : Nat), pu_E (dC, dI) (rd__w rd fa fat tp (nI len) (nI z_pos) (nI z_kd) vl tka au rw rc rp k_ft ft k_fw fw k_fcn fcn k_fpn fpn) (rd__t k_ft k_fw k_fcn k_fpn) (va_A ((rd__w rd fa fat tp (nI len) (nI pos) (nI kd) vl tka au rw rc rp k_ft ft k_fw fw k_fcn fcn k_fpn fpn)) sz) t ∧ (z_pos ≤ 900) ∧ (z_kd ≤ 15) ∧ ((z_pos, z_kd) = (sp_E_4_scanSign pos ft))) (va_A ((rd__w rd fa fat tp (nI len) (nI pos) (nI kd) vl tka au rw rc rp k_ft ft k_fw fw k_fcn fcn k_fpn fpn)) sz)) 0 0 (va_A ((rd__w rd fa fat tp (nI len) (nI pos) (nI kd) vl tka au rw rc rp k_ft ft k_fw fw k_fcn fcn k_fpn fpn)) sz) := by
  refine Met.ofW (cc := cX4_scanSign) (maxL := 1) (ret := none) (by decide) rfl ?_
  intro p e s m args below meth c s₁ B hml hv
  obtain ⟨rfl, rfl, hP, hK, hD0⟩ := hv
  have hx := B.exec
  have hb := B.bytes
  have hr := B.returns
  have hts := atoms_spec (ws := vs_E_4_scanSign) B.pre
  have v_1 := hts (.fieldLink RX4 55 "ClockReach$Reader" "text" "[I") (List.mem_cons_of_mem _ cm_216)
  have v_2 := hts (.fieldLink RX4 60 "ClockReach$Reader" "position" "I") (List.mem_cons_of_mem _ cm_218)
  have v_3 := hts (.fieldLink RX4 78 "ClockReach$Reader" "kind" "I") (List.mem_cons_of_mem _ cm_222)
  have hown : s.vm.findClass RX4 = some m.cls := findClass_of_methodNamed B.named
  have hlocks := B.notSynchronized
  have hiX4 : ∀ w ∈ wsX40, w ∈ vs_E_4_scanSign := fun _ h => List.mem_cons_of_mem _ (cm_X4 h)
  have hD := hD0.self (sz := s.heap.size)
  generalize hAe : va_A ((rd__w rd fa fat tp (nI len) (nI pos) (nI kd) vl tka au rw rc rp k_ft ft k_fw fw k_fcn fcn k_fpn fpn)) s.heap.size = A at hD ⊢
  have hA : ∀ q : Nat, s.heap.size ≤ q → A q := fun q h => by rw [← hAe]; exact Or.inr h
  have hS : va_S A s.heap s.heap [] := va_S.rf
  have hl := lv_entry ([.ref rd]) (n := 1) (Nat.le_of_ble_eq_true rfl)
  rw [lg_entry_eq]
  generalize (lg_sl ([.ref rd]) ++ List.replicate (1 - (lg_sl ([.ref rd])).length) Slot.unset).toArray = ls at hl ⊢
  have hl : lv_has ls 1 [(0, .ref rd)] := hl
  obtain ⟨RR, hRR⟩ : ∃ x, x = (sp_E_4_scanSign pos ft) := ⟨_, rfl⟩
  have hsp := hRR
  refine lv_aload_n hx hb eX4_scanSign_0 rfl (lv_at hl 0 rfl) ?_
  refine va_get (D := (dC, dI)) (ci := 4) (v := .ref tp) (C := RX4) (T := TX4) (N := 12) hx hb hts hiX4 hown hK hP 0 rfl rfl 2 (by decide) v_1 (fun _ h9 => h9) rfl eX4_scanSign_1 ?_
  refine lv_aload_n hx hb eX4_scanSign_4 rfl (lv_at hl 0 rfl) ?_
  refine va_get (D := (dC, dI)) (ci := 4) (v := .int (nI pos)) (C := RX4) (T := TX4) (N := 12) hx hb hts hiX4 hown hK hP 0 rfl rfl 4 (by decide) v_2 (fun _ h9 => h9) rfl eX4_scanSign_5 ?_
  refine va_iald hx hb hK hP 1 0 rfl rfl (vp_in_nI (n := pos) (Nat.lt_of_le_of_lt hpos (Nat.le_of_ble_eq_true rfl)) (Nat.le_of_ble_eq_true rfl)) eX4_scanSign_8 ?_
  refine lv_topi (fun y_1 ey_1 => ?_)
  have ey_1 : y_1 = ft pos := ey_1.trans (congrArg ft (nI_clamp (n := pos) (Nat.lt_of_le_of_lt hpos (Nat.le_of_ble_eq_true rfl))))
  have hsp := hsp.trans (slet_eq ey_1)
  obtain ⟨JR_4, hJR_4, hsp⟩ := slet_ex hsp
  refine pu_join (fun H locs ls st => ∃ (g_2 : Nat), st = [] ∧ g_2 ≤ 7 ∧ g_2 = JR_4 ∧ va_P (dC, dI) vwCl (rd__w rd fa fat tp (nI len) (nI pos) (nI g_2) vl tka au rw rc rp k_ft ft k_fw fw k_fcn fcn k_fpn fpn) H ∧ va_D A (rd__w rd fa fat tp (nI len) (nI pos) (nI g_2) vl tka au rw rc rp k_ft ft k_fw fw k_fcn fcn k_fpn fpn) ∧ va_S A s.heap H locs ∧ lv_has ls 1 [(0, .ref rd)]) 79 ?_ (fun j_3 => ?_)
  · rintro H locs ls st ⟨g_2, rfl, hg_2, he_5, hP, hD, hS, hl⟩
    rw [← he_5] at hsp
    refine lv_aload_n hx hb eX4_scanSign_79 rfl (lv_at hl 0 rfl) ?_
    refine lv_dup hx hb eX4_scanSign_80 rfl ?_
    refine va_get (D := (dC, dI)) (ci := 4) (v := .int (nI pos)) (C := RX4) (T := TX4) (N := 12) hx hb hts hiX4 hown hK hP 0 rfl rfl 4 (by decide) v_2 (fun _ h9 => h9) rfl eX4_scanSign_81 ?_
    refine lv_iconst (v := 1) hx hb eX4_scanSign_84 (by decide) ?_
    refine lv_iadd hx hb eX4_scanSign_85 ?_
    refine lv_topi (fun y_6 ey_6 => ?_)
    obtain rfl : y_6 = (nI (pos + 1)) := ey_6.trans (nI_add pos 1)
    refine va_put (D := (dC, dI)) (ci := 4) (v := .int (nI (pos + 1))) (ty := .int) (C := RX4) (T := TX4) (N := 12) hx hb hts hiX4 tyX4 tyX4_ok nmX4 hown hK hP hD hS 0 rfl rfl 4 (by decide) v_2 (fun _ h9 => h9) rfl (by decide +kernel) rfl rfl (Nat.le_of_ble_eq_true rfl) eX4_scanSign_86 (fun H locs hP hD hS => ?_)
    have hP : va_P (dC, dI) vwCl (rd__w rd fa fat tp (nI len) (nI (pos + 1)) (nI g_2) vl tka au rw rc rp k_ft ft k_fw fw k_fcn fcn k_fpn fpn) H := hP
    have hD : va_D A (rd__w rd fa fat tp (nI len) (nI (pos + 1)) (nI g_2) vl tka au rw rc rp k_ft ft k_fw fw k_fcn fcn k_fpn fpn) := hD
    exact W.vret hx hb hr (fun t ht hW => ⟨⟨(), rfl, trivial, ⟨(pos + 1), g_2, ⟨by rw [ht]; exact hP, va_K.moved hW.alike hK, hD⟩, (by omega), (Nat.le_trans hg_2 (Nat.le_of_ble_eq_true rfl)), (hsp.symm.trans hRR)⟩⟩, hS.F ht⟩) hS.2.2 eX4_scanSign_89
  have hsp := hJR_4
  by_cases w_7 : y_1 = 59
  · have hsp := hsp.trans (if_pos w_7)
    subst w_7
    refine lv_tableIn (tgt := 65) (off := 56) hx hb eX4_scanSign_9 (by decide) (by decide) rfl (by decide) ?_
    refine lv_aload_n hx hb eX4_scanSign_65 rfl (lv_at hl 0 rfl) ?_
    refine lv_bipush (v := 7) hx hb eX4_scanSign_66 (by decide) ?_
    refine va_put (D := (dC, dI)) (ci := 4) (v := .int 7) (ty := .int) (C := RX4) (T := TX4) (N := 12) hx hb hts hiX4 tyX4 tyX4_ok nmX4 hown hK hP hD hS 0 rfl rfl 5 (by decide) v_3 (fun _ h9 => h9) rfl (by decide +kernel) rfl rfl (Nat.le_of_ble_eq_true rfl) eX4_scanSign_68 (fun H locs hP hD hS => ?_)
    have hP : va_P (dC, dI) vwCl (rd__w rd fa fat tp (nI len) (nI pos) 7 vl tka au rw rc rp k_ft ft k_fw fw k_fcn fcn k_fpn fpn) H := hP
    have hD : va_D A (rd__w rd fa fat tp (nI len) (nI pos) 7 vl tka au rw rc rp k_ft ft k_fw fw k_fcn fcn k_fpn fpn) := hD
    refine lv_goto (tgt := 79) hx hb eX4_scanSign_71 (by decide) ?_
    exact j_3 _ _ _ _ ⟨7, rfl, (Nat.le_of_ble_eq_true rfl), hsp.symm, hP, hD, hS, lv_sub hl [0] rfl⟩
  have hsp := hsp.trans (if_neg w_7)
  by_cases w_8 : y_1 = 60
  · have hsp := hsp.trans (if_pos w_8)
    subst w_8
    refine lv_tableIn (tgt := 40) (off := 31) hx hb eX4_scanSign_9 (by decide) (by decide) rfl (by decide) ?_
    refine lv_aload_n hx hb eX4_scanSign_40 rfl (lv_at hl 0 rfl) ?_
    refine lv_iconst (v := 4) hx hb eX4_scanSign_41 (by decide) ?_
    refine va_put (D := (dC, dI)) (ci := 4) (v := .int 4) (ty := .int) (C := RX4) (T := TX4) (N := 12) hx hb hts hiX4 tyX4 tyX4_ok nmX4 hown hK hP hD hS 0 rfl rfl 5 (by decide) v_3 (fun _ h9 => h9) rfl (by decide +kernel) rfl rfl (Nat.le_of_ble_eq_true rfl) eX4_scanSign_42 (fun H locs hP hD hS => ?_)
    have hP : va_P (dC, dI) vwCl (rd__w rd fa fat tp (nI len) (nI pos) 4 vl tka au rw rc rp k_ft ft k_fw fw k_fcn fcn k_fpn fpn) H := hP
    have hD : va_D A (rd__w rd fa fat tp (nI len) (nI pos) 4 vl tka au rw rc rp k_ft ft k_fw fw k_fcn fcn k_fpn fpn) := hD
    refine lv_goto (tgt := 79) hx hb eX4_scanSign_45 (by decide) ?_
    exact j_3 _ _ _ _ ⟨4, rfl, (Nat.le_of_ble_eq_true rfl), hsp.symm, hP, hD, hS, lv_sub hl [0] rfl⟩
  have hsp := hsp.trans (if_neg w_8)
  by_cases w_9 : y_1 = 61
  · have hsp := hsp.trans (if_pos w_9)
    subst w_9
    refine lv_tableIn (tgt := 48) (off := 39) hx hb eX4_scanSign_9 (by decide) (by decide) rfl (by decide) ?_
    refine lv_aload_n hx hb eX4_scanSign_48 rfl (lv_at hl 0 rfl) ?_
    refine lv_iconst (v := 5) hx hb eX4_scanSign_49 (by decide) ?_
    refine va_put (D := (dC, dI)) (ci := 4) (v := .int 5) (ty := .int) (C := RX4) (T := TX4) (N := 12) hx hb hts hiX4 tyX4 tyX4_ok nmX4 hown hK hP hD hS 0 rfl rfl 5 (by decide) v_3 (fun _ h9 => h9) rfl (by decide +kernel) rfl rfl (Nat.le_of_ble_eq_true rfl) eX4_scanSign_50 (fun H locs hP hD hS => ?_)
    have hP : va_P (dC, dI) vwCl (rd__w rd fa fat tp (nI len) (nI pos) 5 vl tka au rw rc rp k_ft ft k_fw fw k_fcn fcn k_fpn fpn) H := hP
    have hD : va_D A (rd__w rd fa fat tp (nI len) (nI pos) 5 vl tka au rw rc rp k_ft ft k_fw fw k_fcn fcn k_fpn fpn) := hD
    refine lv_goto (tgt := 79) hx hb eX4_scanSign_53 (by decide) ?_
    exact j_3 _ _ _ _ ⟨5, rfl, (Nat.le_of_ble_eq_true rfl), hsp.symm, hP, hD, hS, lv_sub hl [0] rfl⟩
  have hsp := hsp.trans (if_neg w_9)
  by_cases w_10 : y_1 = 62
  · have hsp := hsp.trans (if_pos w_10)
    subst w_10
    refine lv_tableIn (tgt := 56) (off := 47) hx hb eX4_scanSign_9 (by decide) (by decide) rfl (by decide) ?_
    refine lv_aload_n hx hb eX4_scanSign_56 rfl (lv_at hl 0 rfl) ?_
    refine lv_bipush (v := 6) hx hb eX4_scanSign_57 (by decide) ?_
    refine va_put (D := (dC, dI)) (ci := 4) (v := .int 6) (ty := .int) (C := RX4) (T := TX4) (N := 12) hx hb hts hiX4 tyX4 tyX4_ok nmX4 hown hK hP hD hS 0 rfl rfl 5 (by decide) v_3 (fun _ h9 => h9) rfl (by decide +kernel) rfl rfl (Nat.le_of_ble_eq_true rfl) eX4_scanSign_59 (fun H locs hP hD hS => ?_)
    have hP : va_P (dC, dI) vwCl (rd__w rd fa fat tp (nI len) (nI pos) 6 vl tka au rw rc rp k_ft ft k_fw fw k_fcn fcn k_fpn fpn) H := hP
    have hD : va_D A (rd__w rd fa fat tp (nI len) (nI pos) 6 vl tka au rw rc rp k_ft ft k_fw fw k_fcn fcn k_fpn fpn) := hD
    refine lv_goto (tgt := 79) hx hb eX4_scanSign_62 (by decide) ?_
    exact j_3 _ _ _ _ ⟨6, rfl, (Nat.le_of_ble_eq_true rfl), hsp.symm, hP, hD, hS, lv_sub hl [0] rfl⟩
  have hsp := hsp.trans (if_neg w_10)
  refine lv_tableOut (tgt := 74) hx hb eX4_scanSign_9 (by
      have zw_7 : Int32.toInt y_1 ≠ 59 := fun g => w_7 ((fa_eq _ _).mpr g)
      have zw_8 : Int32.toInt y_1 ≠ 60 := fun g => w_8 ((fa_eq _ _).mpr g)
      have zw_9 : Int32.toInt y_1 ≠ 61 := fun g => w_9 ((fa_eq _ _).mpr g)
      have zw_10 : Int32.toInt y_1 ≠ 62 := fun g => w_10 ((fa_eq _ _).mpr g)
      omega) (by decide) ?_
  refine lv_aload_n hx hb eX4_scanSign_74 rfl (lv_at hl 0 rfl) ?_
  refine lv_iconst (v := 0) hx hb eX4_scanSign_75 (by decide) ?_
  refine va_put (D := (dC, dI)) (ci := 4) (v := .int 0) (ty := .int) (C := RX4) (T := TX4) (N := 12) hx hb hts hiX4 tyX4 tyX4_ok nmX4 hown hK hP hD hS 0 rfl rfl 5 (by decide) v_3 (fun _ h9 => h9) rfl (by decide +kernel) rfl rfl (Nat.le_of_ble_eq_true rfl) eX4_scanSign_76 (fun H locs hP hD hS => ?_)
  have hP : va_P (dC, dI) vwCl (rd__w rd fa fat tp (nI len) (nI pos) 0 vl tka au rw rc rp k_ft ft k_fw fw k_fcn fcn k_fpn fpn) H := hP
  have hD : va_D A (rd__w rd fa fat tp (nI len) (nI pos) 0 vl tka au rw rc rp k_ft ft k_fw fw k_fcn fcn k_fpn fpn) := hD
  exact j_3 _ _ _ _ ⟨0, rfl, (Nat.le_of_ble_eq_true rfl), hsp.symm, hP, hD, hS, lv_sub hl [0] rfl⟩
theorem eX4_scanNumber_0 : decode cX4_scanNumber 0 = .ok (.aload_n 0, 1) := by decide +kernel
theorem eX4_scanNumber_1 : decode cX4_scanNumber 1 = .ok (.iconst 0, 1) := by decide +kernel
theorem eX4_scanNumber_2 : decode cX4_scanNumber 2 = .ok (.putfield 127, 3) := by decide +kernel
theorem eX4_scanNumber_5 : decode cX4_scanNumber 5 = .ok (.aload_n 0, 1) := by decide +kernel
theorem eX4_scanNumber_6 : decode cX4_scanNumber 6 = .ok (.getfield 60, 3) := by decide +kernel
theorem eX4_scanNumber_9 : decode cX4_scanNumber 9 = .ok (.aload_n 0, 1) := by decide +kernel
theorem eX4_scanNumber_10 : decode cX4_scanNumber 10 = .ok (.getfield 58, 3) := by decide +kernel
theorem eX4_scanNumber_13 : decode cX4_scanNumber 13 = .ok (.if_icmp .ge 68, 3) := by decide +kernel
theorem eX4_scanNumber_16 : decode cX4_scanNumber 16 = .ok (.aload_n 0, 1) := by decide +kernel
theorem eX4_scanNumber_17 : decode cX4_scanNumber 17 = .ok (.getfield 55, 3) := by decide +kernel
theorem eX4_scanNumber_20 : decode cX4_scanNumber 20 = .ok (.aload_n 0, 1) := by decide +kernel
theorem eX4_scanNumber_21 : decode cX4_scanNumber 21 = .ok (.getfield 60, 3) := by decide +kernel
theorem eX4_scanNumber_24 : decode cX4_scanNumber 24 = .ok (.iaload, 1) := by decide +kernel
theorem eX4_scanNumber_25 : decode cX4_scanNumber 25 = .ok (.bipush 48, 2) := by decide +kernel
theorem eX4_scanNumber_27 : decode cX4_scanNumber 27 = .ok (.if_icmp .lt 54, 3) := by decide +kernel
theorem eX4_scanNumber_30 : decode cX4_scanNumber 30 = .ok (.aload_n 0, 1) := by decide +kernel
theorem eX4_scanNumber_31 : decode cX4_scanNumber 31 = .ok (.getfield 55, 3) := by decide +kernel
theorem eX4_scanNumber_34 : decode cX4_scanNumber 34 = .ok (.aload_n 0, 1) := by decide +kernel
theorem eX4_scanNumber_35 : decode cX4_scanNumber 35 = .ok (.getfield 60, 3) := by decide +kernel
theorem eX4_scanNumber_38 : decode cX4_scanNumber 38 = .ok (.iaload, 1) := by decide +kernel
theorem eX4_scanNumber_39 : decode cX4_scanNumber 39 = .ok (.bipush 57, 2) := by decide +kernel
theorem eX4_scanNumber_41 : decode cX4_scanNumber 41 = .ok (.if_icmp .gt 40, 3) := by decide +kernel
theorem eX4_scanNumber_44 : decode cX4_scanNumber 44 = .ok (.aload_n 0, 1) := by decide +kernel
theorem eX4_scanNumber_45 : decode cX4_scanNumber 45 = .ok (.aload_n 0, 1) := by decide +kernel
theorem eX4_scanNumber_46 : decode cX4_scanNumber 46 = .ok (.getfield 127, 3) := by decide +kernel
theorem eX4_scanNumber_49 : decode cX4_scanNumber 49 = .ok (.bipush 10, 2) := by decide +kernel
theorem eX4_scanNumber_51 : decode cX4_scanNumber 51 = .ok (.imul, 1) := by decide +kernel
theorem eX4_scanNumber_52 : decode cX4_scanNumber 52 = .ok (.aload_n 0, 1) := by decide +kernel
theorem eX4_scanNumber_53 : decode cX4_scanNumber 53 = .ok (.getfield 55, 3) := by decide +kernel
theorem eX4_scanNumber_56 : decode cX4_scanNumber 56 = .ok (.aload_n 0, 1) := by decide +kernel
theorem eX4_scanNumber_57 : decode cX4_scanNumber 57 = .ok (.getfield 60, 3) := by decide +kernel
theorem eX4_scanNumber_60 : decode cX4_scanNumber 60 = .ok (.iaload, 1) := by decide +kernel
theorem eX4_scanNumber_61 : decode cX4_scanNumber 61 = .ok (.iadd, 1) := by decide +kernel
theorem eX4_scanNumber_62 : decode cX4_scanNumber 62 = .ok (.bipush 48, 2) := by decide +kernel
theorem eX4_scanNumber_64 : decode cX4_scanNumber 64 = .ok (.isub, 1) := by decide +kernel
theorem eX4_scanNumber_65 : decode cX4_scanNumber 65 = .ok (.putfield 127, 3) := by decide +kernel
theorem eX4_scanNumber_68 : decode cX4_scanNumber 68 = .ok (.aload_n 0, 1) := by decide +kernel
theorem eX4_scanNumber_69 : decode cX4_scanNumber 69 = .ok (.dup, 1) := by decide +kernel
theorem eX4_scanNumber_70 : decode cX4_scanNumber 70 = .ok (.getfield 60, 3) := by decide +kernel
theorem eX4_scanNumber_73 : decode cX4_scanNumber 73 = .ok (.iconst 1, 1) := by decide +kernel
theorem eX4_scanNumber_74 : decode cX4_scanNumber 74 = .ok (.iadd, 1) := by decide +kernel
theorem eX4_scanNumber_75 : decode cX4_scanNumber 75 = .ok (.putfield 60, 3) := by decide +kernel
theorem eX4_scanNumber_78 : decode cX4_scanNumber 78 = .ok (.goto (-73), 3) := by decide +kernel
theorem eX4_scanNumber_81 : decode cX4_scanNumber 81 = .ok (.aload_n 0, 1) := by decide +kernel
theorem eX4_scanNumber_82 : decode cX4_scanNumber 82 = .ok (.getfield 60, 3) := by decide +kernel
theorem eX4_scanNumber_85 : decode cX4_scanNumber 85 = .ok (.aload_n 0, 1) := by decide +kernel
theorem eX4_scanNumber_86 : decode cX4_scanNumber 86 = .ok (.getfield 58, 3) := by decide +kernel
theorem eX4_scanNumber_89 : decode cX4_scanNumber 89 = .ok (.if_icmp .ge 35, 3) := by decide +kernel
theorem eX4_scanNumber_92 : decode cX4_scanNumber 92 = .ok (.aload_n 0, 1) := by decide +kernel
theorem eX4_scanNumber_93 : decode cX4_scanNumber 93 = .ok (.getfield 55, 3) := by decide +kernel
theorem eX4_scanNumber_96 : decode cX4_scanNumber 96 = .ok (.aload_n 0, 1) := by decide +kernel
theorem eX4_scanNumber_97 : decode cX4_scanNumber 97 = .ok (.getfield 60, 3) := by decide +kernel
theorem eX4_scanNumber_100 : decode cX4_scanNumber 100 = .ok (.iaload, 1) := by decide +kernel
theorem eX4_scanNumber_101 : decode cX4_scanNumber 101 = .ok (.bipush 97, 2) := by decide +kernel
theorem eX4_scanNumber_103 : decode cX4_scanNumber 103 = .ok (.if_icmp .lt 21, 3) := by decide +kernel
theorem eX4_scanNumber_106 : decode cX4_scanNumber 106 = .ok (.aload_n 0, 1) := by decide +kernel
theorem eX4_scanNumber_107 : decode cX4_scanNumber 107 = .ok (.getfield 55, 3) := by decide +kernel
theorem eX4_scanNumber_110 : decode cX4_scanNumber 110 = .ok (.aload_n 0, 1) := by decide +kernel
theorem eX4_scanNumber_111 : decode cX4_scanNumber 111 = .ok (.getfield 60, 3) := by decide +kernel
theorem eX4_scanNumber_114 : decode cX4_scanNumber 114 = .ok (.iaload, 1) := by decide +kernel
theorem eX4_scanNumber_115 : decode cX4_scanNumber 115 = .ok (.bipush 122, 2) := by decide +kernel
theorem eX4_scanNumber_117 : decode cX4_scanNumber 117 = .ok (.if_icmp .gt 7, 3) := by decide +kernel
theorem eX4_scanNumber_120 : decode cX4_scanNumber 120 = .ok (.iconst 1, 1) := by decide +kernel
theorem eX4_scanNumber_121 : decode cX4_scanNumber 121 = .ok (.goto 4, 3) := by decide +kernel
theorem eX4_scanNumber_124 : decode cX4_scanNumber 124 = .ok (.iconst 0, 1) := by decide +kernel
theorem eX4_scanNumber_125 : decode cX4_scanNumber 125 = .ok (.istore_n 1, 1) := by decide +kernel
theorem eX4_scanNumber_126 : decode cX4_scanNumber 126 = .ok (.aload_n 0, 1) := by decide +kernel
theorem eX4_scanNumber_127 : decode cX4_scanNumber 127 = .ok (.aload_n 0, 1) := by decide +kernel
theorem eX4_scanNumber_128 : decode cX4_scanNumber 128 = .ok (.getfield 60, 3) := by decide +kernel
theorem eX4_scanNumber_131 : decode cX4_scanNumber 131 = .ok (.aload_n 0, 1) := by decide +kernel
theorem eX4_scanNumber_132 : decode cX4_scanNumber 132 = .ok (.getfield 118, 3) := by decide +kernel
theorem eX4_scanNumber_135 : decode cX4_scanNumber 135 = .ok (.isub, 1) := by decide +kernel
theorem eX4_scanNumber_136 : decode cX4_scanNumber 136 = .ok (.iconst 3, 1) := by decide +kernel
theorem eX4_scanNumber_137 : decode cX4_scanNumber 137 = .ok (.if_icmp .gt 7, 3) := by decide +kernel
theorem eX4_scanNumber_140 : decode cX4_scanNumber 140 = .ok (.iload_n 1, 1) := by decide +kernel
theorem eX4_scanNumber_141 : decode cX4_scanNumber 141 = .ok (.ifCond .eq 7, 3) := by decide +kernel
theorem eX4_scanNumber_144 : decode cX4_scanNumber 144 = .ok (.iconst 0, 1) := by decide +kernel
theorem eX4_scanNumber_145 : decode cX4_scanNumber 145 = .ok (.goto 4, 3) := by decide +kernel
theorem eX4_scanNumber_148 : decode cX4_scanNumber 148 = .ok (.iconst 3, 1) := by decide +kernel
theorem eX4_scanNumber_149 : decode cX4_scanNumber 149 = .ok (.putfield 78, 3) := by decide +kernel
theorem eX4_scanNumber_152 : decode cX4_scanNumber 152 = .ok (.return_, 1) := by decide +kernel
abbrev vs_E_4_scanNumber : List Cond := .code yX4_scanNumber cX4_scanNumber 2 none :: CM
noncomputable def sp_E_4_scanNumber_L1 (len : Nat) (ft : Nat → Int32) : (Nat × Int32) → (Nat × Int32) ⊕ (Nat × Int32) := fun (g_20, g_21) => (if len ≤ g_20 then (Sum.inr (g_20, g_21)) else (slet (ft g_20) (fun y_29 => (if (y_29 : Int32) < 48 then (Sum.inr (g_20, g_21)) else (slet (ft g_20) (fun y_31 => (if (57 : Int32) < y_31 then (Sum.inr (g_20, g_21)) else (slet ((g_21 : Int32) * 10) (fun y_33 => (slet (ft g_20) (fun y_34 => (slet ((y_33 : Int32) + y_34) (fun y_35 => (slet ((y_35 : Int32) - 48) (fun y_36 => (Sum.inl ((g_20 + 1), y_36)))))))))))))))))
noncomputable def sp_E_4_scanNumber (len : Nat) (pos : Nat) (tka : Int32) (ft : Nat → Int32) : Nat × Nat × Int32 := (slet (α := Nat × Int32) (itrv (α := Nat × Int32) (β := (Nat × Int32)) default (sp_E_4_scanNumber_L1 len ft) (pos, 0)) (fun (g_1, g_2) => (slet (α := Nat) (if len ≤ g_1 then 0 else (slet (ft g_1) (fun y_14 => (if (y_14 : Int32) < 97 then 0 else (slet (ft g_1) (fun y_16 => (if (122 : Int32) < y_16 then 0 else 1))))))) (fun g_6 => (slet (((nI g_1) : Int32) - tka) (fun y_10 => (if (3 : Int32) < y_10 then (g_1, 0, g_2) else (if g_6 = 0 then (g_1, 3, g_2) else (g_1, 0, g_2)))))))))
set_option maxHeartbeats 4000000 in
set_option maxRecDepth 100000 in
theorem c_E_4_scanNumber (l : Launch) (dC : Nat → ClassId) (dI : Nat → Nat → Nat) (sz : Nat) (rd : Nat) (fa : Int32) (fat : Int32) (tp : Nat) (len : Nat) (pos : Nat) (kd : Nat) (vl : Int32) (tka : Int32) (au : Nat) (rw : Nat) (rc : Nat) (rp : Nat) (k_ft : ClassId) (ft : Nat → Int32) (k_fw : ClassId) (fw : Nat → Int32) (k_fcn : ClassId) (fcn : Nat → Int32) (k_fpn : ClassId) (fpn : Nat → Int32) (hlen : len ≤ 900) (hpos : pos ≤ 900) (hkd : kd ≤ 15) : Met l yX4_scanNumber vs_E_4_scanNumber ({ frames := 0, cells := 0, slots := 0, locals := 0 }) (va_Pc [.ref rd] (pu_B (dC, dI) (rd__w rd fa fat tp (nI len) (nI pos) (nI kd) vl tka au rw rc rp k_ft ft k_fw fw k_fcn fcn k_fpn fpn) (rd__t k_ft k_fw k_fcn k_fpn) sz)) (va_Qv (fun (_ : Unit) => True) (fun _ t => ∃ (z_pos : Nat) (z_kd : Nat) (z_vl : Int32), pu_E (dC, dI) (rd__w rd fa fat tp (nI len) (nI z_pos) (nI z_kd) z_vl tka au rw rc rp k_ft ft k_fw fw k_fcn fcn k_fpn fpn) (rd__t k_ft k_fw k_fcn k_fpn) (va_A ((rd__w rd fa fat tp (nI len) (nI pos) (nI kd) vl tka au rw rc rp k_ft ft k_fw fw k_fcn fcn k_fpn fpn)) sz) t ∧ (z_pos ≤ 900) ∧ (z_kd ≤ 15) ∧ ((z_pos, z_kd, z_vl) = (sp_E_4_scanNumber len pos tka ft))) (va_A ((rd__w rd fa fat tp (nI len) (nI pos) (nI kd) vl tka au rw rc rp k_ft ft k_fw fw k_fcn fcn k_fpn fpn)) sz)) 0 0 (va_A ((rd__w rd fa fat tp (nI len) (nI pos) (nI kd) vl tka au rw rc rp k_ft ft k_fw fw k_fcn fcn k_fpn fpn)) sz) := by
  refine Met.ofW (cc := cX4_scanNumber) (maxL := 2) (ret := none) (by decide) rfl ?_
  intro p e s m args below meth c s₁ B hml hv
  obtain ⟨rfl, rfl, hP, hK, hD0⟩ := hv
  have hx := B.exec
  have hb := B.bytes
  have hr := B.returns
  have hts := atoms_spec (ws := vs_E_4_scanNumber) B.pre
  have v_1 := hts (.fieldLink RX4 127 "ClockReach$Reader" "value" "I") (List.mem_cons_of_mem _ cm_239)
  have v_2 := hts (.fieldLink RX4 60 "ClockReach$Reader" "position" "I") (List.mem_cons_of_mem _ cm_218)
  have v_3 := hts (.fieldLink RX4 58 "ClockReach$Reader" "length" "I") (List.mem_cons_of_mem _ cm_217)
  have v_4 := hts (.fieldLink RX4 55 "ClockReach$Reader" "text" "[I") (List.mem_cons_of_mem _ cm_216)
  have v_5 := hts (.fieldLink RX4 118 "ClockReach$Reader" "tokenAt" "I") (List.mem_cons_of_mem _ cm_234)
  have v_6 := hts (.fieldLink RX4 78 "ClockReach$Reader" "kind" "I") (List.mem_cons_of_mem _ cm_222)
  have hown : s.vm.findClass RX4 = some m.cls := findClass_of_methodNamed B.named
  have hlocks := B.notSynchronized
  have hiX4 : ∀ w ∈ wsX40, w ∈ vs_E_4_scanNumber := fun _ h => List.mem_cons_of_mem _ (cm_X4 h)
  have hD := hD0.self (sz := s.heap.size)
  generalize hAe : va_A ((rd__w rd fa fat tp (nI len) (nI pos) (nI kd) vl tka au rw rc rp k_ft ft k_fw fw k_fcn fcn k_fpn fpn)) s.heap.size = A at hD ⊢
  have hA : ∀ q : Nat, s.heap.size ≤ q → A q := fun q h => by rw [← hAe]; exact Or.inr h
  have hS : va_S A s.heap s.heap [] := va_S.rf
  have hl := lv_entry ([.ref rd]) (n := 2) (Nat.le_of_ble_eq_true rfl)
  rw [lg_entry_eq]
  generalize (lg_sl ([.ref rd]) ++ List.replicate (2 - (lg_sl ([.ref rd])).length) Slot.unset).toArray = ls at hl ⊢
  have hl : lv_has ls 2 [(0, .ref rd)] := hl
  obtain ⟨RR, hRR⟩ : ∃ x, x = (sp_E_4_scanNumber len pos tka ft) := ⟨_, rfl⟩
  have hsp := hRR
  refine lv_aload_n hx hb eX4_scanNumber_0 rfl (lv_at hl 0 rfl) ?_
  refine lv_iconst (v := 0) hx hb eX4_scanNumber_1 (by decide) ?_
  refine va_put (D := (dC, dI)) (ci := 4) (v := .int 0) (ty := .int) (C := RX4) (T := TX4) (N := 12) hx hb hts hiX4 tyX4 tyX4_ok nmX4 hown hK hP hD hS 0 rfl rfl 6 (by decide) v_1 (fun _ h9 => h9) rfl (by decide +kernel) rfl rfl (Nat.le_of_ble_eq_true rfl) eX4_scanNumber_2 (fun H locs hP hD hS => ?_)
  have hP : va_P (dC, dI) vwCl (rd__w rd fa fat tp (nI len) (nI pos) (nI kd) 0 tka au rw rc rp k_ft ft k_fw fw k_fcn fcn k_fpn fpn) H := hP
  have hD : va_D A (rd__w rd fa fat tp (nI len) (nI pos) (nI kd) 0 tka au rw rc rp k_ft ft k_fw fw k_fcn fcn k_fpn fpn) := hD
  obtain ⟨JR_4, hJR_4, hsp⟩ := slet_ex hsp
  refine pu_join (fun H locs ls st => ∃ (g_1 : Nat) (g_2 : Int32), st = [] ∧ g_1 ≤ 900 ∧ (g_1, g_2) = JR_4 ∧ va_P (dC, dI) vwCl (rd__w rd fa fat tp (nI len) (nI g_1) (nI kd) g_2 tka au rw rc rp k_ft ft k_fw fw k_fcn fcn k_fpn fpn) H ∧ va_D A (rd__w rd fa fat tp (nI len) (nI g_1) (nI kd) g_2 tka au rw rc rp k_ft ft k_fw fw k_fcn fcn k_fpn fpn) ∧ va_S A s.heap H locs ∧ lv_has ls 2 [(0, .ref rd)]) 81 ?_ (fun j_3 => ?_)
  · rintro H locs ls st ⟨g_1, g_2, rfl, hg_1, he_5, hP, hD, hS, hl⟩
    rw [← he_5] at hsp
    refine lv_aload_n hx hb eX4_scanNumber_81 rfl (lv_at hl 0 rfl) ?_
    refine va_get (D := (dC, dI)) (ci := 4) (v := .int (nI g_1)) (C := RX4) (T := TX4) (N := 12) hx hb hts hiX4 hown hK hP 0 rfl rfl 4 (by decide) v_2 (fun _ h9 => h9) rfl eX4_scanNumber_82 ?_
    refine lv_aload_n hx hb eX4_scanNumber_85 rfl (lv_at hl 0 rfl) ?_
    refine va_get (D := (dC, dI)) (ci := 4) (v := .int (nI len)) (C := RX4) (T := TX4) (N := 12) hx hb hts hiX4 hown hK hP 0 rfl rfl 3 (by decide) v_3 (fun _ h9 => h9) rfl eX4_scanNumber_86 ?_
    obtain ⟨JR_8, hJR_8, hsp⟩ := slet_ex hsp
    refine pu_join (fun H locs ls st => ∃ (g_6 : Nat), st = [.int (nI g_6)] ∧ g_6 ≤ 1 ∧ g_6 = JR_8 ∧ va_P (dC, dI) vwCl (rd__w rd fa fat tp (nI len) (nI g_1) (nI kd) g_2 tka au rw rc rp k_ft ft k_fw fw k_fcn fcn k_fpn fpn) H ∧ va_D A (rd__w rd fa fat tp (nI len) (nI g_1) (nI kd) g_2 tka au rw rc rp k_ft ft k_fw fw k_fcn fcn k_fpn fpn) ∧ va_S A s.heap H locs ∧ lv_has ls 2 [(0, .ref rd)]) 125 ?_ (fun j_7 => ?_)
    · rintro H locs ls st ⟨g_6, rfl, hg_6, he_9, hP, hD, hS, hl⟩
      rw [← he_9] at hsp
      refine lv_istore_n (lv' := [(1, .int (nI g_6)), (0, .ref rd)]) hx hb eX4_scanNumber_125 rfl hl (by decide) rfl (fun ls hl => ?_)
      refine lv_aload_n hx hb eX4_scanNumber_126 rfl (lv_at hl 1 rfl) ?_
      refine lv_aload_n hx hb eX4_scanNumber_127 rfl (lv_at hl 1 rfl) ?_
      refine va_get (D := (dC, dI)) (ci := 4) (v := .int (nI g_1)) (C := RX4) (T := TX4) (N := 12) hx hb hts hiX4 hown hK hP 0 rfl rfl 4 (by decide) v_2 (fun _ h9 => h9) rfl eX4_scanNumber_128 ?_
      refine lv_aload_n hx hb eX4_scanNumber_131 rfl (lv_at hl 1 rfl) ?_
      refine va_get (D := (dC, dI)) (ci := 4) (v := .int tka) (C := RX4) (T := TX4) (N := 12) hx hb hts hiX4 hown hK hP 0 rfl rfl 7 (by decide) v_5 (fun _ h9 => h9) rfl eX4_scanNumber_132 ?_
      refine lv_isub hx hb eX4_scanNumber_135 ?_
      refine lv_topi (fun y_10 ey_10 => ?_)
      have hsp := hsp.trans (slet_eq ey_10)
      refine lv_iconst (v := 3) hx hb eX4_scanNumber_136 (by decide) ?_
      refine lv_icmp_gt (tgt := 144) hx hb eX4_scanNumber_137 (by decide) (fun c_11 => ?_) (fun c_11 => ?_)
      · have hcc_11 := c_11
        have hsp := hsp.trans (if_pos c_11)
        refine lv_iconst (v := 0) hx hb eX4_scanNumber_144 (by decide) ?_
        refine lv_goto (tgt := 149) hx hb eX4_scanNumber_145 (by decide) ?_
        refine va_put (D := (dC, dI)) (ci := 4) (v := .int 0) (ty := .int) (C := RX4) (T := TX4) (N := 12) hx hb hts hiX4 tyX4 tyX4_ok nmX4 hown hK hP hD hS 0 rfl rfl 5 (by decide) v_6 (fun _ h9 => h9) rfl (by decide +kernel) rfl rfl (Nat.le_of_ble_eq_true rfl) eX4_scanNumber_149 (fun H locs hP hD hS => ?_)
        have hP : va_P (dC, dI) vwCl (rd__w rd fa fat tp (nI len) (nI g_1) 0 g_2 tka au rw rc rp k_ft ft k_fw fw k_fcn fcn k_fpn fpn) H := hP
        have hD : va_D A (rd__w rd fa fat tp (nI len) (nI g_1) 0 g_2 tka au rw rc rp k_ft ft k_fw fw k_fcn fcn k_fpn fpn) := hD
        exact W.vret hx hb hr (fun t ht hW => ⟨⟨(), rfl, trivial, ⟨g_1, 0, g_2, ⟨by rw [ht]; exact hP, va_K.moved hW.alike hK, hD⟩, hg_1, (Nat.le_of_ble_eq_true rfl), (hsp.symm.trans hRR)⟩⟩, hS.F ht⟩) hS.2.2 eX4_scanNumber_152
      · have hcc_11 := c_11
        have hsp := hsp.trans (if_neg c_11)
        refine lv_iload_n hx hb eX4_scanNumber_140 rfl (lv_at hl 0 rfl) ?_
        refine lv_if_eq (tgt := 148) hx hb eX4_scanNumber_141 (by decide) (fun c_12 => ?_) (fun c_12 => ?_)
        · have c_12 : g_6 = 0 := (nI_eq (a := g_6) (b := 0) (Nat.lt_of_le_of_lt hg_6 (Nat.le_of_ble_eq_true rfl)) (Nat.le_of_ble_eq_true rfl)).mp c_12
          have hsp := hsp.trans (if_pos c_12)
          refine lv_iconst (v := 3) hx hb eX4_scanNumber_148 (by decide) ?_
          refine va_put (D := (dC, dI)) (ci := 4) (v := .int 3) (ty := .int) (C := RX4) (T := TX4) (N := 12) hx hb hts hiX4 tyX4 tyX4_ok nmX4 hown hK hP hD hS 0 rfl rfl 5 (by decide) v_6 (fun _ h9 => h9) rfl (by decide +kernel) rfl rfl (Nat.le_of_ble_eq_true rfl) eX4_scanNumber_149 (fun H locs hP hD hS => ?_)
          have hP : va_P (dC, dI) vwCl (rd__w rd fa fat tp (nI len) (nI g_1) 3 g_2 tka au rw rc rp k_ft ft k_fw fw k_fcn fcn k_fpn fpn) H := hP
          have hD : va_D A (rd__w rd fa fat tp (nI len) (nI g_1) 3 g_2 tka au rw rc rp k_ft ft k_fw fw k_fcn fcn k_fpn fpn) := hD
          exact W.vret hx hb hr (fun t ht hW => ⟨⟨(), rfl, trivial, ⟨g_1, 3, g_2, ⟨by rw [ht]; exact hP, va_K.moved hW.alike hK, hD⟩, hg_1, (Nat.le_of_ble_eq_true rfl), (hsp.symm.trans hRR)⟩⟩, hS.F ht⟩) hS.2.2 eX4_scanNumber_152
        · have c_12 : ¬ g_6 = 0 := fun z => c_12 ((nI_eq (a := g_6) (b := 0) (Nat.lt_of_le_of_lt hg_6 (Nat.le_of_ble_eq_true rfl)) (Nat.le_of_ble_eq_true rfl)).mpr z)
          have hsp := hsp.trans (if_neg c_12)
          refine lv_iconst (v := 0) hx hb eX4_scanNumber_144 (by decide) ?_
          refine lv_goto (tgt := 149) hx hb eX4_scanNumber_145 (by decide) ?_
          refine va_put (D := (dC, dI)) (ci := 4) (v := .int 0) (ty := .int) (C := RX4) (T := TX4) (N := 12) hx hb hts hiX4 tyX4 tyX4_ok nmX4 hown hK hP hD hS 0 rfl rfl 5 (by decide) v_6 (fun _ h9 => h9) rfl (by decide +kernel) rfl rfl (Nat.le_of_ble_eq_true rfl) eX4_scanNumber_149 (fun H locs hP hD hS => ?_)
          have hP : va_P (dC, dI) vwCl (rd__w rd fa fat tp (nI len) (nI g_1) 0 g_2 tka au rw rc rp k_ft ft k_fw fw k_fcn fcn k_fpn fpn) H := hP
          have hD : va_D A (rd__w rd fa fat tp (nI len) (nI g_1) 0 g_2 tka au rw rc rp k_ft ft k_fw fw k_fcn fcn k_fpn fpn) := hD
          exact W.vret hx hb hr (fun t ht hW => ⟨⟨(), rfl, trivial, ⟨g_1, 0, g_2, ⟨by rw [ht]; exact hP, va_K.moved hW.alike hK, hD⟩, hg_1, (Nat.le_of_ble_eq_true rfl), (hsp.symm.trans hRR)⟩⟩, hS.F ht⟩) hS.2.2 eX4_scanNumber_152
    have hsp := hJR_8
    refine lv_icmp_ge (tgt := 124) hx hb eX4_scanNumber_89 (by decide) (fun c_13 => ?_) (fun c_13 => ?_)
    · have c_13 : len ≤ g_1 := (nI_leI (a := len) (b := g_1) (Nat.lt_of_le_of_lt hlen (Nat.le_of_ble_eq_true rfl)) (Nat.lt_of_le_of_lt hg_1 (Nat.le_of_ble_eq_true rfl))).mp c_13
      have hsp := hsp.trans (if_pos c_13)
      refine lv_iconst (v := 0) hx hb eX4_scanNumber_124 (by decide) ?_
      exact j_7 _ _ _ _ ⟨0, rfl, (Nat.le_of_ble_eq_true rfl), hsp.symm, hP, hD, hS, lv_sub hl [0] rfl⟩
    · have c_13 : ¬ len ≤ g_1 := fun z => c_13 ((nI_leI (a := len) (b := g_1) (Nat.lt_of_le_of_lt hlen (Nat.le_of_ble_eq_true rfl)) (Nat.lt_of_le_of_lt hg_1 (Nat.le_of_ble_eq_true rfl))).mpr z)
      have hsp := hsp.trans (if_neg c_13)
      refine lv_aload_n hx hb eX4_scanNumber_92 rfl (lv_at hl 0 rfl) ?_
      refine va_get (D := (dC, dI)) (ci := 4) (v := .ref tp) (C := RX4) (T := TX4) (N := 12) hx hb hts hiX4 hown hK hP 0 rfl rfl 2 (by decide) v_4 (fun _ h9 => h9) rfl eX4_scanNumber_93 ?_
      refine lv_aload_n hx hb eX4_scanNumber_96 rfl (lv_at hl 0 rfl) ?_
      refine va_get (D := (dC, dI)) (ci := 4) (v := .int (nI g_1)) (C := RX4) (T := TX4) (N := 12) hx hb hts hiX4 hown hK hP 0 rfl rfl 4 (by decide) v_2 (fun _ h9 => h9) rfl eX4_scanNumber_97 ?_
      refine va_iald hx hb hK hP 1 0 rfl rfl (vp_in_nI (n := g_1) (by omega) (Nat.le_of_ble_eq_true rfl)) eX4_scanNumber_100 ?_
      refine lv_topi (fun y_14 ey_14 => ?_)
      have ey_14 : y_14 = ft g_1 := ey_14.trans (congrArg ft (nI_clamp (n := g_1) (Nat.lt_of_le_of_lt hg_1 (Nat.le_of_ble_eq_true rfl))))
      have hsp := hsp.trans (slet_eq ey_14)
      refine lv_bipush (v := 97) hx hb eX4_scanNumber_101 (by decide) ?_
      refine lv_icmp_lt (tgt := 124) hx hb eX4_scanNumber_103 (by decide) (fun c_15 => ?_) (fun c_15 => ?_)
      · have hcc_15 := c_15
        have hsp := hsp.trans (if_pos c_15)
        refine lv_iconst (v := 0) hx hb eX4_scanNumber_124 (by decide) ?_
        exact j_7 _ _ _ _ ⟨0, rfl, (Nat.le_of_ble_eq_true rfl), hsp.symm, hP, hD, hS, lv_sub hl [0] rfl⟩
      · have hcc_15 := c_15
        have hsp := hsp.trans (if_neg c_15)
        refine lv_aload_n hx hb eX4_scanNumber_106 rfl (lv_at hl 0 rfl) ?_
        refine va_get (D := (dC, dI)) (ci := 4) (v := .ref tp) (C := RX4) (T := TX4) (N := 12) hx hb hts hiX4 hown hK hP 0 rfl rfl 2 (by decide) v_4 (fun _ h9 => h9) rfl eX4_scanNumber_107 ?_
        refine lv_aload_n hx hb eX4_scanNumber_110 rfl (lv_at hl 0 rfl) ?_
        refine va_get (D := (dC, dI)) (ci := 4) (v := .int (nI g_1)) (C := RX4) (T := TX4) (N := 12) hx hb hts hiX4 hown hK hP 0 rfl rfl 4 (by decide) v_2 (fun _ h9 => h9) rfl eX4_scanNumber_111 ?_
        refine va_iald hx hb hK hP 1 0 rfl rfl (vp_in_nI (n := g_1) (by omega) (Nat.le_of_ble_eq_true rfl)) eX4_scanNumber_114 ?_
        refine lv_topi (fun y_16 ey_16 => ?_)
        have ey_16 : y_16 = ft g_1 := ey_16.trans (congrArg ft (nI_clamp (n := g_1) (Nat.lt_of_le_of_lt hg_1 (Nat.le_of_ble_eq_true rfl))))
        have hsp := hsp.trans (slet_eq ey_16)
        refine lv_bipush (v := 122) hx hb eX4_scanNumber_115 (by decide) ?_
        refine lv_icmp_gt (tgt := 124) hx hb eX4_scanNumber_117 (by decide) (fun c_17 => ?_) (fun c_17 => ?_)
        · have hcc_17 := c_17
          have hsp := hsp.trans (if_pos c_17)
          refine lv_iconst (v := 0) hx hb eX4_scanNumber_124 (by decide) ?_
          exact j_7 _ _ _ _ ⟨0, rfl, (Nat.le_of_ble_eq_true rfl), hsp.symm, hP, hD, hS, lv_sub hl [0] rfl⟩
        · have hcc_17 := c_17
          have hsp := hsp.trans (if_neg c_17)
          refine lv_iconst (v := 1) hx hb eX4_scanNumber_120 (by decide) ?_
          refine lv_goto (tgt := 125) hx hb eX4_scanNumber_121 (by decide) ?_
          exact j_7 _ _ _ _ ⟨1, rfl, (Nat.le_of_ble_eq_true rfl), hsp.symm, hP, hD, hS, lv_sub hl [0] rfl⟩
  have hsp := hJR_4
  obtain ⟨lf_23, dlf_23, hlf_23, hsp⟩ := itr_ex hsp
  delta sp_E_4_scanNumber_L1 at hlf_23
  refine pu_while (fun nn H locs ls => ∃ (g_20 : Nat) (g_21 : Int32), nn = 900 - g_20 ∧ g_20 ≤ 900 ∧ JR_4 = itrv dlf_23 lf_23 (g_20, g_21) ∧ va_P (dC, dI) vwCl (rd__w rd fa fat tp (nI len) (nI g_20) (nI kd) g_21 tka au rw rc rp k_ft ft k_fw fw k_fcn fcn k_fpn fpn) H ∧ va_D A (rd__w rd fa fat tp (nI len) (nI g_20) (nI kd) g_21 tka au rw rc rp k_ft ft k_fw fw k_fcn fcn k_fpn fpn) ∧ va_S A s.heap H locs ∧ lv_has ls 2 [(0, .ref rd)]) 5 ?_ _ _ _ _ ⟨pos, 0, rfl, hpos, hsp, hP, hD, hS, lv_sub hl [0] rfl⟩
  rintro nn ih_22 H locs ls ⟨g_20, g_21, rfl, hg_20, he_25, hP, hD, hS, hl⟩
  obtain ⟨S_24, hsp, hin_26, hout_27⟩ := itr_step hlf_23 he_25
  refine lv_aload_n hx hb eX4_scanNumber_5 rfl (lv_at hl 0 rfl) ?_
  refine va_get (D := (dC, dI)) (ci := 4) (v := .int (nI g_20)) (C := RX4) (T := TX4) (N := 12) hx hb hts hiX4 hown hK hP 0 rfl rfl 4 (by decide) v_2 (fun _ h9 => h9) rfl eX4_scanNumber_6 ?_
  refine lv_aload_n hx hb eX4_scanNumber_9 rfl (lv_at hl 0 rfl) ?_
  refine va_get (D := (dC, dI)) (ci := 4) (v := .int (nI len)) (C := RX4) (T := TX4) (N := 12) hx hb hts hiX4 hown hK hP 0 rfl rfl 3 (by decide) v_3 (fun _ h9 => h9) rfl eX4_scanNumber_10 ?_
  refine lv_icmp_ge (tgt := 81) hx hb eX4_scanNumber_13 (by decide) (fun c_28 => ?_) (fun c_28 => ?_)
  · have c_28 : len ≤ g_20 := (nI_leI (a := len) (b := g_20) (Nat.lt_of_le_of_lt hlen (Nat.le_of_ble_eq_true rfl)) (Nat.lt_of_le_of_lt hg_20 (Nat.le_of_ble_eq_true rfl))).mp c_28
    have hsp := hsp.trans (if_pos c_28)
    have hsp := hout_27 _ hsp
    exact j_3 _ _ _ _ ⟨g_20, g_21, rfl, hg_20, hsp.symm, hP, hD, hS, lv_sub hl [0] rfl⟩
  · have c_28 : ¬ len ≤ g_20 := fun z => c_28 ((nI_leI (a := len) (b := g_20) (Nat.lt_of_le_of_lt hlen (Nat.le_of_ble_eq_true rfl)) (Nat.lt_of_le_of_lt hg_20 (Nat.le_of_ble_eq_true rfl))).mpr z)
    have hsp := hsp.trans (if_neg c_28)
    refine lv_aload_n hx hb eX4_scanNumber_16 rfl (lv_at hl 0 rfl) ?_
    refine va_get (D := (dC, dI)) (ci := 4) (v := .ref tp) (C := RX4) (T := TX4) (N := 12) hx hb hts hiX4 hown hK hP 0 rfl rfl 2 (by decide) v_4 (fun _ h9 => h9) rfl eX4_scanNumber_17 ?_
    refine lv_aload_n hx hb eX4_scanNumber_20 rfl (lv_at hl 0 rfl) ?_
    refine va_get (D := (dC, dI)) (ci := 4) (v := .int (nI g_20)) (C := RX4) (T := TX4) (N := 12) hx hb hts hiX4 hown hK hP 0 rfl rfl 4 (by decide) v_2 (fun _ h9 => h9) rfl eX4_scanNumber_21 ?_
    refine va_iald hx hb hK hP 1 0 rfl rfl (vp_in_nI (n := g_20) (by omega) (Nat.le_of_ble_eq_true rfl)) eX4_scanNumber_24 ?_
    refine lv_topi (fun y_29 ey_29 => ?_)
    have ey_29 : y_29 = ft g_20 := ey_29.trans (congrArg ft (nI_clamp (n := g_20) (Nat.lt_of_le_of_lt hg_20 (Nat.le_of_ble_eq_true rfl))))
    have hsp := hsp.trans (slet_eq ey_29)
    refine lv_bipush (v := 48) hx hb eX4_scanNumber_25 (by decide) ?_
    refine lv_icmp_lt (tgt := 81) hx hb eX4_scanNumber_27 (by decide) (fun c_30 => ?_) (fun c_30 => ?_)
    · have hcc_30 := c_30
      have hsp := hsp.trans (if_pos c_30)
      have hsp := hout_27 _ hsp
      exact j_3 _ _ _ _ ⟨g_20, g_21, rfl, hg_20, hsp.symm, hP, hD, hS, lv_sub hl [0] rfl⟩
    · have hcc_30 := c_30
      have hsp := hsp.trans (if_neg c_30)
      refine lv_aload_n hx hb eX4_scanNumber_30 rfl (lv_at hl 0 rfl) ?_
      refine va_get (D := (dC, dI)) (ci := 4) (v := .ref tp) (C := RX4) (T := TX4) (N := 12) hx hb hts hiX4 hown hK hP 0 rfl rfl 2 (by decide) v_4 (fun _ h9 => h9) rfl eX4_scanNumber_31 ?_
      refine lv_aload_n hx hb eX4_scanNumber_34 rfl (lv_at hl 0 rfl) ?_
      refine va_get (D := (dC, dI)) (ci := 4) (v := .int (nI g_20)) (C := RX4) (T := TX4) (N := 12) hx hb hts hiX4 hown hK hP 0 rfl rfl 4 (by decide) v_2 (fun _ h9 => h9) rfl eX4_scanNumber_35 ?_
      refine va_iald hx hb hK hP 1 0 rfl rfl (vp_in_nI (n := g_20) (by omega) (Nat.le_of_ble_eq_true rfl)) eX4_scanNumber_38 ?_
      refine lv_topi (fun y_31 ey_31 => ?_)
      have ey_31 : y_31 = ft g_20 := ey_31.trans (congrArg ft (nI_clamp (n := g_20) (Nat.lt_of_le_of_lt hg_20 (Nat.le_of_ble_eq_true rfl))))
      have hsp := hsp.trans (slet_eq ey_31)
      refine lv_bipush (v := 57) hx hb eX4_scanNumber_39 (by decide) ?_
      refine lv_icmp_gt (tgt := 81) hx hb eX4_scanNumber_41 (by decide) (fun c_32 => ?_) (fun c_32 => ?_)
      · have hcc_32 := c_32
        have hsp := hsp.trans (if_pos c_32)
        have hsp := hout_27 _ hsp
        exact j_3 _ _ _ _ ⟨g_20, g_21, rfl, hg_20, hsp.symm, hP, hD, hS, lv_sub hl [0] rfl⟩
      · have hcc_32 := c_32
        have hsp := hsp.trans (if_neg c_32)
        refine lv_aload_n hx hb eX4_scanNumber_44 rfl (lv_at hl 0 rfl) ?_
        refine lv_aload_n hx hb eX4_scanNumber_45 rfl (lv_at hl 0 rfl) ?_
        refine va_get (D := (dC, dI)) (ci := 4) (v := .int g_21) (C := RX4) (T := TX4) (N := 12) hx hb hts hiX4 hown hK hP 0 rfl rfl 6 (by decide) v_1 (fun _ h9 => h9) rfl eX4_scanNumber_46 ?_
        refine lv_bipush (v := 10) hx hb eX4_scanNumber_49 (by decide) ?_
        refine lv_imul hx hb eX4_scanNumber_51 ?_
        refine lv_topi (fun y_33 ey_33 => ?_)
        have hsp := hsp.trans (slet_eq ey_33)
        refine lv_aload_n hx hb eX4_scanNumber_52 rfl (lv_at hl 0 rfl) ?_
        refine va_get (D := (dC, dI)) (ci := 4) (v := .ref tp) (C := RX4) (T := TX4) (N := 12) hx hb hts hiX4 hown hK hP 0 rfl rfl 2 (by decide) v_4 (fun _ h9 => h9) rfl eX4_scanNumber_53 ?_
        refine lv_aload_n hx hb eX4_scanNumber_56 rfl (lv_at hl 0 rfl) ?_
        refine va_get (D := (dC, dI)) (ci := 4) (v := .int (nI g_20)) (C := RX4) (T := TX4) (N := 12) hx hb hts hiX4 hown hK hP 0 rfl rfl 4 (by decide) v_2 (fun _ h9 => h9) rfl eX4_scanNumber_57 ?_
        refine va_iald hx hb hK hP 1 0 rfl rfl (vp_in_nI (n := g_20) (by omega) (Nat.le_of_ble_eq_true rfl)) eX4_scanNumber_60 ?_
        refine lv_topi (fun y_34 ey_34 => ?_)
        have ey_34 : y_34 = ft g_20 := ey_34.trans (congrArg ft (nI_clamp (n := g_20) (Nat.lt_of_le_of_lt hg_20 (Nat.le_of_ble_eq_true rfl))))
        have hsp := hsp.trans (slet_eq ey_34)
        refine lv_iadd hx hb eX4_scanNumber_61 ?_
        refine lv_topi (fun y_35 ey_35 => ?_)
        have hsp := hsp.trans (slet_eq ey_35)
        refine lv_bipush (v := 48) hx hb eX4_scanNumber_62 (by decide) ?_
        refine lv_isub hx hb eX4_scanNumber_64 ?_
        refine lv_topi (fun y_36 ey_36 => ?_)
        have hsp := hsp.trans (slet_eq ey_36)
        refine va_put (D := (dC, dI)) (ci := 4) (v := .int y_36) (ty := .int) (C := RX4) (T := TX4) (N := 12) hx hb hts hiX4 tyX4 tyX4_ok nmX4 hown hK hP hD hS 0 rfl rfl 6 (by decide) v_1 (fun _ h9 => h9) rfl (by decide +kernel) rfl rfl (Nat.le_of_ble_eq_true rfl) eX4_scanNumber_65 (fun H locs hP hD hS => ?_)
        have hP : va_P (dC, dI) vwCl (rd__w rd fa fat tp (nI len) (nI g_20) (nI kd) y_36 tka au rw rc rp k_ft ft k_fw fw k_fcn fcn k_fpn fpn) H := hP
        have hD : va_D A (rd__w rd fa fat tp (nI len) (nI g_20) (nI kd) y_36 tka au rw rc rp k_ft ft k_fw fw k_fcn fcn k_fpn fpn) := hD
        refine lv_aload_n hx hb eX4_scanNumber_68 rfl (lv_at hl 0 rfl) ?_
        refine lv_dup hx hb eX4_scanNumber_69 rfl ?_
        refine va_get (D := (dC, dI)) (ci := 4) (v := .int (nI g_20)) (C := RX4) (T := TX4) (N := 12) hx hb hts hiX4 hown hK hP 0 rfl rfl 4 (by decide) v_2 (fun _ h9 => h9) rfl eX4_scanNumber_70 ?_
        refine lv_iconst (v := 1) hx hb eX4_scanNumber_73 (by decide) ?_
        refine lv_iadd hx hb eX4_scanNumber_74 ?_
        refine lv_topi (fun y_37 ey_37 => ?_)
        obtain rfl : y_37 = (nI (g_20 + 1)) := ey_37.trans (nI_add g_20 1)
        refine va_put (D := (dC, dI)) (ci := 4) (v := .int (nI (g_20 + 1))) (ty := .int) (C := RX4) (T := TX4) (N := 12) hx hb hts hiX4 tyX4 tyX4_ok nmX4 hown hK hP hD hS 0 rfl rfl 4 (by decide) v_2 (fun _ h9 => h9) rfl (by decide +kernel) rfl rfl (Nat.le_of_ble_eq_true rfl) eX4_scanNumber_75 (fun H locs hP hD hS => ?_)
        have hP : va_P (dC, dI) vwCl (rd__w rd fa fat tp (nI len) (nI (g_20 + 1)) (nI kd) y_36 tka au rw rc rp k_ft ft k_fw fw k_fcn fcn k_fpn fpn) H := hP
        have hD : va_D A (rd__w rd fa fat tp (nI len) (nI (g_20 + 1)) (nI kd) y_36 tka au rw rc rp k_ft ft k_fw fw k_fcn fcn k_fpn fpn) := hD
        refine lv_goto (tgt := 5) hx hb eX4_scanNumber_78 (by decide) ?_
        exact ih_22 (900 - (g_20 + 1)) (by omega) _ _ _ ⟨(g_20 + 1), y_36, rfl, (by omega), hin_26 _ hsp, hP, hD, hS, lv_sub hl [0] rfl⟩
theorem eX4_scanWord_0 : decode cX4_scanWord 0 = .ok (.aload_n 0, 1) := by decide +kernel
theorem eX4_scanWord_1 : decode cX4_scanWord 1 = .ok (.iconst 0, 1) := by decide +kernel
theorem eX4_scanWord_2 : decode cX4_scanWord 2 = .ok (.putfield 127, 3) := by decide +kernel
theorem eX4_scanWord_5 : decode cX4_scanWord 5 = .ok (.aload_n 0, 1) := by decide +kernel
theorem eX4_scanWord_6 : decode cX4_scanWord 6 = .ok (.getfield 60, 3) := by decide +kernel
theorem eX4_scanWord_9 : decode cX4_scanWord 9 = .ok (.aload_n 0, 1) := by decide +kernel
theorem eX4_scanWord_10 : decode cX4_scanWord 10 = .ok (.getfield 58, 3) := by decide +kernel
theorem eX4_scanWord_13 : decode cX4_scanWord 13 = .ok (.if_icmp .ge 70, 3) := by decide +kernel
theorem eX4_scanWord_16 : decode cX4_scanWord 16 = .ok (.aload_n 0, 1) := by decide +kernel
theorem eX4_scanWord_17 : decode cX4_scanWord 17 = .ok (.getfield 55, 3) := by decide +kernel
theorem eX4_scanWord_20 : decode cX4_scanWord 20 = .ok (.aload_n 0, 1) := by decide +kernel
theorem eX4_scanWord_21 : decode cX4_scanWord 21 = .ok (.getfield 60, 3) := by decide +kernel
theorem eX4_scanWord_24 : decode cX4_scanWord 24 = .ok (.iaload, 1) := by decide +kernel
theorem eX4_scanWord_25 : decode cX4_scanWord 25 = .ok (.bipush 97, 2) := by decide +kernel
theorem eX4_scanWord_27 : decode cX4_scanWord 27 = .ok (.if_icmp .lt 56, 3) := by decide +kernel
theorem eX4_scanWord_30 : decode cX4_scanWord 30 = .ok (.aload_n 0, 1) := by decide +kernel
theorem eX4_scanWord_31 : decode cX4_scanWord 31 = .ok (.getfield 55, 3) := by decide +kernel
theorem eX4_scanWord_34 : decode cX4_scanWord 34 = .ok (.aload_n 0, 1) := by decide +kernel
theorem eX4_scanWord_35 : decode cX4_scanWord 35 = .ok (.getfield 60, 3) := by decide +kernel
theorem eX4_scanWord_38 : decode cX4_scanWord 38 = .ok (.iaload, 1) := by decide +kernel
theorem eX4_scanWord_39 : decode cX4_scanWord 39 = .ok (.bipush 122, 2) := by decide +kernel
theorem eX4_scanWord_41 : decode cX4_scanWord 41 = .ok (.if_icmp .gt 42, 3) := by decide +kernel
theorem eX4_scanWord_44 : decode cX4_scanWord 44 = .ok (.aload_n 0, 1) := by decide +kernel
theorem eX4_scanWord_45 : decode cX4_scanWord 45 = .ok (.aload_n 0, 1) := by decide +kernel
theorem eX4_scanWord_46 : decode cX4_scanWord 46 = .ok (.getfield 127, 3) := by decide +kernel
theorem eX4_scanWord_49 : decode cX4_scanWord 49 = .ok (.bipush 32, 2) := by decide +kernel
theorem eX4_scanWord_51 : decode cX4_scanWord 51 = .ok (.imul, 1) := by decide +kernel
theorem eX4_scanWord_52 : decode cX4_scanWord 52 = .ok (.aload_n 0, 1) := by decide +kernel
theorem eX4_scanWord_53 : decode cX4_scanWord 53 = .ok (.getfield 55, 3) := by decide +kernel
theorem eX4_scanWord_56 : decode cX4_scanWord 56 = .ok (.aload_n 0, 1) := by decide +kernel
theorem eX4_scanWord_57 : decode cX4_scanWord 57 = .ok (.getfield 60, 3) := by decide +kernel
theorem eX4_scanWord_60 : decode cX4_scanWord 60 = .ok (.iaload, 1) := by decide +kernel
theorem eX4_scanWord_61 : decode cX4_scanWord 61 = .ok (.iadd, 1) := by decide +kernel
theorem eX4_scanWord_62 : decode cX4_scanWord 62 = .ok (.bipush 97, 2) := by decide +kernel
theorem eX4_scanWord_64 : decode cX4_scanWord 64 = .ok (.isub, 1) := by decide +kernel
theorem eX4_scanWord_65 : decode cX4_scanWord 65 = .ok (.iconst 1, 1) := by decide +kernel
theorem eX4_scanWord_66 : decode cX4_scanWord 66 = .ok (.iadd, 1) := by decide +kernel
theorem eX4_scanWord_67 : decode cX4_scanWord 67 = .ok (.putfield 127, 3) := by decide +kernel
theorem eX4_scanWord_70 : decode cX4_scanWord 70 = .ok (.aload_n 0, 1) := by decide +kernel
theorem eX4_scanWord_71 : decode cX4_scanWord 71 = .ok (.dup, 1) := by decide +kernel
theorem eX4_scanWord_72 : decode cX4_scanWord 72 = .ok (.getfield 60, 3) := by decide +kernel
theorem eX4_scanWord_75 : decode cX4_scanWord 75 = .ok (.iconst 1, 1) := by decide +kernel
theorem eX4_scanWord_76 : decode cX4_scanWord 76 = .ok (.iadd, 1) := by decide +kernel
theorem eX4_scanWord_77 : decode cX4_scanWord 77 = .ok (.putfield 60, 3) := by decide +kernel
theorem eX4_scanWord_80 : decode cX4_scanWord 80 = .ok (.goto (-75), 3) := by decide +kernel
theorem eX4_scanWord_83 : decode cX4_scanWord 83 = .ok (.aload_n 0, 1) := by decide +kernel
theorem eX4_scanWord_84 : decode cX4_scanWord 84 = .ok (.aload_n 0, 1) := by decide +kernel
theorem eX4_scanWord_85 : decode cX4_scanWord 85 = .ok (.getfield 60, 3) := by decide +kernel
theorem eX4_scanWord_88 : decode cX4_scanWord 88 = .ok (.aload_n 0, 1) := by decide +kernel
theorem eX4_scanWord_89 : decode cX4_scanWord 89 = .ok (.getfield 118, 3) := by decide +kernel
theorem eX4_scanWord_92 : decode cX4_scanWord 92 = .ok (.isub, 1) := by decide +kernel
theorem eX4_scanWord_93 : decode cX4_scanWord 93 = .ok (.bipush 6, 2) := by decide +kernel
theorem eX4_scanWord_95 : decode cX4_scanWord 95 = .ok (.if_icmp .le 7, 3) := by decide +kernel
theorem eX4_scanWord_98 : decode cX4_scanWord 98 = .ok (.iconst 0, 1) := by decide +kernel
theorem eX4_scanWord_99 : decode cX4_scanWord 99 = .ok (.goto 4, 3) := by decide +kernel
theorem eX4_scanWord_102 : decode cX4_scanWord 102 = .ok (.iconst 2, 1) := by decide +kernel
theorem eX4_scanWord_103 : decode cX4_scanWord 103 = .ok (.putfield 78, 3) := by decide +kernel
theorem eX4_scanWord_106 : decode cX4_scanWord 106 = .ok (.iconst 0, 1) := by decide +kernel
theorem eX4_scanWord_107 : decode cX4_scanWord 107 = .ok (.istore_n 1, 1) := by decide +kernel
theorem eX4_scanWord_108 : decode cX4_scanWord 108 = .ok (.iload_n 1, 1) := by decide +kernel
theorem eX4_scanWord_109 : decode cX4_scanWord 109 = .ok (.aload_n 0, 1) := by decide +kernel
theorem eX4_scanWord_110 : decode cX4_scanWord 110 = .ok (.getfield 35, 3) := by decide +kernel
theorem eX4_scanWord_113 : decode cX4_scanWord 113 = .ok (.arraylength, 1) := by decide +kernel
theorem eX4_scanWord_114 : decode cX4_scanWord 114 = .ok (.if_icmp .ge 38, 3) := by decide +kernel
theorem eX4_scanWord_117 : decode cX4_scanWord 117 = .ok (.aload_n 0, 1) := by decide +kernel
theorem eX4_scanWord_118 : decode cX4_scanWord 118 = .ok (.getfield 78, 3) := by decide +kernel
theorem eX4_scanWord_121 : decode cX4_scanWord 121 = .ok (.iconst 2, 1) := by decide +kernel
theorem eX4_scanWord_122 : decode cX4_scanWord 122 = .ok (.if_icmp .ne 30, 3) := by decide +kernel
theorem eX4_scanWord_125 : decode cX4_scanWord 125 = .ok (.aload_n 0, 1) := by decide +kernel
theorem eX4_scanWord_126 : decode cX4_scanWord 126 = .ok (.getfield 35, 3) := by decide +kernel
theorem eX4_scanWord_129 : decode cX4_scanWord 129 = .ok (.iload_n 1, 1) := by decide +kernel
theorem eX4_scanWord_130 : decode cX4_scanWord 130 = .ok (.iaload, 1) := by decide +kernel
theorem eX4_scanWord_131 : decode cX4_scanWord 131 = .ok (.aload_n 0, 1) := by decide +kernel
theorem eX4_scanWord_132 : decode cX4_scanWord 132 = .ok (.getfield 127, 3) := by decide +kernel
theorem eX4_scanWord_135 : decode cX4_scanWord 135 = .ok (.if_icmp .ne 11, 3) := by decide +kernel
theorem eX4_scanWord_138 : decode cX4_scanWord 138 = .ok (.aload_n 0, 1) := by decide +kernel
theorem eX4_scanWord_139 : decode cX4_scanWord 139 = .ok (.bipush 8, 2) := by decide +kernel
theorem eX4_scanWord_141 : decode cX4_scanWord 141 = .ok (.iload_n 1, 1) := by decide +kernel
theorem eX4_scanWord_142 : decode cX4_scanWord 142 = .ok (.iadd, 1) := by decide +kernel
theorem eX4_scanWord_143 : decode cX4_scanWord 143 = .ok (.putfield 78, 3) := by decide +kernel
theorem eX4_scanWord_146 : decode cX4_scanWord 146 = .ok (.iinc 1 1, 3) := by decide +kernel
theorem eX4_scanWord_149 : decode cX4_scanWord 149 = .ok (.goto (-41), 3) := by decide +kernel
theorem eX4_scanWord_152 : decode cX4_scanWord 152 = .ok (.return_, 1) := by decide +kernel
abbrev vs_E_4_scanWord : List Cond := .code yX4_scanWord cX4_scanWord 2 none :: CM
noncomputable def sp_E_4_scanWord_L1 (len : Nat) (ft : Nat → Int32) : (Nat × Int32) → (Nat × Int32) ⊕ (Nat × Int32) := fun (g_33, g_34) => (if len ≤ g_33 then (Sum.inr (g_33, g_34)) else (slet (ft g_33) (fun y_42 => (if (y_42 : Int32) < 97 then (Sum.inr (g_33, g_34)) else (slet (ft g_33) (fun y_44 => (if (122 : Int32) < y_44 then (Sum.inr (g_33, g_34)) else (slet ((g_34 : Int32) * 32) (fun y_46 => (slet (ft g_33) (fun y_47 => (slet ((y_46 : Int32) + y_47) (fun y_48 => (slet ((y_48 : Int32) - 97) (fun y_49 => (slet ((y_49 : Int32) + 1) (fun y_50 => (Sum.inl ((g_33 + 1), y_50)))))))))))))))))))
noncomputable def sp_E_4_scanWord_L2 (fw : Nat → Int32) (g_1 : Nat) (g_2 : Int32) : (Nat × Nat) → (Nat × Nat) ⊕ (Nat × Nat × Int32) := fun (g_13, g_14) => (if 8 ≤ g_14 then (Sum.inr (g_1, g_13, g_2)) else (if g_13 = 2 then (slet (fw g_14) (fun y_23 => (slet (α := Nat) (if (y_23 : Int32) = g_2 then (8 + g_14) else g_13) (fun g_24 => (Sum.inl (g_24, (g_14 + 1))))))) else (Sum.inr (g_1, g_13, g_2))))
noncomputable def sp_E_4_scanWord (len : Nat) (pos : Nat) (tka : Int32) (ft : Nat → Int32) (fw : Nat → Int32) : Nat × Nat × Int32 := (slet (α := Nat × Int32) (itrv (α := Nat × Int32) (β := (Nat × Int32)) default (sp_E_4_scanWord_L1 len ft) (pos, 0)) (fun (g_1, g_2) => (slet (((nI g_1) : Int32) - tka) (fun y_6 => (slet (α := Nat) (if (y_6 : Int32) ≤ 6 then 2 else 0) (fun g_7 => (itrv (α := Nat × Nat) (β := (Nat × Nat × Int32)) default (sp_E_4_scanWord_L2 fw g_1 g_2) (g_7, 0))))))))
set_option maxHeartbeats 4000000 in
set_option maxRecDepth 100000 in
theorem c_E_4_scanWord (l : Launch) (dC : Nat → ClassId) (dI : Nat → Nat → Nat) (sz : Nat) (rd : Nat) (fa : Int32) (fat : Int32) (tp : Nat) (len : Nat) (pos : Nat) (kd : Nat) (vl : Int32) (tka : Int32) (au : Nat) (rw : Nat) (rc : Nat) (rp : Nat) (k_ft : ClassId) (ft : Nat → Int32) (k_fw : ClassId) (fw : Nat → Int32) (k_fcn : ClassId) (fcn : Nat → Int32) (k_fpn : ClassId) (fpn : Nat → Int32) (hlen : len ≤ 900) (hpos : pos ≤ 900) (hkd : kd ≤ 15) : Met l yX4_scanWord vs_E_4_scanWord ({ frames := 0, cells := 0, slots := 0, locals := 0 }) (va_Pc [.ref rd] (pu_B (dC, dI) (rd__w rd fa fat tp (nI len) (nI pos) (nI kd) vl tka au rw rc rp k_ft ft k_fw fw k_fcn fcn k_fpn fpn) (rd__t k_ft k_fw k_fcn k_fpn) sz)) (va_Qv (fun (_ : Unit) => True) (fun _ t => ∃ (z_pos : Nat) (z_kd : Nat) (z_vl : Int32), pu_E (dC, dI) (rd__w rd fa fat tp (nI len) (nI z_pos) (nI z_kd) z_vl tka au rw rc rp k_ft ft k_fw fw k_fcn fcn k_fpn fpn) (rd__t k_ft k_fw k_fcn k_fpn) (va_A ((rd__w rd fa fat tp (nI len) (nI pos) (nI kd) vl tka au rw rc rp k_ft ft k_fw fw k_fcn fcn k_fpn fpn)) sz) t ∧ (z_pos ≤ 900) ∧ (z_kd ≤ 15) ∧ ((z_pos, z_kd, z_vl) = (sp_E_4_scanWord len pos tka ft fw))) (va_A ((rd__w rd fa fat tp (nI len) (nI pos) (nI kd) vl tka au rw rc rp k_ft ft k_fw fw k_fcn fcn k_fpn fpn)) sz)) 0 0 (va_A ((rd__w rd fa fat tp (nI len) (nI pos) (nI kd) vl tka au rw rc rp k_ft ft k_fw fw k_fcn fcn k_fpn fpn)) sz) := by
  refine Met.ofW (cc := cX4_scanWord) (maxL := 2) (ret := none) (by decide) rfl ?_
  intro p e s m args below meth c s₁ B hml hv
  obtain ⟨rfl, rfl, hP, hK, hD0⟩ := hv
  have hx := B.exec
  have hb := B.bytes
  have hr := B.returns
  have hts := atoms_spec (ws := vs_E_4_scanWord) B.pre
  have v_1 := hts (.fieldLink RX4 127 "ClockReach$Reader" "value" "I") (List.mem_cons_of_mem _ cm_239)
  have v_2 := hts (.fieldLink RX4 60 "ClockReach$Reader" "position" "I") (List.mem_cons_of_mem _ cm_218)
  have v_3 := hts (.fieldLink RX4 58 "ClockReach$Reader" "length" "I") (List.mem_cons_of_mem _ cm_217)
  have v_4 := hts (.fieldLink RX4 55 "ClockReach$Reader" "text" "[I") (List.mem_cons_of_mem _ cm_216)
  have v_5 := hts (.fieldLink RX4 118 "ClockReach$Reader" "tokenAt" "I") (List.mem_cons_of_mem _ cm_234)
  have v_6 := hts (.fieldLink RX4 78 "ClockReach$Reader" "kind" "I") (List.mem_cons_of_mem _ cm_222)
  have v_7 := hts (.fieldLink RX4 35 "ClockReach$Reader" "words" "[I") (List.mem_cons_of_mem _ cm_240)
  have hown : s.vm.findClass RX4 = some m.cls := findClass_of_methodNamed B.named
  have hlocks := B.notSynchronized
  have hiX4 : ∀ w ∈ wsX40, w ∈ vs_E_4_scanWord := fun _ h => List.mem_cons_of_mem _ (cm_X4 h)
  have hD := hD0.self (sz := s.heap.size)
  generalize hAe : va_A ((rd__w rd fa fat tp (nI len) (nI pos) (nI kd) vl tka au rw rc rp k_ft ft k_fw fw k_fcn fcn k_fpn fpn)) s.heap.size = A at hD ⊢
  have hA : ∀ q : Nat, s.heap.size ≤ q → A q := fun q h => by rw [← hAe]; exact Or.inr h
  have hS : va_S A s.heap s.heap [] := va_S.rf
  have hl := lv_entry ([.ref rd]) (n := 2) (Nat.le_of_ble_eq_true rfl)
  rw [lg_entry_eq]
  generalize (lg_sl ([.ref rd]) ++ List.replicate (2 - (lg_sl ([.ref rd])).length) Slot.unset).toArray = ls at hl ⊢
  have hl : lv_has ls 2 [(0, .ref rd)] := hl
  obtain ⟨RR, hRR⟩ : ∃ x, x = (sp_E_4_scanWord len pos tka ft fw) := ⟨_, rfl⟩
  have hsp := hRR
  refine lv_aload_n hx hb eX4_scanWord_0 rfl (lv_at hl 0 rfl) ?_
  refine lv_iconst (v := 0) hx hb eX4_scanWord_1 (by decide) ?_
  refine va_put (D := (dC, dI)) (ci := 4) (v := .int 0) (ty := .int) (C := RX4) (T := TX4) (N := 12) hx hb hts hiX4 tyX4 tyX4_ok nmX4 hown hK hP hD hS 0 rfl rfl 6 (by decide) v_1 (fun _ h9 => h9) rfl (by decide +kernel) rfl rfl (Nat.le_of_ble_eq_true rfl) eX4_scanWord_2 (fun H locs hP hD hS => ?_)
  have hP : va_P (dC, dI) vwCl (rd__w rd fa fat tp (nI len) (nI pos) (nI kd) 0 tka au rw rc rp k_ft ft k_fw fw k_fcn fcn k_fpn fpn) H := hP
  have hD : va_D A (rd__w rd fa fat tp (nI len) (nI pos) (nI kd) 0 tka au rw rc rp k_ft ft k_fw fw k_fcn fcn k_fpn fpn) := hD
  obtain ⟨JR_4, hJR_4, hsp⟩ := slet_ex hsp
  refine pu_join (fun H locs ls st => ∃ (g_1 : Nat) (g_2 : Int32), st = [] ∧ g_1 ≤ 900 ∧ (g_1, g_2) = JR_4 ∧ va_P (dC, dI) vwCl (rd__w rd fa fat tp (nI len) (nI g_1) (nI kd) g_2 tka au rw rc rp k_ft ft k_fw fw k_fcn fcn k_fpn fpn) H ∧ va_D A (rd__w rd fa fat tp (nI len) (nI g_1) (nI kd) g_2 tka au rw rc rp k_ft ft k_fw fw k_fcn fcn k_fpn fpn) ∧ va_S A s.heap H locs ∧ lv_has ls 2 [(0, .ref rd)]) 83 ?_ (fun j_3 => ?_)
  · rintro H locs ls st ⟨g_1, g_2, rfl, hg_1, he_5, hP, hD, hS, hl⟩
    rw [← he_5] at hsp
    refine lv_aload_n hx hb eX4_scanWord_83 rfl (lv_at hl 0 rfl) ?_
    refine lv_aload_n hx hb eX4_scanWord_84 rfl (lv_at hl 0 rfl) ?_
    refine va_get (D := (dC, dI)) (ci := 4) (v := .int (nI g_1)) (C := RX4) (T := TX4) (N := 12) hx hb hts hiX4 hown hK hP 0 rfl rfl 4 (by decide) v_2 (fun _ h9 => h9) rfl eX4_scanWord_85 ?_
    refine lv_aload_n hx hb eX4_scanWord_88 rfl (lv_at hl 0 rfl) ?_
    refine va_get (D := (dC, dI)) (ci := 4) (v := .int tka) (C := RX4) (T := TX4) (N := 12) hx hb hts hiX4 hown hK hP 0 rfl rfl 7 (by decide) v_5 (fun _ h9 => h9) rfl eX4_scanWord_89 ?_
    refine lv_isub hx hb eX4_scanWord_92 ?_
    refine lv_topi (fun y_6 ey_6 => ?_)
    have hsp := hsp.trans (slet_eq ey_6)
    refine lv_bipush (v := 6) hx hb eX4_scanWord_93 (by decide) ?_
    obtain ⟨JR_9, hJR_9, hsp⟩ := slet_ex hsp
    refine pu_join (fun H locs ls st => ∃ (g_7 : Nat), st = [.int (nI g_7), .ref rd] ∧ g_7 ≤ 2 ∧ g_7 = JR_9 ∧ va_P (dC, dI) vwCl (rd__w rd fa fat tp (nI len) (nI g_1) (nI kd) g_2 tka au rw rc rp k_ft ft k_fw fw k_fcn fcn k_fpn fpn) H ∧ va_D A (rd__w rd fa fat tp (nI len) (nI g_1) (nI kd) g_2 tka au rw rc rp k_ft ft k_fw fw k_fcn fcn k_fpn fpn) ∧ va_S A s.heap H locs ∧ lv_has ls 2 [(0, .ref rd)]) 103 ?_ (fun j_8 => ?_)
    · rintro H locs ls st ⟨g_7, rfl, hg_7, he_10, hP, hD, hS, hl⟩
      rw [← he_10] at hsp
      refine va_put (D := (dC, dI)) (ci := 4) (v := .int (nI g_7)) (ty := .int) (C := RX4) (T := TX4) (N := 12) hx hb hts hiX4 tyX4 tyX4_ok nmX4 hown hK hP hD hS 0 rfl rfl 5 (by decide) v_6 (fun _ h9 => h9) rfl (by decide +kernel) rfl rfl (Nat.le_of_ble_eq_true rfl) eX4_scanWord_103 (fun H locs hP hD hS => ?_)
      have hP : va_P (dC, dI) vwCl (rd__w rd fa fat tp (nI len) (nI g_1) (nI g_7) g_2 tka au rw rc rp k_ft ft k_fw fw k_fcn fcn k_fpn fpn) H := hP
      have hD : va_D A (rd__w rd fa fat tp (nI len) (nI g_1) (nI g_7) g_2 tka au rw rc rp k_ft ft k_fw fw k_fcn fcn k_fpn fpn) := hD
      refine lv_iconst (v := 0) hx hb eX4_scanWord_106 (by decide) ?_
      refine lv_istore_n (lv' := [(1, .int 0), (0, .ref rd)]) hx hb eX4_scanWord_107 rfl hl (by decide) rfl (fun ls hl => ?_)
      obtain ⟨lf_16, dlf_16, hlf_16, hsp⟩ := itr_ex hsp
      delta sp_E_4_scanWord_L2 at hlf_16
      refine pu_while (fun nn H locs ls => ∃ (g_13 : Nat) (g_14 : Nat), nn = 8 - g_14 ∧ g_13 ≤ 15 ∧ g_14 ≤ 8 ∧ RR = itrv dlf_16 lf_16 (g_13, g_14) ∧ va_P (dC, dI) vwCl (rd__w rd fa fat tp (nI len) (nI g_1) (nI g_13) g_2 tka au rw rc rp k_ft ft k_fw fw k_fcn fcn k_fpn fpn) H ∧ va_D A (rd__w rd fa fat tp (nI len) (nI g_1) (nI g_13) g_2 tka au rw rc rp k_ft ft k_fw fw k_fcn fcn k_fpn fpn) ∧ va_S A s.heap H locs ∧ lv_has ls 2 [(0, .ref rd), (1, .int (nI g_14))]) 108 ?_ _ _ _ _ ⟨g_7, 0, rfl, (Nat.le_trans hg_7 (Nat.le_of_ble_eq_true rfl)), (Nat.le_of_ble_eq_true rfl), hsp, hP, hD, hS, lv_sub hl [1, 0] rfl⟩
      rintro nn ih_15 H locs ls ⟨g_13, g_14, rfl, hg_13, hg_14, he_18, hP, hD, hS, hl⟩
      obtain ⟨S_17, hsp, hin_19, hout_20⟩ := itr_step hlf_16 he_18
      refine lv_iload_n hx hb eX4_scanWord_108 rfl (lv_at hl 1 rfl) ?_
      refine lv_aload_n hx hb eX4_scanWord_109 rfl (lv_at hl 0 rfl) ?_
      refine va_get (D := (dC, dI)) (ci := 4) (v := .ref rw) (C := RX4) (T := TX4) (N := 12) hx hb hts hiX4 hown hK hP 0 rfl rfl 9 (by decide) v_7 (fun _ h9 => h9) rfl eX4_scanWord_110 ?_
      refine va_alen (v := 8) hx hb hK hP 2 1 rfl rfl rfl eX4_scanWord_113 ?_
      refine lv_icmp_ge (tgt := 152) hx hb eX4_scanWord_114 (by decide) (fun c_21 => ?_) (fun c_21 => ?_)
      · have c_21 : 8 ≤ g_14 := (nI_leI (a := 8) (b := g_14) (Nat.le_of_ble_eq_true rfl) (Nat.lt_of_le_of_lt hg_14 (Nat.le_of_ble_eq_true rfl))).mp c_21
        have hsp := hsp.trans (if_pos c_21)
        have hsp := hout_20 _ hsp
        exact W.vret hx hb hr (fun t ht hW => ⟨⟨(), rfl, trivial, ⟨g_1, g_13, g_2, ⟨by rw [ht]; exact hP, va_K.moved hW.alike hK, hD⟩, hg_1, hg_13, (hsp.symm.trans hRR)⟩⟩, hS.F ht⟩) hS.2.2 eX4_scanWord_152
      · have c_21 : ¬ 8 ≤ g_14 := fun z => c_21 ((nI_leI (a := 8) (b := g_14) (Nat.le_of_ble_eq_true rfl) (Nat.lt_of_le_of_lt hg_14 (Nat.le_of_ble_eq_true rfl))).mpr z)
        have hsp := hsp.trans (if_neg c_21)
        refine lv_aload_n hx hb eX4_scanWord_117 rfl (lv_at hl 0 rfl) ?_
        refine va_get (D := (dC, dI)) (ci := 4) (v := .int (nI g_13)) (C := RX4) (T := TX4) (N := 12) hx hb hts hiX4 hown hK hP 0 rfl rfl 5 (by decide) v_6 (fun _ h9 => h9) rfl eX4_scanWord_118 ?_
        refine lv_iconst (v := 2) hx hb eX4_scanWord_121 (by decide) ?_
        refine lv_icmp_ne (tgt := 152) hx hb eX4_scanWord_122 (by decide) (fun c_22 => ?_) (fun c_22 => ?_)
        · have c_22 : ¬ g_13 = 2 := fun z => c_22 ((nI_eq (a := g_13) (b := 2) (Nat.lt_of_le_of_lt hg_13 (Nat.le_of_ble_eq_true rfl)) (Nat.le_of_ble_eq_true rfl)).mpr z)
          have hsp := hsp.trans (if_neg c_22)
          have hsp := hout_20 _ hsp
          exact W.vret hx hb hr (fun t ht hW => ⟨⟨(), rfl, trivial, ⟨g_1, g_13, g_2, ⟨by rw [ht]; exact hP, va_K.moved hW.alike hK, hD⟩, hg_1, hg_13, (hsp.symm.trans hRR)⟩⟩, hS.F ht⟩) hS.2.2 eX4_scanWord_152
        · have c_22 : g_13 = 2 := (nI_eq (a := g_13) (b := 2) (Nat.lt_of_le_of_lt hg_13 (Nat.le_of_ble_eq_true rfl)) (Nat.le_of_ble_eq_true rfl)).mp c_22
          have hsp := hsp.trans (if_pos c_22)
          refine lv_aload_n hx hb eX4_scanWord_125 rfl (lv_at hl 0 rfl) ?_
          refine va_get (D := (dC, dI)) (ci := 4) (v := .ref rw) (C := RX4) (T := TX4) (N := 12) hx hb hts hiX4 hown hK hP 0 rfl rfl 9 (by decide) v_7 (fun _ h9 => h9) rfl eX4_scanWord_126 ?_
          refine lv_iload_n hx hb eX4_scanWord_129 rfl (lv_at hl 1 rfl) ?_
          refine va_iald hx hb hK hP 2 1 rfl rfl (vp_in_nI (n := g_14) (by omega) (Nat.le_of_ble_eq_true rfl)) eX4_scanWord_130 ?_
          refine lv_topi (fun y_23 ey_23 => ?_)
          have ey_23 : y_23 = fw g_14 := ey_23.trans (congrArg fw (nI_clamp (n := g_14) (Nat.lt_of_le_of_lt hg_14 (Nat.le_of_ble_eq_true rfl))))
          have hsp := hsp.trans (slet_eq ey_23)
          refine lv_aload_n hx hb eX4_scanWord_131 rfl (lv_at hl 0 rfl) ?_
          refine va_get (D := (dC, dI)) (ci := 4) (v := .int g_2) (C := RX4) (T := TX4) (N := 12) hx hb hts hiX4 hown hK hP 0 rfl rfl 6 (by decide) v_1 (fun _ h9 => h9) rfl eX4_scanWord_132 ?_
          obtain ⟨JR_26, hJR_26, hsp⟩ := slet_ex hsp
          refine pu_join (fun H locs ls st => ∃ (g_24 : Nat), st = [] ∧ (2 ≤ g_24 ∧ g_24 ≤ 15) ∧ g_24 = JR_26 ∧ va_P (dC, dI) vwCl (rd__w rd fa fat tp (nI len) (nI g_1) (nI g_24) g_2 tka au rw rc rp k_ft ft k_fw fw k_fcn fcn k_fpn fpn) H ∧ va_D A (rd__w rd fa fat tp (nI len) (nI g_1) (nI g_24) g_2 tka au rw rc rp k_ft ft k_fw fw k_fcn fcn k_fpn fpn) ∧ va_S A s.heap H locs ∧ lv_has ls 2 [(0, .ref rd), (1, .int (nI g_14))]) 146 ?_ (fun j_25 => ?_)
          · rintro H locs ls st ⟨g_24, rfl, hg_24, he_27, hP, hD, hS, hl⟩
            rw [← he_27] at hsp
            refine lv_iinc (v := (nI (g_14 + 1))) (lv' := [(1, .int (nI (g_14 + 1))), (0, .ref rd)]) hx hb eX4_scanWord_146 hl (k := 1) rfl (nI_1 _) (by decide) rfl (fun ls hl => ?_)
            refine lv_goto (tgt := 108) hx hb eX4_scanWord_149 (by decide) ?_
            exact ih_15 (8 - (g_14 + 1)) (by omega) _ _ _ ⟨g_24, (g_14 + 1), rfl, hg_24.2, (by omega), hin_19 _ hsp, hP, hD, hS, lv_sub hl [1, 0] rfl⟩
          have hsp := hJR_26
          refine lv_icmp_ne (tgt := 146) hx hb eX4_scanWord_135 (by decide) (fun c_28 => ?_) (fun c_28 => ?_)
          · have hcc_28 := c_28
            have hsp := hsp.trans (if_neg c_28)
            exact j_25 _ _ _ _ ⟨g_13, rfl, ⟨by omega, by omega⟩, hsp.symm, hP, hD, hS, lv_sub hl [0, 1] rfl⟩
          · have hcc_28 := c_28
            have hsp := hsp.trans (if_pos c_28)
            refine lv_aload_n hx hb eX4_scanWord_138 rfl (lv_at hl 0 rfl) ?_
            refine lv_bipush (v := 8) hx hb eX4_scanWord_139 (by decide) ?_
            refine lv_iload_n hx hb eX4_scanWord_141 rfl (lv_at hl 1 rfl) ?_
            refine lv_iadd hx hb eX4_scanWord_142 ?_
            refine lv_topi (fun y_29 ey_29 => ?_)
            obtain rfl : y_29 = (nI (8 + g_14)) := ey_29.trans (nI_add 8 g_14)
            refine va_put (D := (dC, dI)) (ci := 4) (v := .int (nI (8 + g_14))) (ty := .int) (C := RX4) (T := TX4) (N := 12) hx hb hts hiX4 tyX4 tyX4_ok nmX4 hown hK hP hD hS 0 rfl rfl 5 (by decide) v_6 (fun _ h9 => h9) rfl (by decide +kernel) rfl rfl (Nat.le_of_ble_eq_true rfl) eX4_scanWord_143 (fun H locs hP hD hS => ?_)
            have hP : va_P (dC, dI) vwCl (rd__w rd fa fat tp (nI len) (nI g_1) (nI (8 + g_14)) g_2 tka au rw rc rp k_ft ft k_fw fw k_fcn fcn k_fpn fpn) H := hP
            have hD : va_D A (rd__w rd fa fat tp (nI len) (nI g_1) (nI (8 + g_14)) g_2 tka au rw rc rp k_ft ft k_fw fw k_fcn fcn k_fpn fpn) := hD
            exact j_25 _ _ _ _ ⟨(8 + g_14), rfl, ⟨by omega, by omega⟩, hsp.symm, hP, hD, hS, lv_sub hl [0, 1] rfl⟩
    have hsp := hJR_9
    refine lv_icmp_le (tgt := 102) hx hb eX4_scanWord_95 (by decide) (fun c_30 => ?_) (fun c_30 => ?_)
    · have hcc_30 := c_30
      have hsp := hsp.trans (if_pos c_30)
      refine lv_iconst (v := 2) hx hb eX4_scanWord_102 (by decide) ?_
      exact j_8 _ _ _ _ ⟨2, rfl, (Nat.le_of_ble_eq_true rfl), hsp.symm, hP, hD, hS, lv_sub hl [0] rfl⟩
    · have hcc_30 := c_30
      have hsp := hsp.trans (if_neg c_30)
      refine lv_iconst (v := 0) hx hb eX4_scanWord_98 (by decide) ?_
      refine lv_goto (tgt := 103) hx hb eX4_scanWord_99 (by decide) ?_
      exact j_8 _ _ _ _ ⟨0, rfl, (Nat.le_of_ble_eq_true rfl), hsp.symm, hP, hD, hS, lv_sub hl [0] rfl⟩
  have hsp := hJR_4
  obtain ⟨lf_36, dlf_36, hlf_36, hsp⟩ := itr_ex hsp
  delta sp_E_4_scanWord_L1 at hlf_36
  refine pu_while (fun nn H locs ls => ∃ (g_33 : Nat) (g_34 : Int32), nn = 900 - g_33 ∧ g_33 ≤ 900 ∧ JR_4 = itrv dlf_36 lf_36 (g_33, g_34) ∧ va_P (dC, dI) vwCl (rd__w rd fa fat tp (nI len) (nI g_33) (nI kd) g_34 tka au rw rc rp k_ft ft k_fw fw k_fcn fcn k_fpn fpn) H ∧ va_D A (rd__w rd fa fat tp (nI len) (nI g_33) (nI kd) g_34 tka au rw rc rp k_ft ft k_fw fw k_fcn fcn k_fpn fpn) ∧ va_S A s.heap H locs ∧ lv_has ls 2 [(0, .ref rd)]) 5 ?_ _ _ _ _ ⟨pos, 0, rfl, hpos, hsp, hP, hD, hS, lv_sub hl [0] rfl⟩
  rintro nn ih_35 H locs ls ⟨g_33, g_34, rfl, hg_33, he_38, hP, hD, hS, hl⟩
  obtain ⟨S_37, hsp, hin_39, hout_40⟩ := itr_step hlf_36 he_38
  refine lv_aload_n hx hb eX4_scanWord_5 rfl (lv_at hl 0 rfl) ?_
  refine va_get (D := (dC, dI)) (ci := 4) (v := .int (nI g_33)) (C := RX4) (T := TX4) (N := 12) hx hb hts hiX4 hown hK hP 0 rfl rfl 4 (by decide) v_2 (fun _ h9 => h9) rfl eX4_scanWord_6 ?_
  refine lv_aload_n hx hb eX4_scanWord_9 rfl (lv_at hl 0 rfl) ?_
  refine va_get (D := (dC, dI)) (ci := 4) (v := .int (nI len)) (C := RX4) (T := TX4) (N := 12) hx hb hts hiX4 hown hK hP 0 rfl rfl 3 (by decide) v_3 (fun _ h9 => h9) rfl eX4_scanWord_10 ?_
  refine lv_icmp_ge (tgt := 83) hx hb eX4_scanWord_13 (by decide) (fun c_41 => ?_) (fun c_41 => ?_)
  · have c_41 : len ≤ g_33 := (nI_leI (a := len) (b := g_33) (Nat.lt_of_le_of_lt hlen (Nat.le_of_ble_eq_true rfl)) (Nat.lt_of_le_of_lt hg_33 (Nat.le_of_ble_eq_true rfl))).mp c_41
    have hsp := hsp.trans (if_pos c_41)
    have hsp := hout_40 _ hsp
    exact j_3 _ _ _ _ ⟨g_33, g_34, rfl, hg_33, hsp.symm, hP, hD, hS, lv_sub hl [0] rfl⟩
  · have c_41 : ¬ len ≤ g_33 := fun z => c_41 ((nI_leI (a := len) (b := g_33) (Nat.lt_of_le_of_lt hlen (Nat.le_of_ble_eq_true rfl)) (Nat.lt_of_le_of_lt hg_33 (Nat.le_of_ble_eq_true rfl))).mpr z)
    have hsp := hsp.trans (if_neg c_41)
    refine lv_aload_n hx hb eX4_scanWord_16 rfl (lv_at hl 0 rfl) ?_
    refine va_get (D := (dC, dI)) (ci := 4) (v := .ref tp) (C := RX4) (T := TX4) (N := 12) hx hb hts hiX4 hown hK hP 0 rfl rfl 2 (by decide) v_4 (fun _ h9 => h9) rfl eX4_scanWord_17 ?_
    refine lv_aload_n hx hb eX4_scanWord_20 rfl (lv_at hl 0 rfl) ?_
    refine va_get (D := (dC, dI)) (ci := 4) (v := .int (nI g_33)) (C := RX4) (T := TX4) (N := 12) hx hb hts hiX4 hown hK hP 0 rfl rfl 4 (by decide) v_2 (fun _ h9 => h9) rfl eX4_scanWord_21 ?_
    refine va_iald hx hb hK hP 1 0 rfl rfl (vp_in_nI (n := g_33) (by omega) (Nat.le_of_ble_eq_true rfl)) eX4_scanWord_24 ?_
    refine lv_topi (fun y_42 ey_42 => ?_)
    have ey_42 : y_42 = ft g_33 := ey_42.trans (congrArg ft (nI_clamp (n := g_33) (Nat.lt_of_le_of_lt hg_33 (Nat.le_of_ble_eq_true rfl))))
    have hsp := hsp.trans (slet_eq ey_42)
    refine lv_bipush (v := 97) hx hb eX4_scanWord_25 (by decide) ?_
    refine lv_icmp_lt (tgt := 83) hx hb eX4_scanWord_27 (by decide) (fun c_43 => ?_) (fun c_43 => ?_)
    · have hcc_43 := c_43
      have hsp := hsp.trans (if_pos c_43)
      have hsp := hout_40 _ hsp
      exact j_3 _ _ _ _ ⟨g_33, g_34, rfl, hg_33, hsp.symm, hP, hD, hS, lv_sub hl [0] rfl⟩
    · have hcc_43 := c_43
      have hsp := hsp.trans (if_neg c_43)
      refine lv_aload_n hx hb eX4_scanWord_30 rfl (lv_at hl 0 rfl) ?_
      refine va_get (D := (dC, dI)) (ci := 4) (v := .ref tp) (C := RX4) (T := TX4) (N := 12) hx hb hts hiX4 hown hK hP 0 rfl rfl 2 (by decide) v_4 (fun _ h9 => h9) rfl eX4_scanWord_31 ?_
      refine lv_aload_n hx hb eX4_scanWord_34 rfl (lv_at hl 0 rfl) ?_
      refine va_get (D := (dC, dI)) (ci := 4) (v := .int (nI g_33)) (C := RX4) (T := TX4) (N := 12) hx hb hts hiX4 hown hK hP 0 rfl rfl 4 (by decide) v_2 (fun _ h9 => h9) rfl eX4_scanWord_35 ?_
      refine va_iald hx hb hK hP 1 0 rfl rfl (vp_in_nI (n := g_33) (by omega) (Nat.le_of_ble_eq_true rfl)) eX4_scanWord_38 ?_
      refine lv_topi (fun y_44 ey_44 => ?_)
      have ey_44 : y_44 = ft g_33 := ey_44.trans (congrArg ft (nI_clamp (n := g_33) (Nat.lt_of_le_of_lt hg_33 (Nat.le_of_ble_eq_true rfl))))
      have hsp := hsp.trans (slet_eq ey_44)
      refine lv_bipush (v := 122) hx hb eX4_scanWord_39 (by decide) ?_
      refine lv_icmp_gt (tgt := 83) hx hb eX4_scanWord_41 (by decide) (fun c_45 => ?_) (fun c_45 => ?_)
      · have hcc_45 := c_45
        have hsp := hsp.trans (if_pos c_45)
        have hsp := hout_40 _ hsp
        exact j_3 _ _ _ _ ⟨g_33, g_34, rfl, hg_33, hsp.symm, hP, hD, hS, lv_sub hl [0] rfl⟩
      · have hcc_45 := c_45
        have hsp := hsp.trans (if_neg c_45)
        refine lv_aload_n hx hb eX4_scanWord_44 rfl (lv_at hl 0 rfl) ?_
        refine lv_aload_n hx hb eX4_scanWord_45 rfl (lv_at hl 0 rfl) ?_
        refine va_get (D := (dC, dI)) (ci := 4) (v := .int g_34) (C := RX4) (T := TX4) (N := 12) hx hb hts hiX4 hown hK hP 0 rfl rfl 6 (by decide) v_1 (fun _ h9 => h9) rfl eX4_scanWord_46 ?_
        refine lv_bipush (v := 32) hx hb eX4_scanWord_49 (by decide) ?_
        refine lv_imul hx hb eX4_scanWord_51 ?_
        refine lv_topi (fun y_46 ey_46 => ?_)
        have hsp := hsp.trans (slet_eq ey_46)
        refine lv_aload_n hx hb eX4_scanWord_52 rfl (lv_at hl 0 rfl) ?_
        refine va_get (D := (dC, dI)) (ci := 4) (v := .ref tp) (C := RX4) (T := TX4) (N := 12) hx hb hts hiX4 hown hK hP 0 rfl rfl 2 (by decide) v_4 (fun _ h9 => h9) rfl eX4_scanWord_53 ?_
        refine lv_aload_n hx hb eX4_scanWord_56 rfl (lv_at hl 0 rfl) ?_
        refine va_get (D := (dC, dI)) (ci := 4) (v := .int (nI g_33)) (C := RX4) (T := TX4) (N := 12) hx hb hts hiX4 hown hK hP 0 rfl rfl 4 (by decide) v_2 (fun _ h9 => h9) rfl eX4_scanWord_57 ?_
        refine va_iald hx hb hK hP 1 0 rfl rfl (vp_in_nI (n := g_33) (by omega) (Nat.le_of_ble_eq_true rfl)) eX4_scanWord_60 ?_
        refine lv_topi (fun y_47 ey_47 => ?_)
        have ey_47 : y_47 = ft g_33 := ey_47.trans (congrArg ft (nI_clamp (n := g_33) (Nat.lt_of_le_of_lt hg_33 (Nat.le_of_ble_eq_true rfl))))
        have hsp := hsp.trans (slet_eq ey_47)
        refine lv_iadd hx hb eX4_scanWord_61 ?_
        refine lv_topi (fun y_48 ey_48 => ?_)
        have hsp := hsp.trans (slet_eq ey_48)
        refine lv_bipush (v := 97) hx hb eX4_scanWord_62 (by decide) ?_
        refine lv_isub hx hb eX4_scanWord_64 ?_
        refine lv_topi (fun y_49 ey_49 => ?_)
        have hsp := hsp.trans (slet_eq ey_49)
        refine lv_iconst (v := 1) hx hb eX4_scanWord_65 (by decide) ?_
        refine lv_iadd hx hb eX4_scanWord_66 ?_
        refine lv_topi (fun y_50 ey_50 => ?_)
        have hsp := hsp.trans (slet_eq ey_50)
        refine va_put (D := (dC, dI)) (ci := 4) (v := .int y_50) (ty := .int) (C := RX4) (T := TX4) (N := 12) hx hb hts hiX4 tyX4 tyX4_ok nmX4 hown hK hP hD hS 0 rfl rfl 6 (by decide) v_1 (fun _ h9 => h9) rfl (by decide +kernel) rfl rfl (Nat.le_of_ble_eq_true rfl) eX4_scanWord_67 (fun H locs hP hD hS => ?_)
        have hP : va_P (dC, dI) vwCl (rd__w rd fa fat tp (nI len) (nI g_33) (nI kd) y_50 tka au rw rc rp k_ft ft k_fw fw k_fcn fcn k_fpn fpn) H := hP
        have hD : va_D A (rd__w rd fa fat tp (nI len) (nI g_33) (nI kd) y_50 tka au rw rc rp k_ft ft k_fw fw k_fcn fcn k_fpn fpn) := hD
        refine lv_aload_n hx hb eX4_scanWord_70 rfl (lv_at hl 0 rfl) ?_
        refine lv_dup hx hb eX4_scanWord_71 rfl ?_
        refine va_get (D := (dC, dI)) (ci := 4) (v := .int (nI g_33)) (C := RX4) (T := TX4) (N := 12) hx hb hts hiX4 hown hK hP 0 rfl rfl 4 (by decide) v_2 (fun _ h9 => h9) rfl eX4_scanWord_72 ?_
        refine lv_iconst (v := 1) hx hb eX4_scanWord_75 (by decide) ?_
        refine lv_iadd hx hb eX4_scanWord_76 ?_
        refine lv_topi (fun y_51 ey_51 => ?_)
        obtain rfl : y_51 = (nI (g_33 + 1)) := ey_51.trans (nI_add g_33 1)
        refine va_put (D := (dC, dI)) (ci := 4) (v := .int (nI (g_33 + 1))) (ty := .int) (C := RX4) (T := TX4) (N := 12) hx hb hts hiX4 tyX4 tyX4_ok nmX4 hown hK hP hD hS 0 rfl rfl 4 (by decide) v_2 (fun _ h9 => h9) rfl (by decide +kernel) rfl rfl (Nat.le_of_ble_eq_true rfl) eX4_scanWord_77 (fun H locs hP hD hS => ?_)
        have hP : va_P (dC, dI) vwCl (rd__w rd fa fat tp (nI len) (nI (g_33 + 1)) (nI kd) y_50 tka au rw rc rp k_ft ft k_fw fw k_fcn fcn k_fpn fpn) H := hP
        have hD : va_D A (rd__w rd fa fat tp (nI len) (nI (g_33 + 1)) (nI kd) y_50 tka au rw rc rp k_ft ft k_fw fw k_fcn fcn k_fpn fpn) := hD
        refine lv_goto (tgt := 5) hx hb eX4_scanWord_80 (by decide) ?_
        exact ih_35 (900 - (g_33 + 1)) (by omega) _ _ _ ⟨(g_33 + 1), y_50, rfl, (by omega), hin_39 _ hsp, hP, hD, hS, lv_sub hl [0] rfl⟩
theorem eX4_advance_0 : decode cX4_advance 0 = .ok (.aload_n 0, 1) := by decide +kernel
theorem eX4_advance_1 : decode cX4_advance 1 = .ok (.getfield 60, 3) := by decide +kernel
theorem eX4_advance_4 : decode cX4_advance 4 = .ok (.aload_n 0, 1) := by decide +kernel
theorem eX4_advance_5 : decode cX4_advance 5 = .ok (.getfield 58, 3) := by decide +kernel
theorem eX4_advance_8 : decode cX4_advance 8 = .ok (.if_icmp .ge 44, 3) := by decide +kernel
theorem eX4_advance_11 : decode cX4_advance 11 = .ok (.aload_n 0, 1) := by decide +kernel
theorem eX4_advance_12 : decode cX4_advance 12 = .ok (.getfield 55, 3) := by decide +kernel
theorem eX4_advance_15 : decode cX4_advance 15 = .ok (.aload_n 0, 1) := by decide +kernel
theorem eX4_advance_16 : decode cX4_advance 16 = .ok (.getfield 60, 3) := by decide +kernel
theorem eX4_advance_19 : decode cX4_advance 19 = .ok (.iaload, 1) := by decide +kernel
theorem eX4_advance_20 : decode cX4_advance 20 = .ok (.bipush 32, 2) := by decide +kernel
theorem eX4_advance_22 : decode cX4_advance 22 = .ok (.if_icmp .eq 17, 3) := by decide +kernel
theorem eX4_advance_25 : decode cX4_advance 25 = .ok (.aload_n 0, 1) := by decide +kernel
theorem eX4_advance_26 : decode cX4_advance 26 = .ok (.getfield 55, 3) := by decide +kernel
theorem eX4_advance_29 : decode cX4_advance 29 = .ok (.aload_n 0, 1) := by decide +kernel
theorem eX4_advance_30 : decode cX4_advance 30 = .ok (.getfield 60, 3) := by decide +kernel
theorem eX4_advance_33 : decode cX4_advance 33 = .ok (.iaload, 1) := by decide +kernel
theorem eX4_advance_34 : decode cX4_advance 34 = .ok (.bipush 10, 2) := by decide +kernel
theorem eX4_advance_36 : decode cX4_advance 36 = .ok (.if_icmp .ne 16, 3) := by decide +kernel
theorem eX4_advance_39 : decode cX4_advance 39 = .ok (.aload_n 0, 1) := by decide +kernel
theorem eX4_advance_40 : decode cX4_advance 40 = .ok (.dup, 1) := by decide +kernel
theorem eX4_advance_41 : decode cX4_advance 41 = .ok (.getfield 60, 3) := by decide +kernel
theorem eX4_advance_44 : decode cX4_advance 44 = .ok (.iconst 1, 1) := by decide +kernel
theorem eX4_advance_45 : decode cX4_advance 45 = .ok (.iadd, 1) := by decide +kernel
theorem eX4_advance_46 : decode cX4_advance 46 = .ok (.putfield 60, 3) := by decide +kernel
theorem eX4_advance_49 : decode cX4_advance 49 = .ok (.goto (-49), 3) := by decide +kernel
theorem eX4_advance_52 : decode cX4_advance 52 = .ok (.aload_n 0, 1) := by decide +kernel
theorem eX4_advance_53 : decode cX4_advance 53 = .ok (.aload_n 0, 1) := by decide +kernel
theorem eX4_advance_54 : decode cX4_advance 54 = .ok (.getfield 60, 3) := by decide +kernel
theorem eX4_advance_57 : decode cX4_advance 57 = .ok (.putfield 118, 3) := by decide +kernel
theorem eX4_advance_60 : decode cX4_advance 60 = .ok (.aload_n 0, 1) := by decide +kernel
theorem eX4_advance_61 : decode cX4_advance 61 = .ok (.getfield 60, 3) := by decide +kernel
theorem eX4_advance_64 : decode cX4_advance 64 = .ok (.aload_n 0, 1) := by decide +kernel
theorem eX4_advance_65 : decode cX4_advance 65 = .ok (.getfield 58, 3) := by decide +kernel
theorem eX4_advance_68 : decode cX4_advance 68 = .ok (.if_icmp .lt 11, 3) := by decide +kernel
theorem eX4_advance_71 : decode cX4_advance 71 = .ok (.aload_n 0, 1) := by decide +kernel
theorem eX4_advance_72 : decode cX4_advance 72 = .ok (.iconst 1, 1) := by decide +kernel
theorem eX4_advance_73 : decode cX4_advance 73 = .ok (.putfield 78, 3) := by decide +kernel
theorem eX4_advance_76 : decode cX4_advance 76 = .ok (.goto 77, 3) := by decide +kernel
theorem eX4_advance_79 : decode cX4_advance 79 = .ok (.aload_n 0, 1) := by decide +kernel
theorem eX4_advance_80 : decode cX4_advance 80 = .ok (.getfield 55, 3) := by decide +kernel
theorem eX4_advance_83 : decode cX4_advance 83 = .ok (.aload_n 0, 1) := by decide +kernel
theorem eX4_advance_84 : decode cX4_advance 84 = .ok (.getfield 60, 3) := by decide +kernel
theorem eX4_advance_87 : decode cX4_advance 87 = .ok (.iaload, 1) := by decide +kernel
theorem eX4_advance_88 : decode cX4_advance 88 = .ok (.bipush 97, 2) := by decide +kernel
theorem eX4_advance_90 : decode cX4_advance 90 = .ok (.if_icmp .lt 24, 3) := by decide +kernel
theorem eX4_advance_93 : decode cX4_advance 93 = .ok (.aload_n 0, 1) := by decide +kernel
theorem eX4_advance_94 : decode cX4_advance 94 = .ok (.getfield 55, 3) := by decide +kernel
theorem eX4_advance_97 : decode cX4_advance 97 = .ok (.aload_n 0, 1) := by decide +kernel
theorem eX4_advance_98 : decode cX4_advance 98 = .ok (.getfield 60, 3) := by decide +kernel
theorem eX4_advance_101 : decode cX4_advance 101 = .ok (.iaload, 1) := by decide +kernel
theorem eX4_advance_102 : decode cX4_advance 102 = .ok (.bipush 122, 2) := by decide +kernel
theorem eX4_advance_104 : decode cX4_advance 104 = .ok (.if_icmp .gt 10, 3) := by decide +kernel
theorem eX4_advance_107 : decode cX4_advance 107 = .ok (.aload_n 0, 1) := by decide +kernel
theorem eX4_advance_108 : decode cX4_advance 108 = .ok (.invokevirtual 170, 3) := by decide +kernel
theorem eX4_advance_111 : decode cX4_advance 111 = .ok (.goto 42, 3) := by decide +kernel
theorem eX4_advance_114 : decode cX4_advance 114 = .ok (.aload_n 0, 1) := by decide +kernel
theorem eX4_advance_115 : decode cX4_advance 115 = .ok (.getfield 55, 3) := by decide +kernel
theorem eX4_advance_118 : decode cX4_advance 118 = .ok (.aload_n 0, 1) := by decide +kernel
theorem eX4_advance_119 : decode cX4_advance 119 = .ok (.getfield 60, 3) := by decide +kernel
theorem eX4_advance_122 : decode cX4_advance 122 = .ok (.iaload, 1) := by decide +kernel
theorem eX4_advance_123 : decode cX4_advance 123 = .ok (.bipush 48, 2) := by decide +kernel
theorem eX4_advance_125 : decode cX4_advance 125 = .ok (.if_icmp .lt 24, 3) := by decide +kernel
theorem eX4_advance_128 : decode cX4_advance 128 = .ok (.aload_n 0, 1) := by decide +kernel
theorem eX4_advance_129 : decode cX4_advance 129 = .ok (.getfield 55, 3) := by decide +kernel
theorem eX4_advance_132 : decode cX4_advance 132 = .ok (.aload_n 0, 1) := by decide +kernel
theorem eX4_advance_133 : decode cX4_advance 133 = .ok (.getfield 60, 3) := by decide +kernel
theorem eX4_advance_136 : decode cX4_advance 136 = .ok (.iaload, 1) := by decide +kernel
theorem eX4_advance_137 : decode cX4_advance 137 = .ok (.bipush 57, 2) := by decide +kernel
theorem eX4_advance_139 : decode cX4_advance 139 = .ok (.if_icmp .gt 10, 3) := by decide +kernel
theorem eX4_advance_142 : decode cX4_advance 142 = .ok (.aload_n 0, 1) := by decide +kernel
theorem eX4_advance_143 : decode cX4_advance 143 = .ok (.invokevirtual 173, 3) := by decide +kernel
theorem eX4_advance_146 : decode cX4_advance 146 = .ok (.goto 7, 3) := by decide +kernel
theorem eX4_advance_149 : decode cX4_advance 149 = .ok (.aload_n 0, 1) := by decide +kernel
theorem eX4_advance_150 : decode cX4_advance 150 = .ok (.invokevirtual 176, 3) := by decide +kernel
theorem eX4_advance_153 : decode cX4_advance 153 = .ok (.return_, 1) := by decide +kernel
abbrev vs_E_4_advance : List Cond := .code yX4_advance cX4_advance 1 none :: CM
theorem g_E_4_advance_E_4_scanSign : GoodIn vs_E_4_advance (wsV RX4 176 RX4 yX4_scanSign vs_E_4_scanSign) := cm_gV cm_245 cm_246 cm_247 cm_232 cm_248
theorem g_E_4_advance_E_4_scanNumber : GoodIn vs_E_4_advance (wsV RX4 173 RX4 yX4_scanNumber vs_E_4_scanNumber) := cm_gV cm_241 cm_242 cm_243 cm_232 cm_244
theorem g_E_4_advance_E_4_scanWord : GoodIn vs_E_4_advance (wsV RX4 170 RX4 yX4_scanWord vs_E_4_scanWord) := cm_gV cm_235 cm_236 cm_237 cm_232 cm_238
noncomputable def sp_E_4_advance_L1 (len : Nat) (ft : Nat → Int32) : (Nat) → (Nat) ⊕ (Nat) := fun g_43 => (if len ≤ g_43 then (Sum.inr g_43) else (slet (ft g_43) (fun y_51 => (if (y_51 : Int32) = 32 then (Sum.inl (g_43 + 1)) else (slet (ft g_43) (fun y_54 => (if (y_54 : Int32) = 10 then (Sum.inl (g_43 + 1)) else (Sum.inr g_43))))))))
noncomputable def sp_E_4_advance (len : Nat) (pos : Nat) (vl : Int32) (ft : Nat → Int32) (fw : Nat → Int32) : Nat × Nat × Int32 × Int32 := (slet (α := Nat) (itrv (α := Nat) (β := (Nat)) default (sp_E_4_advance_L1 len ft) pos) (fun g_1 => (if g_1 < len then (slet (ft g_1) (fun y_6 => (if (y_6 : Int32) < 97 then (slet (ft g_1) (fun y_8 => (if (y_8 : Int32) < 48 then (slet (sp_E_4_scanSign g_1 ft) (fun (z_pos_11, z_kd_12) => (z_pos_11, z_kd_12, vl, (nI g_1)))) else (slet (ft g_1) (fun y_13 => (if (57 : Int32) < y_13 then (slet (sp_E_4_scanSign g_1 ft) (fun (z_pos_16, z_kd_17) => (z_pos_16, z_kd_17, vl, (nI g_1)))) else (slet (sp_E_4_scanNumber len g_1 (nI g_1) ft) (fun (z_pos_19, z_kd_20, z_vl_21) => (z_pos_19, z_kd_20, z_vl_21, (nI g_1)))))))))) else (slet (ft g_1) (fun y_22 => (if (122 : Int32) < y_22 then (slet (ft g_1) (fun y_24 => (if (y_24 : Int32) < 48 then (slet (sp_E_4_scanSign g_1 ft) (fun (z_pos_27, z_kd_28) => (z_pos_27, z_kd_28, vl, (nI g_1)))) else (slet (ft g_1) (fun y_29 => (if (57 : Int32) < y_29 then (slet (sp_E_4_scanSign g_1 ft) (fun (z_pos_32, z_kd_33) => (z_pos_32, z_kd_33, vl, (nI g_1)))) else (slet (sp_E_4_scanNumber len g_1 (nI g_1) ft) (fun (z_pos_35, z_kd_36, z_vl_37) => (z_pos_35, z_kd_36, z_vl_37, (nI g_1)))))))))) else (slet (sp_E_4_scanWord len g_1 (nI g_1) ft fw) (fun (z_pos_39, z_kd_40, z_vl_41) => (z_pos_39, z_kd_40, z_vl_41, (nI g_1)))))))))) else (g_1, 1, vl, (nI g_1)))))
set_option maxHeartbeats 4000000 in
set_option maxRecDepth 100000 in
theorem c_E_4_advance (l : Launch) (dC : Nat → ClassId) (dI : Nat → Nat → Nat) (sz : Nat) (rd : Nat) (fa : Int32) (fat : Int32) (tp : Nat) (len : Nat) (pos : Nat) (kd : Nat) (vl : Int32) (tka : Int32) (au : Nat) (rw : Nat) (rc : Nat) (rp : Nat) (k_ft : ClassId) (ft : Nat → Int32) (k_fw : ClassId) (fw : Nat → Int32) (k_fcn : ClassId) (fcn : Nat → Int32) (k_fpn : ClassId) (fpn : Nat → Int32) (hlen : len ≤ 900) (hpos : pos ≤ 900) (hkd : kd ≤ 15) : Met l yX4_advance vs_E_4_advance ({ frames := 1, cells := 0, slots := 0, locals := 21 }) (va_Pc [.ref rd] (pu_B (dC, dI) (rd__w rd fa fat tp (nI len) (nI pos) (nI kd) vl tka au rw rc rp k_ft ft k_fw fw k_fcn fcn k_fpn fpn) (rd__t k_ft k_fw k_fcn k_fpn) sz)) (va_Qv (fun (_ : Unit) => True) (fun _ t => ∃ (z_pos : Nat) (z_kd : Nat) (z_vl : Int32) (z_tka : Int32), pu_E (dC, dI) (rd__w rd fa fat tp (nI len) (nI z_pos) (nI z_kd) z_vl z_tka au rw rc rp k_ft ft k_fw fw k_fcn fcn k_fpn fpn) (rd__t k_ft k_fw k_fcn k_fpn) (va_A ((rd__w rd fa fat tp (nI len) (nI pos) (nI kd) vl tka au rw rc rp k_ft ft k_fw fw k_fcn fcn k_fpn fpn)) sz) t ∧ (z_pos ≤ 900) ∧ (z_kd ≤ 15) ∧ ((z_pos, z_kd, z_vl, z_tka) = (sp_E_4_advance len pos vl ft fw))) (va_A ((rd__w rd fa fat tp (nI len) (nI pos) (nI kd) vl tka au rw rc rp k_ft ft k_fw fw k_fcn fcn k_fpn fpn)) sz)) 0 0 (va_A ((rd__w rd fa fat tp (nI len) (nI pos) (nI kd) vl tka au rw rc rp k_ft ft k_fw fw k_fcn fcn k_fpn fpn)) sz) := by
  refine Met.ofW (cc := cX4_advance) (maxL := 1) (ret := none) (by decide) rfl ?_
  intro p e s m args below meth c s₁ B hml hv
  obtain ⟨rfl, rfl, hP, hK, hD0⟩ := hv
  have hx := B.exec
  have hb := B.bytes
  have hr := B.returns
  have hts := atoms_spec (ws := vs_E_4_advance) B.pre
  have v_1 := hts (.fieldLink RX4 60 "ClockReach$Reader" "position" "I") (List.mem_cons_of_mem _ cm_218)
  have v_2 := hts (.fieldLink RX4 58 "ClockReach$Reader" "length" "I") (List.mem_cons_of_mem _ cm_217)
  have v_3 := hts (.fieldLink RX4 55 "ClockReach$Reader" "text" "[I") (List.mem_cons_of_mem _ cm_216)
  have v_4 := hts (.fieldLink RX4 118 "ClockReach$Reader" "tokenAt" "I") (List.mem_cons_of_mem _ cm_234)
  have v_18 := hts (.fieldLink RX4 78 "ClockReach$Reader" "kind" "I") (List.mem_cons_of_mem _ cm_222)
  have hown : s.vm.findClass RX4 = some m.cls := findClass_of_methodNamed B.named
  have hlocks := B.notSynchronized
  have hiX4 : ∀ w ∈ wsX40, w ∈ vs_E_4_advance := fun _ h => List.mem_cons_of_mem _ (cm_X4 h)
  have hD := hD0.self (sz := s.heap.size)
  generalize hAe : va_A ((rd__w rd fa fat tp (nI len) (nI pos) (nI kd) vl tka au rw rc rp k_ft ft k_fw fw k_fcn fcn k_fpn fpn)) s.heap.size = A at hD ⊢
  have hA : ∀ q : Nat, s.heap.size ≤ q → A q := fun q h => by rw [← hAe]; exact Or.inr h
  have hS : va_S A s.heap s.heap [] := va_S.rf
  have hl := lv_entry ([.ref rd]) (n := 1) (Nat.le_of_ble_eq_true rfl)
  rw [lg_entry_eq]
  generalize (lg_sl ([.ref rd]) ++ List.replicate (1 - (lg_sl ([.ref rd])).length) Slot.unset).toArray = ls at hl ⊢
  have hl : lv_has ls 1 [(0, .ref rd)] := hl
  obtain ⟨RR, hRR⟩ : ∃ x, x = (sp_E_4_advance len pos vl ft fw) := ⟨_, rfl⟩
  have hsp := hRR
  obtain ⟨JR_3, hJR_3, hsp⟩ := slet_ex hsp
  refine pu_join (fun H locs ls st => ∃ (g_1 : Nat), st = [] ∧ g_1 ≤ 900 ∧ g_1 = JR_3 ∧ va_P (dC, dI) vwCl (rd__w rd fa fat tp (nI len) (nI g_1) (nI kd) vl tka au rw rc rp k_ft ft k_fw fw k_fcn fcn k_fpn fpn) H ∧ va_D A (rd__w rd fa fat tp (nI len) (nI g_1) (nI kd) vl tka au rw rc rp k_ft ft k_fw fw k_fcn fcn k_fpn fpn) ∧ va_S A s.heap H locs ∧ lv_has ls 1 [(0, .ref rd)]) 52 ?_ (fun j_2 => ?_)
  · rintro H locs ls st ⟨g_1, rfl, hg_1, he_4, hP, hD, hS, hl⟩
    rw [← he_4] at hsp
    refine lv_aload_n hx hb eX4_advance_52 rfl (lv_at hl 0 rfl) ?_
    refine lv_aload_n hx hb eX4_advance_53 rfl (lv_at hl 0 rfl) ?_
    refine va_get (D := (dC, dI)) (ci := 4) (v := .int (nI g_1)) (C := RX4) (T := TX4) (N := 12) hx hb hts hiX4 hown hK hP 0 rfl rfl 4 (by decide) v_1 (fun _ h9 => h9) rfl eX4_advance_54 ?_
    refine va_put (D := (dC, dI)) (ci := 4) (v := .int (nI g_1)) (ty := .int) (C := RX4) (T := TX4) (N := 12) hx hb hts hiX4 tyX4 tyX4_ok nmX4 hown hK hP hD hS 0 rfl rfl 7 (by decide) v_4 (fun _ h9 => h9) rfl (by decide +kernel) rfl rfl (Nat.le_of_ble_eq_true rfl) eX4_advance_57 (fun H locs hP hD hS => ?_)
    have hP : va_P (dC, dI) vwCl (rd__w rd fa fat tp (nI len) (nI g_1) (nI kd) vl (nI g_1) au rw rc rp k_ft ft k_fw fw k_fcn fcn k_fpn fpn) H := hP
    have hD : va_D A (rd__w rd fa fat tp (nI len) (nI g_1) (nI kd) vl (nI g_1) au rw rc rp k_ft ft k_fw fw k_fcn fcn k_fpn fpn) := hD
    refine lv_aload_n hx hb eX4_advance_60 rfl (lv_at hl 0 rfl) ?_
    refine va_get (D := (dC, dI)) (ci := 4) (v := .int (nI g_1)) (C := RX4) (T := TX4) (N := 12) hx hb hts hiX4 hown hK hP 0 rfl rfl 4 (by decide) v_1 (fun _ h9 => h9) rfl eX4_advance_61 ?_
    refine lv_aload_n hx hb eX4_advance_64 rfl (lv_at hl 0 rfl) ?_
    refine va_get (D := (dC, dI)) (ci := 4) (v := .int (nI len)) (C := RX4) (T := TX4) (N := 12) hx hb hts hiX4 hown hK hP 0 rfl rfl 3 (by decide) v_2 (fun _ h9 => h9) rfl eX4_advance_65 ?_
    refine lv_icmp_lt (tgt := 79) hx hb eX4_advance_68 (by decide) (fun c_5 => ?_) (fun c_5 => ?_)
    · have c_5 : g_1 < len := (nI_ltI (a := g_1) (b := len) (Nat.lt_of_le_of_lt hg_1 (Nat.le_of_ble_eq_true rfl)) (Nat.lt_of_le_of_lt hlen (Nat.le_of_ble_eq_true rfl))).mp c_5
      have hsp := hsp.trans (if_pos c_5)
      refine lv_aload_n hx hb eX4_advance_79 rfl (lv_at hl 0 rfl) ?_
      refine va_get (D := (dC, dI)) (ci := 4) (v := .ref tp) (C := RX4) (T := TX4) (N := 12) hx hb hts hiX4 hown hK hP 0 rfl rfl 2 (by decide) v_3 (fun _ h9 => h9) rfl eX4_advance_80 ?_
      refine lv_aload_n hx hb eX4_advance_83 rfl (lv_at hl 0 rfl) ?_
      refine va_get (D := (dC, dI)) (ci := 4) (v := .int (nI g_1)) (C := RX4) (T := TX4) (N := 12) hx hb hts hiX4 hown hK hP 0 rfl rfl 4 (by decide) v_1 (fun _ h9 => h9) rfl eX4_advance_84 ?_
      refine va_iald hx hb hK hP 1 0 rfl rfl (vp_in_nI (n := g_1) (by omega) (Nat.le_of_ble_eq_true rfl)) eX4_advance_87 ?_
      refine lv_topi (fun y_6 ey_6 => ?_)
      have ey_6 : y_6 = ft g_1 := ey_6.trans (congrArg ft (nI_clamp (n := g_1) (Nat.lt_of_le_of_lt hg_1 (Nat.le_of_ble_eq_true rfl))))
      have hsp := hsp.trans (slet_eq ey_6)
      refine lv_bipush (v := 97) hx hb eX4_advance_88 (by decide) ?_
      refine lv_icmp_lt (tgt := 114) hx hb eX4_advance_90 (by decide) (fun c_7 => ?_) (fun c_7 => ?_)
      · have hcc_7 := c_7
        have hsp := hsp.trans (if_pos c_7)
        refine lv_aload_n hx hb eX4_advance_114 rfl (lv_at hl 0 rfl) ?_
        refine va_get (D := (dC, dI)) (ci := 4) (v := .ref tp) (C := RX4) (T := TX4) (N := 12) hx hb hts hiX4 hown hK hP 0 rfl rfl 2 (by decide) v_3 (fun _ h9 => h9) rfl eX4_advance_115 ?_
        refine lv_aload_n hx hb eX4_advance_118 rfl (lv_at hl 0 rfl) ?_
        refine va_get (D := (dC, dI)) (ci := 4) (v := .int (nI g_1)) (C := RX4) (T := TX4) (N := 12) hx hb hts hiX4 hown hK hP 0 rfl rfl 4 (by decide) v_1 (fun _ h9 => h9) rfl eX4_advance_119 ?_
        refine va_iald hx hb hK hP 1 0 rfl rfl (vp_in_nI (n := g_1) (by omega) (Nat.le_of_ble_eq_true rfl)) eX4_advance_122 ?_
        refine lv_topi (fun y_8 ey_8 => ?_)
        have ey_8 : y_8 = ft g_1 := ey_8.trans (congrArg ft (nI_clamp (n := g_1) (Nat.lt_of_le_of_lt hg_1 (Nat.le_of_ble_eq_true rfl))))
        have hsp := hsp.trans (slet_eq ey_8)
        refine lv_bipush (v := 48) hx hb eX4_advance_123 (by decide) ?_
        refine lv_icmp_lt (tgt := 149) hx hb eX4_advance_125 (by decide) (fun c_9 => ?_) (fun c_9 => ?_)
        · have hcc_9 := c_9
          have hsp := hsp.trans (if_pos c_9)
          refine lv_aload_n hx hb eX4_advance_149 rfl (lv_at hl 0 rfl) ?_
          have hFc := pu_free hD hS hA
          refine va_callv (va_runV (As := []) (rest := []) ⟨hx, hb, hml, hown, hts⟩ (c_E_4_scanSign l dC dI _ rd fa fat tp len g_1 kd vl (nI g_1) au rw rc rp k_ft ft k_fw fw k_fcn fcn k_fpn fpn hlen (by omega) hkd) (cwV 0 hts g_E_4_advance_E_4_scanSign rfl rfl rfl (by decide +kernel) ⟨Nat.le_of_ble_eq_true rfl, Nat.le_of_ble_eq_true rfl⟩) ⟨pu_bl, va_recv hK hP (ci := 4) (q0 := 0) rfl rfl, pu_in hP hK hD⟩ rfl rfl hl.1 rfl (lv_room (Nat.le_of_ble_eq_true rfl)) eX4_advance_150 ⟨Nat.le_of_ble_eq_true rfl, Nat.le_of_ble_eq_true rfl⟩) hS (fun q _ h => hFc q h) hFc (fun u t H1 locs ht hvm hw hB hz1 hk1 hS => ?_)
          obtain ⟨z_pos_11, z_kd_12, ⟨hP1, -, hD1⟩, hz_pos_11, hz_kd_12, xr_10_0⟩ := hB
          rw [ht] at hP1
          have hP := hP1
          have hD := pu_all hFc hD1
          clear hP1 hD1 hFc
          clear hk1 hz1 ht hvm
          generalize H1 = H at hP hS ⊢
          have hsp := hsp.trans (slet_eq xr_10_0)
          exact W.vret hx hb hr (fun t ht hW => ⟨⟨(), rfl, trivial, ⟨z_pos_11, z_kd_12, vl, (nI g_1), ⟨by rw [ht]; exact hP, va_K.moved hW.alike hK, hD⟩, hz_pos_11, hz_kd_12, (hsp.symm.trans hRR)⟩⟩, hS.F ht⟩) hS.2.2 eX4_advance_153
        · have hcc_9 := c_9
          have hsp := hsp.trans (if_neg c_9)
          refine lv_aload_n hx hb eX4_advance_128 rfl (lv_at hl 0 rfl) ?_
          refine va_get (D := (dC, dI)) (ci := 4) (v := .ref tp) (C := RX4) (T := TX4) (N := 12) hx hb hts hiX4 hown hK hP 0 rfl rfl 2 (by decide) v_3 (fun _ h9 => h9) rfl eX4_advance_129 ?_
          refine lv_aload_n hx hb eX4_advance_132 rfl (lv_at hl 0 rfl) ?_
          refine va_get (D := (dC, dI)) (ci := 4) (v := .int (nI g_1)) (C := RX4) (T := TX4) (N := 12) hx hb hts hiX4 hown hK hP 0 rfl rfl 4 (by decide) v_1 (fun _ h9 => h9) rfl eX4_advance_133 ?_
          refine va_iald hx hb hK hP 1 0 rfl rfl (vp_in_nI (n := g_1) (by omega) (Nat.le_of_ble_eq_true rfl)) eX4_advance_136 ?_
          refine lv_topi (fun y_13 ey_13 => ?_)
          have ey_13 : y_13 = ft g_1 := ey_13.trans (congrArg ft (nI_clamp (n := g_1) (Nat.lt_of_le_of_lt hg_1 (Nat.le_of_ble_eq_true rfl))))
          have hsp := hsp.trans (slet_eq ey_13)
          refine lv_bipush (v := 57) hx hb eX4_advance_137 (by decide) ?_
          refine lv_icmp_gt (tgt := 149) hx hb eX4_advance_139 (by decide) (fun c_14 => ?_) (fun c_14 => ?_)
          · have hcc_14 := c_14
            have hsp := hsp.trans (if_pos c_14)
            refine lv_aload_n hx hb eX4_advance_149 rfl (lv_at hl 0 rfl) ?_
            have hFc := pu_free hD hS hA
            refine va_callv (va_runV (As := []) (rest := []) ⟨hx, hb, hml, hown, hts⟩ (c_E_4_scanSign l dC dI _ rd fa fat tp len g_1 kd vl (nI g_1) au rw rc rp k_ft ft k_fw fw k_fcn fcn k_fpn fpn hlen (by omega) hkd) (cwV 0 hts g_E_4_advance_E_4_scanSign rfl rfl rfl (by decide +kernel) ⟨Nat.le_of_ble_eq_true rfl, Nat.le_of_ble_eq_true rfl⟩) ⟨pu_bl, va_recv hK hP (ci := 4) (q0 := 0) rfl rfl, pu_in hP hK hD⟩ rfl rfl hl.1 rfl (lv_room (Nat.le_of_ble_eq_true rfl)) eX4_advance_150 ⟨Nat.le_of_ble_eq_true rfl, Nat.le_of_ble_eq_true rfl⟩) hS (fun q _ h => hFc q h) hFc (fun u t H1 locs ht hvm hw hB hz1 hk1 hS => ?_)
            obtain ⟨z_pos_16, z_kd_17, ⟨hP1, -, hD1⟩, hz_pos_16, hz_kd_17, xr_15_0⟩ := hB
            rw [ht] at hP1
            have hP := hP1
            have hD := pu_all hFc hD1
            clear hP1 hD1 hFc
            clear hk1 hz1 ht hvm
            generalize H1 = H at hP hS ⊢
            have hsp := hsp.trans (slet_eq xr_15_0)
            exact W.vret hx hb hr (fun t ht hW => ⟨⟨(), rfl, trivial, ⟨z_pos_16, z_kd_17, vl, (nI g_1), ⟨by rw [ht]; exact hP, va_K.moved hW.alike hK, hD⟩, hz_pos_16, hz_kd_17, (hsp.symm.trans hRR)⟩⟩, hS.F ht⟩) hS.2.2 eX4_advance_153
          · have hcc_14 := c_14
            have hsp := hsp.trans (if_neg c_14)
            refine lv_aload_n hx hb eX4_advance_142 rfl (lv_at hl 0 rfl) ?_
            have hFc := pu_free hD hS hA
            refine va_callv (va_runV (As := []) (rest := []) ⟨hx, hb, hml, hown, hts⟩ (c_E_4_scanNumber l dC dI _ rd fa fat tp len g_1 kd vl (nI g_1) au rw rc rp k_ft ft k_fw fw k_fcn fcn k_fpn fpn hlen hg_1 hkd) (cwV 0 hts g_E_4_advance_E_4_scanNumber rfl rfl rfl (by decide +kernel) ⟨Nat.le_of_ble_eq_true rfl, Nat.le_of_ble_eq_true rfl⟩) ⟨pu_bl, va_recv hK hP (ci := 4) (q0 := 0) rfl rfl, pu_in hP hK hD⟩ rfl rfl hl.1 rfl (lv_room (Nat.le_of_ble_eq_true rfl)) eX4_advance_143 ⟨Nat.le_of_ble_eq_true rfl, Nat.le_of_ble_eq_true rfl⟩) hS (fun q _ h => hFc q h) hFc (fun u t H1 locs ht hvm hw hB hz1 hk1 hS => ?_)
            obtain ⟨z_pos_19, z_kd_20, z_vl_21, ⟨hP1, -, hD1⟩, hz_pos_19, hz_kd_20, xr_18_0⟩ := hB
            rw [ht] at hP1
            have hP := hP1
            have hD := pu_all hFc hD1
            clear hP1 hD1 hFc
            clear hk1 hz1 ht hvm
            generalize H1 = H at hP hS ⊢
            have hsp := hsp.trans (slet_eq xr_18_0)
            refine lv_goto (tgt := 153) hx hb eX4_advance_146 (by decide) ?_
            exact W.vret hx hb hr (fun t ht hW => ⟨⟨(), rfl, trivial, ⟨z_pos_19, z_kd_20, z_vl_21, (nI g_1), ⟨by rw [ht]; exact hP, va_K.moved hW.alike hK, hD⟩, hz_pos_19, hz_kd_20, (hsp.symm.trans hRR)⟩⟩, hS.F ht⟩) hS.2.2 eX4_advance_153
      · have hcc_7 := c_7
        have hsp := hsp.trans (if_neg c_7)
        refine lv_aload_n hx hb eX4_advance_93 rfl (lv_at hl 0 rfl) ?_
        refine va_get (D := (dC, dI)) (ci := 4) (v := .ref tp) (C := RX4) (T := TX4) (N := 12) hx hb hts hiX4 hown hK hP 0 rfl rfl 2 (by decide) v_3 (fun _ h9 => h9) rfl eX4_advance_94 ?_
        refine lv_aload_n hx hb eX4_advance_97 rfl (lv_at hl 0 rfl) ?_
        refine va_get (D := (dC, dI)) (ci := 4) (v := .int (nI g_1)) (C := RX4) (T := TX4) (N := 12) hx hb hts hiX4 hown hK hP 0 rfl rfl 4 (by decide) v_1 (fun _ h9 => h9) rfl eX4_advance_98 ?_
        refine va_iald hx hb hK hP 1 0 rfl rfl (vp_in_nI (n := g_1) (by omega) (Nat.le_of_ble_eq_true rfl)) eX4_advance_101 ?_
        refine lv_topi (fun y_22 ey_22 => ?_)
        have ey_22 : y_22 = ft g_1 := ey_22.trans (congrArg ft (nI_clamp (n := g_1) (Nat.lt_of_le_of_lt hg_1 (Nat.le_of_ble_eq_true rfl))))
        have hsp := hsp.trans (slet_eq ey_22)
        refine lv_bipush (v := 122) hx hb eX4_advance_102 (by decide) ?_
        refine lv_icmp_gt (tgt := 114) hx hb eX4_advance_104 (by decide) (fun c_23 => ?_) (fun c_23 => ?_)
        · have hcc_23 := c_23
          have hsp := hsp.trans (if_pos c_23)
          refine lv_aload_n hx hb eX4_advance_114 rfl (lv_at hl 0 rfl) ?_
          refine va_get (D := (dC, dI)) (ci := 4) (v := .ref tp) (C := RX4) (T := TX4) (N := 12) hx hb hts hiX4 hown hK hP 0 rfl rfl 2 (by decide) v_3 (fun _ h9 => h9) rfl eX4_advance_115 ?_
          refine lv_aload_n hx hb eX4_advance_118 rfl (lv_at hl 0 rfl) ?_
          refine va_get (D := (dC, dI)) (ci := 4) (v := .int (nI g_1)) (C := RX4) (T := TX4) (N := 12) hx hb hts hiX4 hown hK hP 0 rfl rfl 4 (by decide) v_1 (fun _ h9 => h9) rfl eX4_advance_119 ?_
          refine va_iald hx hb hK hP 1 0 rfl rfl (vp_in_nI (n := g_1) (by omega) (Nat.le_of_ble_eq_true rfl)) eX4_advance_122 ?_
          refine lv_topi (fun y_24 ey_24 => ?_)
          have ey_24 : y_24 = ft g_1 := ey_24.trans (congrArg ft (nI_clamp (n := g_1) (Nat.lt_of_le_of_lt hg_1 (Nat.le_of_ble_eq_true rfl))))
          have hsp := hsp.trans (slet_eq ey_24)
          refine lv_bipush (v := 48) hx hb eX4_advance_123 (by decide) ?_
          refine lv_icmp_lt (tgt := 149) hx hb eX4_advance_125 (by decide) (fun c_25 => ?_) (fun c_25 => ?_)
          · have hcc_25 := c_25
            have hsp := hsp.trans (if_pos c_25)
            refine lv_aload_n hx hb eX4_advance_149 rfl (lv_at hl 0 rfl) ?_
            have hFc := pu_free hD hS hA
            refine va_callv (va_runV (As := []) (rest := []) ⟨hx, hb, hml, hown, hts⟩ (c_E_4_scanSign l dC dI _ rd fa fat tp len g_1 kd vl (nI g_1) au rw rc rp k_ft ft k_fw fw k_fcn fcn k_fpn fpn hlen (by omega) hkd) (cwV 0 hts g_E_4_advance_E_4_scanSign rfl rfl rfl (by decide +kernel) ⟨Nat.le_of_ble_eq_true rfl, Nat.le_of_ble_eq_true rfl⟩) ⟨pu_bl, va_recv hK hP (ci := 4) (q0 := 0) rfl rfl, pu_in hP hK hD⟩ rfl rfl hl.1 rfl (lv_room (Nat.le_of_ble_eq_true rfl)) eX4_advance_150 ⟨Nat.le_of_ble_eq_true rfl, Nat.le_of_ble_eq_true rfl⟩) hS (fun q _ h => hFc q h) hFc (fun u t H1 locs ht hvm hw hB hz1 hk1 hS => ?_)
            obtain ⟨z_pos_27, z_kd_28, ⟨hP1, -, hD1⟩, hz_pos_27, hz_kd_28, xr_26_0⟩ := hB
            rw [ht] at hP1
            have hP := hP1
            have hD := pu_all hFc hD1
            clear hP1 hD1 hFc
            clear hk1 hz1 ht hvm
            generalize H1 = H at hP hS ⊢
            have hsp := hsp.trans (slet_eq xr_26_0)
            exact W.vret hx hb hr (fun t ht hW => ⟨⟨(), rfl, trivial, ⟨z_pos_27, z_kd_28, vl, (nI g_1), ⟨by rw [ht]; exact hP, va_K.moved hW.alike hK, hD⟩, hz_pos_27, hz_kd_28, (hsp.symm.trans hRR)⟩⟩, hS.F ht⟩) hS.2.2 eX4_advance_153
          · have hcc_25 := c_25
            have hsp := hsp.trans (if_neg c_25)
            refine lv_aload_n hx hb eX4_advance_128 rfl (lv_at hl 0 rfl) ?_
            refine va_get (D := (dC, dI)) (ci := 4) (v := .ref tp) (C := RX4) (T := TX4) (N := 12) hx hb hts hiX4 hown hK hP 0 rfl rfl 2 (by decide) v_3 (fun _ h9 => h9) rfl eX4_advance_129 ?_
            refine lv_aload_n hx hb eX4_advance_132 rfl (lv_at hl 0 rfl) ?_
            refine va_get (D := (dC, dI)) (ci := 4) (v := .int (nI g_1)) (C := RX4) (T := TX4) (N := 12) hx hb hts hiX4 hown hK hP 0 rfl rfl 4 (by decide) v_1 (fun _ h9 => h9) rfl eX4_advance_133 ?_
            refine va_iald hx hb hK hP 1 0 rfl rfl (vp_in_nI (n := g_1) (by omega) (Nat.le_of_ble_eq_true rfl)) eX4_advance_136 ?_
            refine lv_topi (fun y_29 ey_29 => ?_)
            have ey_29 : y_29 = ft g_1 := ey_29.trans (congrArg ft (nI_clamp (n := g_1) (Nat.lt_of_le_of_lt hg_1 (Nat.le_of_ble_eq_true rfl))))
            have hsp := hsp.trans (slet_eq ey_29)
            refine lv_bipush (v := 57) hx hb eX4_advance_137 (by decide) ?_
            refine lv_icmp_gt (tgt := 149) hx hb eX4_advance_139 (by decide) (fun c_30 => ?_) (fun c_30 => ?_)
            · have hcc_30 := c_30
              have hsp := hsp.trans (if_pos c_30)
              refine lv_aload_n hx hb eX4_advance_149 rfl (lv_at hl 0 rfl) ?_
              have hFc := pu_free hD hS hA
              refine va_callv (va_runV (As := []) (rest := []) ⟨hx, hb, hml, hown, hts⟩ (c_E_4_scanSign l dC dI _ rd fa fat tp len g_1 kd vl (nI g_1) au rw rc rp k_ft ft k_fw fw k_fcn fcn k_fpn fpn hlen (by omega) hkd) (cwV 0 hts g_E_4_advance_E_4_scanSign rfl rfl rfl (by decide +kernel) ⟨Nat.le_of_ble_eq_true rfl, Nat.le_of_ble_eq_true rfl⟩) ⟨pu_bl, va_recv hK hP (ci := 4) (q0 := 0) rfl rfl, pu_in hP hK hD⟩ rfl rfl hl.1 rfl (lv_room (Nat.le_of_ble_eq_true rfl)) eX4_advance_150 ⟨Nat.le_of_ble_eq_true rfl, Nat.le_of_ble_eq_true rfl⟩) hS (fun q _ h => hFc q h) hFc (fun u t H1 locs ht hvm hw hB hz1 hk1 hS => ?_)
              obtain ⟨z_pos_32, z_kd_33, ⟨hP1, -, hD1⟩, hz_pos_32, hz_kd_33, xr_31_0⟩ := hB
              rw [ht] at hP1
              have hP := hP1
              have hD := pu_all hFc hD1
              clear hP1 hD1 hFc
              clear hk1 hz1 ht hvm
              generalize H1 = H at hP hS ⊢
              have hsp := hsp.trans (slet_eq xr_31_0)
              exact W.vret hx hb hr (fun t ht hW => ⟨⟨(), rfl, trivial, ⟨z_pos_32, z_kd_33, vl, (nI g_1), ⟨by rw [ht]; exact hP, va_K.moved hW.alike hK, hD⟩, hz_pos_32, hz_kd_33, (hsp.symm.trans hRR)⟩⟩, hS.F ht⟩) hS.2.2 eX4_advance_153
            · have hcc_30 := c_30
              have hsp := hsp.trans (if_neg c_30)
              refine lv_aload_n hx hb eX4_advance_142 rfl (lv_at hl 0 rfl) ?_
              have hFc := pu_free hD hS hA
              refine va_callv (va_runV (As := []) (rest := []) ⟨hx, hb, hml, hown, hts⟩ (c_E_4_scanNumber l dC dI _ rd fa fat tp len g_1 kd vl (nI g_1) au rw rc rp k_ft ft k_fw fw k_fcn fcn k_fpn fpn hlen hg_1 hkd) (cwV 0 hts g_E_4_advance_E_4_scanNumber rfl rfl rfl (by decide +kernel) ⟨Nat.le_of_ble_eq_true rfl, Nat.le_of_ble_eq_true rfl⟩) ⟨pu_bl, va_recv hK hP (ci := 4) (q0 := 0) rfl rfl, pu_in hP hK hD⟩ rfl rfl hl.1 rfl (lv_room (Nat.le_of_ble_eq_true rfl)) eX4_advance_143 ⟨Nat.le_of_ble_eq_true rfl, Nat.le_of_ble_eq_true rfl⟩) hS (fun q _ h => hFc q h) hFc (fun u t H1 locs ht hvm hw hB hz1 hk1 hS => ?_)
              obtain ⟨z_pos_35, z_kd_36, z_vl_37, ⟨hP1, -, hD1⟩, hz_pos_35, hz_kd_36, xr_34_0⟩ := hB
              rw [ht] at hP1
              have hP := hP1
              have hD := pu_all hFc hD1
              clear hP1 hD1 hFc
              clear hk1 hz1 ht hvm
              generalize H1 = H at hP hS ⊢
              have hsp := hsp.trans (slet_eq xr_34_0)
              refine lv_goto (tgt := 153) hx hb eX4_advance_146 (by decide) ?_
              exact W.vret hx hb hr (fun t ht hW => ⟨⟨(), rfl, trivial, ⟨z_pos_35, z_kd_36, z_vl_37, (nI g_1), ⟨by rw [ht]; exact hP, va_K.moved hW.alike hK, hD⟩, hz_pos_35, hz_kd_36, (hsp.symm.trans hRR)⟩⟩, hS.F ht⟩) hS.2.2 eX4_advance_153
        · have hcc_23 := c_23
          have hsp := hsp.trans (if_neg c_23)
          refine lv_aload_n hx hb eX4_advance_107 rfl (lv_at hl 0 rfl) ?_
          have hFc := pu_free hD hS hA
          refine va_callv (va_runV (As := []) (rest := []) ⟨hx, hb, hml, hown, hts⟩ (c_E_4_scanWord l dC dI _ rd fa fat tp len g_1 kd vl (nI g_1) au rw rc rp k_ft ft k_fw fw k_fcn fcn k_fpn fpn hlen hg_1 hkd) (cwV 0 hts g_E_4_advance_E_4_scanWord rfl rfl rfl (by decide +kernel) ⟨Nat.le_of_ble_eq_true rfl, Nat.le_of_ble_eq_true rfl⟩) ⟨pu_bl, va_recv hK hP (ci := 4) (q0 := 0) rfl rfl, pu_in hP hK hD⟩ rfl rfl hl.1 rfl (lv_room (Nat.le_of_ble_eq_true rfl)) eX4_advance_108 ⟨Nat.le_of_ble_eq_true rfl, Nat.le_of_ble_eq_true rfl⟩) hS (fun q _ h => hFc q h) hFc (fun u t H1 locs ht hvm hw hB hz1 hk1 hS => ?_)
          obtain ⟨z_pos_39, z_kd_40, z_vl_41, ⟨hP1, -, hD1⟩, hz_pos_39, hz_kd_40, xr_38_0⟩ := hB
          rw [ht] at hP1
          have hP := hP1
          have hD := pu_all hFc hD1
          clear hP1 hD1 hFc
          clear hk1 hz1 ht hvm
          generalize H1 = H at hP hS ⊢
          have hsp := hsp.trans (slet_eq xr_38_0)
          refine lv_goto (tgt := 153) hx hb eX4_advance_111 (by decide) ?_
          exact W.vret hx hb hr (fun t ht hW => ⟨⟨(), rfl, trivial, ⟨z_pos_39, z_kd_40, z_vl_41, (nI g_1), ⟨by rw [ht]; exact hP, va_K.moved hW.alike hK, hD⟩, hz_pos_39, hz_kd_40, (hsp.symm.trans hRR)⟩⟩, hS.F ht⟩) hS.2.2 eX4_advance_153
    · have c_5 : ¬ g_1 < len := fun z => c_5 ((nI_ltI (a := g_1) (b := len) (Nat.lt_of_le_of_lt hg_1 (Nat.le_of_ble_eq_true rfl)) (Nat.lt_of_le_of_lt hlen (Nat.le_of_ble_eq_true rfl))).mpr z)
      have hsp := hsp.trans (if_neg c_5)
      refine lv_aload_n hx hb eX4_advance_71 rfl (lv_at hl 0 rfl) ?_
      refine lv_iconst (v := 1) hx hb eX4_advance_72 (by decide) ?_
      refine va_put (D := (dC, dI)) (ci := 4) (v := .int 1) (ty := .int) (C := RX4) (T := TX4) (N := 12) hx hb hts hiX4 tyX4 tyX4_ok nmX4 hown hK hP hD hS 0 rfl rfl 5 (by decide) v_18 (fun _ h9 => h9) rfl (by decide +kernel) rfl rfl (Nat.le_of_ble_eq_true rfl) eX4_advance_73 (fun H locs hP hD hS => ?_)
      have hP : va_P (dC, dI) vwCl (rd__w rd fa fat tp (nI len) (nI g_1) 1 vl (nI g_1) au rw rc rp k_ft ft k_fw fw k_fcn fcn k_fpn fpn) H := hP
      have hD : va_D A (rd__w rd fa fat tp (nI len) (nI g_1) 1 vl (nI g_1) au rw rc rp k_ft ft k_fw fw k_fcn fcn k_fpn fpn) := hD
      refine lv_goto (tgt := 153) hx hb eX4_advance_76 (by decide) ?_
      exact W.vret hx hb hr (fun t ht hW => ⟨⟨(), rfl, trivial, ⟨g_1, 1, vl, (nI g_1), ⟨by rw [ht]; exact hP, va_K.moved hW.alike hK, hD⟩, hg_1, (Nat.le_of_ble_eq_true rfl), (hsp.symm.trans hRR)⟩⟩, hS.F ht⟩) hS.2.2 eX4_advance_153
  have hsp := hJR_3
  obtain ⟨lf_45, dlf_45, hlf_45, hsp⟩ := itr_ex hsp
  delta sp_E_4_advance_L1 at hlf_45
  refine pu_while (fun nn H locs ls => ∃ (g_43 : Nat), nn = 900 - g_43 ∧ g_43 ≤ 900 ∧ JR_3 = itrv dlf_45 lf_45 g_43 ∧ va_P (dC, dI) vwCl (rd__w rd fa fat tp (nI len) (nI g_43) (nI kd) vl tka au rw rc rp k_ft ft k_fw fw k_fcn fcn k_fpn fpn) H ∧ va_D A (rd__w rd fa fat tp (nI len) (nI g_43) (nI kd) vl tka au rw rc rp k_ft ft k_fw fw k_fcn fcn k_fpn fpn) ∧ va_S A s.heap H locs ∧ lv_has ls 1 [(0, .ref rd)]) 0 ?_ _ _ _ _ ⟨pos, rfl, hpos, hsp, hP, hD, hS, lv_sub hl [0] rfl⟩
  rintro nn ih_44 H locs ls ⟨g_43, rfl, hg_43, he_47, hP, hD, hS, hl⟩
  obtain ⟨S_46, hsp, hin_48, hout_49⟩ := itr_step hlf_45 he_47
  refine lv_aload_n hx hb eX4_advance_0 rfl (lv_at hl 0 rfl) ?_
  refine va_get (D := (dC, dI)) (ci := 4) (v := .int (nI g_43)) (C := RX4) (T := TX4) (N := 12) hx hb hts hiX4 hown hK hP 0 rfl rfl 4 (by decide) v_1 (fun _ h9 => h9) rfl eX4_advance_1 ?_
  refine lv_aload_n hx hb eX4_advance_4 rfl (lv_at hl 0 rfl) ?_
  refine va_get (D := (dC, dI)) (ci := 4) (v := .int (nI len)) (C := RX4) (T := TX4) (N := 12) hx hb hts hiX4 hown hK hP 0 rfl rfl 3 (by decide) v_2 (fun _ h9 => h9) rfl eX4_advance_5 ?_
  refine lv_icmp_ge (tgt := 52) hx hb eX4_advance_8 (by decide) (fun c_50 => ?_) (fun c_50 => ?_)
  · have c_50 : len ≤ g_43 := (nI_leI (a := len) (b := g_43) (Nat.lt_of_le_of_lt hlen (Nat.le_of_ble_eq_true rfl)) (Nat.lt_of_le_of_lt hg_43 (Nat.le_of_ble_eq_true rfl))).mp c_50
    have hsp := hsp.trans (if_pos c_50)
    have hsp := hout_49 _ hsp
    exact j_2 _ _ _ _ ⟨g_43, rfl, hg_43, hsp.symm, hP, hD, hS, lv_sub hl [0] rfl⟩
  · have c_50 : ¬ len ≤ g_43 := fun z => c_50 ((nI_leI (a := len) (b := g_43) (Nat.lt_of_le_of_lt hlen (Nat.le_of_ble_eq_true rfl)) (Nat.lt_of_le_of_lt hg_43 (Nat.le_of_ble_eq_true rfl))).mpr z)
    have hsp := hsp.trans (if_neg c_50)
    refine lv_aload_n hx hb eX4_advance_11 rfl (lv_at hl 0 rfl) ?_
    refine va_get (D := (dC, dI)) (ci := 4) (v := .ref tp) (C := RX4) (T := TX4) (N := 12) hx hb hts hiX4 hown hK hP 0 rfl rfl 2 (by decide) v_3 (fun _ h9 => h9) rfl eX4_advance_12 ?_
    refine lv_aload_n hx hb eX4_advance_15 rfl (lv_at hl 0 rfl) ?_
    refine va_get (D := (dC, dI)) (ci := 4) (v := .int (nI g_43)) (C := RX4) (T := TX4) (N := 12) hx hb hts hiX4 hown hK hP 0 rfl rfl 4 (by decide) v_1 (fun _ h9 => h9) rfl eX4_advance_16 ?_
    refine va_iald hx hb hK hP 1 0 rfl rfl (vp_in_nI (n := g_43) (by omega) (Nat.le_of_ble_eq_true rfl)) eX4_advance_19 ?_
    refine lv_topi (fun y_51 ey_51 => ?_)
    have ey_51 : y_51 = ft g_43 := ey_51.trans (congrArg ft (nI_clamp (n := g_43) (Nat.lt_of_le_of_lt hg_43 (Nat.le_of_ble_eq_true rfl))))
    have hsp := hsp.trans (slet_eq ey_51)
    refine lv_bipush (v := 32) hx hb eX4_advance_20 (by decide) ?_
    refine lv_icmp_eq (tgt := 39) hx hb eX4_advance_22 (by decide) (fun c_52 => ?_) (fun c_52 => ?_)
    · have hcc_52 := c_52
      have hsp := hsp.trans (if_pos c_52)
      refine lv_aload_n hx hb eX4_advance_39 rfl (lv_at hl 0 rfl) ?_
      refine lv_dup hx hb eX4_advance_40 rfl ?_
      refine va_get (D := (dC, dI)) (ci := 4) (v := .int (nI g_43)) (C := RX4) (T := TX4) (N := 12) hx hb hts hiX4 hown hK hP 0 rfl rfl 4 (by decide) v_1 (fun _ h9 => h9) rfl eX4_advance_41 ?_
      refine lv_iconst (v := 1) hx hb eX4_advance_44 (by decide) ?_
      refine lv_iadd hx hb eX4_advance_45 ?_
      refine lv_topi (fun y_53 ey_53 => ?_)
      obtain rfl : y_53 = (nI (g_43 + 1)) := ey_53.trans (nI_add g_43 1)
      refine va_put (D := (dC, dI)) (ci := 4) (v := .int (nI (g_43 + 1))) (ty := .int) (C := RX4) (T := TX4) (N := 12) hx hb hts hiX4 tyX4 tyX4_ok nmX4 hown hK hP hD hS 0 rfl rfl 4 (by decide) v_1 (fun _ h9 => h9) rfl (by decide +kernel) rfl rfl (Nat.le_of_ble_eq_true rfl) eX4_advance_46 (fun H locs hP hD hS => ?_)
      have hP : va_P (dC, dI) vwCl (rd__w rd fa fat tp (nI len) (nI (g_43 + 1)) (nI kd) vl tka au rw rc rp k_ft ft k_fw fw k_fcn fcn k_fpn fpn) H := hP
      have hD : va_D A (rd__w rd fa fat tp (nI len) (nI (g_43 + 1)) (nI kd) vl tka au rw rc rp k_ft ft k_fw fw k_fcn fcn k_fpn fpn) := hD
      refine lv_goto (tgt := 0) hx hb eX4_advance_49 (by decide) ?_
      exact ih_44 (900 - (g_43 + 1)) (by omega) _ _ _ ⟨(g_43 + 1), rfl, (by omega), hin_48 _ hsp, hP, hD, hS, lv_sub hl [0] rfl⟩
    · have hcc_52 := c_52
      have hsp := hsp.trans (if_neg c_52)
      refine lv_aload_n hx hb eX4_advance_25 rfl (lv_at hl 0 rfl) ?_
      refine va_get (D := (dC, dI)) (ci := 4) (v := .ref tp) (C := RX4) (T := TX4) (N := 12) hx hb hts hiX4 hown hK hP 0 rfl rfl 2 (by decide) v_3 (fun _ h9 => h9) rfl eX4_advance_26 ?_
      refine lv_aload_n hx hb eX4_advance_29 rfl (lv_at hl 0 rfl) ?_
      refine va_get (D := (dC, dI)) (ci := 4) (v := .int (nI g_43)) (C := RX4) (T := TX4) (N := 12) hx hb hts hiX4 hown hK hP 0 rfl rfl 4 (by decide) v_1 (fun _ h9 => h9) rfl eX4_advance_30 ?_
      refine va_iald hx hb hK hP 1 0 rfl rfl (vp_in_nI (n := g_43) (by omega) (Nat.le_of_ble_eq_true rfl)) eX4_advance_33 ?_
      refine lv_topi (fun y_54 ey_54 => ?_)
      have ey_54 : y_54 = ft g_43 := ey_54.trans (congrArg ft (nI_clamp (n := g_43) (Nat.lt_of_le_of_lt hg_43 (Nat.le_of_ble_eq_true rfl))))
      have hsp := hsp.trans (slet_eq ey_54)
      refine lv_bipush (v := 10) hx hb eX4_advance_34 (by decide) ?_
      refine lv_icmp_ne (tgt := 52) hx hb eX4_advance_36 (by decide) (fun c_55 => ?_) (fun c_55 => ?_)
      · have hcc_55 := c_55
        have hsp := hsp.trans (if_neg c_55)
        have hsp := hout_49 _ hsp
        exact j_2 _ _ _ _ ⟨g_43, rfl, hg_43, hsp.symm, hP, hD, hS, lv_sub hl [0] rfl⟩
      · have hcc_55 := c_55
        have hsp := hsp.trans (if_pos c_55)
        refine lv_aload_n hx hb eX4_advance_39 rfl (lv_at hl 0 rfl) ?_
        refine lv_dup hx hb eX4_advance_40 rfl ?_
        refine va_get (D := (dC, dI)) (ci := 4) (v := .int (nI g_43)) (C := RX4) (T := TX4) (N := 12) hx hb hts hiX4 hown hK hP 0 rfl rfl 4 (by decide) v_1 (fun _ h9 => h9) rfl eX4_advance_41 ?_
        refine lv_iconst (v := 1) hx hb eX4_advance_44 (by decide) ?_
        refine lv_iadd hx hb eX4_advance_45 ?_
        refine lv_topi (fun y_56 ey_56 => ?_)
        obtain rfl : y_56 = (nI (g_43 + 1)) := ey_56.trans (nI_add g_43 1)
        refine va_put (D := (dC, dI)) (ci := 4) (v := .int (nI (g_43 + 1))) (ty := .int) (C := RX4) (T := TX4) (N := 12) hx hb hts hiX4 tyX4 tyX4_ok nmX4 hown hK hP hD hS 0 rfl rfl 4 (by decide) v_1 (fun _ h9 => h9) rfl (by decide +kernel) rfl rfl (Nat.le_of_ble_eq_true rfl) eX4_advance_46 (fun H locs hP hD hS => ?_)
        have hP : va_P (dC, dI) vwCl (rd__w rd fa fat tp (nI len) (nI (g_43 + 1)) (nI kd) vl tka au rw rc rp k_ft ft k_fw fw k_fcn fcn k_fpn fpn) H := hP
        have hD : va_D A (rd__w rd fa fat tp (nI len) (nI (g_43 + 1)) (nI kd) vl tka au rw rc rp k_ft ft k_fw fw k_fcn fcn k_fpn fpn) := hD
        refine lv_goto (tgt := 0) hx hb eX4_advance_49 (by decide) ?_
        exact ih_44 (900 - (g_43 + 1)) (by omega) _ _ _ ⟨(g_43 + 1), rfl, (by omega), hin_48 _ hsp, hP, hD, hS, lv_sub hl [0] rfl⟩
