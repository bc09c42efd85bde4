abbrev vs_E_8_putBytes : List Cond := .code yX8_putBytes cX8_putBytes 3 none :: CM
noncomputable def sp_E_8_putBytes (tp : Nat) (ft : Nat → Int32) (p0 : Int32) : (Nat → Int32) := (slet ((p0 : Int32) >>> ((24 : Int32) &&& 31)) (fun y_2 => (slet ((y_2 : Int32) &&& (255 : Int32)) (fun y_3 => (slet (upd ft tp y_3) (fun f_4 => (slet ((p0 : Int32) >>> ((16 : Int32) &&& 31)) (fun y_7 => (slet ((y_7 : Int32) &&& (255 : Int32)) (fun y_8 => (slet (upd f_4 (tp + 1) y_8) (fun f_9 => (slet ((p0 : Int32) >>> ((8 : Int32) &&& 31)) (fun y_12 => (slet ((y_12 : Int32) &&& (255 : Int32)) (fun y_13 => (slet (upd f_9 ((tp + 1) + 1) y_13) (fun f_14 => (slet ((p0 : Int32) >>> ((0 : Int32) &&& 31)) (fun y_17 => (slet ((y_17 : Int32) &&& (255 : Int32)) (fun y_18 => (slet (upd f_14 (((tp + 1) + 1) + 1) y_18) (fun f_19 => f_19))))))))))))))))))))))))
set_option maxHeartbeats 4000000 in
set_option maxRecDepth 100000 in
theorem c_E_8_putBytes (l : Launch) (dC : Nat → ClassId) (dI : Nat → Nat → Nat) (sz : Nat) (xa : Nat) (xtape : Nat) (tp : Nat) (rd : Nat) (au : Nat) (xdr : Nat) (hy : Nat) (g : Nat) (hs : Nat) (tg : Nat) (sg : Nat) (ss : Nat) (rm : Nat) (ti : Nat) (py : Nat) (bu : Nat) (sm : Nat) (k_ft : ClassId) (ft : Nat → Int32) (p0 : Int32) (htp : tp ≤ 896) (hhs : hs ≤ 1) (hss : ss ≤ 1) : Met l yX8_putBytes vs_E_8_putBytes ({ frames := 0, cells := 0, slots := 0, locals := 0 }) (va_Pc [.ref xa, .int p0] (pu_B (dC, dI) (xt__w xa xtape (nI tp) rd au xdr hy g (nI hs) tg sg (nI ss) rm ti py bu sm k_ft ft) (xt__t k_ft) sz)) (va_Qv (fun (_ : Unit) => True) (fun _ t => ∃ (z_ft : Nat → Int32), pu_E (dC, dI) (xt__w xa xtape (nI (tp + 4)) rd au xdr hy g (nI hs) tg sg (nI ss) rm ti py bu sm k_ft z_ft) (xt__t k_ft) (va_A ((xt__w xa xtape (nI tp) rd au xdr hy g (nI hs) tg sg (nI ss) rm ti py bu sm k_ft ft)) sz) t ∧ (z_ft = (sp_E_8_putBytes tp ft p0))) (va_A ((xt__w xa xtape (nI tp) rd au xdr hy g (nI hs) tg sg (nI ss) rm ti py bu sm k_ft ft)) sz)) 0 0 (va_A ((xt__w xa xtape (nI tp) rd au xdr hy g (nI hs) tg sg (nI ss) rm ti py bu sm k_ft ft)) sz) := by
  refine Met.ofW (cc := cX8_putBytes) (maxL := 3) (ret := none) (by decide) rfl ?_
  intro p e s m args below meth c s₁ B hml hv
  obtain ⟨rfl, rfl, hP, hK, hD0⟩ := hv
  have hx := B.exec
  have hb := B.bytes
  have hr := B.returns
  have hts := atoms_spec (ws := vs_E_8_putBytes) B.pre
  have v_1 := hts (.fieldLink RX8 79 "ClockReach" "taped" "I") (List.mem_cons_of_mem _ cm_423)
  have v_2 := hts (.fieldLink RX8 9 "ClockReach" "tape" "[I") (List.mem_cons_of_mem _ cm_429)
  have hown : s.vm.findClass RX8 = some m.cls := findClass_of_methodNamed B.named
  have hlocks := B.notSynchronized
  have hiX8 : ∀ w ∈ wsX80, w ∈ vs_E_8_putBytes := fun _ h => List.mem_cons_of_mem _ (cm_X8 h)
  have hD := hD0.self (sz := s.heap.size)
  generalize hAe : va_A ((xt__w xa xtape (nI tp) rd au xdr hy g (nI hs) tg sg (nI ss) rm ti py bu sm k_ft ft)) s.heap.size = A at hD ⊢
  have hA : ∀ q : Nat, s.heap.size ≤ q → A q := fun q h => by rw [← hAe]; exact Or.inr h
  have hS : va_S A s.heap s.heap [] := va_S.rf
  have hl := lv_entry ([.ref xa, .int p0]) (n := 3) (Nat.le_of_ble_eq_true rfl)
  rw [lg_entry_eq]
  generalize (lg_sl ([.ref xa, .int p0]) ++ List.replicate (3 - (lg_sl ([.ref xa, .int p0])).length) Slot.unset).toArray = ls at hl ⊢
  have hl : lv_has ls 3 [(0, .ref xa), (1, .int p0)] := hl
  obtain ⟨RR, hRR⟩ : ∃ x, x = (sp_E_8_putBytes tp ft p0) := ⟨_, rfl⟩
  have hsp := hRR
  refine lv_bipush (v := 24) hx hb eX8_putBytes_0 (by decide) ?_
  refine lv_istore_n (lv' := [(2, .int 24), (0, .ref xa), (1, .int p0)]) hx hb eX8_putBytes_2 rfl hl (by decide) rfl (fun ls hl => ?_)
  refine lv_iload_n hx hb eX8_putBytes_3 rfl (lv_at hl 0 rfl) ?_
  refine lv_if_lt (tgt := 49) hx hb eX8_putBytes_4 (by decide) (fun z => absurd z (by decide)) (fun _ => ?_)
  refine lv_aload_n hx hb eX8_putBytes_7 rfl (lv_at hl 1 rfl) ?_
  refine va_get (D := (dC, dI)) (ci := 8) (v := .int (nI tp)) (C := RX8) (T := TX8) (N := 16) hx hb hts hiX8 hown hK hP 0 rfl rfl 1 (by decide) v_1 (fun _ h9 => h9) rfl eX8_putBytes_8 ?_
  refine lv_sipush (v := 900) hx hb eX8_putBytes_11 (by decide) ?_
  refine lv_icmp_ge (tgt := 49) hx hb eX8_putBytes_14 (by decide) (fun c_1 => ?_) (fun c_1 => ?_)
  · have c_1 : 900 ≤ tp := (nI_leI (a := 900) (b := tp) (Nat.le_of_ble_eq_true rfl) (Nat.lt_of_le_of_lt htp (Nat.le_of_ble_eq_true rfl))).mp c_1
    exfalso
    omega
  · have c_1 : ¬ 900 ≤ tp := fun z => c_1 ((nI_leI (a := 900) (b := tp) (Nat.le_of_ble_eq_true rfl) (Nat.lt_of_le_of_lt htp (Nat.le_of_ble_eq_true rfl))).mpr z)
    refine lv_aload_n hx hb eX8_putBytes_17 rfl (lv_at hl 1 rfl) ?_
    refine va_get (D := (dC, dI)) (ci := 8) (v := .ref xtape) (C := RX8) (T := TX8) (N := 16) hx hb hts hiX8 hown hK hP 0 rfl rfl 0 (by decide) v_2 (fun _ h9 => h9) rfl eX8_putBytes_18 ?_
    refine lv_aload_n hx hb eX8_putBytes_21 rfl (lv_at hl 1 rfl) ?_
    refine va_get (D := (dC, dI)) (ci := 8) (v := .int (nI tp)) (C := RX8) (T := TX8) (N := 16) hx hb hts hiX8 hown hK hP 0 rfl rfl 1 (by decide) v_1 (fun _ h9 => h9) rfl eX8_putBytes_22 ?_
    refine lv_iload_n hx hb eX8_putBytes_25 rfl (lv_at hl 2 rfl) ?_
    refine lv_iload_n hx hb eX8_putBytes_26 rfl (lv_at hl 0 rfl) ?_
    refine lv_ishr hx hb eX8_putBytes_27 ?_
    refine lv_topi (fun y_2 ey_2 => ?_)
    have hsp := hsp.trans (slet_eq ey_2)
    refine lv_sipush (v := 255) hx hb eX8_putBytes_28 (by decide) ?_
    refine lv_iand hx hb eX8_putBytes_31 ?_
    refine lv_topi (fun y_3 ey_3 => ?_)
    have hsp := hsp.trans (slet_eq ey_3)
    refine va_iast hx hb hK hP hD hS 1 0 rfl rfl (vp_in_nI (n := tp) (Nat.lt_of_le_of_lt htp (Nat.le_of_ble_eq_true rfl)) (Nat.le_of_ble_eq_true rfl)) eX8_putBytes_32 (fun H locs hP hD hS => ?_)
    obtain ⟨f_4, ef_4, xf_4⟩ := up_x ft (n := tp) y_3 (Nat.lt_of_le_of_lt htp (Nat.le_of_ble_eq_true rfl))
    have hP : va_P (dC, dI) vwCl (xt__w xa xtape (nI tp) rd au xdr hy g (nI hs) tg sg (nI ss) rm ti py bu sm k_ft f_4) H := by rw [← ef_4]; exact hP
    have hD : va_D A (xt__w xa xtape (nI tp) rd au xdr hy g (nI hs) tg sg (nI ss) rm ti py bu sm k_ft f_4) := by rw [← ef_4]; exact hD
    have hsp := hsp.trans (slet_eq xf_4)
    refine lv_aload_n hx hb eX8_putBytes_33 rfl (lv_at hl 1 rfl) ?_
    refine lv_dup hx hb eX8_putBytes_34 rfl ?_
    refine va_get (D := (dC, dI)) (ci := 8) (v := .int (nI tp)) (C := RX8) (T := TX8) (N := 16) hx hb hts hiX8 hown hK hP 0 rfl rfl 1 (by decide) v_1 (fun _ h9 => h9) rfl eX8_putBytes_35 ?_
    refine lv_iconst (v := 1) hx hb eX8_putBytes_38 (by decide) ?_
    refine lv_iadd hx hb eX8_putBytes_39 ?_
    refine lv_topi (fun y_5 ey_5 => ?_)
    obtain rfl : y_5 = (nI (tp + 1)) := ey_5.trans (nI_add tp 1)
    refine va_put (D := (dC, dI)) (ci := 8) (v := .int (nI (tp + 1))) (ty := .int) (C := RX8) (T := TX8) (N := 16) hx hb hts hiX8 tyX8 tyX8_ok nmX8 hown hK hP hD hS 0 rfl rfl 1 (by decide) v_1 (fun _ h9 => h9) rfl (by decide +kernel) rfl rfl (Nat.le_of_ble_eq_true rfl) eX8_putBytes_40 (fun H locs hP hD hS => ?_)
    have hP : va_P (dC, dI) vwCl (xt__w xa xtape (nI (tp + 1)) rd au xdr hy g (nI hs) tg sg (nI ss) rm ti py bu sm k_ft f_4) H := hP
    have hD : va_D A (xt__w xa xtape (nI (tp + 1)) rd au xdr hy g (nI hs) tg sg (nI ss) rm ti py bu sm k_ft f_4) := hD
    refine lv_iinc (v := 16) (lv' := [(2, .int 16), (0, .ref xa), (1, .int p0)]) hx hb eX8_putBytes_43 hl (k := 0) rfl (by decide) (by decide) rfl (fun ls hl => ?_)
    refine lv_goto (tgt := 3) hx hb eX8_putBytes_46 (by decide) ?_
    refine lv_iload_n hx hb eX8_putBytes_3 rfl (lv_at hl 0 rfl) ?_
    refine lv_if_lt (tgt := 49) hx hb eX8_putBytes_4 (by decide) (fun z => absurd z (by decide)) (fun _ => ?_)
    refine lv_aload_n hx hb eX8_putBytes_7 rfl (lv_at hl 1 rfl) ?_
    refine va_get (D := (dC, dI)) (ci := 8) (v := .int (nI (tp + 1))) (C := RX8) (T := TX8) (N := 16) hx hb hts hiX8 hown hK hP 0 rfl rfl 1 (by decide) v_1 (fun _ h9 => h9) rfl eX8_putBytes_8 ?_
    refine lv_sipush (v := 900) hx hb eX8_putBytes_11 (by decide) ?_
    refine lv_icmp_ge (tgt := 49) hx hb eX8_putBytes_14 (by decide) (fun c_6 => ?_) (fun c_6 => ?_)
    · have c_6 : 900 ≤ (tp + 1) := (nI_leI (a := 900) (b := (tp + 1)) (Nat.le_of_ble_eq_true rfl) (by omega)).mp c_6
      exfalso
      omega
    · have c_6 : ¬ 900 ≤ (tp + 1) := fun z => c_6 ((nI_leI (a := 900) (b := (tp + 1)) (Nat.le_of_ble_eq_true rfl) (by omega)).mpr z)
      refine lv_aload_n hx hb eX8_putBytes_17 rfl (lv_at hl 1 rfl) ?_
      refine va_get (D := (dC, dI)) (ci := 8) (v := .ref xtape) (C := RX8) (T := TX8) (N := 16) hx hb hts hiX8 hown hK hP 0 rfl rfl 0 (by decide) v_2 (fun _ h9 => h9) rfl eX8_putBytes_18 ?_
      refine lv_aload_n hx hb eX8_putBytes_21 rfl (lv_at hl 1 rfl) ?_
      refine va_get (D := (dC, dI)) (ci := 8) (v := .int (nI (tp + 1))) (C := RX8) (T := TX8) (N := 16) hx hb hts hiX8 hown hK hP 0 rfl rfl 1 (by decide) v_1 (fun _ h9 => h9) rfl eX8_putBytes_22 ?_
      refine lv_iload_n hx hb eX8_putBytes_25 rfl (lv_at hl 2 rfl) ?_
      refine lv_iload_n hx hb eX8_putBytes_26 rfl (lv_at hl 0 rfl) ?_
      refine lv_ishr hx hb eX8_putBytes_27 ?_
      refine lv_topi (fun y_7 ey_7 => ?_)
      have hsp := hsp.trans (slet_eq ey_7)
      refine lv_sipush (v := 255) hx hb eX8_putBytes_28 (by decide) ?_
      refine lv_iand hx hb eX8_putBytes_31 ?_
      refine lv_topi (fun y_8 ey_8 => ?_)
      have hsp := hsp.trans (slet_eq ey_8)
      refine va_iast hx hb hK hP hD hS 1 0 rfl rfl (vp_in_nI (n := (tp + 1)) (by omega) (Nat.le_of_ble_eq_true rfl)) eX8_putBytes_32 (fun H locs hP hD hS => ?_)
      obtain ⟨f_9, ef_9, xf_9⟩ := up_x f_4 (n := (tp + 1)) y_8 (by omega)
      have hP : va_P (dC, dI) vwCl (xt__w xa xtape (nI (tp + 1)) rd au xdr hy g (nI hs) tg sg (nI ss) rm ti py bu sm k_ft f_9) H := by rw [← ef_9]; exact hP
      have hD : va_D A (xt__w xa xtape (nI (tp + 1)) rd au xdr hy g (nI hs) tg sg (nI ss) rm ti py bu sm k_ft f_9) := by rw [← ef_9]; exact hD
      have hsp := hsp.trans (slet_eq xf_9)
      refine lv_aload_n hx hb eX8_putBytes_33 rfl (lv_at hl 1 rfl) ?_
      refine lv_dup hx hb eX8_putBytes_34 rfl ?_
      refine va_get (D := (dC, dI)) (ci := 8) (v := .int (nI (tp + 1))) (C := RX8) (T := TX8) (N := 16) hx hb hts hiX8 hown hK hP 0 rfl rfl 1 (by decide) v_1 (fun _ h9 => h9) rfl eX8_putBytes_35 ?_
      refine lv_iconst (v := 1) hx hb eX8_putBytes_38 (by decide) ?_
      refine lv_iadd hx hb eX8_putBytes_39 ?_
      refine lv_topi (fun y_10 ey_10 => ?_)
      obtain rfl : y_10 = (nI ((tp + 1) + 1)) := ey_10.trans (nI_add (tp + 1) 1)
      refine va_put (D := (dC, dI)) (ci := 8) (v := .int (nI ((tp + 1) + 1))) (ty := .int) (C := RX8) (T := TX8) (N := 16) hx hb hts hiX8 tyX8 tyX8_ok nmX8 hown hK hP hD hS 0 rfl rfl 1 (by decide) v_1 (fun _ h9 => h9) rfl (by decide +kernel) rfl rfl (Nat.le_of_ble_eq_true rfl) eX8_putBytes_40 (fun H locs hP hD hS => ?_)
      have hP : va_P (dC, dI) vwCl (xt__w xa xtape (nI ((tp + 1) + 1)) rd au xdr hy g (nI hs) tg sg (nI ss) rm ti py bu sm k_ft f_9) H := hP
      have hD : va_D A (xt__w xa xtape (nI ((tp + 1) + 1)) rd au xdr hy g (nI hs) tg sg (nI ss) rm ti py bu sm k_ft f_9) := hD
      refine lv_iinc (v := 8) (lv' := [(2, .int 8), (0, .ref xa), (1, .int p0)]) hx hb eX8_putBytes_43 hl (k := 0) rfl (by decide) (by decide) rfl (fun ls hl => ?_)
      refine lv_goto (tgt := 3) hx hb eX8_putBytes_46 (by decide) ?_
      refine lv_iload_n hx hb eX8_putBytes_3 rfl (lv_at hl 0 rfl) ?_
      refine lv_if_lt (tgt := 49) hx hb eX8_putBytes_4 (by decide) (fun z => absurd z (by decide)) (fun _ => ?_)
      refine lv_aload_n hx hb eX8_putBytes_7 rfl (lv_at hl 1 rfl) ?_
      refine va_get (D := (dC, dI)) (ci := 8) (v := .int (nI ((tp + 1) + 1))) (C := RX8) (T := TX8) (N := 16) hx hb hts hiX8 hown hK hP 0 rfl rfl 1 (by decide) v_1 (fun _ h9 => h9) rfl eX8_putBytes_8 ?_
      refine lv_sipush (v := 900) hx hb eX8_putBytes_11 (by decide) ?_
      refine lv_icmp_ge (tgt := 49) hx hb eX8_putBytes_14 (by decide) (fun c_11 => ?_) (fun c_11 => ?_)
      · have c_11 : 900 ≤ ((tp + 1) + 1) := (nI_leI (a := 900) (b := ((tp + 1) + 1)) (Nat.le_of_ble_eq_true rfl) (by omega)).mp c_11
        exfalso
        omega
      · have c_11 : ¬ 900 ≤ ((tp + 1) + 1) := fun z => c_11 ((nI_leI (a := 900) (b := ((tp + 1) + 1)) (Nat.le_of_ble_eq_true rfl) (by omega)).mpr z)
        refine lv_aload_n hx hb eX8_putBytes_17 rfl (lv_at hl 1 rfl) ?_
        refine va_get (D := (dC, dI)) (ci := 8) (v := .ref xtape) (C := RX8) (T := TX8) (N := 16) hx hb hts hiX8 hown hK hP 0 rfl rfl 0 (by decide) v_2 (fun _ h9 => h9) rfl eX8_putBytes_18 ?_
        refine lv_aload_n hx hb eX8_putBytes_21 rfl (lv_at hl 1 rfl) ?_
        refine va_get (D := (dC, dI)) (ci := 8) (v := .int (nI ((tp + 1) + 1))) (C := RX8) (T := TX8) (N := 16) hx hb hts hiX8 hown hK hP 0 rfl rfl 1 (by decide) v_1 (fun _ h9 => h9) rfl eX8_putBytes_22 ?_
        refine lv_iload_n hx hb eX8_putBytes_25 rfl (lv_at hl 2 rfl) ?_
        refine lv_iload_n hx hb eX8_putBytes_26 rfl (lv_at hl 0 rfl) ?_
        refine lv_ishr hx hb eX8_putBytes_27 ?_
        refine lv_topi (fun y_12 ey_12 => ?_)
        have hsp := hsp.trans (slet_eq ey_12)
        refine lv_sipush (v := 255) hx hb eX8_putBytes_28 (by decide) ?_
        refine lv_iand hx hb eX8_putBytes_31 ?_
        refine lv_topi (fun y_13 ey_13 => ?_)
        have hsp := hsp.trans (slet_eq ey_13)
        refine va_iast hx hb hK hP hD hS 1 0 rfl rfl (vp_in_nI (n := ((tp + 1) + 1)) (by omega) (Nat.le_of_ble_eq_true rfl)) eX8_putBytes_32 (fun H locs hP hD hS => ?_)
        obtain ⟨f_14, ef_14, xf_14⟩ := up_x f_9 (n := ((tp + 1) + 1)) y_13 (by omega)
        have hP : va_P (dC, dI) vwCl (xt__w xa xtape (nI ((tp + 1) + 1)) rd au xdr hy g (nI hs) tg sg (nI ss) rm ti py bu sm k_ft f_14) H := by rw [← ef_14]; exact hP
        have hD : va_D A (xt__w xa xtape (nI ((tp + 1) + 1)) rd au xdr hy g (nI hs) tg sg (nI ss) rm ti py bu sm k_ft f_14) := by rw [← ef_14]; exact hD
        have hsp := hsp.trans (slet_eq xf_14)
        refine lv_aload_n hx hb eX8_putBytes_33 rfl (lv_at hl 1 rfl) ?_
        refine lv_dup hx hb eX8_putBytes_34 rfl ?_
        refine va_get (D := (dC, dI)) (ci := 8) (v := .int (nI ((tp + 1) + 1))) (C := RX8) (T := TX8) (N := 16) hx hb hts hiX8 hown hK hP 0 rfl rfl 1 (by decide) v_1 (fun _ h9 => h9) rfl eX8_putBytes_35 ?_
        refine lv_iconst (v := 1) hx hb eX8_putBytes_38 (by decide) ?_
        refine lv_iadd hx hb eX8_putBytes_39 ?_
        refine lv_topi (fun y_15 ey_15 => ?_)
        obtain rfl : y_15 = (nI (((tp + 1) + 1) + 1)) := ey_15.trans (nI_add ((tp + 1) + 1) 1)
        refine va_put (D := (dC, dI)) (ci := 8) (v := .int (nI (((tp + 1) + 1) + 1))) (ty := .int) (C := RX8) (T := TX8) (N := 16) hx hb hts hiX8 tyX8 tyX8_ok nmX8 hown hK hP hD hS 0 rfl rfl 1 (by decide) v_1 (fun _ h9 => h9) rfl (by decide +kernel) rfl rfl (Nat.le_of_ble_eq_true rfl) eX8_putBytes_40 (fun H locs hP hD hS => ?_)
        have hP : va_P (dC, dI) vwCl (xt__w xa xtape (nI (((tp + 1) + 1) + 1)) rd au xdr hy g (nI hs) tg sg (nI ss) rm ti py bu sm k_ft f_14) H := hP
        have hD : va_D A (xt__w xa xtape (nI (((tp + 1) + 1) + 1)) rd au xdr hy g (nI hs) tg sg (nI ss) rm ti py bu sm k_ft f_14) := hD
        refine lv_iinc (v := 0) (lv' := [(2, .int 0), (0, .ref xa), (1, .int p0)]) hx hb eX8_putBytes_43 hl (k := 0) rfl (by decide) (by decide) rfl (fun ls hl => ?_)
        refine lv_goto (tgt := 3) hx hb eX8_putBytes_46 (by decide) ?_
        refine lv_iload_n hx hb eX8_putBytes_3 rfl (lv_at hl 0 rfl) ?_
        refine lv_if_lt (tgt := 49) hx hb eX8_putBytes_4 (by decide) (fun z => absurd z (by decide)) (fun _ => ?_)
        refine lv_aload_n hx hb eX8_putBytes_7 rfl (lv_at hl 1 rfl) ?_
        refine va_get (D := (dC, dI)) (ci := 8) (v := .int (nI (((tp + 1) + 1) + 1))) (C := RX8) (T := TX8) (N := 16) hx hb hts hiX8 hown hK hP 0 rfl rfl 1 (by decide) v_1 (fun _ h9 => h9) rfl eX8_putBytes_8 ?_
        refine lv_sipush (v := 900) hx hb eX8_putBytes_11 (by decide) ?_
        refine lv_icmp_ge (tgt := 49) hx hb eX8_putBytes_14 (by decide) (fun c_16 => ?_) (fun c_16 => ?_)
        · have c_16 : 900 ≤ (((tp + 1) + 1) + 1) := (nI_leI (a := 900) (b := (((tp + 1) + 1) + 1)) (Nat.le_of_ble_eq_true rfl) (by omega)).mp c_16
          exfalso
          omega
        · have c_16 : ¬ 900 ≤ (((tp + 1) + 1) + 1) := fun z => c_16 ((nI_leI (a := 900) (b := (((tp + 1) + 1) + 1)) (Nat.le_of_ble_eq_true rfl) (by omega)).mpr z)
          refine lv_aload_n hx hb eX8_putBytes_17 rfl (lv_at hl 1 rfl) ?_
          refine va_get (D := (dC, dI)) (ci := 8) (v := .ref xtape) (C := RX8) (T := TX8) (N := 16) hx hb hts hiX8 hown hK hP 0 rfl rfl 0 (by decide) v_2 (fun _ h9 => h9) rfl eX8_putBytes_18 ?_
          refine lv_aload_n hx hb eX8_putBytes_21 rfl (lv_at hl 1 rfl) ?_
          refine va_get (D := (dC, dI)) (ci := 8) (v := .int (nI (((tp + 1) + 1) + 1))) (C := RX8) (T := TX8) (N := 16) hx hb hts hiX8 hown hK hP 0 rfl rfl 1 (by decide) v_1 (fun _ h9 => h9) rfl eX8_putBytes_22 ?_
          refine lv_iload_n hx hb eX8_putBytes_25 rfl (lv_at hl 2 rfl) ?_
          refine lv_iload_n hx hb eX8_putBytes_26 rfl (lv_at hl 0 rfl) ?_
          refine lv_ishr hx hb eX8_putBytes_27 ?_
          refine lv_topi (fun y_17 ey_17 => ?_)
          have hsp := hsp.trans (slet_eq ey_17)
          refine lv_sipush (v := 255) hx hb eX8_putBytes_28 (by decide) ?_
          refine lv_iand hx hb eX8_putBytes_31 ?_
          refine lv_topi (fun y_18 ey_18 => ?_)
          have hsp := hsp.trans (slet_eq ey_18)
          refine va_iast hx hb hK hP hD hS 1 0 rfl rfl (vp_in_nI (n := (((tp + 1) + 1) + 1)) (by omega) (Nat.le_of_ble_eq_true rfl)) eX8_putBytes_32 (fun H locs hP hD hS => ?_)
          obtain ⟨f_19, ef_19, xf_19⟩ := up_x f_14 (n := (((tp + 1) + 1) + 1)) y_18 (by omega)
          have hP : va_P (dC, dI) vwCl (xt__w xa xtape (nI (((tp + 1) + 1) + 1)) rd au xdr hy g (nI hs) tg sg (nI ss) rm ti py bu sm k_ft f_19) H := by rw [← ef_19]; exact hP
          have hD : va_D A (xt__w xa xtape (nI (((tp + 1) + 1) + 1)) rd au xdr hy g (nI hs) tg sg (nI ss) rm ti py bu sm k_ft f_19) := by rw [← ef_19]; exact hD
          have hsp := hsp.trans (slet_eq xf_19)
          refine lv_aload_n hx hb eX8_putBytes_33 rfl (lv_at hl 1 rfl) ?_
          refine lv_dup hx hb eX8_putBytes_34 rfl ?_
          refine va_get (D := (dC, dI)) (ci := 8) (v := .int (nI (((tp + 1) + 1) + 1))) (C := RX8) (T := TX8) (N := 16) hx hb hts hiX8 hown hK hP 0 rfl rfl 1 (by decide) v_1 (fun _ h9 => h9) rfl eX8_putBytes_35 ?_
          refine lv_iconst (v := 1) hx hb eX8_putBytes_38 (by decide) ?_
          refine lv_iadd hx hb eX8_putBytes_39 ?_
          refine lv_topi (fun y_20 ey_20 => ?_)
          obtain rfl : y_20 = (nI ((((tp + 1) + 1) + 1) + 1)) := ey_20.trans (nI_add (((tp + 1) + 1) + 1) 1)
          refine va_put (D := (dC, dI)) (ci := 8) (v := .int (nI ((((tp + 1) + 1) + 1) + 1))) (ty := .int) (C := RX8) (T := TX8) (N := 16) hx hb hts hiX8 tyX8 tyX8_ok nmX8 hown hK hP hD hS 0 rfl rfl 1 (by decide) v_1 (fun _ h9 => h9) rfl (by decide +kernel) rfl rfl (Nat.le_of_ble_eq_true rfl) eX8_putBytes_40 (fun H locs hP hD hS => ?_)
          have hP : va_P (dC, dI) vwCl (xt__w xa xtape (nI ((((tp + 1) + 1) + 1) + 1)) rd au xdr hy g (nI hs) tg sg (nI ss) rm ti py bu sm k_ft f_19) H := hP
          have hD : va_D A (xt__w xa xtape (nI ((((tp + 1) + 1) + 1) + 1)) rd au xdr hy g (nI hs) tg sg (nI ss) rm ti py bu sm k_ft f_19) := hD
          refine lv_iinc (v := (-8)) (lv' := [(2, .int (-8)), (0, .ref xa), (1, .int p0)]) hx hb eX8_putBytes_43 hl (k := 0) rfl (by decide) (by decide) rfl (fun ls hl => ?_)
          refine lv_goto (tgt := 3) hx hb eX8_putBytes_46 (by decide) ?_
          refine lv_iload_n hx hb eX8_putBytes_3 rfl (lv_at hl 0 rfl) ?_
          refine lv_if_lt (tgt := 49) hx hb eX8_putBytes_4 (by decide) (fun _ => ?_) (fun z => absurd z (by decide))
          exact W.vret hx hb hr (fun t ht hW => ⟨⟨(), rfl, trivial, ⟨f_19, ⟨by rw [ht]; exact hP, va_K.moved hW.alike hK, hD⟩, (hsp.symm.trans hRR)⟩⟩, hS.F ht⟩) hS.2.2 eX8_putBytes_49
abbrev vs_E_8_feed : List Cond := .code yX8_feed cX8_feed 6 (some .int) :: CM
theorem g_E_8_feed_E_8_putBytes : GoodIn vs_E_8_feed (wsV RX8 83 RX8 yX8_putBytes vs_E_8_putBytes) := cm_gV cm_424 cm_425 cm_426 cm_427 cm_428
noncomputable def sp_E_8_feed (tp : Nat) (ft : Nat → Int32) (p0 : Int32) (p1 : Int32) (p2 : Int32) (p3 : Int32) (p4 : Int32) : (Nat → Int32) × Nat := (if (tp + 20) ≤ 900 then (slet (sp_E_8_putBytes tp ft p0) (fun z_ft_4 => (slet (sp_E_8_putBytes (tp + 4) z_ft_4 p1) (fun z_ft_6 => (slet (sp_E_8_putBytes ((tp + 4) + 4) z_ft_6 p2) (fun z_ft_8 => (slet (sp_E_8_putBytes (((tp + 4) + 4) + 4) z_ft_8 p3) (fun z_ft_10 => (slet (sp_E_8_putBytes ((((tp + 4) + 4) + 4) + 4) z_ft_10 p4) (fun z_ft_12 => (z_ft_12, (((((tp + 4) + 4) + 4) + 4) + 4)))))))))))) else (ft, tp))
set_option maxHeartbeats 4000000 in
set_option maxRecDepth 100000 in
theorem c_E_8_feed (l : Launch) (dC : Nat → ClassId) (dI : Nat → Nat → Nat) (sz : Nat) (xa : Nat) (xtape : Nat) (tp : Nat) (rd : Nat) (au : Nat) (xdr : Nat) (hy : Nat) (g : Nat) (hs : Nat) (tg : Nat) (sg : Nat) (ss : Nat) (rm : Nat) (ti : Nat) (py : Nat) (bu : Nat) (sm : Nat) (k_ft : ClassId) (ft : Nat → Int32) (p0 : Int32) (p1 : Int32) (p2 : Int32) (p3 : Int32) (p4 : Int32) (htp : tp ≤ 900) (hhs : hs ≤ 1) (hss : ss ≤ 1) : Met l yX8_feed vs_E_8_feed ({ frames := 1, cells := 0, slots := 0, locals := 22 }) (va_Pc [.ref xa, .int p0, .int p1, .int p2, .int p3, .int p4] (pu_B (dC, dI) (xt__w xa xtape (nI tp) rd au xdr hy g (nI hs) tg sg (nI ss) rm ti py bu sm k_ft ft) (xt__t k_ft) sz)) (va_Qi (fun (r : Int32) (_ : Unit) => r = (if tp + 20 ≤ 900 then nI (tp + 20) else -1)) (fun _ t => ∃ (z_ft : Nat → Int32) (z_tp : Nat), pu_E (dC, dI) (xt__w xa xtape (nI z_tp) rd au xdr hy g (nI hs) tg sg (nI ss) rm ti py bu sm k_ft z_ft) (xt__t k_ft) (va_A ((xt__w xa xtape (nI tp) rd au xdr hy g (nI hs) tg sg (nI ss) rm ti py bu sm k_ft ft)) sz) t ∧ (z_tp ≤ 900) ∧ (z_tp = (if tp + 20 ≤ 900 then tp + 20 else tp)) ∧ ((z_ft, z_tp) = (sp_E_8_feed tp ft p0 p1 p2 p3 p4))) (va_A ((xt__w xa xtape (nI tp) rd au xdr hy g (nI hs) tg sg (nI ss) rm ti py bu sm k_ft ft)) sz)) 0 0 (va_A ((xt__w xa xtape (nI tp) rd au xdr hy g (nI hs) tg sg (nI ss) rm ti py bu sm k_ft ft)) sz) := by
  refine Met.ofW (cc := cX8_feed) (maxL := 6) (ret := (some .int)) (by decide) rfl ?_
  intro p e s m args below meth c s₁ B hml hv
  obtain ⟨rfl, rfl, hP, hK, hD0⟩ := hv
  have hx := B.exec
  have hb := B.bytes
  have hr := B.returns
  have hts := atoms_spec (ws := vs_E_8_feed) B.pre
  have v_1 := hts (.fieldLink RX8 79 "ClockReach" "taped" "I") (List.mem_cons_of_mem _ cm_423)
  have hown : s.vm.findClass RX8 = some m.cls := findClass_of_methodNamed B.named
  have hlocks := B.notSynchronized
  have hiX8 : ∀ w ∈ wsX80, w ∈ vs_E_8_feed := fun _ h => List.mem_cons_of_mem _ (cm_X8 h)
  have hD := hD0.self (sz := s.heap.size)
  generalize hAe : va_A ((xt__w xa xtape (nI tp) rd au xdr hy g (nI hs) tg sg (nI ss) rm ti py bu sm k_ft ft)) s.heap.size = A at hD ⊢
  have hA : ∀ q : Nat, s.heap.size ≤ q → A q := fun q h => by rw [← hAe]; exact Or.inr h
  have hS : va_S A s.heap s.heap [] := va_S.rf
  have hl := lv_entry ([.ref xa, .int p0, .int p1, .int p2, .int p3, .int p4]) (n := 6) (Nat.le_of_ble_eq_true rfl)
  rw [lg_entry_eq]
  generalize (lg_sl ([.ref xa, .int p0, .int p1, .int p2, .int p3, .int p4]) ++ List.replicate (6 - (lg_sl ([.ref xa, .int p0, .int p1, .int p2, .int p3, .int p4])).length) Slot.unset).toArray = ls at hl ⊢
  have hl : lv_has ls 6 [(0, .ref xa), (1, .int p0), (2, .int p1), (3, .int p2), (4, .int p3), (5, .int p4)] := hl
  obtain ⟨RR, hRR⟩ : ∃ x, x = (sp_E_8_feed tp ft p0 p1 p2 p3 p4) := ⟨_, rfl⟩
  have hsp := hRR
  refine lv_aload_n hx hb eX8_feed_0 rfl (lv_at hl 0 rfl) ?_
  refine va_get (D := (dC, dI)) (ci := 8) (v := .int (nI tp)) (C := RX8) (T := TX8) (N := 16) hx hb hts hiX8 hown hK hP 0 rfl rfl 1 (by decide) v_1 (fun _ h9 => h9) rfl eX8_feed_1 ?_
  refine lv_bipush (v := 20) hx hb eX8_feed_4 (by decide) ?_
  refine lv_iadd hx hb eX8_feed_6 ?_
  refine lv_topi (fun y_1 ey_1 => ?_)
  obtain rfl : y_1 = (nI (tp + 20)) := ey_1.trans (nI_add tp 20)
  refine lv_sipush (v := 900) hx hb eX8_feed_7 (by decide) ?_
  refine lv_icmp_le (tgt := 15) hx hb eX8_feed_10 (by decide) (fun c_2 => ?_) (fun c_2 => ?_)
  · have c_2 : (tp + 20) ≤ 900 := (nI_leI (a := (tp + 20)) (b := 900) (by omega) (Nat.le_of_ble_eq_true rfl)).mp c_2
    have hsp := hsp.trans (if_pos c_2)
    refine lv_aload_n hx hb eX8_feed_15 rfl (lv_at hl 0 rfl) ?_
    refine lv_iload_n hx hb eX8_feed_16 rfl (lv_at hl 1 rfl) ?_
    have hFc := pu_free hD hS hA
    refine va_callv (va_runV (As := [.int p0]) (rest := []) ⟨hx, hb, hml, hown, hts⟩ (c_E_8_putBytes l dC dI _ xa xtape tp rd au xdr hy g hs tg sg ss rm ti py bu sm k_ft ft p0 (by omega) hhs hss) (cwV 1 hts g_E_8_feed_E_8_putBytes rfl rfl rfl (by decide +kernel) ⟨Nat.le_of_ble_eq_true rfl, Nat.le_of_ble_eq_true rfl⟩) ⟨pu_bl, va_recv hK hP (ci := 8) (q0 := 0) rfl rfl, pu_in hP hK hD⟩ rfl rfl hl.1 rfl (lv_room (Nat.le_of_ble_eq_true rfl)) eX8_feed_17 ⟨Nat.le_of_ble_eq_true rfl, Nat.le_of_ble_eq_true rfl⟩) hS (fun q _ h => hFc q h) hFc (fun u t H1 locs ht hvm hw hB hz1 hk1 hS => ?_)
    obtain ⟨z_ft_4, ⟨hP1, -, hD1⟩, xr_3_0⟩ := hB
    rw [ht] at hP1
    have hP := hP1
    have hD := pu_all hFc hD1
    clear hP1 hD1 hFc
    clear hk1 hz1 ht hvm
    generalize H1 = H at hP hS ⊢
    have hsp := hsp.trans (slet_eq xr_3_0)
    refine lv_aload_n hx hb eX8_feed_20 rfl (lv_at hl 0 rfl) ?_
    refine lv_iload_n hx hb eX8_feed_21 rfl (lv_at hl 2 rfl) ?_
    have hFc := pu_free hD hS hA
    refine va_callv (va_runV (As := [.int p1]) (rest := []) ⟨hx, hb, hml, hown, hts⟩ (c_E_8_putBytes l dC dI _ xa xtape (tp + 4) rd au xdr hy g hs tg sg ss rm ti py bu sm k_ft z_ft_4 p1 (by omega) hhs hss) (cwV 1 hts g_E_8_feed_E_8_putBytes rfl rfl rfl (by decide +kernel) ⟨Nat.le_of_ble_eq_true rfl, Nat.le_of_ble_eq_true rfl⟩) ⟨pu_bl, va_recv hK hP (ci := 8) (q0 := 0) rfl rfl, pu_in hP hK hD⟩ rfl rfl hl.1 rfl (lv_room (Nat.le_of_ble_eq_true rfl)) eX8_feed_22 ⟨Nat.le_of_ble_eq_true rfl, Nat.le_of_ble_eq_true rfl⟩) hS (fun q _ h => hFc q h) hFc (fun u t H1 locs ht hvm hw hB hz1 hk1 hS => ?_)
    obtain ⟨z_ft_6, ⟨hP1, -, hD1⟩, xr_5_0⟩ := hB
    rw [ht] at hP1
    have hP := hP1
    have hD := pu_all hFc hD1
    clear hP1 hD1 hFc
    clear hk1 hz1 ht hvm
    generalize H1 = H at hP hS ⊢
    have hsp := hsp.trans (slet_eq xr_5_0)
    refine lv_aload_n hx hb eX8_feed_25 rfl (lv_at hl 0 rfl) ?_
    refine lv_iload_n hx hb eX8_feed_26 rfl (lv_at hl 3 rfl) ?_
    have hFc := pu_free hD hS hA
    refine va_callv (va_runV (As := [.int p2]) (rest := []) ⟨hx, hb, hml, hown, hts⟩ (c_E_8_putBytes l dC dI _ xa xtape ((tp + 4) + 4) rd au xdr hy g hs tg sg ss rm ti py bu sm k_ft z_ft_6 p2 (by omega) hhs hss) (cwV 1 hts g_E_8_feed_E_8_putBytes rfl rfl rfl (by decide +kernel) ⟨Nat.le_of_ble_eq_true rfl, Nat.le_of_ble_eq_true rfl⟩) ⟨pu_bl, va_recv hK hP (ci := 8) (q0 := 0) rfl rfl, pu_in hP hK hD⟩ rfl rfl hl.1 rfl (lv_room (Nat.le_of_ble_eq_true rfl)) eX8_feed_27 ⟨Nat.le_of_ble_eq_true rfl, Nat.le_of_ble_eq_true rfl⟩) hS (fun q _ h => hFc q h) hFc (fun u t H1 locs ht hvm hw hB hz1 hk1 hS => ?_)
    obtain ⟨z_ft_8, ⟨hP1, -, hD1⟩, xr_7_0⟩ := hB
    rw [ht] at hP1
    have hP := hP1
    have hD := pu_all hFc hD1
    clear hP1 hD1 hFc
    clear hk1 hz1 ht hvm
    generalize H1 = H at hP hS ⊢
    have hsp := hsp.trans (slet_eq xr_7_0)
    refine lv_aload_n hx hb eX8_feed_30 rfl (lv_at hl 0 rfl) ?_
    refine lv_iload hx hb eX8_feed_31 (lv_at hl 4 rfl) ?_
    have hFc := pu_free hD hS hA
    refine va_callv (va_runV (As := [.int p3]) (rest := []) ⟨hx, hb, hml, hown, hts⟩ (c_E_8_putBytes l dC dI _ xa xtape (((tp + 4) + 4) + 4) rd au xdr hy g hs tg sg ss rm ti py bu sm k_ft z_ft_8 p3 (by omega) hhs hss) (cwV 1 hts g_E_8_feed_E_8_putBytes rfl rfl rfl (by decide +kernel) ⟨Nat.le_of_ble_eq_true rfl, Nat.le_of_ble_eq_true rfl⟩) ⟨pu_bl, va_recv hK hP (ci := 8) (q0 := 0) rfl rfl, pu_in hP hK hD⟩ rfl rfl hl.1 rfl (lv_room (Nat.le_of_ble_eq_true rfl)) eX8_feed_33 ⟨Nat.le_of_ble_eq_true rfl, Nat.le_of_ble_eq_true rfl⟩) hS (fun q _ h => hFc q h) hFc (fun u t H1 locs ht hvm hw hB hz1 hk1 hS => ?_)
    obtain ⟨z_ft_10, ⟨hP1, -, hD1⟩, xr_9_0⟩ := hB
    rw [ht] at hP1
    have hP := hP1
    have hD := pu_all hFc hD1
    clear hP1 hD1 hFc
    clear hk1 hz1 ht hvm
    generalize H1 = H at hP hS ⊢
    have hsp := hsp.trans (slet_eq xr_9_0)
    refine lv_aload_n hx hb eX8_feed_36 rfl (lv_at hl 0 rfl) ?_
    refine lv_iload hx hb eX8_feed_37 (lv_at hl 5 rfl) ?_
    have hFc := pu_free hD hS hA
    refine va_callv (va_runV (As := [.int p4]) (rest := []) ⟨hx, hb, hml, hown, hts⟩ (c_E_8_putBytes l dC dI _ xa xtape ((((tp + 4) + 4) + 4) + 4) rd au xdr hy g hs tg sg ss rm ti py bu sm k_ft z_ft_10 p4 (by omega) hhs hss) (cwV 1 hts g_E_8_feed_E_8_putBytes rfl rfl rfl (by decide +kernel) ⟨Nat.le_of_ble_eq_true rfl, Nat.le_of_ble_eq_true rfl⟩) ⟨pu_bl, va_recv hK hP (ci := 8) (q0 := 0) rfl rfl, pu_in hP hK hD⟩ rfl rfl hl.1 rfl (lv_room (Nat.le_of_ble_eq_true rfl)) eX8_feed_39 ⟨Nat.le_of_ble_eq_true rfl, Nat.le_of_ble_eq_true rfl⟩) hS (fun q _ h => hFc q h) hFc (fun u t H1 locs ht hvm hw hB hz1 hk1 hS => ?_)
    obtain ⟨z_ft_12, ⟨hP1, -, hD1⟩, xr_11_0⟩ := hB
    rw [ht] at hP1
    have hP := hP1
    have hD := pu_all hFc hD1
    clear hP1 hD1 hFc
    clear hk1 hz1 ht hvm
    generalize H1 = H at hP hS ⊢
    have hsp := hsp.trans (slet_eq xr_11_0)
    refine lv_aload_n hx hb eX8_feed_42 rfl (lv_at hl 0 rfl) ?_
    refine va_get (D := (dC, dI)) (ci := 8) (v := .int (nI (((((tp + 4) + 4) + 4) + 4) + 4))) (C := RX8) (T := TX8) (N := 16) hx hb hts hiX8 hown hK hP 0 rfl rfl 1 (by decide) v_1 (fun _ h9 => h9) rfl eX8_feed_43 ?_
    exact W.iret (v := (nI (((((tp + 4) + 4) + 4) + 4) + 4))) hx hb hr (fun t ht hW => ⟨⟨(nI (((((tp + 4) + 4) + 4) + 4) + 4)), (), rfl, by first | rw [if_pos (by omega)] | rw [if_neg (by omega)], ⟨z_ft_12, (((((tp + 4) + 4) + 4) + 4) + 4), ⟨by rw [ht]; exact hP, va_K.moved hW.alike hK, hD⟩, (by omega), by first | rw [if_pos (by omega)] | rw [if_neg (by omega)], (hsp.symm.trans hRR)⟩⟩, hS.F ht⟩) hS.2.2 eX8_feed_46
  · have c_2 : ¬ (tp + 20) ≤ 900 := fun z => c_2 ((nI_leI (a := (tp + 20)) (b := 900) (by omega) (Nat.le_of_ble_eq_true rfl)).mpr z)
    have hsp := hsp.trans (if_neg c_2)
    refine lv_iconst (v := (-1)) hx hb eX8_feed_13 (by decide) ?_
    exact W.iret (v := (-1)) hx hb hr (fun t ht hW => ⟨⟨(-1), (), rfl, by first | rw [if_pos (by omega)] | rw [if_neg (by omega)], ⟨ft, tp, ⟨by rw [ht]; exact hP, va_K.moved hW.alike hK, hD⟩, htp, by first | rw [if_pos (by omega)] | rw [if_neg (by omega)], (hsp.symm.trans hRR)⟩⟩, hS.F ht⟩) hS.2.2 eX8_feed_14
