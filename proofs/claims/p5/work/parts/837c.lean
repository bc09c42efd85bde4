abbrev xc__w (xa : Nat) (xtape : Nat) (tp : Int32) (rd : Nat) (au : Nat) (xdr : Nat) (hy : Nat) (g : Nat) (hs : Int32) (tg : Nat) (sg : Nat) (ss : Int32) (rm : Nat) (ti : Nat) (py : Nat) (bu : Nat) (sm : Nat) (nc : Int32) (np : Int32) (ne : Int32) (st0 : Int32) (q4 : Nat) (q5 : Nat) (q6 : Nat) (q7 : Nat) (q8 : Nat) (q9 : Nat) (q10 : Nat) (q11 : Nat) (q12 : Nat) (q13 : Nat) (q14 : Nat) (q15 : Nat) (q16 : Nat) (on : Int32) (si : Int32) (ti0 : Int32) (tm : Nat) (bh : Nat) (k_ftm : ClassId) (ftm : Nat → Int32) : va_W := [(xa, .inr (8, [.ref xtape, .int tp, .ref rd, .ref au, .ref xdr, .ref hy, .ref g, .int hs, .ref tg, .ref sg, .int ss, .ref rm, .ref ti, .ref py, .ref bu, .ref sm])), (au, .inr (0, [.int nc, .int np, .int ne, .int st0, .ref q4, .ref q5, .ref q6, .ref q7, .ref q8, .ref q9, .ref q10, .ref q11, .ref q12, .ref q13, .ref q14, .ref q15, .ref q16])), (py, .inr (3, [.int on, .int si, .int ti0, .ref tm, .ref bh])), (tm, .inl (k_ftm, 3, .inl ftm))]
abbrev xc__t (k_ftm : ClassId) : List (ClassId × FieldType) := [(k_ftm, .int)]
/-- what a throw takes as given beside the words -/
def sy_E (A : Nat → Prop) (U : State) (H : Heap) : Prop := va_Nw (.declares (Bundle.init0 "java/lang/RuntimeException")) U ∧ va_Nw (.declares (Bundle.init0 "java/lang/Exception")) U ∧ va_Nw (.declares (Bundle.init0 Bundle.tN)) U ∧ va_Nw (.castable "java/util/NoSuchElementException" "java/util/NoSuchElementException") U ∧ vx_Zq Bundle.tN "UNASSIGNED_STACK" Bundle.steD A U H ∧ vx_Zq Bundle.tN "SUPPRESSED_SENTINEL" Bundle.listD A U H
def pu_Y (D : va_G) (ws : va_W) (tys : List (ClassId × FieldType)) (sz : Nat) : State → Prop := fun U => pu_B D ws tys sz U ∧ sy_E (va_A [] sz) U U.heap
theorem pu_bly {D : va_G} {ws : va_W} {tys : List (ClassId × FieldType)} {sz : Nat} {av : List Value} : FrameBlind (va_Pc av (pu_Y D ws tys sz)) := by
  intro a U g mk q
  obtain ⟨q0, ⟨q1, qP, qK, qD⟩, e1, e2, e3, e4, e5, e6⟩ := q
  exact ⟨q0, ⟨q1, qP, va_K.moved (u := U) (U := U.calling g mk a) (Vm.Alike.refl U.vm) qK, qD⟩, va_Nw.same (u := U) rfl rfl e1, va_Nw.same (u := U) rfl rfl e2, va_Nw.same (u := U) rfl rfl e3, va_Nw.same (u := U) rfl rfl e4, vx_Zq.moved (u := U) (U := U.calling g mk a) (Vm.Alike.refl U.vm) e5, vx_Zq.moved (u := U) (U := U.calling g mk a) (Vm.Alike.refl U.vm) e6⟩
theorem pu_iny {D : va_G} {ws : va_W} {tys : List (ClassId × FieldType)} {s : State} {H : Heap} {A A0 : Nat → Prop} {locs : List Loc} {av : List Value} (hP : va_P D vwCl ws H) (hK : va_K D vwCl tys s) (hD : va_D A ws) (hY : sy_E A0 s s.heap) (hS : va_S A0 s.heap H locs) (hF : ∀ q, va_A [] H.size q → A0 q) : ∀ U : State, U.heap = H → s.WarmedH U.vm → va_Pc av (pu_Y D ws tys H.size) av.toArray U := by
  intro U hU hW
  obtain ⟨e1, e2, e3, e4, e5, e6⟩ := hY
  refine ⟨rfl, ⟨by rw [hU], by rw [hU]; exact hP, va_K.moved hW.alike hK, hD.weaken (fun _ _ _ _ => trivial)⟩, va_Nw.warmD hW e1, va_Nw.warmD hW e2, va_Nw.warmD hW e3, va_Nw.warmC hW e4, ?_, ?_⟩
  · rw [hU]; exact vx_Zq.moved hW.alike ((e5.kept hS.2.1).narrow hF)
  · rw [hU]; exact vx_Zq.moved hW.alike ((e6.kept hS.2.1).narrow hF)
theorem dX8_clock_0 : decode cX8_clock 0 = .ok (.aload_n 0, 1) := by decide +kernel
theorem dX8_clock_1 : decode cX8_clock 1 = .ok (.getfield 69, 3) := by decide +kernel
theorem dX8_clock_4 : decode cX8_clock 4 = .ok (.getfield 107, 3) := by decide +kernel
theorem dX8_clock_7 : decode cX8_clock 7 = .ok (.ifCond .eq 11, 3) := by decide +kernel
theorem dX8_clock_10 : decode cX8_clock 10 = .ok (.aload_n 0, 1) := by decide +kernel
theorem dX8_clock_11 : decode cX8_clock 11 = .ok (.iload_n 1, 1) := by decide +kernel
theorem dX8_clock_12 : decode cX8_clock 12 = .ok (.invokevirtual 187, 3) := by decide +kernel
theorem dX8_clock_15 : decode cX8_clock 15 = .ok (.ifCond .ne 11, 3) := by decide +kernel
theorem dX8_clock_18 : decode cX8_clock 18 = .ok (.new 388, 3) := by decide +kernel
theorem dX8_clock_21 : decode cX8_clock 21 = .ok (.dup, 1) := by decide +kernel
theorem dX8_clock_22 : decode cX8_clock 22 = .ok (.invokespecial 390, 3) := by decide +kernel
theorem dX8_clock_25 : decode cX8_clock 25 = .ok (.athrow, 1) := by decide +kernel
theorem dX8_clock_26 : decode cX8_clock 26 = .ok (.aload_n 0, 1) := by decide +kernel
theorem dX8_clock_27 : decode cX8_clock 27 = .ok (.getfield 69, 3) := by decide +kernel
theorem dX8_clock_30 : decode cX8_clock 30 = .ok (.getfield 391, 3) := by decide +kernel
theorem dX8_clock_33 : decode cX8_clock 33 = .ok (.iload_n 1, 1) := by decide +kernel
theorem dX8_clock_34 : decode cX8_clock 34 = .ok (.iaload, 1) := by decide +kernel
theorem dX8_clock_35 : decode cX8_clock 35 = .ok (.ireturn, 1) := by decide +kernel
theorem dL_clock_0 : decode cL_clock 0 = .ok (.aload_n 2, 1) := by decide +kernel
theorem dL_clock_1 : decode cL_clock 1 = .ok (.iconst 0, 1) := by decide +kernel
theorem dL_clock_2 : decode cL_clock 2 = .ok (.aload_n 0, 1) := by decide +kernel
theorem dL_clock_3 : decode cL_clock 3 = .ok (.iload_n 1, 1) := by decide +kernel
theorem dL_clock_4 : decode cL_clock 4 = .ok (.invokevirtual 7, 3) := by decide +kernel
theorem dL_clock_7 : decode cL_clock 7 = .ok (.i2l, 1) := by decide +kernel
theorem dL_clock_8 : decode cL_clock 8 = .ok (.lastore, 1) := by decide +kernel
theorem dL_clock_9 : decode cL_clock 9 = .ok (.goto 6, 3) := by decide +kernel
theorem dL_clock_12 : decode cL_clock 12 = .ok (.astore_n 3, 1) := by decide +kernel
theorem dL_clock_13 : decode cL_clock 13 = .ok (.iconst 1, 1) := by decide +kernel
theorem dL_clock_14 : decode cL_clock 14 = .ok (.ireturn, 1) := by decide +kernel
theorem dL_clock_15 : decode cL_clock 15 = .ok (.iconst 0, 1) := by decide +kernel
theorem dL_clock_16 : decode cL_clock 16 = .ok (.ireturn, 1) := by decide +kernel
theorem gd_mono {A B ws : List Cond} (h : ∀ w ∈ A, w ∈ B) (g : GoodIn A ws) : GoodIn B ws := fun w hw => ⟨h w (g w hw).1, (g w hw).2⟩
def vs_X8_clock : List Cond := .code yX8_clock cX8_clock 2 (some .int) :: (CM ++ ([.classLink RX8 388 "java/util/NoSuchElementException", .initialized "java/util/NoSuchElementException", .fieldLink RX8 391 "ClockReach$Play" "times" "[I"] ++ (vx_at0 RX8 390 "java/util/NoSuchElementException" ["java/lang/RuntimeException", "java/lang/Exception"]).filter goodWord))
theorem vc_all : vs_X8_clock.all goodWord = true := by decide +kernel
def vs_L_clock : List Cond := .codeWith yL_clock cL_clock 4 (some .int) [(0, 9, 12, 13)] :: ([.classLink RL 13 "java/util/NoSuchElementException", .methodLink RL 7 yX8_clock, .instanceMethod yX8_clock, .selects RX8 yX8_clock yX8_clock, .initialized RX8] ++ vs_X8_clock)
theorem vl_all : vs_L_clock.all goodWord = true := by decide +kernel
theorem g_L_clock_X8_clock : GoodIn vs_L_clock (wsV RL 7 RX8 yX8_clock vs_X8_clock) := fun w h => by
  have hm : w ∈ vs_L_clock := by
    rcases List.mem_append.mp h with h | h
    · rcases List.mem_cons.mp h with rfl | h
      · exact List.mem_of_getElem? (i := 2) rfl
      rcases List.mem_cons.mp h with rfl | h
      · exact List.mem_of_getElem? (i := 3) rfl
      rcases List.mem_cons.mp h with rfl | h
      · exact List.mem_of_getElem? (i := 4) rfl
      rcases List.mem_cons.mp h with rfl | h
      · exact List.mem_of_getElem? (i := 5) rfl
      exact absurd h List.not_mem_nil
    · exact List.mem_cons_of_mem _ (List.mem_append_right _ h)
  exact ⟨hm, good_of_word (List.all_eq_true.mp vl_all w hm)⟩
theorem g_X8_clock_isClock : GoodIn vs_X8_clock (wsV RX8 187 RX8 yX8_isClock vs_E_8_isClock) := gd_mono (A := .code yX8_clock cX8_clock 2 (some .int) :: CM) (fun w h => by
  rcases List.mem_cons.mp h with rfl | h
  · exact List.mem_cons_self
  · exact List.mem_cons_of_mem _ (List.mem_append_left _ h)) (cm_gV cm_499 cm_500 cm_501 cm_427 cm_480)
set_option maxHeartbeats 4000000 in
set_option maxRecDepth 100000 in
theorem c_X8_clock (l : Launch) (hlt : l.stackTraces = false) (dC : Nat → ClassId) (dI : Nat → Nat → Nat) (sz : Nat) (xa : Nat) (xtape : Nat) (tp : Nat) (rd : Nat) (au : Nat) (xdr : Nat) (hy : Nat) (g : Nat) (hs : Nat) (tg : Nat) (sg : Nat) (ss : Nat) (rm : Nat) (ti : Nat) (py : Nat) (bu : Nat) (sm : Nat) (nc : Nat) (np : Nat) (ne : Nat) (st0 : Int32) (q4 : Nat) (q5 : Nat) (q6 : Nat) (q7 : Nat) (q8 : Nat) (q9 : Nat) (q10 : Nat) (q11 : Nat) (q12 : Nat) (q13 : Nat) (q14 : Nat) (q15 : Nat) (q16 : Nat) (on : Nat) (si : Nat) (ti0 : Int32) (tm : Nat) (bh : Nat) (k_ftm : ClassId) (ftm : Nat → Int32) (htp : tp ≤ 900) (hhs : hs ≤ 1) (hss : ss ≤ 1) (hnc : nc ≤ 3) (hnp : np ≤ 8) (hne : ne ≤ 14) (hst0 : pm1 7 st0) (hon : on ≤ 1) (hsi : si ≤ 7) (p0 : Int32) : vx_Met l yX8_clock vs_X8_clock ({ frames := 6, cells := 1, slots := 6, locals := 81 }) (va_Pc [.ref xa, .int p0] (pu_Y (dC, dI) (xc__w xa xtape (nI tp) rd au xdr hy g (nI hs) tg sg (nI ss) rm ti py bu sm (nI nc) (nI np) (nI ne) st0 q4 q5 q6 q7 q8 q9 q10 q11 q12 q13 q14 q15 q16 (nI on) (nI si) ti0 tm bh k_ftm ftm) (xc__t k_ftm) sz)) (va_Qi (fun (_ : Int32) (_ : Unit) => True) (fun _ _ => True) (va_A [] sz)) (vx_X (fun (_ : Unit) => True) (fun E _ _ => E = "java/util/NoSuchElementException") (va_A [] sz)) 1 6 (va_A [] sz) := by
  refine vx_ofW (cc := cX8_clock) (maxL := 2) (ret := (some .int)) (by decide) rfl ?_
  intro p e s m args below meth c s₁ B hml htab hv
  obtain ⟨rfl, ⟨rfl, hP, hK, hD0⟩, hY⟩ := hv
  have hx := B.exec
  have hb := B.bytes
  have hr := B.returns
  have hts := atoms_spec (ws := vs_X8_clock) B.pre
  have v_c := hts (.classLink RX8 388 "java/util/NoSuchElementException") (List.mem_cons_of_mem _ (List.mem_append_right _ (List.mem_append_left _ (List.mem_of_getElem? (i := 0) rfl))))
  have v_n := hts (.initialized "java/util/NoSuchElementException") (List.mem_cons_of_mem _ (List.mem_append_right _ (List.mem_append_left _ (List.mem_of_getElem? (i := 1) rfl))))
  have v_3 := hts (.fieldLink RX8 69 "ClockReach" "play" "LClockReach$Play;") (List.mem_cons_of_mem _ (List.mem_append_left _ cm_447))
  have v_4 := hts (.fieldLink RX8 107 "ClockReach$Play" "on" "Z") (List.mem_cons_of_mem _ (List.mem_append_left _ cm_448))
  have v_5 := hts (.fieldLink RX8 391 "ClockReach$Play" "times" "[I") (List.mem_cons_of_mem _ (List.mem_append_right _ (List.mem_append_left _ (List.mem_of_getElem? (i := 2) rfl))))
  have hown : s.vm.findClass RX8 = some m.cls := findClass_of_methodNamed B.named
  have hlocks := B.notSynchronized
  have hiX8 : ∀ w ∈ wsX80, w ∈ vs_X8_clock := fun _ h => List.mem_cons_of_mem _ (List.mem_append_left _ (cm_X8 h))
  have hiX3 : ∀ w ∈ wsX30, w ∈ vs_X8_clock := fun _ h => List.mem_cons_of_mem _ (List.mem_append_left _ (cm_X3 h))
  have hA : ∀ q : Nat, s.heap.size ≤ q → va_A [] s.heap.size q := fun _ h => Or.inr h
  have hS : va_S (va_A [] s.heap.size) s.heap s.heap [] := va_S.rf
  have hl := lv_entry ([.ref xa, .int p0]) (n := 2) (Nat.le_of_ble_eq_true rfl)
  rw [lg_entry_eq]
  generalize (lg_sl ([.ref xa, .int p0]) ++ List.replicate (2 - (lg_sl ([.ref xa, .int p0])).length) Slot.unset).toArray = ls at hl ⊢
  have hl : lv_has ls 2 [(0, .ref xa), (1, .int p0)] := hl
  refine lv_aload_n hx hb dX8_clock_0 rfl (lv_at hl 0 rfl) ?_
  refine va_get (D := (dC, dI)) (ci := 8) (v := .ref py) (C := RX8) (T := TX8) (N := 16) hx hb hts hiX8 hown hK hP 0 rfl rfl 13 (by decide) v_3 (fun _ h9 => h9) rfl dX8_clock_1 ?_
  refine va_get (D := (dC, dI)) (ci := 3) (v := .int (nI on)) (C := RX3) (T := TX3) (N := 5) hx hb hts hiX3 hown hK hP 2 rfl rfl 0 (by decide) v_4 (fun _ h9 => h9) rfl dX8_clock_4 ?_
  refine lv_if_eq (tgt := 18) hx hb dX8_clock_7 (by decide) (fun _ => ?_) (fun _ => ?_)
  · exact vx_throw0 (names := ["java/lang/RuntimeException", "java/lang/Exception"]) (A := va_A [] s.heap.size) hx hb hlt hown (by decide +kernel) (by decide +kernel) v_c v_n (vx_hat (B := [.declares (Bundle.init0 "java/lang/RuntimeException"), .declares (Bundle.init0 "java/lang/Exception"), .declares (Bundle.init0 Bundle.tN), .castable "java/util/NoSuchElementException" "java/util/NoSuchElementException"]) (fun w h => hts w (List.mem_cons_of_mem _ (List.mem_append_right _ (List.mem_append_right _ h)))) (by decide +kernel) (vx_c (va_Nw.use rfl hY.1) (vx_c (va_Nw.use rfl hY.2.1) (vx_c (va_Nw.use rfl hY.2.2.1) (vx_c (va_Nw.use rfl hY.2.2.2.1) vx_n))))) (by decide +kernel) hY.2.2.2.2.1 hY.2.2.2.2.2 hS (hl.1.trans hml.symm) dX8_clock_18 dX8_clock_21 dX8_clock_22 dX8_clock_25 (fun x hx => (htab x hx).elim) (Nat.le_of_ble_eq_true rfl) (Nat.le_of_ble_eq_true rfl) (Nat.le_of_ble_eq_true rfl) (Nat.le_of_ble_eq_true rfl) hlocks (fun t h1 h2 h3 => ⟨(), trivial, rfl, h2, fun q hq _ => h3 q hq⟩) (fun z hz => by cases hz) (Nat.le_of_ble_eq_true rfl) (Nat.le_of_ble_eq_true rfl)
  refine lv_aload_n hx hb dX8_clock_10 rfl (lv_at hl 0 rfl) ?_
  refine lv_iload_n hx hb dX8_clock_11 rfl (lv_at hl 1 rfl) ?_
  refine va_calli (va_runV (As := [.int p0]) (rest := []) ⟨hx, hb, hml, hown, hts⟩ (c_E_8_isClock l dC dI _ xa xtape tp rd au xdr hy g hs tg sg ss rm ti py bu sm nc np ne st0 q4 q5 q6 q7 q8 q9 q10 q11 q12 q13 q14 q15 q16 p0 htp hhs hss hnc hnp hne hst0) (cwV 1 hts g_X8_clock_isClock rfl rfl rfl (by decide +kernel) ⟨Nat.le_of_ble_eq_true rfl, Nat.le_of_ble_eq_true rfl⟩) ⟨pu_bl, va_recv hK hP (ci := 8) (q0 := 0) rfl rfl, pu_in (hP.sub [0, 1] rfl) (hK.sub [] rfl) (hD0.sub [0, 1] (by decide) rfl)⟩ rfl rfl hl.1 rfl (lv_room (Nat.le_of_ble_eq_true rfl)) dX8_clock_12 ⟨Nat.le_of_ble_eq_true rfl, Nat.le_of_ble_eq_true rfl⟩) hS (fun q _ h => pu_fr hS hA q h) (pu_fr hS hA) (fun r u t H1 locs ht hvm hw hB hz1 hk1 hS => ?_)
  have hP := pu_keep hP hk1
  clear hk1 hz1 ht hvm hB
  generalize H1 = H at hP hS ⊢
  rcases hw with ⟨rfl, n, hn, rfl⟩ | ⟨rfl, -⟩
  · refine lv_if_ne (tgt := 26) hx hb dX8_clock_15 (by decide) (fun _ => ?_) (fun z => absurd z (by decide))
    refine lv_aload_n hx hb dX8_clock_26 rfl (lv_at hl 0 rfl) ?_
    refine va_get (D := (dC, dI)) (ci := 8) (v := .ref py) (C := RX8) (T := TX8) (N := 16) hx hb hts hiX8 hown hK hP 0 rfl rfl 13 (by decide) v_3 (fun _ h9 => h9) rfl dX8_clock_27 ?_
    refine va_get (D := (dC, dI)) (ci := 3) (v := .ref tm) (C := RX3) (T := TX3) (N := 5) hx hb hts hiX3 hown hK hP 2 rfl rfl 3 (by decide) v_5 (fun _ h9 => h9) rfl dX8_clock_30 ?_
    refine lv_iload_n hx hb dX8_clock_33 rfl (lv_at hl 1 rfl) ?_
    refine va_iald hx hb hK hP 3 0 rfl rfl (vp_in_nI (n := n) (by omega) (Nat.le_of_ble_eq_true rfl)) dX8_clock_34 ?_
    refine lv_topi (fun y ey => ?_)
    refine W.widen (k := 1) (n := 6) (by omega) (by omega) ?_
    refine vx_ret ?_
    exact W.iret (v := y) hx hb hr (fun t ht hW => ⟨⟨y, (), rfl, trivial, trivial⟩, hS.F ht⟩) hS.2.2 dX8_clock_35
  · refine lv_if_ne (tgt := 26) hx hb dX8_clock_15 (by decide) (fun z => absurd rfl z) (fun _ => ?_)
    exact vx_throw0 (names := ["java/lang/RuntimeException", "java/lang/Exception"]) (A := va_A [] s.heap.size) hx hb hlt hown (by decide +kernel) (by decide +kernel) v_c v_n (vx_hat (B := [.declares (Bundle.init0 "java/lang/RuntimeException"), .declares (Bundle.init0 "java/lang/Exception"), .declares (Bundle.init0 Bundle.tN), .castable "java/util/NoSuchElementException" "java/util/NoSuchElementException"]) (fun w h => hts w (List.mem_cons_of_mem _ (List.mem_append_right _ (List.mem_append_right _ h)))) (by decide +kernel) (vx_c (va_Nw.use rfl hY.1) (vx_c (va_Nw.use rfl hY.2.1) (vx_c (va_Nw.use rfl hY.2.2.1) (vx_c (va_Nw.use rfl hY.2.2.2.1) vx_n))))) (by decide +kernel) hY.2.2.2.2.1 hY.2.2.2.2.2 hS (hl.1.trans hml.symm) dX8_clock_18 dX8_clock_21 dX8_clock_22 dX8_clock_25 (fun x hx => (htab x hx).elim) (Nat.le_of_ble_eq_true rfl) (Nat.le_of_ble_eq_true rfl) (Nat.le_of_ble_eq_true rfl) (Nat.le_of_ble_eq_true rfl) hlocks (fun t h1 h2 h3 => ⟨(), trivial, rfl, Nat.le_trans hS.1 h2, fun q hq hn => by rw [h3 q (Nat.lt_of_lt_of_le hq hS.1)]; exact hS.2.1 q hq hn⟩) hS.2.2 (Nat.le_of_ble_eq_true rfl) (Nat.le_of_ble_eq_true rfl)
def pu_Yo (D : va_G) (ws : va_W) (tys : List (ClassId × FieldType)) (wo : va_W) (sz : Nat) : State → Prop := fun U => pu_B D ws tys sz U ∧ sy_E (va_A wo sz) U U.heap
set_option maxHeartbeats 4000000 in
set_option maxRecDepth 100000 in
theorem c_L_clock (l : Launch) (hlt : l.stackTraces = false) (dC : Nat → ClassId) (dI : Nat → Nat → Nat) (sz : Nat) (xa : Nat) (xtape : Nat) (tp : Nat) (rd : Nat) (au : Nat) (xdr : Nat) (hy : Nat) (g : Nat) (hs : Nat) (tg : Nat) (sg : Nat) (ss : Nat) (rm : Nat) (ti : Nat) (py : Nat) (bu : Nat) (sm : Nat) (nc : Nat) (np : Nat) (ne : Nat) (st0 : Int32) (q4 : Nat) (q5 : Nat) (q6 : Nat) (q7 : Nat) (q8 : Nat) (q9 : Nat) (q10 : Nat) (q11 : Nat) (q12 : Nat) (q13 : Nat) (q14 : Nat) (q15 : Nat) (q16 : Nat) (on : Nat) (si : Nat) (ti0 : Int32) (tm : Nat) (bh : Nat) (k_ftm : ClassId) (ftm : Nat → Int32) (htp : tp ≤ 900) (hhs : hs ≤ 1) (hss : ss ≤ 1) (hnc : nc ≤ 3) (hnp : np ≤ 8) (hne : ne ≤ 14) (hst0 : pm1 7 st0) (hon : on ≤ 1) (hsi : si ≤ 7) (p0 : Int32) (qo : Nat) (kL : ClassId) (fq : Nat → Int64) : Met l yL_clock vs_L_clock ({ frames := 7, cells := 1, slots := 6, locals := 102 }) (va_Pc [.ref xa, .int p0, .ref qo] (pu_Yo (dC, dI) ((xc__w xa xtape (nI tp) rd au xdr hy g (nI hs) tg sg (nI ss) rm ti py bu sm (nI nc) (nI np) (nI ne) st0 q4 q5 q6 q7 q8 q9 q10 q11 q12 q13 q14 q15 q16 (nI on) (nI si) ti0 tm bh k_ftm ftm) ++ [(qo, .inl (kL, 1, .inr (.inl fq)))]) ((xc__t k_ftm) ++ [(kL, .long)]) [(qo, .inl (kL, 1, .inr (.inl fq)))] sz)) (va_Qi (fun (_ : Int32) (_ : Unit) => True) (fun _ t => ∃ fr : Nat → Int64, va_P (dC, dI) vwCl [(qo, .inl (kL, 1, .inr (.inl fr)))] t.heap) (va_A [(qo, .inl (kL, 1, .inr (.inl fq)))] sz)) 1 6 (va_A [(qo, .inl (kL, 1, .inr (.inl fq)))] sz) := by
  refine va_MetW (cc := cL_clock) (maxL := 4) (ret := (some .int)) (hh := [(0, 9, 12, 13)]) (by decide) rfl ?_
  intro p e s m args below meth c s₁ B hml hv
  obtain ⟨rfl, ⟨rfl, hP, hK, hD0⟩, hY⟩ := hv
  have hx := B.exec
  have hb := B.bytes
  have hr := B.returns
  have hts := atoms_spec (ws := vs_L_clock) B.pre
  have htab := vx_table (x := yL_clock) B (hts (.codeWith yL_clock cL_clock 4 (some .int) [(0, 9, 12, 13)]) List.mem_cons_self)
  have v_1 := hts (.classLink RL 13 "java/util/NoSuchElementException") (List.mem_of_getElem? (i := 1) rfl)
  have hown : s.vm.findClass RL = some m.cls := findClass_of_methodNamed B.named
  have hlocks := B.notSynchronized
  have hPo : va_P (dC, dI) vwCl [(qo, .inl (kL, 1, .inr (.inl fq)))] s.heap := hP.sub [4] rfl
  have hDo : va_D (va_A [(qo, .inl (kL, 1, .inr (.inl fq)))] s.heap.size) [(qo, .inl (kL, 1, .inr (.inl fq)))] := (hD0.sub [4] (by decide) rfl).self
  have hPx : va_P (dC, dI) vwCl (xc__w xa xtape (nI tp) rd au xdr hy g (nI hs) tg sg (nI ss) rm ti py bu sm (nI nc) (nI np) (nI ne) st0 q4 q5 q6 q7 q8 q9 q10 q11 q12 q13 q14 q15 q16 (nI on) (nI si) ti0 tm bh k_ftm ftm) s.heap := hP.sub [0, 1, 2, 3] rfl
  have hDx : va_D (fun _ => True) (xc__w xa xtape (nI tp) rd au xdr hy g (nI hs) tg sg (nI ss) rm ti py bu sm (nI nc) (nI np) (nI ne) st0 q4 q5 q6 q7 q8 q9 q10 q11 q12 q13 q14 q15 q16 (nI on) (nI si) ti0 tm bh k_ftm ftm) := hD0.sub [0, 1, 2, 3] (by decide) rfl
  have hKx : va_K (dC, dI) vwCl (xc__t k_ftm) s := hK.sub [0] rfl
  generalize hAe : va_A [(qo, .inl (kL, 1, .inr (.inl fq)))] s.heap.size = A at hDo hY ⊢
  have hA : ∀ q : Nat, s.heap.size ≤ q → A q := fun q h => by rw [← hAe]; exact Or.inr h
  have hS : va_S A s.heap s.heap [] := va_S.rf
  have hl := lv_entry ([.ref xa, .int p0, .ref qo]) (n := 4) (Nat.le_of_ble_eq_true rfl)
  rw [lg_entry_eq]
  generalize (lg_sl ([.ref xa, .int p0, .ref qo]) ++ List.replicate (4 - (lg_sl ([.ref xa, .int p0, .ref qo])).length) Slot.unset).toArray = ls at hl ⊢
  have hl : lv_has ls 4 [(0, .ref xa), (1, .int p0), (2, .ref qo)] := hl
  refine lv_aload_n hx hb dL_clock_0 rfl (lv_at hl 2 rfl) ?_
  refine lv_iconst (v := 0) hx hb dL_clock_1 (by decide) ?_
  refine lv_aload_n hx hb dL_clock_2 rfl (lv_at hl 0 rfl) ?_
  refine lv_iload_n hx hb dL_clock_3 rfl (lv_at hl 1 rfl) ?_
  refine vx_calli (vx_runV (As := [.int p0]) (rest := [.int 0, .ref qo]) ⟨hx, hb, hml, hown, hts⟩ (c_X8_clock l hlt dC dI _ xa xtape tp rd au xdr hy g hs tg sg ss rm ti py bu sm nc np ne st0 q4 q5 q6 q7 q8 q9 q10 q11 q12 q13 q14 q15 q16 on si ti0 tm bh k_ftm ftm htp hhs hss hnc hnp hne hst0 hon hsi p0) (cwV 1 hts g_L_clock_X8_clock rfl rfl rfl (by decide +kernel) ⟨Nat.le_of_ble_eq_true rfl, Nat.le_of_ble_eq_true rfl⟩) ⟨pu_bly, va_recv hKx hPx (ci := 8) (q0 := 0) rfl rfl, pu_iny hPx hKx hDx hY hS (pu_fr hS hA)⟩ rfl rfl hl.1 rfl (lv_room (Nat.le_of_ble_eq_true rfl)) dL_clock_4 ⟨Nat.le_of_ble_eq_true rfl, Nat.le_of_ble_eq_true rfl⟩) hS (fun q _ h => pu_fr hS hA q h) (pu_fr hS hA) (fun q _ h => pu_fr hS hA q h) (fun E ce q9 u t H1 locs ht hvm hw hB hz1 hk1 hS hc1 hc2 hc3 => ?_) (fun r u t H1 locs ht hvm hw hB hz1 hk1 hS => ?_)
  · subst hB
    refine vx_catch (name := "java/util/NoSuchElementException") hown [] ⟨0, 9, 12, 13⟩ [] htab (fun z hz => by cases hz) (by decide) (by decide) v_1 (va_Nw.use rfl hY.2.2.2.1) hc1 hc2 hc3 ?_
    have hPo := pu_keep hPo hk1
    refine lv_astore_n (lv' := [(3, .ref q9), (0, .ref xa), (1, .int p0), (2, .ref qo)]) hx hb dL_clock_12 rfl hl (by decide) rfl (fun ls hl => ?_)
    refine lv_iconst (v := 1) hx hb dL_clock_13 (by decide) ?_
    refine W.widen (k := 1) (n := 6) (by omega) (by omega) ?_
    exact W.iret (v := 1) hx hb hr (fun t ht hW => ⟨⟨1, (), rfl, trivial, ⟨fq, by rw [ht]; exact hPo⟩⟩, hS.F ht⟩) hS.2.2 dL_clock_14
  · have hPo := pu_keep hPo hk1
    refine lv_i2l (v := r.toInt64) hx hb dL_clock_7 rfl ?_
    refine va_last hx hb (hK.sub [1] rfl) hPo hDo hS 0 0 rfl rfl (show ¬ (_ ∨ _) by decide) dL_clock_8 (fun H locs hP hD hS => ?_)
    refine lv_goto (tgt := 15) hx hb dL_clock_9 (by decide) ?_
    refine lv_iconst (v := 0) hx hb dL_clock_15 (by decide) ?_
    refine W.widen (k := 1) (n := 6) (by omega) (by omega) ?_
    exact W.iret (v := 0) hx hb hr (fun t ht hW => ⟨⟨0, (), rfl, trivial, ⟨_, by rw [ht]; exact hP⟩⟩, hS.F ht⟩) hS.2.2 dL_clock_16
