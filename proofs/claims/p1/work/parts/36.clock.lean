/-- what a throw takes as given beside the words -/
def sy_E (A : Nat → Prop) (U : State) (H : Heap) : Prop := va_Nw (.declares (Bundle.init0 "java/lang/RuntimeException")) U ∧ va_Nw (.declares (Bundle.init0 "java/lang/Exception")) U ∧ va_Nw (.declares (Bundle.init0 Bundle.tN)) U ∧ va_Nw (.castable "java/util/NoSuchElementException" "java/util/NoSuchElementException") U ∧ vx_Zq Bundle.tN "UNASSIGNED_STACK" Bundle.steD A U H ∧ vx_Zq Bundle.tN "SUPPRESSED_SENTINEL" Bundle.listD A U H
def pu_Y (D : va_G) (ws : va_W) (tys : List (ClassId × FieldType)) (sz : Nat) : State → Prop := fun U => pu_B D ws tys sz U ∧ sy_E (va_A [] sz) U U.heap
theorem pu_bly {D : va_G} {ws : va_W} {tys : List (ClassId × FieldType)} {sz : Nat} {av : List Value} : FrameBlind (va_Pc av (pu_Y D ws tys sz)) := by
  intro a U g mk q
  obtain ⟨q0, ⟨q1, qP, qK, qD⟩, e1, e2, e3, e4, e5, e6⟩ := q
  exact ⟨q0, ⟨q1, qP, va_K.moved (u := U) (U := U.calling g mk a) (Vm.Alike.refl U.vm) qK, qD⟩, va_Nw.same (u := U) rfl rfl e1, va_Nw.same (u := U) rfl rfl e2, va_Nw.same (u := U) rfl rfl e3, va_Nw.same (u := U) rfl rfl e4, vx_Zq.moved (u := U) (U := U.calling g mk a) (Vm.Alike.refl U.vm) e5, vx_Zq.moved (u := U) (U := U.calling g mk a) (Vm.Alike.refl U.vm) e6⟩
theorem pu_iny {D : va_G} {ws : va_W} {tys : List (ClassId × FieldType)} {s : State} {H : Heap} {A A0 : Nat → Prop} {locs : List Loc} {av : List Value} (hP : va_P D vwCl ws H) (hK : va_K D vwCl tys s) (hD : va_D A ws) (hY : sy_E A0 s s.heap) (hS : va_S A0 s.heap H locs) (hF : ∀ q, va_A [] H.size q → A0 q) : ∀ U : State, U.heap = H → s.WarmedH U.vm → va_Pc av (pu_Y D ws tys H.size) av.toArray U := by
  intro U hU hW
  obtain ⟨e1, e2, e3, e4, e5, e6⟩ := hY
  refine ⟨rfl, ⟨by rw [hU], by rw [hU]; exact hP, va_K.moved hW.alike hK, hD.weaken (fun _ _ _ _ => trivial)⟩, va_Nw.warmD hW e1, va_Nw.warmD hW e2, va_Nw.warmD hW e3, va_Nw.warmC hW e4, ?_, ?_⟩
  · rw [hU]; exact vx_Zq.moved hW.alike ((e5.kept hS.2.1).narrow hF)
  · rw [hU]; exact vx_Zq.moved hW.alike ((e6.kept hS.2.1).narrow hF)
theorem dX8_clock_0 : decode cX8_clock 0 = .ok (.aload_n 0, 1) := by decide +kernel
theorem dX8_clock_1 : decode cX8_clock 1 = .ok (.getfield 69, 3) := by decide +kernel
theorem dX8_clock_4 : decode cX8_clock 4 = .ok (.getfield 107, 3) := by decide +kernel
theorem dX8_clock_7 : decode cX8_clock 7 = .ok (.ifCond .eq 11, 3) := by decide +kernel
theorem dX8_clock_18 : decode cX8_clock 18 = .ok (.new 388, 3) := by decide +kernel
theorem dX8_clock_21 : decode cX8_clock 21 = .ok (.dup, 1) := by decide +kernel
theorem dX8_clock_22 : decode cX8_clock 22 = .ok (.invokespecial 390, 3) := by decide +kernel
theorem dX8_clock_25 : decode cX8_clock 25 = .ok (.athrow, 1) := by decide +kernel
theorem dL_clock_0 : decode cL_clock 0 = .ok (.aload_n 2, 1) := by decide +kernel
theorem dL_clock_1 : decode cL_clock 1 = .ok (.iconst 0, 1) := by decide +kernel
theorem dL_clock_2 : decode cL_clock 2 = .ok (.aload_n 0, 1) := by decide +kernel
theorem dL_clock_3 : decode cL_clock 3 = .ok (.iload_n 1, 1) := by decide +kernel
theorem dL_clock_4 : decode cL_clock 4 = .ok (.invokevirtual 7, 3) := by decide +kernel
theorem dL_clock_12 : decode cL_clock 12 = .ok (.astore_n 3, 1) := by decide +kernel
theorem dL_clock_13 : decode cL_clock 13 = .ok (.iconst 1, 1) := by decide +kernel
theorem dL_clock_14 : decode cL_clock 14 = .ok (.ireturn, 1) := by decide +kernel
def vs_X8_clock : List Cond := .code yX8_clock cX8_clock 2 (some .int) :: ([.classLink RX8 388 "java/util/NoSuchElementException", .initialized "java/util/NoSuchElementException", .fieldLink RX8 69 "ClockReach" "play" "LClockReach$Play;", .fieldLink RX8 107 "ClockReach$Play" "on" "Z"] ++ wsX80 ++ wsX30 ++ (vx_at0 RX8 390 "java/util/NoSuchElementException" ["java/lang/RuntimeException", "java/lang/Exception"]).filter goodWord)
def vs_L_clock : List Cond := .codeWith yL_clock cL_clock 4 (some .int) [(0, 9, 12, 13)] :: ([.classLink RL 13 "java/util/NoSuchElementException", .methodLink RL 7 yX8_clock, .instanceMethod yX8_clock, .selects RX8 yX8_clock yX8_clock, .initialized RX8, .code yX8_clock cX8_clock 2 (some .int), .classLink RX8 388 "java/util/NoSuchElementException", .initialized "java/util/NoSuchElementException", .fieldLink RX8 69 "ClockReach" "play" "LClockReach$Play;", .fieldLink RX8 107 "ClockReach$Play" "on" "Z"] ++ wsX80 ++ wsX30 ++ (vx_at0 RX8 390 "java/util/NoSuchElementException" ["java/lang/RuntimeException", "java/lang/Exception"]).filter goodWord)
set_option maxRecDepth 20000 in
theorem gg_L_clock_X8_clock : GoodIn vs_L_clock vs_X8_clock := goodIn_ca (goodIn_r _ [6, 7, 8, 9, 10, 11, 12, 13, 14, 15, 16, 17, 18, 19, 20, 21, 22, 23, 24, 25, 26, 27, 28, 29, 30, 31] (by decide +kernel) (by decide +kernel)) (goodIn_sub (fun _ h => List.mem_cons_of_mem _ (List.mem_append_right _ h)) (by decide +kernel))
set_option maxRecDepth 20000 in
theorem g_L_clock_X8_clock : GoodIn vs_L_clock (wsV RL 7 RX8 yX8_clock vs_X8_clock) := goodIn_app (goodIn_r _ [2, 3, 4, 5] (by decide +kernel) (by decide +kernel)) gg_L_clock_X8_clock
set_option maxHeartbeats 4000000 in
set_option maxRecDepth 100000 in
/-- clock of a fresh object: it throws -/
theorem c_X8_clock (l : Launch) (hlt : l.stackTraces = false) (dC : Nat → ClassId) (dI : Nat → Nat → Nat) (sz : Nat) (a : Nat → Nat) (k : Nat → ClassId) (p0 : Int32) : vx_Met l yX8_clock vs_X8_clock ({ frames := 6, cells := 1, slots := 6, locals := 81 }) (va_Pc [.ref (a 0), .int p0] (pu_Y (dC, dI) (wX a k) (tX k) sz)) (va_Qi (fun (_ : Int32) (_ : Unit) => False) (fun _ _ => True) (va_A [] sz)) (vx_X (fun (_ : Unit) => True) (fun E _ _ => E = "java/util/NoSuchElementException") (va_A [] sz)) 1 6 (va_A [] sz) := by
  refine vx_ofW (cc := cX8_clock) (maxL := 2) (ret := (some .int)) (by decide) rfl ?_
  intro p e s m args below meth c s₁ B hml htab hv
  obtain ⟨rfl, ⟨rfl, hP, hK, hD0⟩, hY⟩ := hv
  have hx := B.exec
  have hb := B.bytes
  have hts := atoms_spec (ws := vs_X8_clock) B.pre
  have v_1 := hts (.classLink RX8 388 "java/util/NoSuchElementException") (List.mem_of_getElem? (i := 1) rfl)
  have v_2 := hts (.initialized "java/util/NoSuchElementException") (List.mem_of_getElem? (i := 2) rfl)
  have v_3 := hts (.fieldLink RX8 69 "ClockReach" "play" "LClockReach$Play;") (List.mem_of_getElem? (i := 3) rfl)
  have v_4 := hts (.fieldLink RX8 107 "ClockReach$Play" "on" "Z") (List.mem_of_getElem? (i := 4) rfl)
  have hown : s.vm.findClass RX8 = some m.cls := findClass_of_methodNamed B.named
  have hlocks := B.notSynchronized
  have hiX8 : ∀ w ∈ wsX80, w ∈ vs_X8_clock := fun _ h => List.mem_cons_of_mem _ (List.mem_append_left _ (List.mem_append_left _ (List.mem_append_right _ h)))
  have hiX3 : ∀ w ∈ wsX30, w ∈ vs_X8_clock := fun _ h => List.mem_cons_of_mem _ (List.mem_append_left _ (List.mem_append_right _ h))
  have hS : va_S (va_A [] s.heap.size) s.heap s.heap [] := va_S.rf
  have hl := lv_entry ([.ref (a 0), .int p0]) (n := 2) (Nat.le_of_ble_eq_true rfl)
  rw [lg_entry_eq]
  generalize (lg_sl ([.ref (a 0), .int p0]) ++ List.replicate (2 - (lg_sl ([.ref (a 0), .int p0])).length) Slot.unset).toArray = ls at hl ⊢
  have hl : lv_has ls 2 [(0, .ref (a 0)), (1, .int p0)] := hl
  refine lv_aload_n hx hb dX8_clock_0 rfl (lv_at hl 0 rfl) ?_
  refine va_get (D := (dC, dI)) (ci := 8) (v := .ref (a 3)) (C := RX8) (T := TX8) (N := 16) hx hb hts hiX8 hown hK hP 0 rfl rfl 13 (by decide) v_3 (fun _ h9 => h9) rfl dX8_clock_1 ?_
  refine va_get (D := (dC, dI)) (ci := 3) (v := .int 0) (C := RX3) (T := TX3) (N := 5) hx hb hts hiX3 hown hK hP 3 rfl rfl 0 (by decide) v_4 (fun _ h9 => h9) rfl dX8_clock_4 ?_
  refine lv_if_eq (tgt := 18) hx hb dX8_clock_7 (by decide) (fun _ => ?_) (fun z => absurd rfl z)
  refine vx_throw0 (names := ["java/lang/RuntimeException", "java/lang/Exception"]) (A := va_A [] s.heap.size) hx hb hlt hown (by decide +kernel) (by decide +kernel) v_1 v_2 (vx_hat (B := [.declares (Bundle.init0 "java/lang/RuntimeException"), .declares (Bundle.init0 "java/lang/Exception"), .declares (Bundle.init0 Bundle.tN), .castable "java/util/NoSuchElementException" "java/util/NoSuchElementException"]) (fun w h => hts w (List.mem_cons_of_mem _ (List.mem_append_right _ h))) (by decide +kernel) (vx_c (va_Nw.use rfl hY.1) (vx_c (va_Nw.use rfl hY.2.1) (vx_c (va_Nw.use rfl hY.2.2.1) (vx_c (va_Nw.use rfl hY.2.2.2.1) vx_n))))) (by decide +kernel) hY.2.2.2.2.1 hY.2.2.2.2.2 hS (hl.1.trans hml.symm) dX8_clock_18 dX8_clock_21 dX8_clock_22 dX8_clock_25 (fun x hx => (htab x hx).elim) (Nat.le_of_ble_eq_true rfl) (Nat.le_of_ble_eq_true rfl) (Nat.le_of_ble_eq_true rfl) (Nat.le_of_ble_eq_true rfl) hlocks (fun t h1 h2 h3 => ⟨(), trivial, rfl, h2, fun q hq _ => h3 q hq⟩) (fun z hz => by cases hz) (Nat.le_of_ble_eq_true rfl) (Nat.le_of_ble_eq_true rfl)
set_option maxHeartbeats 4000000 in
set_option maxRecDepth 100000 in
/-- the law's own clock: the throw is caught, the answer is 1 -/
theorem c_L_clock (l : Launch) (hlt : l.stackTraces = false) (dC : Nat → ClassId) (dI : Nat → Nat → Nat) (sz : Nat) (a : Nat → Nat) (k : Nat → ClassId) (p0 : Int32) (qo : Nat) : Met l yL_clock vs_L_clock ({ frames := 7, cells := 1, slots := 6, locals := 102 }) (va_Pc [.ref (a 0), .int p0, .ref qo] (pu_Y (dC, dI) (wX a k) (tX k) sz)) (va_Qi (fun (r : Int32) (_ : Unit) => r = 1) (fun _ _ => True) (va_A [] sz)) 1 6 (va_A [] sz) := by
  refine va_MetW (cc := cL_clock) (maxL := 4) (ret := (some .int)) (hh := [(0, 9, 12, 13)]) (by decide) rfl ?_
  intro p e s m args below meth c s₁ B hml hv
  obtain ⟨rfl, ⟨rfl, hP, hK, hD0⟩, hY⟩ := hv
  have hx := B.exec
  have hb := B.bytes
  have hr := B.returns
  have hts := atoms_spec (ws := vs_L_clock) B.pre
  have htab := vx_table (x := yL_clock) B (hts (.codeWith yL_clock cL_clock 4 (some .int) [(0, 9, 12, 13)]) List.mem_cons_self)
  have v_1 := hts (.classLink RL 13 "java/util/NoSuchElementException") (List.mem_of_getElem? (i := 1) rfl)
  have hown : s.vm.findClass RL = some m.cls := findClass_of_methodNamed B.named
  have hlocks := B.notSynchronized
  have hA : ∀ q : Nat, s.heap.size ≤ q → va_A [] s.heap.size q := fun _ h => Or.inr h
  have hS : va_S (va_A [] s.heap.size) s.heap s.heap [] := va_S.rf
  have hl := lv_entry ([.ref (a 0), .int p0, .ref qo]) (n := 4) (Nat.le_of_ble_eq_true rfl)
  rw [lg_entry_eq]
  generalize (lg_sl ([.ref (a 0), .int p0, .ref qo]) ++ List.replicate (4 - (lg_sl ([.ref (a 0), .int p0, .ref qo])).length) Slot.unset).toArray = ls at hl ⊢
  have hl : lv_has ls 4 [(0, .ref (a 0)), (1, .int p0), (2, .ref qo)] := hl
  refine lv_aload_n hx hb dL_clock_0 rfl (lv_at hl 2 rfl) ?_
  refine lv_iconst (v := 0) hx hb dL_clock_1 (by decide) ?_
  refine lv_aload_n hx hb dL_clock_2 rfl (lv_at hl 0 rfl) ?_
  refine lv_iload_n hx hb dL_clock_3 rfl (lv_at hl 1 rfl) ?_
  refine vx_calli (vx_runV (As := [.int p0]) (rest := [.int 0, .ref qo]) ⟨hx, hb, hml, hown, hts⟩ (c_X8_clock l hlt dC dI _ a k p0) (cwV 1 hts g_L_clock_X8_clock rfl rfl rfl (by decide +kernel) ⟨Nat.le_of_ble_eq_true rfl, Nat.le_of_ble_eq_true rfl⟩) ⟨pu_bly, va_recv hK hP (ci := 8) (q0 := 0) rfl rfl, pu_iny hP hK hD0 hY hS (pu_fr hS hA)⟩ rfl rfl hl.1 rfl (lv_room (Nat.le_of_ble_eq_true rfl)) dL_clock_4 ⟨Nat.le_of_ble_eq_true rfl, Nat.le_of_ble_eq_true rfl⟩) hS (fun q _ h => pu_fr hS hA q h) (pu_fr hS hA) (fun q _ h => pu_fr hS hA q h) (fun E ce q9 u t H1 locs ht hvm hw hB hz1 hk1 hS hc1 hc2 hc3 => ?_) (fun r u t H1 locs ht hvm hw hB hz1 hk1 hS => hw.elim)
  subst hB
  refine vx_catch (name := "java/util/NoSuchElementException") hown [] ⟨0, 9, 12, 13⟩ [] htab (fun z hz => by cases hz) (by decide) (by decide) v_1 (va_Nw.use rfl hY.2.2.2.1) hc1 hc2 hc3 ?_
  refine lv_astore_n (lv' := [(3, .ref q9), (0, .ref (a 0)), (1, .int p0), (2, .ref qo)]) hx hb dL_clock_12 rfl hl (by decide) rfl (fun ls hl => ?_)
  refine lv_iconst (v := 1) hx hb dL_clock_13 (by decide) ?_
  refine W.widen (k := 1) (n := 6) (by omega) (by omega) ?_
  exact W.iret (v := 1) hx hb hr (fun t ht hW => ⟨⟨1, (), rfl, rfl, trivial⟩, hS.F ht⟩) hS.2.2 dL_clock_14
