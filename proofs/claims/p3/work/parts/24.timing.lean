theorem ao_new {np ne v : Nat} {f : Nat → Int32} (h : ao_e np ne f) (hv : v < np) (hn : ne < 2 ^ 31) : ao_e np (ne + 1) (upd f (nI ne).toNatClampNeg (nI v)) := by
  intro j hj
  rw [nI_clamp hn]
  by_cases e : j = ne
  · subst e; exact ⟨v, hv, pk_us⟩
  · rw [pk_un e]; exact h j (by omega)
theorem dX6_layRule_0 : decode cX6_layRule 0 = .ok (.aload_n 0, 1) := by decide +kernel
theorem dX6_layRule_1 : decode cX6_layRule 1 = .ok (.getfield 57, 3) := by decide +kernel
theorem dX6_layRule_4 : decode cX6_layRule 4 = .ok (.sipush 1920, 3) := by decide +kernel
theorem dX6_layRule_7 : decode cX6_layRule 7 = .ok (.if_icmp .ge 43, 3) := by decide +kernel
theorem dX6_layRule_10 : decode cX6_layRule 10 = .ok (.aload_n 0, 1) := by decide +kernel
theorem dX6_layRule_11 : decode cX6_layRule 11 = .ok (.getfield 18, 3) := by decide +kernel
theorem dX6_layRule_14 : decode cX6_layRule 14 = .ok (.aload_n 0, 1) := by decide +kernel
theorem dX6_layRule_15 : decode cX6_layRule 15 = .ok (.getfield 57, 3) := by decide +kernel
theorem dX6_layRule_18 : decode cX6_layRule 18 = .ok (.iload_n 1, 1) := by decide +kernel
theorem dX6_layRule_19 : decode cX6_layRule 19 = .ok (.iastore, 1) := by decide +kernel
theorem dX6_layRule_20 : decode cX6_layRule 20 = .ok (.aload_n 0, 1) := by decide +kernel
theorem dX6_layRule_21 : decode cX6_layRule 21 = .ok (.getfield 21, 3) := by decide +kernel
theorem dX6_layRule_24 : decode cX6_layRule 24 = .ok (.aload_n 0, 1) := by decide +kernel
theorem dX6_layRule_25 : decode cX6_layRule 25 = .ok (.getfield 57, 3) := by decide +kernel
theorem dX6_layRule_28 : decode cX6_layRule 28 = .ok (.iload_n 2, 1) := by decide +kernel
theorem dX6_layRule_29 : decode cX6_layRule 29 = .ok (.iastore, 1) := by decide +kernel
theorem dX6_layRule_30 : decode cX6_layRule 30 = .ok (.aload_n 0, 1) := by decide +kernel
theorem dX6_layRule_31 : decode cX6_layRule 31 = .ok (.getfield 24, 3) := by decide +kernel
theorem dX6_layRule_34 : decode cX6_layRule 34 = .ok (.aload_n 0, 1) := by decide +kernel
theorem dX6_layRule_35 : decode cX6_layRule 35 = .ok (.getfield 57, 3) := by decide +kernel
theorem dX6_layRule_38 : decode cX6_layRule 38 = .ok (.iload_n 3, 1) := by decide +kernel
theorem dX6_layRule_39 : decode cX6_layRule 39 = .ok (.iastore, 1) := by decide +kernel
theorem dX6_layRule_40 : decode cX6_layRule 40 = .ok (.aload_n 0, 1) := by decide +kernel
theorem dX6_layRule_41 : decode cX6_layRule 41 = .ok (.dup, 1) := by decide +kernel
theorem dX6_layRule_42 : decode cX6_layRule 42 = .ok (.getfield 57, 3) := by decide +kernel
theorem dX6_layRule_45 : decode cX6_layRule 45 = .ok (.iconst 1, 1) := by decide +kernel
theorem dX6_layRule_46 : decode cX6_layRule 46 = .ok (.iadd, 1) := by decide +kernel
theorem dX6_layRule_47 : decode cX6_layRule 47 = .ok (.putfield 57, 3) := by decide +kernel
theorem dX6_layRule_50 : decode cX6_layRule 50 = .ok (.return_, 1) := by decide +kernel
def vs_X6_layRule : List Cond := .code yX6_layRule cX6_layRule 4 none :: ([.fieldLink RX6 57 "ClockReach$Timing" "rules" "I", .fieldLink RX6 18 "ClockReach$Timing" "laters" "[I", .fieldLink RX6 21 "ClockReach$Timing" "earliers" "[I", .fieldLink RX6 24 "ClockReach$Timing" "gaps" "[I"] ++ wsX60)
set_option maxHeartbeats 4000000 in
set_option maxRecDepth 100000 in
theorem c_X6_layRule (l : Launch) (dC : Nat → ClassId) (dI : Nat → Nat → Nat) (sz : Nat) (ti r0 r2 r3 r4 r5 r7 r8 r9 : Nat) (ln nr : Nat) (j3 j4 j5 : ClassId) (h3 h4 h5 : Nat → Int32) (M : Nat) (hnr : nr ≤ 1920) (h3e : ao_e M nr h3) (h4e : ao_e M nr h4) (va vb : Nat) (ha : va < M) (hb9 : vb < M) (p0 : Int32) : Met l yX6_layRule vs_X6_layRule ({ frames := 0, cells := 0, slots := 0, locals := 0 }) (va_Pc [.ref ti, .int (nI va), .int (nI vb), .int p0] (pu_B (dC, dI) [(ti, .inr (6, [.ref r0, .int (nI ln), .ref r2, .ref r3, .ref r4, .ref r5, .int (nI nr), .ref r7, .ref r8, .ref r9])), (r3, .inl (j3, 1920, .inl h3)), (r4, .inl (j4, 1920, .inl h4)), (r5, .inl (j5, 1920, .inl h5))] [(j3, .int), (j4, .int), (j5, .int)] sz)) (va_Qv (fun (_ : Unit) => True) (fun _ t => ∃ (k1 : Nat) (g3 g4 g5 : Nat → Int32), pu_E (dC, dI) [(ti, .inr (6, [.ref r0, .int (nI ln), .ref r2, .ref r3, .ref r4, .ref r5, .int (nI k1), .ref r7, .ref r8, .ref r9])), (r3, .inl (j3, 1920, .inl g3)), (r4, .inl (j4, 1920, .inl g4)), (r5, .inl (j5, 1920, .inl g5))] [(j3, .int), (j4, .int), (j5, .int)] (va_A ([(ti, .inr (6, [.ref r0, .int (nI ln), .ref r2, .ref r3, .ref r4, .ref r5, .int (nI nr), .ref r7, .ref r8, .ref r9])), (r3, .inl (j3, 1920, .inl h3)), (r4, .inl (j4, 1920, .inl h4)), (r5, .inl (j5, 1920, .inl h5))]) sz) t ∧ k1 ≤ 1920 ∧ ao_e M k1 g3 ∧ ao_e M k1 g4) (va_A ([(ti, .inr (6, [.ref r0, .int (nI ln), .ref r2, .ref r3, .ref r4, .ref r5, .int (nI nr), .ref r7, .ref r8, .ref r9])), (r3, .inl (j3, 1920, .inl h3)), (r4, .inl (j4, 1920, .inl h4)), (r5, .inl (j5, 1920, .inl h5))]) sz)) 0 0 (va_A ([(ti, .inr (6, [.ref r0, .int (nI ln), .ref r2, .ref r3, .ref r4, .ref r5, .int (nI nr), .ref r7, .ref r8, .ref r9])), (r3, .inl (j3, 1920, .inl h3)), (r4, .inl (j4, 1920, .inl h4)), (r5, .inl (j5, 1920, .inl h5))]) sz) := by
  refine Met.ofW (cc := cX6_layRule) (maxL := 4) (ret := none) (by decide) rfl ?_
  intro p e s m args below meth c s₁ B hml hv
  obtain ⟨rfl, rfl, hP, hK, hD0⟩ := hv
  have hx := B.exec
  have hb := B.bytes
  have hr := B.returns
  have hts := atoms_spec (ws := vs_X6_layRule) B.pre
  have v_1 := hts (.fieldLink RX6 57 "ClockReach$Timing" "rules" "I") (List.mem_of_getElem? (i := 1) rfl)
  have v_2 := hts (.fieldLink RX6 18 "ClockReach$Timing" "laters" "[I") (List.mem_of_getElem? (i := 2) rfl)
  have v_3 := hts (.fieldLink RX6 21 "ClockReach$Timing" "earliers" "[I") (List.mem_of_getElem? (i := 3) rfl)
  have v_4 := hts (.fieldLink RX6 24 "ClockReach$Timing" "gaps" "[I") (List.mem_of_getElem? (i := 4) rfl)
  have hown : s.vm.findClass RX6 = some m.cls := findClass_of_methodNamed B.named
  have hlocks := B.notSynchronized
  have hiX6 : ∀ w ∈ wsX60, w ∈ vs_X6_layRule := fun _ h => List.mem_cons_of_mem _ (List.mem_append_right _ h)
  have hD := hD0.self (sz := s.heap.size)
  generalize hAe : va_A ([(ti, .inr (6, [.ref r0, .int (nI ln), .ref r2, .ref r3, .ref r4, .ref r5, .int (nI nr), .ref r7, .ref r8, .ref r9])), (r3, .inl (j3, 1920, .inl h3)), (r4, .inl (j4, 1920, .inl h4)), (r5, .inl (j5, 1920, .inl h5))]) s.heap.size = A at hD ⊢
  have hA : ∀ q : Nat, s.heap.size ≤ q → A q := fun q h => by rw [← hAe]; exact Or.inr h
  have hS : va_S A s.heap s.heap [] := va_S.rf
  have hl := lv_entry ([.ref ti, .int (nI va), .int (nI vb), .int p0]) (n := 4) (Nat.le_of_ble_eq_true rfl)
  rw [lg_entry_eq]
  generalize (lg_sl ([.ref ti, .int (nI va), .int (nI vb), .int p0]) ++ List.replicate (4 - (lg_sl ([.ref ti, .int (nI va), .int (nI vb), .int p0])).length) Slot.unset).toArray = ls at hl ⊢
  have hl : lv_has ls 4 [(0, .ref ti), (1, .int (nI va)), (2, .int (nI vb)), (3, .int p0)] := hl
  refine lv_aload_n hx hb dX6_layRule_0 rfl (lv_at hl 0 rfl) ?_
  refine va_get (D := (dC, dI)) (ci := 6) (v := .int (nI nr)) (C := RX6) (T := TX6) (N := 10) hx hb hts hiX6 hown hK hP 0 rfl rfl 6 (by decide) v_1 (fun _ h9 => h9) rfl dX6_layRule_1 ?_
  refine lv_sipush (v := 1920) hx hb dX6_layRule_4 (by decide) ?_
  refine lv_icmp_ge (tgt := 50) hx hb dX6_layRule_7 (by decide) (fun c_1 => ?_) (fun c_1 => ?_)
  · have c_1 : 1920 ≤ nr := (nI_leI (a := 1920) (b := nr) (by omega) (by omega)).mp c_1
    have hP9 := hP.sub (ws' := [(ti, .inr (6, [.ref r0, .int (nI ln), .ref r2, .ref r3, .ref r4, .ref r5, .int (nI nr), .ref r7, .ref r8, .ref r9])), (r3, .inl (j3, 1920, .inl h3)), (r4, .inl (j4, 1920, .inl h4)), (r5, .inl (j5, 1920, .inl h5))]) [0, 1, 2, 3] rfl
    have hD9 := hD.sub (ws' := [(ti, .inr (6, [.ref r0, .int (nI ln), .ref r2, .ref r3, .ref r4, .ref r5, .int (nI nr), .ref r7, .ref r8, .ref r9])), (r3, .inl (j3, 1920, .inl h3)), (r4, .inl (j4, 1920, .inl h4)), (r5, .inl (j5, 1920, .inl h5))]) [0, 1, 2, 3] (by decide) rfl
    have hK9 := hK.sub (tys' := [(j3, .int), (j4, .int), (j5, .int)]) [0, 1, 2] rfl
    exact W.vret hx hb hr (fun t ht hW => ⟨⟨(), rfl, trivial, ⟨nr, h3, h4, h5, ⟨by rw [ht]; exact hP9, va_K.moved hW.alike hK9, hD9⟩, ⟨hnr, h3e, h4e⟩⟩⟩, hS.F ht⟩) hS.2.2 dX6_layRule_50
  · have c_1 : ¬ 1920 ≤ nr := fun z => c_1 ((nI_leI (a := 1920) (b := nr) (by omega) (by omega)).mpr z)
    refine lv_aload_n hx hb dX6_layRule_10 rfl (lv_at hl 0 rfl) ?_
    refine va_get (D := (dC, dI)) (ci := 6) (v := .ref r3) (C := RX6) (T := TX6) (N := 10) hx hb hts hiX6 hown hK hP 0 rfl rfl 3 (by decide) v_2 (fun _ h9 => h9) rfl dX6_layRule_11 ?_
    refine lv_aload_n hx hb dX6_layRule_14 rfl (lv_at hl 0 rfl) ?_
    refine va_get (D := (dC, dI)) (ci := 6) (v := .int (nI nr)) (C := RX6) (T := TX6) (N := 10) hx hb hts hiX6 hown hK hP 0 rfl rfl 6 (by decide) v_1 (fun _ h9 => h9) rfl dX6_layRule_15 ?_
    refine lv_iload_n hx hb dX6_layRule_18 rfl (lv_at hl 1 rfl) ?_
    refine va_iast hx hb hK hP hD hS 1 0 rfl rfl (vp_in_nI (n := nr) (by first | omega | exact ix_lt (by omega) (by omega) hn | exact ix_lt0 (by omega) hn | exact ix_ltq (by omega) hn | exact ix_lt1 (by omega) hn) (by omega)) dX6_layRule_19 (fun H locs hP hD hS => ?_)
    have hP : va_P (dC, dI) vwCl [(ti, .inr (6, [.ref r0, .int (nI ln), .ref r2, .ref r3, .ref r4, .ref r5, .int (nI nr), .ref r7, .ref r8, .ref r9])), (r3, .inl (j3, 1920, .inl (upd h3 ((nI nr) : Int32).toNatClampNeg (nI va)))), (r4, .inl (j4, 1920, .inl h4)), (r5, .inl (j5, 1920, .inl h5))] H := hP
    have hD : va_D A [(ti, .inr (6, [.ref r0, .int (nI ln), .ref r2, .ref r3, .ref r4, .ref r5, .int (nI nr), .ref r7, .ref r8, .ref r9])), (r3, .inl (j3, 1920, .inl (upd h3 ((nI nr) : Int32).toNatClampNeg (nI va)))), (r4, .inl (j4, 1920, .inl h4)), (r5, .inl (j5, 1920, .inl h5))] := hD
    refine lv_aload_n hx hb dX6_layRule_20 rfl (lv_at hl 0 rfl) ?_
    refine va_get (D := (dC, dI)) (ci := 6) (v := .ref r4) (C := RX6) (T := TX6) (N := 10) hx hb hts hiX6 hown hK hP 0 rfl rfl 4 (by decide) v_3 (fun _ h9 => h9) rfl dX6_layRule_21 ?_
    refine lv_aload_n hx hb dX6_layRule_24 rfl (lv_at hl 0 rfl) ?_
    refine va_get (D := (dC, dI)) (ci := 6) (v := .int (nI nr)) (C := RX6) (T := TX6) (N := 10) hx hb hts hiX6 hown hK hP 0 rfl rfl 6 (by decide) v_1 (fun _ h9 => h9) rfl dX6_layRule_25 ?_
    refine lv_iload_n hx hb dX6_layRule_28 rfl (lv_at hl 2 rfl) ?_
    refine va_iast hx hb hK hP hD hS 2 1 rfl rfl (vp_in_nI (n := nr) (by first | omega | exact ix_lt (by omega) (by omega) hn | exact ix_lt0 (by omega) hn | exact ix_ltq (by omega) hn | exact ix_lt1 (by omega) hn) (by omega)) dX6_layRule_29 (fun H locs hP hD hS => ?_)
    have hP : va_P (dC, dI) vwCl [(ti, .inr (6, [.ref r0, .int (nI ln), .ref r2, .ref r3, .ref r4, .ref r5, .int (nI nr), .ref r7, .ref r8, .ref r9])), (r3, .inl (j3, 1920, .inl (upd h3 ((nI nr) : Int32).toNatClampNeg (nI va)))), (r4, .inl (j4, 1920, .inl (upd h4 ((nI nr) : Int32).toNatClampNeg (nI vb)))), (r5, .inl (j5, 1920, .inl h5))] H := hP
    have hD : va_D A [(ti, .inr (6, [.ref r0, .int (nI ln), .ref r2, .ref r3, .ref r4, .ref r5, .int (nI nr), .ref r7, .ref r8, .ref r9])), (r3, .inl (j3, 1920, .inl (upd h3 ((nI nr) : Int32).toNatClampNeg (nI va)))), (r4, .inl (j4, 1920, .inl (upd h4 ((nI nr) : Int32).toNatClampNeg (nI vb)))), (r5, .inl (j5, 1920, .inl h5))] := hD
    refine lv_aload_n hx hb dX6_layRule_30 rfl (lv_at hl 0 rfl) ?_
    refine va_get (D := (dC, dI)) (ci := 6) (v := .ref r5) (C := RX6) (T := TX6) (N := 10) hx hb hts hiX6 hown hK hP 0 rfl rfl 5 (by decide) v_4 (fun _ h9 => h9) rfl dX6_layRule_31 ?_
    refine lv_aload_n hx hb dX6_layRule_34 rfl (lv_at hl 0 rfl) ?_
    refine va_get (D := (dC, dI)) (ci := 6) (v := .int (nI nr)) (C := RX6) (T := TX6) (N := 10) hx hb hts hiX6 hown hK hP 0 rfl rfl 6 (by decide) v_1 (fun _ h9 => h9) rfl dX6_layRule_35 ?_
    refine lv_iload_n hx hb dX6_layRule_38 rfl (lv_at hl 3 rfl) ?_
    refine va_iast hx hb hK hP hD hS 3 2 rfl rfl (vp_in_nI (n := nr) (by first | omega | exact ix_lt (by omega) (by omega) hn | exact ix_lt0 (by omega) hn | exact ix_ltq (by omega) hn | exact ix_lt1 (by omega) hn) (by omega)) dX6_layRule_39 (fun H locs hP hD hS => ?_)
    have hP : va_P (dC, dI) vwCl [(ti, .inr (6, [.ref r0, .int (nI ln), .ref r2, .ref r3, .ref r4, .ref r5, .int (nI nr), .ref r7, .ref r8, .ref r9])), (r3, .inl (j3, 1920, .inl (upd h3 ((nI nr) : Int32).toNatClampNeg (nI va)))), (r4, .inl (j4, 1920, .inl (upd h4 ((nI nr) : Int32).toNatClampNeg (nI vb)))), (r5, .inl (j5, 1920, .inl (upd h5 ((nI nr) : Int32).toNatClampNeg p0)))] H := hP
    have hD : va_D A [(ti, .inr (6, [.ref r0, .int (nI ln), .ref r2, .ref r3, .ref r4, .ref r5, .int (nI nr), .ref r7, .ref r8, .ref r9])), (r3, .inl (j3, 1920, .inl (upd h3 ((nI nr) : Int32).toNatClampNeg (nI va)))), (r4, .inl (j4, 1920, .inl (upd h4 ((nI nr) : Int32).toNatClampNeg (nI vb)))), (r5, .inl (j5, 1920, .inl (upd h5 ((nI nr) : Int32).toNatClampNeg p0)))] := hD
    refine lv_aload_n hx hb dX6_layRule_40 rfl (lv_at hl 0 rfl) ?_
    refine lv_dup hx hb dX6_layRule_41 rfl ?_
    refine va_get (D := (dC, dI)) (ci := 6) (v := .int (nI nr)) (C := RX6) (T := TX6) (N := 10) hx hb hts hiX6 hown hK hP 0 rfl rfl 6 (by decide) v_1 (fun _ h9 => h9) rfl dX6_layRule_42 ?_
    refine lv_iconst (v := 1) hx hb dX6_layRule_45 (by decide) ?_
    refine lv_iadd hx hb dX6_layRule_46 ?_
    refine lv_topi (fun y_2 ey_2 => ?_)
    obtain rfl : y_2 = (nI (nr + 1)) := ey_2.trans (nI_add nr 1)
    refine va_put (D := (dC, dI)) (ci := 6) (v := .int (nI (nr + 1))) (ty := .int) (C := RX6) (T := TX6) (N := 10) hx hb hts hiX6 tyX6 tyX6_ok nmX6 hown hK hP hD hS 0 rfl rfl 6 (by decide) v_1 (fun _ h9 => h9) rfl (by decide +kernel) rfl rfl (Nat.le_of_ble_eq_true rfl) dX6_layRule_47 (fun H locs hP hD hS => ?_)
    have hP : va_P (dC, dI) vwCl [(ti, .inr (6, [.ref r0, .int (nI ln), .ref r2, .ref r3, .ref r4, .ref r5, .int (nI (nr + 1)), .ref r7, .ref r8, .ref r9])), (r3, .inl (j3, 1920, .inl (upd h3 ((nI nr) : Int32).toNatClampNeg (nI va)))), (r4, .inl (j4, 1920, .inl (upd h4 ((nI nr) : Int32).toNatClampNeg (nI vb)))), (r5, .inl (j5, 1920, .inl (upd h5 ((nI nr) : Int32).toNatClampNeg p0)))] H := hP
    have hD : va_D A [(ti, .inr (6, [.ref r0, .int (nI ln), .ref r2, .ref r3, .ref r4, .ref r5, .int (nI (nr + 1)), .ref r7, .ref r8, .ref r9])), (r3, .inl (j3, 1920, .inl (upd h3 ((nI nr) : Int32).toNatClampNeg (nI va)))), (r4, .inl (j4, 1920, .inl (upd h4 ((nI nr) : Int32).toNatClampNeg (nI vb)))), (r5, .inl (j5, 1920, .inl (upd h5 ((nI nr) : Int32).toNatClampNeg p0)))] := hD
    have hP9 := hP.sub (ws' := [(ti, .inr (6, [.ref r0, .int (nI ln), .ref r2, .ref r3, .ref r4, .ref r5, .int (nI (nr + 1)), .ref r7, .ref r8, .ref r9])), (r3, .inl (j3, 1920, .inl (upd h3 ((nI nr) : Int32).toNatClampNeg (nI va)))), (r4, .inl (j4, 1920, .inl (upd h4 ((nI nr) : Int32).toNatClampNeg (nI vb)))), (r5, .inl (j5, 1920, .inl (upd h5 ((nI nr) : Int32).toNatClampNeg p0)))]) [0, 1, 2, 3] rfl
    have hD9 := hD.sub (ws' := [(ti, .inr (6, [.ref r0, .int (nI ln), .ref r2, .ref r3, .ref r4, .ref r5, .int (nI (nr + 1)), .ref r7, .ref r8, .ref r9])), (r3, .inl (j3, 1920, .inl (upd h3 ((nI nr) : Int32).toNatClampNeg (nI va)))), (r4, .inl (j4, 1920, .inl (upd h4 ((nI nr) : Int32).toNatClampNeg (nI vb)))), (r5, .inl (j5, 1920, .inl (upd h5 ((nI nr) : Int32).toNatClampNeg p0)))]) [0, 1, 2, 3] (by decide) rfl
    have hK9 := hK.sub (tys' := [(j3, .int), (j4, .int), (j5, .int)]) [0, 1, 2] rfl
    exact W.vret hx hb hr (fun t ht hW => ⟨⟨(), rfl, trivial, ⟨(nr + 1), upd h3 ((nI nr) : Int32).toNatClampNeg (nI va), upd h4 ((nI nr) : Int32).toNatClampNeg (nI vb), upd h5 ((nI nr) : Int32).toNatClampNeg p0, ⟨by rw [ht]; exact hP9, va_K.moved hW.alike hK9, hD9⟩, ⟨by omega, ao_new h3e ha (by omega), ao_new h4e hb9 (by omega)⟩⟩⟩, hS.F ht⟩) hS.2.2 dX6_layRule_50
