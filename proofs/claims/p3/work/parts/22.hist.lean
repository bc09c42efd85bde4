/-- what an act keeps: the slot of a condition, or a place below 0 -/
def hi_1 (x : Int32) : Prop := (∃ q : Nat, q < 88 ∧ x = nI q) ∨ (∃ q : Nat, q < 8 ∧ x = -1 - nI q)
def hi_ok (n : Nat) (f : Nat → Int32) : Prop := ∀ j : Nat, j < n → hi_1 (f j)
theorem hi_up {n k : Nat} {f : Nat → Int32} {v : Int32} (h : hi_ok n f) (hv : hi_1 v) : hi_ok n (upd f k v) := by
  intro j hj
  by_cases e : j = k
  · subst e; rw [pk_us]; exact hv
  · rw [pk_un e]; exact h j hj
theorem hi_cl {n i : Nat} {f : Nat → Int32} (h : hi_ok n f) (hi : i < n) (hn : n ≤ 100) : hi_1 (f (nI i).toNatClampNeg) := by
  rw [nI_clamp (by omega)]
  exact h i hi
theorem hi_new {n : Nat} {f : Nat → Int32} {v : Int32} (h : hi_ok n f) (hv : hi_1 v) (hn : n ≤ 100) : hi_ok (n + 1) (upd f (nI n).toNatClampNeg v) := by
  intro j hj
  rw [nI_clamp (by omega)]
  by_cases e : j = n
  · subst e; rw [pk_us]; exact hv
  · rw [pk_un e]; exact h j (by omega)
def vs_X2_keep_ok : List Cond := .code yX2_keep cX2_keep 4 none :: ([.fieldLink RX2 18 "ClockReach$History" "count" "I", .fieldLink RX2 9 "ClockReach$History" "codes" "[I", .fieldLink RX2 15 "ClockReach$History" "olds" "[I"] ++ wsX20)
set_option maxHeartbeats 4000000 in
set_option maxRecDepth 100000 in
theorem c_X2_keep_ok (l : Launch) (dC : Nat → ClassId) (dI : Nat → Nat → Nat) (sz : Nat) (hy : Nat) (co ol : Nat) (kco kol : ClassId) (hk : Nat) (fo fl : Nat → Int32) (hk20 : hk ≤ 20) (hok : hi_ok hk fo) (p0 p1 : Int32) (hp0 : hi_1 p0) : Met l yX2_keep vs_X2_keep_ok ({ frames := 0, cells := 0, slots := 0, locals := 0 }) (va_Pc [.ref hy, .int p0, .int p1] (pu_B (dC, dI) [(hy, .inr (2, [.int (nI hk), .ref co, .ref ol])), (co, .inl (kco, 20, .inl fo)), (ol, .inl (kol, 20, .inl fl))] [(kco, .int), (kol, .int)] sz)) (va_Qv (fun (_ : Unit) => True) (fun _ t => ∃ (k1 : Nat) (g1 g2 : Nat → Int32), pu_E (dC, dI) [(hy, .inr (2, [.int (nI k1), .ref co, .ref ol])), (co, .inl (kco, 20, .inl g1)), (ol, .inl (kol, 20, .inl g2))] [(kco, .int), (kol, .int)] (va_A ([(hy, .inr (2, [.int (nI hk), .ref co, .ref ol])), (co, .inl (kco, 20, .inl fo)), (ol, .inl (kol, 20, .inl fl))]) sz) t ∧ k1 ≤ 20 ∧ hi_ok k1 g1) (va_A ([(hy, .inr (2, [.int (nI hk), .ref co, .ref ol])), (co, .inl (kco, 20, .inl fo)), (ol, .inl (kol, 20, .inl fl))]) sz)) 0 0 (va_A ([(hy, .inr (2, [.int (nI hk), .ref co, .ref ol])), (co, .inl (kco, 20, .inl fo)), (ol, .inl (kol, 20, .inl fl))]) sz) := by
  refine Met.ofW (cc := cX2_keep) (maxL := 4) (ret := none) (by decide) rfl ?_
  intro p e s m args below meth c s₁ B hml hv
  obtain ⟨rfl, rfl, hP, hK, hD0⟩ := hv
  have hx := B.exec
  have hb := B.bytes
  have hr := B.returns
  have hts := atoms_spec (ws := vs_X2_keep_ok) B.pre
  have v_1 := hts (.fieldLink RX2 18 "ClockReach$History" "count" "I") (List.mem_of_getElem? (i := 1) rfl)
  have v_2 := hts (.fieldLink RX2 9 "ClockReach$History" "codes" "[I") (List.mem_of_getElem? (i := 2) rfl)
  have v_3 := hts (.fieldLink RX2 15 "ClockReach$History" "olds" "[I") (List.mem_of_getElem? (i := 3) rfl)
  have hown : s.vm.findClass RX2 = some m.cls := findClass_of_methodNamed B.named
  have hlocks := B.notSynchronized
  have hiX2 : ∀ w ∈ wsX20, w ∈ vs_X2_keep_ok := fun _ h => List.mem_cons_of_mem _ (List.mem_append_right _ h)
  have hD := hD0.self (sz := s.heap.size)
  generalize hAe : va_A ([(hy, .inr (2, [.int (nI hk), .ref co, .ref ol])), (co, .inl (kco, 20, .inl fo)), (ol, .inl (kol, 20, .inl fl))]) s.heap.size = A at hD ⊢
  have hA : ∀ q : Nat, s.heap.size ≤ q → A q := fun q h => by rw [← hAe]; exact Or.inr h
  have hS : va_S A s.heap s.heap [] := va_S.rf
  have hl := lv_entry ([.ref hy, .int p0, .int p1]) (n := 4) (Nat.le_of_ble_eq_true rfl)
  rw [lg_entry_eq]
  generalize (lg_sl ([.ref hy, .int p0, .int p1]) ++ List.replicate (4 - (lg_sl ([.ref hy, .int p0, .int p1])).length) Slot.unset).toArray = ls at hl ⊢
  have hl : lv_has ls 4 [(0, .ref hy), (1, .int p0), (2, .int p1)] := hl
  refine lv_aload_n hx hb dX2_keep_0 rfl (lv_at hl 0 rfl) ?_
  refine va_get (D := (dC, dI)) (ci := 2) (v := .int (nI hk)) (C := RX2) (T := TX2) (N := 3) hx hb hts hiX2 hown hK hP 0 rfl rfl 0 (by decide) v_1 (fun _ h9 => h9) rfl dX2_keep_1 ?_
  refine lv_bipush (v := 20) hx hb dX2_keep_4 (by decide) ?_
  refine lv_icmp_ne (tgt := 61) hx hb dX2_keep_6 (by decide) (fun c_1 => ?_) (fun c_1 => ?_)
  · have c_1 : ¬ hk = 20 := fun z => c_1 ((nI_eq (a := hk) (b := 20) (by omega) (by omega)).mpr z)
    refine lv_aload_n hx hb dX2_keep_61 rfl (lv_at hl 0 rfl) ?_
    refine va_get (D := (dC, dI)) (ci := 2) (v := .ref co) (C := RX2) (T := TX2) (N := 3) hx hb hts hiX2 hown hK hP 0 rfl rfl 1 (by decide) v_2 (fun _ h9 => h9) rfl dX2_keep_62 ?_
    refine lv_aload_n hx hb dX2_keep_65 rfl (lv_at hl 0 rfl) ?_
    refine va_get (D := (dC, dI)) (ci := 2) (v := .int (nI hk)) (C := RX2) (T := TX2) (N := 3) hx hb hts hiX2 hown hK hP 0 rfl rfl 0 (by decide) v_1 (fun _ h9 => h9) rfl dX2_keep_66 ?_
    refine lv_iload_n hx hb dX2_keep_69 rfl (lv_at hl 1 rfl) ?_
    refine va_iast hx hb hK hP hD hS 1 0 rfl rfl (vp_in_nI (n := hk) (by first | omega | exact ix_lt (by omega) (by omega) hn | exact ix_lt0 (by omega) hn | exact ix_ltq (by omega) hn | exact ix_lt1 (by omega) hn) (by omega)) dX2_keep_70 (fun H locs hP hD hS => ?_)
    have hP : va_P (dC, dI) vwCl [(hy, .inr (2, [.int (nI hk), .ref co, .ref ol])), (co, .inl (kco, 20, .inl (upd fo ((nI hk) : Int32).toNatClampNeg p0))), (ol, .inl (kol, 20, .inl fl))] H := hP
    have hD : va_D A [(hy, .inr (2, [.int (nI hk), .ref co, .ref ol])), (co, .inl (kco, 20, .inl (upd fo ((nI hk) : Int32).toNatClampNeg p0))), (ol, .inl (kol, 20, .inl fl))] := hD
    refine lv_aload_n hx hb dX2_keep_71 rfl (lv_at hl 0 rfl) ?_
    refine va_get (D := (dC, dI)) (ci := 2) (v := .ref ol) (C := RX2) (T := TX2) (N := 3) hx hb hts hiX2 hown hK hP 0 rfl rfl 2 (by decide) v_3 (fun _ h9 => h9) rfl dX2_keep_72 ?_
    refine lv_aload_n hx hb dX2_keep_75 rfl (lv_at hl 0 rfl) ?_
    refine va_get (D := (dC, dI)) (ci := 2) (v := .int (nI hk)) (C := RX2) (T := TX2) (N := 3) hx hb hts hiX2 hown hK hP 0 rfl rfl 0 (by decide) v_1 (fun _ h9 => h9) rfl dX2_keep_76 ?_
    refine lv_iload_n hx hb dX2_keep_79 rfl (lv_at hl 2 rfl) ?_
    refine va_iast hx hb hK hP hD hS 2 1 rfl rfl (vp_in_nI (n := hk) (by first | omega | exact ix_lt (by omega) (by omega) hn | exact ix_lt0 (by omega) hn | exact ix_ltq (by omega) hn | exact ix_lt1 (by omega) hn) (by omega)) dX2_keep_80 (fun H locs hP hD hS => ?_)
    have hP : va_P (dC, dI) vwCl [(hy, .inr (2, [.int (nI hk), .ref co, .ref ol])), (co, .inl (kco, 20, .inl (upd fo ((nI hk) : Int32).toNatClampNeg p0))), (ol, .inl (kol, 20, .inl (upd fl ((nI hk) : Int32).toNatClampNeg p1)))] H := hP
    have hD : va_D A [(hy, .inr (2, [.int (nI hk), .ref co, .ref ol])), (co, .inl (kco, 20, .inl (upd fo ((nI hk) : Int32).toNatClampNeg p0))), (ol, .inl (kol, 20, .inl (upd fl ((nI hk) : Int32).toNatClampNeg p1)))] := hD
    refine lv_aload_n hx hb dX2_keep_81 rfl (lv_at hl 0 rfl) ?_
    refine lv_dup hx hb dX2_keep_82 rfl ?_
    refine va_get (D := (dC, dI)) (ci := 2) (v := .int (nI hk)) (C := RX2) (T := TX2) (N := 3) hx hb hts hiX2 hown hK hP 0 rfl rfl 0 (by decide) v_1 (fun _ h9 => h9) rfl dX2_keep_83 ?_
    refine lv_iconst (v := 1) hx hb dX2_keep_86 (by decide) ?_
    refine lv_iadd hx hb dX2_keep_87 ?_
    refine lv_topi (fun y_2 ey_2 => ?_)
    obtain rfl : y_2 = (nI (hk + 1)) := ey_2.trans (nI_add hk 1)
    refine va_put (D := (dC, dI)) (ci := 2) (v := .int (nI (hk + 1))) (ty := .int) (C := RX2) (T := TX2) (N := 3) hx hb hts hiX2 tyX2 tyX2_ok nmX2 hown hK hP hD hS 0 rfl rfl 0 (by decide) v_1 (fun _ h9 => h9) rfl (by decide +kernel) rfl rfl (Nat.le_of_ble_eq_true rfl) dX2_keep_88 (fun H locs hP hD hS => ?_)
    have hP : va_P (dC, dI) vwCl [(hy, .inr (2, [.int (nI (hk + 1)), .ref co, .ref ol])), (co, .inl (kco, 20, .inl (upd fo ((nI hk) : Int32).toNatClampNeg p0))), (ol, .inl (kol, 20, .inl (upd fl ((nI hk) : Int32).toNatClampNeg p1)))] H := hP
    have hD : va_D A [(hy, .inr (2, [.int (nI (hk + 1)), .ref co, .ref ol])), (co, .inl (kco, 20, .inl (upd fo ((nI hk) : Int32).toNatClampNeg p0))), (ol, .inl (kol, 20, .inl (upd fl ((nI hk) : Int32).toNatClampNeg p1)))] := hD
    have hP9 := hP.sub (ws' := [(hy, .inr (2, [.int (nI (hk + 1)), .ref co, .ref ol])), (co, .inl (kco, 20, .inl (upd fo ((nI hk) : Int32).toNatClampNeg p0))), (ol, .inl (kol, 20, .inl (upd fl ((nI hk) : Int32).toNatClampNeg p1)))]) [0, 1, 2] rfl
    have hD9 := hD.sub (ws' := [(hy, .inr (2, [.int (nI (hk + 1)), .ref co, .ref ol])), (co, .inl (kco, 20, .inl (upd fo ((nI hk) : Int32).toNatClampNeg p0))), (ol, .inl (kol, 20, .inl (upd fl ((nI hk) : Int32).toNatClampNeg p1)))]) [0, 1, 2] (by decide) rfl
    have hK9 := hK.sub (tys' := [(kco, .int), (kol, .int)]) [0, 1] rfl
    exact W.vret hx hb hr (fun t ht hW => ⟨⟨(), rfl, trivial, ⟨(hk + 1), upd fo ((nI hk) : Int32).toNatClampNeg p0, upd fl ((nI hk) : Int32).toNatClampNeg p1, ⟨by rw [ht]; exact hP9, va_K.moved hW.alike hK9, hD9⟩, ⟨by omega, hi_new hok hp0 (by omega)⟩⟩⟩, hS.F ht⟩) hS.2.2 dX2_keep_91
  · have c_1 : hk = 20 := (nI_eq (a := hk) (b := 20) (by omega) (by omega)).mp c_1
    refine lv_iconst (v := 1) hx hb dX2_keep_9 (by decide) ?_
    refine lv_istore_n (lv' := [(3, .int 1), (0, .ref hy), (1, .int p0), (2, .int p1)]) hx hb dX2_keep_10 rfl hl (by decide) rfl (fun ls hl => ?_)
    have hk20e : hk = 20 := by omega
    refine pu_loop (19) (fun ii H locs ls => ∃ f0 : Nat → Int32, ∃ f1 : Nat → Int32, va_P (dC, dI) vwCl [(hy, .inr (2, [.int (nI hk), .ref co, .ref ol])), (co, .inl (kco, 20, .inl f0)), (ol, .inl (kol, 20, .inl f1))] H ∧ va_D A [(hy, .inr (2, [.int (nI hk), .ref co, .ref ol])), (co, .inl (kco, 20, .inl f0)), (ol, .inl (kol, 20, .inl f1))] ∧ va_S A s.heap H locs ∧ lv_has ls 4 [(0, .ref hy), (1, .int p0), (2, .int p1), (3, .int (nI (1 + ii)))] ∧ hi_ok 20 f0) (fun _ => 0) (fun _ => 0) 11 [] ?_ ?_ _ _ _ ⟨_, _, hP, hD, hS, lv_sub hl [1, 2, 3, 0] rfl, (by rw [← hk20e]; exact hok)⟩
    · rintro H locs ls ⟨f_3, f_4, hP, hD, hS, hl, hpr_8⟩
      refine lv_iload_n hx hb dX2_keep_11 rfl (lv_at hl 3 rfl) ?_
      refine lv_bipush (v := 20) hx hb dX2_keep_12 (by decide) ?_
      refine lv_icmp_ge (tgt := 51) hx hb dX2_keep_14 (by decide) (fun _ => ?_) (fun z => absurd (nI_le (a := 20) (b := (1 + 19)) (by omega) (by omega)) z)
      refine lv_aload_n hx hb dX2_keep_51 rfl (lv_at hl 0 rfl) ?_
      refine lv_dup hx hb dX2_keep_52 rfl ?_
      refine va_get (D := (dC, dI)) (ci := 2) (v := .int (nI hk)) (C := RX2) (T := TX2) (N := 3) hx hb hts hiX2 hown hK hP 0 rfl rfl 0 (by decide) v_1 (fun _ h9 => h9) rfl dX2_keep_53 ?_
      refine lv_iconst (v := 1) hx hb dX2_keep_56 (by decide) ?_
      refine lv_isub hx hb dX2_keep_57 ?_
      refine lv_topi (fun y_9 ey_9 => ?_)
      obtain rfl : y_9 = (nI (hk - 1)) := ey_9.trans (pk_sub (a := hk) (b := 1) (by omega))
      refine va_put (D := (dC, dI)) (ci := 2) (v := .int (nI (hk - 1))) (ty := .int) (C := RX2) (T := TX2) (N := 3) hx hb hts hiX2 tyX2 tyX2_ok nmX2 hown hK hP hD hS 0 rfl rfl 0 (by decide) v_1 (fun _ h9 => h9) rfl (by decide +kernel) rfl rfl (Nat.le_of_ble_eq_true rfl) dX2_keep_58 (fun H locs hP hD hS => ?_)
      have hP : va_P (dC, dI) vwCl [(hy, .inr (2, [.int (nI (hk - 1)), .ref co, .ref ol])), (co, .inl (kco, 20, .inl f_3)), (ol, .inl (kol, 20, .inl f_4))] H := hP
      have hD : va_D A [(hy, .inr (2, [.int (nI (hk - 1)), .ref co, .ref ol])), (co, .inl (kco, 20, .inl f_3)), (ol, .inl (kol, 20, .inl f_4))] := hD
      refine lv_aload_n hx hb dX2_keep_61 rfl (lv_at hl 0 rfl) ?_
      refine va_get (D := (dC, dI)) (ci := 2) (v := .ref co) (C := RX2) (T := TX2) (N := 3) hx hb hts hiX2 hown hK hP 0 rfl rfl 1 (by decide) v_2 (fun _ h9 => h9) rfl dX2_keep_62 ?_
      refine lv_aload_n hx hb dX2_keep_65 rfl (lv_at hl 0 rfl) ?_
      refine va_get (D := (dC, dI)) (ci := 2) (v := .int (nI (hk - 1))) (C := RX2) (T := TX2) (N := 3) hx hb hts hiX2 hown hK hP 0 rfl rfl 0 (by decide) v_1 (fun _ h9 => h9) rfl dX2_keep_66 ?_
      refine lv_iload_n hx hb dX2_keep_69 rfl (lv_at hl 1 rfl) ?_
      refine va_iast hx hb hK hP hD hS 1 0 rfl rfl (vp_in_nI (n := (hk - 1)) (by first | omega | exact ix_lt (by omega) (by omega) hn | exact ix_lt0 (by omega) hn | exact ix_ltq (by omega) hn | exact ix_lt1 (by omega) hn) (by omega)) dX2_keep_70 (fun H locs hP hD hS => ?_)
      have hP : va_P (dC, dI) vwCl [(hy, .inr (2, [.int (nI (hk - 1)), .ref co, .ref ol])), (co, .inl (kco, 20, .inl (upd f_3 ((nI (hk - 1)) : Int32).toNatClampNeg p0))), (ol, .inl (kol, 20, .inl f_4))] H := hP
      have hD : va_D A [(hy, .inr (2, [.int (nI (hk - 1)), .ref co, .ref ol])), (co, .inl (kco, 20, .inl (upd f_3 ((nI (hk - 1)) : Int32).toNatClampNeg p0))), (ol, .inl (kol, 20, .inl f_4))] := hD
      refine lv_aload_n hx hb dX2_keep_71 rfl (lv_at hl 0 rfl) ?_
      refine va_get (D := (dC, dI)) (ci := 2) (v := .ref ol) (C := RX2) (T := TX2) (N := 3) hx hb hts hiX2 hown hK hP 0 rfl rfl 2 (by decide) v_3 (fun _ h9 => h9) rfl dX2_keep_72 ?_
      refine lv_aload_n hx hb dX2_keep_75 rfl (lv_at hl 0 rfl) ?_
      refine va_get (D := (dC, dI)) (ci := 2) (v := .int (nI (hk - 1))) (C := RX2) (T := TX2) (N := 3) hx hb hts hiX2 hown hK hP 0 rfl rfl 0 (by decide) v_1 (fun _ h9 => h9) rfl dX2_keep_76 ?_
      refine lv_iload_n hx hb dX2_keep_79 rfl (lv_at hl 2 rfl) ?_
      refine va_iast hx hb hK hP hD hS 2 1 rfl rfl (vp_in_nI (n := (hk - 1)) (by first | omega | exact ix_lt (by omega) (by omega) hn | exact ix_lt0 (by omega) hn | exact ix_ltq (by omega) hn | exact ix_lt1 (by omega) hn) (by omega)) dX2_keep_80 (fun H locs hP hD hS => ?_)
      have hP : va_P (dC, dI) vwCl [(hy, .inr (2, [.int (nI (hk - 1)), .ref co, .ref ol])), (co, .inl (kco, 20, .inl (upd f_3 ((nI (hk - 1)) : Int32).toNatClampNeg p0))), (ol, .inl (kol, 20, .inl (upd f_4 ((nI (hk - 1)) : Int32).toNatClampNeg p1)))] H := hP
      have hD : va_D A [(hy, .inr (2, [.int (nI (hk - 1)), .ref co, .ref ol])), (co, .inl (kco, 20, .inl (upd f_3 ((nI (hk - 1)) : Int32).toNatClampNeg p0))), (ol, .inl (kol, 20, .inl (upd f_4 ((nI (hk - 1)) : Int32).toNatClampNeg p1)))] := hD
      refine lv_aload_n hx hb dX2_keep_81 rfl (lv_at hl 0 rfl) ?_
      refine lv_dup hx hb dX2_keep_82 rfl ?_
      refine va_get (D := (dC, dI)) (ci := 2) (v := .int (nI (hk - 1))) (C := RX2) (T := TX2) (N := 3) hx hb hts hiX2 hown hK hP 0 rfl rfl 0 (by decide) v_1 (fun _ h9 => h9) rfl dX2_keep_83 ?_
      refine lv_iconst (v := 1) hx hb dX2_keep_86 (by decide) ?_
      refine lv_iadd hx hb dX2_keep_87 ?_
      refine lv_topi (fun y_10 ey_10 => ?_)
      obtain rfl : y_10 = (nI ((hk - 1) + 1)) := ey_10.trans (nI_add (hk - 1) 1)
      refine va_put (D := (dC, dI)) (ci := 2) (v := .int (nI ((hk - 1) + 1))) (ty := .int) (C := RX2) (T := TX2) (N := 3) hx hb hts hiX2 tyX2 tyX2_ok nmX2 hown hK hP hD hS 0 rfl rfl 0 (by decide) v_1 (fun _ h9 => h9) rfl (by decide +kernel) rfl rfl (Nat.le_of_ble_eq_true rfl) dX2_keep_88 (fun H locs hP hD hS => ?_)
      have hP : va_P (dC, dI) vwCl [(hy, .inr (2, [.int (nI ((hk - 1) + 1)), .ref co, .ref ol])), (co, .inl (kco, 20, .inl (upd f_3 ((nI (hk - 1)) : Int32).toNatClampNeg p0))), (ol, .inl (kol, 20, .inl (upd f_4 ((nI (hk - 1)) : Int32).toNatClampNeg p1)))] H := hP
      have hD : va_D A [(hy, .inr (2, [.int (nI ((hk - 1) + 1)), .ref co, .ref ol])), (co, .inl (kco, 20, .inl (upd f_3 ((nI (hk - 1)) : Int32).toNatClampNeg p0))), (ol, .inl (kol, 20, .inl (upd f_4 ((nI (hk - 1)) : Int32).toNatClampNeg p1)))] := hD
      have hP9 := hP.sub (ws' := [(hy, .inr (2, [.int (nI ((hk - 1) + 1)), .ref co, .ref ol])), (co, .inl (kco, 20, .inl (upd f_3 ((nI (hk - 1)) : Int32).toNatClampNeg p0))), (ol, .inl (kol, 20, .inl (upd f_4 ((nI (hk - 1)) : Int32).toNatClampNeg p1)))]) [0, 1, 2] rfl
      have hD9 := hD.sub (ws' := [(hy, .inr (2, [.int (nI ((hk - 1) + 1)), .ref co, .ref ol])), (co, .inl (kco, 20, .inl (upd f_3 ((nI (hk - 1)) : Int32).toNatClampNeg p0))), (ol, .inl (kol, 20, .inl (upd f_4 ((nI (hk - 1)) : Int32).toNatClampNeg p1)))]) [0, 1, 2] (by decide) rfl
      have hK9 := hK.sub (tys' := [(kco, .int), (kol, .int)]) [0, 1] rfl
      exact W.vret hx hb hr (fun t ht hW => ⟨⟨(), rfl, trivial, ⟨((hk - 1) + 1), upd f_3 ((nI (hk - 1)) : Int32).toNatClampNeg p0, upd f_4 ((nI (hk - 1)) : Int32).toNatClampNeg p1, ⟨by rw [ht]; exact hP9, va_K.moved hW.alike hK9, hD9⟩, ⟨by omega, by rw [show hk - 1 + 1 = 20 by omega]; exact hi_up hpr_8 hp0⟩⟩⟩, hS.F ht⟩) hS.2.2 dX2_keep_91
    · rintro i_5 h_6 ih_7 H locs ls ⟨f_3, f_4, hP, hD, hS, hl, hpr_8⟩
      refine lv_iload_n hx hb dX2_keep_11 rfl (lv_at hl 3 rfl) ?_
      refine lv_bipush (v := 20) hx hb dX2_keep_12 (by decide) ?_
      refine lv_icmp_ge (tgt := 51) hx hb dX2_keep_14 (by decide) (fun z => absurd z (nI_ge (a := (1 + i_5)) (b := 20) (by omega) (by omega))) (fun _ => ?_)
      refine lv_aload_n hx hb dX2_keep_17 rfl (lv_at hl 0 rfl) ?_
      refine va_get (D := (dC, dI)) (ci := 2) (v := .ref co) (C := RX2) (T := TX2) (N := 3) hx hb hts hiX2 hown hK hP 0 rfl rfl 1 (by decide) v_2 (fun _ h9 => h9) rfl dX2_keep_18 ?_
      refine lv_iload_n hx hb dX2_keep_21 rfl (lv_at hl 3 rfl) ?_
      refine lv_iconst (v := 1) hx hb dX2_keep_22 (by decide) ?_
      refine lv_isub hx hb dX2_keep_23 ?_
      refine lv_topi (fun y_11 ey_11 => ?_)
      obtain rfl : y_11 = (nI ((1 + i_5) - 1)) := ey_11.trans (pk_sub (a := (1 + i_5)) (b := 1) (by omega))
      refine lv_aload_n hx hb dX2_keep_24 rfl (lv_at hl 0 rfl) ?_
      refine va_get (D := (dC, dI)) (ci := 2) (v := .ref co) (C := RX2) (T := TX2) (N := 3) hx hb hts hiX2 hown hK hP 0 rfl rfl 1 (by decide) v_2 (fun _ h9 => h9) rfl dX2_keep_25 ?_
      refine lv_iload_n hx hb dX2_keep_28 rfl (lv_at hl 3 rfl) ?_
      refine va_iald hx hb hK hP 1 0 rfl rfl (vp_in_nI (n := (1 + i_5)) (by first | omega | exact ix_lt (by omega) (by omega) hn | exact ix_lt0 (by omega) hn | exact ix_ltq (by omega) hn | exact ix_lt1 (by omega) hn) (by omega)) dX2_keep_29 ?_
      refine va_iast hx hb hK hP hD hS 1 0 rfl rfl (vp_in_nI (n := ((1 + i_5) - 1)) (by first | omega | exact ix_lt (by omega) (by omega) hn | exact ix_lt0 (by omega) hn | exact ix_ltq (by omega) hn | exact ix_lt1 (by omega) hn) (by omega)) dX2_keep_30 (fun H locs hP hD hS => ?_)
      have hP : va_P (dC, dI) vwCl [(hy, .inr (2, [.int (nI hk), .ref co, .ref ol])), (co, .inl (kco, 20, .inl (upd f_3 ((nI ((1 + i_5) - 1)) : Int32).toNatClampNeg (f_3 ((nI (1 + i_5))).toNatClampNeg)))), (ol, .inl (kol, 20, .inl f_4))] H := hP
      have hD : va_D A [(hy, .inr (2, [.int (nI hk), .ref co, .ref ol])), (co, .inl (kco, 20, .inl (upd f_3 ((nI ((1 + i_5) - 1)) : Int32).toNatClampNeg (f_3 ((nI (1 + i_5))).toNatClampNeg)))), (ol, .inl (kol, 20, .inl f_4))] := hD
      refine lv_aload_n hx hb dX2_keep_31 rfl (lv_at hl 0 rfl) ?_
      refine va_get (D := (dC, dI)) (ci := 2) (v := .ref ol) (C := RX2) (T := TX2) (N := 3) hx hb hts hiX2 hown hK hP 0 rfl rfl 2 (by decide) v_3 (fun _ h9 => h9) rfl dX2_keep_32 ?_
      refine lv_iload_n hx hb dX2_keep_35 rfl (lv_at hl 3 rfl) ?_
      refine lv_iconst (v := 1) hx hb dX2_keep_36 (by decide) ?_
      refine lv_isub hx hb dX2_keep_37 ?_
      refine lv_topi (fun y_12 ey_12 => ?_)
      obtain rfl : y_12 = (nI ((1 + i_5) - 1)) := ey_12.trans (pk_sub (a := (1 + i_5)) (b := 1) (by omega))
      refine lv_aload_n hx hb dX2_keep_38 rfl (lv_at hl 0 rfl) ?_
      refine va_get (D := (dC, dI)) (ci := 2) (v := .ref ol) (C := RX2) (T := TX2) (N := 3) hx hb hts hiX2 hown hK hP 0 rfl rfl 2 (by decide) v_3 (fun _ h9 => h9) rfl dX2_keep_39 ?_
      refine lv_iload_n hx hb dX2_keep_42 rfl (lv_at hl 3 rfl) ?_
      refine va_iald hx hb hK hP 2 1 rfl rfl (vp_in_nI (n := (1 + i_5)) (by first | omega | exact ix_lt (by omega) (by omega) hn | exact ix_lt0 (by omega) hn | exact ix_ltq (by omega) hn | exact ix_lt1 (by omega) hn) (by omega)) dX2_keep_43 ?_
      refine va_iast hx hb hK hP hD hS 2 1 rfl rfl (vp_in_nI (n := ((1 + i_5) - 1)) (by first | omega | exact ix_lt (by omega) (by omega) hn | exact ix_lt0 (by omega) hn | exact ix_ltq (by omega) hn | exact ix_lt1 (by omega) hn) (by omega)) dX2_keep_44 (fun H locs hP hD hS => ?_)
      have hP : va_P (dC, dI) vwCl [(hy, .inr (2, [.int (nI hk), .ref co, .ref ol])), (co, .inl (kco, 20, .inl (upd f_3 ((nI ((1 + i_5) - 1)) : Int32).toNatClampNeg (f_3 ((nI (1 + i_5))).toNatClampNeg)))), (ol, .inl (kol, 20, .inl (upd f_4 ((nI ((1 + i_5) - 1)) : Int32).toNatClampNeg (f_4 ((nI (1 + i_5))).toNatClampNeg))))] H := hP
      have hD : va_D A [(hy, .inr (2, [.int (nI hk), .ref co, .ref ol])), (co, .inl (kco, 20, .inl (upd f_3 ((nI ((1 + i_5) - 1)) : Int32).toNatClampNeg (f_3 ((nI (1 + i_5))).toNatClampNeg)))), (ol, .inl (kol, 20, .inl (upd f_4 ((nI ((1 + i_5) - 1)) : Int32).toNatClampNeg (f_4 ((nI (1 + i_5))).toNatClampNeg))))] := hD
      refine lv_iinc (v := (nI ((1 + i_5) + 1))) (lv' := [(3, .int (nI ((1 + i_5) + 1))), (0, .ref hy), (1, .int p0), (2, .int p1)]) hx hb dX2_keep_45 hl (k := 3) rfl (nI_1 _) (by decide) rfl (fun ls hl => ?_)
      refine lv_goto (tgt := 11) hx hb dX2_keep_48 (by decide) ?_
      exact ih_7 _ _ _ ⟨_, _, hP, hD, hS, lv_sub hl [1, 2, 3, 0] rfl, hi_up hpr_8 (hi_cl hpr_8 (i := 1 + i_5) (by omega) (by omega))⟩
