set_option maxHeartbeats 4000000 in
set_option maxRecDepth 100000 in
theorem law_case_10 {p : Program} {e : Env} {s : State} {m : MethodId} {below : List Frame} {meth : Method} {c : Code} (l : Launch) (hlt : l.stackTraces = false) {b : Nat} {xs : Nat → Int32} (C0 : lw_At p s m meth c b 7 xs) {A : Nat → Prop} (hA : ∀ q : Nat, s.heap.size ≤ q → A q) (hAs : ∀ q : Nat, A q → s.heap.size ≤ q) (hY : sy_E A s s.heap) {dC : Nat → ClassId} {dI : Nat → Nat → Nat} (aa bb : Nat → Nat) (kk jj : Nat → ClassId) (qo : Nat) (H : Heap) (locs : List Loc) (hK : va_K (dC, dI) vwCl (tX kk ++ tM jj) s) (hP : va_P (dC, dI) vwCl (wX aa kk ++ wM bb jj) H) (hD : va_D A (wX aa kk ++ wM bb jj)) (hS : va_S A s.heap H locs) (ls : Array Slot) (hl : lv_has ls 7 [(0, .ref b), (1, .ref (aa 0)), (2, .ref (bb 0)), (3, .ref qo), (4, .int 0)]) : W p l e room_1 s m #[Value.ref b] below meth c H locs 1717 133609 (lw_Z below #[Value.ref b] s) (F0 m 586 ls []) := by
  obtain ⟨hx, hb, hr, hml, hown0, hts0, hX, hbl, hlocks, hgv⟩ := id C0
  have hown : s.vm.findClass RL = some m.cls := hown0
  have hts : ∀ w ∈ vsL, w.before #[Value.ref b] s = true := fun w h => hts0 w (vsL_in w h)
  have hbA : ¬ A b := fun h => absurd (hAs b h) (Nat.not_le.mpr hbl)
  refine lv_aload_n hx hb dL_law_586 rfl (lv_at hl 1 rfl) ?_
  refine lv_aload_n hx hb dL_law_587 rfl (lv_at hl 0 rfl) ?_
  refine lv_iload hx hb dL_law_588 (lv_at hl 4 rfl) ?_
  refine lv_iconst (v := 1) hx hb dL_law_590 (by decide) ?_
  refine lv_iadd hx hb dL_law_591 ?_
  refine lv_topi (fun y_1 ey_1 => ?_)
  obtain rfl : y_1 = 1 := ey_1.trans (by decide)
  refine va_sld hx hb hX hbl hbA hS (show ¬ (_ ∨ _) by decide) dL_law_592 ?_
  refine lv_aload_n hx hb dL_law_593 rfl (lv_at hl 0 rfl) ?_
  refine lv_iload hx hb dL_law_594 (lv_at hl 4 rfl) ?_
  refine lv_iconst (v := 2) hx hb dL_law_596 (by decide) ?_
  refine lv_iadd hx hb dL_law_597 ?_
  refine lv_topi (fun y_2 ey_2 => ?_)
  obtain rfl : y_2 = 2 := ey_2.trans (by decide)
  refine va_sld hx hb hX hbl hbA hS (show ¬ (_ ∨ _) by decide) dL_law_598 ?_
  refine lv_if_eq (tgt := 606) hx hb dL_law_599 (by decide) (fun c_3 => ?_) (fun c_3 => ?_)
  · refine lv_iconst (v := 0) hx hb dL_law_606 (by decide) ?_
    refine va_calli (va_runV (As := [.int (xs (1 : Int32).toNatClampNeg), .int 0]) (rest := []) ⟨hx, hb, hml, hown, hts⟩ (c_X8_urgent l dC dI _ aa kk (xs (1 : Int32).toNatClampNeg) 0) (cwV 2 hts g_L_X8_urgent rfl rfl rfl (by decide +kernel) ⟨Nat.le_of_ble_eq_true rfl, Nat.le_of_ble_eq_true rfl⟩) ⟨pu_bl, va_recv hK hP (ci := 8) (q0 := 0) rfl rfl, pu_in (hP.sub [0, 1, 2, 3, 4, 5, 6, 7, 8, 9] rfl) (hK.sub [0, 1, 2, 3] rfl) (hD.sub [0, 1, 2, 3, 4, 5, 6, 7, 8, 9] (by decide) rfl)⟩ rfl rfl hl.1 rfl (lv_room (Nat.le_of_ble_eq_true rfl)) dL_law_607 ⟨Nat.le_of_ble_eq_true rfl, Nat.le_of_ble_eq_true rfl⟩) hS (fun q _ h => pu_fr hS hA q h) (pu_fr hS hA) (fun r_4 u t H1 locs ht hvm hw hB hz1 hk1 hS => ?_)
    have hP := pu_keep hP hk1
    clear hk1 hz1 ht hvm
    generalize H1 = H at hP hS ⊢
    obtain rfl : r_4 = 0 := hw
    refine lv_aload_n hx hb dL_law_610 rfl (lv_at hl 2 rfl) ?_
    refine lv_aload_n hx hb dL_law_611 rfl (lv_at hl 0 rfl) ?_
    refine lv_iload hx hb dL_law_612 (lv_at hl 4 rfl) ?_
    refine lv_iconst (v := 1) hx hb dL_law_614 (by decide) ?_
    refine lv_iadd hx hb dL_law_615 ?_
    refine lv_topi (fun y_5 ey_5 => ?_)
    obtain rfl : y_5 = 1 := ey_5.trans (by decide)
    refine va_sld hx hb hX hbl hbA hS (show ¬ (_ ∨ _) by decide) dL_law_616 ?_
    refine lv_aload_n hx hb dL_law_617 rfl (lv_at hl 0 rfl) ?_
    refine lv_iload hx hb dL_law_618 (lv_at hl 4 rfl) ?_
    refine lv_iconst (v := 2) hx hb dL_law_620 (by decide) ?_
    refine lv_iadd hx hb dL_law_621 ?_
    refine lv_topi (fun y_6 ey_6 => ?_)
    obtain rfl : y_6 = 2 := ey_6.trans (by decide)
    refine va_sld hx hb hX hbl hbA hS (show ¬ (_ ∨ _) by decide) dL_law_622 ?_
    refine lv_if_eq (tgt := 630) hx hb dL_law_623 (by decide) (fun c_7 => ?_) (fun c_7 => ?_)
    · refine lv_iconst (v := 0) hx hb dL_law_630 (by decide) ?_
      have hFc := va_free (wc := [((bb 0), .inr (9, [.int 0, .ref (bb 10), .ref (bb 11), .ref (bb 12), .ref (bb 13), .ref (bb 14), .ref (bb 15), .ref (bb 16), .ref (bb 17), .ref (bb 18), .ref (bb 19), .ref (bb 20), .ref (bb 1), .ref (bb 2), .ref (bb 3), .ref (bb 4), .int 0, .ref (bb 5), .int 0, .int 0, .int 0, .int 0, .int 0, .int 0, .int 0, .int (-1), .int 0, .int 0, .int 0, .int 0, .int 0, .ref (bb 21), .ref (bb 22), .int 0, .ref (bb 23), .ref (bb 24), .ref (bb 25), .ref (bb 26), .ref (bb 27), .ref (bb 28), .ref (bb 29), .ref (bb 30), .ref (bb 31), .ref (bb 32), .ref (bb 33), .int 0, .int 0, .ref (bb 34), .ref (bb 35), .ref (bb 36), .ref (bb 37), .ref (bb 38), .int 0, .int 0, .ref (bb 39), .ref (bb 40), .ref (bb 41), .ref (bb 42), .ref (bb 43), .ref (bb 44), .ref (bb 45), .int 0, .int 0, .int 0, .ref (bb 46), .int 0, .int 0])), ((bb 1), .inl ((jj 1), 2, .inl (fun _ => 0))), ((bb 2), .inl ((jj 2), 2, .inl (fun _ => 0))), ((bb 3), .inl ((jj 3), 2, .inl (fun _ => 0))), ((bb 4), .inl ((jj 4), 2, .inl begF)), ((bb 5), .inl ((jj 5), 900, .inl (fun _ => 0)))]) hD hS hA [10, 11, 12, 13, 14, 15] rfl
      refine va_calli (va_runV (As := [.int (xs (1 : Int32).toNatClampNeg), .int 0]) (rest := [.int 0]) ⟨hx, hb, hml, hown, hts⟩ (c_X9_urgent l dC dI _ bb jj (xs (1 : Int32).toNatClampNeg) 0) (cwV 2 hts g_L_X9_urgent rfl rfl rfl (by decide +kernel) ⟨Nat.le_of_ble_eq_true rfl, Nat.le_of_ble_eq_true rfl⟩) ⟨pu_bl, va_recv hK hP (ci := 9) (q0 := 10) rfl rfl, pu_in (hP.sub [10, 11, 12, 13, 14, 15] rfl) (hK.sub [4, 5, 6, 7, 8] rfl) (hD.sub [10, 11, 12, 13, 14, 15] (by decide) rfl)⟩ rfl rfl hl.1 rfl (lv_room (Nat.le_of_ble_eq_true rfl)) dL_law_631 ⟨Nat.le_of_ble_eq_true rfl, Nat.le_of_ble_eq_true rfl⟩) hS (fun q _ h => hFc q h) hFc (fun r_8 u t H1 locs ht hvm hw hB hz1 hk1 hS => ?_)
      obtain ⟨hP, hD⟩ := va_join (wr := [((aa 0), .inr (8, [.ref (aa 6), .int 0, .ref (aa 4), .ref (aa 1), .ref (aa 5), .ref (aa 2), .ref (aa 10), .int 0, .ref (aa 11), .ref (aa 12), .int 0, .ref (aa 13), .ref (aa 14), .ref (aa 3), .ref (aa 15), .ref (aa 16)])), ((aa 1), .inr (0, [.int 0, .int 0, .int 0, .int (-1), .ref (aa 20), .ref (aa 21), .ref (aa 22), .ref (aa 23), .ref (aa 7), .ref (aa 24), .ref (aa 25), .ref (aa 26), .ref (aa 27), .ref (aa 28), .ref (aa 29), .ref (aa 30), .ref (aa 31)])), ((aa 2), .inr (2, [.int 0, .ref (aa 60), .ref (aa 61)])), ((aa 3), .inr (3, [.int 0, .int 0, .int 0, .ref (aa 62), .ref (aa 63)])), ((aa 4), .inr (4, [.int 0, .int (-1), .null, .int 0, .int 0, .int 0, .int 0, .int 0, .null, .ref (aa 64), .ref (aa 65), .ref (aa 66)])), ((aa 5), .inr (0, [.int 0, .int 0, .int 0, .int (-1), .ref (aa 8), .ref (aa 41), .ref (aa 42), .ref (aa 43), .ref (aa 9), .ref (aa 44), .ref (aa 45), .ref (aa 46), .ref (aa 47), .ref (aa 48), .ref (aa 49), .ref (aa 50), .ref (aa 51)])), ((aa 6), .inl ((kk 0), 900, .inl (fun _ => 0))), ((aa 7), .inl ((kk 1), 22, .inl (fun _ => 0))), ((aa 8), .inl ((kk 2), 8, .inl (fun _ => 0))), ((aa 9), .inl ((kk 3), 22, .inl (fun _ => 0)))]) (w1 := []) hP hD [10, 11, 12, 13, 14, 15] [0, 1, 2, 3, 4, 5, 6, 7, 8, 9] rfl rfl (by decide) (by decide) hk1 hFc pu_P0 pu_D0
      clear hk1 hz1 ht hvm
      generalize H1 = H at hP hS ⊢
      have hP : va_P (dC, dI) vwCl [((aa 0), .inr (8, [.ref (aa 6), .int 0, .ref (aa 4), .ref (aa 1), .ref (aa 5), .ref (aa 2), .ref (aa 10), .int 0, .ref (aa 11), .ref (aa 12), .int 0, .ref (aa 13), .ref (aa 14), .ref (aa 3), .ref (aa 15), .ref (aa 16)])), ((aa 1), .inr (0, [.int 0, .int 0, .int 0, .int (-1), .ref (aa 20), .ref (aa 21), .ref (aa 22), .ref (aa 23), .ref (aa 7), .ref (aa 24), .ref (aa 25), .ref (aa 26), .ref (aa 27), .ref (aa 28), .ref (aa 29), .ref (aa 30), .ref (aa 31)])), ((aa 2), .inr (2, [.int 0, .ref (aa 60), .ref (aa 61)])), ((aa 3), .inr (3, [.int 0, .int 0, .int 0, .ref (aa 62), .ref (aa 63)])), ((aa 4), .inr (4, [.int 0, .int (-1), .null, .int 0, .int 0, .int 0, .int 0, .int 0, .null, .ref (aa 64), .ref (aa 65), .ref (aa 66)])), ((aa 5), .inr (0, [.int 0, .int 0, .int 0, .int (-1), .ref (aa 8), .ref (aa 41), .ref (aa 42), .ref (aa 43), .ref (aa 9), .ref (aa 44), .ref (aa 45), .ref (aa 46), .ref (aa 47), .ref (aa 48), .ref (aa 49), .ref (aa 50), .ref (aa 51)])), ((aa 6), .inl ((kk 0), 900, .inl (fun _ => 0))), ((aa 7), .inl ((kk 1), 22, .inl (fun _ => 0))), ((aa 8), .inl ((kk 2), 8, .inl (fun _ => 0))), ((aa 9), .inl ((kk 3), 22, .inl (fun _ => 0)))] H := hP
      have hD : va_D A [((aa 0), .inr (8, [.ref (aa 6), .int 0, .ref (aa 4), .ref (aa 1), .ref (aa 5), .ref (aa 2), .ref (aa 10), .int 0, .ref (aa 11), .ref (aa 12), .int 0, .ref (aa 13), .ref (aa 14), .ref (aa 3), .ref (aa 15), .ref (aa 16)])), ((aa 1), .inr (0, [.int 0, .int 0, .int 0, .int (-1), .ref (aa 20), .ref (aa 21), .ref (aa 22), .ref (aa 23), .ref (aa 7), .ref (aa 24), .ref (aa 25), .ref (aa 26), .ref (aa 27), .ref (aa 28), .ref (aa 29), .ref (aa 30), .ref (aa 31)])), ((aa 2), .inr (2, [.int 0, .ref (aa 60), .ref (aa 61)])), ((aa 3), .inr (3, [.int 0, .int 0, .int 0, .ref (aa 62), .ref (aa 63)])), ((aa 4), .inr (4, [.int 0, .int (-1), .null, .int 0, .int 0, .int 0, .int 0, .int 0, .null, .ref (aa 64), .ref (aa 65), .ref (aa 66)])), ((aa 5), .inr (0, [.int 0, .int 0, .int 0, .int (-1), .ref (aa 8), .ref (aa 41), .ref (aa 42), .ref (aa 43), .ref (aa 9), .ref (aa 44), .ref (aa 45), .ref (aa 46), .ref (aa 47), .ref (aa 48), .ref (aa 49), .ref (aa 50), .ref (aa 51)])), ((aa 6), .inl ((kk 0), 900, .inl (fun _ => 0))), ((aa 7), .inl ((kk 1), 22, .inl (fun _ => 0))), ((aa 8), .inl ((kk 2), 8, .inl (fun _ => 0))), ((aa 9), .inl ((kk 3), 22, .inl (fun _ => 0)))] := hD
      obtain rfl : r_8 = 0 := hw
      refine lv_icmp_eq (tgt := 1725) hx hb dL_law_634 (by decide) (fun _ => ?_) (fun z => absurd z (by decide))
      exact law_tail l C0 hA hAs hS (lv_sub hl [0, 4] rfl) (Nat.le_of_ble_eq_true rfl) (Nat.le_of_ble_eq_true rfl)
    · have z_0 := c_3
      have z_1 := c_7
      exfalso
      simp only [fa_lt, fa_le, fa_eq] at z_0 z_1
      have y_0 : (0 : Int32).toInt = 0 := by decide
      omega
  · refine lv_iconst (v := 1) hx hb dL_law_602 (by decide) ?_
    refine lv_goto (tgt := 607) hx hb dL_law_603 (by decide) ?_
    refine va_calli (va_runV (As := [.int (xs (1 : Int32).toNatClampNeg), .int 1]) (rest := []) ⟨hx, hb, hml, hown, hts⟩ (c_X8_urgent l dC dI _ aa kk (xs (1 : Int32).toNatClampNeg) 1) (cwV 2 hts g_L_X8_urgent rfl rfl rfl (by decide +kernel) ⟨Nat.le_of_ble_eq_true rfl, Nat.le_of_ble_eq_true rfl⟩) ⟨pu_bl, va_recv hK hP (ci := 8) (q0 := 0) rfl rfl, pu_in (hP.sub [0, 1, 2, 3, 4, 5, 6, 7, 8, 9] rfl) (hK.sub [0, 1, 2, 3] rfl) (hD.sub [0, 1, 2, 3, 4, 5, 6, 7, 8, 9] (by decide) rfl)⟩ rfl rfl hl.1 rfl (lv_room (Nat.le_of_ble_eq_true rfl)) dL_law_607 ⟨Nat.le_of_ble_eq_true rfl, Nat.le_of_ble_eq_true rfl⟩) hS (fun q _ h => pu_fr hS hA q h) (pu_fr hS hA) (fun r_9 u t H1 locs ht hvm hw hB hz1 hk1 hS => ?_)
    have hP := pu_keep hP hk1
    clear hk1 hz1 ht hvm
    generalize H1 = H at hP hS ⊢
    obtain rfl : r_9 = 0 := hw
    refine lv_aload_n hx hb dL_law_610 rfl (lv_at hl 2 rfl) ?_
    refine lv_aload_n hx hb dL_law_611 rfl (lv_at hl 0 rfl) ?_
    refine lv_iload hx hb dL_law_612 (lv_at hl 4 rfl) ?_
    refine lv_iconst (v := 1) hx hb dL_law_614 (by decide) ?_
    refine lv_iadd hx hb dL_law_615 ?_
    refine lv_topi (fun y_10 ey_10 => ?_)
    obtain rfl : y_10 = 1 := ey_10.trans (by decide)
    refine va_sld hx hb hX hbl hbA hS (show ¬ (_ ∨ _) by decide) dL_law_616 ?_
    refine lv_aload_n hx hb dL_law_617 rfl (lv_at hl 0 rfl) ?_
    refine lv_iload hx hb dL_law_618 (lv_at hl 4 rfl) ?_
    refine lv_iconst (v := 2) hx hb dL_law_620 (by decide) ?_
    refine lv_iadd hx hb dL_law_621 ?_
    refine lv_topi (fun y_11 ey_11 => ?_)
    obtain rfl : y_11 = 2 := ey_11.trans (by decide)
    refine va_sld hx hb hX hbl hbA hS (show ¬ (_ ∨ _) by decide) dL_law_622 ?_
    refine lv_if_eq (tgt := 630) hx hb dL_law_623 (by decide) (fun c_12 => ?_) (fun c_12 => ?_)
    · have z_0 := c_3
      have z_1 := c_12
      exfalso
      simp only [fa_lt, fa_le, fa_eq] at z_0 z_1
      have y_0 : (0 : Int32).toInt = 0 := by decide
      omega
    · refine lv_iconst (v := 1) hx hb dL_law_626 (by decide) ?_
      refine lv_goto (tgt := 631) hx hb dL_law_627 (by decide) ?_
      have hFc := va_free (wc := [((bb 0), .inr (9, [.int 0, .ref (bb 10), .ref (bb 11), .ref (bb 12), .ref (bb 13), .ref (bb 14), .ref (bb 15), .ref (bb 16), .ref (bb 17), .ref (bb 18), .ref (bb 19), .ref (bb 20), .ref (bb 1), .ref (bb 2), .ref (bb 3), .ref (bb 4), .int 0, .ref (bb 5), .int 0, .int 0, .int 0, .int 0, .int 0, .int 0, .int 0, .int (-1), .int 0, .int 0, .int 0, .int 0, .int 0, .ref (bb 21), .ref (bb 22), .int 0, .ref (bb 23), .ref (bb 24), .ref (bb 25), .ref (bb 26), .ref (bb 27), .ref (bb 28), .ref (bb 29), .ref (bb 30), .ref (bb 31), .ref (bb 32), .ref (bb 33), .int 0, .int 0, .ref (bb 34), .ref (bb 35), .ref (bb 36), .ref (bb 37), .ref (bb 38), .int 0, .int 0, .ref (bb 39), .ref (bb 40), .ref (bb 41), .ref (bb 42), .ref (bb 43), .ref (bb 44), .ref (bb 45), .int 0, .int 0, .int 0, .ref (bb 46), .int 0, .int 0])), ((bb 1), .inl ((jj 1), 2, .inl (fun _ => 0))), ((bb 2), .inl ((jj 2), 2, .inl (fun _ => 0))), ((bb 3), .inl ((jj 3), 2, .inl (fun _ => 0))), ((bb 4), .inl ((jj 4), 2, .inl begF)), ((bb 5), .inl ((jj 5), 900, .inl (fun _ => 0)))]) hD hS hA [10, 11, 12, 13, 14, 15] rfl
      refine va_calli (va_runV (As := [.int (xs (1 : Int32).toNatClampNeg), .int 1]) (rest := [.int 0]) ⟨hx, hb, hml, hown, hts⟩ (c_X9_urgent l dC dI _ bb jj (xs (1 : Int32).toNatClampNeg) 1) (cwV 2 hts g_L_X9_urgent rfl rfl rfl (by decide +kernel) ⟨Nat.le_of_ble_eq_true rfl, Nat.le_of_ble_eq_true rfl⟩) ⟨pu_bl, va_recv hK hP (ci := 9) (q0 := 10) rfl rfl, pu_in (hP.sub [10, 11, 12, 13, 14, 15] rfl) (hK.sub [4, 5, 6, 7, 8] rfl) (hD.sub [10, 11, 12, 13, 14, 15] (by decide) rfl)⟩ rfl rfl hl.1 rfl (lv_room (Nat.le_of_ble_eq_true rfl)) dL_law_631 ⟨Nat.le_of_ble_eq_true rfl, Nat.le_of_ble_eq_true rfl⟩) hS (fun q _ h => hFc q h) hFc (fun r_13 u t H1 locs ht hvm hw hB hz1 hk1 hS => ?_)
      obtain ⟨hP, hD⟩ := va_join (wr := [((aa 0), .inr (8, [.ref (aa 6), .int 0, .ref (aa 4), .ref (aa 1), .ref (aa 5), .ref (aa 2), .ref (aa 10), .int 0, .ref (aa 11), .ref (aa 12), .int 0, .ref (aa 13), .ref (aa 14), .ref (aa 3), .ref (aa 15), .ref (aa 16)])), ((aa 1), .inr (0, [.int 0, .int 0, .int 0, .int (-1), .ref (aa 20), .ref (aa 21), .ref (aa 22), .ref (aa 23), .ref (aa 7), .ref (aa 24), .ref (aa 25), .ref (aa 26), .ref (aa 27), .ref (aa 28), .ref (aa 29), .ref (aa 30), .ref (aa 31)])), ((aa 2), .inr (2, [.int 0, .ref (aa 60), .ref (aa 61)])), ((aa 3), .inr (3, [.int 0, .int 0, .int 0, .ref (aa 62), .ref (aa 63)])), ((aa 4), .inr (4, [.int 0, .int (-1), .null, .int 0, .int 0, .int 0, .int 0, .int 0, .null, .ref (aa 64), .ref (aa 65), .ref (aa 66)])), ((aa 5), .inr (0, [.int 0, .int 0, .int 0, .int (-1), .ref (aa 8), .ref (aa 41), .ref (aa 42), .ref (aa 43), .ref (aa 9), .ref (aa 44), .ref (aa 45), .ref (aa 46), .ref (aa 47), .ref (aa 48), .ref (aa 49), .ref (aa 50), .ref (aa 51)])), ((aa 6), .inl ((kk 0), 900, .inl (fun _ => 0))), ((aa 7), .inl ((kk 1), 22, .inl (fun _ => 0))), ((aa 8), .inl ((kk 2), 8, .inl (fun _ => 0))), ((aa 9), .inl ((kk 3), 22, .inl (fun _ => 0)))]) (w1 := []) hP hD [10, 11, 12, 13, 14, 15] [0, 1, 2, 3, 4, 5, 6, 7, 8, 9] rfl rfl (by decide) (by decide) hk1 hFc pu_P0 pu_D0
      clear hk1 hz1 ht hvm
      generalize H1 = H at hP hS ⊢
      have hP : va_P (dC, dI) vwCl [((aa 0), .inr (8, [.ref (aa 6), .int 0, .ref (aa 4), .ref (aa 1), .ref (aa 5), .ref (aa 2), .ref (aa 10), .int 0, .ref (aa 11), .ref (aa 12), .int 0, .ref (aa 13), .ref (aa 14), .ref (aa 3), .ref (aa 15), .ref (aa 16)])), ((aa 1), .inr (0, [.int 0, .int 0, .int 0, .int (-1), .ref (aa 20), .ref (aa 21), .ref (aa 22), .ref (aa 23), .ref (aa 7), .ref (aa 24), .ref (aa 25), .ref (aa 26), .ref (aa 27), .ref (aa 28), .ref (aa 29), .ref (aa 30), .ref (aa 31)])), ((aa 2), .inr (2, [.int 0, .ref (aa 60), .ref (aa 61)])), ((aa 3), .inr (3, [.int 0, .int 0, .int 0, .ref (aa 62), .ref (aa 63)])), ((aa 4), .inr (4, [.int 0, .int (-1), .null, .int 0, .int 0, .int 0, .int 0, .int 0, .null, .ref (aa 64), .ref (aa 65), .ref (aa 66)])), ((aa 5), .inr (0, [.int 0, .int 0, .int 0, .int (-1), .ref (aa 8), .ref (aa 41), .ref (aa 42), .ref (aa 43), .ref (aa 9), .ref (aa 44), .ref (aa 45), .ref (aa 46), .ref (aa 47), .ref (aa 48), .ref (aa 49), .ref (aa 50), .ref (aa 51)])), ((aa 6), .inl ((kk 0), 900, .inl (fun _ => 0))), ((aa 7), .inl ((kk 1), 22, .inl (fun _ => 0))), ((aa 8), .inl ((kk 2), 8, .inl (fun _ => 0))), ((aa 9), .inl ((kk 3), 22, .inl (fun _ => 0)))] H := hP
      have hD : va_D A [((aa 0), .inr (8, [.ref (aa 6), .int 0, .ref (aa 4), .ref (aa 1), .ref (aa 5), .ref (aa 2), .ref (aa 10), .int 0, .ref (aa 11), .ref (aa 12), .int 0, .ref (aa 13), .ref (aa 14), .ref (aa 3), .ref (aa 15), .ref (aa 16)])), ((aa 1), .inr (0, [.int 0, .int 0, .int 0, .int (-1), .ref (aa 20), .ref (aa 21), .ref (aa 22), .ref (aa 23), .ref (aa 7), .ref (aa 24), .ref (aa 25), .ref (aa 26), .ref (aa 27), .ref (aa 28), .ref (aa 29), .ref (aa 30), .ref (aa 31)])), ((aa 2), .inr (2, [.int 0, .ref (aa 60), .ref (aa 61)])), ((aa 3), .inr (3, [.int 0, .int 0, .int 0, .ref (aa 62), .ref (aa 63)])), ((aa 4), .inr (4, [.int 0, .int (-1), .null, .int 0, .int 0, .int 0, .int 0, .int 0, .null, .ref (aa 64), .ref (aa 65), .ref (aa 66)])), ((aa 5), .inr (0, [.int 0, .int 0, .int 0, .int (-1), .ref (aa 8), .ref (aa 41), .ref (aa 42), .ref (aa 43), .ref (aa 9), .ref (aa 44), .ref (aa 45), .ref (aa 46), .ref (aa 47), .ref (aa 48), .ref (aa 49), .ref (aa 50), .ref (aa 51)])), ((aa 6), .inl ((kk 0), 900, .inl (fun _ => 0))), ((aa 7), .inl ((kk 1), 22, .inl (fun _ => 0))), ((aa 8), .inl ((kk 2), 8, .inl (fun _ => 0))), ((aa 9), .inl ((kk 3), 22, .inl (fun _ => 0)))] := hD
      obtain rfl : r_13 = 0 := hw
      refine lv_icmp_eq (tgt := 1725) hx hb dL_law_634 (by decide) (fun _ => ?_) (fun z => absurd z (by decide))
      exact law_tail l C0 hA hAs hS (lv_sub hl [0, 4] rfl) (Nat.le_of_ble_eq_true rfl) (Nat.le_of_ble_eq_true rfl)
set_option maxHeartbeats 4000000 in
set_option maxRecDepth 100000 in
theorem law_case_11 {p : Program} {e : Env} {s : State} {m : MethodId} {below : List Frame} {meth : Method} {c : Code} (l : Launch) (hlt : l.stackTraces = false) {b : Nat} {xs : Nat → Int32} (C0 : lw_At p s m meth c b 7 xs) {A : Nat → Prop} (hA : ∀ q : Nat, s.heap.size ≤ q → A q) (hAs : ∀ q : Nat, A q → s.heap.size ≤ q) (hY : sy_E A s s.heap) {dC : Nat → ClassId} {dI : Nat → Nat → Nat} (aa bb : Nat → Nat) (kk jj : Nat → ClassId) (qo : Nat) (H : Heap) (locs : List Loc) (hK : va_K (dC, dI) vwCl (tX kk ++ tM jj) s) (hP : va_P (dC, dI) vwCl (wX aa kk ++ wM bb jj) H) (hD : va_D A (wX aa kk ++ wM bb jj)) (hS : va_S A s.heap H locs) (ls : Array Slot) (hl : lv_has ls 7 [(0, .ref b), (1, .ref (aa 0)), (2, .ref (bb 0)), (3, .ref qo), (4, .int 0)]) : W p l e room_1 s m #[Value.ref b] below meth c H locs 1717 133609 (lw_Z below #[Value.ref b] s) (F0 m 639 ls []) := by
  obtain ⟨hx, hb, hr, hml, hown0, hts0, hX, hbl, hlocks, hgv⟩ := id C0
  have hown : s.vm.findClass RL = some m.cls := hown0
  have hts : ∀ w ∈ vsL, w.before #[Value.ref b] s = true := fun w h => hts0 w (vsL_in w h)
  have hbA : ¬ A b := fun h => absurd (hAs b h) (Nat.not_le.mpr hbl)
  refine lv_aload_n hx hb dL_law_639 rfl (lv_at hl 1 rfl) ?_
  refine va_calli (va_runV (As := []) (rest := []) ⟨hx, hb, hml, hown, hts⟩ (c_X8_undo l dC dI _ aa kk) (cwV 0 hts g_L_X8_undo rfl rfl rfl (by decide +kernel) ⟨Nat.le_of_ble_eq_true rfl, Nat.le_of_ble_eq_true rfl⟩) ⟨pu_bl, va_recv hK hP (ci := 8) (q0 := 0) rfl rfl, pu_in (hP.sub [0, 1, 2, 3, 4, 5, 6, 7, 8, 9] rfl) (hK.sub [0, 1, 2, 3] rfl) (hD.sub [0, 1, 2, 3, 4, 5, 6, 7, 8, 9] (by decide) rfl)⟩ rfl rfl hl.1 rfl (lv_room (Nat.le_of_ble_eq_true rfl)) dL_law_640 ⟨Nat.le_of_ble_eq_true rfl, Nat.le_of_ble_eq_true rfl⟩) hS (fun q _ h => pu_fr hS hA q h) (pu_fr hS hA) (fun r_1 u t H1 locs ht hvm hw hB hz1 hk1 hS => ?_)
  have hP := pu_keep hP hk1
  clear hk1 hz1 ht hvm
  generalize H1 = H at hP hS ⊢
  obtain rfl : r_1 = 0 := hw
  refine lv_aload_n hx hb dL_law_643 rfl (lv_at hl 2 rfl) ?_
  have hFc := va_free (wc := [((bb 0), .inr (9, [.int 0, .ref (bb 10), .ref (bb 11), .ref (bb 12), .ref (bb 13), .ref (bb 14), .ref (bb 15), .ref (bb 16), .ref (bb 17), .ref (bb 18), .ref (bb 19), .ref (bb 20), .ref (bb 1), .ref (bb 2), .ref (bb 3), .ref (bb 4), .int 0, .ref (bb 5), .int 0, .int 0, .int 0, .int 0, .int 0, .int 0, .int 0, .int (-1), .int 0, .int 0, .int 0, .int 0, .int 0, .ref (bb 21), .ref (bb 22), .int 0, .ref (bb 23), .ref (bb 24), .ref (bb 25), .ref (bb 26), .ref (bb 27), .ref (bb 28), .ref (bb 29), .ref (bb 30), .ref (bb 31), .ref (bb 32), .ref (bb 33), .int 0, .int 0, .ref (bb 34), .ref (bb 35), .ref (bb 36), .ref (bb 37), .ref (bb 38), .int 0, .int 0, .ref (bb 39), .ref (bb 40), .ref (bb 41), .ref (bb 42), .ref (bb 43), .ref (bb 44), .ref (bb 45), .int 0, .int 0, .int 0, .ref (bb 46), .int 0, .int 0])), ((bb 1), .inl ((jj 1), 2, .inl (fun _ => 0))), ((bb 2), .inl ((jj 2), 2, .inl (fun _ => 0))), ((bb 3), .inl ((jj 3), 2, .inl (fun _ => 0))), ((bb 4), .inl ((jj 4), 2, .inl begF)), ((bb 5), .inl ((jj 5), 900, .inl (fun _ => 0)))]) hD hS hA [10, 11, 12, 13, 14, 15] rfl
  refine va_calli (va_runV (As := []) (rest := [.int 0]) ⟨hx, hb, hml, hown, hts⟩ (c_X9_undo l dC dI _ bb jj) (cwV 0 hts g_L_X9_undo rfl rfl rfl (by decide +kernel) ⟨Nat.le_of_ble_eq_true rfl, Nat.le_of_ble_eq_true rfl⟩) ⟨pu_bl, va_recv hK hP (ci := 9) (q0 := 10) rfl rfl, pu_in (hP.sub [10, 11, 12, 13, 14, 15] rfl) (hK.sub [4, 5, 6, 7, 8] rfl) (hD.sub [10, 11, 12, 13, 14, 15] (by decide) rfl)⟩ rfl rfl hl.1 rfl (lv_room (Nat.le_of_ble_eq_true rfl)) dL_law_644 ⟨Nat.le_of_ble_eq_true rfl, Nat.le_of_ble_eq_true rfl⟩) hS (fun q _ h => hFc q h) hFc (fun r_2 u t H1 locs ht hvm hw hB hz1 hk1 hS => ?_)
  obtain ⟨hP, hD⟩ := va_join (wr := [((aa 0), .inr (8, [.ref (aa 6), .int 0, .ref (aa 4), .ref (aa 1), .ref (aa 5), .ref (aa 2), .ref (aa 10), .int 0, .ref (aa 11), .ref (aa 12), .int 0, .ref (aa 13), .ref (aa 14), .ref (aa 3), .ref (aa 15), .ref (aa 16)])), ((aa 1), .inr (0, [.int 0, .int 0, .int 0, .int (-1), .ref (aa 20), .ref (aa 21), .ref (aa 22), .ref (aa 23), .ref (aa 7), .ref (aa 24), .ref (aa 25), .ref (aa 26), .ref (aa 27), .ref (aa 28), .ref (aa 29), .ref (aa 30), .ref (aa 31)])), ((aa 2), .inr (2, [.int 0, .ref (aa 60), .ref (aa 61)])), ((aa 3), .inr (3, [.int 0, .int 0, .int 0, .ref (aa 62), .ref (aa 63)])), ((aa 4), .inr (4, [.int 0, .int (-1), .null, .int 0, .int 0, .int 0, .int 0, .int 0, .null, .ref (aa 64), .ref (aa 65), .ref (aa 66)])), ((aa 5), .inr (0, [.int 0, .int 0, .int 0, .int (-1), .ref (aa 8), .ref (aa 41), .ref (aa 42), .ref (aa 43), .ref (aa 9), .ref (aa 44), .ref (aa 45), .ref (aa 46), .ref (aa 47), .ref (aa 48), .ref (aa 49), .ref (aa 50), .ref (aa 51)])), ((aa 6), .inl ((kk 0), 900, .inl (fun _ => 0))), ((aa 7), .inl ((kk 1), 22, .inl (fun _ => 0))), ((aa 8), .inl ((kk 2), 8, .inl (fun _ => 0))), ((aa 9), .inl ((kk 3), 22, .inl (fun _ => 0)))]) (w1 := []) hP hD [10, 11, 12, 13, 14, 15] [0, 1, 2, 3, 4, 5, 6, 7, 8, 9] rfl rfl (by decide) (by decide) hk1 hFc pu_P0 pu_D0
  clear hk1 hz1 ht hvm
  generalize H1 = H at hP hS ⊢
  have hP : va_P (dC, dI) vwCl [((aa 0), .inr (8, [.ref (aa 6), .int 0, .ref (aa 4), .ref (aa 1), .ref (aa 5), .ref (aa 2), .ref (aa 10), .int 0, .ref (aa 11), .ref (aa 12), .int 0, .ref (aa 13), .ref (aa 14), .ref (aa 3), .ref (aa 15), .ref (aa 16)])), ((aa 1), .inr (0, [.int 0, .int 0, .int 0, .int (-1), .ref (aa 20), .ref (aa 21), .ref (aa 22), .ref (aa 23), .ref (aa 7), .ref (aa 24), .ref (aa 25), .ref (aa 26), .ref (aa 27), .ref (aa 28), .ref (aa 29), .ref (aa 30), .ref (aa 31)])), ((aa 2), .inr (2, [.int 0, .ref (aa 60), .ref (aa 61)])), ((aa 3), .inr (3, [.int 0, .int 0, .int 0, .ref (aa 62), .ref (aa 63)])), ((aa 4), .inr (4, [.int 0, .int (-1), .null, .int 0, .int 0, .int 0, .int 0, .int 0, .null, .ref (aa 64), .ref (aa 65), .ref (aa 66)])), ((aa 5), .inr (0, [.int 0, .int 0, .int 0, .int (-1), .ref (aa 8), .ref (aa 41), .ref (aa 42), .ref (aa 43), .ref (aa 9), .ref (aa 44), .ref (aa 45), .ref (aa 46), .ref (aa 47), .ref (aa 48), .ref (aa 49), .ref (aa 50), .ref (aa 51)])), ((aa 6), .inl ((kk 0), 900, .inl (fun _ => 0))), ((aa 7), .inl ((kk 1), 22, .inl (fun _ => 0))), ((aa 8), .inl ((kk 2), 8, .inl (fun _ => 0))), ((aa 9), .inl ((kk 3), 22, .inl (fun _ => 0)))] H := hP
  have hD : va_D A [((aa 0), .inr (8, [.ref (aa 6), .int 0, .ref (aa 4), .ref (aa 1), .ref (aa 5), .ref (aa 2), .ref (aa 10), .int 0, .ref (aa 11), .ref (aa 12), .int 0, .ref (aa 13), .ref (aa 14), .ref (aa 3), .ref (aa 15), .ref (aa 16)])), ((aa 1), .inr (0, [.int 0, .int 0, .int 0, .int (-1), .ref (aa 20), .ref (aa 21), .ref (aa 22), .ref (aa 23), .ref (aa 7), .ref (aa 24), .ref (aa 25), .ref (aa 26), .ref (aa 27), .ref (aa 28), .ref (aa 29), .ref (aa 30), .ref (aa 31)])), ((aa 2), .inr (2, [.int 0, .ref (aa 60), .ref (aa 61)])), ((aa 3), .inr (3, [.int 0, .int 0, .int 0, .ref (aa 62), .ref (aa 63)])), ((aa 4), .inr (4, [.int 0, .int (-1), .null, .int 0, .int 0, .int 0, .int 0, .int 0, .null, .ref (aa 64), .ref (aa 65), .ref (aa 66)])), ((aa 5), .inr (0, [.int 0, .int 0, .int 0, .int (-1), .ref (aa 8), .ref (aa 41), .ref (aa 42), .ref (aa 43), .ref (aa 9), .ref (aa 44), .ref (aa 45), .ref (aa 46), .ref (aa 47), .ref (aa 48), .ref (aa 49), .ref (aa 50), .ref (aa 51)])), ((aa 6), .inl ((kk 0), 900, .inl (fun _ => 0))), ((aa 7), .inl ((kk 1), 22, .inl (fun _ => 0))), ((aa 8), .inl ((kk 2), 8, .inl (fun _ => 0))), ((aa 9), .inl ((kk 3), 22, .inl (fun _ => 0)))] := hD
  obtain rfl : r_2 = 0 := hw
  refine lv_icmp_eq (tgt := 1725) hx hb dL_law_647 (by decide) (fun _ => ?_) (fun z => absurd z (by decide))
  exact law_tail l C0 hA hAs hS (lv_sub hl [0, 4] rfl) (Nat.le_of_ble_eq_true rfl) (Nat.le_of_ble_eq_true rfl)
set_option maxHeartbeats 4000000 in
set_option maxRecDepth 100000 in
theorem law_case_12 {p : Program} {e : Env} {s : State} {m : MethodId} {below : List Frame} {meth : Method} {c : Code} (l : Launch) (hlt : l.stackTraces = false) {b : Nat} {xs : Nat → Int32} (C0 : lw_At p s m meth c b 7 xs) {A : Nat → Prop} (hA : ∀ q : Nat, s.heap.size ≤ q → A q) (hAs : ∀ q : Nat, A q → s.heap.size ≤ q) (hY : sy_E A s s.heap) {dC : Nat → ClassId} {dI : Nat → Nat → Nat} (aa bb : Nat → Nat) (kk jj : Nat → ClassId) (qo : Nat) (H : Heap) (locs : List Loc) (hK : va_K (dC, dI) vwCl (tX kk ++ tM jj) s) (hP : va_P (dC, dI) vwCl (wX aa kk ++ wM bb jj) H) (hD : va_D A (wX aa kk ++ wM bb jj)) (hS : va_S A s.heap H locs) (ls : Array Slot) (hl : lv_has ls 7 [(0, .ref b), (1, .ref (aa 0)), (2, .ref (bb 0)), (3, .ref qo), (4, .int 0)]) : W p l e room_1 s m #[Value.ref b] below meth c H locs 1717 133609 (lw_Z below #[Value.ref b] s) (F0 m 652 ls []) := by
  obtain ⟨hx, hb, hr, hml, hown0, hts0, hX, hbl, hlocks, hgv⟩ := id C0
  have hown : s.vm.findClass RL = some m.cls := hown0
  have hts : ∀ w ∈ vsL, w.before #[Value.ref b] s = true := fun w h => hts0 w (vsL_in w h)
  have hbA : ¬ A b := fun h => absurd (hAs b h) (Nat.not_le.mpr hbl)
  refine lv_aload_n hx hb dL_law_652 rfl (lv_at hl 1 rfl) ?_
  refine lv_aload_n hx hb dL_law_653 rfl (lv_at hl 0 rfl) ?_
  refine lv_iload hx hb dL_law_654 (lv_at hl 4 rfl) ?_
  refine lv_iconst (v := 1) hx hb dL_law_656 (by decide) ?_
  refine lv_iadd hx hb dL_law_657 ?_
  refine lv_topi (fun y_1 ey_1 => ?_)
  obtain rfl : y_1 = 1 := ey_1.trans (by decide)
  refine va_sld hx hb hX hbl hbA hS (show ¬ (_ ∨ _) by decide) dL_law_658 ?_
  refine lv_aload_n hx hb dL_law_659 rfl (lv_at hl 0 rfl) ?_
  refine lv_iload hx hb dL_law_660 (lv_at hl 4 rfl) ?_
  refine lv_iconst (v := 2) hx hb dL_law_662 (by decide) ?_
  refine lv_iadd hx hb dL_law_663 ?_
  refine lv_topi (fun y_2 ey_2 => ?_)
  obtain rfl : y_2 = 2 := ey_2.trans (by decide)
  refine va_sld hx hb hX hbl hbA hS (show ¬ (_ ∨ _) by decide) dL_law_664 ?_
  refine lv_if_eq (tgt := 672) hx hb dL_law_665 (by decide) (fun c_3 => ?_) (fun c_3 => ?_)
  · refine lv_iconst (v := 0) hx hb dL_law_672 (by decide) ?_
    refine va_calli (va_runV (As := [.int (xs (1 : Int32).toNatClampNeg), .int 0]) (rest := []) ⟨hx, hb, hml, hown, hts⟩ (c_X8_graph l dC dI _ aa kk (xs (1 : Int32).toNatClampNeg) 0) (cwV 2 hts g_L_X8_graph rfl rfl rfl (by decide +kernel) ⟨Nat.le_of_ble_eq_true rfl, Nat.le_of_ble_eq_true rfl⟩) ⟨pu_bl, va_recv hK hP (ci := 8) (q0 := 0) rfl rfl, pu_in (hP.sub [0, 1, 2, 3, 4, 5, 6, 7, 8, 9] rfl) (hK.sub [0, 1, 2, 3] rfl) (hD.sub [0, 1, 2, 3, 4, 5, 6, 7, 8, 9] (by decide) rfl)⟩ rfl rfl hl.1 rfl (lv_room (Nat.le_of_ble_eq_true rfl)) dL_law_673 ⟨Nat.le_of_ble_eq_true rfl, Nat.le_of_ble_eq_true rfl⟩) hS (fun q _ h => pu_fr hS hA q h) (pu_fr hS hA) (fun r_4 u t H1 locs ht hvm hw hB hz1 hk1 hS => ?_)
    have hP := pu_keep hP hk1
    clear hk1 hz1 ht hvm
    generalize H1 = H at hP hS ⊢
    obtain rfl : r_4 = (-1) := hw
    refine lv_aload_n hx hb dL_law_676 rfl (lv_at hl 2 rfl) ?_
    refine lv_aload_n hx hb dL_law_677 rfl (lv_at hl 0 rfl) ?_
    refine lv_iload hx hb dL_law_678 (lv_at hl 4 rfl) ?_
    refine lv_iconst (v := 1) hx hb dL_law_680 (by decide) ?_
    refine lv_iadd hx hb dL_law_681 ?_
    refine lv_topi (fun y_5 ey_5 => ?_)
    obtain rfl : y_5 = 1 := ey_5.trans (by decide)
    refine va_sld hx hb hX hbl hbA hS (show ¬ (_ ∨ _) by decide) dL_law_682 ?_
    refine lv_aload_n hx hb dL_law_683 rfl (lv_at hl 0 rfl) ?_
    refine lv_iload hx hb dL_law_684 (lv_at hl 4 rfl) ?_
    refine lv_iconst (v := 2) hx hb dL_law_686 (by decide) ?_
    refine lv_iadd hx hb dL_law_687 ?_
    refine lv_topi (fun y_6 ey_6 => ?_)
    obtain rfl : y_6 = 2 := ey_6.trans (by decide)
    refine va_sld hx hb hX hbl hbA hS (show ¬ (_ ∨ _) by decide) dL_law_688 ?_
    refine lv_if_eq (tgt := 696) hx hb dL_law_689 (by decide) (fun c_7 => ?_) (fun c_7 => ?_)
    · refine lv_iconst (v := 0) hx hb dL_law_696 (by decide) ?_
      have hFc := va_free (wc := [((bb 0), .inr (9, [.int 0, .ref (bb 10), .ref (bb 11), .ref (bb 12), .ref (bb 13), .ref (bb 14), .ref (bb 15), .ref (bb 16), .ref (bb 17), .ref (bb 18), .ref (bb 19), .ref (bb 20), .ref (bb 1), .ref (bb 2), .ref (bb 3), .ref (bb 4), .int 0, .ref (bb 5), .int 0, .int 0, .int 0, .int 0, .int 0, .int 0, .int 0, .int (-1), .int 0, .int 0, .int 0, .int 0, .int 0, .ref (bb 21), .ref (bb 22), .int 0, .ref (bb 23), .ref (bb 24), .ref (bb 25), .ref (bb 26), .ref (bb 27), .ref (bb 28), .ref (bb 29), .ref (bb 30), .ref (bb 31), .ref (bb 32), .ref (bb 33), .int 0, .int 0, .ref (bb 34), .ref (bb 35), .ref (bb 36), .ref (bb 37), .ref (bb 38), .int 0, .int 0, .ref (bb 39), .ref (bb 40), .ref (bb 41), .ref (bb 42), .ref (bb 43), .ref (bb 44), .ref (bb 45), .int 0, .int 0, .int 0, .ref (bb 46), .int 0, .int 0])), ((bb 1), .inl ((jj 1), 2, .inl (fun _ => 0))), ((bb 2), .inl ((jj 2), 2, .inl (fun _ => 0))), ((bb 3), .inl ((jj 3), 2, .inl (fun _ => 0))), ((bb 4), .inl ((jj 4), 2, .inl begF)), ((bb 5), .inl ((jj 5), 900, .inl (fun _ => 0)))]) hD hS hA [10, 11, 12, 13, 14, 15] rfl
      refine va_calli (va_runV (As := [.int (xs (1 : Int32).toNatClampNeg), .int 0]) (rest := [.int (-1)]) ⟨hx, hb, hml, hown, hts⟩ (c_X9_graph l dC dI _ bb jj (xs (1 : Int32).toNatClampNeg) 0) (cwV 2 hts g_L_X9_graph rfl rfl rfl (by decide +kernel) ⟨Nat.le_of_ble_eq_true rfl, Nat.le_of_ble_eq_true rfl⟩) ⟨pu_bl, va_recv hK hP (ci := 9) (q0 := 10) rfl rfl, pu_in (hP.sub [10, 11, 12, 13, 14, 15] rfl) (hK.sub [4, 5, 6, 7, 8] rfl) (hD.sub [10, 11, 12, 13, 14, 15] (by decide) rfl)⟩ rfl rfl hl.1 rfl (lv_room (Nat.le_of_ble_eq_true rfl)) dL_law_697 ⟨Nat.le_of_ble_eq_true rfl, Nat.le_of_ble_eq_true rfl⟩) hS (fun q _ h => hFc q h) hFc (fun r_8 u t H1 locs ht hvm hw hB hz1 hk1 hS => ?_)
      obtain ⟨hP, hD⟩ := va_join (wr := [((aa 0), .inr (8, [.ref (aa 6), .int 0, .ref (aa 4), .ref (aa 1), .ref (aa 5), .ref (aa 2), .ref (aa 10), .int 0, .ref (aa 11), .ref (aa 12), .int 0, .ref (aa 13), .ref (aa 14), .ref (aa 3), .ref (aa 15), .ref (aa 16)])), ((aa 1), .inr (0, [.int 0, .int 0, .int 0, .int (-1), .ref (aa 20), .ref (aa 21), .ref (aa 22), .ref (aa 23), .ref (aa 7), .ref (aa 24), .ref (aa 25), .ref (aa 26), .ref (aa 27), .ref (aa 28), .ref (aa 29), .ref (aa 30), .ref (aa 31)])), ((aa 2), .inr (2, [.int 0, .ref (aa 60), .ref (aa 61)])), ((aa 3), .inr (3, [.int 0, .int 0, .int 0, .ref (aa 62), .ref (aa 63)])), ((aa 4), .inr (4, [.int 0, .int (-1), .null, .int 0, .int 0, .int 0, .int 0, .int 0, .null, .ref (aa 64), .ref (aa 65), .ref (aa 66)])), ((aa 5), .inr (0, [.int 0, .int 0, .int 0, .int (-1), .ref (aa 8), .ref (aa 41), .ref (aa 42), .ref (aa 43), .ref (aa 9), .ref (aa 44), .ref (aa 45), .ref (aa 46), .ref (aa 47), .ref (aa 48), .ref (aa 49), .ref (aa 50), .ref (aa 51)])), ((aa 6), .inl ((kk 0), 900, .inl (fun _ => 0))), ((aa 7), .inl ((kk 1), 22, .inl (fun _ => 0))), ((aa 8), .inl ((kk 2), 8, .inl (fun _ => 0))), ((aa 9), .inl ((kk 3), 22, .inl (fun _ => 0)))]) (w1 := []) hP hD [10, 11, 12, 13, 14, 15] [0, 1, 2, 3, 4, 5, 6, 7, 8, 9] rfl rfl (by decide) (by decide) hk1 hFc pu_P0 pu_D0
      clear hk1 hz1 ht hvm
      generalize H1 = H at hP hS ⊢
      have hP : va_P (dC, dI) vwCl [((aa 0), .inr (8, [.ref (aa 6), .int 0, .ref (aa 4), .ref (aa 1), .ref (aa 5), .ref (aa 2), .ref (aa 10), .int 0, .ref (aa 11), .ref (aa 12), .int 0, .ref (aa 13), .ref (aa 14), .ref (aa 3), .ref (aa 15), .ref (aa 16)])), ((aa 1), .inr (0, [.int 0, .int 0, .int 0, .int (-1), .ref (aa 20), .ref (aa 21), .ref (aa 22), .ref (aa 23), .ref (aa 7), .ref (aa 24), .ref (aa 25), .ref (aa 26), .ref (aa 27), .ref (aa 28), .ref (aa 29), .ref (aa 30), .ref (aa 31)])), ((aa 2), .inr (2, [.int 0, .ref (aa 60), .ref (aa 61)])), ((aa 3), .inr (3, [.int 0, .int 0, .int 0, .ref (aa 62), .ref (aa 63)])), ((aa 4), .inr (4, [.int 0, .int (-1), .null, .int 0, .int 0, .int 0, .int 0, .int 0, .null, .ref (aa 64), .ref (aa 65), .ref (aa 66)])), ((aa 5), .inr (0, [.int 0, .int 0, .int 0, .int (-1), .ref (aa 8), .ref (aa 41), .ref (aa 42), .ref (aa 43), .ref (aa 9), .ref (aa 44), .ref (aa 45), .ref (aa 46), .ref (aa 47), .ref (aa 48), .ref (aa 49), .ref (aa 50), .ref (aa 51)])), ((aa 6), .inl ((kk 0), 900, .inl (fun _ => 0))), ((aa 7), .inl ((kk 1), 22, .inl (fun _ => 0))), ((aa 8), .inl ((kk 2), 8, .inl (fun _ => 0))), ((aa 9), .inl ((kk 3), 22, .inl (fun _ => 0)))] H := hP
      have hD : va_D A [((aa 0), .inr (8, [.ref (aa 6), .int 0, .ref (aa 4), .ref (aa 1), .ref (aa 5), .ref (aa 2), .ref (aa 10), .int 0, .ref (aa 11), .ref (aa 12), .int 0, .ref (aa 13), .ref (aa 14), .ref (aa 3), .ref (aa 15), .ref (aa 16)])), ((aa 1), .inr (0, [.int 0, .int 0, .int 0, .int (-1), .ref (aa 20), .ref (aa 21), .ref (aa 22), .ref (aa 23), .ref (aa 7), .ref (aa 24), .ref (aa 25), .ref (aa 26), .ref (aa 27), .ref (aa 28), .ref (aa 29), .ref (aa 30), .ref (aa 31)])), ((aa 2), .inr (2, [.int 0, .ref (aa 60), .ref (aa 61)])), ((aa 3), .inr (3, [.int 0, .int 0, .int 0, .ref (aa 62), .ref (aa 63)])), ((aa 4), .inr (4, [.int 0, .int (-1), .null, .int 0, .int 0, .int 0, .int 0, .int 0, .null, .ref (aa 64), .ref (aa 65), .ref (aa 66)])), ((aa 5), .inr (0, [.int 0, .int 0, .int 0, .int (-1), .ref (aa 8), .ref (aa 41), .ref (aa 42), .ref (aa 43), .ref (aa 9), .ref (aa 44), .ref (aa 45), .ref (aa 46), .ref (aa 47), .ref (aa 48), .ref (aa 49), .ref (aa 50), .ref (aa 51)])), ((aa 6), .inl ((kk 0), 900, .inl (fun _ => 0))), ((aa 7), .inl ((kk 1), 22, .inl (fun _ => 0))), ((aa 8), .inl ((kk 2), 8, .inl (fun _ => 0))), ((aa 9), .inl ((kk 3), 22, .inl (fun _ => 0)))] := hD
      obtain rfl : r_8 = (-1) := hw
      refine lv_icmp_eq (tgt := 1725) hx hb dL_law_700 (by decide) (fun _ => ?_) (fun z => absurd z (by decide))
      exact law_tail l C0 hA hAs hS (lv_sub hl [0, 4] rfl) (Nat.le_of_ble_eq_true rfl) (Nat.le_of_ble_eq_true rfl)
    · have z_0 := c_3
      have z_1 := c_7
      exfalso
      simp only [fa_lt, fa_le, fa_eq] at z_0 z_1
      have y_0 : (0 : Int32).toInt = 0 := by decide
      omega
  · refine lv_iconst (v := 1) hx hb dL_law_668 (by decide) ?_
    refine lv_goto (tgt := 673) hx hb dL_law_669 (by decide) ?_
    refine va_calli (va_runV (As := [.int (xs (1 : Int32).toNatClampNeg), .int 1]) (rest := []) ⟨hx, hb, hml, hown, hts⟩ (c_X8_graph l dC dI _ aa kk (xs (1 : Int32).toNatClampNeg) 1) (cwV 2 hts g_L_X8_graph rfl rfl rfl (by decide +kernel) ⟨Nat.le_of_ble_eq_true rfl, Nat.le_of_ble_eq_true rfl⟩) ⟨pu_bl, va_recv hK hP (ci := 8) (q0 := 0) rfl rfl, pu_in (hP.sub [0, 1, 2, 3, 4, 5, 6, 7, 8, 9] rfl) (hK.sub [0, 1, 2, 3] rfl) (hD.sub [0, 1, 2, 3, 4, 5, 6, 7, 8, 9] (by decide) rfl)⟩ rfl rfl hl.1 rfl (lv_room (Nat.le_of_ble_eq_true rfl)) dL_law_673 ⟨Nat.le_of_ble_eq_true rfl, Nat.le_of_ble_eq_true rfl⟩) hS (fun q _ h => pu_fr hS hA q h) (pu_fr hS hA) (fun r_9 u t H1 locs ht hvm hw hB hz1 hk1 hS => ?_)
    have hP := pu_keep hP hk1
    clear hk1 hz1 ht hvm
    generalize H1 = H at hP hS ⊢
    obtain rfl : r_9 = (-1) := hw
    refine lv_aload_n hx hb dL_law_676 rfl (lv_at hl 2 rfl) ?_
    refine lv_aload_n hx hb dL_law_677 rfl (lv_at hl 0 rfl) ?_
    refine lv_iload hx hb dL_law_678 (lv_at hl 4 rfl) ?_
    refine lv_iconst (v := 1) hx hb dL_law_680 (by decide) ?_
    refine lv_iadd hx hb dL_law_681 ?_
    refine lv_topi (fun y_10 ey_10 => ?_)
    obtain rfl : y_10 = 1 := ey_10.trans (by decide)
    refine va_sld hx hb hX hbl hbA hS (show ¬ (_ ∨ _) by decide) dL_law_682 ?_
    refine lv_aload_n hx hb dL_law_683 rfl (lv_at hl 0 rfl) ?_
    refine lv_iload hx hb dL_law_684 (lv_at hl 4 rfl) ?_
    refine lv_iconst (v := 2) hx hb dL_law_686 (by decide) ?_
    refine lv_iadd hx hb dL_law_687 ?_
    refine lv_topi (fun y_11 ey_11 => ?_)
    obtain rfl : y_11 = 2 := ey_11.trans (by decide)
    refine va_sld hx hb hX hbl hbA hS (show ¬ (_ ∨ _) by decide) dL_law_688 ?_
    refine lv_if_eq (tgt := 696) hx hb dL_law_689 (by decide) (fun c_12 => ?_) (fun c_12 => ?_)
    · have z_0 := c_3
      have z_1 := c_12
      exfalso
      simp only [fa_lt, fa_le, fa_eq] at z_0 z_1
      have y_0 : (0 : Int32).toInt = 0 := by decide
      omega
    · refine lv_iconst (v := 1) hx hb dL_law_692 (by decide) ?_
      refine lv_goto (tgt := 697) hx hb dL_law_693 (by decide) ?_
      have hFc := va_free (wc := [((bb 0), .inr (9, [.int 0, .ref (bb 10), .ref (bb 11), .ref (bb 12), .ref (bb 13), .ref (bb 14), .ref (bb 15), .ref (bb 16), .ref (bb 17), .ref (bb 18), .ref (bb 19), .ref (bb 20), .ref (bb 1), .ref (bb 2), .ref (bb 3), .ref (bb 4), .int 0, .ref (bb 5), .int 0, .int 0, .int 0, .int 0, .int 0, .int 0, .int 0, .int (-1), .int 0, .int 0, .int 0, .int 0, .int 0, .ref (bb 21), .ref (bb 22), .int 0, .ref (bb 23), .ref (bb 24), .ref (bb 25), .ref (bb 26), .ref (bb 27), .ref (bb 28), .ref (bb 29), .ref (bb 30), .ref (bb 31), .ref (bb 32), .ref (bb 33), .int 0, .int 0, .ref (bb 34), .ref (bb 35), .ref (bb 36), .ref (bb 37), .ref (bb 38), .int 0, .int 0, .ref (bb 39), .ref (bb 40), .ref (bb 41), .ref (bb 42), .ref (bb 43), .ref (bb 44), .ref (bb 45), .int 0, .int 0, .int 0, .ref (bb 46), .int 0, .int 0])), ((bb 1), .inl ((jj 1), 2, .inl (fun _ => 0))), ((bb 2), .inl ((jj 2), 2, .inl (fun _ => 0))), ((bb 3), .inl ((jj 3), 2, .inl (fun _ => 0))), ((bb 4), .inl ((jj 4), 2, .inl begF)), ((bb 5), .inl ((jj 5), 900, .inl (fun _ => 0)))]) hD hS hA [10, 11, 12, 13, 14, 15] rfl
      refine va_calli (va_runV (As := [.int (xs (1 : Int32).toNatClampNeg), .int 1]) (rest := [.int (-1)]) ⟨hx, hb, hml, hown, hts⟩ (c_X9_graph l dC dI _ bb jj (xs (1 : Int32).toNatClampNeg) 1) (cwV 2 hts g_L_X9_graph rfl rfl rfl (by decide +kernel) ⟨Nat.le_of_ble_eq_true rfl, Nat.le_of_ble_eq_true rfl⟩) ⟨pu_bl, va_recv hK hP (ci := 9) (q0 := 10) rfl rfl, pu_in (hP.sub [10, 11, 12, 13, 14, 15] rfl) (hK.sub [4, 5, 6, 7, 8] rfl) (hD.sub [10, 11, 12, 13, 14, 15] (by decide) rfl)⟩ rfl rfl hl.1 rfl (lv_room (Nat.le_of_ble_eq_true rfl)) dL_law_697 ⟨Nat.le_of_ble_eq_true rfl, Nat.le_of_ble_eq_true rfl⟩) hS (fun q _ h => hFc q h) hFc (fun r_13 u t H1 locs ht hvm hw hB hz1 hk1 hS => ?_)
      obtain ⟨hP, hD⟩ := va_join (wr := [((aa 0), .inr (8, [.ref (aa 6), .int 0, .ref (aa 4), .ref (aa 1), .ref (aa 5), .ref (aa 2), .ref (aa 10), .int 0, .ref (aa 11), .ref (aa 12), .int 0, .ref (aa 13), .ref (aa 14), .ref (aa 3), .ref (aa 15), .ref (aa 16)])), ((aa 1), .inr (0, [.int 0, .int 0, .int 0, .int (-1), .ref (aa 20), .ref (aa 21), .ref (aa 22), .ref (aa 23), .ref (aa 7), .ref (aa 24), .ref (aa 25), .ref (aa 26), .ref (aa 27), .ref (aa 28), .ref (aa 29), .ref (aa 30), .ref (aa 31)])), ((aa 2), .inr (2, [.int 0, .ref (aa 60), .ref (aa 61)])), ((aa 3), .inr (3, [.int 0, .int 0, .int 0, .ref (aa 62), .ref (aa 63)])), ((aa 4), .inr (4, [.int 0, .int (-1), .null, .int 0, .int 0, .int 0, .int 0, .int 0, .null, .ref (aa 64), .ref (aa 65), .ref (aa 66)])), ((aa 5), .inr (0, [.int 0, .int 0, .int 0, .int (-1), .ref (aa 8), .ref (aa 41), .ref (aa 42), .ref (aa 43), .ref (aa 9), .ref (aa 44), .ref (aa 45), .ref (aa 46), .ref (aa 47), .ref (aa 48), .ref (aa 49), .ref (aa 50), .ref (aa 51)])), ((aa 6), .inl ((kk 0), 900, .inl (fun _ => 0))), ((aa 7), .inl ((kk 1), 22, .inl (fun _ => 0))), ((aa 8), .inl ((kk 2), 8, .inl (fun _ => 0))), ((aa 9), .inl ((kk 3), 22, .inl (fun _ => 0)))]) (w1 := []) hP hD [10, 11, 12, 13, 14, 15] [0, 1, 2, 3, 4, 5, 6, 7, 8, 9] rfl rfl (by decide) (by decide) hk1 hFc pu_P0 pu_D0
      clear hk1 hz1 ht hvm
      generalize H1 = H at hP hS ⊢
      have hP : va_P (dC, dI) vwCl [((aa 0), .inr (8, [.ref (aa 6), .int 0, .ref (aa 4), .ref (aa 1), .ref (aa 5), .ref (aa 2), .ref (aa 10), .int 0, .ref (aa 11), .ref (aa 12), .int 0, .ref (aa 13), .ref (aa 14), .ref (aa 3), .ref (aa 15), .ref (aa 16)])), ((aa 1), .inr (0, [.int 0, .int 0, .int 0, .int (-1), .ref (aa 20), .ref (aa 21), .ref (aa 22), .ref (aa 23), .ref (aa 7), .ref (aa 24), .ref (aa 25), .ref (aa 26), .ref (aa 27), .ref (aa 28), .ref (aa 29), .ref (aa 30), .ref (aa 31)])), ((aa 2), .inr (2, [.int 0, .ref (aa 60), .ref (aa 61)])), ((aa 3), .inr (3, [.int 0, .int 0, .int 0, .ref (aa 62), .ref (aa 63)])), ((aa 4), .inr (4, [.int 0, .int (-1), .null, .int 0, .int 0, .int 0, .int 0, .int 0, .null, .ref (aa 64), .ref (aa 65), .ref (aa 66)])), ((aa 5), .inr (0, [.int 0, .int 0, .int 0, .int (-1), .ref (aa 8), .ref (aa 41), .ref (aa 42), .ref (aa 43), .ref (aa 9), .ref (aa 44), .ref (aa 45), .ref (aa 46), .ref (aa 47), .ref (aa 48), .ref (aa 49), .ref (aa 50), .ref (aa 51)])), ((aa 6), .inl ((kk 0), 900, .inl (fun _ => 0))), ((aa 7), .inl ((kk 1), 22, .inl (fun _ => 0))), ((aa 8), .inl ((kk 2), 8, .inl (fun _ => 0))), ((aa 9), .inl ((kk 3), 22, .inl (fun _ => 0)))] H := hP
      have hD : va_D A [((aa 0), .inr (8, [.ref (aa 6), .int 0, .ref (aa 4), .ref (aa 1), .ref (aa 5), .ref (aa 2), .ref (aa 10), .int 0, .ref (aa 11), .ref (aa 12), .int 0, .ref (aa 13), .ref (aa 14), .ref (aa 3), .ref (aa 15), .ref (aa 16)])), ((aa 1), .inr (0, [.int 0, .int 0, .int 0, .int (-1), .ref (aa 20), .ref (aa 21), .ref (aa 22), .ref (aa 23), .ref (aa 7), .ref (aa 24), .ref (aa 25), .ref (aa 26), .ref (aa 27), .ref (aa 28), .ref (aa 29), .ref (aa 30), .ref (aa 31)])), ((aa 2), .inr (2, [.int 0, .ref (aa 60), .ref (aa 61)])), ((aa 3), .inr (3, [.int 0, .int 0, .int 0, .ref (aa 62), .ref (aa 63)])), ((aa 4), .inr (4, [.int 0, .int (-1), .null, .int 0, .int 0, .int 0, .int 0, .int 0, .null, .ref (aa 64), .ref (aa 65), .ref (aa 66)])), ((aa 5), .inr (0, [.int 0, .int 0, .int 0, .int (-1), .ref (aa 8), .ref (aa 41), .ref (aa 42), .ref (aa 43), .ref (aa 9), .ref (aa 44), .ref (aa 45), .ref (aa 46), .ref (aa 47), .ref (aa 48), .ref (aa 49), .ref (aa 50), .ref (aa 51)])), ((aa 6), .inl ((kk 0), 900, .inl (fun _ => 0))), ((aa 7), .inl ((kk 1), 22, .inl (fun _ => 0))), ((aa 8), .inl ((kk 2), 8, .inl (fun _ => 0))), ((aa 9), .inl ((kk 3), 22, .inl (fun _ => 0)))] := hD
      obtain rfl : r_13 = (-1) := hw
      refine lv_icmp_eq (tgt := 1725) hx hb dL_law_700 (by decide) (fun _ => ?_) (fun z => absurd z (by decide))
      exact law_tail l C0 hA hAs hS (lv_sub hl [0, 4] rfl) (Nat.le_of_ble_eq_true rfl) (Nat.le_of_ble_eq_true rfl)
set_option maxHeartbeats 4000000 in
set_option maxRecDepth 100000 in
theorem law_case_13 {p : Program} {e : Env} {s : State} {m : MethodId} {below : List Frame} {meth : Method} {c : Code} (l : Launch) (hlt : l.stackTraces = false) {b : Nat} {xs : Nat → Int32} (C0 : lw_At p s m meth c b 7 xs) {A : Nat → Prop} (hA : ∀ q : Nat, s.heap.size ≤ q → A q) (hAs : ∀ q : Nat, A q → s.heap.size ≤ q) (hY : sy_E A s s.heap) {dC : Nat → ClassId} {dI : Nat → Nat → Nat} (aa bb : Nat → Nat) (kk jj : Nat → ClassId) (qo : Nat) (H : Heap) (locs : List Loc) (hK : va_K (dC, dI) vwCl (tX kk ++ tM jj) s) (hP : va_P (dC, dI) vwCl (wX aa kk ++ wM bb jj) H) (hD : va_D A (wX aa kk ++ wM bb jj)) (hS : va_S A s.heap H locs) (ls : Array Slot) (hl : lv_has ls 7 [(0, .ref b), (1, .ref (aa 0)), (2, .ref (bb 0)), (3, .ref qo), (4, .int 0)]) : W p l e room_1 s m #[Value.ref b] below meth c H locs 1717 133609 (lw_Z below #[Value.ref b] s) (F0 m 705 ls []) := by
  obtain ⟨hx, hb, hr, hml, hown0, hts0, hX, hbl, hlocks, hgv⟩ := id C0
  have hown : s.vm.findClass RL = some m.cls := hown0
  have hts : ∀ w ∈ vsL, w.before #[Value.ref b] s = true := fun w h => hts0 w (vsL_in w h)
  have hbA : ¬ A b := fun h => absurd (hAs b h) (Nat.not_le.mpr hbl)
  refine lv_aload_n hx hb dL_law_705 rfl (lv_at hl 1 rfl) ?_
  refine lv_aload_n hx hb dL_law_706 rfl (lv_at hl 0 rfl) ?_
  refine lv_iload hx hb dL_law_707 (lv_at hl 4 rfl) ?_
  refine lv_iconst (v := 1) hx hb dL_law_709 (by decide) ?_
  refine lv_iadd hx hb dL_law_710 ?_
  refine lv_topi (fun y_1 ey_1 => ?_)
  obtain rfl : y_1 = 1 := ey_1.trans (by decide)
  refine va_sld hx hb hX hbl hbA hS (show ¬ (_ ∨ _) by decide) dL_law_711 ?_
  refine lv_aload_n hx hb dL_law_712 rfl (lv_at hl 0 rfl) ?_
  refine lv_iload hx hb dL_law_713 (lv_at hl 4 rfl) ?_
  refine lv_iconst (v := 2) hx hb dL_law_715 (by decide) ?_
  refine lv_iadd hx hb dL_law_716 ?_
  refine lv_topi (fun y_2 ey_2 => ?_)
  obtain rfl : y_2 = 2 := ey_2.trans (by decide)
  refine va_sld hx hb hX hbl hbA hS (show ¬ (_ ∨ _) by decide) dL_law_717 ?_
  refine va_calli (va_runV (As := [.int (xs (1 : Int32).toNatClampNeg), .int (xs (2 : Int32).toNatClampNeg)]) (rest := []) ⟨hx, hb, hml, hown, hts⟩ (c_X8_state l dC dI _ aa kk (xs (1 : Int32).toNatClampNeg) (xs (2 : Int32).toNatClampNeg)) (cwV 2 hts g_L_X8_state rfl rfl rfl (by decide +kernel) ⟨Nat.le_of_ble_eq_true rfl, Nat.le_of_ble_eq_true rfl⟩) ⟨pu_bl, va_recv hK hP (ci := 8) (q0 := 0) rfl rfl, pu_in (hP.sub [0, 1, 2, 3, 4, 5, 6, 7, 8, 9] rfl) (hK.sub [0, 1, 2, 3] rfl) (hD.sub [0, 1, 2, 3, 4, 5, 6, 7, 8, 9] (by decide) rfl)⟩ rfl rfl hl.1 rfl (lv_room (Nat.le_of_ble_eq_true rfl)) dL_law_718 ⟨Nat.le_of_ble_eq_true rfl, Nat.le_of_ble_eq_true rfl⟩) hS (fun q _ h => pu_fr hS hA q h) (pu_fr hS hA) (fun r_3 u t H1 locs ht hvm hw hB hz1 hk1 hS => ?_)
  have hP := pu_keep hP hk1
  clear hk1 hz1 ht hvm
  generalize H1 = H at hP hS ⊢
  obtain rfl : r_3 = (-1) := hw
  refine lv_aload_n hx hb dL_law_721 rfl (lv_at hl 2 rfl) ?_
  refine lv_aload_n hx hb dL_law_722 rfl (lv_at hl 0 rfl) ?_
  refine lv_iload hx hb dL_law_723 (lv_at hl 4 rfl) ?_
  refine lv_iconst (v := 1) hx hb dL_law_725 (by decide) ?_
  refine lv_iadd hx hb dL_law_726 ?_
  refine lv_topi (fun y_4 ey_4 => ?_)
  obtain rfl : y_4 = 1 := ey_4.trans (by decide)
  refine va_sld hx hb hX hbl hbA hS (show ¬ (_ ∨ _) by decide) dL_law_727 ?_
  refine lv_aload_n hx hb dL_law_728 rfl (lv_at hl 0 rfl) ?_
  refine lv_iload hx hb dL_law_729 (lv_at hl 4 rfl) ?_
  refine lv_iconst (v := 2) hx hb dL_law_731 (by decide) ?_
  refine lv_iadd hx hb dL_law_732 ?_
  refine lv_topi (fun y_5 ey_5 => ?_)
  obtain rfl : y_5 = 2 := ey_5.trans (by decide)
  refine va_sld hx hb hX hbl hbA hS (show ¬ (_ ∨ _) by decide) dL_law_733 ?_
  have hFc := va_free (wc := [((bb 0), .inr (9, [.int 0, .ref (bb 10), .ref (bb 11), .ref (bb 12), .ref (bb 13), .ref (bb 14), .ref (bb 15), .ref (bb 16), .ref (bb 17), .ref (bb 18), .ref (bb 19), .ref (bb 20), .ref (bb 1), .ref (bb 2), .ref (bb 3), .ref (bb 4), .int 0, .ref (bb 5), .int 0, .int 0, .int 0, .int 0, .int 0, .int 0, .int 0, .int (-1), .int 0, .int 0, .int 0, .int 0, .int 0, .ref (bb 21), .ref (bb 22), .int 0, .ref (bb 23), .ref (bb 24), .ref (bb 25), .ref (bb 26), .ref (bb 27), .ref (bb 28), .ref (bb 29), .ref (bb 30), .ref (bb 31), .ref (bb 32), .ref (bb 33), .int 0, .int 0, .ref (bb 34), .ref (bb 35), .ref (bb 36), .ref (bb 37), .ref (bb 38), .int 0, .int 0, .ref (bb 39), .ref (bb 40), .ref (bb 41), .ref (bb 42), .ref (bb 43), .ref (bb 44), .ref (bb 45), .int 0, .int 0, .int 0, .ref (bb 46), .int 0, .int 0])), ((bb 1), .inl ((jj 1), 2, .inl (fun _ => 0))), ((bb 2), .inl ((jj 2), 2, .inl (fun _ => 0))), ((bb 3), .inl ((jj 3), 2, .inl (fun _ => 0))), ((bb 4), .inl ((jj 4), 2, .inl begF)), ((bb 5), .inl ((jj 5), 900, .inl (fun _ => 0)))]) hD hS hA [10, 11, 12, 13, 14, 15] rfl
  refine va_calli (va_runV (As := [.int (xs (1 : Int32).toNatClampNeg), .int (xs (2 : Int32).toNatClampNeg)]) (rest := [.int (-1)]) ⟨hx, hb, hml, hown, hts⟩ (c_X9_state l dC dI _ bb jj (xs (1 : Int32).toNatClampNeg) (xs (2 : Int32).toNatClampNeg)) (cwV 2 hts g_L_X9_state rfl rfl rfl (by decide +kernel) ⟨Nat.le_of_ble_eq_true rfl, Nat.le_of_ble_eq_true rfl⟩) ⟨pu_bl, va_recv hK hP (ci := 9) (q0 := 10) rfl rfl, pu_in (hP.sub [10, 11, 12, 13, 14, 15] rfl) (hK.sub [4, 5, 6, 7, 8] rfl) (hD.sub [10, 11, 12, 13, 14, 15] (by decide) rfl)⟩ rfl rfl hl.1 rfl (lv_room (Nat.le_of_ble_eq_true rfl)) dL_law_734 ⟨Nat.le_of_ble_eq_true rfl, Nat.le_of_ble_eq_true rfl⟩) hS (fun q _ h => hFc q h) hFc (fun r_6 u t H1 locs ht hvm hw hB hz1 hk1 hS => ?_)
  obtain ⟨hP, hD⟩ := va_join (wr := [((aa 0), .inr (8, [.ref (aa 6), .int 0, .ref (aa 4), .ref (aa 1), .ref (aa 5), .ref (aa 2), .ref (aa 10), .int 0, .ref (aa 11), .ref (aa 12), .int 0, .ref (aa 13), .ref (aa 14), .ref (aa 3), .ref (aa 15), .ref (aa 16)])), ((aa 1), .inr (0, [.int 0, .int 0, .int 0, .int (-1), .ref (aa 20), .ref (aa 21), .ref (aa 22), .ref (aa 23), .ref (aa 7), .ref (aa 24), .ref (aa 25), .ref (aa 26), .ref (aa 27), .ref (aa 28), .ref (aa 29), .ref (aa 30), .ref (aa 31)])), ((aa 2), .inr (2, [.int 0, .ref (aa 60), .ref (aa 61)])), ((aa 3), .inr (3, [.int 0, .int 0, .int 0, .ref (aa 62), .ref (aa 63)])), ((aa 4), .inr (4, [.int 0, .int (-1), .null, .int 0, .int 0, .int 0, .int 0, .int 0, .null, .ref (aa 64), .ref (aa 65), .ref (aa 66)])), ((aa 5), .inr (0, [.int 0, .int 0, .int 0, .int (-1), .ref (aa 8), .ref (aa 41), .ref (aa 42), .ref (aa 43), .ref (aa 9), .ref (aa 44), .ref (aa 45), .ref (aa 46), .ref (aa 47), .ref (aa 48), .ref (aa 49), .ref (aa 50), .ref (aa 51)])), ((aa 6), .inl ((kk 0), 900, .inl (fun _ => 0))), ((aa 7), .inl ((kk 1), 22, .inl (fun _ => 0))), ((aa 8), .inl ((kk 2), 8, .inl (fun _ => 0))), ((aa 9), .inl ((kk 3), 22, .inl (fun _ => 0)))]) (w1 := []) hP hD [10, 11, 12, 13, 14, 15] [0, 1, 2, 3, 4, 5, 6, 7, 8, 9] rfl rfl (by decide) (by decide) hk1 hFc pu_P0 pu_D0
  clear hk1 hz1 ht hvm
  generalize H1 = H at hP hS ⊢
  have hP : va_P (dC, dI) vwCl [((aa 0), .inr (8, [.ref (aa 6), .int 0, .ref (aa 4), .ref (aa 1), .ref (aa 5), .ref (aa 2), .ref (aa 10), .int 0, .ref (aa 11), .ref (aa 12), .int 0, .ref (aa 13), .ref (aa 14), .ref (aa 3), .ref (aa 15), .ref (aa 16)])), ((aa 1), .inr (0, [.int 0, .int 0, .int 0, .int (-1), .ref (aa 20), .ref (aa 21), .ref (aa 22), .ref (aa 23), .ref (aa 7), .ref (aa 24), .ref (aa 25), .ref (aa 26), .ref (aa 27), .ref (aa 28), .ref (aa 29), .ref (aa 30), .ref (aa 31)])), ((aa 2), .inr (2, [.int 0, .ref (aa 60), .ref (aa 61)])), ((aa 3), .inr (3, [.int 0, .int 0, .int 0, .ref (aa 62), .ref (aa 63)])), ((aa 4), .inr (4, [.int 0, .int (-1), .null, .int 0, .int 0, .int 0, .int 0, .int 0, .null, .ref (aa 64), .ref (aa 65), .ref (aa 66)])), ((aa 5), .inr (0, [.int 0, .int 0, .int 0, .int (-1), .ref (aa 8), .ref (aa 41), .ref (aa 42), .ref (aa 43), .ref (aa 9), .ref (aa 44), .ref (aa 45), .ref (aa 46), .ref (aa 47), .ref (aa 48), .ref (aa 49), .ref (aa 50), .ref (aa 51)])), ((aa 6), .inl ((kk 0), 900, .inl (fun _ => 0))), ((aa 7), .inl ((kk 1), 22, .inl (fun _ => 0))), ((aa 8), .inl ((kk 2), 8, .inl (fun _ => 0))), ((aa 9), .inl ((kk 3), 22, .inl (fun _ => 0)))] H := hP
  have hD : va_D A [((aa 0), .inr (8, [.ref (aa 6), .int 0, .ref (aa 4), .ref (aa 1), .ref (aa 5), .ref (aa 2), .ref (aa 10), .int 0, .ref (aa 11), .ref (aa 12), .int 0, .ref (aa 13), .ref (aa 14), .ref (aa 3), .ref (aa 15), .ref (aa 16)])), ((aa 1), .inr (0, [.int 0, .int 0, .int 0, .int (-1), .ref (aa 20), .ref (aa 21), .ref (aa 22), .ref (aa 23), .ref (aa 7), .ref (aa 24), .ref (aa 25), .ref (aa 26), .ref (aa 27), .ref (aa 28), .ref (aa 29), .ref (aa 30), .ref (aa 31)])), ((aa 2), .inr (2, [.int 0, .ref (aa 60), .ref (aa 61)])), ((aa 3), .inr (3, [.int 0, .int 0, .int 0, .ref (aa 62), .ref (aa 63)])), ((aa 4), .inr (4, [.int 0, .int (-1), .null, .int 0, .int 0, .int 0, .int 0, .int 0, .null, .ref (aa 64), .ref (aa 65), .ref (aa 66)])), ((aa 5), .inr (0, [.int 0, .int 0, .int 0, .int (-1), .ref (aa 8), .ref (aa 41), .ref (aa 42), .ref (aa 43), .ref (aa 9), .ref (aa 44), .ref (aa 45), .ref (aa 46), .ref (aa 47), .ref (aa 48), .ref (aa 49), .ref (aa 50), .ref (aa 51)])), ((aa 6), .inl ((kk 0), 900, .inl (fun _ => 0))), ((aa 7), .inl ((kk 1), 22, .inl (fun _ => 0))), ((aa 8), .inl ((kk 2), 8, .inl (fun _ => 0))), ((aa 9), .inl ((kk 3), 22, .inl (fun _ => 0)))] := hD
  obtain rfl : r_6 = (-1) := hw
  refine lv_icmp_eq (tgt := 1725) hx hb dL_law_737 (by decide) (fun _ => ?_) (fun z => absurd z (by decide))
  exact law_tail l C0 hA hAs hS (lv_sub hl [0, 4] rfl) (Nat.le_of_ble_eq_true rfl) (Nat.le_of_ble_eq_true rfl)
set_option maxHeartbeats 4000000 in
set_option maxRecDepth 100000 in
theorem law_case_14 {p : Program} {e : Env} {s : State} {m : MethodId} {below : List Frame} {meth : Method} {c : Code} (l : Launch) (hlt : l.stackTraces = false) {b : Nat} {xs : Nat → Int32} (C0 : lw_At p s m meth c b 7 xs) {A : Nat → Prop} (hA : ∀ q : Nat, s.heap.size ≤ q → A q) (hAs : ∀ q : Nat, A q → s.heap.size ≤ q) (hY : sy_E A s s.heap) {dC : Nat → ClassId} {dI : Nat → Nat → Nat} (aa bb : Nat → Nat) (kk jj : Nat → ClassId) (qo : Nat) (H : Heap) (locs : List Loc) (hK : va_K (dC, dI) vwCl (tX kk ++ tM jj) s) (hP : va_P (dC, dI) vwCl (wX aa kk ++ wM bb jj) H) (hD : va_D A (wX aa kk ++ wM bb jj)) (hS : va_S A s.heap H locs) (ls : Array Slot) (hl : lv_has ls 7 [(0, .ref b), (1, .ref (aa 0)), (2, .ref (bb 0)), (3, .ref qo), (4, .int 0)]) : W p l e room_1 s m #[Value.ref b] below meth c H locs 1717 133609 (lw_Z below #[Value.ref b] s) (F0 m 742 ls []) := by
  obtain ⟨hx, hb, hr, hml, hown0, hts0, hX, hbl, hlocks, hgv⟩ := id C0
  have hown : s.vm.findClass RL = some m.cls := hown0
  have hts : ∀ w ∈ vsL, w.before #[Value.ref b] s = true := fun w h => hts0 w (vsL_in w h)
  have hbA : ¬ A b := fun h => absurd (hAs b h) (Nat.not_le.mpr hbl)
  refine lv_aload_n hx hb dL_law_742 rfl (lv_at hl 1 rfl) ?_
  refine lv_aload_n hx hb dL_law_743 rfl (lv_at hl 0 rfl) ?_
  refine lv_iload hx hb dL_law_744 (lv_at hl 4 rfl) ?_
  refine lv_iconst (v := 1) hx hb dL_law_746 (by decide) ?_
  refine lv_iadd hx hb dL_law_747 ?_
  refine lv_topi (fun y_1 ey_1 => ?_)
  obtain rfl : y_1 = 1 := ey_1.trans (by decide)
  refine va_sld hx hb hX hbl hbA hS (show ¬ (_ ∨ _) by decide) dL_law_748 ?_
  refine lv_aload_n hx hb dL_law_749 rfl (lv_at hl 0 rfl) ?_
  refine lv_iload hx hb dL_law_750 (lv_at hl 4 rfl) ?_
  refine lv_iconst (v := 2) hx hb dL_law_752 (by decide) ?_
  refine lv_iadd hx hb dL_law_753 ?_
  refine lv_topi (fun y_2 ey_2 => ?_)
  obtain rfl : y_2 = 2 := ey_2.trans (by decide)
  refine va_sld hx hb hX hbl hbA hS (show ¬ (_ ∨ _) by decide) dL_law_754 ?_
  refine lv_aload_n hx hb dL_law_755 rfl (lv_at hl 0 rfl) ?_
  refine lv_iload hx hb dL_law_756 (lv_at hl 4 rfl) ?_
  refine lv_iconst (v := 3) hx hb dL_law_758 (by decide) ?_
  refine lv_iadd hx hb dL_law_759 ?_
  refine lv_topi (fun y_3 ey_3 => ?_)
  obtain rfl : y_3 = 3 := ey_3.trans (by decide)
  refine va_sld hx hb hX hbl hbA hS (show ¬ (_ ∨ _) by decide) dL_law_760 ?_
  refine lv_aload_n hx hb dL_law_761 rfl (lv_at hl 0 rfl) ?_
  refine lv_iload hx hb dL_law_762 (lv_at hl 4 rfl) ?_
  refine lv_iconst (v := 4) hx hb dL_law_764 (by decide) ?_
  refine lv_iadd hx hb dL_law_765 ?_
  refine lv_topi (fun y_4 ey_4 => ?_)
  obtain rfl : y_4 = 4 := ey_4.trans (by decide)
  refine va_sld hx hb hX hbl hbA hS (show ¬ (_ ∨ _) by decide) dL_law_766 ?_
  refine va_calli (va_runV (As := [.int (xs (1 : Int32).toNatClampNeg), .int (xs (2 : Int32).toNatClampNeg), .int (xs (3 : Int32).toNatClampNeg), .int (xs (4 : Int32).toNatClampNeg)]) (rest := []) ⟨hx, hb, hml, hown, hts⟩ (c_X8_bound l dC dI _ aa kk (xs (1 : Int32).toNatClampNeg) (xs (2 : Int32).toNatClampNeg) (xs (3 : Int32).toNatClampNeg) (xs (4 : Int32).toNatClampNeg)) (cwV 4 hts g_L_X8_bound rfl rfl rfl (by decide +kernel) ⟨Nat.le_of_ble_eq_true rfl, Nat.le_of_ble_eq_true rfl⟩) ⟨pu_bl, va_recv hK hP (ci := 8) (q0 := 0) rfl rfl, pu_in (hP.sub [0, 1, 2, 3, 4, 5, 6, 7, 8, 9] rfl) (hK.sub [0, 1, 2, 3] rfl) (hD.sub [0, 1, 2, 3, 4, 5, 6, 7, 8, 9] (by decide) rfl)⟩ rfl rfl hl.1 rfl (lv_room (Nat.le_of_ble_eq_true rfl)) dL_law_767 ⟨Nat.le_of_ble_eq_true rfl, Nat.le_of_ble_eq_true rfl⟩) hS (fun q _ h => pu_fr hS hA q h) (pu_fr hS hA) (fun r_5 u t H1 locs ht hvm hw hB hz1 hk1 hS => ?_)
  have hP := pu_keep hP hk1
  clear hk1 hz1 ht hvm
  generalize H1 = H at hP hS ⊢
  obtain rfl : r_5 = (-2147483648) := hw
  refine lv_aload_n hx hb dL_law_770 rfl (lv_at hl 2 rfl) ?_
  refine lv_aload_n hx hb dL_law_771 rfl (lv_at hl 0 rfl) ?_
  refine lv_iload hx hb dL_law_772 (lv_at hl 4 rfl) ?_
  refine lv_iconst (v := 1) hx hb dL_law_774 (by decide) ?_
  refine lv_iadd hx hb dL_law_775 ?_
  refine lv_topi (fun y_6 ey_6 => ?_)
  obtain rfl : y_6 = 1 := ey_6.trans (by decide)
  refine va_sld hx hb hX hbl hbA hS (show ¬ (_ ∨ _) by decide) dL_law_776 ?_
  refine lv_aload_n hx hb dL_law_777 rfl (lv_at hl 0 rfl) ?_
  refine lv_iload hx hb dL_law_778 (lv_at hl 4 rfl) ?_
  refine lv_iconst (v := 2) hx hb dL_law_780 (by decide) ?_
  refine lv_iadd hx hb dL_law_781 ?_
  refine lv_topi (fun y_7 ey_7 => ?_)
  obtain rfl : y_7 = 2 := ey_7.trans (by decide)
  refine va_sld hx hb hX hbl hbA hS (show ¬ (_ ∨ _) by decide) dL_law_782 ?_
  refine lv_aload_n hx hb dL_law_783 rfl (lv_at hl 0 rfl) ?_
  refine lv_iload hx hb dL_law_784 (lv_at hl 4 rfl) ?_
  refine lv_iconst (v := 3) hx hb dL_law_786 (by decide) ?_
  refine lv_iadd hx hb dL_law_787 ?_
  refine lv_topi (fun y_8 ey_8 => ?_)
  obtain rfl : y_8 = 3 := ey_8.trans (by decide)
  refine va_sld hx hb hX hbl hbA hS (show ¬ (_ ∨ _) by decide) dL_law_788 ?_
  refine lv_aload_n hx hb dL_law_789 rfl (lv_at hl 0 rfl) ?_
  refine lv_iload hx hb dL_law_790 (lv_at hl 4 rfl) ?_
  refine lv_iconst (v := 4) hx hb dL_law_792 (by decide) ?_
  refine lv_iadd hx hb dL_law_793 ?_
  refine lv_topi (fun y_9 ey_9 => ?_)
  obtain rfl : y_9 = 4 := ey_9.trans (by decide)
  refine va_sld hx hb hX hbl hbA hS (show ¬ (_ ∨ _) by decide) dL_law_794 ?_
  have hFc := va_free (wc := [((bb 0), .inr (9, [.int 0, .ref (bb 10), .ref (bb 11), .ref (bb 12), .ref (bb 13), .ref (bb 14), .ref (bb 15), .ref (bb 16), .ref (bb 17), .ref (bb 18), .ref (bb 19), .ref (bb 20), .ref (bb 1), .ref (bb 2), .ref (bb 3), .ref (bb 4), .int 0, .ref (bb 5), .int 0, .int 0, .int 0, .int 0, .int 0, .int 0, .int 0, .int (-1), .int 0, .int 0, .int 0, .int 0, .int 0, .ref (bb 21), .ref (bb 22), .int 0, .ref (bb 23), .ref (bb 24), .ref (bb 25), .ref (bb 26), .ref (bb 27), .ref (bb 28), .ref (bb 29), .ref (bb 30), .ref (bb 31), .ref (bb 32), .ref (bb 33), .int 0, .int 0, .ref (bb 34), .ref (bb 35), .ref (bb 36), .ref (bb 37), .ref (bb 38), .int 0, .int 0, .ref (bb 39), .ref (bb 40), .ref (bb 41), .ref (bb 42), .ref (bb 43), .ref (bb 44), .ref (bb 45), .int 0, .int 0, .int 0, .ref (bb 46), .int 0, .int 0])), ((bb 1), .inl ((jj 1), 2, .inl (fun _ => 0))), ((bb 2), .inl ((jj 2), 2, .inl (fun _ => 0))), ((bb 3), .inl ((jj 3), 2, .inl (fun _ => 0))), ((bb 4), .inl ((jj 4), 2, .inl begF)), ((bb 5), .inl ((jj 5), 900, .inl (fun _ => 0)))]) hD hS hA [10, 11, 12, 13, 14, 15] rfl
  refine va_calli (va_runV (As := [.int (xs (1 : Int32).toNatClampNeg), .int (xs (2 : Int32).toNatClampNeg), .int (xs (3 : Int32).toNatClampNeg), .int (xs (4 : Int32).toNatClampNeg)]) (rest := [.int (-2147483648)]) ⟨hx, hb, hml, hown, hts⟩ (c_X9_bound l dC dI _ bb jj (xs (1 : Int32).toNatClampNeg) (xs (2 : Int32).toNatClampNeg) (xs (3 : Int32).toNatClampNeg) (xs (4 : Int32).toNatClampNeg)) (cwV 4 hts g_L_X9_bound rfl rfl rfl (by decide +kernel) ⟨Nat.le_of_ble_eq_true rfl, Nat.le_of_ble_eq_true rfl⟩) ⟨pu_bl, va_recv hK hP (ci := 9) (q0 := 10) rfl rfl, pu_in (hP.sub [10, 11, 12, 13, 14, 15] rfl) (hK.sub [4, 5, 6, 7, 8] rfl) (hD.sub [10, 11, 12, 13, 14, 15] (by decide) rfl)⟩ rfl rfl hl.1 rfl (lv_room (Nat.le_of_ble_eq_true rfl)) dL_law_795 ⟨Nat.le_of_ble_eq_true rfl, Nat.le_of_ble_eq_true rfl⟩) hS (fun q _ h => hFc q h) hFc (fun r_10 u t H1 locs ht hvm hw hB hz1 hk1 hS => ?_)
  obtain ⟨hP, hD⟩ := va_join (wr := [((aa 0), .inr (8, [.ref (aa 6), .int 0, .ref (aa 4), .ref (aa 1), .ref (aa 5), .ref (aa 2), .ref (aa 10), .int 0, .ref (aa 11), .ref (aa 12), .int 0, .ref (aa 13), .ref (aa 14), .ref (aa 3), .ref (aa 15), .ref (aa 16)])), ((aa 1), .inr (0, [.int 0, .int 0, .int 0, .int (-1), .ref (aa 20), .ref (aa 21), .ref (aa 22), .ref (aa 23), .ref (aa 7), .ref (aa 24), .ref (aa 25), .ref (aa 26), .ref (aa 27), .ref (aa 28), .ref (aa 29), .ref (aa 30), .ref (aa 31)])), ((aa 2), .inr (2, [.int 0, .ref (aa 60), .ref (aa 61)])), ((aa 3), .inr (3, [.int 0, .int 0, .int 0, .ref (aa 62), .ref (aa 63)])), ((aa 4), .inr (4, [.int 0, .int (-1), .null, .int 0, .int 0, .int 0, .int 0, .int 0, .null, .ref (aa 64), .ref (aa 65), .ref (aa 66)])), ((aa 5), .inr (0, [.int 0, .int 0, .int 0, .int (-1), .ref (aa 8), .ref (aa 41), .ref (aa 42), .ref (aa 43), .ref (aa 9), .ref (aa 44), .ref (aa 45), .ref (aa 46), .ref (aa 47), .ref (aa 48), .ref (aa 49), .ref (aa 50), .ref (aa 51)])), ((aa 6), .inl ((kk 0), 900, .inl (fun _ => 0))), ((aa 7), .inl ((kk 1), 22, .inl (fun _ => 0))), ((aa 8), .inl ((kk 2), 8, .inl (fun _ => 0))), ((aa 9), .inl ((kk 3), 22, .inl (fun _ => 0)))]) (w1 := []) hP hD [10, 11, 12, 13, 14, 15] [0, 1, 2, 3, 4, 5, 6, 7, 8, 9] rfl rfl (by decide) (by decide) hk1 hFc pu_P0 pu_D0
  clear hk1 hz1 ht hvm
  generalize H1 = H at hP hS ⊢
  have hP : va_P (dC, dI) vwCl [((aa 0), .inr (8, [.ref (aa 6), .int 0, .ref (aa 4), .ref (aa 1), .ref (aa 5), .ref (aa 2), .ref (aa 10), .int 0, .ref (aa 11), .ref (aa 12), .int 0, .ref (aa 13), .ref (aa 14), .ref (aa 3), .ref (aa 15), .ref (aa 16)])), ((aa 1), .inr (0, [.int 0, .int 0, .int 0, .int (-1), .ref (aa 20), .ref (aa 21), .ref (aa 22), .ref (aa 23), .ref (aa 7), .ref (aa 24), .ref (aa 25), .ref (aa 26), .ref (aa 27), .ref (aa 28), .ref (aa 29), .ref (aa 30), .ref (aa 31)])), ((aa 2), .inr (2, [.int 0, .ref (aa 60), .ref (aa 61)])), ((aa 3), .inr (3, [.int 0, .int 0, .int 0, .ref (aa 62), .ref (aa 63)])), ((aa 4), .inr (4, [.int 0, .int (-1), .null, .int 0, .int 0, .int 0, .int 0, .int 0, .null, .ref (aa 64), .ref (aa 65), .ref (aa 66)])), ((aa 5), .inr (0, [.int 0, .int 0, .int 0, .int (-1), .ref (aa 8), .ref (aa 41), .ref (aa 42), .ref (aa 43), .ref (aa 9), .ref (aa 44), .ref (aa 45), .ref (aa 46), .ref (aa 47), .ref (aa 48), .ref (aa 49), .ref (aa 50), .ref (aa 51)])), ((aa 6), .inl ((kk 0), 900, .inl (fun _ => 0))), ((aa 7), .inl ((kk 1), 22, .inl (fun _ => 0))), ((aa 8), .inl ((kk 2), 8, .inl (fun _ => 0))), ((aa 9), .inl ((kk 3), 22, .inl (fun _ => 0)))] H := hP
  have hD : va_D A [((aa 0), .inr (8, [.ref (aa 6), .int 0, .ref (aa 4), .ref (aa 1), .ref (aa 5), .ref (aa 2), .ref (aa 10), .int 0, .ref (aa 11), .ref (aa 12), .int 0, .ref (aa 13), .ref (aa 14), .ref (aa 3), .ref (aa 15), .ref (aa 16)])), ((aa 1), .inr (0, [.int 0, .int 0, .int 0, .int (-1), .ref (aa 20), .ref (aa 21), .ref (aa 22), .ref (aa 23), .ref (aa 7), .ref (aa 24), .ref (aa 25), .ref (aa 26), .ref (aa 27), .ref (aa 28), .ref (aa 29), .ref (aa 30), .ref (aa 31)])), ((aa 2), .inr (2, [.int 0, .ref (aa 60), .ref (aa 61)])), ((aa 3), .inr (3, [.int 0, .int 0, .int 0, .ref (aa 62), .ref (aa 63)])), ((aa 4), .inr (4, [.int 0, .int (-1), .null, .int 0, .int 0, .int 0, .int 0, .int 0, .null, .ref (aa 64), .ref (aa 65), .ref (aa 66)])), ((aa 5), .inr (0, [.int 0, .int 0, .int 0, .int (-1), .ref (aa 8), .ref (aa 41), .ref (aa 42), .ref (aa 43), .ref (aa 9), .ref (aa 44), .ref (aa 45), .ref (aa 46), .ref (aa 47), .ref (aa 48), .ref (aa 49), .ref (aa 50), .ref (aa 51)])), ((aa 6), .inl ((kk 0), 900, .inl (fun _ => 0))), ((aa 7), .inl ((kk 1), 22, .inl (fun _ => 0))), ((aa 8), .inl ((kk 2), 8, .inl (fun _ => 0))), ((aa 9), .inl ((kk 3), 22, .inl (fun _ => 0)))] := hD
  obtain rfl : r_10 = (-2147483648) := hw
  refine lv_icmp_eq (tgt := 1725) hx hb dL_law_798 (by decide) (fun _ => ?_) (fun z => absurd z (by decide))
  exact law_tail l C0 hA hAs hS (lv_sub hl [0, 4] rfl) (Nat.le_of_ble_eq_true rfl) (Nat.le_of_ble_eq_true rfl)
set_option maxHeartbeats 4000000 in
set_option maxRecDepth 100000 in
theorem law_case_15 {p : Program} {e : Env} {s : State} {m : MethodId} {below : List Frame} {meth : Method} {c : Code} (l : Launch) (hlt : l.stackTraces = false) {b : Nat} {xs : Nat → Int32} (C0 : lw_At p s m meth c b 7 xs) {A : Nat → Prop} (hA : ∀ q : Nat, s.heap.size ≤ q → A q) (hAs : ∀ q : Nat, A q → s.heap.size ≤ q) (hY : sy_E A s s.heap) {dC : Nat → ClassId} {dI : Nat → Nat → Nat} (aa bb : Nat → Nat) (kk jj : Nat → ClassId) (qo : Nat) (H : Heap) (locs : List Loc) (hK : va_K (dC, dI) vwCl (tX kk ++ tM jj) s) (hP : va_P (dC, dI) vwCl (wX aa kk ++ wM bb jj) H) (hD : va_D A (wX aa kk ++ wM bb jj)) (hS : va_S A s.heap H locs) (ls : Array Slot) (hl : lv_has ls 7 [(0, .ref b), (1, .ref (aa 0)), (2, .ref (bb 0)), (3, .ref qo), (4, .int 0)]) : W p l e room_1 s m #[Value.ref b] below meth c H locs 1717 133609 (lw_Z below #[Value.ref b] s) (F0 m 803 ls []) := by
  obtain ⟨hx, hb, hr, hml, hown0, hts0, hX, hbl, hlocks, hgv⟩ := id C0
  have hown : s.vm.findClass RL = some m.cls := hown0
  have hts : ∀ w ∈ vsL, w.before #[Value.ref b] s = true := fun w h => hts0 w (vsL_in w h)
  have hbA : ¬ A b := fun h => absurd (hAs b h) (Nat.not_le.mpr hbl)
  refine lv_aload_n hx hb dL_law_803 rfl (lv_at hl 1 rfl) ?_
  refine lv_aload_n hx hb dL_law_804 rfl (lv_at hl 0 rfl) ?_
  refine lv_iload hx hb dL_law_805 (lv_at hl 4 rfl) ?_
  refine lv_iconst (v := 1) hx hb dL_law_807 (by decide) ?_
  refine lv_iadd hx hb dL_law_808 ?_
  refine lv_topi (fun y_1 ey_1 => ?_)
  obtain rfl : y_1 = 1 := ey_1.trans (by decide)
  refine va_sld hx hb hX hbl hbA hS (show ¬ (_ ∨ _) by decide) dL_law_809 ?_
  refine lv_aload_n hx hb dL_law_810 rfl (lv_at hl 0 rfl) ?_
  refine lv_iload hx hb dL_law_811 (lv_at hl 4 rfl) ?_
  refine lv_iconst (v := 2) hx hb dL_law_813 (by decide) ?_
  refine lv_iadd hx hb dL_law_814 ?_
  refine lv_topi (fun y_2 ey_2 => ?_)
  obtain rfl : y_2 = 2 := ey_2.trans (by decide)
  refine va_sld hx hb hX hbl hbA hS (show ¬ (_ ∨ _) by decide) dL_law_815 ?_
  refine va_calli (va_runV (As := [.int (xs (1 : Int32).toNatClampNeg), .int (xs (2 : Int32).toNatClampNeg)]) (rest := []) ⟨hx, hb, hml, hown, hts⟩ (c_X8_within l dC dI _ aa kk (xs (1 : Int32).toNatClampNeg) (xs (2 : Int32).toNatClampNeg)) (cwV 2 hts g_L_X8_within rfl rfl rfl (by decide +kernel) ⟨Nat.le_of_ble_eq_true rfl, Nat.le_of_ble_eq_true rfl⟩) ⟨pu_bl, va_recv hK hP (ci := 8) (q0 := 0) rfl rfl, pu_in (hP.sub [0, 1, 2, 3, 4, 5, 6, 7, 8, 9] rfl) (hK.sub [0, 1, 2, 3] rfl) (hD.sub [0, 1, 2, 3, 4, 5, 6, 7, 8, 9] (by decide) rfl)⟩ rfl rfl hl.1 rfl (lv_room (Nat.le_of_ble_eq_true rfl)) dL_law_816 ⟨Nat.le_of_ble_eq_true rfl, Nat.le_of_ble_eq_true rfl⟩) hS (fun q _ h => pu_fr hS hA q h) (pu_fr hS hA) (fun r_3 u t H1 locs ht hvm hw hB hz1 hk1 hS => ?_)
  have hP := pu_keep hP hk1
  clear hk1 hz1 ht hvm
  generalize H1 = H at hP hS ⊢
  obtain rfl : r_3 = (-1) := hw
  refine lv_aload_n hx hb dL_law_819 rfl (lv_at hl 2 rfl) ?_
  refine lv_aload_n hx hb dL_law_820 rfl (lv_at hl 0 rfl) ?_
  refine lv_iload hx hb dL_law_821 (lv_at hl 4 rfl) ?_
  refine lv_iconst (v := 1) hx hb dL_law_823 (by decide) ?_
  refine lv_iadd hx hb dL_law_824 ?_
  refine lv_topi (fun y_4 ey_4 => ?_)
  obtain rfl : y_4 = 1 := ey_4.trans (by decide)
  refine va_sld hx hb hX hbl hbA hS (show ¬ (_ ∨ _) by decide) dL_law_825 ?_
  refine lv_aload_n hx hb dL_law_826 rfl (lv_at hl 0 rfl) ?_
  refine lv_iload hx hb dL_law_827 (lv_at hl 4 rfl) ?_
  refine lv_iconst (v := 2) hx hb dL_law_829 (by decide) ?_
  refine lv_iadd hx hb dL_law_830 ?_
  refine lv_topi (fun y_5 ey_5 => ?_)
  obtain rfl : y_5 = 2 := ey_5.trans (by decide)
  refine va_sld hx hb hX hbl hbA hS (show ¬ (_ ∨ _) by decide) dL_law_831 ?_
  have hFc := va_free (wc := [((bb 0), .inr (9, [.int 0, .ref (bb 10), .ref (bb 11), .ref (bb 12), .ref (bb 13), .ref (bb 14), .ref (bb 15), .ref (bb 16), .ref (bb 17), .ref (bb 18), .ref (bb 19), .ref (bb 20), .ref (bb 1), .ref (bb 2), .ref (bb 3), .ref (bb 4), .int 0, .ref (bb 5), .int 0, .int 0, .int 0, .int 0, .int 0, .int 0, .int 0, .int (-1), .int 0, .int 0, .int 0, .int 0, .int 0, .ref (bb 21), .ref (bb 22), .int 0, .ref (bb 23), .ref (bb 24), .ref (bb 25), .ref (bb 26), .ref (bb 27), .ref (bb 28), .ref (bb 29), .ref (bb 30), .ref (bb 31), .ref (bb 32), .ref (bb 33), .int 0, .int 0, .ref (bb 34), .ref (bb 35), .ref (bb 36), .ref (bb 37), .ref (bb 38), .int 0, .int 0, .ref (bb 39), .ref (bb 40), .ref (bb 41), .ref (bb 42), .ref (bb 43), .ref (bb 44), .ref (bb 45), .int 0, .int 0, .int 0, .ref (bb 46), .int 0, .int 0])), ((bb 1), .inl ((jj 1), 2, .inl (fun _ => 0))), ((bb 2), .inl ((jj 2), 2, .inl (fun _ => 0))), ((bb 3), .inl ((jj 3), 2, .inl (fun _ => 0))), ((bb 4), .inl ((jj 4), 2, .inl begF)), ((bb 5), .inl ((jj 5), 900, .inl (fun _ => 0)))]) hD hS hA [10, 11, 12, 13, 14, 15] rfl
  refine va_calli (va_runV (As := [.int (xs (1 : Int32).toNatClampNeg), .int (xs (2 : Int32).toNatClampNeg)]) (rest := [.int (-1)]) ⟨hx, hb, hml, hown, hts⟩ (c_X9_within l dC dI _ bb jj (xs (1 : Int32).toNatClampNeg) (xs (2 : Int32).toNatClampNeg)) (cwV 2 hts g_L_X9_within rfl rfl rfl (by decide +kernel) ⟨Nat.le_of_ble_eq_true rfl, Nat.le_of_ble_eq_true rfl⟩) ⟨pu_bl, va_recv hK hP (ci := 9) (q0 := 10) rfl rfl, pu_in (hP.sub [10, 11, 12, 13, 14, 15] rfl) (hK.sub [4, 5, 6, 7, 8] rfl) (hD.sub [10, 11, 12, 13, 14, 15] (by decide) rfl)⟩ rfl rfl hl.1 rfl (lv_room (Nat.le_of_ble_eq_true rfl)) dL_law_832 ⟨Nat.le_of_ble_eq_true rfl, Nat.le_of_ble_eq_true rfl⟩) hS (fun q _ h => hFc q h) hFc (fun r_6 u t H1 locs ht hvm hw hB hz1 hk1 hS => ?_)
  obtain ⟨hP, hD⟩ := va_join (wr := [((aa 0), .inr (8, [.ref (aa 6), .int 0, .ref (aa 4), .ref (aa 1), .ref (aa 5), .ref (aa 2), .ref (aa 10), .int 0, .ref (aa 11), .ref (aa 12), .int 0, .ref (aa 13), .ref (aa 14), .ref (aa 3), .ref (aa 15), .ref (aa 16)])), ((aa 1), .inr (0, [.int 0, .int 0, .int 0, .int (-1), .ref (aa 20), .ref (aa 21), .ref (aa 22), .ref (aa 23), .ref (aa 7), .ref (aa 24), .ref (aa 25), .ref (aa 26), .ref (aa 27), .ref (aa 28), .ref (aa 29), .ref (aa 30), .ref (aa 31)])), ((aa 2), .inr (2, [.int 0, .ref (aa 60), .ref (aa 61)])), ((aa 3), .inr (3, [.int 0, .int 0, .int 0, .ref (aa 62), .ref (aa 63)])), ((aa 4), .inr (4, [.int 0, .int (-1), .null, .int 0, .int 0, .int 0, .int 0, .int 0, .null, .ref (aa 64), .ref (aa 65), .ref (aa 66)])), ((aa 5), .inr (0, [.int 0, .int 0, .int 0, .int (-1), .ref (aa 8), .ref (aa 41), .ref (aa 42), .ref (aa 43), .ref (aa 9), .ref (aa 44), .ref (aa 45), .ref (aa 46), .ref (aa 47), .ref (aa 48), .ref (aa 49), .ref (aa 50), .ref (aa 51)])), ((aa 6), .inl ((kk 0), 900, .inl (fun _ => 0))), ((aa 7), .inl ((kk 1), 22, .inl (fun _ => 0))), ((aa 8), .inl ((kk 2), 8, .inl (fun _ => 0))), ((aa 9), .inl ((kk 3), 22, .inl (fun _ => 0)))]) (w1 := []) hP hD [10, 11, 12, 13, 14, 15] [0, 1, 2, 3, 4, 5, 6, 7, 8, 9] rfl rfl (by decide) (by decide) hk1 hFc pu_P0 pu_D0
  clear hk1 hz1 ht hvm
  generalize H1 = H at hP hS ⊢
  have hP : va_P (dC, dI) vwCl [((aa 0), .inr (8, [.ref (aa 6), .int 0, .ref (aa 4), .ref (aa 1), .ref (aa 5), .ref (aa 2), .ref (aa 10), .int 0, .ref (aa 11), .ref (aa 12), .int 0, .ref (aa 13), .ref (aa 14), .ref (aa 3), .ref (aa 15), .ref (aa 16)])), ((aa 1), .inr (0, [.int 0, .int 0, .int 0, .int (-1), .ref (aa 20), .ref (aa 21), .ref (aa 22), .ref (aa 23), .ref (aa 7), .ref (aa 24), .ref (aa 25), .ref (aa 26), .ref (aa 27), .ref (aa 28), .ref (aa 29), .ref (aa 30), .ref (aa 31)])), ((aa 2), .inr (2, [.int 0, .ref (aa 60), .ref (aa 61)])), ((aa 3), .inr (3, [.int 0, .int 0, .int 0, .ref (aa 62), .ref (aa 63)])), ((aa 4), .inr (4, [.int 0, .int (-1), .null, .int 0, .int 0, .int 0, .int 0, .int 0, .null, .ref (aa 64), .ref (aa 65), .ref (aa 66)])), ((aa 5), .inr (0, [.int 0, .int 0, .int 0, .int (-1), .ref (aa 8), .ref (aa 41), .ref (aa 42), .ref (aa 43), .ref (aa 9), .ref (aa 44), .ref (aa 45), .ref (aa 46), .ref (aa 47), .ref (aa 48), .ref (aa 49), .ref (aa 50), .ref (aa 51)])), ((aa 6), .inl ((kk 0), 900, .inl (fun _ => 0))), ((aa 7), .inl ((kk 1), 22, .inl (fun _ => 0))), ((aa 8), .inl ((kk 2), 8, .inl (fun _ => 0))), ((aa 9), .inl ((kk 3), 22, .inl (fun _ => 0)))] H := hP
  have hD : va_D A [((aa 0), .inr (8, [.ref (aa 6), .int 0, .ref (aa 4), .ref (aa 1), .ref (aa 5), .ref (aa 2), .ref (aa 10), .int 0, .ref (aa 11), .ref (aa 12), .int 0, .ref (aa 13), .ref (aa 14), .ref (aa 3), .ref (aa 15), .ref (aa 16)])), ((aa 1), .inr (0, [.int 0, .int 0, .int 0, .int (-1), .ref (aa 20), .ref (aa 21), .ref (aa 22), .ref (aa 23), .ref (aa 7), .ref (aa 24), .ref (aa 25), .ref (aa 26), .ref (aa 27), .ref (aa 28), .ref (aa 29), .ref (aa 30), .ref (aa 31)])), ((aa 2), .inr (2, [.int 0, .ref (aa 60), .ref (aa 61)])), ((aa 3), .inr (3, [.int 0, .int 0, .int 0, .ref (aa 62), .ref (aa 63)])), ((aa 4), .inr (4, [.int 0, .int (-1), .null, .int 0, .int 0, .int 0, .int 0, .int 0, .null, .ref (aa 64), .ref (aa 65), .ref (aa 66)])), ((aa 5), .inr (0, [.int 0, .int 0, .int 0, .int (-1), .ref (aa 8), .ref (aa 41), .ref (aa 42), .ref (aa 43), .ref (aa 9), .ref (aa 44), .ref (aa 45), .ref (aa 46), .ref (aa 47), .ref (aa 48), .ref (aa 49), .ref (aa 50), .ref (aa 51)])), ((aa 6), .inl ((kk 0), 900, .inl (fun _ => 0))), ((aa 7), .inl ((kk 1), 22, .inl (fun _ => 0))), ((aa 8), .inl ((kk 2), 8, .inl (fun _ => 0))), ((aa 9), .inl ((kk 3), 22, .inl (fun _ => 0)))] := hD
  obtain rfl : r_6 = (-1) := hw
  refine lv_icmp_eq (tgt := 1725) hx hb dL_law_835 (by decide) (fun _ => ?_) (fun z => absurd z (by decide))
  exact law_tail l C0 hA hAs hS (lv_sub hl [0, 4] rfl) (Nat.le_of_ble_eq_true rfl) (Nat.le_of_ble_eq_true rfl)
set_option maxHeartbeats 4000000 in
set_option maxRecDepth 100000 in
theorem law_case_16 {p : Program} {e : Env} {s : State} {m : MethodId} {below : List Frame} {meth : Method} {c : Code} (l : Launch) (hlt : l.stackTraces = false) {b : Nat} {xs : Nat → Int32} (C0 : lw_At p s m meth c b 7 xs) {A : Nat → Prop} (hA : ∀ q : Nat, s.heap.size ≤ q → A q) (hAs : ∀ q : Nat, A q → s.heap.size ≤ q) (hY : sy_E A s s.heap) {dC : Nat → ClassId} {dI : Nat → Nat → Nat} (aa bb : Nat → Nat) (kk jj : Nat → ClassId) (qo : Nat) (H : Heap) (locs : List Loc) (hK : va_K (dC, dI) vwCl (tX kk ++ tM jj) s) (hP : va_P (dC, dI) vwCl (wX aa kk ++ wM bb jj) H) (hD : va_D A (wX aa kk ++ wM bb jj)) (hS : va_S A s.heap H locs) (ls : Array Slot) (hl : lv_has ls 7 [(0, .ref b), (1, .ref (aa 0)), (2, .ref (bb 0)), (3, .ref qo), (4, .int 0)]) : W p l e room_1 s m #[Value.ref b] below meth c H locs 1717 133609 (lw_Z below #[Value.ref b] s) (F0 m 840 ls []) := by
  obtain ⟨hx, hb, hr, hml, hown0, hts0, hX, hbl, hlocks, hgv⟩ := id C0
  have hown : s.vm.findClass RL = some m.cls := hown0
  have hts : ∀ w ∈ vsL, w.before #[Value.ref b] s = true := fun w h => hts0 w (vsL_in w h)
  have hbA : ¬ A b := fun h => absurd (hAs b h) (Nat.not_le.mpr hbl)
  refine lv_aload_n hx hb dL_law_840 rfl (lv_at hl 1 rfl) ?_
  refine lv_aload_n hx hb dL_law_841 rfl (lv_at hl 0 rfl) ?_
  refine lv_iload hx hb dL_law_842 (lv_at hl 4 rfl) ?_
  refine lv_iconst (v := 1) hx hb dL_law_844 (by decide) ?_
  refine lv_iadd hx hb dL_law_845 ?_
  refine lv_topi (fun y_1 ey_1 => ?_)
  obtain rfl : y_1 = 1 := ey_1.trans (by decide)
  refine va_sld hx hb hX hbl hbA hS (show ¬ (_ ∨ _) by decide) dL_law_846 ?_
  refine lv_aload_n hx hb dL_law_847 rfl (lv_at hl 0 rfl) ?_
  refine lv_iload hx hb dL_law_848 (lv_at hl 4 rfl) ?_
  refine lv_iconst (v := 2) hx hb dL_law_850 (by decide) ?_
  refine lv_iadd hx hb dL_law_851 ?_
  refine lv_topi (fun y_2 ey_2 => ?_)
  obtain rfl : y_2 = 2 := ey_2.trans (by decide)
  refine va_sld hx hb hX hbl hbA hS (show ¬ (_ ∨ _) by decide) dL_law_852 ?_
  refine lv_aload_n hx hb dL_law_853 rfl (lv_at hl 0 rfl) ?_
  refine lv_iload hx hb dL_law_854 (lv_at hl 4 rfl) ?_
  refine lv_iconst (v := 3) hx hb dL_law_856 (by decide) ?_
  refine lv_iadd hx hb dL_law_857 ?_
  refine lv_topi (fun y_3 ey_3 => ?_)
  obtain rfl : y_3 = 3 := ey_3.trans (by decide)
  refine va_sld hx hb hX hbl hbA hS (show ¬ (_ ∨ _) by decide) dL_law_858 ?_
  refine lv_aload_n hx hb dL_law_859 rfl (lv_at hl 0 rfl) ?_
  refine lv_iload hx hb dL_law_860 (lv_at hl 4 rfl) ?_
  refine lv_iconst (v := 4) hx hb dL_law_862 (by decide) ?_
  refine lv_iadd hx hb dL_law_863 ?_
  refine lv_topi (fun y_4 ey_4 => ?_)
  obtain rfl : y_4 = 4 := ey_4.trans (by decide)
  refine va_sld hx hb hX hbl hbA hS (show ¬ (_ ∨ _) by decide) dL_law_864 ?_
  refine va_calli (va_runV (As := [.int (xs (1 : Int32).toNatClampNeg), .int (xs (2 : Int32).toNatClampNeg), .int (xs (3 : Int32).toNatClampNeg), .int (xs (4 : Int32).toNatClampNeg)]) (rest := []) ⟨hx, hb, hml, hown, hts⟩ (c_X8_has l dC dI _ aa kk (xs (1 : Int32).toNatClampNeg) (xs (2 : Int32).toNatClampNeg) (xs (3 : Int32).toNatClampNeg) (xs (4 : Int32).toNatClampNeg)) (cwV 4 hts g_L_X8_has rfl rfl rfl (by decide +kernel) ⟨Nat.le_of_ble_eq_true rfl, Nat.le_of_ble_eq_true rfl⟩) ⟨pu_bl, va_recv hK hP (ci := 8) (q0 := 0) rfl rfl, pu_in (hP.sub [0, 1, 2, 3, 4, 5, 6, 7, 8, 9] rfl) (hK.sub [0, 1, 2, 3] rfl) (hD.sub [0, 1, 2, 3, 4, 5, 6, 7, 8, 9] (by decide) rfl)⟩ rfl rfl hl.1 rfl (lv_room (Nat.le_of_ble_eq_true rfl)) dL_law_865 ⟨Nat.le_of_ble_eq_true rfl, Nat.le_of_ble_eq_true rfl⟩) hS (fun q _ h => pu_fr hS hA q h) (pu_fr hS hA) (fun r_5 u t H1 locs ht hvm hw hB hz1 hk1 hS => ?_)
  have hP := pu_keep hP hk1
  clear hk1 hz1 ht hvm
  generalize H1 = H at hP hS ⊢
  obtain rfl : r_5 = (-1) := hw
  refine lv_aload_n hx hb dL_law_868 rfl (lv_at hl 2 rfl) ?_
  refine lv_aload_n hx hb dL_law_869 rfl (lv_at hl 0 rfl) ?_
  refine lv_iload hx hb dL_law_870 (lv_at hl 4 rfl) ?_
  refine lv_iconst (v := 1) hx hb dL_law_872 (by decide) ?_
  refine lv_iadd hx hb dL_law_873 ?_
  refine lv_topi (fun y_6 ey_6 => ?_)
  obtain rfl : y_6 = 1 := ey_6.trans (by decide)
  refine va_sld hx hb hX hbl hbA hS (show ¬ (_ ∨ _) by decide) dL_law_874 ?_
  refine lv_aload_n hx hb dL_law_875 rfl (lv_at hl 0 rfl) ?_
  refine lv_iload hx hb dL_law_876 (lv_at hl 4 rfl) ?_
  refine lv_iconst (v := 2) hx hb dL_law_878 (by decide) ?_
  refine lv_iadd hx hb dL_law_879 ?_
  refine lv_topi (fun y_7 ey_7 => ?_)
  obtain rfl : y_7 = 2 := ey_7.trans (by decide)
  refine va_sld hx hb hX hbl hbA hS (show ¬ (_ ∨ _) by decide) dL_law_880 ?_
  refine lv_aload_n hx hb dL_law_881 rfl (lv_at hl 0 rfl) ?_
  refine lv_iload hx hb dL_law_882 (lv_at hl 4 rfl) ?_
  refine lv_iconst (v := 3) hx hb dL_law_884 (by decide) ?_
  refine lv_iadd hx hb dL_law_885 ?_
  refine lv_topi (fun y_8 ey_8 => ?_)
  obtain rfl : y_8 = 3 := ey_8.trans (by decide)
  refine va_sld hx hb hX hbl hbA hS (show ¬ (_ ∨ _) by decide) dL_law_886 ?_
  refine lv_aload_n hx hb dL_law_887 rfl (lv_at hl 0 rfl) ?_
  refine lv_iload hx hb dL_law_888 (lv_at hl 4 rfl) ?_
  refine lv_iconst (v := 4) hx hb dL_law_890 (by decide) ?_
  refine lv_iadd hx hb dL_law_891 ?_
  refine lv_topi (fun y_9 ey_9 => ?_)
  obtain rfl : y_9 = 4 := ey_9.trans (by decide)
  refine va_sld hx hb hX hbl hbA hS (show ¬ (_ ∨ _) by decide) dL_law_892 ?_
  have hFc := va_free (wc := [((bb 0), .inr (9, [.int 0, .ref (bb 10), .ref (bb 11), .ref (bb 12), .ref (bb 13), .ref (bb 14), .ref (bb 15), .ref (bb 16), .ref (bb 17), .ref (bb 18), .ref (bb 19), .ref (bb 20), .ref (bb 1), .ref (bb 2), .ref (bb 3), .ref (bb 4), .int 0, .ref (bb 5), .int 0, .int 0, .int 0, .int 0, .int 0, .int 0, .int 0, .int (-1), .int 0, .int 0, .int 0, .int 0, .int 0, .ref (bb 21), .ref (bb 22), .int 0, .ref (bb 23), .ref (bb 24), .ref (bb 25), .ref (bb 26), .ref (bb 27), .ref (bb 28), .ref (bb 29), .ref (bb 30), .ref (bb 31), .ref (bb 32), .ref (bb 33), .int 0, .int 0, .ref (bb 34), .ref (bb 35), .ref (bb 36), .ref (bb 37), .ref (bb 38), .int 0, .int 0, .ref (bb 39), .ref (bb 40), .ref (bb 41), .ref (bb 42), .ref (bb 43), .ref (bb 44), .ref (bb 45), .int 0, .int 0, .int 0, .ref (bb 46), .int 0, .int 0])), ((bb 1), .inl ((jj 1), 2, .inl (fun _ => 0))), ((bb 2), .inl ((jj 2), 2, .inl (fun _ => 0))), ((bb 3), .inl ((jj 3), 2, .inl (fun _ => 0))), ((bb 4), .inl ((jj 4), 2, .inl begF)), ((bb 5), .inl ((jj 5), 900, .inl (fun _ => 0)))]) hD hS hA [10, 11, 12, 13, 14, 15] rfl
  refine va_calli (va_runV (As := [.int (xs (1 : Int32).toNatClampNeg), .int (xs (2 : Int32).toNatClampNeg), .int (xs (3 : Int32).toNatClampNeg), .int (xs (4 : Int32).toNatClampNeg)]) (rest := [.int (-1)]) ⟨hx, hb, hml, hown, hts⟩ (c_X9_has l dC dI _ bb jj (xs (1 : Int32).toNatClampNeg) (xs (2 : Int32).toNatClampNeg) (xs (3 : Int32).toNatClampNeg) (xs (4 : Int32).toNatClampNeg)) (cwV 4 hts g_L_X9_has rfl rfl rfl (by decide +kernel) ⟨Nat.le_of_ble_eq_true rfl, Nat.le_of_ble_eq_true rfl⟩) ⟨pu_bl, va_recv hK hP (ci := 9) (q0 := 10) rfl rfl, pu_in (hP.sub [10, 11, 12, 13, 14, 15] rfl) (hK.sub [4, 5, 6, 7, 8] rfl) (hD.sub [10, 11, 12, 13, 14, 15] (by decide) rfl)⟩ rfl rfl hl.1 rfl (lv_room (Nat.le_of_ble_eq_true rfl)) dL_law_893 ⟨Nat.le_of_ble_eq_true rfl, Nat.le_of_ble_eq_true rfl⟩) hS (fun q _ h => hFc q h) hFc (fun r_10 u t H1 locs ht hvm hw hB hz1 hk1 hS => ?_)
  obtain ⟨hP, hD⟩ := va_join (wr := [((aa 0), .inr (8, [.ref (aa 6), .int 0, .ref (aa 4), .ref (aa 1), .ref (aa 5), .ref (aa 2), .ref (aa 10), .int 0, .ref (aa 11), .ref (aa 12), .int 0, .ref (aa 13), .ref (aa 14), .ref (aa 3), .ref (aa 15), .ref (aa 16)])), ((aa 1), .inr (0, [.int 0, .int 0, .int 0, .int (-1), .ref (aa 20), .ref (aa 21), .ref (aa 22), .ref (aa 23), .ref (aa 7), .ref (aa 24), .ref (aa 25), .ref (aa 26), .ref (aa 27), .ref (aa 28), .ref (aa 29), .ref (aa 30), .ref (aa 31)])), ((aa 2), .inr (2, [.int 0, .ref (aa 60), .ref (aa 61)])), ((aa 3), .inr (3, [.int 0, .int 0, .int 0, .ref (aa 62), .ref (aa 63)])), ((aa 4), .inr (4, [.int 0, .int (-1), .null, .int 0, .int 0, .int 0, .int 0, .int 0, .null, .ref (aa 64), .ref (aa 65), .ref (aa 66)])), ((aa 5), .inr (0, [.int 0, .int 0, .int 0, .int (-1), .ref (aa 8), .ref (aa 41), .ref (aa 42), .ref (aa 43), .ref (aa 9), .ref (aa 44), .ref (aa 45), .ref (aa 46), .ref (aa 47), .ref (aa 48), .ref (aa 49), .ref (aa 50), .ref (aa 51)])), ((aa 6), .inl ((kk 0), 900, .inl (fun _ => 0))), ((aa 7), .inl ((kk 1), 22, .inl (fun _ => 0))), ((aa 8), .inl ((kk 2), 8, .inl (fun _ => 0))), ((aa 9), .inl ((kk 3), 22, .inl (fun _ => 0)))]) (w1 := []) hP hD [10, 11, 12, 13, 14, 15] [0, 1, 2, 3, 4, 5, 6, 7, 8, 9] rfl rfl (by decide) (by decide) hk1 hFc pu_P0 pu_D0
  clear hk1 hz1 ht hvm
  generalize H1 = H at hP hS ⊢
  have hP : va_P (dC, dI) vwCl [((aa 0), .inr (8, [.ref (aa 6), .int 0, .ref (aa 4), .ref (aa 1), .ref (aa 5), .ref (aa 2), .ref (aa 10), .int 0, .ref (aa 11), .ref (aa 12), .int 0, .ref (aa 13), .ref (aa 14), .ref (aa 3), .ref (aa 15), .ref (aa 16)])), ((aa 1), .inr (0, [.int 0, .int 0, .int 0, .int (-1), .ref (aa 20), .ref (aa 21), .ref (aa 22), .ref (aa 23), .ref (aa 7), .ref (aa 24), .ref (aa 25), .ref (aa 26), .ref (aa 27), .ref (aa 28), .ref (aa 29), .ref (aa 30), .ref (aa 31)])), ((aa 2), .inr (2, [.int 0, .ref (aa 60), .ref (aa 61)])), ((aa 3), .inr (3, [.int 0, .int 0, .int 0, .ref (aa 62), .ref (aa 63)])), ((aa 4), .inr (4, [.int 0, .int (-1), .null, .int 0, .int 0, .int 0, .int 0, .int 0, .null, .ref (aa 64), .ref (aa 65), .ref (aa 66)])), ((aa 5), .inr (0, [.int 0, .int 0, .int 0, .int (-1), .ref (aa 8), .ref (aa 41), .ref (aa 42), .ref (aa 43), .ref (aa 9), .ref (aa 44), .ref (aa 45), .ref (aa 46), .ref (aa 47), .ref (aa 48), .ref (aa 49), .ref (aa 50), .ref (aa 51)])), ((aa 6), .inl ((kk 0), 900, .inl (fun _ => 0))), ((aa 7), .inl ((kk 1), 22, .inl (fun _ => 0))), ((aa 8), .inl ((kk 2), 8, .inl (fun _ => 0))), ((aa 9), .inl ((kk 3), 22, .inl (fun _ => 0)))] H := hP
  have hD : va_D A [((aa 0), .inr (8, [.ref (aa 6), .int 0, .ref (aa 4), .ref (aa 1), .ref (aa 5), .ref (aa 2), .ref (aa 10), .int 0, .ref (aa 11), .ref (aa 12), .int 0, .ref (aa 13), .ref (aa 14), .ref (aa 3), .ref (aa 15), .ref (aa 16)])), ((aa 1), .inr (0, [.int 0, .int 0, .int 0, .int (-1), .ref (aa 20), .ref (aa 21), .ref (aa 22), .ref (aa 23), .ref (aa 7), .ref (aa 24), .ref (aa 25), .ref (aa 26), .ref (aa 27), .ref (aa 28), .ref (aa 29), .ref (aa 30), .ref (aa 31)])), ((aa 2), .inr (2, [.int 0, .ref (aa 60), .ref (aa 61)])), ((aa 3), .inr (3, [.int 0, .int 0, .int 0, .ref (aa 62), .ref (aa 63)])), ((aa 4), .inr (4, [.int 0, .int (-1), .null, .int 0, .int 0, .int 0, .int 0, .int 0, .null, .ref (aa 64), .ref (aa 65), .ref (aa 66)])), ((aa 5), .inr (0, [.int 0, .int 0, .int 0, .int (-1), .ref (aa 8), .ref (aa 41), .ref (aa 42), .ref (aa 43), .ref (aa 9), .ref (aa 44), .ref (aa 45), .ref (aa 46), .ref (aa 47), .ref (aa 48), .ref (aa 49), .ref (aa 50), .ref (aa 51)])), ((aa 6), .inl ((kk 0), 900, .inl (fun _ => 0))), ((aa 7), .inl ((kk 1), 22, .inl (fun _ => 0))), ((aa 8), .inl ((kk 2), 8, .inl (fun _ => 0))), ((aa 9), .inl ((kk 3), 22, .inl (fun _ => 0)))] := hD
  obtain rfl : r_10 = (-1) := hw
  refine lv_icmp_eq (tgt := 1725) hx hb dL_law_896 (by decide) (fun _ => ?_) (fun z => absurd z (by decide))
  exact law_tail l C0 hA hAs hS (lv_sub hl [0, 4] rfl) (Nat.le_of_ble_eq_true rfl) (Nat.le_of_ble_eq_true rfl)
set_option maxHeartbeats 4000000 in
set_option maxRecDepth 100000 in
theorem law_case_17 {p : Program} {e : Env} {s : State} {m : MethodId} {below : List Frame} {meth : Method} {c : Code} (l : Launch) (hlt : l.stackTraces = false) {b : Nat} {xs : Nat → Int32} (C0 : lw_At p s m meth c b 7 xs) {A : Nat → Prop} (hA : ∀ q : Nat, s.heap.size ≤ q → A q) (hAs : ∀ q : Nat, A q → s.heap.size ≤ q) (hY : sy_E A s s.heap) {dC : Nat → ClassId} {dI : Nat → Nat → Nat} (aa bb : Nat → Nat) (kk jj : Nat → ClassId) (qo : Nat) (H : Heap) (locs : List Loc) (hK : va_K (dC, dI) vwCl (tX kk ++ tM jj) s) (hP : va_P (dC, dI) vwCl (wX aa kk ++ wM bb jj) H) (hD : va_D A (wX aa kk ++ wM bb jj)) (hS : va_S A s.heap H locs) (ls : Array Slot) (hl : lv_has ls 7 [(0, .ref b), (1, .ref (aa 0)), (2, .ref (bb 0)), (3, .ref qo), (4, .int 0)]) : W p l e room_1 s m #[Value.ref b] below meth c H locs 1717 133609 (lw_Z below #[Value.ref b] s) (F0 m 901 ls []) := by
  obtain ⟨hx, hb, hr, hml, hown0, hts0, hX, hbl, hlocks, hgv⟩ := id C0
  have hown : s.vm.findClass RL = some m.cls := hown0
  have hts : ∀ w ∈ vsL, w.before #[Value.ref b] s = true := fun w h => hts0 w (vsL_in w h)
  have hbA : ¬ A b := fun h => absurd (hAs b h) (Nat.not_le.mpr hbl)
  refine lv_aload_n hx hb dL_law_901 rfl (lv_at hl 1 rfl) ?_
  refine lv_aload_n hx hb dL_law_902 rfl (lv_at hl 0 rfl) ?_
  refine lv_iload hx hb dL_law_903 (lv_at hl 4 rfl) ?_
  refine lv_iconst (v := 1) hx hb dL_law_905 (by decide) ?_
  refine lv_iadd hx hb dL_law_906 ?_
  refine lv_topi (fun y_1 ey_1 => ?_)
  obtain rfl : y_1 = 1 := ey_1.trans (by decide)
  refine va_sld hx hb hX hbl hbA hS (show ¬ (_ ∨ _) by decide) dL_law_907 ?_
  refine va_calli (va_runV (As := [.int (xs (1 : Int32).toNatClampNeg)]) (rest := []) ⟨hx, hb, hml, hown, hts⟩ (c_X8_first l dC dI _ aa kk (xs (1 : Int32).toNatClampNeg)) (cwV 1 hts g_L_X8_first rfl rfl rfl (by decide +kernel) ⟨Nat.le_of_ble_eq_true rfl, Nat.le_of_ble_eq_true rfl⟩) ⟨pu_bl, va_recv hK hP (ci := 8) (q0 := 0) rfl rfl, pu_in (hP.sub [0, 1, 2, 3, 4, 5, 6, 7, 8, 9] rfl) (hK.sub [0, 1, 2, 3] rfl) (hD.sub [0, 1, 2, 3, 4, 5, 6, 7, 8, 9] (by decide) rfl)⟩ rfl rfl hl.1 rfl (lv_room (Nat.le_of_ble_eq_true rfl)) dL_law_908 ⟨Nat.le_of_ble_eq_true rfl, Nat.le_of_ble_eq_true rfl⟩) hS (fun q _ h => pu_fr hS hA q h) (pu_fr hS hA) (fun r_2 u t H1 locs ht hvm hw hB hz1 hk1 hS => ?_)
  have hP := pu_keep hP hk1
  clear hk1 hz1 ht hvm
  generalize H1 = H at hP hS ⊢
  obtain rfl : r_2 = (-1) := hw
  refine lv_aload_n hx hb dL_law_911 rfl (lv_at hl 2 rfl) ?_
  refine lv_aload_n hx hb dL_law_912 rfl (lv_at hl 0 rfl) ?_
  refine lv_iload hx hb dL_law_913 (lv_at hl 4 rfl) ?_
  refine lv_iconst (v := 1) hx hb dL_law_915 (by decide) ?_
  refine lv_iadd hx hb dL_law_916 ?_
  refine lv_topi (fun y_3 ey_3 => ?_)
  obtain rfl : y_3 = 1 := ey_3.trans (by decide)
  refine va_sld hx hb hX hbl hbA hS (show ¬ (_ ∨ _) by decide) dL_law_917 ?_
  have hFc := va_free (wc := [((bb 0), .inr (9, [.int 0, .ref (bb 10), .ref (bb 11), .ref (bb 12), .ref (bb 13), .ref (bb 14), .ref (bb 15), .ref (bb 16), .ref (bb 17), .ref (bb 18), .ref (bb 19), .ref (bb 20), .ref (bb 1), .ref (bb 2), .ref (bb 3), .ref (bb 4), .int 0, .ref (bb 5), .int 0, .int 0, .int 0, .int 0, .int 0, .int 0, .int 0, .int (-1), .int 0, .int 0, .int 0, .int 0, .int 0, .ref (bb 21), .ref (bb 22), .int 0, .ref (bb 23), .ref (bb 24), .ref (bb 25), .ref (bb 26), .ref (bb 27), .ref (bb 28), .ref (bb 29), .ref (bb 30), .ref (bb 31), .ref (bb 32), .ref (bb 33), .int 0, .int 0, .ref (bb 34), .ref (bb 35), .ref (bb 36), .ref (bb 37), .ref (bb 38), .int 0, .int 0, .ref (bb 39), .ref (bb 40), .ref (bb 41), .ref (bb 42), .ref (bb 43), .ref (bb 44), .ref (bb 45), .int 0, .int 0, .int 0, .ref (bb 46), .int 0, .int 0])), ((bb 1), .inl ((jj 1), 2, .inl (fun _ => 0))), ((bb 2), .inl ((jj 2), 2, .inl (fun _ => 0))), ((bb 3), .inl ((jj 3), 2, .inl (fun _ => 0))), ((bb 4), .inl ((jj 4), 2, .inl begF)), ((bb 5), .inl ((jj 5), 900, .inl (fun _ => 0)))]) hD hS hA [10, 11, 12, 13, 14, 15] rfl
  refine va_calli (va_runV (As := [.int (xs (1 : Int32).toNatClampNeg)]) (rest := [.int (-1)]) ⟨hx, hb, hml, hown, hts⟩ (c_X9_first l dC dI _ bb jj (xs (1 : Int32).toNatClampNeg)) (cwV 1 hts g_L_X9_first rfl rfl rfl (by decide +kernel) ⟨Nat.le_of_ble_eq_true rfl, Nat.le_of_ble_eq_true rfl⟩) ⟨pu_bl, va_recv hK hP (ci := 9) (q0 := 10) rfl rfl, pu_in (hP.sub [10, 11, 12, 13, 14, 15] rfl) (hK.sub [4, 5, 6, 7, 8] rfl) (hD.sub [10, 11, 12, 13, 14, 15] (by decide) rfl)⟩ rfl rfl hl.1 rfl (lv_room (Nat.le_of_ble_eq_true rfl)) dL_law_918 ⟨Nat.le_of_ble_eq_true rfl, Nat.le_of_ble_eq_true rfl⟩) hS (fun q _ h => hFc q h) hFc (fun r_4 u t H1 locs ht hvm hw hB hz1 hk1 hS => ?_)
  obtain ⟨hP, hD⟩ := va_join (wr := [((aa 0), .inr (8, [.ref (aa 6), .int 0, .ref (aa 4), .ref (aa 1), .ref (aa 5), .ref (aa 2), .ref (aa 10), .int 0, .ref (aa 11), .ref (aa 12), .int 0, .ref (aa 13), .ref (aa 14), .ref (aa 3), .ref (aa 15), .ref (aa 16)])), ((aa 1), .inr (0, [.int 0, .int 0, .int 0, .int (-1), .ref (aa 20), .ref (aa 21), .ref (aa 22), .ref (aa 23), .ref (aa 7), .ref (aa 24), .ref (aa 25), .ref (aa 26), .ref (aa 27), .ref (aa 28), .ref (aa 29), .ref (aa 30), .ref (aa 31)])), ((aa 2), .inr (2, [.int 0, .ref (aa 60), .ref (aa 61)])), ((aa 3), .inr (3, [.int 0, .int 0, .int 0, .ref (aa 62), .ref (aa 63)])), ((aa 4), .inr (4, [.int 0, .int (-1), .null, .int 0, .int 0, .int 0, .int 0, .int 0, .null, .ref (aa 64), .ref (aa 65), .ref (aa 66)])), ((aa 5), .inr (0, [.int 0, .int 0, .int 0, .int (-1), .ref (aa 8), .ref (aa 41), .ref (aa 42), .ref (aa 43), .ref (aa 9), .ref (aa 44), .ref (aa 45), .ref (aa 46), .ref (aa 47), .ref (aa 48), .ref (aa 49), .ref (aa 50), .ref (aa 51)])), ((aa 6), .inl ((kk 0), 900, .inl (fun _ => 0))), ((aa 7), .inl ((kk 1), 22, .inl (fun _ => 0))), ((aa 8), .inl ((kk 2), 8, .inl (fun _ => 0))), ((aa 9), .inl ((kk 3), 22, .inl (fun _ => 0)))]) (w1 := []) hP hD [10, 11, 12, 13, 14, 15] [0, 1, 2, 3, 4, 5, 6, 7, 8, 9] rfl rfl (by decide) (by decide) hk1 hFc pu_P0 pu_D0
  clear hk1 hz1 ht hvm
  generalize H1 = H at hP hS ⊢
  have hP : va_P (dC, dI) vwCl [((aa 0), .inr (8, [.ref (aa 6), .int 0, .ref (aa 4), .ref (aa 1), .ref (aa 5), .ref (aa 2), .ref (aa 10), .int 0, .ref (aa 11), .ref (aa 12), .int 0, .ref (aa 13), .ref (aa 14), .ref (aa 3), .ref (aa 15), .ref (aa 16)])), ((aa 1), .inr (0, [.int 0, .int 0, .int 0, .int (-1), .ref (aa 20), .ref (aa 21), .ref (aa 22), .ref (aa 23), .ref (aa 7), .ref (aa 24), .ref (aa 25), .ref (aa 26), .ref (aa 27), .ref (aa 28), .ref (aa 29), .ref (aa 30), .ref (aa 31)])), ((aa 2), .inr (2, [.int 0, .ref (aa 60), .ref (aa 61)])), ((aa 3), .inr (3, [.int 0, .int 0, .int 0, .ref (aa 62), .ref (aa 63)])), ((aa 4), .inr (4, [.int 0, .int (-1), .null, .int 0, .int 0, .int 0, .int 0, .int 0, .null, .ref (aa 64), .ref (aa 65), .ref (aa 66)])), ((aa 5), .inr (0, [.int 0, .int 0, .int 0, .int (-1), .ref (aa 8), .ref (aa 41), .ref (aa 42), .ref (aa 43), .ref (aa 9), .ref (aa 44), .ref (aa 45), .ref (aa 46), .ref (aa 47), .ref (aa 48), .ref (aa 49), .ref (aa 50), .ref (aa 51)])), ((aa 6), .inl ((kk 0), 900, .inl (fun _ => 0))), ((aa 7), .inl ((kk 1), 22, .inl (fun _ => 0))), ((aa 8), .inl ((kk 2), 8, .inl (fun _ => 0))), ((aa 9), .inl ((kk 3), 22, .inl (fun _ => 0)))] H := hP
  have hD : va_D A [((aa 0), .inr (8, [.ref (aa 6), .int 0, .ref (aa 4), .ref (aa 1), .ref (aa 5), .ref (aa 2), .ref (aa 10), .int 0, .ref (aa 11), .ref (aa 12), .int 0, .ref (aa 13), .ref (aa 14), .ref (aa 3), .ref (aa 15), .ref (aa 16)])), ((aa 1), .inr (0, [.int 0, .int 0, .int 0, .int (-1), .ref (aa 20), .ref (aa 21), .ref (aa 22), .ref (aa 23), .ref (aa 7), .ref (aa 24), .ref (aa 25), .ref (aa 26), .ref (aa 27), .ref (aa 28), .ref (aa 29), .ref (aa 30), .ref (aa 31)])), ((aa 2), .inr (2, [.int 0, .ref (aa 60), .ref (aa 61)])), ((aa 3), .inr (3, [.int 0, .int 0, .int 0, .ref (aa 62), .ref (aa 63)])), ((aa 4), .inr (4, [.int 0, .int (-1), .null, .int 0, .int 0, .int 0, .int 0, .int 0, .null, .ref (aa 64), .ref (aa 65), .ref (aa 66)])), ((aa 5), .inr (0, [.int 0, .int 0, .int 0, .int (-1), .ref (aa 8), .ref (aa 41), .ref (aa 42), .ref (aa 43), .ref (aa 9), .ref (aa 44), .ref (aa 45), .ref (aa 46), .ref (aa 47), .ref (aa 48), .ref (aa 49), .ref (aa 50), .ref (aa 51)])), ((aa 6), .inl ((kk 0), 900, .inl (fun _ => 0))), ((aa 7), .inl ((kk 1), 22, .inl (fun _ => 0))), ((aa 8), .inl ((kk 2), 8, .inl (fun _ => 0))), ((aa 9), .inl ((kk 3), 22, .inl (fun _ => 0)))] := hD
  obtain rfl : r_4 = (-1) := hw
  refine lv_icmp_eq (tgt := 1725) hx hb dL_law_921 (by decide) (fun _ => ?_) (fun z => absurd z (by decide))
  exact law_tail l C0 hA hAs hS (lv_sub hl [0, 4] rfl) (Nat.le_of_ble_eq_true rfl) (Nat.le_of_ble_eq_true rfl)
set_option maxHeartbeats 4000000 in
set_option maxRecDepth 100000 in
theorem law_case_18 {p : Program} {e : Env} {s : State} {m : MethodId} {below : List Frame} {meth : Method} {c : Code} (l : Launch) (hlt : l.stackTraces = false) {b : Nat} {xs : Nat → Int32} (C0 : lw_At p s m meth c b 7 xs) {A : Nat → Prop} (hA : ∀ q : Nat, s.heap.size ≤ q → A q) (hAs : ∀ q : Nat, A q → s.heap.size ≤ q) (hY : sy_E A s s.heap) {dC : Nat → ClassId} {dI : Nat → Nat → Nat} (aa bb : Nat → Nat) (kk jj : Nat → ClassId) (qo : Nat) (H : Heap) (locs : List Loc) (hK : va_K (dC, dI) vwCl (tX kk ++ tM jj) s) (hP : va_P (dC, dI) vwCl (wX aa kk ++ wM bb jj) H) (hD : va_D A (wX aa kk ++ wM bb jj)) (hS : va_S A s.heap H locs) (ls : Array Slot) (hl : lv_has ls 7 [(0, .ref b), (1, .ref (aa 0)), (2, .ref (bb 0)), (3, .ref qo), (4, .int 0)]) : W p l e room_1 s m #[Value.ref b] below meth c H locs 1717 133609 (lw_Z below #[Value.ref b] s) (F0 m 926 ls []) := by
  obtain ⟨hx, hb, hr, hml, hown0, hts0, hX, hbl, hlocks, hgv⟩ := id C0
  have hown : s.vm.findClass RL = some m.cls := hown0
  have hts : ∀ w ∈ vsL, w.before #[Value.ref b] s = true := fun w h => hts0 w (vsL_in w h)
  have hbA : ¬ A b := fun h => absurd (hAs b h) (Nat.not_le.mpr hbl)
  refine lv_aload_n hx hb dL_law_926 rfl (lv_at hl 1 rfl) ?_
  refine va_calli (va_runV (As := []) (rest := []) ⟨hx, hb, hml, hown, hts⟩ (c_X8_reached l dC dI _ aa kk) (cwV 0 hts g_L_X8_reached rfl rfl rfl (by decide +kernel) ⟨Nat.le_of_ble_eq_true rfl, Nat.le_of_ble_eq_true rfl⟩) ⟨pu_bl, va_recv hK hP (ci := 8) (q0 := 0) rfl rfl, pu_in (hP.sub [0, 1, 2, 3, 4, 5, 6, 7, 8, 9] rfl) (hK.sub [0, 1, 2, 3] rfl) (hD.sub [0, 1, 2, 3, 4, 5, 6, 7, 8, 9] (by decide) rfl)⟩ rfl rfl hl.1 rfl (lv_room (Nat.le_of_ble_eq_true rfl)) dL_law_927 ⟨Nat.le_of_ble_eq_true rfl, Nat.le_of_ble_eq_true rfl⟩) hS (fun q _ h => pu_fr hS hA q h) (pu_fr hS hA) (fun r_1 u t H1 locs ht hvm hw hB hz1 hk1 hS => ?_)
  have hP := pu_keep hP hk1
  clear hk1 hz1 ht hvm
  generalize H1 = H at hP hS ⊢
  obtain rfl : r_1 = (-1) := hw
  refine lv_aload_n hx hb dL_law_930 rfl (lv_at hl 2 rfl) ?_
  have hFc := va_free (wc := [((bb 0), .inr (9, [.int 0, .ref (bb 10), .ref (bb 11), .ref (bb 12), .ref (bb 13), .ref (bb 14), .ref (bb 15), .ref (bb 16), .ref (bb 17), .ref (bb 18), .ref (bb 19), .ref (bb 20), .ref (bb 1), .ref (bb 2), .ref (bb 3), .ref (bb 4), .int 0, .ref (bb 5), .int 0, .int 0, .int 0, .int 0, .int 0, .int 0, .int 0, .int (-1), .int 0, .int 0, .int 0, .int 0, .int 0, .ref (bb 21), .ref (bb 22), .int 0, .ref (bb 23), .ref (bb 24), .ref (bb 25), .ref (bb 26), .ref (bb 27), .ref (bb 28), .ref (bb 29), .ref (bb 30), .ref (bb 31), .ref (bb 32), .ref (bb 33), .int 0, .int 0, .ref (bb 34), .ref (bb 35), .ref (bb 36), .ref (bb 37), .ref (bb 38), .int 0, .int 0, .ref (bb 39), .ref (bb 40), .ref (bb 41), .ref (bb 42), .ref (bb 43), .ref (bb 44), .ref (bb 45), .int 0, .int 0, .int 0, .ref (bb 46), .int 0, .int 0])), ((bb 1), .inl ((jj 1), 2, .inl (fun _ => 0))), ((bb 2), .inl ((jj 2), 2, .inl (fun _ => 0))), ((bb 3), .inl ((jj 3), 2, .inl (fun _ => 0))), ((bb 4), .inl ((jj 4), 2, .inl begF)), ((bb 5), .inl ((jj 5), 900, .inl (fun _ => 0)))]) hD hS hA [10, 11, 12, 13, 14, 15] rfl
  refine va_calli (va_runV (As := []) (rest := [.int (-1)]) ⟨hx, hb, hml, hown, hts⟩ (c_X9_reached l dC dI _ bb jj) (cwV 0 hts g_L_X9_reached rfl rfl rfl (by decide +kernel) ⟨Nat.le_of_ble_eq_true rfl, Nat.le_of_ble_eq_true rfl⟩) ⟨pu_bl, va_recv hK hP (ci := 9) (q0 := 10) rfl rfl, pu_in (hP.sub [10, 11, 12, 13, 14, 15] rfl) (hK.sub [4, 5, 6, 7, 8] rfl) (hD.sub [10, 11, 12, 13, 14, 15] (by decide) rfl)⟩ rfl rfl hl.1 rfl (lv_room (Nat.le_of_ble_eq_true rfl)) dL_law_931 ⟨Nat.le_of_ble_eq_true rfl, Nat.le_of_ble_eq_true rfl⟩) hS (fun q _ h => hFc q h) hFc (fun r_2 u t H1 locs ht hvm hw hB hz1 hk1 hS => ?_)
  obtain ⟨hP, hD⟩ := va_join (wr := [((aa 0), .inr (8, [.ref (aa 6), .int 0, .ref (aa 4), .ref (aa 1), .ref (aa 5), .ref (aa 2), .ref (aa 10), .int 0, .ref (aa 11), .ref (aa 12), .int 0, .ref (aa 13), .ref (aa 14), .ref (aa 3), .ref (aa 15), .ref (aa 16)])), ((aa 1), .inr (0, [.int 0, .int 0, .int 0, .int (-1), .ref (aa 20), .ref (aa 21), .ref (aa 22), .ref (aa 23), .ref (aa 7), .ref (aa 24), .ref (aa 25), .ref (aa 26), .ref (aa 27), .ref (aa 28), .ref (aa 29), .ref (aa 30), .ref (aa 31)])), ((aa 2), .inr (2, [.int 0, .ref (aa 60), .ref (aa 61)])), ((aa 3), .inr (3, [.int 0, .int 0, .int 0, .ref (aa 62), .ref (aa 63)])), ((aa 4), .inr (4, [.int 0, .int (-1), .null, .int 0, .int 0, .int 0, .int 0, .int 0, .null, .ref (aa 64), .ref (aa 65), .ref (aa 66)])), ((aa 5), .inr (0, [.int 0, .int 0, .int 0, .int (-1), .ref (aa 8), .ref (aa 41), .ref (aa 42), .ref (aa 43), .ref (aa 9), .ref (aa 44), .ref (aa 45), .ref (aa 46), .ref (aa 47), .ref (aa 48), .ref (aa 49), .ref (aa 50), .ref (aa 51)])), ((aa 6), .inl ((kk 0), 900, .inl (fun _ => 0))), ((aa 7), .inl ((kk 1), 22, .inl (fun _ => 0))), ((aa 8), .inl ((kk 2), 8, .inl (fun _ => 0))), ((aa 9), .inl ((kk 3), 22, .inl (fun _ => 0)))]) (w1 := []) hP hD [10, 11, 12, 13, 14, 15] [0, 1, 2, 3, 4, 5, 6, 7, 8, 9] rfl rfl (by decide) (by decide) hk1 hFc pu_P0 pu_D0
  clear hk1 hz1 ht hvm
  generalize H1 = H at hP hS ⊢
  have hP : va_P (dC, dI) vwCl [((aa 0), .inr (8, [.ref (aa 6), .int 0, .ref (aa 4), .ref (aa 1), .ref (aa 5), .ref (aa 2), .ref (aa 10), .int 0, .ref (aa 11), .ref (aa 12), .int 0, .ref (aa 13), .ref (aa 14), .ref (aa 3), .ref (aa 15), .ref (aa 16)])), ((aa 1), .inr (0, [.int 0, .int 0, .int 0, .int (-1), .ref (aa 20), .ref (aa 21), .ref (aa 22), .ref (aa 23), .ref (aa 7), .ref (aa 24), .ref (aa 25), .ref (aa 26), .ref (aa 27), .ref (aa 28), .ref (aa 29), .ref (aa 30), .ref (aa 31)])), ((aa 2), .inr (2, [.int 0, .ref (aa 60), .ref (aa 61)])), ((aa 3), .inr (3, [.int 0, .int 0, .int 0, .ref (aa 62), .ref (aa 63)])), ((aa 4), .inr (4, [.int 0, .int (-1), .null, .int 0, .int 0, .int 0, .int 0, .int 0, .null, .ref (aa 64), .ref (aa 65), .ref (aa 66)])), ((aa 5), .inr (0, [.int 0, .int 0, .int 0, .int (-1), .ref (aa 8), .ref (aa 41), .ref (aa 42), .ref (aa 43), .ref (aa 9), .ref (aa 44), .ref (aa 45), .ref (aa 46), .ref (aa 47), .ref (aa 48), .ref (aa 49), .ref (aa 50), .ref (aa 51)])), ((aa 6), .inl ((kk 0), 900, .inl (fun _ => 0))), ((aa 7), .inl ((kk 1), 22, .inl (fun _ => 0))), ((aa 8), .inl ((kk 2), 8, .inl (fun _ => 0))), ((aa 9), .inl ((kk 3), 22, .inl (fun _ => 0)))] H := hP
  have hD : va_D A [((aa 0), .inr (8, [.ref (aa 6), .int 0, .ref (aa 4), .ref (aa 1), .ref (aa 5), .ref (aa 2), .ref (aa 10), .int 0, .ref (aa 11), .ref (aa 12), .int 0, .ref (aa 13), .ref (aa 14), .ref (aa 3), .ref (aa 15), .ref (aa 16)])), ((aa 1), .inr (0, [.int 0, .int 0, .int 0, .int (-1), .ref (aa 20), .ref (aa 21), .ref (aa 22), .ref (aa 23), .ref (aa 7), .ref (aa 24), .ref (aa 25), .ref (aa 26), .ref (aa 27), .ref (aa 28), .ref (aa 29), .ref (aa 30), .ref (aa 31)])), ((aa 2), .inr (2, [.int 0, .ref (aa 60), .ref (aa 61)])), ((aa 3), .inr (3, [.int 0, .int 0, .int 0, .ref (aa 62), .ref (aa 63)])), ((aa 4), .inr (4, [.int 0, .int (-1), .null, .int 0, .int 0, .int 0, .int 0, .int 0, .null, .ref (aa 64), .ref (aa 65), .ref (aa 66)])), ((aa 5), .inr (0, [.int 0, .int 0, .int 0, .int (-1), .ref (aa 8), .ref (aa 41), .ref (aa 42), .ref (aa 43), .ref (aa 9), .ref (aa 44), .ref (aa 45), .ref (aa 46), .ref (aa 47), .ref (aa 48), .ref (aa 49), .ref (aa 50), .ref (aa 51)])), ((aa 6), .inl ((kk 0), 900, .inl (fun _ => 0))), ((aa 7), .inl ((kk 1), 22, .inl (fun _ => 0))), ((aa 8), .inl ((kk 2), 8, .inl (fun _ => 0))), ((aa 9), .inl ((kk 3), 22, .inl (fun _ => 0)))] := hD
  obtain rfl : r_2 = (-1) := hw
  refine lv_icmp_eq (tgt := 1725) hx hb dL_law_934 (by decide) (fun _ => ?_) (fun z => absurd z (by decide))
  exact law_tail l C0 hA hAs hS (lv_sub hl [0, 4] rfl) (Nat.le_of_ble_eq_true rfl) (Nat.le_of_ble_eq_true rfl)
set_option maxHeartbeats 4000000 in
set_option maxRecDepth 100000 in
theorem law_case_19 {p : Program} {e : Env} {s : State} {m : MethodId} {below : List Frame} {meth : Method} {c : Code} (l : Launch) (hlt : l.stackTraces = false) {b : Nat} {xs : Nat → Int32} (C0 : lw_At p s m meth c b 7 xs) {A : Nat → Prop} (hA : ∀ q : Nat, s.heap.size ≤ q → A q) (hAs : ∀ q : Nat, A q → s.heap.size ≤ q) (hY : sy_E A s s.heap) {dC : Nat → ClassId} {dI : Nat → Nat → Nat} (aa bb : Nat → Nat) (kk jj : Nat → ClassId) (qo : Nat) (H : Heap) (locs : List Loc) (hK : va_K (dC, dI) vwCl (tX kk ++ tM jj) s) (hP : va_P (dC, dI) vwCl (wX aa kk ++ wM bb jj) H) (hD : va_D A (wX aa kk ++ wM bb jj)) (hS : va_S A s.heap H locs) (ls : Array Slot) (hl : lv_has ls 7 [(0, .ref b), (1, .ref (aa 0)), (2, .ref (bb 0)), (3, .ref qo), (4, .int 0)]) : W p l e room_1 s m #[Value.ref b] below meth c H locs 1717 133609 (lw_Z below #[Value.ref b] s) (F0 m 939 ls []) := by
  obtain ⟨hx, hb, hr, hml, hown0, hts0, hX, hbl, hlocks, hgv⟩ := id C0
  have hown : s.vm.findClass RL = some m.cls := hown0
  have hts : ∀ w ∈ vsL, w.before #[Value.ref b] s = true := fun w h => hts0 w (vsL_in w h)
  have hbA : ¬ A b := fun h => absurd (hAs b h) (Nat.not_le.mpr hbl)
  refine lv_aload_n hx hb dL_law_939 rfl (lv_at hl 1 rfl) ?_
  refine va_calli (va_runV (As := []) (rest := []) ⟨hx, hb, hml, hown, hts⟩ (c_X8_taken l dC dI _ aa kk) (cwV 0 hts g_L_X8_taken rfl rfl rfl (by decide +kernel) ⟨Nat.le_of_ble_eq_true rfl, Nat.le_of_ble_eq_true rfl⟩) ⟨pu_bl, va_recv hK hP (ci := 8) (q0 := 0) rfl rfl, pu_in (hP.sub [0, 1, 2, 3, 4, 5, 6, 7, 8, 9] rfl) (hK.sub [0, 1, 2, 3] rfl) (hD.sub [0, 1, 2, 3, 4, 5, 6, 7, 8, 9] (by decide) rfl)⟩ rfl rfl hl.1 rfl (lv_room (Nat.le_of_ble_eq_true rfl)) dL_law_940 ⟨Nat.le_of_ble_eq_true rfl, Nat.le_of_ble_eq_true rfl⟩) hS (fun q _ h => pu_fr hS hA q h) (pu_fr hS hA) (fun r_1 u t H1 locs ht hvm hw hB hz1 hk1 hS => ?_)
  have hP := pu_keep hP hk1
  clear hk1 hz1 ht hvm
  generalize H1 = H at hP hS ⊢
  obtain rfl : r_1 = (-1) := hw
  refine lv_aload_n hx hb dL_law_943 rfl (lv_at hl 2 rfl) ?_
  have hFc := va_free (wc := [((bb 0), .inr (9, [.int 0, .ref (bb 10), .ref (bb 11), .ref (bb 12), .ref (bb 13), .ref (bb 14), .ref (bb 15), .ref (bb 16), .ref (bb 17), .ref (bb 18), .ref (bb 19), .ref (bb 20), .ref (bb 1), .ref (bb 2), .ref (bb 3), .ref (bb 4), .int 0, .ref (bb 5), .int 0, .int 0, .int 0, .int 0, .int 0, .int 0, .int 0, .int (-1), .int 0, .int 0, .int 0, .int 0, .int 0, .ref (bb 21), .ref (bb 22), .int 0, .ref (bb 23), .ref (bb 24), .ref (bb 25), .ref (bb 26), .ref (bb 27), .ref (bb 28), .ref (bb 29), .ref (bb 30), .ref (bb 31), .ref (bb 32), .ref (bb 33), .int 0, .int 0, .ref (bb 34), .ref (bb 35), .ref (bb 36), .ref (bb 37), .ref (bb 38), .int 0, .int 0, .ref (bb 39), .ref (bb 40), .ref (bb 41), .ref (bb 42), .ref (bb 43), .ref (bb 44), .ref (bb 45), .int 0, .int 0, .int 0, .ref (bb 46), .int 0, .int 0])), ((bb 1), .inl ((jj 1), 2, .inl (fun _ => 0))), ((bb 2), .inl ((jj 2), 2, .inl (fun _ => 0))), ((bb 3), .inl ((jj 3), 2, .inl (fun _ => 0))), ((bb 4), .inl ((jj 4), 2, .inl begF)), ((bb 5), .inl ((jj 5), 900, .inl (fun _ => 0)))]) hD hS hA [10, 11, 12, 13, 14, 15] rfl
  refine va_calli (va_runV (As := []) (rest := [.int (-1)]) ⟨hx, hb, hml, hown, hts⟩ (c_X9_taken l dC dI _ bb jj) (cwV 0 hts g_L_X9_taken rfl rfl rfl (by decide +kernel) ⟨Nat.le_of_ble_eq_true rfl, Nat.le_of_ble_eq_true rfl⟩) ⟨pu_bl, va_recv hK hP (ci := 9) (q0 := 10) rfl rfl, pu_in (hP.sub [10, 11, 12, 13, 14, 15] rfl) (hK.sub [4, 5, 6, 7, 8] rfl) (hD.sub [10, 11, 12, 13, 14, 15] (by decide) rfl)⟩ rfl rfl hl.1 rfl (lv_room (Nat.le_of_ble_eq_true rfl)) dL_law_944 ⟨Nat.le_of_ble_eq_true rfl, Nat.le_of_ble_eq_true rfl⟩) hS (fun q _ h => hFc q h) hFc (fun r_2 u t H1 locs ht hvm hw hB hz1 hk1 hS => ?_)
  obtain ⟨hP, hD⟩ := va_join (wr := [((aa 0), .inr (8, [.ref (aa 6), .int 0, .ref (aa 4), .ref (aa 1), .ref (aa 5), .ref (aa 2), .ref (aa 10), .int 0, .ref (aa 11), .ref (aa 12), .int 0, .ref (aa 13), .ref (aa 14), .ref (aa 3), .ref (aa 15), .ref (aa 16)])), ((aa 1), .inr (0, [.int 0, .int 0, .int 0, .int (-1), .ref (aa 20), .ref (aa 21), .ref (aa 22), .ref (aa 23), .ref (aa 7), .ref (aa 24), .ref (aa 25), .ref (aa 26), .ref (aa 27), .ref (aa 28), .ref (aa 29), .ref (aa 30), .ref (aa 31)])), ((aa 2), .inr (2, [.int 0, .ref (aa 60), .ref (aa 61)])), ((aa 3), .inr (3, [.int 0, .int 0, .int 0, .ref (aa 62), .ref (aa 63)])), ((aa 4), .inr (4, [.int 0, .int (-1), .null, .int 0, .int 0, .int 0, .int 0, .int 0, .null, .ref (aa 64), .ref (aa 65), .ref (aa 66)])), ((aa 5), .inr (0, [.int 0, .int 0, .int 0, .int (-1), .ref (aa 8), .ref (aa 41), .ref (aa 42), .ref (aa 43), .ref (aa 9), .ref (aa 44), .ref (aa 45), .ref (aa 46), .ref (aa 47), .ref (aa 48), .ref (aa 49), .ref (aa 50), .ref (aa 51)])), ((aa 6), .inl ((kk 0), 900, .inl (fun _ => 0))), ((aa 7), .inl ((kk 1), 22, .inl (fun _ => 0))), ((aa 8), .inl ((kk 2), 8, .inl (fun _ => 0))), ((aa 9), .inl ((kk 3), 22, .inl (fun _ => 0)))]) (w1 := []) hP hD [10, 11, 12, 13, 14, 15] [0, 1, 2, 3, 4, 5, 6, 7, 8, 9] rfl rfl (by decide) (by decide) hk1 hFc pu_P0 pu_D0
  clear hk1 hz1 ht hvm
  generalize H1 = H at hP hS ⊢
  have hP : va_P (dC, dI) vwCl [((aa 0), .inr (8, [.ref (aa 6), .int 0, .ref (aa 4), .ref (aa 1), .ref (aa 5), .ref (aa 2), .ref (aa 10), .int 0, .ref (aa 11), .ref (aa 12), .int 0, .ref (aa 13), .ref (aa 14), .ref (aa 3), .ref (aa 15), .ref (aa 16)])), ((aa 1), .inr (0, [.int 0, .int 0, .int 0, .int (-1), .ref (aa 20), .ref (aa 21), .ref (aa 22), .ref (aa 23), .ref (aa 7), .ref (aa 24), .ref (aa 25), .ref (aa 26), .ref (aa 27), .ref (aa 28), .ref (aa 29), .ref (aa 30), .ref (aa 31)])), ((aa 2), .inr (2, [.int 0, .ref (aa 60), .ref (aa 61)])), ((aa 3), .inr (3, [.int 0, .int 0, .int 0, .ref (aa 62), .ref (aa 63)])), ((aa 4), .inr (4, [.int 0, .int (-1), .null, .int 0, .int 0, .int 0, .int 0, .int 0, .null, .ref (aa 64), .ref (aa 65), .ref (aa 66)])), ((aa 5), .inr (0, [.int 0, .int 0, .int 0, .int (-1), .ref (aa 8), .ref (aa 41), .ref (aa 42), .ref (aa 43), .ref (aa 9), .ref (aa 44), .ref (aa 45), .ref (aa 46), .ref (aa 47), .ref (aa 48), .ref (aa 49), .ref (aa 50), .ref (aa 51)])), ((aa 6), .inl ((kk 0), 900, .inl (fun _ => 0))), ((aa 7), .inl ((kk 1), 22, .inl (fun _ => 0))), ((aa 8), .inl ((kk 2), 8, .inl (fun _ => 0))), ((aa 9), .inl ((kk 3), 22, .inl (fun _ => 0)))] H := hP
  have hD : va_D A [((aa 0), .inr (8, [.ref (aa 6), .int 0, .ref (aa 4), .ref (aa 1), .ref (aa 5), .ref (aa 2), .ref (aa 10), .int 0, .ref (aa 11), .ref (aa 12), .int 0, .ref (aa 13), .ref (aa 14), .ref (aa 3), .ref (aa 15), .ref (aa 16)])), ((aa 1), .inr (0, [.int 0, .int 0, .int 0, .int (-1), .ref (aa 20), .ref (aa 21), .ref (aa 22), .ref (aa 23), .ref (aa 7), .ref (aa 24), .ref (aa 25), .ref (aa 26), .ref (aa 27), .ref (aa 28), .ref (aa 29), .ref (aa 30), .ref (aa 31)])), ((aa 2), .inr (2, [.int 0, .ref (aa 60), .ref (aa 61)])), ((aa 3), .inr (3, [.int 0, .int 0, .int 0, .ref (aa 62), .ref (aa 63)])), ((aa 4), .inr (4, [.int 0, .int (-1), .null, .int 0, .int 0, .int 0, .int 0, .int 0, .null, .ref (aa 64), .ref (aa 65), .ref (aa 66)])), ((aa 5), .inr (0, [.int 0, .int 0, .int 0, .int (-1), .ref (aa 8), .ref (aa 41), .ref (aa 42), .ref (aa 43), .ref (aa 9), .ref (aa 44), .ref (aa 45), .ref (aa 46), .ref (aa 47), .ref (aa 48), .ref (aa 49), .ref (aa 50), .ref (aa 51)])), ((aa 6), .inl ((kk 0), 900, .inl (fun _ => 0))), ((aa 7), .inl ((kk 1), 22, .inl (fun _ => 0))), ((aa 8), .inl ((kk 2), 8, .inl (fun _ => 0))), ((aa 9), .inl ((kk 3), 22, .inl (fun _ => 0)))] := hD
  obtain rfl : r_2 = (-1) := hw
  refine lv_icmp_eq (tgt := 1725) hx hb dL_law_947 (by decide) (fun _ => ?_) (fun z => absurd z (by decide))
  exact law_tail l C0 hA hAs hS (lv_sub hl [0, 4] rfl) (Nat.le_of_ble_eq_true rfl) (Nat.le_of_ble_eq_true rfl)
