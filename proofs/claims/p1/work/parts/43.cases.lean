set_option maxHeartbeats 4000000 in
set_option maxRecDepth 100000 in
theorem law_case_20 {p : Program} {e : Env} {s : State} {m : MethodId} {below : List Frame} {meth : Method} {c : Code} (l : Launch) (hlt : l.stackTraces = false) {b : Nat} {xs : Nat → Int32} (C0 : lw_At p s m meth c b 7 xs) {A : Nat → Prop} (hA : ∀ q : Nat, s.heap.size ≤ q → A q) (hAs : ∀ q : Nat, A q → s.heap.size ≤ q) (hY : sy_E A s s.heap) {dC : Nat → ClassId} {dI : Nat → Nat → Nat} (aa bb : Nat → Nat) (kk jj : Nat → ClassId) (qo : Nat) (H : Heap) (locs : List Loc) (hK : va_K (dC, dI) vwCl (tX kk ++ tM jj) s) (hP : va_P (dC, dI) vwCl (wX aa kk ++ wM bb jj) H) (hD : va_D A (wX aa kk ++ wM bb jj)) (hS : va_S A s.heap H locs) (ls : Array Slot) (hl : lv_has ls 7 [(0, .ref b), (1, .ref (aa 0)), (2, .ref (bb 0)), (3, .ref qo), (4, .int 0)]) : W p l e room_1 s m #[Value.ref b] below meth c H locs 1717 133609 (lw_Z below #[Value.ref b] s) (F0 m 952 ls []) := by
  obtain ⟨hx, hb, hr, hml, hown0, hts0, hX, hbl, hlocks, hgv⟩ := id C0
  have hown : s.vm.findClass RL = some m.cls := hown0
  have hts : ∀ w ∈ vsL, w.before #[Value.ref b] s = true := fun w h => hts0 w (vsL_in w h)
  have hbA : ¬ A b := fun h => absurd (hAs b h) (Nat.not_le.mpr hbl)
  refine lv_aload_n hx hb dL_law_952 rfl (lv_at hl 1 rfl) ?_
  refine lv_aload_n hx hb dL_law_953 rfl (lv_at hl 0 rfl) ?_
  refine lv_iload hx hb dL_law_954 (lv_at hl 4 rfl) ?_
  refine lv_iconst (v := 1) hx hb dL_law_956 (by decide) ?_
  refine lv_iadd hx hb dL_law_957 ?_
  refine lv_topi (fun y_1 ey_1 => ?_)
  obtain rfl : y_1 = 1 := ey_1.trans (by decide)
  refine va_sld hx hb hX hbl hbA hS (show ¬ (_ ∨ _) by decide) dL_law_958 ?_
  refine lv_aload_n hx hb dL_law_959 rfl (lv_at hl 0 rfl) ?_
  refine lv_iload hx hb dL_law_960 (lv_at hl 4 rfl) ?_
  refine lv_iconst (v := 2) hx hb dL_law_962 (by decide) ?_
  refine lv_iadd hx hb dL_law_963 ?_
  refine lv_topi (fun y_2 ey_2 => ?_)
  obtain rfl : y_2 = 2 := ey_2.trans (by decide)
  refine va_sld hx hb hX hbl hbA hS (show ¬ (_ ∨ _) by decide) dL_law_964 ?_
  refine va_calli (va_runV (As := [.int (xs (1 : Int32).toNatClampNeg), .int (xs (2 : Int32).toNatClampNeg)]) (rest := []) ⟨hx, hb, hml, hown, hts⟩ (c_X8_overlap l dC dI _ aa kk (xs (1 : Int32).toNatClampNeg) (xs (2 : Int32).toNatClampNeg)) (cwV 2 hts g_L_X8_overlap rfl rfl rfl (by decide +kernel) ⟨Nat.le_of_ble_eq_true rfl, Nat.le_of_ble_eq_true rfl⟩) ⟨pu_bl, va_recv hK hP (ci := 8) (q0 := 0) rfl rfl, pu_in (hP.sub [0, 1, 2, 3, 4, 5, 6, 7, 8, 9] rfl) (hK.sub [0, 1, 2, 3] rfl) (hD.sub [0, 1, 2, 3, 4, 5, 6, 7, 8, 9] (by decide) rfl)⟩ rfl rfl hl.1 rfl (lv_room (Nat.le_of_ble_eq_true rfl)) dL_law_965 ⟨Nat.le_of_ble_eq_true rfl, Nat.le_of_ble_eq_true rfl⟩) hS (fun q _ h => pu_fr hS hA q h) (pu_fr hS hA) (fun r_3 u t H1 locs ht hvm hw hB hz1 hk1 hS => ?_)
  have hP := pu_keep hP hk1
  clear hk1 hz1 ht hvm
  generalize H1 = H at hP hS ⊢
  obtain rfl : r_3 = (-1) := hw
  refine lv_aload_n hx hb dL_law_968 rfl (lv_at hl 2 rfl) ?_
  refine lv_aload_n hx hb dL_law_969 rfl (lv_at hl 0 rfl) ?_
  refine lv_iload hx hb dL_law_970 (lv_at hl 4 rfl) ?_
  refine lv_iconst (v := 1) hx hb dL_law_972 (by decide) ?_
  refine lv_iadd hx hb dL_law_973 ?_
  refine lv_topi (fun y_4 ey_4 => ?_)
  obtain rfl : y_4 = 1 := ey_4.trans (by decide)
  refine va_sld hx hb hX hbl hbA hS (show ¬ (_ ∨ _) by decide) dL_law_974 ?_
  refine lv_aload_n hx hb dL_law_975 rfl (lv_at hl 0 rfl) ?_
  refine lv_iload hx hb dL_law_976 (lv_at hl 4 rfl) ?_
  refine lv_iconst (v := 2) hx hb dL_law_978 (by decide) ?_
  refine lv_iadd hx hb dL_law_979 ?_
  refine lv_topi (fun y_5 ey_5 => ?_)
  obtain rfl : y_5 = 2 := ey_5.trans (by decide)
  refine va_sld hx hb hX hbl hbA hS (show ¬ (_ ∨ _) by decide) dL_law_980 ?_
  have hFc := va_free (wc := [((bb 0), .inr (9, [.int 0, .ref (bb 10), .ref (bb 11), .ref (bb 12), .ref (bb 13), .ref (bb 14), .ref (bb 15), .ref (bb 16), .ref (bb 17), .ref (bb 18), .ref (bb 19), .ref (bb 20), .ref (bb 1), .ref (bb 2), .ref (bb 3), .ref (bb 4), .int 0, .ref (bb 5), .int 0, .int 0, .int 0, .int 0, .int 0, .int 0, .int 0, .int (-1), .int 0, .int 0, .int 0, .int 0, .int 0, .ref (bb 21), .ref (bb 22), .int 0, .ref (bb 23), .ref (bb 24), .ref (bb 25), .ref (bb 26), .ref (bb 27), .ref (bb 28), .ref (bb 29), .ref (bb 30), .ref (bb 31), .ref (bb 32), .ref (bb 33), .int 0, .int 0, .ref (bb 34), .ref (bb 35), .ref (bb 36), .ref (bb 37), .ref (bb 38), .int 0, .int 0, .ref (bb 39), .ref (bb 40), .ref (bb 41), .ref (bb 42), .ref (bb 43), .ref (bb 44), .ref (bb 45), .int 0, .int 0, .int 0, .ref (bb 46), .int 0, .int 0])), ((bb 1), .inl ((jj 1), 2, .inl (fun _ => 0))), ((bb 2), .inl ((jj 2), 2, .inl (fun _ => 0))), ((bb 3), .inl ((jj 3), 2, .inl (fun _ => 0))), ((bb 4), .inl ((jj 4), 2, .inl begF)), ((bb 5), .inl ((jj 5), 900, .inl (fun _ => 0)))]) hD hS hA [10, 11, 12, 13, 14, 15] rfl
  refine va_calli (va_runV (As := [.int (xs (1 : Int32).toNatClampNeg), .int (xs (2 : Int32).toNatClampNeg)]) (rest := [.int (-1)]) ⟨hx, hb, hml, hown, hts⟩ (c_X9_overlap l dC dI _ bb jj (xs (1 : Int32).toNatClampNeg) (xs (2 : Int32).toNatClampNeg)) (cwV 2 hts g_L_X9_overlap rfl rfl rfl (by decide +kernel) ⟨Nat.le_of_ble_eq_true rfl, Nat.le_of_ble_eq_true rfl⟩) ⟨pu_bl, va_recv hK hP (ci := 9) (q0 := 10) rfl rfl, pu_in (hP.sub [10, 11, 12, 13, 14, 15] rfl) (hK.sub [4, 5, 6, 7, 8] rfl) (hD.sub [10, 11, 12, 13, 14, 15] (by decide) rfl)⟩ rfl rfl hl.1 rfl (lv_room (Nat.le_of_ble_eq_true rfl)) dL_law_981 ⟨Nat.le_of_ble_eq_true rfl, Nat.le_of_ble_eq_true rfl⟩) hS (fun q _ h => hFc q h) hFc (fun r_6 u t H1 locs ht hvm hw hB hz1 hk1 hS => ?_)
  obtain ⟨hP, hD⟩ := va_join (wr := [((aa 0), .inr (8, [.ref (aa 6), .int 0, .ref (aa 4), .ref (aa 1), .ref (aa 5), .ref (aa 2), .ref (aa 10), .int 0, .ref (aa 11), .ref (aa 12), .int 0, .ref (aa 13), .ref (aa 14), .ref (aa 3), .ref (aa 15), .ref (aa 16)])), ((aa 1), .inr (0, [.int 0, .int 0, .int 0, .int (-1), .ref (aa 20), .ref (aa 21), .ref (aa 22), .ref (aa 23), .ref (aa 7), .ref (aa 24), .ref (aa 25), .ref (aa 26), .ref (aa 27), .ref (aa 28), .ref (aa 29), .ref (aa 30), .ref (aa 31)])), ((aa 2), .inr (2, [.int 0, .ref (aa 60), .ref (aa 61)])), ((aa 3), .inr (3, [.int 0, .int 0, .int 0, .ref (aa 62), .ref (aa 63)])), ((aa 4), .inr (4, [.int 0, .int (-1), .null, .int 0, .int 0, .int 0, .int 0, .int 0, .null, .ref (aa 64), .ref (aa 65), .ref (aa 66)])), ((aa 5), .inr (0, [.int 0, .int 0, .int 0, .int (-1), .ref (aa 8), .ref (aa 41), .ref (aa 42), .ref (aa 43), .ref (aa 9), .ref (aa 44), .ref (aa 45), .ref (aa 46), .ref (aa 47), .ref (aa 48), .ref (aa 49), .ref (aa 50), .ref (aa 51)])), ((aa 6), .inl ((kk 0), 900, .inl (fun _ => 0))), ((aa 7), .inl ((kk 1), 22, .inl (fun _ => 0))), ((aa 8), .inl ((kk 2), 8, .inl (fun _ => 0))), ((aa 9), .inl ((kk 3), 22, .inl (fun _ => 0)))]) (w1 := []) hP hD [10, 11, 12, 13, 14, 15] [0, 1, 2, 3, 4, 5, 6, 7, 8, 9] rfl rfl (by decide) (by decide) hk1 hFc pu_P0 pu_D0
  clear hk1 hz1 ht hvm
  generalize H1 = H at hP hS ⊢
  have hP : va_P (dC, dI) vwCl [((aa 0), .inr (8, [.ref (aa 6), .int 0, .ref (aa 4), .ref (aa 1), .ref (aa 5), .ref (aa 2), .ref (aa 10), .int 0, .ref (aa 11), .ref (aa 12), .int 0, .ref (aa 13), .ref (aa 14), .ref (aa 3), .ref (aa 15), .ref (aa 16)])), ((aa 1), .inr (0, [.int 0, .int 0, .int 0, .int (-1), .ref (aa 20), .ref (aa 21), .ref (aa 22), .ref (aa 23), .ref (aa 7), .ref (aa 24), .ref (aa 25), .ref (aa 26), .ref (aa 27), .ref (aa 28), .ref (aa 29), .ref (aa 30), .ref (aa 31)])), ((aa 2), .inr (2, [.int 0, .ref (aa 60), .ref (aa 61)])), ((aa 3), .inr (3, [.int 0, .int 0, .int 0, .ref (aa 62), .ref (aa 63)])), ((aa 4), .inr (4, [.int 0, .int (-1), .null, .int 0, .int 0, .int 0, .int 0, .int 0, .null, .ref (aa 64), .ref (aa 65), .ref (aa 66)])), ((aa 5), .inr (0, [.int 0, .int 0, .int 0, .int (-1), .ref (aa 8), .ref (aa 41), .ref (aa 42), .ref (aa 43), .ref (aa 9), .ref (aa 44), .ref (aa 45), .ref (aa 46), .ref (aa 47), .ref (aa 48), .ref (aa 49), .ref (aa 50), .ref (aa 51)])), ((aa 6), .inl ((kk 0), 900, .inl (fun _ => 0))), ((aa 7), .inl ((kk 1), 22, .inl (fun _ => 0))), ((aa 8), .inl ((kk 2), 8, .inl (fun _ => 0))), ((aa 9), .inl ((kk 3), 22, .inl (fun _ => 0)))] H := hP
  have hD : va_D A [((aa 0), .inr (8, [.ref (aa 6), .int 0, .ref (aa 4), .ref (aa 1), .ref (aa 5), .ref (aa 2), .ref (aa 10), .int 0, .ref (aa 11), .ref (aa 12), .int 0, .ref (aa 13), .ref (aa 14), .ref (aa 3), .ref (aa 15), .ref (aa 16)])), ((aa 1), .inr (0, [.int 0, .int 0, .int 0, .int (-1), .ref (aa 20), .ref (aa 21), .ref (aa 22), .ref (aa 23), .ref (aa 7), .ref (aa 24), .ref (aa 25), .ref (aa 26), .ref (aa 27), .ref (aa 28), .ref (aa 29), .ref (aa 30), .ref (aa 31)])), ((aa 2), .inr (2, [.int 0, .ref (aa 60), .ref (aa 61)])), ((aa 3), .inr (3, [.int 0, .int 0, .int 0, .ref (aa 62), .ref (aa 63)])), ((aa 4), .inr (4, [.int 0, .int (-1), .null, .int 0, .int 0, .int 0, .int 0, .int 0, .null, .ref (aa 64), .ref (aa 65), .ref (aa 66)])), ((aa 5), .inr (0, [.int 0, .int 0, .int 0, .int (-1), .ref (aa 8), .ref (aa 41), .ref (aa 42), .ref (aa 43), .ref (aa 9), .ref (aa 44), .ref (aa 45), .ref (aa 46), .ref (aa 47), .ref (aa 48), .ref (aa 49), .ref (aa 50), .ref (aa 51)])), ((aa 6), .inl ((kk 0), 900, .inl (fun _ => 0))), ((aa 7), .inl ((kk 1), 22, .inl (fun _ => 0))), ((aa 8), .inl ((kk 2), 8, .inl (fun _ => 0))), ((aa 9), .inl ((kk 3), 22, .inl (fun _ => 0)))] := hD
  obtain rfl : r_6 = (-1) := hw
  refine lv_icmp_eq (tgt := 1725) hx hb dL_law_984 (by decide) (fun _ => ?_) (fun z => absurd z (by decide))
  exact law_tail l C0 hA hAs hS (lv_sub hl [0, 4] rfl) (Nat.le_of_ble_eq_true rfl) (Nat.le_of_ble_eq_true rfl)
set_option maxHeartbeats 4000000 in
set_option maxRecDepth 100000 in
theorem law_case_21 {p : Program} {e : Env} {s : State} {m : MethodId} {below : List Frame} {meth : Method} {c : Code} (l : Launch) (hlt : l.stackTraces = false) {b : Nat} {xs : Nat → Int32} (C0 : lw_At p s m meth c b 7 xs) {A : Nat → Prop} (hA : ∀ q : Nat, s.heap.size ≤ q → A q) (hAs : ∀ q : Nat, A q → s.heap.size ≤ q) (hY : sy_E A s s.heap) {dC : Nat → ClassId} {dI : Nat → Nat → Nat} (aa bb : Nat → Nat) (kk jj : Nat → ClassId) (qo : Nat) (H : Heap) (locs : List Loc) (hK : va_K (dC, dI) vwCl (tX kk ++ tM jj) s) (hP : va_P (dC, dI) vwCl (wX aa kk ++ wM bb jj) H) (hD : va_D A (wX aa kk ++ wM bb jj)) (hS : va_S A s.heap H locs) (ls : Array Slot) (hl : lv_has ls 7 [(0, .ref b), (1, .ref (aa 0)), (2, .ref (bb 0)), (3, .ref qo), (4, .int 0)]) : W p l e room_1 s m #[Value.ref b] below meth c H locs 1717 133609 (lw_Z below #[Value.ref b] s) (F0 m 989 ls []) := by
  obtain ⟨hx, hb, hr, hml, hown0, hts0, hX, hbl, hlocks, hgv⟩ := id C0
  have hown : s.vm.findClass RL = some m.cls := hown0
  have hts : ∀ w ∈ vsL, w.before #[Value.ref b] s = true := fun w h => hts0 w (vsL_in w h)
  have hbA : ¬ A b := fun h => absurd (hAs b h) (Nat.not_le.mpr hbl)
  refine lv_aload_n hx hb dL_law_989 rfl (lv_at hl 1 rfl) ?_
  refine lv_aload_n hx hb dL_law_990 rfl (lv_at hl 0 rfl) ?_
  refine lv_iload hx hb dL_law_991 (lv_at hl 4 rfl) ?_
  refine lv_iconst (v := 1) hx hb dL_law_993 (by decide) ?_
  refine lv_iadd hx hb dL_law_994 ?_
  refine lv_topi (fun y_1 ey_1 => ?_)
  obtain rfl : y_1 = 1 := ey_1.trans (by decide)
  refine va_sld hx hb hX hbl hbA hS (show ¬ (_ ∨ _) by decide) dL_law_995 ?_
  refine va_calli (va_runV (As := [.int (xs (1 : Int32).toNatClampNeg)]) (rest := []) ⟨hx, hb, hml, hown, hts⟩ (c_X8_covered l dC dI _ aa kk (xs (1 : Int32).toNatClampNeg)) (cwV 1 hts g_L_X8_covered rfl rfl rfl (by decide +kernel) ⟨Nat.le_of_ble_eq_true rfl, Nat.le_of_ble_eq_true rfl⟩) ⟨pu_bl, va_recv hK hP (ci := 8) (q0 := 0) rfl rfl, pu_in (hP.sub [0, 1, 2, 3, 4, 5, 6, 7, 8, 9] rfl) (hK.sub [0, 1, 2, 3] rfl) (hD.sub [0, 1, 2, 3, 4, 5, 6, 7, 8, 9] (by decide) rfl)⟩ rfl rfl hl.1 rfl (lv_room (Nat.le_of_ble_eq_true rfl)) dL_law_996 ⟨Nat.le_of_ble_eq_true rfl, Nat.le_of_ble_eq_true rfl⟩) hS (fun q _ h => pu_fr hS hA q h) (pu_fr hS hA) (fun r_2 u t H1 locs ht hvm hw hB hz1 hk1 hS => ?_)
  have hP := pu_keep hP hk1
  clear hk1 hz1 ht hvm
  generalize H1 = H at hP hS ⊢
  obtain rfl : r_2 = (-1) := hw
  refine lv_aload_n hx hb dL_law_999 rfl (lv_at hl 2 rfl) ?_
  refine lv_aload_n hx hb dL_law_1000 rfl (lv_at hl 0 rfl) ?_
  refine lv_iload hx hb dL_law_1001 (lv_at hl 4 rfl) ?_
  refine lv_iconst (v := 1) hx hb dL_law_1003 (by decide) ?_
  refine lv_iadd hx hb dL_law_1004 ?_
  refine lv_topi (fun y_3 ey_3 => ?_)
  obtain rfl : y_3 = 1 := ey_3.trans (by decide)
  refine va_sld hx hb hX hbl hbA hS (show ¬ (_ ∨ _) by decide) dL_law_1005 ?_
  have hFc := va_free (wc := [((bb 0), .inr (9, [.int 0, .ref (bb 10), .ref (bb 11), .ref (bb 12), .ref (bb 13), .ref (bb 14), .ref (bb 15), .ref (bb 16), .ref (bb 17), .ref (bb 18), .ref (bb 19), .ref (bb 20), .ref (bb 1), .ref (bb 2), .ref (bb 3), .ref (bb 4), .int 0, .ref (bb 5), .int 0, .int 0, .int 0, .int 0, .int 0, .int 0, .int 0, .int (-1), .int 0, .int 0, .int 0, .int 0, .int 0, .ref (bb 21), .ref (bb 22), .int 0, .ref (bb 23), .ref (bb 24), .ref (bb 25), .ref (bb 26), .ref (bb 27), .ref (bb 28), .ref (bb 29), .ref (bb 30), .ref (bb 31), .ref (bb 32), .ref (bb 33), .int 0, .int 0, .ref (bb 34), .ref (bb 35), .ref (bb 36), .ref (bb 37), .ref (bb 38), .int 0, .int 0, .ref (bb 39), .ref (bb 40), .ref (bb 41), .ref (bb 42), .ref (bb 43), .ref (bb 44), .ref (bb 45), .int 0, .int 0, .int 0, .ref (bb 46), .int 0, .int 0])), ((bb 1), .inl ((jj 1), 2, .inl (fun _ => 0))), ((bb 2), .inl ((jj 2), 2, .inl (fun _ => 0))), ((bb 3), .inl ((jj 3), 2, .inl (fun _ => 0))), ((bb 4), .inl ((jj 4), 2, .inl begF)), ((bb 5), .inl ((jj 5), 900, .inl (fun _ => 0)))]) hD hS hA [10, 11, 12, 13, 14, 15] rfl
  refine va_calli (va_runV (As := [.int (xs (1 : Int32).toNatClampNeg)]) (rest := [.int (-1)]) ⟨hx, hb, hml, hown, hts⟩ (c_X9_covered l dC dI _ bb jj (xs (1 : Int32).toNatClampNeg)) (cwV 1 hts g_L_X9_covered rfl rfl rfl (by decide +kernel) ⟨Nat.le_of_ble_eq_true rfl, Nat.le_of_ble_eq_true rfl⟩) ⟨pu_bl, va_recv hK hP (ci := 9) (q0 := 10) rfl rfl, pu_in (hP.sub [10, 11, 12, 13, 14, 15] rfl) (hK.sub [4, 5, 6, 7, 8] rfl) (hD.sub [10, 11, 12, 13, 14, 15] (by decide) rfl)⟩ rfl rfl hl.1 rfl (lv_room (Nat.le_of_ble_eq_true rfl)) dL_law_1006 ⟨Nat.le_of_ble_eq_true rfl, Nat.le_of_ble_eq_true rfl⟩) hS (fun q _ h => hFc q h) hFc (fun r_4 u t H1 locs ht hvm hw hB hz1 hk1 hS => ?_)
  obtain ⟨hP, hD⟩ := va_join (wr := [((aa 0), .inr (8, [.ref (aa 6), .int 0, .ref (aa 4), .ref (aa 1), .ref (aa 5), .ref (aa 2), .ref (aa 10), .int 0, .ref (aa 11), .ref (aa 12), .int 0, .ref (aa 13), .ref (aa 14), .ref (aa 3), .ref (aa 15), .ref (aa 16)])), ((aa 1), .inr (0, [.int 0, .int 0, .int 0, .int (-1), .ref (aa 20), .ref (aa 21), .ref (aa 22), .ref (aa 23), .ref (aa 7), .ref (aa 24), .ref (aa 25), .ref (aa 26), .ref (aa 27), .ref (aa 28), .ref (aa 29), .ref (aa 30), .ref (aa 31)])), ((aa 2), .inr (2, [.int 0, .ref (aa 60), .ref (aa 61)])), ((aa 3), .inr (3, [.int 0, .int 0, .int 0, .ref (aa 62), .ref (aa 63)])), ((aa 4), .inr (4, [.int 0, .int (-1), .null, .int 0, .int 0, .int 0, .int 0, .int 0, .null, .ref (aa 64), .ref (aa 65), .ref (aa 66)])), ((aa 5), .inr (0, [.int 0, .int 0, .int 0, .int (-1), .ref (aa 8), .ref (aa 41), .ref (aa 42), .ref (aa 43), .ref (aa 9), .ref (aa 44), .ref (aa 45), .ref (aa 46), .ref (aa 47), .ref (aa 48), .ref (aa 49), .ref (aa 50), .ref (aa 51)])), ((aa 6), .inl ((kk 0), 900, .inl (fun _ => 0))), ((aa 7), .inl ((kk 1), 22, .inl (fun _ => 0))), ((aa 8), .inl ((kk 2), 8, .inl (fun _ => 0))), ((aa 9), .inl ((kk 3), 22, .inl (fun _ => 0)))]) (w1 := []) hP hD [10, 11, 12, 13, 14, 15] [0, 1, 2, 3, 4, 5, 6, 7, 8, 9] rfl rfl (by decide) (by decide) hk1 hFc pu_P0 pu_D0
  clear hk1 hz1 ht hvm
  generalize H1 = H at hP hS ⊢
  have hP : va_P (dC, dI) vwCl [((aa 0), .inr (8, [.ref (aa 6), .int 0, .ref (aa 4), .ref (aa 1), .ref (aa 5), .ref (aa 2), .ref (aa 10), .int 0, .ref (aa 11), .ref (aa 12), .int 0, .ref (aa 13), .ref (aa 14), .ref (aa 3), .ref (aa 15), .ref (aa 16)])), ((aa 1), .inr (0, [.int 0, .int 0, .int 0, .int (-1), .ref (aa 20), .ref (aa 21), .ref (aa 22), .ref (aa 23), .ref (aa 7), .ref (aa 24), .ref (aa 25), .ref (aa 26), .ref (aa 27), .ref (aa 28), .ref (aa 29), .ref (aa 30), .ref (aa 31)])), ((aa 2), .inr (2, [.int 0, .ref (aa 60), .ref (aa 61)])), ((aa 3), .inr (3, [.int 0, .int 0, .int 0, .ref (aa 62), .ref (aa 63)])), ((aa 4), .inr (4, [.int 0, .int (-1), .null, .int 0, .int 0, .int 0, .int 0, .int 0, .null, .ref (aa 64), .ref (aa 65), .ref (aa 66)])), ((aa 5), .inr (0, [.int 0, .int 0, .int 0, .int (-1), .ref (aa 8), .ref (aa 41), .ref (aa 42), .ref (aa 43), .ref (aa 9), .ref (aa 44), .ref (aa 45), .ref (aa 46), .ref (aa 47), .ref (aa 48), .ref (aa 49), .ref (aa 50), .ref (aa 51)])), ((aa 6), .inl ((kk 0), 900, .inl (fun _ => 0))), ((aa 7), .inl ((kk 1), 22, .inl (fun _ => 0))), ((aa 8), .inl ((kk 2), 8, .inl (fun _ => 0))), ((aa 9), .inl ((kk 3), 22, .inl (fun _ => 0)))] H := hP
  have hD : va_D A [((aa 0), .inr (8, [.ref (aa 6), .int 0, .ref (aa 4), .ref (aa 1), .ref (aa 5), .ref (aa 2), .ref (aa 10), .int 0, .ref (aa 11), .ref (aa 12), .int 0, .ref (aa 13), .ref (aa 14), .ref (aa 3), .ref (aa 15), .ref (aa 16)])), ((aa 1), .inr (0, [.int 0, .int 0, .int 0, .int (-1), .ref (aa 20), .ref (aa 21), .ref (aa 22), .ref (aa 23), .ref (aa 7), .ref (aa 24), .ref (aa 25), .ref (aa 26), .ref (aa 27), .ref (aa 28), .ref (aa 29), .ref (aa 30), .ref (aa 31)])), ((aa 2), .inr (2, [.int 0, .ref (aa 60), .ref (aa 61)])), ((aa 3), .inr (3, [.int 0, .int 0, .int 0, .ref (aa 62), .ref (aa 63)])), ((aa 4), .inr (4, [.int 0, .int (-1), .null, .int 0, .int 0, .int 0, .int 0, .int 0, .null, .ref (aa 64), .ref (aa 65), .ref (aa 66)])), ((aa 5), .inr (0, [.int 0, .int 0, .int 0, .int (-1), .ref (aa 8), .ref (aa 41), .ref (aa 42), .ref (aa 43), .ref (aa 9), .ref (aa 44), .ref (aa 45), .ref (aa 46), .ref (aa 47), .ref (aa 48), .ref (aa 49), .ref (aa 50), .ref (aa 51)])), ((aa 6), .inl ((kk 0), 900, .inl (fun _ => 0))), ((aa 7), .inl ((kk 1), 22, .inl (fun _ => 0))), ((aa 8), .inl ((kk 2), 8, .inl (fun _ => 0))), ((aa 9), .inl ((kk 3), 22, .inl (fun _ => 0)))] := hD
  obtain rfl : r_4 = (-1) := hw
  refine lv_icmp_eq (tgt := 1725) hx hb dL_law_1009 (by decide) (fun _ => ?_) (fun z => absurd z (by decide))
  exact law_tail l C0 hA hAs hS (lv_sub hl [0, 4] rfl) (Nat.le_of_ble_eq_true rfl) (Nat.le_of_ble_eq_true rfl)
set_option maxHeartbeats 4000000 in
set_option maxRecDepth 100000 in
theorem law_case_22 {p : Program} {e : Env} {s : State} {m : MethodId} {below : List Frame} {meth : Method} {c : Code} (l : Launch) (hlt : l.stackTraces = false) {b : Nat} {xs : Nat → Int32} (C0 : lw_At p s m meth c b 7 xs) {A : Nat → Prop} (hA : ∀ q : Nat, s.heap.size ≤ q → A q) (hAs : ∀ q : Nat, A q → s.heap.size ≤ q) (hY : sy_E A s s.heap) {dC : Nat → ClassId} {dI : Nat → Nat → Nat} (aa bb : Nat → Nat) (kk jj : Nat → ClassId) (qo : Nat) (H : Heap) (locs : List Loc) (hK : va_K (dC, dI) vwCl (tX kk ++ tM jj) s) (hP : va_P (dC, dI) vwCl (wX aa kk ++ wM bb jj) H) (hD : va_D A (wX aa kk ++ wM bb jj)) (hS : va_S A s.heap H locs) (ls : Array Slot) (hl : lv_has ls 7 [(0, .ref b), (1, .ref (aa 0)), (2, .ref (bb 0)), (3, .ref qo), (4, .int 0)]) : W p l e room_1 s m #[Value.ref b] below meth c H locs 1717 133609 (lw_Z below #[Value.ref b] s) (F0 m 1014 ls []) := by
  obtain ⟨hx, hb, hr, hml, hown0, hts0, hX, hbl, hlocks, hgv⟩ := id C0
  have hown : s.vm.findClass RL = some m.cls := hown0
  have hts : ∀ w ∈ vsL, w.before #[Value.ref b] s = true := fun w h => hts0 w (vsL_in w h)
  have hbA : ¬ A b := fun h => absurd (hAs b h) (Nat.not_le.mpr hbl)
  refine lv_aload_n hx hb dL_law_1014 rfl (lv_at hl 1 rfl) ?_
  refine lv_aload_n hx hb dL_law_1015 rfl (lv_at hl 0 rfl) ?_
  refine lv_iload hx hb dL_law_1016 (lv_at hl 4 rfl) ?_
  refine lv_iconst (v := 1) hx hb dL_law_1018 (by decide) ?_
  refine lv_iadd hx hb dL_law_1019 ?_
  refine lv_topi (fun y_1 ey_1 => ?_)
  obtain rfl : y_1 = 1 := ey_1.trans (by decide)
  refine va_sld hx hb hX hbl hbA hS (show ¬ (_ ∨ _) by decide) dL_law_1020 ?_
  refine va_calli (va_runV (As := [.int (xs (1 : Int32).toNatClampNeg)]) (rest := []) ⟨hx, hb, hml, hown, hts⟩ (c_X8_points l dC dI _ aa kk (xs (1 : Int32).toNatClampNeg)) (cwV 1 hts g_L_X8_points rfl rfl rfl (by decide +kernel) ⟨Nat.le_of_ble_eq_true rfl, Nat.le_of_ble_eq_true rfl⟩) ⟨pu_bl, va_recv hK hP (ci := 8) (q0 := 0) rfl rfl, pu_in (hP.sub [0, 1, 2, 3, 4, 5, 6, 7, 8, 9] rfl) (hK.sub [0, 1, 2, 3] rfl) (hD.sub [0, 1, 2, 3, 4, 5, 6, 7, 8, 9] (by decide) rfl)⟩ rfl rfl hl.1 rfl (lv_room (Nat.le_of_ble_eq_true rfl)) dL_law_1021 ⟨Nat.le_of_ble_eq_true rfl, Nat.le_of_ble_eq_true rfl⟩) hS (fun q _ h => pu_fr hS hA q h) (pu_fr hS hA) (fun r_2 u t H1 locs ht hvm hw hB hz1 hk1 hS => ?_)
  have hP := pu_keep hP hk1
  clear hk1 hz1 ht hvm
  generalize H1 = H at hP hS ⊢
  obtain rfl : r_2 = (-1) := hw
  refine lv_aload_n hx hb dL_law_1024 rfl (lv_at hl 2 rfl) ?_
  refine lv_aload_n hx hb dL_law_1025 rfl (lv_at hl 0 rfl) ?_
  refine lv_iload hx hb dL_law_1026 (lv_at hl 4 rfl) ?_
  refine lv_iconst (v := 1) hx hb dL_law_1028 (by decide) ?_
  refine lv_iadd hx hb dL_law_1029 ?_
  refine lv_topi (fun y_3 ey_3 => ?_)
  obtain rfl : y_3 = 1 := ey_3.trans (by decide)
  refine va_sld hx hb hX hbl hbA hS (show ¬ (_ ∨ _) by decide) dL_law_1030 ?_
  have hFc := va_free (wc := [((bb 0), .inr (9, [.int 0, .ref (bb 10), .ref (bb 11), .ref (bb 12), .ref (bb 13), .ref (bb 14), .ref (bb 15), .ref (bb 16), .ref (bb 17), .ref (bb 18), .ref (bb 19), .ref (bb 20), .ref (bb 1), .ref (bb 2), .ref (bb 3), .ref (bb 4), .int 0, .ref (bb 5), .int 0, .int 0, .int 0, .int 0, .int 0, .int 0, .int 0, .int (-1), .int 0, .int 0, .int 0, .int 0, .int 0, .ref (bb 21), .ref (bb 22), .int 0, .ref (bb 23), .ref (bb 24), .ref (bb 25), .ref (bb 26), .ref (bb 27), .ref (bb 28), .ref (bb 29), .ref (bb 30), .ref (bb 31), .ref (bb 32), .ref (bb 33), .int 0, .int 0, .ref (bb 34), .ref (bb 35), .ref (bb 36), .ref (bb 37), .ref (bb 38), .int 0, .int 0, .ref (bb 39), .ref (bb 40), .ref (bb 41), .ref (bb 42), .ref (bb 43), .ref (bb 44), .ref (bb 45), .int 0, .int 0, .int 0, .ref (bb 46), .int 0, .int 0])), ((bb 1), .inl ((jj 1), 2, .inl (fun _ => 0))), ((bb 2), .inl ((jj 2), 2, .inl (fun _ => 0))), ((bb 3), .inl ((jj 3), 2, .inl (fun _ => 0))), ((bb 4), .inl ((jj 4), 2, .inl begF)), ((bb 5), .inl ((jj 5), 900, .inl (fun _ => 0)))]) hD hS hA [10, 11, 12, 13, 14, 15] rfl
  refine va_calli (va_runV (As := [.int (xs (1 : Int32).toNatClampNeg)]) (rest := [.int (-1)]) ⟨hx, hb, hml, hown, hts⟩ (c_X9_points l dC dI _ bb jj (xs (1 : Int32).toNatClampNeg)) (cwV 1 hts g_L_X9_points rfl rfl rfl (by decide +kernel) ⟨Nat.le_of_ble_eq_true rfl, Nat.le_of_ble_eq_true rfl⟩) ⟨pu_bl, va_recv hK hP (ci := 9) (q0 := 10) rfl rfl, pu_in (hP.sub [10, 11, 12, 13, 14, 15] rfl) (hK.sub [4, 5, 6, 7, 8] rfl) (hD.sub [10, 11, 12, 13, 14, 15] (by decide) rfl)⟩ rfl rfl hl.1 rfl (lv_room (Nat.le_of_ble_eq_true rfl)) dL_law_1031 ⟨Nat.le_of_ble_eq_true rfl, Nat.le_of_ble_eq_true rfl⟩) hS (fun q _ h => hFc q h) hFc (fun r_4 u t H1 locs ht hvm hw hB hz1 hk1 hS => ?_)
  obtain ⟨hP, hD⟩ := va_join (wr := [((aa 0), .inr (8, [.ref (aa 6), .int 0, .ref (aa 4), .ref (aa 1), .ref (aa 5), .ref (aa 2), .ref (aa 10), .int 0, .ref (aa 11), .ref (aa 12), .int 0, .ref (aa 13), .ref (aa 14), .ref (aa 3), .ref (aa 15), .ref (aa 16)])), ((aa 1), .inr (0, [.int 0, .int 0, .int 0, .int (-1), .ref (aa 20), .ref (aa 21), .ref (aa 22), .ref (aa 23), .ref (aa 7), .ref (aa 24), .ref (aa 25), .ref (aa 26), .ref (aa 27), .ref (aa 28), .ref (aa 29), .ref (aa 30), .ref (aa 31)])), ((aa 2), .inr (2, [.int 0, .ref (aa 60), .ref (aa 61)])), ((aa 3), .inr (3, [.int 0, .int 0, .int 0, .ref (aa 62), .ref (aa 63)])), ((aa 4), .inr (4, [.int 0, .int (-1), .null, .int 0, .int 0, .int 0, .int 0, .int 0, .null, .ref (aa 64), .ref (aa 65), .ref (aa 66)])), ((aa 5), .inr (0, [.int 0, .int 0, .int 0, .int (-1), .ref (aa 8), .ref (aa 41), .ref (aa 42), .ref (aa 43), .ref (aa 9), .ref (aa 44), .ref (aa 45), .ref (aa 46), .ref (aa 47), .ref (aa 48), .ref (aa 49), .ref (aa 50), .ref (aa 51)])), ((aa 6), .inl ((kk 0), 900, .inl (fun _ => 0))), ((aa 7), .inl ((kk 1), 22, .inl (fun _ => 0))), ((aa 8), .inl ((kk 2), 8, .inl (fun _ => 0))), ((aa 9), .inl ((kk 3), 22, .inl (fun _ => 0)))]) (w1 := []) hP hD [10, 11, 12, 13, 14, 15] [0, 1, 2, 3, 4, 5, 6, 7, 8, 9] rfl rfl (by decide) (by decide) hk1 hFc pu_P0 pu_D0
  clear hk1 hz1 ht hvm
  generalize H1 = H at hP hS ⊢
  have hP : va_P (dC, dI) vwCl [((aa 0), .inr (8, [.ref (aa 6), .int 0, .ref (aa 4), .ref (aa 1), .ref (aa 5), .ref (aa 2), .ref (aa 10), .int 0, .ref (aa 11), .ref (aa 12), .int 0, .ref (aa 13), .ref (aa 14), .ref (aa 3), .ref (aa 15), .ref (aa 16)])), ((aa 1), .inr (0, [.int 0, .int 0, .int 0, .int (-1), .ref (aa 20), .ref (aa 21), .ref (aa 22), .ref (aa 23), .ref (aa 7), .ref (aa 24), .ref (aa 25), .ref (aa 26), .ref (aa 27), .ref (aa 28), .ref (aa 29), .ref (aa 30), .ref (aa 31)])), ((aa 2), .inr (2, [.int 0, .ref (aa 60), .ref (aa 61)])), ((aa 3), .inr (3, [.int 0, .int 0, .int 0, .ref (aa 62), .ref (aa 63)])), ((aa 4), .inr (4, [.int 0, .int (-1), .null, .int 0, .int 0, .int 0, .int 0, .int 0, .null, .ref (aa 64), .ref (aa 65), .ref (aa 66)])), ((aa 5), .inr (0, [.int 0, .int 0, .int 0, .int (-1), .ref (aa 8), .ref (aa 41), .ref (aa 42), .ref (aa 43), .ref (aa 9), .ref (aa 44), .ref (aa 45), .ref (aa 46), .ref (aa 47), .ref (aa 48), .ref (aa 49), .ref (aa 50), .ref (aa 51)])), ((aa 6), .inl ((kk 0), 900, .inl (fun _ => 0))), ((aa 7), .inl ((kk 1), 22, .inl (fun _ => 0))), ((aa 8), .inl ((kk 2), 8, .inl (fun _ => 0))), ((aa 9), .inl ((kk 3), 22, .inl (fun _ => 0)))] H := hP
  have hD : va_D A [((aa 0), .inr (8, [.ref (aa 6), .int 0, .ref (aa 4), .ref (aa 1), .ref (aa 5), .ref (aa 2), .ref (aa 10), .int 0, .ref (aa 11), .ref (aa 12), .int 0, .ref (aa 13), .ref (aa 14), .ref (aa 3), .ref (aa 15), .ref (aa 16)])), ((aa 1), .inr (0, [.int 0, .int 0, .int 0, .int (-1), .ref (aa 20), .ref (aa 21), .ref (aa 22), .ref (aa 23), .ref (aa 7), .ref (aa 24), .ref (aa 25), .ref (aa 26), .ref (aa 27), .ref (aa 28), .ref (aa 29), .ref (aa 30), .ref (aa 31)])), ((aa 2), .inr (2, [.int 0, .ref (aa 60), .ref (aa 61)])), ((aa 3), .inr (3, [.int 0, .int 0, .int 0, .ref (aa 62), .ref (aa 63)])), ((aa 4), .inr (4, [.int 0, .int (-1), .null, .int 0, .int 0, .int 0, .int 0, .int 0, .null, .ref (aa 64), .ref (aa 65), .ref (aa 66)])), ((aa 5), .inr (0, [.int 0, .int 0, .int 0, .int (-1), .ref (aa 8), .ref (aa 41), .ref (aa 42), .ref (aa 43), .ref (aa 9), .ref (aa 44), .ref (aa 45), .ref (aa 46), .ref (aa 47), .ref (aa 48), .ref (aa 49), .ref (aa 50), .ref (aa 51)])), ((aa 6), .inl ((kk 0), 900, .inl (fun _ => 0))), ((aa 7), .inl ((kk 1), 22, .inl (fun _ => 0))), ((aa 8), .inl ((kk 2), 8, .inl (fun _ => 0))), ((aa 9), .inl ((kk 3), 22, .inl (fun _ => 0)))] := hD
  obtain rfl : r_4 = (-1) := hw
  refine lv_icmp_eq (tgt := 1725) hx hb dL_law_1034 (by decide) (fun _ => ?_) (fun z => absurd z (by decide))
  exact law_tail l C0 hA hAs hS (lv_sub hl [0, 4] rfl) (Nat.le_of_ble_eq_true rfl) (Nat.le_of_ble_eq_true rfl)
set_option maxHeartbeats 4000000 in
set_option maxRecDepth 100000 in
theorem law_case_23 {p : Program} {e : Env} {s : State} {m : MethodId} {below : List Frame} {meth : Method} {c : Code} (l : Launch) (hlt : l.stackTraces = false) {b : Nat} {xs : Nat → Int32} (C0 : lw_At p s m meth c b 7 xs) {A : Nat → Prop} (hA : ∀ q : Nat, s.heap.size ≤ q → A q) (hAs : ∀ q : Nat, A q → s.heap.size ≤ q) (hY : sy_E A s s.heap) {dC : Nat → ClassId} {dI : Nat → Nat → Nat} (aa bb : Nat → Nat) (kk jj : Nat → ClassId) (qo : Nat) (H : Heap) (locs : List Loc) (hK : va_K (dC, dI) vwCl (tX kk ++ tM jj) s) (hP : va_P (dC, dI) vwCl (wX aa kk ++ wM bb jj) H) (hD : va_D A (wX aa kk ++ wM bb jj)) (hS : va_S A s.heap H locs) (ls : Array Slot) (hl : lv_has ls 7 [(0, .ref b), (1, .ref (aa 0)), (2, .ref (bb 0)), (3, .ref qo), (4, .int 0)]) : W p l e room_1 s m #[Value.ref b] below meth c H locs 1717 133609 (lw_Z below #[Value.ref b] s) (F0 m 1039 ls []) := by
  obtain ⟨hx, hb, hr, hml, hown0, hts0, hX, hbl, hlocks, hgv⟩ := id C0
  have hown : s.vm.findClass RL = some m.cls := hown0
  have hts : ∀ w ∈ vsL, w.before #[Value.ref b] s = true := fun w h => hts0 w (vsL_in w h)
  have hbA : ¬ A b := fun h => absurd (hAs b h) (Nat.not_le.mpr hbl)
  refine lv_aload_n hx hb dL_law_1039 rfl (lv_at hl 1 rfl) ?_
  refine va_calli (va_runV (As := []) (rest := []) ⟨hx, hb, hml, hown, hts⟩ (c_X8_rings l dC dI _ aa kk) (cwV 0 hts g_L_X8_rings rfl rfl rfl (by decide +kernel) ⟨Nat.le_of_ble_eq_true rfl, Nat.le_of_ble_eq_true rfl⟩) ⟨pu_bl, va_recv hK hP (ci := 8) (q0 := 0) rfl rfl, pu_in (hP.sub [0, 1, 2, 3, 4, 5, 6, 7, 8, 9] rfl) (hK.sub [0, 1, 2, 3] rfl) (hD.sub [0, 1, 2, 3, 4, 5, 6, 7, 8, 9] (by decide) rfl)⟩ rfl rfl hl.1 rfl (lv_room (Nat.le_of_ble_eq_true rfl)) dL_law_1040 ⟨Nat.le_of_ble_eq_true rfl, Nat.le_of_ble_eq_true rfl⟩) hS (fun q _ h => pu_fr hS hA q h) (pu_fr hS hA) (fun r_1 u t H1 locs ht hvm hw hB hz1 hk1 hS => ?_)
  have hP := pu_keep hP hk1
  clear hk1 hz1 ht hvm
  generalize H1 = H at hP hS ⊢
  obtain rfl : r_1 = 0 := hw
  refine lv_aload_n hx hb dL_law_1043 rfl (lv_at hl 2 rfl) ?_
  have hFc := va_free (wc := [((bb 0), .inr (9, [.int 0, .ref (bb 10), .ref (bb 11), .ref (bb 12), .ref (bb 13), .ref (bb 14), .ref (bb 15), .ref (bb 16), .ref (bb 17), .ref (bb 18), .ref (bb 19), .ref (bb 20), .ref (bb 1), .ref (bb 2), .ref (bb 3), .ref (bb 4), .int 0, .ref (bb 5), .int 0, .int 0, .int 0, .int 0, .int 0, .int 0, .int 0, .int (-1), .int 0, .int 0, .int 0, .int 0, .int 0, .ref (bb 21), .ref (bb 22), .int 0, .ref (bb 23), .ref (bb 24), .ref (bb 25), .ref (bb 26), .ref (bb 27), .ref (bb 28), .ref (bb 29), .ref (bb 30), .ref (bb 31), .ref (bb 32), .ref (bb 33), .int 0, .int 0, .ref (bb 34), .ref (bb 35), .ref (bb 36), .ref (bb 37), .ref (bb 38), .int 0, .int 0, .ref (bb 39), .ref (bb 40), .ref (bb 41), .ref (bb 42), .ref (bb 43), .ref (bb 44), .ref (bb 45), .int 0, .int 0, .int 0, .ref (bb 46), .int 0, .int 0])), ((bb 1), .inl ((jj 1), 2, .inl (fun _ => 0))), ((bb 2), .inl ((jj 2), 2, .inl (fun _ => 0))), ((bb 3), .inl ((jj 3), 2, .inl (fun _ => 0))), ((bb 4), .inl ((jj 4), 2, .inl begF)), ((bb 5), .inl ((jj 5), 900, .inl (fun _ => 0)))]) hD hS hA [10, 11, 12, 13, 14, 15] rfl
  refine va_calli (va_runV (As := []) (rest := [.int 0]) ⟨hx, hb, hml, hown, hts⟩ (c_X9_rings l dC dI _ bb jj) (cwV 0 hts g_L_X9_rings rfl rfl rfl (by decide +kernel) ⟨Nat.le_of_ble_eq_true rfl, Nat.le_of_ble_eq_true rfl⟩) ⟨pu_bl, va_recv hK hP (ci := 9) (q0 := 10) rfl rfl, pu_in (hP.sub [10, 11, 12, 13, 14, 15] rfl) (hK.sub [4, 5, 6, 7, 8] rfl) (hD.sub [10, 11, 12, 13, 14, 15] (by decide) rfl)⟩ rfl rfl hl.1 rfl (lv_room (Nat.le_of_ble_eq_true rfl)) dL_law_1044 ⟨Nat.le_of_ble_eq_true rfl, Nat.le_of_ble_eq_true rfl⟩) hS (fun q _ h => hFc q h) hFc (fun r_2 u t H1 locs ht hvm hw hB hz1 hk1 hS => ?_)
  obtain ⟨hP, hD⟩ := va_join (wr := [((aa 0), .inr (8, [.ref (aa 6), .int 0, .ref (aa 4), .ref (aa 1), .ref (aa 5), .ref (aa 2), .ref (aa 10), .int 0, .ref (aa 11), .ref (aa 12), .int 0, .ref (aa 13), .ref (aa 14), .ref (aa 3), .ref (aa 15), .ref (aa 16)])), ((aa 1), .inr (0, [.int 0, .int 0, .int 0, .int (-1), .ref (aa 20), .ref (aa 21), .ref (aa 22), .ref (aa 23), .ref (aa 7), .ref (aa 24), .ref (aa 25), .ref (aa 26), .ref (aa 27), .ref (aa 28), .ref (aa 29), .ref (aa 30), .ref (aa 31)])), ((aa 2), .inr (2, [.int 0, .ref (aa 60), .ref (aa 61)])), ((aa 3), .inr (3, [.int 0, .int 0, .int 0, .ref (aa 62), .ref (aa 63)])), ((aa 4), .inr (4, [.int 0, .int (-1), .null, .int 0, .int 0, .int 0, .int 0, .int 0, .null, .ref (aa 64), .ref (aa 65), .ref (aa 66)])), ((aa 5), .inr (0, [.int 0, .int 0, .int 0, .int (-1), .ref (aa 8), .ref (aa 41), .ref (aa 42), .ref (aa 43), .ref (aa 9), .ref (aa 44), .ref (aa 45), .ref (aa 46), .ref (aa 47), .ref (aa 48), .ref (aa 49), .ref (aa 50), .ref (aa 51)])), ((aa 6), .inl ((kk 0), 900, .inl (fun _ => 0))), ((aa 7), .inl ((kk 1), 22, .inl (fun _ => 0))), ((aa 8), .inl ((kk 2), 8, .inl (fun _ => 0))), ((aa 9), .inl ((kk 3), 22, .inl (fun _ => 0)))]) (w1 := []) hP hD [10, 11, 12, 13, 14, 15] [0, 1, 2, 3, 4, 5, 6, 7, 8, 9] rfl rfl (by decide) (by decide) hk1 hFc pu_P0 pu_D0
  clear hk1 hz1 ht hvm
  generalize H1 = H at hP hS ⊢
  have hP : va_P (dC, dI) vwCl [((aa 0), .inr (8, [.ref (aa 6), .int 0, .ref (aa 4), .ref (aa 1), .ref (aa 5), .ref (aa 2), .ref (aa 10), .int 0, .ref (aa 11), .ref (aa 12), .int 0, .ref (aa 13), .ref (aa 14), .ref (aa 3), .ref (aa 15), .ref (aa 16)])), ((aa 1), .inr (0, [.int 0, .int 0, .int 0, .int (-1), .ref (aa 20), .ref (aa 21), .ref (aa 22), .ref (aa 23), .ref (aa 7), .ref (aa 24), .ref (aa 25), .ref (aa 26), .ref (aa 27), .ref (aa 28), .ref (aa 29), .ref (aa 30), .ref (aa 31)])), ((aa 2), .inr (2, [.int 0, .ref (aa 60), .ref (aa 61)])), ((aa 3), .inr (3, [.int 0, .int 0, .int 0, .ref (aa 62), .ref (aa 63)])), ((aa 4), .inr (4, [.int 0, .int (-1), .null, .int 0, .int 0, .int 0, .int 0, .int 0, .null, .ref (aa 64), .ref (aa 65), .ref (aa 66)])), ((aa 5), .inr (0, [.int 0, .int 0, .int 0, .int (-1), .ref (aa 8), .ref (aa 41), .ref (aa 42), .ref (aa 43), .ref (aa 9), .ref (aa 44), .ref (aa 45), .ref (aa 46), .ref (aa 47), .ref (aa 48), .ref (aa 49), .ref (aa 50), .ref (aa 51)])), ((aa 6), .inl ((kk 0), 900, .inl (fun _ => 0))), ((aa 7), .inl ((kk 1), 22, .inl (fun _ => 0))), ((aa 8), .inl ((kk 2), 8, .inl (fun _ => 0))), ((aa 9), .inl ((kk 3), 22, .inl (fun _ => 0)))] H := hP
  have hD : va_D A [((aa 0), .inr (8, [.ref (aa 6), .int 0, .ref (aa 4), .ref (aa 1), .ref (aa 5), .ref (aa 2), .ref (aa 10), .int 0, .ref (aa 11), .ref (aa 12), .int 0, .ref (aa 13), .ref (aa 14), .ref (aa 3), .ref (aa 15), .ref (aa 16)])), ((aa 1), .inr (0, [.int 0, .int 0, .int 0, .int (-1), .ref (aa 20), .ref (aa 21), .ref (aa 22), .ref (aa 23), .ref (aa 7), .ref (aa 24), .ref (aa 25), .ref (aa 26), .ref (aa 27), .ref (aa 28), .ref (aa 29), .ref (aa 30), .ref (aa 31)])), ((aa 2), .inr (2, [.int 0, .ref (aa 60), .ref (aa 61)])), ((aa 3), .inr (3, [.int 0, .int 0, .int 0, .ref (aa 62), .ref (aa 63)])), ((aa 4), .inr (4, [.int 0, .int (-1), .null, .int 0, .int 0, .int 0, .int 0, .int 0, .null, .ref (aa 64), .ref (aa 65), .ref (aa 66)])), ((aa 5), .inr (0, [.int 0, .int 0, .int 0, .int (-1), .ref (aa 8), .ref (aa 41), .ref (aa 42), .ref (aa 43), .ref (aa 9), .ref (aa 44), .ref (aa 45), .ref (aa 46), .ref (aa 47), .ref (aa 48), .ref (aa 49), .ref (aa 50), .ref (aa 51)])), ((aa 6), .inl ((kk 0), 900, .inl (fun _ => 0))), ((aa 7), .inl ((kk 1), 22, .inl (fun _ => 0))), ((aa 8), .inl ((kk 2), 8, .inl (fun _ => 0))), ((aa 9), .inl ((kk 3), 22, .inl (fun _ => 0)))] := hD
  obtain rfl : r_2 = 0 := hw
  refine lv_icmp_eq (tgt := 1725) hx hb dL_law_1047 (by decide) (fun _ => ?_) (fun z => absurd z (by decide))
  exact law_tail l C0 hA hAs hS (lv_sub hl [0, 4] rfl) (Nat.le_of_ble_eq_true rfl) (Nat.le_of_ble_eq_true rfl)
set_option maxHeartbeats 4000000 in
set_option maxRecDepth 100000 in
theorem law_case_24 {p : Program} {e : Env} {s : State} {m : MethodId} {below : List Frame} {meth : Method} {c : Code} (l : Launch) (hlt : l.stackTraces = false) {b : Nat} {xs : Nat → Int32} (C0 : lw_At p s m meth c b 7 xs) {A : Nat → Prop} (hA : ∀ q : Nat, s.heap.size ≤ q → A q) (hAs : ∀ q : Nat, A q → s.heap.size ≤ q) (hY : sy_E A s s.heap) {dC : Nat → ClassId} {dI : Nat → Nat → Nat} (aa bb : Nat → Nat) (kk jj : Nat → ClassId) (qo : Nat) (H : Heap) (locs : List Loc) (hK : va_K (dC, dI) vwCl (tX kk ++ tM jj) s) (hP : va_P (dC, dI) vwCl (wX aa kk ++ wM bb jj) H) (hD : va_D A (wX aa kk ++ wM bb jj)) (hS : va_S A s.heap H locs) (ls : Array Slot) (hl : lv_has ls 7 [(0, .ref b), (1, .ref (aa 0)), (2, .ref (bb 0)), (3, .ref qo), (4, .int 0)]) : W p l e room_1 s m #[Value.ref b] below meth c H locs 1717 133609 (lw_Z below #[Value.ref b] s) (F0 m 1052 ls []) := by
  obtain ⟨hx, hb, hr, hml, hown0, hts0, hX, hbl, hlocks, hgv⟩ := id C0
  have hown : s.vm.findClass RL = some m.cls := hown0
  have hts : ∀ w ∈ vsL, w.before #[Value.ref b] s = true := fun w h => hts0 w (vsL_in w h)
  have hbA : ¬ A b := fun h => absurd (hAs b h) (Nat.not_le.mpr hbl)
  refine lv_aload_n hx hb dL_law_1052 rfl (lv_at hl 1 rfl) ?_
  refine lv_aload_n hx hb dL_law_1053 rfl (lv_at hl 0 rfl) ?_
  refine lv_iload hx hb dL_law_1054 (lv_at hl 4 rfl) ?_
  refine lv_iconst (v := 1) hx hb dL_law_1056 (by decide) ?_
  refine lv_iadd hx hb dL_law_1057 ?_
  refine lv_topi (fun y_1 ey_1 => ?_)
  obtain rfl : y_1 = 1 := ey_1.trans (by decide)
  refine va_sld hx hb hX hbl hbA hS (show ¬ (_ ∨ _) by decide) dL_law_1058 ?_
  refine lv_aload_n hx hb dL_law_1059 rfl (lv_at hl 0 rfl) ?_
  refine lv_iload hx hb dL_law_1060 (lv_at hl 4 rfl) ?_
  refine lv_iconst (v := 2) hx hb dL_law_1062 (by decide) ?_
  refine lv_iadd hx hb dL_law_1063 ?_
  refine lv_topi (fun y_2 ey_2 => ?_)
  obtain rfl : y_2 = 2 := ey_2.trans (by decide)
  refine va_sld hx hb hX hbl hbA hS (show ¬ (_ ∨ _) by decide) dL_law_1064 ?_
  refine lv_aload_n hx hb dL_law_1065 rfl (lv_at hl 0 rfl) ?_
  refine lv_iload hx hb dL_law_1066 (lv_at hl 4 rfl) ?_
  refine lv_iconst (v := 3) hx hb dL_law_1068 (by decide) ?_
  refine lv_iadd hx hb dL_law_1069 ?_
  refine lv_topi (fun y_3 ey_3 => ?_)
  obtain rfl : y_3 = 3 := ey_3.trans (by decide)
  refine va_sld hx hb hX hbl hbA hS (show ¬ (_ ∨ _) by decide) dL_law_1070 ?_
  refine lv_aload_n hx hb dL_law_1071 rfl (lv_at hl 0 rfl) ?_
  refine lv_iload hx hb dL_law_1072 (lv_at hl 4 rfl) ?_
  refine lv_iconst (v := 4) hx hb dL_law_1074 (by decide) ?_
  refine lv_iadd hx hb dL_law_1075 ?_
  refine lv_topi (fun y_4 ey_4 => ?_)
  obtain rfl : y_4 = 4 := ey_4.trans (by decide)
  refine va_sld hx hb hX hbl hbA hS (show ¬ (_ ∨ _) by decide) dL_law_1076 ?_
  refine lv_aload_n hx hb dL_law_1077 rfl (lv_at hl 0 rfl) ?_
  refine lv_iload hx hb dL_law_1078 (lv_at hl 4 rfl) ?_
  refine lv_iconst (v := 5) hx hb dL_law_1080 (by decide) ?_
  refine lv_iadd hx hb dL_law_1081 ?_
  refine lv_topi (fun y_5 ey_5 => ?_)
  obtain rfl : y_5 = 5 := ey_5.trans (by decide)
  refine va_sld hx hb hX hbl hbA hS (show ¬ (_ ∨ _) by decide) dL_law_1082 ?_
  refine va_calli (va_runV (As := [.int (xs (1 : Int32).toNatClampNeg), .int (xs (2 : Int32).toNatClampNeg), .int (xs (3 : Int32).toNatClampNeg), .int (xs (4 : Int32).toNatClampNeg), .int (xs (5 : Int32).toNatClampNeg)]) (rest := []) ⟨hx, hb, hml, hown, hts⟩ (c_X8_from l dC dI _ aa kk (xs (1 : Int32).toNatClampNeg) (xs (2 : Int32).toNatClampNeg) (xs (3 : Int32).toNatClampNeg) (xs (4 : Int32).toNatClampNeg) (xs (5 : Int32).toNatClampNeg)) (cwV 5 hts g_L_X8_from rfl rfl rfl (by decide +kernel) ⟨Nat.le_of_ble_eq_true rfl, Nat.le_of_ble_eq_true rfl⟩) ⟨pu_bl, va_recv hK hP (ci := 8) (q0 := 0) rfl rfl, pu_in (hP.sub [0, 1, 2, 3, 4, 5, 6, 7, 8, 9] rfl) (hK.sub [0, 1, 2, 3] rfl) (hD.sub [0, 1, 2, 3, 4, 5, 6, 7, 8, 9] (by decide) rfl)⟩ rfl rfl hl.1 rfl (lv_room (Nat.le_of_ble_eq_true rfl)) dL_law_1083 ⟨Nat.le_of_ble_eq_true rfl, Nat.le_of_ble_eq_true rfl⟩) hS (fun q _ h => pu_fr hS hA q h) (pu_fr hS hA) (fun r_6 u t H1 locs ht hvm hw hB hz1 hk1 hS => ?_)
  have hP := pu_keep hP hk1
  clear hk1 hz1 ht hvm
  generalize H1 = H at hP hS ⊢
  obtain rfl : r_6 = (-1) := hw
  refine lv_aload_n hx hb dL_law_1086 rfl (lv_at hl 2 rfl) ?_
  refine lv_aload_n hx hb dL_law_1087 rfl (lv_at hl 0 rfl) ?_
  refine lv_iload hx hb dL_law_1088 (lv_at hl 4 rfl) ?_
  refine lv_iconst (v := 1) hx hb dL_law_1090 (by decide) ?_
  refine lv_iadd hx hb dL_law_1091 ?_
  refine lv_topi (fun y_7 ey_7 => ?_)
  obtain rfl : y_7 = 1 := ey_7.trans (by decide)
  refine va_sld hx hb hX hbl hbA hS (show ¬ (_ ∨ _) by decide) dL_law_1092 ?_
  refine lv_aload_n hx hb dL_law_1093 rfl (lv_at hl 0 rfl) ?_
  refine lv_iload hx hb dL_law_1094 (lv_at hl 4 rfl) ?_
  refine lv_iconst (v := 2) hx hb dL_law_1096 (by decide) ?_
  refine lv_iadd hx hb dL_law_1097 ?_
  refine lv_topi (fun y_8 ey_8 => ?_)
  obtain rfl : y_8 = 2 := ey_8.trans (by decide)
  refine va_sld hx hb hX hbl hbA hS (show ¬ (_ ∨ _) by decide) dL_law_1098 ?_
  refine lv_aload_n hx hb dL_law_1099 rfl (lv_at hl 0 rfl) ?_
  refine lv_iload hx hb dL_law_1100 (lv_at hl 4 rfl) ?_
  refine lv_iconst (v := 3) hx hb dL_law_1102 (by decide) ?_
  refine lv_iadd hx hb dL_law_1103 ?_
  refine lv_topi (fun y_9 ey_9 => ?_)
  obtain rfl : y_9 = 3 := ey_9.trans (by decide)
  refine va_sld hx hb hX hbl hbA hS (show ¬ (_ ∨ _) by decide) dL_law_1104 ?_
  refine lv_aload_n hx hb dL_law_1105 rfl (lv_at hl 0 rfl) ?_
  refine lv_iload hx hb dL_law_1106 (lv_at hl 4 rfl) ?_
  refine lv_iconst (v := 4) hx hb dL_law_1108 (by decide) ?_
  refine lv_iadd hx hb dL_law_1109 ?_
  refine lv_topi (fun y_10 ey_10 => ?_)
  obtain rfl : y_10 = 4 := ey_10.trans (by decide)
  refine va_sld hx hb hX hbl hbA hS (show ¬ (_ ∨ _) by decide) dL_law_1110 ?_
  refine lv_aload_n hx hb dL_law_1111 rfl (lv_at hl 0 rfl) ?_
  refine lv_iload hx hb dL_law_1112 (lv_at hl 4 rfl) ?_
  refine lv_iconst (v := 5) hx hb dL_law_1114 (by decide) ?_
  refine lv_iadd hx hb dL_law_1115 ?_
  refine lv_topi (fun y_11 ey_11 => ?_)
  obtain rfl : y_11 = 5 := ey_11.trans (by decide)
  refine va_sld hx hb hX hbl hbA hS (show ¬ (_ ∨ _) by decide) dL_law_1116 ?_
  have hFc := va_free (wc := [((bb 0), .inr (9, [.int 0, .ref (bb 10), .ref (bb 11), .ref (bb 12), .ref (bb 13), .ref (bb 14), .ref (bb 15), .ref (bb 16), .ref (bb 17), .ref (bb 18), .ref (bb 19), .ref (bb 20), .ref (bb 1), .ref (bb 2), .ref (bb 3), .ref (bb 4), .int 0, .ref (bb 5), .int 0, .int 0, .int 0, .int 0, .int 0, .int 0, .int 0, .int (-1), .int 0, .int 0, .int 0, .int 0, .int 0, .ref (bb 21), .ref (bb 22), .int 0, .ref (bb 23), .ref (bb 24), .ref (bb 25), .ref (bb 26), .ref (bb 27), .ref (bb 28), .ref (bb 29), .ref (bb 30), .ref (bb 31), .ref (bb 32), .ref (bb 33), .int 0, .int 0, .ref (bb 34), .ref (bb 35), .ref (bb 36), .ref (bb 37), .ref (bb 38), .int 0, .int 0, .ref (bb 39), .ref (bb 40), .ref (bb 41), .ref (bb 42), .ref (bb 43), .ref (bb 44), .ref (bb 45), .int 0, .int 0, .int 0, .ref (bb 46), .int 0, .int 0])), ((bb 1), .inl ((jj 1), 2, .inl (fun _ => 0))), ((bb 2), .inl ((jj 2), 2, .inl (fun _ => 0))), ((bb 3), .inl ((jj 3), 2, .inl (fun _ => 0))), ((bb 4), .inl ((jj 4), 2, .inl begF)), ((bb 5), .inl ((jj 5), 900, .inl (fun _ => 0)))]) hD hS hA [10, 11, 12, 13, 14, 15] rfl
  refine va_calli (va_runV (As := [.int (xs (1 : Int32).toNatClampNeg), .int (xs (2 : Int32).toNatClampNeg), .int (xs (3 : Int32).toNatClampNeg), .int (xs (4 : Int32).toNatClampNeg), .int (xs (5 : Int32).toNatClampNeg)]) (rest := [.int (-1)]) ⟨hx, hb, hml, hown, hts⟩ (c_X9_from l dC dI _ bb jj (xs (1 : Int32).toNatClampNeg) (xs (2 : Int32).toNatClampNeg) (xs (3 : Int32).toNatClampNeg) (xs (4 : Int32).toNatClampNeg) (xs (5 : Int32).toNatClampNeg)) (cwV 5 hts g_L_X9_from rfl rfl rfl (by decide +kernel) ⟨Nat.le_of_ble_eq_true rfl, Nat.le_of_ble_eq_true rfl⟩) ⟨pu_bl, va_recv hK hP (ci := 9) (q0 := 10) rfl rfl, pu_in (hP.sub [10, 11, 12, 13, 14, 15] rfl) (hK.sub [4, 5, 6, 7, 8] rfl) (hD.sub [10, 11, 12, 13, 14, 15] (by decide) rfl)⟩ rfl rfl hl.1 rfl (lv_room (Nat.le_of_ble_eq_true rfl)) dL_law_1117 ⟨Nat.le_of_ble_eq_true rfl, Nat.le_of_ble_eq_true rfl⟩) hS (fun q _ h => hFc q h) hFc (fun r_12 u t H1 locs ht hvm hw hB hz1 hk1 hS => ?_)
  obtain ⟨hP, hD⟩ := va_join (wr := [((aa 0), .inr (8, [.ref (aa 6), .int 0, .ref (aa 4), .ref (aa 1), .ref (aa 5), .ref (aa 2), .ref (aa 10), .int 0, .ref (aa 11), .ref (aa 12), .int 0, .ref (aa 13), .ref (aa 14), .ref (aa 3), .ref (aa 15), .ref (aa 16)])), ((aa 1), .inr (0, [.int 0, .int 0, .int 0, .int (-1), .ref (aa 20), .ref (aa 21), .ref (aa 22), .ref (aa 23), .ref (aa 7), .ref (aa 24), .ref (aa 25), .ref (aa 26), .ref (aa 27), .ref (aa 28), .ref (aa 29), .ref (aa 30), .ref (aa 31)])), ((aa 2), .inr (2, [.int 0, .ref (aa 60), .ref (aa 61)])), ((aa 3), .inr (3, [.int 0, .int 0, .int 0, .ref (aa 62), .ref (aa 63)])), ((aa 4), .inr (4, [.int 0, .int (-1), .null, .int 0, .int 0, .int 0, .int 0, .int 0, .null, .ref (aa 64), .ref (aa 65), .ref (aa 66)])), ((aa 5), .inr (0, [.int 0, .int 0, .int 0, .int (-1), .ref (aa 8), .ref (aa 41), .ref (aa 42), .ref (aa 43), .ref (aa 9), .ref (aa 44), .ref (aa 45), .ref (aa 46), .ref (aa 47), .ref (aa 48), .ref (aa 49), .ref (aa 50), .ref (aa 51)])), ((aa 6), .inl ((kk 0), 900, .inl (fun _ => 0))), ((aa 7), .inl ((kk 1), 22, .inl (fun _ => 0))), ((aa 8), .inl ((kk 2), 8, .inl (fun _ => 0))), ((aa 9), .inl ((kk 3), 22, .inl (fun _ => 0)))]) (w1 := []) hP hD [10, 11, 12, 13, 14, 15] [0, 1, 2, 3, 4, 5, 6, 7, 8, 9] rfl rfl (by decide) (by decide) hk1 hFc pu_P0 pu_D0
  clear hk1 hz1 ht hvm
  generalize H1 = H at hP hS ⊢
  have hP : va_P (dC, dI) vwCl [((aa 0), .inr (8, [.ref (aa 6), .int 0, .ref (aa 4), .ref (aa 1), .ref (aa 5), .ref (aa 2), .ref (aa 10), .int 0, .ref (aa 11), .ref (aa 12), .int 0, .ref (aa 13), .ref (aa 14), .ref (aa 3), .ref (aa 15), .ref (aa 16)])), ((aa 1), .inr (0, [.int 0, .int 0, .int 0, .int (-1), .ref (aa 20), .ref (aa 21), .ref (aa 22), .ref (aa 23), .ref (aa 7), .ref (aa 24), .ref (aa 25), .ref (aa 26), .ref (aa 27), .ref (aa 28), .ref (aa 29), .ref (aa 30), .ref (aa 31)])), ((aa 2), .inr (2, [.int 0, .ref (aa 60), .ref (aa 61)])), ((aa 3), .inr (3, [.int 0, .int 0, .int 0, .ref (aa 62), .ref (aa 63)])), ((aa 4), .inr (4, [.int 0, .int (-1), .null, .int 0, .int 0, .int 0, .int 0, .int 0, .null, .ref (aa 64), .ref (aa 65), .ref (aa 66)])), ((aa 5), .inr (0, [.int 0, .int 0, .int 0, .int (-1), .ref (aa 8), .ref (aa 41), .ref (aa 42), .ref (aa 43), .ref (aa 9), .ref (aa 44), .ref (aa 45), .ref (aa 46), .ref (aa 47), .ref (aa 48), .ref (aa 49), .ref (aa 50), .ref (aa 51)])), ((aa 6), .inl ((kk 0), 900, .inl (fun _ => 0))), ((aa 7), .inl ((kk 1), 22, .inl (fun _ => 0))), ((aa 8), .inl ((kk 2), 8, .inl (fun _ => 0))), ((aa 9), .inl ((kk 3), 22, .inl (fun _ => 0)))] H := hP
  have hD : va_D A [((aa 0), .inr (8, [.ref (aa 6), .int 0, .ref (aa 4), .ref (aa 1), .ref (aa 5), .ref (aa 2), .ref (aa 10), .int 0, .ref (aa 11), .ref (aa 12), .int 0, .ref (aa 13), .ref (aa 14), .ref (aa 3), .ref (aa 15), .ref (aa 16)])), ((aa 1), .inr (0, [.int 0, .int 0, .int 0, .int (-1), .ref (aa 20), .ref (aa 21), .ref (aa 22), .ref (aa 23), .ref (aa 7), .ref (aa 24), .ref (aa 25), .ref (aa 26), .ref (aa 27), .ref (aa 28), .ref (aa 29), .ref (aa 30), .ref (aa 31)])), ((aa 2), .inr (2, [.int 0, .ref (aa 60), .ref (aa 61)])), ((aa 3), .inr (3, [.int 0, .int 0, .int 0, .ref (aa 62), .ref (aa 63)])), ((aa 4), .inr (4, [.int 0, .int (-1), .null, .int 0, .int 0, .int 0, .int 0, .int 0, .null, .ref (aa 64), .ref (aa 65), .ref (aa 66)])), ((aa 5), .inr (0, [.int 0, .int 0, .int 0, .int (-1), .ref (aa 8), .ref (aa 41), .ref (aa 42), .ref (aa 43), .ref (aa 9), .ref (aa 44), .ref (aa 45), .ref (aa 46), .ref (aa 47), .ref (aa 48), .ref (aa 49), .ref (aa 50), .ref (aa 51)])), ((aa 6), .inl ((kk 0), 900, .inl (fun _ => 0))), ((aa 7), .inl ((kk 1), 22, .inl (fun _ => 0))), ((aa 8), .inl ((kk 2), 8, .inl (fun _ => 0))), ((aa 9), .inl ((kk 3), 22, .inl (fun _ => 0)))] := hD
  obtain rfl : r_12 = (-1) := hw
  refine lv_icmp_eq (tgt := 1725) hx hb dL_law_1120 (by decide) (fun _ => ?_) (fun z => absurd z (by decide))
  exact law_tail l C0 hA hAs hS (lv_sub hl [0, 4] rfl) (Nat.le_of_ble_eq_true rfl) (Nat.le_of_ble_eq_true rfl)
set_option maxHeartbeats 4000000 in
set_option maxRecDepth 100000 in
theorem law_case_25 {p : Program} {e : Env} {s : State} {m : MethodId} {below : List Frame} {meth : Method} {c : Code} (l : Launch) (hlt : l.stackTraces = false) {b : Nat} {xs : Nat → Int32} (C0 : lw_At p s m meth c b 7 xs) {A : Nat → Prop} (hA : ∀ q : Nat, s.heap.size ≤ q → A q) (hAs : ∀ q : Nat, A q → s.heap.size ≤ q) (hY : sy_E A s s.heap) {dC : Nat → ClassId} {dI : Nat → Nat → Nat} (aa bb : Nat → Nat) (kk jj : Nat → ClassId) (qo : Nat) (H : Heap) (locs : List Loc) (hK : va_K (dC, dI) vwCl (tX kk ++ tM jj) s) (hP : va_P (dC, dI) vwCl (wX aa kk ++ wM bb jj) H) (hD : va_D A (wX aa kk ++ wM bb jj)) (hS : va_S A s.heap H locs) (ls : Array Slot) (hl : lv_has ls 7 [(0, .ref b), (1, .ref (aa 0)), (2, .ref (bb 0)), (3, .ref qo), (4, .int 0)]) : W p l e room_1 s m #[Value.ref b] below meth c H locs 1717 133609 (lw_Z below #[Value.ref b] s) (F0 m 1125 ls []) := by
  obtain ⟨hx, hb, hr, hml, hown0, hts0, hX, hbl, hlocks, hgv⟩ := id C0
  have hown : s.vm.findClass RL = some m.cls := hown0
  have hts : ∀ w ∈ vsL, w.before #[Value.ref b] s = true := fun w h => hts0 w (vsL_in w h)
  have hbA : ¬ A b := fun h => absurd (hAs b h) (Nat.not_le.mpr hbl)
  refine lv_aload_n hx hb dL_law_1125 rfl (lv_at hl 1 rfl) ?_
  refine lv_aload_n hx hb dL_law_1126 rfl (lv_at hl 0 rfl) ?_
  refine lv_iload hx hb dL_law_1127 (lv_at hl 4 rfl) ?_
  refine lv_iconst (v := 1) hx hb dL_law_1129 (by decide) ?_
  refine lv_iadd hx hb dL_law_1130 ?_
  refine lv_topi (fun y_1 ey_1 => ?_)
  obtain rfl : y_1 = 1 := ey_1.trans (by decide)
  refine va_sld hx hb hX hbl hbA hS (show ¬ (_ ∨ _) by decide) dL_law_1131 ?_
  refine lv_aload_n hx hb dL_law_1132 rfl (lv_at hl 0 rfl) ?_
  refine lv_iload hx hb dL_law_1133 (lv_at hl 4 rfl) ?_
  refine lv_iconst (v := 2) hx hb dL_law_1135 (by decide) ?_
  refine lv_iadd hx hb dL_law_1136 ?_
  refine lv_topi (fun y_2 ey_2 => ?_)
  obtain rfl : y_2 = 2 := ey_2.trans (by decide)
  refine va_sld hx hb hX hbl hbA hS (show ¬ (_ ∨ _) by decide) dL_law_1137 ?_
  refine va_calli (va_runV (As := [.int (xs (1 : Int32).toNatClampNeg), .int (xs (2 : Int32).toNatClampNeg)]) (rest := []) ⟨hx, hb, hml, hown, hts⟩ (c_X8_avoids l dC dI _ aa kk (xs (1 : Int32).toNatClampNeg) (xs (2 : Int32).toNatClampNeg)) (cwV 2 hts g_L_X8_avoids rfl rfl rfl (by decide +kernel) ⟨Nat.le_of_ble_eq_true rfl, Nat.le_of_ble_eq_true rfl⟩) ⟨pu_bl, va_recv hK hP (ci := 8) (q0 := 0) rfl rfl, pu_in (hP.sub [0, 1, 2, 3, 4, 5, 6, 7, 8, 9] rfl) (hK.sub [0, 1, 2, 3] rfl) (hD.sub [0, 1, 2, 3, 4, 5, 6, 7, 8, 9] (by decide) rfl)⟩ rfl rfl hl.1 rfl (lv_room (Nat.le_of_ble_eq_true rfl)) dL_law_1138 ⟨Nat.le_of_ble_eq_true rfl, Nat.le_of_ble_eq_true rfl⟩) hS (fun q _ h => pu_fr hS hA q h) (pu_fr hS hA) (fun r_3 u t H1 locs ht hvm hw hB hz1 hk1 hS => ?_)
  have hP := pu_keep hP hk1
  clear hk1 hz1 ht hvm
  generalize H1 = H at hP hS ⊢
  obtain rfl : r_3 = (-1) := hw
  refine lv_aload_n hx hb dL_law_1141 rfl (lv_at hl 2 rfl) ?_
  refine lv_aload_n hx hb dL_law_1142 rfl (lv_at hl 0 rfl) ?_
  refine lv_iload hx hb dL_law_1143 (lv_at hl 4 rfl) ?_
  refine lv_iconst (v := 1) hx hb dL_law_1145 (by decide) ?_
  refine lv_iadd hx hb dL_law_1146 ?_
  refine lv_topi (fun y_4 ey_4 => ?_)
  obtain rfl : y_4 = 1 := ey_4.trans (by decide)
  refine va_sld hx hb hX hbl hbA hS (show ¬ (_ ∨ _) by decide) dL_law_1147 ?_
  refine lv_aload_n hx hb dL_law_1148 rfl (lv_at hl 0 rfl) ?_
  refine lv_iload hx hb dL_law_1149 (lv_at hl 4 rfl) ?_
  refine lv_iconst (v := 2) hx hb dL_law_1151 (by decide) ?_
  refine lv_iadd hx hb dL_law_1152 ?_
  refine lv_topi (fun y_5 ey_5 => ?_)
  obtain rfl : y_5 = 2 := ey_5.trans (by decide)
  refine va_sld hx hb hX hbl hbA hS (show ¬ (_ ∨ _) by decide) dL_law_1153 ?_
  have hFc := va_free (wc := [((bb 0), .inr (9, [.int 0, .ref (bb 10), .ref (bb 11), .ref (bb 12), .ref (bb 13), .ref (bb 14), .ref (bb 15), .ref (bb 16), .ref (bb 17), .ref (bb 18), .ref (bb 19), .ref (bb 20), .ref (bb 1), .ref (bb 2), .ref (bb 3), .ref (bb 4), .int 0, .ref (bb 5), .int 0, .int 0, .int 0, .int 0, .int 0, .int 0, .int 0, .int (-1), .int 0, .int 0, .int 0, .int 0, .int 0, .ref (bb 21), .ref (bb 22), .int 0, .ref (bb 23), .ref (bb 24), .ref (bb 25), .ref (bb 26), .ref (bb 27), .ref (bb 28), .ref (bb 29), .ref (bb 30), .ref (bb 31), .ref (bb 32), .ref (bb 33), .int 0, .int 0, .ref (bb 34), .ref (bb 35), .ref (bb 36), .ref (bb 37), .ref (bb 38), .int 0, .int 0, .ref (bb 39), .ref (bb 40), .ref (bb 41), .ref (bb 42), .ref (bb 43), .ref (bb 44), .ref (bb 45), .int 0, .int 0, .int 0, .ref (bb 46), .int 0, .int 0])), ((bb 1), .inl ((jj 1), 2, .inl (fun _ => 0))), ((bb 2), .inl ((jj 2), 2, .inl (fun _ => 0))), ((bb 3), .inl ((jj 3), 2, .inl (fun _ => 0))), ((bb 4), .inl ((jj 4), 2, .inl begF)), ((bb 5), .inl ((jj 5), 900, .inl (fun _ => 0)))]) hD hS hA [10, 11, 12, 13, 14, 15] rfl
  refine va_calli (va_runV (As := [.int (xs (1 : Int32).toNatClampNeg), .int (xs (2 : Int32).toNatClampNeg)]) (rest := [.int (-1)]) ⟨hx, hb, hml, hown, hts⟩ (c_X9_avoids l dC dI _ bb jj (xs (1 : Int32).toNatClampNeg) (xs (2 : Int32).toNatClampNeg)) (cwV 2 hts g_L_X9_avoids rfl rfl rfl (by decide +kernel) ⟨Nat.le_of_ble_eq_true rfl, Nat.le_of_ble_eq_true rfl⟩) ⟨pu_bl, va_recv hK hP (ci := 9) (q0 := 10) rfl rfl, pu_in (hP.sub [10, 11, 12, 13, 14, 15] rfl) (hK.sub [4, 5, 6, 7, 8] rfl) (hD.sub [10, 11, 12, 13, 14, 15] (by decide) rfl)⟩ rfl rfl hl.1 rfl (lv_room (Nat.le_of_ble_eq_true rfl)) dL_law_1154 ⟨Nat.le_of_ble_eq_true rfl, Nat.le_of_ble_eq_true rfl⟩) hS (fun q _ h => hFc q h) hFc (fun r_6 u t H1 locs ht hvm hw hB hz1 hk1 hS => ?_)
  obtain ⟨hP, hD⟩ := va_join (wr := [((aa 0), .inr (8, [.ref (aa 6), .int 0, .ref (aa 4), .ref (aa 1), .ref (aa 5), .ref (aa 2), .ref (aa 10), .int 0, .ref (aa 11), .ref (aa 12), .int 0, .ref (aa 13), .ref (aa 14), .ref (aa 3), .ref (aa 15), .ref (aa 16)])), ((aa 1), .inr (0, [.int 0, .int 0, .int 0, .int (-1), .ref (aa 20), .ref (aa 21), .ref (aa 22), .ref (aa 23), .ref (aa 7), .ref (aa 24), .ref (aa 25), .ref (aa 26), .ref (aa 27), .ref (aa 28), .ref (aa 29), .ref (aa 30), .ref (aa 31)])), ((aa 2), .inr (2, [.int 0, .ref (aa 60), .ref (aa 61)])), ((aa 3), .inr (3, [.int 0, .int 0, .int 0, .ref (aa 62), .ref (aa 63)])), ((aa 4), .inr (4, [.int 0, .int (-1), .null, .int 0, .int 0, .int 0, .int 0, .int 0, .null, .ref (aa 64), .ref (aa 65), .ref (aa 66)])), ((aa 5), .inr (0, [.int 0, .int 0, .int 0, .int (-1), .ref (aa 8), .ref (aa 41), .ref (aa 42), .ref (aa 43), .ref (aa 9), .ref (aa 44), .ref (aa 45), .ref (aa 46), .ref (aa 47), .ref (aa 48), .ref (aa 49), .ref (aa 50), .ref (aa 51)])), ((aa 6), .inl ((kk 0), 900, .inl (fun _ => 0))), ((aa 7), .inl ((kk 1), 22, .inl (fun _ => 0))), ((aa 8), .inl ((kk 2), 8, .inl (fun _ => 0))), ((aa 9), .inl ((kk 3), 22, .inl (fun _ => 0)))]) (w1 := []) hP hD [10, 11, 12, 13, 14, 15] [0, 1, 2, 3, 4, 5, 6, 7, 8, 9] rfl rfl (by decide) (by decide) hk1 hFc pu_P0 pu_D0
  clear hk1 hz1 ht hvm
  generalize H1 = H at hP hS ⊢
  have hP : va_P (dC, dI) vwCl [((aa 0), .inr (8, [.ref (aa 6), .int 0, .ref (aa 4), .ref (aa 1), .ref (aa 5), .ref (aa 2), .ref (aa 10), .int 0, .ref (aa 11), .ref (aa 12), .int 0, .ref (aa 13), .ref (aa 14), .ref (aa 3), .ref (aa 15), .ref (aa 16)])), ((aa 1), .inr (0, [.int 0, .int 0, .int 0, .int (-1), .ref (aa 20), .ref (aa 21), .ref (aa 22), .ref (aa 23), .ref (aa 7), .ref (aa 24), .ref (aa 25), .ref (aa 26), .ref (aa 27), .ref (aa 28), .ref (aa 29), .ref (aa 30), .ref (aa 31)])), ((aa 2), .inr (2, [.int 0, .ref (aa 60), .ref (aa 61)])), ((aa 3), .inr (3, [.int 0, .int 0, .int 0, .ref (aa 62), .ref (aa 63)])), ((aa 4), .inr (4, [.int 0, .int (-1), .null, .int 0, .int 0, .int 0, .int 0, .int 0, .null, .ref (aa 64), .ref (aa 65), .ref (aa 66)])), ((aa 5), .inr (0, [.int 0, .int 0, .int 0, .int (-1), .ref (aa 8), .ref (aa 41), .ref (aa 42), .ref (aa 43), .ref (aa 9), .ref (aa 44), .ref (aa 45), .ref (aa 46), .ref (aa 47), .ref (aa 48), .ref (aa 49), .ref (aa 50), .ref (aa 51)])), ((aa 6), .inl ((kk 0), 900, .inl (fun _ => 0))), ((aa 7), .inl ((kk 1), 22, .inl (fun _ => 0))), ((aa 8), .inl ((kk 2), 8, .inl (fun _ => 0))), ((aa 9), .inl ((kk 3), 22, .inl (fun _ => 0)))] H := hP
  have hD : va_D A [((aa 0), .inr (8, [.ref (aa 6), .int 0, .ref (aa 4), .ref (aa 1), .ref (aa 5), .ref (aa 2), .ref (aa 10), .int 0, .ref (aa 11), .ref (aa 12), .int 0, .ref (aa 13), .ref (aa 14), .ref (aa 3), .ref (aa 15), .ref (aa 16)])), ((aa 1), .inr (0, [.int 0, .int 0, .int 0, .int (-1), .ref (aa 20), .ref (aa 21), .ref (aa 22), .ref (aa 23), .ref (aa 7), .ref (aa 24), .ref (aa 25), .ref (aa 26), .ref (aa 27), .ref (aa 28), .ref (aa 29), .ref (aa 30), .ref (aa 31)])), ((aa 2), .inr (2, [.int 0, .ref (aa 60), .ref (aa 61)])), ((aa 3), .inr (3, [.int 0, .int 0, .int 0, .ref (aa 62), .ref (aa 63)])), ((aa 4), .inr (4, [.int 0, .int (-1), .null, .int 0, .int 0, .int 0, .int 0, .int 0, .null, .ref (aa 64), .ref (aa 65), .ref (aa 66)])), ((aa 5), .inr (0, [.int 0, .int 0, .int 0, .int (-1), .ref (aa 8), .ref (aa 41), .ref (aa 42), .ref (aa 43), .ref (aa 9), .ref (aa 44), .ref (aa 45), .ref (aa 46), .ref (aa 47), .ref (aa 48), .ref (aa 49), .ref (aa 50), .ref (aa 51)])), ((aa 6), .inl ((kk 0), 900, .inl (fun _ => 0))), ((aa 7), .inl ((kk 1), 22, .inl (fun _ => 0))), ((aa 8), .inl ((kk 2), 8, .inl (fun _ => 0))), ((aa 9), .inl ((kk 3), 22, .inl (fun _ => 0)))] := hD
  obtain rfl : r_6 = (-1) := hw
  refine lv_icmp_eq (tgt := 1725) hx hb dL_law_1157 (by decide) (fun _ => ?_) (fun z => absurd z (by decide))
  exact law_tail l C0 hA hAs hS (lv_sub hl [0, 4] rfl) (Nat.le_of_ble_eq_true rfl) (Nat.le_of_ble_eq_true rfl)
set_option maxHeartbeats 4000000 in
set_option maxRecDepth 100000 in
theorem law_case_26 {p : Program} {e : Env} {s : State} {m : MethodId} {below : List Frame} {meth : Method} {c : Code} (l : Launch) (hlt : l.stackTraces = false) {b : Nat} {xs : Nat → Int32} (C0 : lw_At p s m meth c b 7 xs) {A : Nat → Prop} (hA : ∀ q : Nat, s.heap.size ≤ q → A q) (hAs : ∀ q : Nat, A q → s.heap.size ≤ q) (hY : sy_E A s s.heap) {dC : Nat → ClassId} {dI : Nat → Nat → Nat} (aa bb : Nat → Nat) (kk jj : Nat → ClassId) (qo : Nat) (H : Heap) (locs : List Loc) (hK : va_K (dC, dI) vwCl (tX kk ++ tM jj) s) (hP : va_P (dC, dI) vwCl (wX aa kk ++ wM bb jj) H) (hD : va_D A (wX aa kk ++ wM bb jj)) (hS : va_S A s.heap H locs) (ls : Array Slot) (hl : lv_has ls 7 [(0, .ref b), (1, .ref (aa 0)), (2, .ref (bb 0)), (3, .ref qo), (4, .int 0)]) : W p l e room_1 s m #[Value.ref b] below meth c H locs 1717 133609 (lw_Z below #[Value.ref b] s) (F0 m 1162 ls []) := by
  obtain ⟨hx, hb, hr, hml, hown0, hts0, hX, hbl, hlocks, hgv⟩ := id C0
  have hown : s.vm.findClass RL = some m.cls := hown0
  have hts : ∀ w ∈ vsL, w.before #[Value.ref b] s = true := fun w h => hts0 w (vsL_in w h)
  have hbA : ¬ A b := fun h => absurd (hAs b h) (Nat.not_le.mpr hbl)
  refine lv_aload_n hx hb dL_law_1162 rfl (lv_at hl 1 rfl) ?_
  refine lv_aload_n hx hb dL_law_1163 rfl (lv_at hl 0 rfl) ?_
  refine lv_iload hx hb dL_law_1164 (lv_at hl 4 rfl) ?_
  refine lv_iconst (v := 1) hx hb dL_law_1166 (by decide) ?_
  refine lv_iadd hx hb dL_law_1167 ?_
  refine lv_topi (fun y_1 ey_1 => ?_)
  obtain rfl : y_1 = 1 := ey_1.trans (by decide)
  refine va_sld hx hb hX hbl hbA hS (show ¬ (_ ∨ _) by decide) dL_law_1168 ?_
  refine lv_aload_n hx hb dL_law_1169 rfl (lv_at hl 0 rfl) ?_
  refine lv_iload hx hb dL_law_1170 (lv_at hl 4 rfl) ?_
  refine lv_iconst (v := 2) hx hb dL_law_1172 (by decide) ?_
  refine lv_iadd hx hb dL_law_1173 ?_
  refine lv_topi (fun y_2 ey_2 => ?_)
  obtain rfl : y_2 = 2 := ey_2.trans (by decide)
  refine va_sld hx hb hX hbl hbA hS (show ¬ (_ ∨ _) by decide) dL_law_1174 ?_
  refine va_calli (va_runV (As := [.int (xs (1 : Int32).toNatClampNeg), .int (xs (2 : Int32).toNatClampNeg)]) (rest := []) ⟨hx, hb, hml, hown, hts⟩ (c_X8_run l dC dI _ aa kk (xs (1 : Int32).toNatClampNeg) (xs (2 : Int32).toNatClampNeg)) (cwV 2 hts g_L_X8_run rfl rfl rfl (by decide +kernel) ⟨Nat.le_of_ble_eq_true rfl, Nat.le_of_ble_eq_true rfl⟩) ⟨pu_bl, va_recv hK hP (ci := 8) (q0 := 0) rfl rfl, pu_in (hP.sub [0, 1, 2, 3, 4, 5, 6, 7, 8, 9] rfl) (hK.sub [0, 1, 2, 3] rfl) (hD.sub [0, 1, 2, 3, 4, 5, 6, 7, 8, 9] (by decide) rfl)⟩ rfl rfl hl.1 rfl (lv_room (Nat.le_of_ble_eq_true rfl)) dL_law_1175 ⟨Nat.le_of_ble_eq_true rfl, Nat.le_of_ble_eq_true rfl⟩) hS (fun q _ h => pu_fr hS hA q h) (pu_fr hS hA) (fun r_3 u t H1 locs ht hvm hw hB hz1 hk1 hS => ?_)
  have hP := pu_keep hP hk1
  clear hk1 hz1 ht hvm
  generalize H1 = H at hP hS ⊢
  obtain rfl : r_3 = (-1) := hw
  refine lv_aload_n hx hb dL_law_1178 rfl (lv_at hl 2 rfl) ?_
  refine lv_aload_n hx hb dL_law_1179 rfl (lv_at hl 0 rfl) ?_
  refine lv_iload hx hb dL_law_1180 (lv_at hl 4 rfl) ?_
  refine lv_iconst (v := 1) hx hb dL_law_1182 (by decide) ?_
  refine lv_iadd hx hb dL_law_1183 ?_
  refine lv_topi (fun y_4 ey_4 => ?_)
  obtain rfl : y_4 = 1 := ey_4.trans (by decide)
  refine va_sld hx hb hX hbl hbA hS (show ¬ (_ ∨ _) by decide) dL_law_1184 ?_
  refine lv_aload_n hx hb dL_law_1185 rfl (lv_at hl 0 rfl) ?_
  refine lv_iload hx hb dL_law_1186 (lv_at hl 4 rfl) ?_
  refine lv_iconst (v := 2) hx hb dL_law_1188 (by decide) ?_
  refine lv_iadd hx hb dL_law_1189 ?_
  refine lv_topi (fun y_5 ey_5 => ?_)
  obtain rfl : y_5 = 2 := ey_5.trans (by decide)
  refine va_sld hx hb hX hbl hbA hS (show ¬ (_ ∨ _) by decide) dL_law_1190 ?_
  have hFc := va_free (wc := [((bb 0), .inr (9, [.int 0, .ref (bb 10), .ref (bb 11), .ref (bb 12), .ref (bb 13), .ref (bb 14), .ref (bb 15), .ref (bb 16), .ref (bb 17), .ref (bb 18), .ref (bb 19), .ref (bb 20), .ref (bb 1), .ref (bb 2), .ref (bb 3), .ref (bb 4), .int 0, .ref (bb 5), .int 0, .int 0, .int 0, .int 0, .int 0, .int 0, .int 0, .int (-1), .int 0, .int 0, .int 0, .int 0, .int 0, .ref (bb 21), .ref (bb 22), .int 0, .ref (bb 23), .ref (bb 24), .ref (bb 25), .ref (bb 26), .ref (bb 27), .ref (bb 28), .ref (bb 29), .ref (bb 30), .ref (bb 31), .ref (bb 32), .ref (bb 33), .int 0, .int 0, .ref (bb 34), .ref (bb 35), .ref (bb 36), .ref (bb 37), .ref (bb 38), .int 0, .int 0, .ref (bb 39), .ref (bb 40), .ref (bb 41), .ref (bb 42), .ref (bb 43), .ref (bb 44), .ref (bb 45), .int 0, .int 0, .int 0, .ref (bb 46), .int 0, .int 0])), ((bb 1), .inl ((jj 1), 2, .inl (fun _ => 0))), ((bb 2), .inl ((jj 2), 2, .inl (fun _ => 0))), ((bb 3), .inl ((jj 3), 2, .inl (fun _ => 0))), ((bb 4), .inl ((jj 4), 2, .inl begF)), ((bb 5), .inl ((jj 5), 900, .inl (fun _ => 0)))]) hD hS hA [10, 11, 12, 13, 14, 15] rfl
  refine va_calli (va_runV (As := [.int (xs (1 : Int32).toNatClampNeg), .int (xs (2 : Int32).toNatClampNeg)]) (rest := [.int (-1)]) ⟨hx, hb, hml, hown, hts⟩ (c_X9_run l dC dI _ bb jj (xs (1 : Int32).toNatClampNeg) (xs (2 : Int32).toNatClampNeg)) (cwV 2 hts g_L_X9_run rfl rfl rfl (by decide +kernel) ⟨Nat.le_of_ble_eq_true rfl, Nat.le_of_ble_eq_true rfl⟩) ⟨pu_bl, va_recv hK hP (ci := 9) (q0 := 10) rfl rfl, pu_in (hP.sub [10, 11, 12, 13, 14, 15] rfl) (hK.sub [4, 5, 6, 7, 8] rfl) (hD.sub [10, 11, 12, 13, 14, 15] (by decide) rfl)⟩ rfl rfl hl.1 rfl (lv_room (Nat.le_of_ble_eq_true rfl)) dL_law_1191 ⟨Nat.le_of_ble_eq_true rfl, Nat.le_of_ble_eq_true rfl⟩) hS (fun q _ h => hFc q h) hFc (fun r_6 u t H1 locs ht hvm hw hB hz1 hk1 hS => ?_)
  obtain ⟨hP, hD⟩ := va_join (wr := [((aa 0), .inr (8, [.ref (aa 6), .int 0, .ref (aa 4), .ref (aa 1), .ref (aa 5), .ref (aa 2), .ref (aa 10), .int 0, .ref (aa 11), .ref (aa 12), .int 0, .ref (aa 13), .ref (aa 14), .ref (aa 3), .ref (aa 15), .ref (aa 16)])), ((aa 1), .inr (0, [.int 0, .int 0, .int 0, .int (-1), .ref (aa 20), .ref (aa 21), .ref (aa 22), .ref (aa 23), .ref (aa 7), .ref (aa 24), .ref (aa 25), .ref (aa 26), .ref (aa 27), .ref (aa 28), .ref (aa 29), .ref (aa 30), .ref (aa 31)])), ((aa 2), .inr (2, [.int 0, .ref (aa 60), .ref (aa 61)])), ((aa 3), .inr (3, [.int 0, .int 0, .int 0, .ref (aa 62), .ref (aa 63)])), ((aa 4), .inr (4, [.int 0, .int (-1), .null, .int 0, .int 0, .int 0, .int 0, .int 0, .null, .ref (aa 64), .ref (aa 65), .ref (aa 66)])), ((aa 5), .inr (0, [.int 0, .int 0, .int 0, .int (-1), .ref (aa 8), .ref (aa 41), .ref (aa 42), .ref (aa 43), .ref (aa 9), .ref (aa 44), .ref (aa 45), .ref (aa 46), .ref (aa 47), .ref (aa 48), .ref (aa 49), .ref (aa 50), .ref (aa 51)])), ((aa 6), .inl ((kk 0), 900, .inl (fun _ => 0))), ((aa 7), .inl ((kk 1), 22, .inl (fun _ => 0))), ((aa 8), .inl ((kk 2), 8, .inl (fun _ => 0))), ((aa 9), .inl ((kk 3), 22, .inl (fun _ => 0)))]) (w1 := []) hP hD [10, 11, 12, 13, 14, 15] [0, 1, 2, 3, 4, 5, 6, 7, 8, 9] rfl rfl (by decide) (by decide) hk1 hFc pu_P0 pu_D0
  clear hk1 hz1 ht hvm
  generalize H1 = H at hP hS ⊢
  have hP : va_P (dC, dI) vwCl [((aa 0), .inr (8, [.ref (aa 6), .int 0, .ref (aa 4), .ref (aa 1), .ref (aa 5), .ref (aa 2), .ref (aa 10), .int 0, .ref (aa 11), .ref (aa 12), .int 0, .ref (aa 13), .ref (aa 14), .ref (aa 3), .ref (aa 15), .ref (aa 16)])), ((aa 1), .inr (0, [.int 0, .int 0, .int 0, .int (-1), .ref (aa 20), .ref (aa 21), .ref (aa 22), .ref (aa 23), .ref (aa 7), .ref (aa 24), .ref (aa 25), .ref (aa 26), .ref (aa 27), .ref (aa 28), .ref (aa 29), .ref (aa 30), .ref (aa 31)])), ((aa 2), .inr (2, [.int 0, .ref (aa 60), .ref (aa 61)])), ((aa 3), .inr (3, [.int 0, .int 0, .int 0, .ref (aa 62), .ref (aa 63)])), ((aa 4), .inr (4, [.int 0, .int (-1), .null, .int 0, .int 0, .int 0, .int 0, .int 0, .null, .ref (aa 64), .ref (aa 65), .ref (aa 66)])), ((aa 5), .inr (0, [.int 0, .int 0, .int 0, .int (-1), .ref (aa 8), .ref (aa 41), .ref (aa 42), .ref (aa 43), .ref (aa 9), .ref (aa 44), .ref (aa 45), .ref (aa 46), .ref (aa 47), .ref (aa 48), .ref (aa 49), .ref (aa 50), .ref (aa 51)])), ((aa 6), .inl ((kk 0), 900, .inl (fun _ => 0))), ((aa 7), .inl ((kk 1), 22, .inl (fun _ => 0))), ((aa 8), .inl ((kk 2), 8, .inl (fun _ => 0))), ((aa 9), .inl ((kk 3), 22, .inl (fun _ => 0)))] H := hP
  have hD : va_D A [((aa 0), .inr (8, [.ref (aa 6), .int 0, .ref (aa 4), .ref (aa 1), .ref (aa 5), .ref (aa 2), .ref (aa 10), .int 0, .ref (aa 11), .ref (aa 12), .int 0, .ref (aa 13), .ref (aa 14), .ref (aa 3), .ref (aa 15), .ref (aa 16)])), ((aa 1), .inr (0, [.int 0, .int 0, .int 0, .int (-1), .ref (aa 20), .ref (aa 21), .ref (aa 22), .ref (aa 23), .ref (aa 7), .ref (aa 24), .ref (aa 25), .ref (aa 26), .ref (aa 27), .ref (aa 28), .ref (aa 29), .ref (aa 30), .ref (aa 31)])), ((aa 2), .inr (2, [.int 0, .ref (aa 60), .ref (aa 61)])), ((aa 3), .inr (3, [.int 0, .int 0, .int 0, .ref (aa 62), .ref (aa 63)])), ((aa 4), .inr (4, [.int 0, .int (-1), .null, .int 0, .int 0, .int 0, .int 0, .int 0, .null, .ref (aa 64), .ref (aa 65), .ref (aa 66)])), ((aa 5), .inr (0, [.int 0, .int 0, .int 0, .int (-1), .ref (aa 8), .ref (aa 41), .ref (aa 42), .ref (aa 43), .ref (aa 9), .ref (aa 44), .ref (aa 45), .ref (aa 46), .ref (aa 47), .ref (aa 48), .ref (aa 49), .ref (aa 50), .ref (aa 51)])), ((aa 6), .inl ((kk 0), 900, .inl (fun _ => 0))), ((aa 7), .inl ((kk 1), 22, .inl (fun _ => 0))), ((aa 8), .inl ((kk 2), 8, .inl (fun _ => 0))), ((aa 9), .inl ((kk 3), 22, .inl (fun _ => 0)))] := hD
  obtain rfl : r_6 = (-1) := hw
  refine lv_icmp_eq (tgt := 1725) hx hb dL_law_1194 (by decide) (fun _ => ?_) (fun z => absurd z (by decide))
  exact law_tail l C0 hA hAs hS (lv_sub hl [0, 4] rfl) (Nat.le_of_ble_eq_true rfl) (Nat.le_of_ble_eq_true rfl)
set_option maxHeartbeats 4000000 in
set_option maxRecDepth 100000 in
theorem law_case_27 {p : Program} {e : Env} {s : State} {m : MethodId} {below : List Frame} {meth : Method} {c : Code} (l : Launch) (hlt : l.stackTraces = false) {b : Nat} {xs : Nat → Int32} (C0 : lw_At p s m meth c b 7 xs) {A : Nat → Prop} (hA : ∀ q : Nat, s.heap.size ≤ q → A q) (hAs : ∀ q : Nat, A q → s.heap.size ≤ q) (hY : sy_E A s s.heap) {dC : Nat → ClassId} {dI : Nat → Nat → Nat} (aa bb : Nat → Nat) (kk jj : Nat → ClassId) (qo : Nat) (H : Heap) (locs : List Loc) (hK : va_K (dC, dI) vwCl (tX kk ++ tM jj) s) (hP : va_P (dC, dI) vwCl (wX aa kk ++ wM bb jj) H) (hD : va_D A (wX aa kk ++ wM bb jj)) (hS : va_S A s.heap H locs) (ls : Array Slot) (hl : lv_has ls 7 [(0, .ref b), (1, .ref (aa 0)), (2, .ref (bb 0)), (3, .ref qo), (4, .int 0)]) : W p l e room_1 s m #[Value.ref b] below meth c H locs 1717 133609 (lw_Z below #[Value.ref b] s) (F0 m 1199 ls []) := by
  obtain ⟨hx, hb, hr, hml, hown0, hts0, hX, hbl, hlocks, hgv⟩ := id C0
  have hown : s.vm.findClass RL = some m.cls := hown0
  have hts : ∀ w ∈ vsL, w.before #[Value.ref b] s = true := fun w h => hts0 w (vsL_in w h)
  have hbA : ¬ A b := fun h => absurd (hAs b h) (Nat.not_le.mpr hbl)
  refine lv_aload_n hx hb dL_law_1199 rfl (lv_at hl 1 rfl) ?_
  refine lv_aload_n hx hb dL_law_1200 rfl (lv_at hl 0 rfl) ?_
  refine lv_iload hx hb dL_law_1201 (lv_at hl 4 rfl) ?_
  refine lv_iconst (v := 1) hx hb dL_law_1203 (by decide) ?_
  refine lv_iadd hx hb dL_law_1204 ?_
  refine lv_topi (fun y_1 ey_1 => ?_)
  obtain rfl : y_1 = 1 := ey_1.trans (by decide)
  refine va_sld hx hb hX hbl hbA hS (show ¬ (_ ∨ _) by decide) dL_law_1205 ?_
  refine lv_aload_n hx hb dL_law_1206 rfl (lv_at hl 0 rfl) ?_
  refine lv_iload hx hb dL_law_1207 (lv_at hl 4 rfl) ?_
  refine lv_iconst (v := 2) hx hb dL_law_1209 (by decide) ?_
  refine lv_iadd hx hb dL_law_1210 ?_
  refine lv_topi (fun y_2 ey_2 => ?_)
  obtain rfl : y_2 = 2 := ey_2.trans (by decide)
  refine va_sld hx hb hX hbl hbA hS (show ¬ (_ ∨ _) by decide) dL_law_1211 ?_
  refine va_calli (va_runV (As := [.int (xs (1 : Int32).toNatClampNeg), .int (xs (2 : Int32).toNatClampNeg)]) (rest := []) ⟨hx, hb, hml, hown, hts⟩ (c_X8_when l dC dI _ aa kk (xs (1 : Int32).toNatClampNeg) (xs (2 : Int32).toNatClampNeg)) (cwV 2 hts g_L_X8_when rfl rfl rfl (by decide +kernel) ⟨Nat.le_of_ble_eq_true rfl, Nat.le_of_ble_eq_true rfl⟩) ⟨pu_bl, va_recv hK hP (ci := 8) (q0 := 0) rfl rfl, pu_in (hP.sub [0, 1, 2, 3, 4, 5, 6, 7, 8, 9] rfl) (hK.sub [0, 1, 2, 3] rfl) (hD.sub [0, 1, 2, 3, 4, 5, 6, 7, 8, 9] (by decide) rfl)⟩ rfl rfl hl.1 rfl (lv_room (Nat.le_of_ble_eq_true rfl)) dL_law_1212 ⟨Nat.le_of_ble_eq_true rfl, Nat.le_of_ble_eq_true rfl⟩) hS (fun q _ h => pu_fr hS hA q h) (pu_fr hS hA) (fun r_3 u t H1 locs ht hvm hw hB hz1 hk1 hS => ?_)
  have hP := pu_keep hP hk1
  clear hk1 hz1 ht hvm
  generalize H1 = H at hP hS ⊢
  obtain rfl : r_3 = (-1) := hw
  refine lv_aload_n hx hb dL_law_1215 rfl (lv_at hl 2 rfl) ?_
  refine lv_aload_n hx hb dL_law_1216 rfl (lv_at hl 0 rfl) ?_
  refine lv_iload hx hb dL_law_1217 (lv_at hl 4 rfl) ?_
  refine lv_iconst (v := 1) hx hb dL_law_1219 (by decide) ?_
  refine lv_iadd hx hb dL_law_1220 ?_
  refine lv_topi (fun y_4 ey_4 => ?_)
  obtain rfl : y_4 = 1 := ey_4.trans (by decide)
  refine va_sld hx hb hX hbl hbA hS (show ¬ (_ ∨ _) by decide) dL_law_1221 ?_
  refine lv_aload_n hx hb dL_law_1222 rfl (lv_at hl 0 rfl) ?_
  refine lv_iload hx hb dL_law_1223 (lv_at hl 4 rfl) ?_
  refine lv_iconst (v := 2) hx hb dL_law_1225 (by decide) ?_
  refine lv_iadd hx hb dL_law_1226 ?_
  refine lv_topi (fun y_5 ey_5 => ?_)
  obtain rfl : y_5 = 2 := ey_5.trans (by decide)
  refine va_sld hx hb hX hbl hbA hS (show ¬ (_ ∨ _) by decide) dL_law_1227 ?_
  have hFc := va_free (wc := [((bb 0), .inr (9, [.int 0, .ref (bb 10), .ref (bb 11), .ref (bb 12), .ref (bb 13), .ref (bb 14), .ref (bb 15), .ref (bb 16), .ref (bb 17), .ref (bb 18), .ref (bb 19), .ref (bb 20), .ref (bb 1), .ref (bb 2), .ref (bb 3), .ref (bb 4), .int 0, .ref (bb 5), .int 0, .int 0, .int 0, .int 0, .int 0, .int 0, .int 0, .int (-1), .int 0, .int 0, .int 0, .int 0, .int 0, .ref (bb 21), .ref (bb 22), .int 0, .ref (bb 23), .ref (bb 24), .ref (bb 25), .ref (bb 26), .ref (bb 27), .ref (bb 28), .ref (bb 29), .ref (bb 30), .ref (bb 31), .ref (bb 32), .ref (bb 33), .int 0, .int 0, .ref (bb 34), .ref (bb 35), .ref (bb 36), .ref (bb 37), .ref (bb 38), .int 0, .int 0, .ref (bb 39), .ref (bb 40), .ref (bb 41), .ref (bb 42), .ref (bb 43), .ref (bb 44), .ref (bb 45), .int 0, .int 0, .int 0, .ref (bb 46), .int 0, .int 0])), ((bb 1), .inl ((jj 1), 2, .inl (fun _ => 0))), ((bb 2), .inl ((jj 2), 2, .inl (fun _ => 0))), ((bb 3), .inl ((jj 3), 2, .inl (fun _ => 0))), ((bb 4), .inl ((jj 4), 2, .inl begF)), ((bb 5), .inl ((jj 5), 900, .inl (fun _ => 0)))]) hD hS hA [10, 11, 12, 13, 14, 15] rfl
  refine va_calli (va_runV (As := [.int (xs (1 : Int32).toNatClampNeg), .int (xs (2 : Int32).toNatClampNeg)]) (rest := [.int (-1)]) ⟨hx, hb, hml, hown, hts⟩ (c_X9_when l dC dI _ bb jj (xs (1 : Int32).toNatClampNeg) (xs (2 : Int32).toNatClampNeg)) (cwV 2 hts g_L_X9_when rfl rfl rfl (by decide +kernel) ⟨Nat.le_of_ble_eq_true rfl, Nat.le_of_ble_eq_true rfl⟩) ⟨pu_bl, va_recv hK hP (ci := 9) (q0 := 10) rfl rfl, pu_in (hP.sub [10, 11, 12, 13, 14, 15] rfl) (hK.sub [4, 5, 6, 7, 8] rfl) (hD.sub [10, 11, 12, 13, 14, 15] (by decide) rfl)⟩ rfl rfl hl.1 rfl (lv_room (Nat.le_of_ble_eq_true rfl)) dL_law_1228 ⟨Nat.le_of_ble_eq_true rfl, Nat.le_of_ble_eq_true rfl⟩) hS (fun q _ h => hFc q h) hFc (fun r_6 u t H1 locs ht hvm hw hB hz1 hk1 hS => ?_)
  obtain ⟨hP, hD⟩ := va_join (wr := [((aa 0), .inr (8, [.ref (aa 6), .int 0, .ref (aa 4), .ref (aa 1), .ref (aa 5), .ref (aa 2), .ref (aa 10), .int 0, .ref (aa 11), .ref (aa 12), .int 0, .ref (aa 13), .ref (aa 14), .ref (aa 3), .ref (aa 15), .ref (aa 16)])), ((aa 1), .inr (0, [.int 0, .int 0, .int 0, .int (-1), .ref (aa 20), .ref (aa 21), .ref (aa 22), .ref (aa 23), .ref (aa 7), .ref (aa 24), .ref (aa 25), .ref (aa 26), .ref (aa 27), .ref (aa 28), .ref (aa 29), .ref (aa 30), .ref (aa 31)])), ((aa 2), .inr (2, [.int 0, .ref (aa 60), .ref (aa 61)])), ((aa 3), .inr (3, [.int 0, .int 0, .int 0, .ref (aa 62), .ref (aa 63)])), ((aa 4), .inr (4, [.int 0, .int (-1), .null, .int 0, .int 0, .int 0, .int 0, .int 0, .null, .ref (aa 64), .ref (aa 65), .ref (aa 66)])), ((aa 5), .inr (0, [.int 0, .int 0, .int 0, .int (-1), .ref (aa 8), .ref (aa 41), .ref (aa 42), .ref (aa 43), .ref (aa 9), .ref (aa 44), .ref (aa 45), .ref (aa 46), .ref (aa 47), .ref (aa 48), .ref (aa 49), .ref (aa 50), .ref (aa 51)])), ((aa 6), .inl ((kk 0), 900, .inl (fun _ => 0))), ((aa 7), .inl ((kk 1), 22, .inl (fun _ => 0))), ((aa 8), .inl ((kk 2), 8, .inl (fun _ => 0))), ((aa 9), .inl ((kk 3), 22, .inl (fun _ => 0)))]) (w1 := []) hP hD [10, 11, 12, 13, 14, 15] [0, 1, 2, 3, 4, 5, 6, 7, 8, 9] rfl rfl (by decide) (by decide) hk1 hFc pu_P0 pu_D0
  clear hk1 hz1 ht hvm
  generalize H1 = H at hP hS ⊢
  have hP : va_P (dC, dI) vwCl [((aa 0), .inr (8, [.ref (aa 6), .int 0, .ref (aa 4), .ref (aa 1), .ref (aa 5), .ref (aa 2), .ref (aa 10), .int 0, .ref (aa 11), .ref (aa 12), .int 0, .ref (aa 13), .ref (aa 14), .ref (aa 3), .ref (aa 15), .ref (aa 16)])), ((aa 1), .inr (0, [.int 0, .int 0, .int 0, .int (-1), .ref (aa 20), .ref (aa 21), .ref (aa 22), .ref (aa 23), .ref (aa 7), .ref (aa 24), .ref (aa 25), .ref (aa 26), .ref (aa 27), .ref (aa 28), .ref (aa 29), .ref (aa 30), .ref (aa 31)])), ((aa 2), .inr (2, [.int 0, .ref (aa 60), .ref (aa 61)])), ((aa 3), .inr (3, [.int 0, .int 0, .int 0, .ref (aa 62), .ref (aa 63)])), ((aa 4), .inr (4, [.int 0, .int (-1), .null, .int 0, .int 0, .int 0, .int 0, .int 0, .null, .ref (aa 64), .ref (aa 65), .ref (aa 66)])), ((aa 5), .inr (0, [.int 0, .int 0, .int 0, .int (-1), .ref (aa 8), .ref (aa 41), .ref (aa 42), .ref (aa 43), .ref (aa 9), .ref (aa 44), .ref (aa 45), .ref (aa 46), .ref (aa 47), .ref (aa 48), .ref (aa 49), .ref (aa 50), .ref (aa 51)])), ((aa 6), .inl ((kk 0), 900, .inl (fun _ => 0))), ((aa 7), .inl ((kk 1), 22, .inl (fun _ => 0))), ((aa 8), .inl ((kk 2), 8, .inl (fun _ => 0))), ((aa 9), .inl ((kk 3), 22, .inl (fun _ => 0)))] H := hP
  have hD : va_D A [((aa 0), .inr (8, [.ref (aa 6), .int 0, .ref (aa 4), .ref (aa 1), .ref (aa 5), .ref (aa 2), .ref (aa 10), .int 0, .ref (aa 11), .ref (aa 12), .int 0, .ref (aa 13), .ref (aa 14), .ref (aa 3), .ref (aa 15), .ref (aa 16)])), ((aa 1), .inr (0, [.int 0, .int 0, .int 0, .int (-1), .ref (aa 20), .ref (aa 21), .ref (aa 22), .ref (aa 23), .ref (aa 7), .ref (aa 24), .ref (aa 25), .ref (aa 26), .ref (aa 27), .ref (aa 28), .ref (aa 29), .ref (aa 30), .ref (aa 31)])), ((aa 2), .inr (2, [.int 0, .ref (aa 60), .ref (aa 61)])), ((aa 3), .inr (3, [.int 0, .int 0, .int 0, .ref (aa 62), .ref (aa 63)])), ((aa 4), .inr (4, [.int 0, .int (-1), .null, .int 0, .int 0, .int 0, .int 0, .int 0, .null, .ref (aa 64), .ref (aa 65), .ref (aa 66)])), ((aa 5), .inr (0, [.int 0, .int 0, .int 0, .int (-1), .ref (aa 8), .ref (aa 41), .ref (aa 42), .ref (aa 43), .ref (aa 9), .ref (aa 44), .ref (aa 45), .ref (aa 46), .ref (aa 47), .ref (aa 48), .ref (aa 49), .ref (aa 50), .ref (aa 51)])), ((aa 6), .inl ((kk 0), 900, .inl (fun _ => 0))), ((aa 7), .inl ((kk 1), 22, .inl (fun _ => 0))), ((aa 8), .inl ((kk 2), 8, .inl (fun _ => 0))), ((aa 9), .inl ((kk 3), 22, .inl (fun _ => 0)))] := hD
  obtain rfl : r_6 = (-1) := hw
  refine lv_icmp_eq (tgt := 1725) hx hb dL_law_1231 (by decide) (fun _ => ?_) (fun z => absurd z (by decide))
  exact law_tail l C0 hA hAs hS (lv_sub hl [0, 4] rfl) (Nat.le_of_ble_eq_true rfl) (Nat.le_of_ble_eq_true rfl)
set_option maxHeartbeats 4000000 in
set_option maxRecDepth 100000 in
theorem law_case_28 {p : Program} {e : Env} {s : State} {m : MethodId} {below : List Frame} {meth : Method} {c : Code} (l : Launch) (hlt : l.stackTraces = false) {b : Nat} {xs : Nat → Int32} (C0 : lw_At p s m meth c b 7 xs) {A : Nat → Prop} (hA : ∀ q : Nat, s.heap.size ≤ q → A q) (hAs : ∀ q : Nat, A q → s.heap.size ≤ q) (hY : sy_E A s s.heap) {dC : Nat → ClassId} {dI : Nat → Nat → Nat} (aa bb : Nat → Nat) (kk jj : Nat → ClassId) (qo : Nat) (H : Heap) (locs : List Loc) (hK : va_K (dC, dI) vwCl (tX kk ++ tM jj) s) (hP : va_P (dC, dI) vwCl (wX aa kk ++ wM bb jj) H) (hD : va_D A (wX aa kk ++ wM bb jj)) (hS : va_S A s.heap H locs) (ls : Array Slot) (hl : lv_has ls 7 [(0, .ref b), (1, .ref (aa 0)), (2, .ref (bb 0)), (3, .ref qo), (4, .int 0)]) : W p l e room_1 s m #[Value.ref b] below meth c H locs 1717 133609 (lw_Z below #[Value.ref b] s) (F0 m 1236 ls []) := by
  obtain ⟨hx, hb, hr, hml, hown0, hts0, hX, hbl, hlocks, hgv⟩ := id C0
  have hown : s.vm.findClass RL = some m.cls := hown0
  have hts : ∀ w ∈ vsL, w.before #[Value.ref b] s = true := fun w h => hts0 w (vsL_in w h)
  have hbA : ¬ A b := fun h => absurd (hAs b h) (Nat.not_le.mpr hbl)
  refine lv_aload_n hx hb dL_law_1236 rfl (lv_at hl 1 rfl) ?_
  refine lv_aload_n hx hb dL_law_1237 rfl (lv_at hl 0 rfl) ?_
  refine lv_iload hx hb dL_law_1238 (lv_at hl 4 rfl) ?_
  refine lv_iconst (v := 1) hx hb dL_law_1240 (by decide) ?_
  refine lv_iadd hx hb dL_law_1241 ?_
  refine lv_topi (fun y_1 ey_1 => ?_)
  obtain rfl : y_1 = 1 := ey_1.trans (by decide)
  refine va_sld hx hb hX hbl hbA hS (show ¬ (_ ∨ _) by decide) dL_law_1242 ?_
  refine lv_aload_n hx hb dL_law_1243 rfl (lv_at hl 0 rfl) ?_
  refine lv_iload hx hb dL_law_1244 (lv_at hl 4 rfl) ?_
  refine lv_iconst (v := 2) hx hb dL_law_1246 (by decide) ?_
  refine lv_iadd hx hb dL_law_1247 ?_
  refine lv_topi (fun y_2 ey_2 => ?_)
  obtain rfl : y_2 = 2 := ey_2.trans (by decide)
  refine va_sld hx hb hX hbl hbA hS (show ¬ (_ ∨ _) by decide) dL_law_1248 ?_
  refine lv_aload_n hx hb dL_law_1249 rfl (lv_at hl 0 rfl) ?_
  refine lv_iload hx hb dL_law_1250 (lv_at hl 4 rfl) ?_
  refine lv_iconst (v := 3) hx hb dL_law_1252 (by decide) ?_
  refine lv_iadd hx hb dL_law_1253 ?_
  refine lv_topi (fun y_3 ey_3 => ?_)
  obtain rfl : y_3 = 3 := ey_3.trans (by decide)
  refine va_sld hx hb hX hbl hbA hS (show ¬ (_ ∨ _) by decide) dL_law_1254 ?_
  refine va_calli (va_runV (As := [.int (xs (1 : Int32).toNatClampNeg), .int (xs (2 : Int32).toNatClampNeg), .int (xs (3 : Int32).toNatClampNeg)]) (rest := []) ⟨hx, hb, hml, hown, hts⟩ (c_X8_then l dC dI _ aa kk (xs (1 : Int32).toNatClampNeg) (xs (2 : Int32).toNatClampNeg) (xs (3 : Int32).toNatClampNeg)) (cwV 3 hts g_L_X8_then rfl rfl rfl (by decide +kernel) ⟨Nat.le_of_ble_eq_true rfl, Nat.le_of_ble_eq_true rfl⟩) ⟨pu_bl, va_recv hK hP (ci := 8) (q0 := 0) rfl rfl, pu_in (hP.sub [0, 1, 2, 3, 4, 5, 6, 7, 8, 9] rfl) (hK.sub [0, 1, 2, 3] rfl) (hD.sub [0, 1, 2, 3, 4, 5, 6, 7, 8, 9] (by decide) rfl)⟩ rfl rfl hl.1 rfl (lv_room (Nat.le_of_ble_eq_true rfl)) dL_law_1255 ⟨Nat.le_of_ble_eq_true rfl, Nat.le_of_ble_eq_true rfl⟩) hS (fun q _ h => pu_fr hS hA q h) (pu_fr hS hA) (fun r_4 u t H1 locs ht hvm hw hB hz1 hk1 hS => ?_)
  have hP := pu_keep hP hk1
  clear hk1 hz1 ht hvm
  generalize H1 = H at hP hS ⊢
  obtain rfl : r_4 = (-1) := hw
  refine lv_aload_n hx hb dL_law_1258 rfl (lv_at hl 2 rfl) ?_
  refine lv_aload_n hx hb dL_law_1259 rfl (lv_at hl 0 rfl) ?_
  refine lv_iload hx hb dL_law_1260 (lv_at hl 4 rfl) ?_
  refine lv_iconst (v := 1) hx hb dL_law_1262 (by decide) ?_
  refine lv_iadd hx hb dL_law_1263 ?_
  refine lv_topi (fun y_5 ey_5 => ?_)
  obtain rfl : y_5 = 1 := ey_5.trans (by decide)
  refine va_sld hx hb hX hbl hbA hS (show ¬ (_ ∨ _) by decide) dL_law_1264 ?_
  refine lv_aload_n hx hb dL_law_1265 rfl (lv_at hl 0 rfl) ?_
  refine lv_iload hx hb dL_law_1266 (lv_at hl 4 rfl) ?_
  refine lv_iconst (v := 2) hx hb dL_law_1268 (by decide) ?_
  refine lv_iadd hx hb dL_law_1269 ?_
  refine lv_topi (fun y_6 ey_6 => ?_)
  obtain rfl : y_6 = 2 := ey_6.trans (by decide)
  refine va_sld hx hb hX hbl hbA hS (show ¬ (_ ∨ _) by decide) dL_law_1270 ?_
  refine lv_aload_n hx hb dL_law_1271 rfl (lv_at hl 0 rfl) ?_
  refine lv_iload hx hb dL_law_1272 (lv_at hl 4 rfl) ?_
  refine lv_iconst (v := 3) hx hb dL_law_1274 (by decide) ?_
  refine lv_iadd hx hb dL_law_1275 ?_
  refine lv_topi (fun y_7 ey_7 => ?_)
  obtain rfl : y_7 = 3 := ey_7.trans (by decide)
  refine va_sld hx hb hX hbl hbA hS (show ¬ (_ ∨ _) by decide) dL_law_1276 ?_
  have hFc := va_free (wc := [((bb 0), .inr (9, [.int 0, .ref (bb 10), .ref (bb 11), .ref (bb 12), .ref (bb 13), .ref (bb 14), .ref (bb 15), .ref (bb 16), .ref (bb 17), .ref (bb 18), .ref (bb 19), .ref (bb 20), .ref (bb 1), .ref (bb 2), .ref (bb 3), .ref (bb 4), .int 0, .ref (bb 5), .int 0, .int 0, .int 0, .int 0, .int 0, .int 0, .int 0, .int (-1), .int 0, .int 0, .int 0, .int 0, .int 0, .ref (bb 21), .ref (bb 22), .int 0, .ref (bb 23), .ref (bb 24), .ref (bb 25), .ref (bb 26), .ref (bb 27), .ref (bb 28), .ref (bb 29), .ref (bb 30), .ref (bb 31), .ref (bb 32), .ref (bb 33), .int 0, .int 0, .ref (bb 34), .ref (bb 35), .ref (bb 36), .ref (bb 37), .ref (bb 38), .int 0, .int 0, .ref (bb 39), .ref (bb 40), .ref (bb 41), .ref (bb 42), .ref (bb 43), .ref (bb 44), .ref (bb 45), .int 0, .int 0, .int 0, .ref (bb 46), .int 0, .int 0])), ((bb 1), .inl ((jj 1), 2, .inl (fun _ => 0))), ((bb 2), .inl ((jj 2), 2, .inl (fun _ => 0))), ((bb 3), .inl ((jj 3), 2, .inl (fun _ => 0))), ((bb 4), .inl ((jj 4), 2, .inl begF)), ((bb 5), .inl ((jj 5), 900, .inl (fun _ => 0)))]) hD hS hA [10, 11, 12, 13, 14, 15] rfl
  refine va_calli (va_runV (As := [.int (xs (1 : Int32).toNatClampNeg), .int (xs (2 : Int32).toNatClampNeg), .int (xs (3 : Int32).toNatClampNeg)]) (rest := [.int (-1)]) ⟨hx, hb, hml, hown, hts⟩ (c_X9_then l dC dI _ bb jj (xs (1 : Int32).toNatClampNeg) (xs (2 : Int32).toNatClampNeg) (xs (3 : Int32).toNatClampNeg)) (cwV 3 hts g_L_X9_then rfl rfl rfl (by decide +kernel) ⟨Nat.le_of_ble_eq_true rfl, Nat.le_of_ble_eq_true rfl⟩) ⟨pu_bl, va_recv hK hP (ci := 9) (q0 := 10) rfl rfl, pu_in (hP.sub [10, 11, 12, 13, 14, 15] rfl) (hK.sub [4, 5, 6, 7, 8] rfl) (hD.sub [10, 11, 12, 13, 14, 15] (by decide) rfl)⟩ rfl rfl hl.1 rfl (lv_room (Nat.le_of_ble_eq_true rfl)) dL_law_1277 ⟨Nat.le_of_ble_eq_true rfl, Nat.le_of_ble_eq_true rfl⟩) hS (fun q _ h => hFc q h) hFc (fun r_8 u t H1 locs ht hvm hw hB hz1 hk1 hS => ?_)
  obtain ⟨hP, hD⟩ := va_join (wr := [((aa 0), .inr (8, [.ref (aa 6), .int 0, .ref (aa 4), .ref (aa 1), .ref (aa 5), .ref (aa 2), .ref (aa 10), .int 0, .ref (aa 11), .ref (aa 12), .int 0, .ref (aa 13), .ref (aa 14), .ref (aa 3), .ref (aa 15), .ref (aa 16)])), ((aa 1), .inr (0, [.int 0, .int 0, .int 0, .int (-1), .ref (aa 20), .ref (aa 21), .ref (aa 22), .ref (aa 23), .ref (aa 7), .ref (aa 24), .ref (aa 25), .ref (aa 26), .ref (aa 27), .ref (aa 28), .ref (aa 29), .ref (aa 30), .ref (aa 31)])), ((aa 2), .inr (2, [.int 0, .ref (aa 60), .ref (aa 61)])), ((aa 3), .inr (3, [.int 0, .int 0, .int 0, .ref (aa 62), .ref (aa 63)])), ((aa 4), .inr (4, [.int 0, .int (-1), .null, .int 0, .int 0, .int 0, .int 0, .int 0, .null, .ref (aa 64), .ref (aa 65), .ref (aa 66)])), ((aa 5), .inr (0, [.int 0, .int 0, .int 0, .int (-1), .ref (aa 8), .ref (aa 41), .ref (aa 42), .ref (aa 43), .ref (aa 9), .ref (aa 44), .ref (aa 45), .ref (aa 46), .ref (aa 47), .ref (aa 48), .ref (aa 49), .ref (aa 50), .ref (aa 51)])), ((aa 6), .inl ((kk 0), 900, .inl (fun _ => 0))), ((aa 7), .inl ((kk 1), 22, .inl (fun _ => 0))), ((aa 8), .inl ((kk 2), 8, .inl (fun _ => 0))), ((aa 9), .inl ((kk 3), 22, .inl (fun _ => 0)))]) (w1 := []) hP hD [10, 11, 12, 13, 14, 15] [0, 1, 2, 3, 4, 5, 6, 7, 8, 9] rfl rfl (by decide) (by decide) hk1 hFc pu_P0 pu_D0
  clear hk1 hz1 ht hvm
  generalize H1 = H at hP hS ⊢
  have hP : va_P (dC, dI) vwCl [((aa 0), .inr (8, [.ref (aa 6), .int 0, .ref (aa 4), .ref (aa 1), .ref (aa 5), .ref (aa 2), .ref (aa 10), .int 0, .ref (aa 11), .ref (aa 12), .int 0, .ref (aa 13), .ref (aa 14), .ref (aa 3), .ref (aa 15), .ref (aa 16)])), ((aa 1), .inr (0, [.int 0, .int 0, .int 0, .int (-1), .ref (aa 20), .ref (aa 21), .ref (aa 22), .ref (aa 23), .ref (aa 7), .ref (aa 24), .ref (aa 25), .ref (aa 26), .ref (aa 27), .ref (aa 28), .ref (aa 29), .ref (aa 30), .ref (aa 31)])), ((aa 2), .inr (2, [.int 0, .ref (aa 60), .ref (aa 61)])), ((aa 3), .inr (3, [.int 0, .int 0, .int 0, .ref (aa 62), .ref (aa 63)])), ((aa 4), .inr (4, [.int 0, .int (-1), .null, .int 0, .int 0, .int 0, .int 0, .int 0, .null, .ref (aa 64), .ref (aa 65), .ref (aa 66)])), ((aa 5), .inr (0, [.int 0, .int 0, .int 0, .int (-1), .ref (aa 8), .ref (aa 41), .ref (aa 42), .ref (aa 43), .ref (aa 9), .ref (aa 44), .ref (aa 45), .ref (aa 46), .ref (aa 47), .ref (aa 48), .ref (aa 49), .ref (aa 50), .ref (aa 51)])), ((aa 6), .inl ((kk 0), 900, .inl (fun _ => 0))), ((aa 7), .inl ((kk 1), 22, .inl (fun _ => 0))), ((aa 8), .inl ((kk 2), 8, .inl (fun _ => 0))), ((aa 9), .inl ((kk 3), 22, .inl (fun _ => 0)))] H := hP
  have hD : va_D A [((aa 0), .inr (8, [.ref (aa 6), .int 0, .ref (aa 4), .ref (aa 1), .ref (aa 5), .ref (aa 2), .ref (aa 10), .int 0, .ref (aa 11), .ref (aa 12), .int 0, .ref (aa 13), .ref (aa 14), .ref (aa 3), .ref (aa 15), .ref (aa 16)])), ((aa 1), .inr (0, [.int 0, .int 0, .int 0, .int (-1), .ref (aa 20), .ref (aa 21), .ref (aa 22), .ref (aa 23), .ref (aa 7), .ref (aa 24), .ref (aa 25), .ref (aa 26), .ref (aa 27), .ref (aa 28), .ref (aa 29), .ref (aa 30), .ref (aa 31)])), ((aa 2), .inr (2, [.int 0, .ref (aa 60), .ref (aa 61)])), ((aa 3), .inr (3, [.int 0, .int 0, .int 0, .ref (aa 62), .ref (aa 63)])), ((aa 4), .inr (4, [.int 0, .int (-1), .null, .int 0, .int 0, .int 0, .int 0, .int 0, .null, .ref (aa 64), .ref (aa 65), .ref (aa 66)])), ((aa 5), .inr (0, [.int 0, .int 0, .int 0, .int (-1), .ref (aa 8), .ref (aa 41), .ref (aa 42), .ref (aa 43), .ref (aa 9), .ref (aa 44), .ref (aa 45), .ref (aa 46), .ref (aa 47), .ref (aa 48), .ref (aa 49), .ref (aa 50), .ref (aa 51)])), ((aa 6), .inl ((kk 0), 900, .inl (fun _ => 0))), ((aa 7), .inl ((kk 1), 22, .inl (fun _ => 0))), ((aa 8), .inl ((kk 2), 8, .inl (fun _ => 0))), ((aa 9), .inl ((kk 3), 22, .inl (fun _ => 0)))] := hD
  obtain rfl : r_8 = (-1) := hw
  refine lv_icmp_eq (tgt := 1725) hx hb dL_law_1280 (by decide) (fun _ => ?_) (fun z => absurd z (by decide))
  exact law_tail l C0 hA hAs hS (lv_sub hl [0, 4] rfl) (Nat.le_of_ble_eq_true rfl) (Nat.le_of_ble_eq_true rfl)
set_option maxHeartbeats 4000000 in
set_option maxRecDepth 100000 in
theorem law_case_29 {p : Program} {e : Env} {s : State} {m : MethodId} {below : List Frame} {meth : Method} {c : Code} (l : Launch) (hlt : l.stackTraces = false) {b : Nat} {xs : Nat → Int32} (C0 : lw_At p s m meth c b 7 xs) {A : Nat → Prop} (hA : ∀ q : Nat, s.heap.size ≤ q → A q) (hAs : ∀ q : Nat, A q → s.heap.size ≤ q) (hY : sy_E A s s.heap) {dC : Nat → ClassId} {dI : Nat → Nat → Nat} (aa bb : Nat → Nat) (kk jj : Nat → ClassId) (qo : Nat) (H : Heap) (locs : List Loc) (hK : va_K (dC, dI) vwCl (tX kk ++ tM jj) s) (hP : va_P (dC, dI) vwCl (wX aa kk ++ wM bb jj) H) (hD : va_D A (wX aa kk ++ wM bb jj)) (hS : va_S A s.heap H locs) (ls : Array Slot) (hl : lv_has ls 7 [(0, .ref b), (1, .ref (aa 0)), (2, .ref (bb 0)), (3, .ref qo), (4, .int 0)]) : W p l e room_1 s m #[Value.ref b] below meth c H locs 1717 133609 (lw_Z below #[Value.ref b] s) (F0 m 1285 ls []) := by
  obtain ⟨hx, hb, hr, hml, hown0, hts0, hX, hbl, hlocks, hgv⟩ := id C0
  have hown : s.vm.findClass RL = some m.cls := hown0
  have hts : ∀ w ∈ vsL, w.before #[Value.ref b] s = true := fun w h => hts0 w (vsL_in w h)
  have hbA : ¬ A b := fun h => absurd (hAs b h) (Nat.not_le.mpr hbl)
  refine lv_aload_n hx hb dL_law_1285 rfl (lv_at hl 1 rfl) ?_
  refine lv_aload_n hx hb dL_law_1286 rfl (lv_at hl 0 rfl) ?_
  refine lv_iload hx hb dL_law_1287 (lv_at hl 4 rfl) ?_
  refine lv_iconst (v := 1) hx hb dL_law_1289 (by decide) ?_
  refine lv_iadd hx hb dL_law_1290 ?_
  refine lv_topi (fun y_1 ey_1 => ?_)
  obtain rfl : y_1 = 1 := ey_1.trans (by decide)
  refine va_sld hx hb hX hbl hbA hS (show ¬ (_ ∨ _) by decide) dL_law_1291 ?_
  refine lv_aload_n hx hb dL_law_1292 rfl (lv_at hl 0 rfl) ?_
  refine lv_iload hx hb dL_law_1293 (lv_at hl 4 rfl) ?_
  refine lv_iconst (v := 2) hx hb dL_law_1295 (by decide) ?_
  refine lv_iadd hx hb dL_law_1296 ?_
  refine lv_topi (fun y_2 ey_2 => ?_)
  obtain rfl : y_2 = 2 := ey_2.trans (by decide)
  refine va_sld hx hb hX hbl hbA hS (show ¬ (_ ∨ _) by decide) dL_law_1297 ?_
  refine va_calli (va_runV (As := [.int (xs (1 : Int32).toNatClampNeg), .int (xs (2 : Int32).toNatClampNeg)]) (rest := []) ⟨hx, hb, hml, hown, hts⟩ (c_X8_spans l dC dI _ aa kk (xs (1 : Int32).toNatClampNeg) (xs (2 : Int32).toNatClampNeg)) (cwV 2 hts g_L_X8_spans rfl rfl rfl (by decide +kernel) ⟨Nat.le_of_ble_eq_true rfl, Nat.le_of_ble_eq_true rfl⟩) ⟨pu_bl, va_recv hK hP (ci := 8) (q0 := 0) rfl rfl, pu_in (hP.sub [0, 1, 2, 3, 4, 5, 6, 7, 8, 9] rfl) (hK.sub [0, 1, 2, 3] rfl) (hD.sub [0, 1, 2, 3, 4, 5, 6, 7, 8, 9] (by decide) rfl)⟩ rfl rfl hl.1 rfl (lv_room (Nat.le_of_ble_eq_true rfl)) dL_law_1298 ⟨Nat.le_of_ble_eq_true rfl, Nat.le_of_ble_eq_true rfl⟩) hS (fun q _ h => pu_fr hS hA q h) (pu_fr hS hA) (fun r_3 u t H1 locs ht hvm hw hB hz1 hk1 hS => ?_)
  have hP := pu_keep hP hk1
  clear hk1 hz1 ht hvm
  generalize H1 = H at hP hS ⊢
  obtain rfl : r_3 = (-1) := hw
  refine lv_aload_n hx hb dL_law_1301 rfl (lv_at hl 2 rfl) ?_
  refine lv_aload_n hx hb dL_law_1302 rfl (lv_at hl 0 rfl) ?_
  refine lv_iload hx hb dL_law_1303 (lv_at hl 4 rfl) ?_
  refine lv_iconst (v := 1) hx hb dL_law_1305 (by decide) ?_
  refine lv_iadd hx hb dL_law_1306 ?_
  refine lv_topi (fun y_4 ey_4 => ?_)
  obtain rfl : y_4 = 1 := ey_4.trans (by decide)
  refine va_sld hx hb hX hbl hbA hS (show ¬ (_ ∨ _) by decide) dL_law_1307 ?_
  refine lv_aload_n hx hb dL_law_1308 rfl (lv_at hl 0 rfl) ?_
  refine lv_iload hx hb dL_law_1309 (lv_at hl 4 rfl) ?_
  refine lv_iconst (v := 2) hx hb dL_law_1311 (by decide) ?_
  refine lv_iadd hx hb dL_law_1312 ?_
  refine lv_topi (fun y_5 ey_5 => ?_)
  obtain rfl : y_5 = 2 := ey_5.trans (by decide)
  refine va_sld hx hb hX hbl hbA hS (show ¬ (_ ∨ _) by decide) dL_law_1313 ?_
  have hFc := va_free (wc := [((bb 0), .inr (9, [.int 0, .ref (bb 10), .ref (bb 11), .ref (bb 12), .ref (bb 13), .ref (bb 14), .ref (bb 15), .ref (bb 16), .ref (bb 17), .ref (bb 18), .ref (bb 19), .ref (bb 20), .ref (bb 1), .ref (bb 2), .ref (bb 3), .ref (bb 4), .int 0, .ref (bb 5), .int 0, .int 0, .int 0, .int 0, .int 0, .int 0, .int 0, .int (-1), .int 0, .int 0, .int 0, .int 0, .int 0, .ref (bb 21), .ref (bb 22), .int 0, .ref (bb 23), .ref (bb 24), .ref (bb 25), .ref (bb 26), .ref (bb 27), .ref (bb 28), .ref (bb 29), .ref (bb 30), .ref (bb 31), .ref (bb 32), .ref (bb 33), .int 0, .int 0, .ref (bb 34), .ref (bb 35), .ref (bb 36), .ref (bb 37), .ref (bb 38), .int 0, .int 0, .ref (bb 39), .ref (bb 40), .ref (bb 41), .ref (bb 42), .ref (bb 43), .ref (bb 44), .ref (bb 45), .int 0, .int 0, .int 0, .ref (bb 46), .int 0, .int 0])), ((bb 1), .inl ((jj 1), 2, .inl (fun _ => 0))), ((bb 2), .inl ((jj 2), 2, .inl (fun _ => 0))), ((bb 3), .inl ((jj 3), 2, .inl (fun _ => 0))), ((bb 4), .inl ((jj 4), 2, .inl begF)), ((bb 5), .inl ((jj 5), 900, .inl (fun _ => 0)))]) hD hS hA [10, 11, 12, 13, 14, 15] rfl
  refine va_calli (va_runV (As := [.int (xs (1 : Int32).toNatClampNeg), .int (xs (2 : Int32).toNatClampNeg)]) (rest := [.int (-1)]) ⟨hx, hb, hml, hown, hts⟩ (c_X9_spans l dC dI _ bb jj (xs (1 : Int32).toNatClampNeg) (xs (2 : Int32).toNatClampNeg)) (cwV 2 hts g_L_X9_spans rfl rfl rfl (by decide +kernel) ⟨Nat.le_of_ble_eq_true rfl, Nat.le_of_ble_eq_true rfl⟩) ⟨pu_bl, va_recv hK hP (ci := 9) (q0 := 10) rfl rfl, pu_in (hP.sub [10, 11, 12, 13, 14, 15] rfl) (hK.sub [4, 5, 6, 7, 8] rfl) (hD.sub [10, 11, 12, 13, 14, 15] (by decide) rfl)⟩ rfl rfl hl.1 rfl (lv_room (Nat.le_of_ble_eq_true rfl)) dL_law_1314 ⟨Nat.le_of_ble_eq_true rfl, Nat.le_of_ble_eq_true rfl⟩) hS (fun q _ h => hFc q h) hFc (fun r_6 u t H1 locs ht hvm hw hB hz1 hk1 hS => ?_)
  obtain ⟨hP, hD⟩ := va_join (wr := [((aa 0), .inr (8, [.ref (aa 6), .int 0, .ref (aa 4), .ref (aa 1), .ref (aa 5), .ref (aa 2), .ref (aa 10), .int 0, .ref (aa 11), .ref (aa 12), .int 0, .ref (aa 13), .ref (aa 14), .ref (aa 3), .ref (aa 15), .ref (aa 16)])), ((aa 1), .inr (0, [.int 0, .int 0, .int 0, .int (-1), .ref (aa 20), .ref (aa 21), .ref (aa 22), .ref (aa 23), .ref (aa 7), .ref (aa 24), .ref (aa 25), .ref (aa 26), .ref (aa 27), .ref (aa 28), .ref (aa 29), .ref (aa 30), .ref (aa 31)])), ((aa 2), .inr (2, [.int 0, .ref (aa 60), .ref (aa 61)])), ((aa 3), .inr (3, [.int 0, .int 0, .int 0, .ref (aa 62), .ref (aa 63)])), ((aa 4), .inr (4, [.int 0, .int (-1), .null, .int 0, .int 0, .int 0, .int 0, .int 0, .null, .ref (aa 64), .ref (aa 65), .ref (aa 66)])), ((aa 5), .inr (0, [.int 0, .int 0, .int 0, .int (-1), .ref (aa 8), .ref (aa 41), .ref (aa 42), .ref (aa 43), .ref (aa 9), .ref (aa 44), .ref (aa 45), .ref (aa 46), .ref (aa 47), .ref (aa 48), .ref (aa 49), .ref (aa 50), .ref (aa 51)])), ((aa 6), .inl ((kk 0), 900, .inl (fun _ => 0))), ((aa 7), .inl ((kk 1), 22, .inl (fun _ => 0))), ((aa 8), .inl ((kk 2), 8, .inl (fun _ => 0))), ((aa 9), .inl ((kk 3), 22, .inl (fun _ => 0)))]) (w1 := []) hP hD [10, 11, 12, 13, 14, 15] [0, 1, 2, 3, 4, 5, 6, 7, 8, 9] rfl rfl (by decide) (by decide) hk1 hFc pu_P0 pu_D0
  clear hk1 hz1 ht hvm
  generalize H1 = H at hP hS ⊢
  have hP : va_P (dC, dI) vwCl [((aa 0), .inr (8, [.ref (aa 6), .int 0, .ref (aa 4), .ref (aa 1), .ref (aa 5), .ref (aa 2), .ref (aa 10), .int 0, .ref (aa 11), .ref (aa 12), .int 0, .ref (aa 13), .ref (aa 14), .ref (aa 3), .ref (aa 15), .ref (aa 16)])), ((aa 1), .inr (0, [.int 0, .int 0, .int 0, .int (-1), .ref (aa 20), .ref (aa 21), .ref (aa 22), .ref (aa 23), .ref (aa 7), .ref (aa 24), .ref (aa 25), .ref (aa 26), .ref (aa 27), .ref (aa 28), .ref (aa 29), .ref (aa 30), .ref (aa 31)])), ((aa 2), .inr (2, [.int 0, .ref (aa 60), .ref (aa 61)])), ((aa 3), .inr (3, [.int 0, .int 0, .int 0, .ref (aa 62), .ref (aa 63)])), ((aa 4), .inr (4, [.int 0, .int (-1), .null, .int 0, .int 0, .int 0, .int 0, .int 0, .null, .ref (aa 64), .ref (aa 65), .ref (aa 66)])), ((aa 5), .inr (0, [.int 0, .int 0, .int 0, .int (-1), .ref (aa 8), .ref (aa 41), .ref (aa 42), .ref (aa 43), .ref (aa 9), .ref (aa 44), .ref (aa 45), .ref (aa 46), .ref (aa 47), .ref (aa 48), .ref (aa 49), .ref (aa 50), .ref (aa 51)])), ((aa 6), .inl ((kk 0), 900, .inl (fun _ => 0))), ((aa 7), .inl ((kk 1), 22, .inl (fun _ => 0))), ((aa 8), .inl ((kk 2), 8, .inl (fun _ => 0))), ((aa 9), .inl ((kk 3), 22, .inl (fun _ => 0)))] H := hP
  have hD : va_D A [((aa 0), .inr (8, [.ref (aa 6), .int 0, .ref (aa 4), .ref (aa 1), .ref (aa 5), .ref (aa 2), .ref (aa 10), .int 0, .ref (aa 11), .ref (aa 12), .int 0, .ref (aa 13), .ref (aa 14), .ref (aa 3), .ref (aa 15), .ref (aa 16)])), ((aa 1), .inr (0, [.int 0, .int 0, .int 0, .int (-1), .ref (aa 20), .ref (aa 21), .ref (aa 22), .ref (aa 23), .ref (aa 7), .ref (aa 24), .ref (aa 25), .ref (aa 26), .ref (aa 27), .ref (aa 28), .ref (aa 29), .ref (aa 30), .ref (aa 31)])), ((aa 2), .inr (2, [.int 0, .ref (aa 60), .ref (aa 61)])), ((aa 3), .inr (3, [.int 0, .int 0, .int 0, .ref (aa 62), .ref (aa 63)])), ((aa 4), .inr (4, [.int 0, .int (-1), .null, .int 0, .int 0, .int 0, .int 0, .int 0, .null, .ref (aa 64), .ref (aa 65), .ref (aa 66)])), ((aa 5), .inr (0, [.int 0, .int 0, .int 0, .int (-1), .ref (aa 8), .ref (aa 41), .ref (aa 42), .ref (aa 43), .ref (aa 9), .ref (aa 44), .ref (aa 45), .ref (aa 46), .ref (aa 47), .ref (aa 48), .ref (aa 49), .ref (aa 50), .ref (aa 51)])), ((aa 6), .inl ((kk 0), 900, .inl (fun _ => 0))), ((aa 7), .inl ((kk 1), 22, .inl (fun _ => 0))), ((aa 8), .inl ((kk 2), 8, .inl (fun _ => 0))), ((aa 9), .inl ((kk 3), 22, .inl (fun _ => 0)))] := hD
  obtain rfl : r_6 = (-1) := hw
  refine lv_icmp_eq (tgt := 1725) hx hb dL_law_1317 (by decide) (fun _ => ?_) (fun z => absurd z (by decide))
  exact law_tail l C0 hA hAs hS (lv_sub hl [0, 4] rfl) (Nat.le_of_ble_eq_true rfl) (Nat.le_of_ble_eq_true rfl)
