set_option maxHeartbeats 4000000 in
set_option maxRecDepth 100000 in
theorem law_case_30 {p : Program} {e : Env} {s : State} {m : MethodId} {below : List Frame} {meth : Method} {c : Code} (l : Launch) (hlt : l.stackTraces = false) {b : Nat} {xs : Nat → Int32} (C0 : lw_At p s m meth c b 7 xs) {A : Nat → Prop} (hA : ∀ q : Nat, s.heap.size ≤ q → A q) (hAs : ∀ q : Nat, A q → s.heap.size ≤ q) (hY : sy_E A s s.heap) {dC : Nat → ClassId} {dI : Nat → Nat → Nat} (aa bb : Nat → Nat) (kk jj : Nat → ClassId) (qo : Nat) (H : Heap) (locs : List Loc) (hK : va_K (dC, dI) vwCl (tX kk ++ tM jj) s) (hP : va_P (dC, dI) vwCl (wX aa kk ++ wM bb jj) H) (hD : va_D A (wX aa kk ++ wM bb jj)) (hS : va_S A s.heap H locs) (ls : Array Slot) (hl : lv_has ls 7 [(0, .ref b), (1, .ref (aa 0)), (2, .ref (bb 0)), (3, .ref qo), (4, .int 0)]) : W p l e room_1 s m #[Value.ref b] below meth c H locs 1717 133609 (lw_Z below #[Value.ref b] s) (F0 m 1322 ls []) := by
  obtain ⟨hx, hb, hr, hml, hown0, hts0, hX, hbl, hlocks, hgv⟩ := id C0
  have hown : s.vm.findClass RL = some m.cls := hown0
  have hts : ∀ w ∈ vsL, w.before #[Value.ref b] s = true := fun w h => hts0 w (vsL_in w h)
  have hbA : ¬ A b := fun h => absurd (hAs b h) (Nat.not_le.mpr hbl)
  refine lv_aload_n hx hb dL_law_1322 rfl (lv_at hl 1 rfl) ?_
  refine lv_aload_n hx hb dL_law_1323 rfl (lv_at hl 0 rfl) ?_
  refine lv_iload hx hb dL_law_1324 (lv_at hl 4 rfl) ?_
  refine lv_iconst (v := 1) hx hb dL_law_1326 (by decide) ?_
  refine lv_iadd hx hb dL_law_1327 ?_
  refine lv_topi (fun y_1 ey_1 => ?_)
  obtain rfl : y_1 = 1 := ey_1.trans (by decide)
  refine va_sld hx hb hX hbl hbA hS (show ¬ (_ ∨ _) by decide) dL_law_1328 ?_
  refine lv_aload_n hx hb dL_law_1329 rfl (lv_at hl 0 rfl) ?_
  refine lv_iload hx hb dL_law_1330 (lv_at hl 4 rfl) ?_
  refine lv_iconst (v := 2) hx hb dL_law_1332 (by decide) ?_
  refine lv_iadd hx hb dL_law_1333 ?_
  refine lv_topi (fun y_2 ey_2 => ?_)
  obtain rfl : y_2 = 2 := ey_2.trans (by decide)
  refine va_sld hx hb hX hbl hbA hS (show ¬ (_ ∨ _) by decide) dL_law_1334 ?_
  refine lv_aload_n hx hb dL_law_1335 rfl (lv_at hl 0 rfl) ?_
  refine lv_iload hx hb dL_law_1336 (lv_at hl 4 rfl) ?_
  refine lv_iconst (v := 3) hx hb dL_law_1338 (by decide) ?_
  refine lv_iadd hx hb dL_law_1339 ?_
  refine lv_topi (fun y_3 ey_3 => ?_)
  obtain rfl : y_3 = 3 := ey_3.trans (by decide)
  refine va_sld hx hb hX hbl hbA hS (show ¬ (_ ∨ _) by decide) dL_law_1340 ?_
  refine lv_aload_n hx hb dL_law_1341 rfl (lv_at hl 0 rfl) ?_
  refine lv_iload hx hb dL_law_1342 (lv_at hl 4 rfl) ?_
  refine lv_iconst (v := 4) hx hb dL_law_1344 (by decide) ?_
  refine lv_iadd hx hb dL_law_1345 ?_
  refine lv_topi (fun y_4 ey_4 => ?_)
  obtain rfl : y_4 = 4 := ey_4.trans (by decide)
  refine va_sld hx hb hX hbl hbA hS (show ¬ (_ ∨ _) by decide) dL_law_1346 ?_
  refine lv_aload_n hx hb dL_law_1347 rfl (lv_at hl 0 rfl) ?_
  refine lv_iload hx hb dL_law_1348 (lv_at hl 4 rfl) ?_
  refine lv_iconst (v := 5) hx hb dL_law_1350 (by decide) ?_
  refine lv_iadd hx hb dL_law_1351 ?_
  refine lv_topi (fun y_5 ey_5 => ?_)
  obtain rfl : y_5 = 5 := ey_5.trans (by decide)
  refine va_sld hx hb hX hbl hbA hS (show ¬ (_ ∨ _) by decide) dL_law_1352 ?_
  refine lv_aload_n hx hb dL_law_1353 rfl (lv_at hl 0 rfl) ?_
  refine lv_iload hx hb dL_law_1354 (lv_at hl 4 rfl) ?_
  refine lv_bipush (v := 6) hx hb dL_law_1356 (by decide) ?_
  refine lv_iadd hx hb dL_law_1358 ?_
  refine lv_topi (fun y_6 ey_6 => ?_)
  obtain rfl : y_6 = 6 := ey_6.trans (by decide)
  refine va_sld hx hb hX hbl hbA hS (show ¬ (_ ∨ _) by decide) dL_law_1359 ?_
  refine va_calli (va_runV (As := [.int (xs (1 : Int32).toNatClampNeg), .int (xs (2 : Int32).toNatClampNeg), .int (xs (3 : Int32).toNatClampNeg), .int (xs (4 : Int32).toNatClampNeg), .int (xs (5 : Int32).toNatClampNeg), .int (xs (6 : Int32).toNatClampNeg)]) (rest := []) ⟨hx, hb, hml, hown, hts⟩ (c_X8_tells l dC dI _ aa kk (xs (1 : Int32).toNatClampNeg) (xs (2 : Int32).toNatClampNeg) (xs (3 : Int32).toNatClampNeg) (xs (4 : Int32).toNatClampNeg) (xs (5 : Int32).toNatClampNeg) (xs (6 : Int32).toNatClampNeg)) (cwV 6 hts g_L_X8_tells rfl rfl rfl (by decide +kernel) ⟨Nat.le_of_ble_eq_true rfl, Nat.le_of_ble_eq_true rfl⟩) ⟨pu_bl, va_recv hK hP (ci := 8) (q0 := 0) rfl rfl, pu_in (hP.sub [0, 1, 2, 3, 4, 5, 6, 7, 8, 9] rfl) (hK.sub [0, 1, 2, 3] rfl) (hD.sub [0, 1, 2, 3, 4, 5, 6, 7, 8, 9] (by decide) rfl)⟩ rfl rfl hl.1 rfl (lv_room (Nat.le_of_ble_eq_true rfl)) dL_law_1360 ⟨Nat.le_of_ble_eq_true rfl, Nat.le_of_ble_eq_true rfl⟩) hS (fun q _ h => pu_fr hS hA q h) (pu_fr hS hA) (fun r_7 u t H1 locs ht hvm hw hB hz1 hk1 hS => ?_)
  have hP := pu_keep hP hk1
  clear hk1 hz1 ht hvm
  generalize H1 = H at hP hS ⊢
  obtain rfl : r_7 = (-1) := hw
  refine lv_aload_n hx hb dL_law_1363 rfl (lv_at hl 2 rfl) ?_
  refine lv_aload_n hx hb dL_law_1364 rfl (lv_at hl 0 rfl) ?_
  refine lv_iload hx hb dL_law_1365 (lv_at hl 4 rfl) ?_
  refine lv_iconst (v := 1) hx hb dL_law_1367 (by decide) ?_
  refine lv_iadd hx hb dL_law_1368 ?_
  refine lv_topi (fun y_8 ey_8 => ?_)
  obtain rfl : y_8 = 1 := ey_8.trans (by decide)
  refine va_sld hx hb hX hbl hbA hS (show ¬ (_ ∨ _) by decide) dL_law_1369 ?_
  refine lv_aload_n hx hb dL_law_1370 rfl (lv_at hl 0 rfl) ?_
  refine lv_iload hx hb dL_law_1371 (lv_at hl 4 rfl) ?_
  refine lv_iconst (v := 2) hx hb dL_law_1373 (by decide) ?_
  refine lv_iadd hx hb dL_law_1374 ?_
  refine lv_topi (fun y_9 ey_9 => ?_)
  obtain rfl : y_9 = 2 := ey_9.trans (by decide)
  refine va_sld hx hb hX hbl hbA hS (show ¬ (_ ∨ _) by decide) dL_law_1375 ?_
  refine lv_aload_n hx hb dL_law_1376 rfl (lv_at hl 0 rfl) ?_
  refine lv_iload hx hb dL_law_1377 (lv_at hl 4 rfl) ?_
  refine lv_iconst (v := 3) hx hb dL_law_1379 (by decide) ?_
  refine lv_iadd hx hb dL_law_1380 ?_
  refine lv_topi (fun y_10 ey_10 => ?_)
  obtain rfl : y_10 = 3 := ey_10.trans (by decide)
  refine va_sld hx hb hX hbl hbA hS (show ¬ (_ ∨ _) by decide) dL_law_1381 ?_
  refine lv_aload_n hx hb dL_law_1382 rfl (lv_at hl 0 rfl) ?_
  refine lv_iload hx hb dL_law_1383 (lv_at hl 4 rfl) ?_
  refine lv_iconst (v := 4) hx hb dL_law_1385 (by decide) ?_
  refine lv_iadd hx hb dL_law_1386 ?_
  refine lv_topi (fun y_11 ey_11 => ?_)
  obtain rfl : y_11 = 4 := ey_11.trans (by decide)
  refine va_sld hx hb hX hbl hbA hS (show ¬ (_ ∨ _) by decide) dL_law_1387 ?_
  refine lv_aload_n hx hb dL_law_1388 rfl (lv_at hl 0 rfl) ?_
  refine lv_iload hx hb dL_law_1389 (lv_at hl 4 rfl) ?_
  refine lv_iconst (v := 5) hx hb dL_law_1391 (by decide) ?_
  refine lv_iadd hx hb dL_law_1392 ?_
  refine lv_topi (fun y_12 ey_12 => ?_)
  obtain rfl : y_12 = 5 := ey_12.trans (by decide)
  refine va_sld hx hb hX hbl hbA hS (show ¬ (_ ∨ _) by decide) dL_law_1393 ?_
  refine lv_aload_n hx hb dL_law_1394 rfl (lv_at hl 0 rfl) ?_
  refine lv_iload hx hb dL_law_1395 (lv_at hl 4 rfl) ?_
  refine lv_bipush (v := 6) hx hb dL_law_1397 (by decide) ?_
  refine lv_iadd hx hb dL_law_1399 ?_
  refine lv_topi (fun y_13 ey_13 => ?_)
  obtain rfl : y_13 = 6 := ey_13.trans (by decide)
  refine va_sld hx hb hX hbl hbA hS (show ¬ (_ ∨ _) by decide) dL_law_1400 ?_
  have hFc := va_free (wc := [((bb 0), .inr (9, [.int 0, .ref (bb 10), .ref (bb 11), .ref (bb 12), .ref (bb 13), .ref (bb 14), .ref (bb 15), .ref (bb 16), .ref (bb 17), .ref (bb 18), .ref (bb 19), .ref (bb 20), .ref (bb 1), .ref (bb 2), .ref (bb 3), .ref (bb 4), .int 0, .ref (bb 5), .int 0, .int 0, .int 0, .int 0, .int 0, .int 0, .int 0, .int (-1), .int 0, .int 0, .int 0, .int 0, .int 0, .ref (bb 21), .ref (bb 22), .int 0, .ref (bb 23), .ref (bb 24), .ref (bb 25), .ref (bb 26), .ref (bb 27), .ref (bb 28), .ref (bb 29), .ref (bb 30), .ref (bb 31), .ref (bb 32), .ref (bb 33), .int 0, .int 0, .ref (bb 34), .ref (bb 35), .ref (bb 36), .ref (bb 37), .ref (bb 38), .int 0, .int 0, .ref (bb 39), .ref (bb 40), .ref (bb 41), .ref (bb 42), .ref (bb 43), .ref (bb 44), .ref (bb 45), .int 0, .int 0, .int 0, .ref (bb 46), .int 0, .int 0])), ((bb 1), .inl ((jj 1), 2, .inl (fun _ => 0))), ((bb 2), .inl ((jj 2), 2, .inl (fun _ => 0))), ((bb 3), .inl ((jj 3), 2, .inl (fun _ => 0))), ((bb 4), .inl ((jj 4), 2, .inl begF)), ((bb 5), .inl ((jj 5), 900, .inl (fun _ => 0)))]) hD hS hA [10, 11, 12, 13, 14, 15] rfl
  refine va_calli (va_runV (As := [.int (xs (1 : Int32).toNatClampNeg), .int (xs (2 : Int32).toNatClampNeg), .int (xs (3 : Int32).toNatClampNeg), .int (xs (4 : Int32).toNatClampNeg), .int (xs (5 : Int32).toNatClampNeg), .int (xs (6 : Int32).toNatClampNeg)]) (rest := [.int (-1)]) ⟨hx, hb, hml, hown, hts⟩ (c_X9_tells l dC dI _ bb jj (xs (1 : Int32).toNatClampNeg) (xs (2 : Int32).toNatClampNeg) (xs (3 : Int32).toNatClampNeg) (xs (4 : Int32).toNatClampNeg) (xs (5 : Int32).toNatClampNeg) (xs (6 : Int32).toNatClampNeg)) (cwV 6 hts g_L_X9_tells rfl rfl rfl (by decide +kernel) ⟨Nat.le_of_ble_eq_true rfl, Nat.le_of_ble_eq_true rfl⟩) ⟨pu_bl, va_recv hK hP (ci := 9) (q0 := 10) rfl rfl, pu_in (hP.sub [10, 11, 12, 13, 14, 15] rfl) (hK.sub [4, 5, 6, 7, 8] rfl) (hD.sub [10, 11, 12, 13, 14, 15] (by decide) rfl)⟩ rfl rfl hl.1 rfl (lv_room (Nat.le_of_ble_eq_true rfl)) dL_law_1401 ⟨Nat.le_of_ble_eq_true rfl, Nat.le_of_ble_eq_true rfl⟩) hS (fun q _ h => hFc q h) hFc (fun r_14 u t H1 locs ht hvm hw hB hz1 hk1 hS => ?_)
  obtain ⟨hP, hD⟩ := va_join (wr := [((aa 0), .inr (8, [.ref (aa 6), .int 0, .ref (aa 4), .ref (aa 1), .ref (aa 5), .ref (aa 2), .ref (aa 10), .int 0, .ref (aa 11), .ref (aa 12), .int 0, .ref (aa 13), .ref (aa 14), .ref (aa 3), .ref (aa 15), .ref (aa 16)])), ((aa 1), .inr (0, [.int 0, .int 0, .int 0, .int (-1), .ref (aa 20), .ref (aa 21), .ref (aa 22), .ref (aa 23), .ref (aa 7), .ref (aa 24), .ref (aa 25), .ref (aa 26), .ref (aa 27), .ref (aa 28), .ref (aa 29), .ref (aa 30), .ref (aa 31)])), ((aa 2), .inr (2, [.int 0, .ref (aa 60), .ref (aa 61)])), ((aa 3), .inr (3, [.int 0, .int 0, .int 0, .ref (aa 62), .ref (aa 63)])), ((aa 4), .inr (4, [.int 0, .int (-1), .null, .int 0, .int 0, .int 0, .int 0, .int 0, .null, .ref (aa 64), .ref (aa 65), .ref (aa 66)])), ((aa 5), .inr (0, [.int 0, .int 0, .int 0, .int (-1), .ref (aa 8), .ref (aa 41), .ref (aa 42), .ref (aa 43), .ref (aa 9), .ref (aa 44), .ref (aa 45), .ref (aa 46), .ref (aa 47), .ref (aa 48), .ref (aa 49), .ref (aa 50), .ref (aa 51)])), ((aa 6), .inl ((kk 0), 900, .inl (fun _ => 0))), ((aa 7), .inl ((kk 1), 22, .inl (fun _ => 0))), ((aa 8), .inl ((kk 2), 8, .inl (fun _ => 0))), ((aa 9), .inl ((kk 3), 22, .inl (fun _ => 0)))]) (w1 := []) hP hD [10, 11, 12, 13, 14, 15] [0, 1, 2, 3, 4, 5, 6, 7, 8, 9] rfl rfl (by decide) (by decide) hk1 hFc pu_P0 pu_D0
  clear hk1 hz1 ht hvm
  generalize H1 = H at hP hS ⊢
  have hP : va_P (dC, dI) vwCl [((aa 0), .inr (8, [.ref (aa 6), .int 0, .ref (aa 4), .ref (aa 1), .ref (aa 5), .ref (aa 2), .ref (aa 10), .int 0, .ref (aa 11), .ref (aa 12), .int 0, .ref (aa 13), .ref (aa 14), .ref (aa 3), .ref (aa 15), .ref (aa 16)])), ((aa 1), .inr (0, [.int 0, .int 0, .int 0, .int (-1), .ref (aa 20), .ref (aa 21), .ref (aa 22), .ref (aa 23), .ref (aa 7), .ref (aa 24), .ref (aa 25), .ref (aa 26), .ref (aa 27), .ref (aa 28), .ref (aa 29), .ref (aa 30), .ref (aa 31)])), ((aa 2), .inr (2, [.int 0, .ref (aa 60), .ref (aa 61)])), ((aa 3), .inr (3, [.int 0, .int 0, .int 0, .ref (aa 62), .ref (aa 63)])), ((aa 4), .inr (4, [.int 0, .int (-1), .null, .int 0, .int 0, .int 0, .int 0, .int 0, .null, .ref (aa 64), .ref (aa 65), .ref (aa 66)])), ((aa 5), .inr (0, [.int 0, .int 0, .int 0, .int (-1), .ref (aa 8), .ref (aa 41), .ref (aa 42), .ref (aa 43), .ref (aa 9), .ref (aa 44), .ref (aa 45), .ref (aa 46), .ref (aa 47), .ref (aa 48), .ref (aa 49), .ref (aa 50), .ref (aa 51)])), ((aa 6), .inl ((kk 0), 900, .inl (fun _ => 0))), ((aa 7), .inl ((kk 1), 22, .inl (fun _ => 0))), ((aa 8), .inl ((kk 2), 8, .inl (fun _ => 0))), ((aa 9), .inl ((kk 3), 22, .inl (fun _ => 0)))] H := hP
  have hD : va_D A [((aa 0), .inr (8, [.ref (aa 6), .int 0, .ref (aa 4), .ref (aa 1), .ref (aa 5), .ref (aa 2), .ref (aa 10), .int 0, .ref (aa 11), .ref (aa 12), .int 0, .ref (aa 13), .ref (aa 14), .ref (aa 3), .ref (aa 15), .ref (aa 16)])), ((aa 1), .inr (0, [.int 0, .int 0, .int 0, .int (-1), .ref (aa 20), .ref (aa 21), .ref (aa 22), .ref (aa 23), .ref (aa 7), .ref (aa 24), .ref (aa 25), .ref (aa 26), .ref (aa 27), .ref (aa 28), .ref (aa 29), .ref (aa 30), .ref (aa 31)])), ((aa 2), .inr (2, [.int 0, .ref (aa 60), .ref (aa 61)])), ((aa 3), .inr (3, [.int 0, .int 0, .int 0, .ref (aa 62), .ref (aa 63)])), ((aa 4), .inr (4, [.int 0, .int (-1), .null, .int 0, .int 0, .int 0, .int 0, .int 0, .null, .ref (aa 64), .ref (aa 65), .ref (aa 66)])), ((aa 5), .inr (0, [.int 0, .int 0, .int 0, .int (-1), .ref (aa 8), .ref (aa 41), .ref (aa 42), .ref (aa 43), .ref (aa 9), .ref (aa 44), .ref (aa 45), .ref (aa 46), .ref (aa 47), .ref (aa 48), .ref (aa 49), .ref (aa 50), .ref (aa 51)])), ((aa 6), .inl ((kk 0), 900, .inl (fun _ => 0))), ((aa 7), .inl ((kk 1), 22, .inl (fun _ => 0))), ((aa 8), .inl ((kk 2), 8, .inl (fun _ => 0))), ((aa 9), .inl ((kk 3), 22, .inl (fun _ => 0)))] := hD
  obtain rfl : r_14 = (-1) := hw
  refine lv_icmp_eq (tgt := 1725) hx hb dL_law_1404 (by decide) (fun _ => ?_) (fun z => absurd z (by decide))
  exact law_tail l C0 hA hAs hS (lv_sub hl [0, 4] rfl) (Nat.le_of_ble_eq_true rfl) (Nat.le_of_ble_eq_true rfl)
set_option maxHeartbeats 4000000 in
set_option maxRecDepth 100000 in
theorem law_case_31 {p : Program} {e : Env} {s : State} {m : MethodId} {below : List Frame} {meth : Method} {c : Code} (l : Launch) (hlt : l.stackTraces = false) {b : Nat} {xs : Nat → Int32} (C0 : lw_At p s m meth c b 7 xs) {A : Nat → Prop} (hA : ∀ q : Nat, s.heap.size ≤ q → A q) (hAs : ∀ q : Nat, A q → s.heap.size ≤ q) (hY : sy_E A s s.heap) {dC : Nat → ClassId} {dI : Nat → Nat → Nat} (aa bb : Nat → Nat) (kk jj : Nat → ClassId) (qo : Nat) (H : Heap) (locs : List Loc) (hK : va_K (dC, dI) vwCl (tX kk ++ tM jj) s) (hP : va_P (dC, dI) vwCl (wX aa kk ++ wM bb jj) H) (hD : va_D A (wX aa kk ++ wM bb jj)) (hS : va_S A s.heap H locs) (ls : Array Slot) (hl : lv_has ls 7 [(0, .ref b), (1, .ref (aa 0)), (2, .ref (bb 0)), (3, .ref qo), (4, .int 0)]) : W p l e room_1 s m #[Value.ref b] below meth c H locs 1717 133609 (lw_Z below #[Value.ref b] s) (F0 m 1409 ls []) := by
  obtain ⟨hx, hb, hr, hml, hown0, hts0, hX, hbl, hlocks, hgv⟩ := id C0
  have hown : s.vm.findClass RL = some m.cls := hown0
  have hts : ∀ w ∈ vsL, w.before #[Value.ref b] s = true := fun w h => hts0 w (vsL_in w h)
  have hbA : ¬ A b := fun h => absurd (hAs b h) (Nat.not_le.mpr hbl)
  refine lv_aload_n hx hb dL_law_1409 rfl (lv_at hl 1 rfl) ?_
  refine lv_aload_n hx hb dL_law_1410 rfl (lv_at hl 0 rfl) ?_
  refine lv_iload hx hb dL_law_1411 (lv_at hl 4 rfl) ?_
  refine lv_iconst (v := 1) hx hb dL_law_1413 (by decide) ?_
  refine lv_iadd hx hb dL_law_1414 ?_
  refine lv_topi (fun y_1 ey_1 => ?_)
  obtain rfl : y_1 = 1 := ey_1.trans (by decide)
  refine va_sld hx hb hX hbl hbA hS (show ¬ (_ ∨ _) by decide) dL_law_1415 ?_
  refine lv_aload_n hx hb dL_law_1416 rfl (lv_at hl 0 rfl) ?_
  refine lv_iload hx hb dL_law_1417 (lv_at hl 4 rfl) ?_
  refine lv_iconst (v := 2) hx hb dL_law_1419 (by decide) ?_
  refine lv_iadd hx hb dL_law_1420 ?_
  refine lv_topi (fun y_2 ey_2 => ?_)
  obtain rfl : y_2 = 2 := ey_2.trans (by decide)
  refine va_sld hx hb hX hbl hbA hS (show ¬ (_ ∨ _) by decide) dL_law_1421 ?_
  refine lv_aload_n hx hb dL_law_1422 rfl (lv_at hl 0 rfl) ?_
  refine lv_iload hx hb dL_law_1423 (lv_at hl 4 rfl) ?_
  refine lv_iconst (v := 3) hx hb dL_law_1425 (by decide) ?_
  refine lv_iadd hx hb dL_law_1426 ?_
  refine lv_topi (fun y_3 ey_3 => ?_)
  obtain rfl : y_3 = 3 := ey_3.trans (by decide)
  refine va_sld hx hb hX hbl hbA hS (show ¬ (_ ∨ _) by decide) dL_law_1427 ?_
  refine va_calli (va_runV (As := [.int (xs (1 : Int32).toNatClampNeg), .int (xs (2 : Int32).toNatClampNeg), .int (xs (3 : Int32).toNatClampNeg)]) (rest := []) ⟨hx, hb, hml, hown, hts⟩ (c_X8_latest l dC dI _ aa kk (xs (1 : Int32).toNatClampNeg) (xs (2 : Int32).toNatClampNeg) (xs (3 : Int32).toNatClampNeg)) (cwV 3 hts g_L_X8_latest rfl rfl rfl (by decide +kernel) ⟨Nat.le_of_ble_eq_true rfl, Nat.le_of_ble_eq_true rfl⟩) ⟨pu_bl, va_recv hK hP (ci := 8) (q0 := 0) rfl rfl, pu_in (hP.sub [0, 1, 2, 3, 4, 5, 6, 7, 8, 9] rfl) (hK.sub [0, 1, 2, 3] rfl) (hD.sub [0, 1, 2, 3, 4, 5, 6, 7, 8, 9] (by decide) rfl)⟩ rfl rfl hl.1 rfl (lv_room (Nat.le_of_ble_eq_true rfl)) dL_law_1428 ⟨Nat.le_of_ble_eq_true rfl, Nat.le_of_ble_eq_true rfl⟩) hS (fun q _ h => pu_fr hS hA q h) (pu_fr hS hA) (fun r_4 u t H1 locs ht hvm hw hB hz1 hk1 hS => ?_)
  have hP := pu_keep hP hk1
  clear hk1 hz1 ht hvm
  generalize H1 = H at hP hS ⊢
  obtain rfl : r_4 = (-1) := hw
  refine lv_aload_n hx hb dL_law_1431 rfl (lv_at hl 2 rfl) ?_
  refine lv_aload_n hx hb dL_law_1432 rfl (lv_at hl 0 rfl) ?_
  refine lv_iload hx hb dL_law_1433 (lv_at hl 4 rfl) ?_
  refine lv_iconst (v := 1) hx hb dL_law_1435 (by decide) ?_
  refine lv_iadd hx hb dL_law_1436 ?_
  refine lv_topi (fun y_5 ey_5 => ?_)
  obtain rfl : y_5 = 1 := ey_5.trans (by decide)
  refine va_sld hx hb hX hbl hbA hS (show ¬ (_ ∨ _) by decide) dL_law_1437 ?_
  refine lv_aload_n hx hb dL_law_1438 rfl (lv_at hl 0 rfl) ?_
  refine lv_iload hx hb dL_law_1439 (lv_at hl 4 rfl) ?_
  refine lv_iconst (v := 2) hx hb dL_law_1441 (by decide) ?_
  refine lv_iadd hx hb dL_law_1442 ?_
  refine lv_topi (fun y_6 ey_6 => ?_)
  obtain rfl : y_6 = 2 := ey_6.trans (by decide)
  refine va_sld hx hb hX hbl hbA hS (show ¬ (_ ∨ _) by decide) dL_law_1443 ?_
  refine lv_aload_n hx hb dL_law_1444 rfl (lv_at hl 0 rfl) ?_
  refine lv_iload hx hb dL_law_1445 (lv_at hl 4 rfl) ?_
  refine lv_iconst (v := 3) hx hb dL_law_1447 (by decide) ?_
  refine lv_iadd hx hb dL_law_1448 ?_
  refine lv_topi (fun y_7 ey_7 => ?_)
  obtain rfl : y_7 = 3 := ey_7.trans (by decide)
  refine va_sld hx hb hX hbl hbA hS (show ¬ (_ ∨ _) by decide) dL_law_1449 ?_
  have hFc := va_free (wc := [((bb 0), .inr (9, [.int 0, .ref (bb 10), .ref (bb 11), .ref (bb 12), .ref (bb 13), .ref (bb 14), .ref (bb 15), .ref (bb 16), .ref (bb 17), .ref (bb 18), .ref (bb 19), .ref (bb 20), .ref (bb 1), .ref (bb 2), .ref (bb 3), .ref (bb 4), .int 0, .ref (bb 5), .int 0, .int 0, .int 0, .int 0, .int 0, .int 0, .int 0, .int (-1), .int 0, .int 0, .int 0, .int 0, .int 0, .ref (bb 21), .ref (bb 22), .int 0, .ref (bb 23), .ref (bb 24), .ref (bb 25), .ref (bb 26), .ref (bb 27), .ref (bb 28), .ref (bb 29), .ref (bb 30), .ref (bb 31), .ref (bb 32), .ref (bb 33), .int 0, .int 0, .ref (bb 34), .ref (bb 35), .ref (bb 36), .ref (bb 37), .ref (bb 38), .int 0, .int 0, .ref (bb 39), .ref (bb 40), .ref (bb 41), .ref (bb 42), .ref (bb 43), .ref (bb 44), .ref (bb 45), .int 0, .int 0, .int 0, .ref (bb 46), .int 0, .int 0])), ((bb 1), .inl ((jj 1), 2, .inl (fun _ => 0))), ((bb 2), .inl ((jj 2), 2, .inl (fun _ => 0))), ((bb 3), .inl ((jj 3), 2, .inl (fun _ => 0))), ((bb 4), .inl ((jj 4), 2, .inl begF)), ((bb 5), .inl ((jj 5), 900, .inl (fun _ => 0)))]) hD hS hA [10, 11, 12, 13, 14, 15] rfl
  refine va_calli (va_runV (As := [.int (xs (1 : Int32).toNatClampNeg), .int (xs (2 : Int32).toNatClampNeg), .int (xs (3 : Int32).toNatClampNeg)]) (rest := [.int (-1)]) ⟨hx, hb, hml, hown, hts⟩ (c_X9_latest l dC dI _ bb jj (xs (1 : Int32).toNatClampNeg) (xs (2 : Int32).toNatClampNeg) (xs (3 : Int32).toNatClampNeg)) (cwV 3 hts g_L_X9_latest rfl rfl rfl (by decide +kernel) ⟨Nat.le_of_ble_eq_true rfl, Nat.le_of_ble_eq_true rfl⟩) ⟨pu_bl, va_recv hK hP (ci := 9) (q0 := 10) rfl rfl, pu_in (hP.sub [10, 11, 12, 13, 14, 15] rfl) (hK.sub [4, 5, 6, 7, 8] rfl) (hD.sub [10, 11, 12, 13, 14, 15] (by decide) rfl)⟩ rfl rfl hl.1 rfl (lv_room (Nat.le_of_ble_eq_true rfl)) dL_law_1450 ⟨Nat.le_of_ble_eq_true rfl, Nat.le_of_ble_eq_true rfl⟩) hS (fun q _ h => hFc q h) hFc (fun r_8 u t H1 locs ht hvm hw hB hz1 hk1 hS => ?_)
  obtain ⟨hP, hD⟩ := va_join (wr := [((aa 0), .inr (8, [.ref (aa 6), .int 0, .ref (aa 4), .ref (aa 1), .ref (aa 5), .ref (aa 2), .ref (aa 10), .int 0, .ref (aa 11), .ref (aa 12), .int 0, .ref (aa 13), .ref (aa 14), .ref (aa 3), .ref (aa 15), .ref (aa 16)])), ((aa 1), .inr (0, [.int 0, .int 0, .int 0, .int (-1), .ref (aa 20), .ref (aa 21), .ref (aa 22), .ref (aa 23), .ref (aa 7), .ref (aa 24), .ref (aa 25), .ref (aa 26), .ref (aa 27), .ref (aa 28), .ref (aa 29), .ref (aa 30), .ref (aa 31)])), ((aa 2), .inr (2, [.int 0, .ref (aa 60), .ref (aa 61)])), ((aa 3), .inr (3, [.int 0, .int 0, .int 0, .ref (aa 62), .ref (aa 63)])), ((aa 4), .inr (4, [.int 0, .int (-1), .null, .int 0, .int 0, .int 0, .int 0, .int 0, .null, .ref (aa 64), .ref (aa 65), .ref (aa 66)])), ((aa 5), .inr (0, [.int 0, .int 0, .int 0, .int (-1), .ref (aa 8), .ref (aa 41), .ref (aa 42), .ref (aa 43), .ref (aa 9), .ref (aa 44), .ref (aa 45), .ref (aa 46), .ref (aa 47), .ref (aa 48), .ref (aa 49), .ref (aa 50), .ref (aa 51)])), ((aa 6), .inl ((kk 0), 900, .inl (fun _ => 0))), ((aa 7), .inl ((kk 1), 22, .inl (fun _ => 0))), ((aa 8), .inl ((kk 2), 8, .inl (fun _ => 0))), ((aa 9), .inl ((kk 3), 22, .inl (fun _ => 0)))]) (w1 := []) hP hD [10, 11, 12, 13, 14, 15] [0, 1, 2, 3, 4, 5, 6, 7, 8, 9] rfl rfl (by decide) (by decide) hk1 hFc pu_P0 pu_D0
  clear hk1 hz1 ht hvm
  generalize H1 = H at hP hS ⊢
  have hP : va_P (dC, dI) vwCl [((aa 0), .inr (8, [.ref (aa 6), .int 0, .ref (aa 4), .ref (aa 1), .ref (aa 5), .ref (aa 2), .ref (aa 10), .int 0, .ref (aa 11), .ref (aa 12), .int 0, .ref (aa 13), .ref (aa 14), .ref (aa 3), .ref (aa 15), .ref (aa 16)])), ((aa 1), .inr (0, [.int 0, .int 0, .int 0, .int (-1), .ref (aa 20), .ref (aa 21), .ref (aa 22), .ref (aa 23), .ref (aa 7), .ref (aa 24), .ref (aa 25), .ref (aa 26), .ref (aa 27), .ref (aa 28), .ref (aa 29), .ref (aa 30), .ref (aa 31)])), ((aa 2), .inr (2, [.int 0, .ref (aa 60), .ref (aa 61)])), ((aa 3), .inr (3, [.int 0, .int 0, .int 0, .ref (aa 62), .ref (aa 63)])), ((aa 4), .inr (4, [.int 0, .int (-1), .null, .int 0, .int 0, .int 0, .int 0, .int 0, .null, .ref (aa 64), .ref (aa 65), .ref (aa 66)])), ((aa 5), .inr (0, [.int 0, .int 0, .int 0, .int (-1), .ref (aa 8), .ref (aa 41), .ref (aa 42), .ref (aa 43), .ref (aa 9), .ref (aa 44), .ref (aa 45), .ref (aa 46), .ref (aa 47), .ref (aa 48), .ref (aa 49), .ref (aa 50), .ref (aa 51)])), ((aa 6), .inl ((kk 0), 900, .inl (fun _ => 0))), ((aa 7), .inl ((kk 1), 22, .inl (fun _ => 0))), ((aa 8), .inl ((kk 2), 8, .inl (fun _ => 0))), ((aa 9), .inl ((kk 3), 22, .inl (fun _ => 0)))] H := hP
  have hD : va_D A [((aa 0), .inr (8, [.ref (aa 6), .int 0, .ref (aa 4), .ref (aa 1), .ref (aa 5), .ref (aa 2), .ref (aa 10), .int 0, .ref (aa 11), .ref (aa 12), .int 0, .ref (aa 13), .ref (aa 14), .ref (aa 3), .ref (aa 15), .ref (aa 16)])), ((aa 1), .inr (0, [.int 0, .int 0, .int 0, .int (-1), .ref (aa 20), .ref (aa 21), .ref (aa 22), .ref (aa 23), .ref (aa 7), .ref (aa 24), .ref (aa 25), .ref (aa 26), .ref (aa 27), .ref (aa 28), .ref (aa 29), .ref (aa 30), .ref (aa 31)])), ((aa 2), .inr (2, [.int 0, .ref (aa 60), .ref (aa 61)])), ((aa 3), .inr (3, [.int 0, .int 0, .int 0, .ref (aa 62), .ref (aa 63)])), ((aa 4), .inr (4, [.int 0, .int (-1), .null, .int 0, .int 0, .int 0, .int 0, .int 0, .null, .ref (aa 64), .ref (aa 65), .ref (aa 66)])), ((aa 5), .inr (0, [.int 0, .int 0, .int 0, .int (-1), .ref (aa 8), .ref (aa 41), .ref (aa 42), .ref (aa 43), .ref (aa 9), .ref (aa 44), .ref (aa 45), .ref (aa 46), .ref (aa 47), .ref (aa 48), .ref (aa 49), .ref (aa 50), .ref (aa 51)])), ((aa 6), .inl ((kk 0), 900, .inl (fun _ => 0))), ((aa 7), .inl ((kk 1), 22, .inl (fun _ => 0))), ((aa 8), .inl ((kk 2), 8, .inl (fun _ => 0))), ((aa 9), .inl ((kk 3), 22, .inl (fun _ => 0)))] := hD
  obtain rfl : r_8 = (-1) := hw
  refine lv_icmp_eq (tgt := 1725) hx hb dL_law_1453 (by decide) (fun _ => ?_) (fun z => absurd z (by decide))
  exact law_tail l C0 hA hAs hS (lv_sub hl [0, 4] rfl) (Nat.le_of_ble_eq_true rfl) (Nat.le_of_ble_eq_true rfl)
set_option maxHeartbeats 4000000 in
set_option maxRecDepth 100000 in
theorem law_case_32 {p : Program} {e : Env} {s : State} {m : MethodId} {below : List Frame} {meth : Method} {c : Code} (l : Launch) (hlt : l.stackTraces = false) {b : Nat} {xs : Nat → Int32} (C0 : lw_At p s m meth c b 7 xs) {A : Nat → Prop} (hA : ∀ q : Nat, s.heap.size ≤ q → A q) (hAs : ∀ q : Nat, A q → s.heap.size ≤ q) (hY : sy_E A s s.heap) {dC : Nat → ClassId} {dI : Nat → Nat → Nat} (aa bb : Nat → Nat) (kk jj : Nat → ClassId) (qo : Nat) (H : Heap) (locs : List Loc) (hK : va_K (dC, dI) vwCl (tX kk ++ tM jj) s) (hP : va_P (dC, dI) vwCl (wX aa kk ++ wM bb jj) H) (hD : va_D A (wX aa kk ++ wM bb jj)) (hS : va_S A s.heap H locs) (ls : Array Slot) (hl : lv_has ls 7 [(0, .ref b), (1, .ref (aa 0)), (2, .ref (bb 0)), (3, .ref qo), (4, .int 0)]) : W p l e room_1 s m #[Value.ref b] below meth c H locs 1717 133609 (lw_Z below #[Value.ref b] s) (F0 m 1458 ls []) := by
  obtain ⟨hx, hb, hr, hml, hown0, hts0, hX, hbl, hlocks, hgv⟩ := id C0
  have hown : s.vm.findClass RL = some m.cls := hown0
  have hts : ∀ w ∈ vsL, w.before #[Value.ref b] s = true := fun w h => hts0 w (vsL_in w h)
  have hbA : ¬ A b := fun h => absurd (hAs b h) (Nat.not_le.mpr hbl)
  refine lv_aload_n hx hb dL_law_1458 rfl (lv_at hl 1 rfl) ?_
  refine lv_aload_n hx hb dL_law_1459 rfl (lv_at hl 0 rfl) ?_
  refine lv_iload hx hb dL_law_1460 (lv_at hl 4 rfl) ?_
  refine lv_iconst (v := 1) hx hb dL_law_1462 (by decide) ?_
  refine lv_iadd hx hb dL_law_1463 ?_
  refine lv_topi (fun y_1 ey_1 => ?_)
  obtain rfl : y_1 = 1 := ey_1.trans (by decide)
  refine va_sld hx hb hX hbl hbA hS (show ¬ (_ ∨ _) by decide) dL_law_1464 ?_
  refine lv_aload_n hx hb dL_law_1465 rfl (lv_at hl 0 rfl) ?_
  refine lv_iload hx hb dL_law_1466 (lv_at hl 4 rfl) ?_
  refine lv_iconst (v := 2) hx hb dL_law_1468 (by decide) ?_
  refine lv_iadd hx hb dL_law_1469 ?_
  refine lv_topi (fun y_2 ey_2 => ?_)
  obtain rfl : y_2 = 2 := ey_2.trans (by decide)
  refine va_sld hx hb hX hbl hbA hS (show ¬ (_ ∨ _) by decide) dL_law_1470 ?_
  refine va_calli (va_runV (As := [.int (xs (1 : Int32).toNatClampNeg), .int (xs (2 : Int32).toNatClampNeg)]) (rest := []) ⟨hx, hb, hml, hown, hts⟩ (c_X8_soonest l dC dI _ aa kk (xs (1 : Int32).toNatClampNeg) (xs (2 : Int32).toNatClampNeg)) (cwV 2 hts g_L_X8_soonest rfl rfl rfl (by decide +kernel) ⟨Nat.le_of_ble_eq_true rfl, Nat.le_of_ble_eq_true rfl⟩) ⟨pu_bl, va_recv hK hP (ci := 8) (q0 := 0) rfl rfl, pu_in (hP.sub [0, 1, 2, 3, 4, 5, 6, 7, 8, 9] rfl) (hK.sub [0, 1, 2, 3] rfl) (hD.sub [0, 1, 2, 3, 4, 5, 6, 7, 8, 9] (by decide) rfl)⟩ rfl rfl hl.1 rfl (lv_room (Nat.le_of_ble_eq_true rfl)) dL_law_1471 ⟨Nat.le_of_ble_eq_true rfl, Nat.le_of_ble_eq_true rfl⟩) hS (fun q _ h => pu_fr hS hA q h) (pu_fr hS hA) (fun r_3 u t H1 locs ht hvm hw hB hz1 hk1 hS => ?_)
  have hP := pu_keep hP hk1
  clear hk1 hz1 ht hvm
  generalize H1 = H at hP hS ⊢
  obtain rfl : r_3 = (-1) := hw
  refine lv_aload_n hx hb dL_law_1474 rfl (lv_at hl 2 rfl) ?_
  refine lv_aload_n hx hb dL_law_1475 rfl (lv_at hl 0 rfl) ?_
  refine lv_iload hx hb dL_law_1476 (lv_at hl 4 rfl) ?_
  refine lv_iconst (v := 1) hx hb dL_law_1478 (by decide) ?_
  refine lv_iadd hx hb dL_law_1479 ?_
  refine lv_topi (fun y_4 ey_4 => ?_)
  obtain rfl : y_4 = 1 := ey_4.trans (by decide)
  refine va_sld hx hb hX hbl hbA hS (show ¬ (_ ∨ _) by decide) dL_law_1480 ?_
  refine lv_aload_n hx hb dL_law_1481 rfl (lv_at hl 0 rfl) ?_
  refine lv_iload hx hb dL_law_1482 (lv_at hl 4 rfl) ?_
  refine lv_iconst (v := 2) hx hb dL_law_1484 (by decide) ?_
  refine lv_iadd hx hb dL_law_1485 ?_
  refine lv_topi (fun y_5 ey_5 => ?_)
  obtain rfl : y_5 = 2 := ey_5.trans (by decide)
  refine va_sld hx hb hX hbl hbA hS (show ¬ (_ ∨ _) by decide) dL_law_1486 ?_
  have hFc := va_free (wc := [((bb 0), .inr (9, [.int 0, .ref (bb 10), .ref (bb 11), .ref (bb 12), .ref (bb 13), .ref (bb 14), .ref (bb 15), .ref (bb 16), .ref (bb 17), .ref (bb 18), .ref (bb 19), .ref (bb 20), .ref (bb 1), .ref (bb 2), .ref (bb 3), .ref (bb 4), .int 0, .ref (bb 5), .int 0, .int 0, .int 0, .int 0, .int 0, .int 0, .int 0, .int (-1), .int 0, .int 0, .int 0, .int 0, .int 0, .ref (bb 21), .ref (bb 22), .int 0, .ref (bb 23), .ref (bb 24), .ref (bb 25), .ref (bb 26), .ref (bb 27), .ref (bb 28), .ref (bb 29), .ref (bb 30), .ref (bb 31), .ref (bb 32), .ref (bb 33), .int 0, .int 0, .ref (bb 34), .ref (bb 35), .ref (bb 36), .ref (bb 37), .ref (bb 38), .int 0, .int 0, .ref (bb 39), .ref (bb 40), .ref (bb 41), .ref (bb 42), .ref (bb 43), .ref (bb 44), .ref (bb 45), .int 0, .int 0, .int 0, .ref (bb 46), .int 0, .int 0])), ((bb 1), .inl ((jj 1), 2, .inl (fun _ => 0))), ((bb 2), .inl ((jj 2), 2, .inl (fun _ => 0))), ((bb 3), .inl ((jj 3), 2, .inl (fun _ => 0))), ((bb 4), .inl ((jj 4), 2, .inl begF)), ((bb 5), .inl ((jj 5), 900, .inl (fun _ => 0)))]) hD hS hA [10, 11, 12, 13, 14, 15] rfl
  refine va_calli (va_runV (As := [.int (xs (1 : Int32).toNatClampNeg), .int (xs (2 : Int32).toNatClampNeg)]) (rest := [.int (-1)]) ⟨hx, hb, hml, hown, hts⟩ (c_X9_soonest l dC dI _ bb jj (xs (1 : Int32).toNatClampNeg) (xs (2 : Int32).toNatClampNeg)) (cwV 2 hts g_L_X9_soonest rfl rfl rfl (by decide +kernel) ⟨Nat.le_of_ble_eq_true rfl, Nat.le_of_ble_eq_true rfl⟩) ⟨pu_bl, va_recv hK hP (ci := 9) (q0 := 10) rfl rfl, pu_in (hP.sub [10, 11, 12, 13, 14, 15] rfl) (hK.sub [4, 5, 6, 7, 8] rfl) (hD.sub [10, 11, 12, 13, 14, 15] (by decide) rfl)⟩ rfl rfl hl.1 rfl (lv_room (Nat.le_of_ble_eq_true rfl)) dL_law_1487 ⟨Nat.le_of_ble_eq_true rfl, Nat.le_of_ble_eq_true rfl⟩) hS (fun q _ h => hFc q h) hFc (fun r_6 u t H1 locs ht hvm hw hB hz1 hk1 hS => ?_)
  obtain ⟨hP, hD⟩ := va_join (wr := [((aa 0), .inr (8, [.ref (aa 6), .int 0, .ref (aa 4), .ref (aa 1), .ref (aa 5), .ref (aa 2), .ref (aa 10), .int 0, .ref (aa 11), .ref (aa 12), .int 0, .ref (aa 13), .ref (aa 14), .ref (aa 3), .ref (aa 15), .ref (aa 16)])), ((aa 1), .inr (0, [.int 0, .int 0, .int 0, .int (-1), .ref (aa 20), .ref (aa 21), .ref (aa 22), .ref (aa 23), .ref (aa 7), .ref (aa 24), .ref (aa 25), .ref (aa 26), .ref (aa 27), .ref (aa 28), .ref (aa 29), .ref (aa 30), .ref (aa 31)])), ((aa 2), .inr (2, [.int 0, .ref (aa 60), .ref (aa 61)])), ((aa 3), .inr (3, [.int 0, .int 0, .int 0, .ref (aa 62), .ref (aa 63)])), ((aa 4), .inr (4, [.int 0, .int (-1), .null, .int 0, .int 0, .int 0, .int 0, .int 0, .null, .ref (aa 64), .ref (aa 65), .ref (aa 66)])), ((aa 5), .inr (0, [.int 0, .int 0, .int 0, .int (-1), .ref (aa 8), .ref (aa 41), .ref (aa 42), .ref (aa 43), .ref (aa 9), .ref (aa 44), .ref (aa 45), .ref (aa 46), .ref (aa 47), .ref (aa 48), .ref (aa 49), .ref (aa 50), .ref (aa 51)])), ((aa 6), .inl ((kk 0), 900, .inl (fun _ => 0))), ((aa 7), .inl ((kk 1), 22, .inl (fun _ => 0))), ((aa 8), .inl ((kk 2), 8, .inl (fun _ => 0))), ((aa 9), .inl ((kk 3), 22, .inl (fun _ => 0)))]) (w1 := []) hP hD [10, 11, 12, 13, 14, 15] [0, 1, 2, 3, 4, 5, 6, 7, 8, 9] rfl rfl (by decide) (by decide) hk1 hFc pu_P0 pu_D0
  clear hk1 hz1 ht hvm
  generalize H1 = H at hP hS ⊢
  have hP : va_P (dC, dI) vwCl [((aa 0), .inr (8, [.ref (aa 6), .int 0, .ref (aa 4), .ref (aa 1), .ref (aa 5), .ref (aa 2), .ref (aa 10), .int 0, .ref (aa 11), .ref (aa 12), .int 0, .ref (aa 13), .ref (aa 14), .ref (aa 3), .ref (aa 15), .ref (aa 16)])), ((aa 1), .inr (0, [.int 0, .int 0, .int 0, .int (-1), .ref (aa 20), .ref (aa 21), .ref (aa 22), .ref (aa 23), .ref (aa 7), .ref (aa 24), .ref (aa 25), .ref (aa 26), .ref (aa 27), .ref (aa 28), .ref (aa 29), .ref (aa 30), .ref (aa 31)])), ((aa 2), .inr (2, [.int 0, .ref (aa 60), .ref (aa 61)])), ((aa 3), .inr (3, [.int 0, .int 0, .int 0, .ref (aa 62), .ref (aa 63)])), ((aa 4), .inr (4, [.int 0, .int (-1), .null, .int 0, .int 0, .int 0, .int 0, .int 0, .null, .ref (aa 64), .ref (aa 65), .ref (aa 66)])), ((aa 5), .inr (0, [.int 0, .int 0, .int 0, .int (-1), .ref (aa 8), .ref (aa 41), .ref (aa 42), .ref (aa 43), .ref (aa 9), .ref (aa 44), .ref (aa 45), .ref (aa 46), .ref (aa 47), .ref (aa 48), .ref (aa 49), .ref (aa 50), .ref (aa 51)])), ((aa 6), .inl ((kk 0), 900, .inl (fun _ => 0))), ((aa 7), .inl ((kk 1), 22, .inl (fun _ => 0))), ((aa 8), .inl ((kk 2), 8, .inl (fun _ => 0))), ((aa 9), .inl ((kk 3), 22, .inl (fun _ => 0)))] H := hP
  have hD : va_D A [((aa 0), .inr (8, [.ref (aa 6), .int 0, .ref (aa 4), .ref (aa 1), .ref (aa 5), .ref (aa 2), .ref (aa 10), .int 0, .ref (aa 11), .ref (aa 12), .int 0, .ref (aa 13), .ref (aa 14), .ref (aa 3), .ref (aa 15), .ref (aa 16)])), ((aa 1), .inr (0, [.int 0, .int 0, .int 0, .int (-1), .ref (aa 20), .ref (aa 21), .ref (aa 22), .ref (aa 23), .ref (aa 7), .ref (aa 24), .ref (aa 25), .ref (aa 26), .ref (aa 27), .ref (aa 28), .ref (aa 29), .ref (aa 30), .ref (aa 31)])), ((aa 2), .inr (2, [.int 0, .ref (aa 60), .ref (aa 61)])), ((aa 3), .inr (3, [.int 0, .int 0, .int 0, .ref (aa 62), .ref (aa 63)])), ((aa 4), .inr (4, [.int 0, .int (-1), .null, .int 0, .int 0, .int 0, .int 0, .int 0, .null, .ref (aa 64), .ref (aa 65), .ref (aa 66)])), ((aa 5), .inr (0, [.int 0, .int 0, .int 0, .int (-1), .ref (aa 8), .ref (aa 41), .ref (aa 42), .ref (aa 43), .ref (aa 9), .ref (aa 44), .ref (aa 45), .ref (aa 46), .ref (aa 47), .ref (aa 48), .ref (aa 49), .ref (aa 50), .ref (aa 51)])), ((aa 6), .inl ((kk 0), 900, .inl (fun _ => 0))), ((aa 7), .inl ((kk 1), 22, .inl (fun _ => 0))), ((aa 8), .inl ((kk 2), 8, .inl (fun _ => 0))), ((aa 9), .inl ((kk 3), 22, .inl (fun _ => 0)))] := hD
  obtain rfl : r_6 = (-1) := hw
  refine lv_icmp_eq (tgt := 1725) hx hb dL_law_1490 (by decide) (fun _ => ?_) (fun z => absurd z (by decide))
  exact law_tail l C0 hA hAs hS (lv_sub hl [0, 4] rfl) (Nat.le_of_ble_eq_true rfl) (Nat.le_of_ble_eq_true rfl)
set_option maxHeartbeats 4000000 in
set_option maxRecDepth 100000 in
theorem law_case_33 {p : Program} {e : Env} {s : State} {m : MethodId} {below : List Frame} {meth : Method} {c : Code} (l : Launch) (hlt : l.stackTraces = false) {b : Nat} {xs : Nat → Int32} (C0 : lw_At p s m meth c b 7 xs) {A : Nat → Prop} (hA : ∀ q : Nat, s.heap.size ≤ q → A q) (hAs : ∀ q : Nat, A q → s.heap.size ≤ q) (hY : sy_E A s s.heap) {dC : Nat → ClassId} {dI : Nat → Nat → Nat} (aa bb : Nat → Nat) (kk jj : Nat → ClassId) (qo : Nat) (H : Heap) (locs : List Loc) (hK : va_K (dC, dI) vwCl (tX kk ++ tM jj) s) (hP : va_P (dC, dI) vwCl (wX aa kk ++ wM bb jj) H) (hD : va_D A (wX aa kk ++ wM bb jj)) (hS : va_S A s.heap H locs) (ls : Array Slot) (hl : lv_has ls 7 [(0, .ref b), (1, .ref (aa 0)), (2, .ref (bb 0)), (3, .ref qo), (4, .int 0)]) : W p l e room_1 s m #[Value.ref b] below meth c H locs 1717 133609 (lw_Z below #[Value.ref b] s) (F0 m 1495 ls []) := by
  obtain ⟨hx, hb, hr, hml, hown0, hts0, hX, hbl, hlocks, hgv⟩ := id C0
  have hown : s.vm.findClass RL = some m.cls := hown0
  have hts : ∀ w ∈ vsL, w.before #[Value.ref b] s = true := fun w h => hts0 w (vsL_in w h)
  have hbA : ¬ A b := fun h => absurd (hAs b h) (Nat.not_le.mpr hbl)
  refine lv_aload_n hx hb dL_law_1495 rfl (lv_at hl 1 rfl) ?_
  refine lv_aload_n hx hb dL_law_1496 rfl (lv_at hl 0 rfl) ?_
  refine lv_iload hx hb dL_law_1497 (lv_at hl 4 rfl) ?_
  refine lv_iconst (v := 1) hx hb dL_law_1499 (by decide) ?_
  refine lv_iadd hx hb dL_law_1500 ?_
  refine lv_topi (fun y_1 ey_1 => ?_)
  obtain rfl : y_1 = 1 := ey_1.trans (by decide)
  refine va_sld hx hb hX hbl hbA hS (show ¬ (_ ∨ _) by decide) dL_law_1501 ?_
  refine lv_aload_n hx hb dL_law_1502 rfl (lv_at hl 0 rfl) ?_
  refine lv_iload hx hb dL_law_1503 (lv_at hl 4 rfl) ?_
  refine lv_iconst (v := 2) hx hb dL_law_1505 (by decide) ?_
  refine lv_iadd hx hb dL_law_1506 ?_
  refine lv_topi (fun y_2 ey_2 => ?_)
  obtain rfl : y_2 = 2 := ey_2.trans (by decide)
  refine va_sld hx hb hX hbl hbA hS (show ¬ (_ ∨ _) by decide) dL_law_1507 ?_
  refine lv_aload_n hx hb dL_law_1508 rfl (lv_at hl 0 rfl) ?_
  refine lv_iload hx hb dL_law_1509 (lv_at hl 4 rfl) ?_
  refine lv_iconst (v := 3) hx hb dL_law_1511 (by decide) ?_
  refine lv_iadd hx hb dL_law_1512 ?_
  refine lv_topi (fun y_3 ey_3 => ?_)
  obtain rfl : y_3 = 3 := ey_3.trans (by decide)
  refine va_sld hx hb hX hbl hbA hS (show ¬ (_ ∨ _) by decide) dL_law_1513 ?_
  refine lv_aload_n hx hb dL_law_1514 rfl (lv_at hl 0 rfl) ?_
  refine lv_iload hx hb dL_law_1515 (lv_at hl 4 rfl) ?_
  refine lv_iconst (v := 4) hx hb dL_law_1517 (by decide) ?_
  refine lv_iadd hx hb dL_law_1518 ?_
  refine lv_topi (fun y_4 ey_4 => ?_)
  obtain rfl : y_4 = 4 := ey_4.trans (by decide)
  refine va_sld hx hb hX hbl hbA hS (show ¬ (_ ∨ _) by decide) dL_law_1519 ?_
  refine va_calli (va_runV (As := [.int (xs (1 : Int32).toNatClampNeg), .int (xs (2 : Int32).toNatClampNeg), .int (xs (3 : Int32).toNatClampNeg), .int (xs (4 : Int32).toNatClampNeg)]) (rest := []) ⟨hx, hb, hml, hown, hts⟩ (c_X8_lets l dC dI _ aa kk (xs (1 : Int32).toNatClampNeg) (xs (2 : Int32).toNatClampNeg) (xs (3 : Int32).toNatClampNeg) (xs (4 : Int32).toNatClampNeg)) (cwV 4 hts g_L_X8_lets rfl rfl rfl (by decide +kernel) ⟨Nat.le_of_ble_eq_true rfl, Nat.le_of_ble_eq_true rfl⟩) ⟨pu_bl, va_recv hK hP (ci := 8) (q0 := 0) rfl rfl, pu_in (hP.sub [0, 1, 2, 3, 4, 5, 6, 7, 8, 9] rfl) (hK.sub [0, 1, 2, 3] rfl) (hD.sub [0, 1, 2, 3, 4, 5, 6, 7, 8, 9] (by decide) rfl)⟩ rfl rfl hl.1 rfl (lv_room (Nat.le_of_ble_eq_true rfl)) dL_law_1520 ⟨Nat.le_of_ble_eq_true rfl, Nat.le_of_ble_eq_true rfl⟩) hS (fun q _ h => pu_fr hS hA q h) (pu_fr hS hA) (fun r_5 u t H1 locs ht hvm hw hB hz1 hk1 hS => ?_)
  have hP := pu_keep hP hk1
  clear hk1 hz1 ht hvm
  generalize H1 = H at hP hS ⊢
  obtain rfl : r_5 = (-1) := hw
  refine lv_aload_n hx hb dL_law_1523 rfl (lv_at hl 2 rfl) ?_
  refine lv_aload_n hx hb dL_law_1524 rfl (lv_at hl 0 rfl) ?_
  refine lv_iload hx hb dL_law_1525 (lv_at hl 4 rfl) ?_
  refine lv_iconst (v := 1) hx hb dL_law_1527 (by decide) ?_
  refine lv_iadd hx hb dL_law_1528 ?_
  refine lv_topi (fun y_6 ey_6 => ?_)
  obtain rfl : y_6 = 1 := ey_6.trans (by decide)
  refine va_sld hx hb hX hbl hbA hS (show ¬ (_ ∨ _) by decide) dL_law_1529 ?_
  refine lv_aload_n hx hb dL_law_1530 rfl (lv_at hl 0 rfl) ?_
  refine lv_iload hx hb dL_law_1531 (lv_at hl 4 rfl) ?_
  refine lv_iconst (v := 2) hx hb dL_law_1533 (by decide) ?_
  refine lv_iadd hx hb dL_law_1534 ?_
  refine lv_topi (fun y_7 ey_7 => ?_)
  obtain rfl : y_7 = 2 := ey_7.trans (by decide)
  refine va_sld hx hb hX hbl hbA hS (show ¬ (_ ∨ _) by decide) dL_law_1535 ?_
  refine lv_aload_n hx hb dL_law_1536 rfl (lv_at hl 0 rfl) ?_
  refine lv_iload hx hb dL_law_1537 (lv_at hl 4 rfl) ?_
  refine lv_iconst (v := 3) hx hb dL_law_1539 (by decide) ?_
  refine lv_iadd hx hb dL_law_1540 ?_
  refine lv_topi (fun y_8 ey_8 => ?_)
  obtain rfl : y_8 = 3 := ey_8.trans (by decide)
  refine va_sld hx hb hX hbl hbA hS (show ¬ (_ ∨ _) by decide) dL_law_1541 ?_
  refine lv_aload_n hx hb dL_law_1542 rfl (lv_at hl 0 rfl) ?_
  refine lv_iload hx hb dL_law_1543 (lv_at hl 4 rfl) ?_
  refine lv_iconst (v := 4) hx hb dL_law_1545 (by decide) ?_
  refine lv_iadd hx hb dL_law_1546 ?_
  refine lv_topi (fun y_9 ey_9 => ?_)
  obtain rfl : y_9 = 4 := ey_9.trans (by decide)
  refine va_sld hx hb hX hbl hbA hS (show ¬ (_ ∨ _) by decide) dL_law_1547 ?_
  have hFc := va_free (wc := [((bb 0), .inr (9, [.int 0, .ref (bb 10), .ref (bb 11), .ref (bb 12), .ref (bb 13), .ref (bb 14), .ref (bb 15), .ref (bb 16), .ref (bb 17), .ref (bb 18), .ref (bb 19), .ref (bb 20), .ref (bb 1), .ref (bb 2), .ref (bb 3), .ref (bb 4), .int 0, .ref (bb 5), .int 0, .int 0, .int 0, .int 0, .int 0, .int 0, .int 0, .int (-1), .int 0, .int 0, .int 0, .int 0, .int 0, .ref (bb 21), .ref (bb 22), .int 0, .ref (bb 23), .ref (bb 24), .ref (bb 25), .ref (bb 26), .ref (bb 27), .ref (bb 28), .ref (bb 29), .ref (bb 30), .ref (bb 31), .ref (bb 32), .ref (bb 33), .int 0, .int 0, .ref (bb 34), .ref (bb 35), .ref (bb 36), .ref (bb 37), .ref (bb 38), .int 0, .int 0, .ref (bb 39), .ref (bb 40), .ref (bb 41), .ref (bb 42), .ref (bb 43), .ref (bb 44), .ref (bb 45), .int 0, .int 0, .int 0, .ref (bb 46), .int 0, .int 0])), ((bb 1), .inl ((jj 1), 2, .inl (fun _ => 0))), ((bb 2), .inl ((jj 2), 2, .inl (fun _ => 0))), ((bb 3), .inl ((jj 3), 2, .inl (fun _ => 0))), ((bb 4), .inl ((jj 4), 2, .inl begF)), ((bb 5), .inl ((jj 5), 900, .inl (fun _ => 0)))]) hD hS hA [10, 11, 12, 13, 14, 15] rfl
  refine va_calli (va_runV (As := [.int (xs (1 : Int32).toNatClampNeg), .int (xs (2 : Int32).toNatClampNeg), .int (xs (3 : Int32).toNatClampNeg), .int (xs (4 : Int32).toNatClampNeg)]) (rest := [.int (-1)]) ⟨hx, hb, hml, hown, hts⟩ (c_X9_lets l dC dI _ bb jj (xs (1 : Int32).toNatClampNeg) (xs (2 : Int32).toNatClampNeg) (xs (3 : Int32).toNatClampNeg) (xs (4 : Int32).toNatClampNeg)) (cwV 4 hts g_L_X9_lets rfl rfl rfl (by decide +kernel) ⟨Nat.le_of_ble_eq_true rfl, Nat.le_of_ble_eq_true rfl⟩) ⟨pu_bl, va_recv hK hP (ci := 9) (q0 := 10) rfl rfl, pu_in (hP.sub [10, 11, 12, 13, 14, 15] rfl) (hK.sub [4, 5, 6, 7, 8] rfl) (hD.sub [10, 11, 12, 13, 14, 15] (by decide) rfl)⟩ rfl rfl hl.1 rfl (lv_room (Nat.le_of_ble_eq_true rfl)) dL_law_1548 ⟨Nat.le_of_ble_eq_true rfl, Nat.le_of_ble_eq_true rfl⟩) hS (fun q _ h => hFc q h) hFc (fun r_10 u t H1 locs ht hvm hw hB hz1 hk1 hS => ?_)
  obtain ⟨hP, hD⟩ := va_join (wr := [((aa 0), .inr (8, [.ref (aa 6), .int 0, .ref (aa 4), .ref (aa 1), .ref (aa 5), .ref (aa 2), .ref (aa 10), .int 0, .ref (aa 11), .ref (aa 12), .int 0, .ref (aa 13), .ref (aa 14), .ref (aa 3), .ref (aa 15), .ref (aa 16)])), ((aa 1), .inr (0, [.int 0, .int 0, .int 0, .int (-1), .ref (aa 20), .ref (aa 21), .ref (aa 22), .ref (aa 23), .ref (aa 7), .ref (aa 24), .ref (aa 25), .ref (aa 26), .ref (aa 27), .ref (aa 28), .ref (aa 29), .ref (aa 30), .ref (aa 31)])), ((aa 2), .inr (2, [.int 0, .ref (aa 60), .ref (aa 61)])), ((aa 3), .inr (3, [.int 0, .int 0, .int 0, .ref (aa 62), .ref (aa 63)])), ((aa 4), .inr (4, [.int 0, .int (-1), .null, .int 0, .int 0, .int 0, .int 0, .int 0, .null, .ref (aa 64), .ref (aa 65), .ref (aa 66)])), ((aa 5), .inr (0, [.int 0, .int 0, .int 0, .int (-1), .ref (aa 8), .ref (aa 41), .ref (aa 42), .ref (aa 43), .ref (aa 9), .ref (aa 44), .ref (aa 45), .ref (aa 46), .ref (aa 47), .ref (aa 48), .ref (aa 49), .ref (aa 50), .ref (aa 51)])), ((aa 6), .inl ((kk 0), 900, .inl (fun _ => 0))), ((aa 7), .inl ((kk 1), 22, .inl (fun _ => 0))), ((aa 8), .inl ((kk 2), 8, .inl (fun _ => 0))), ((aa 9), .inl ((kk 3), 22, .inl (fun _ => 0)))]) (w1 := []) hP hD [10, 11, 12, 13, 14, 15] [0, 1, 2, 3, 4, 5, 6, 7, 8, 9] rfl rfl (by decide) (by decide) hk1 hFc pu_P0 pu_D0
  clear hk1 hz1 ht hvm
  generalize H1 = H at hP hS ⊢
  have hP : va_P (dC, dI) vwCl [((aa 0), .inr (8, [.ref (aa 6), .int 0, .ref (aa 4), .ref (aa 1), .ref (aa 5), .ref (aa 2), .ref (aa 10), .int 0, .ref (aa 11), .ref (aa 12), .int 0, .ref (aa 13), .ref (aa 14), .ref (aa 3), .ref (aa 15), .ref (aa 16)])), ((aa 1), .inr (0, [.int 0, .int 0, .int 0, .int (-1), .ref (aa 20), .ref (aa 21), .ref (aa 22), .ref (aa 23), .ref (aa 7), .ref (aa 24), .ref (aa 25), .ref (aa 26), .ref (aa 27), .ref (aa 28), .ref (aa 29), .ref (aa 30), .ref (aa 31)])), ((aa 2), .inr (2, [.int 0, .ref (aa 60), .ref (aa 61)])), ((aa 3), .inr (3, [.int 0, .int 0, .int 0, .ref (aa 62), .ref (aa 63)])), ((aa 4), .inr (4, [.int 0, .int (-1), .null, .int 0, .int 0, .int 0, .int 0, .int 0, .null, .ref (aa 64), .ref (aa 65), .ref (aa 66)])), ((aa 5), .inr (0, [.int 0, .int 0, .int 0, .int (-1), .ref (aa 8), .ref (aa 41), .ref (aa 42), .ref (aa 43), .ref (aa 9), .ref (aa 44), .ref (aa 45), .ref (aa 46), .ref (aa 47), .ref (aa 48), .ref (aa 49), .ref (aa 50), .ref (aa 51)])), ((aa 6), .inl ((kk 0), 900, .inl (fun _ => 0))), ((aa 7), .inl ((kk 1), 22, .inl (fun _ => 0))), ((aa 8), .inl ((kk 2), 8, .inl (fun _ => 0))), ((aa 9), .inl ((kk 3), 22, .inl (fun _ => 0)))] H := hP
  have hD : va_D A [((aa 0), .inr (8, [.ref (aa 6), .int 0, .ref (aa 4), .ref (aa 1), .ref (aa 5), .ref (aa 2), .ref (aa 10), .int 0, .ref (aa 11), .ref (aa 12), .int 0, .ref (aa 13), .ref (aa 14), .ref (aa 3), .ref (aa 15), .ref (aa 16)])), ((aa 1), .inr (0, [.int 0, .int 0, .int 0, .int (-1), .ref (aa 20), .ref (aa 21), .ref (aa 22), .ref (aa 23), .ref (aa 7), .ref (aa 24), .ref (aa 25), .ref (aa 26), .ref (aa 27), .ref (aa 28), .ref (aa 29), .ref (aa 30), .ref (aa 31)])), ((aa 2), .inr (2, [.int 0, .ref (aa 60), .ref (aa 61)])), ((aa 3), .inr (3, [.int 0, .int 0, .int 0, .ref (aa 62), .ref (aa 63)])), ((aa 4), .inr (4, [.int 0, .int (-1), .null, .int 0, .int 0, .int 0, .int 0, .int 0, .null, .ref (aa 64), .ref (aa 65), .ref (aa 66)])), ((aa 5), .inr (0, [.int 0, .int 0, .int 0, .int (-1), .ref (aa 8), .ref (aa 41), .ref (aa 42), .ref (aa 43), .ref (aa 9), .ref (aa 44), .ref (aa 45), .ref (aa 46), .ref (aa 47), .ref (aa 48), .ref (aa 49), .ref (aa 50), .ref (aa 51)])), ((aa 6), .inl ((kk 0), 900, .inl (fun _ => 0))), ((aa 7), .inl ((kk 1), 22, .inl (fun _ => 0))), ((aa 8), .inl ((kk 2), 8, .inl (fun _ => 0))), ((aa 9), .inl ((kk 3), 22, .inl (fun _ => 0)))] := hD
  obtain rfl : r_10 = (-1) := hw
  refine lv_icmp_eq (tgt := 1725) hx hb dL_law_1551 (by decide) (fun _ => ?_) (fun z => absurd z (by decide))
  exact law_tail l C0 hA hAs hS (lv_sub hl [0, 4] rfl) (Nat.le_of_ble_eq_true rfl) (Nat.le_of_ble_eq_true rfl)
set_option maxHeartbeats 4000000 in
set_option maxRecDepth 100000 in
theorem law_case_34 {p : Program} {e : Env} {s : State} {m : MethodId} {below : List Frame} {meth : Method} {c : Code} (l : Launch) (hlt : l.stackTraces = false) {b : Nat} {xs : Nat → Int32} (C0 : lw_At p s m meth c b 7 xs) {A : Nat → Prop} (hA : ∀ q : Nat, s.heap.size ≤ q → A q) (hAs : ∀ q : Nat, A q → s.heap.size ≤ q) (hY : sy_E A s s.heap) {dC : Nat → ClassId} {dI : Nat → Nat → Nat} (aa bb : Nat → Nat) (kk jj : Nat → ClassId) (qo : Nat) (H : Heap) (locs : List Loc) (hK : va_K (dC, dI) vwCl (tX kk ++ tM jj) s) (hP : va_P (dC, dI) vwCl (wX aa kk ++ wM bb jj) H) (hD : va_D A (wX aa kk ++ wM bb jj)) (hS : va_S A s.heap H locs) (ls : Array Slot) (hl : lv_has ls 7 [(0, .ref b), (1, .ref (aa 0)), (2, .ref (bb 0)), (3, .ref qo), (4, .int 0)]) : W p l e room_1 s m #[Value.ref b] below meth c H locs 1717 133609 (lw_Z below #[Value.ref b] s) (F0 m 1556 ls []) := by
  obtain ⟨hx, hb, hr, hml, hown0, hts0, hX, hbl, hlocks, hgv⟩ := id C0
  have hown : s.vm.findClass RL = some m.cls := hown0
  have hts : ∀ w ∈ vsL, w.before #[Value.ref b] s = true := fun w h => hts0 w (vsL_in w h)
  have hbA : ¬ A b := fun h => absurd (hAs b h) (Nat.not_le.mpr hbl)
  refine lv_aload_n hx hb dL_law_1556 rfl (lv_at hl 1 rfl) ?_
  have hFc := va_free (wc := [((aa 0), .inr (8, [.ref (aa 6), .int 0, .ref (aa 4), .ref (aa 1), .ref (aa 5), .ref (aa 2), .ref (aa 10), .int 0, .ref (aa 11), .ref (aa 12), .int 0, .ref (aa 13), .ref (aa 14), .ref (aa 3), .ref (aa 15), .ref (aa 16)])), ((aa 1), .inr (0, [.int 0, .int 0, .int 0, .int (-1), .ref (aa 20), .ref (aa 21), .ref (aa 22), .ref (aa 23), .ref (aa 7), .ref (aa 24), .ref (aa 25), .ref (aa 26), .ref (aa 27), .ref (aa 28), .ref (aa 29), .ref (aa 30), .ref (aa 31)])), ((aa 2), .inr (2, [.int 0, .ref (aa 60), .ref (aa 61)])), ((aa 3), .inr (3, [.int 0, .int 0, .int 0, .ref (aa 62), .ref (aa 63)])), ((aa 4), .inr (4, [.int 0, .int (-1), .null, .int 0, .int 0, .int 0, .int 0, .int 0, .null, .ref (aa 64), .ref (aa 65), .ref (aa 66)])), ((aa 5), .inr (0, [.int 0, .int 0, .int 0, .int (-1), .ref (aa 8), .ref (aa 41), .ref (aa 42), .ref (aa 43), .ref (aa 9), .ref (aa 44), .ref (aa 45), .ref (aa 46), .ref (aa 47), .ref (aa 48), .ref (aa 49), .ref (aa 50), .ref (aa 51)])), ((aa 6), .inl ((kk 0), 900, .inl (fun _ => 0))), ((aa 7), .inl ((kk 1), 22, .inl (fun _ => 0))), ((aa 8), .inl ((kk 2), 8, .inl (fun _ => 0))), ((aa 9), .inl ((kk 3), 22, .inl (fun _ => 0)))]) hD hS hA [0, 1, 2, 3, 4, 5, 6, 7, 8, 9] rfl
  refine va_calli (va_runV (As := []) (rest := []) ⟨hx, hb, hml, hown, hts⟩ (c_X8_begin l dC dI _ aa kk) (cwV 0 hts g_L_X8_begin rfl rfl rfl (by decide +kernel) ⟨Nat.le_of_ble_eq_true rfl, Nat.le_of_ble_eq_true rfl⟩) ⟨pu_bl, va_recv hK hP (ci := 8) (q0 := 0) rfl rfl, pu_in (hP.sub [0, 1, 2, 3, 4, 5, 6, 7, 8, 9] rfl) (hK.sub [0, 1, 2, 3] rfl) (hD.sub [0, 1, 2, 3, 4, 5, 6, 7, 8, 9] (by decide) rfl)⟩ rfl rfl hl.1 rfl (lv_room (Nat.le_of_ble_eq_true rfl)) dL_law_1557 ⟨Nat.le_of_ble_eq_true rfl, Nat.le_of_ble_eq_true rfl⟩) hS (fun q _ h => hFc q h) hFc (fun r_1 u t H1 locs ht hvm hw hB hz1 hk1 hS => ?_)
  obtain ⟨hP, hD⟩ := va_join (wr := [((bb 0), .inr (9, [.int 0, .ref (bb 10), .ref (bb 11), .ref (bb 12), .ref (bb 13), .ref (bb 14), .ref (bb 15), .ref (bb 16), .ref (bb 17), .ref (bb 18), .ref (bb 19), .ref (bb 20), .ref (bb 1), .ref (bb 2), .ref (bb 3), .ref (bb 4), .int 0, .ref (bb 5), .int 0, .int 0, .int 0, .int 0, .int 0, .int 0, .int 0, .int (-1), .int 0, .int 0, .int 0, .int 0, .int 0, .ref (bb 21), .ref (bb 22), .int 0, .ref (bb 23), .ref (bb 24), .ref (bb 25), .ref (bb 26), .ref (bb 27), .ref (bb 28), .ref (bb 29), .ref (bb 30), .ref (bb 31), .ref (bb 32), .ref (bb 33), .int 0, .int 0, .ref (bb 34), .ref (bb 35), .ref (bb 36), .ref (bb 37), .ref (bb 38), .int 0, .int 0, .ref (bb 39), .ref (bb 40), .ref (bb 41), .ref (bb 42), .ref (bb 43), .ref (bb 44), .ref (bb 45), .int 0, .int 0, .int 0, .ref (bb 46), .int 0, .int 0])), ((bb 1), .inl ((jj 1), 2, .inl (fun _ => 0))), ((bb 2), .inl ((jj 2), 2, .inl (fun _ => 0))), ((bb 3), .inl ((jj 3), 2, .inl (fun _ => 0))), ((bb 4), .inl ((jj 4), 2, .inl begF)), ((bb 5), .inl ((jj 5), 900, .inl (fun _ => 0)))]) (w1 := []) hP hD [0, 1, 2, 3, 4, 5, 6, 7, 8, 9] [10, 11, 12, 13, 14, 15] rfl rfl (by decide) (by decide) hk1 hFc pu_P0 pu_D0
  clear hk1 hz1 ht hvm
  generalize H1 = H at hP hS ⊢
  have hP : va_P (dC, dI) vwCl [((bb 0), .inr (9, [.int 0, .ref (bb 10), .ref (bb 11), .ref (bb 12), .ref (bb 13), .ref (bb 14), .ref (bb 15), .ref (bb 16), .ref (bb 17), .ref (bb 18), .ref (bb 19), .ref (bb 20), .ref (bb 1), .ref (bb 2), .ref (bb 3), .ref (bb 4), .int 0, .ref (bb 5), .int 0, .int 0, .int 0, .int 0, .int 0, .int 0, .int 0, .int (-1), .int 0, .int 0, .int 0, .int 0, .int 0, .ref (bb 21), .ref (bb 22), .int 0, .ref (bb 23), .ref (bb 24), .ref (bb 25), .ref (bb 26), .ref (bb 27), .ref (bb 28), .ref (bb 29), .ref (bb 30), .ref (bb 31), .ref (bb 32), .ref (bb 33), .int 0, .int 0, .ref (bb 34), .ref (bb 35), .ref (bb 36), .ref (bb 37), .ref (bb 38), .int 0, .int 0, .ref (bb 39), .ref (bb 40), .ref (bb 41), .ref (bb 42), .ref (bb 43), .ref (bb 44), .ref (bb 45), .int 0, .int 0, .int 0, .ref (bb 46), .int 0, .int 0])), ((bb 1), .inl ((jj 1), 2, .inl (fun _ => 0))), ((bb 2), .inl ((jj 2), 2, .inl (fun _ => 0))), ((bb 3), .inl ((jj 3), 2, .inl (fun _ => 0))), ((bb 4), .inl ((jj 4), 2, .inl begF)), ((bb 5), .inl ((jj 5), 900, .inl (fun _ => 0)))] H := hP
  have hD : va_D A [((bb 0), .inr (9, [.int 0, .ref (bb 10), .ref (bb 11), .ref (bb 12), .ref (bb 13), .ref (bb 14), .ref (bb 15), .ref (bb 16), .ref (bb 17), .ref (bb 18), .ref (bb 19), .ref (bb 20), .ref (bb 1), .ref (bb 2), .ref (bb 3), .ref (bb 4), .int 0, .ref (bb 5), .int 0, .int 0, .int 0, .int 0, .int 0, .int 0, .int 0, .int (-1), .int 0, .int 0, .int 0, .int 0, .int 0, .ref (bb 21), .ref (bb 22), .int 0, .ref (bb 23), .ref (bb 24), .ref (bb 25), .ref (bb 26), .ref (bb 27), .ref (bb 28), .ref (bb 29), .ref (bb 30), .ref (bb 31), .ref (bb 32), .ref (bb 33), .int 0, .int 0, .ref (bb 34), .ref (bb 35), .ref (bb 36), .ref (bb 37), .ref (bb 38), .int 0, .int 0, .ref (bb 39), .ref (bb 40), .ref (bb 41), .ref (bb 42), .ref (bb 43), .ref (bb 44), .ref (bb 45), .int 0, .int 0, .int 0, .ref (bb 46), .int 0, .int 0])), ((bb 1), .inl ((jj 1), 2, .inl (fun _ => 0))), ((bb 2), .inl ((jj 2), 2, .inl (fun _ => 0))), ((bb 3), .inl ((jj 3), 2, .inl (fun _ => 0))), ((bb 4), .inl ((jj 4), 2, .inl begF)), ((bb 5), .inl ((jj 5), 900, .inl (fun _ => 0)))] := hD
  obtain rfl : r_1 = (-1) := hw
  refine lv_aload_n hx hb dL_law_1560 rfl (lv_at hl 2 rfl) ?_
  have hFc := va_free (wc := [((bb 0), .inr (9, [.int 0, .ref (bb 10), .ref (bb 11), .ref (bb 12), .ref (bb 13), .ref (bb 14), .ref (bb 15), .ref (bb 16), .ref (bb 17), .ref (bb 18), .ref (bb 19), .ref (bb 20), .ref (bb 1), .ref (bb 2), .ref (bb 3), .ref (bb 4), .int 0, .ref (bb 5), .int 0, .int 0, .int 0, .int 0, .int 0, .int 0, .int 0, .int (-1), .int 0, .int 0, .int 0, .int 0, .int 0, .ref (bb 21), .ref (bb 22), .int 0, .ref (bb 23), .ref (bb 24), .ref (bb 25), .ref (bb 26), .ref (bb 27), .ref (bb 28), .ref (bb 29), .ref (bb 30), .ref (bb 31), .ref (bb 32), .ref (bb 33), .int 0, .int 0, .ref (bb 34), .ref (bb 35), .ref (bb 36), .ref (bb 37), .ref (bb 38), .int 0, .int 0, .ref (bb 39), .ref (bb 40), .ref (bb 41), .ref (bb 42), .ref (bb 43), .ref (bb 44), .ref (bb 45), .int 0, .int 0, .int 0, .ref (bb 46), .int 0, .int 0])), ((bb 1), .inl ((jj 1), 2, .inl (fun _ => 0))), ((bb 2), .inl ((jj 2), 2, .inl (fun _ => 0))), ((bb 3), .inl ((jj 3), 2, .inl (fun _ => 0))), ((bb 4), .inl ((jj 4), 2, .inl begF)), ((bb 5), .inl ((jj 5), 900, .inl (fun _ => 0)))]) hD hS hA [0, 1, 2, 3, 4, 5] rfl
  refine va_calli (va_runV (As := []) (rest := [.int (-1)]) ⟨hx, hb, hml, hown, hts⟩ (c_X9_begin l dC dI _ bb jj) (cwV 0 hts g_L_X9_begin rfl rfl rfl (by decide +kernel) ⟨Nat.le_of_ble_eq_true rfl, Nat.le_of_ble_eq_true rfl⟩) ⟨pu_bl, va_recv hK hP (ci := 9) (q0 := 0) rfl rfl, pu_in hP (hK.sub [4, 5, 6, 7, 8] rfl) hD⟩ rfl rfl hl.1 rfl (lv_room (Nat.le_of_ble_eq_true rfl)) dL_law_1561 ⟨Nat.le_of_ble_eq_true rfl, Nat.le_of_ble_eq_true rfl⟩) hS (fun q _ h => hFc q h) hFc (fun r_2 u t H1 locs ht hvm hw hB hz1 hk1 hS => ?_)
  obtain ⟨hP, hD⟩ := va_join (wr := []) (w1 := []) hP hD [0, 1, 2, 3, 4, 5] [] rfl rfl (by decide) (by decide) hk1 hFc pu_P0 pu_D0
  clear hk1 hz1 ht hvm
  generalize H1 = H at hP hS ⊢
  have hP : va_P (dC, dI) vwCl [] H := hP
  have hD : va_D A [] := hD
  obtain rfl : r_2 = (-1) := hw
  refine lv_icmp_eq (tgt := 1725) hx hb dL_law_1564 (by decide) (fun _ => ?_) (fun z => absurd z (by decide))
  exact law_tail l C0 hA hAs hS (lv_sub hl [0, 4] rfl) (Nat.le_of_ble_eq_true rfl) (Nat.le_of_ble_eq_true rfl)
set_option maxHeartbeats 4000000 in
set_option maxRecDepth 100000 in
theorem law_case_35 {p : Program} {e : Env} {s : State} {m : MethodId} {below : List Frame} {meth : Method} {c : Code} (l : Launch) (hlt : l.stackTraces = false) {b : Nat} {xs : Nat → Int32} (C0 : lw_At p s m meth c b 7 xs) {A : Nat → Prop} (hA : ∀ q : Nat, s.heap.size ≤ q → A q) (hAs : ∀ q : Nat, A q → s.heap.size ≤ q) (hY : sy_E A s s.heap) {dC : Nat → ClassId} {dI : Nat → Nat → Nat} (aa bb : Nat → Nat) (kk jj : Nat → ClassId) (qo : Nat) (H : Heap) (locs : List Loc) (hK : va_K (dC, dI) vwCl (tX kk ++ tM jj) s) (hP : va_P (dC, dI) vwCl (wX aa kk ++ wM bb jj) H) (hD : va_D A (wX aa kk ++ wM bb jj)) (hS : va_S A s.heap H locs) (ls : Array Slot) (hl : lv_has ls 7 [(0, .ref b), (1, .ref (aa 0)), (2, .ref (bb 0)), (3, .ref qo), (4, .int 0)]) : W p l e room_1 s m #[Value.ref b] below meth c H locs 1717 133609 (lw_Z below #[Value.ref b] s) (F0 m 1569 ls []) := by
  obtain ⟨hx, hb, hr, hml, hown0, hts0, hX, hbl, hlocks, hgv⟩ := id C0
  have hown : s.vm.findClass RL = some m.cls := hown0
  have hts : ∀ w ∈ vsL, w.before #[Value.ref b] s = true := fun w h => hts0 w (vsL_in w h)
  have hbA : ¬ A b := fun h => absurd (hAs b h) (Nat.not_le.mpr hbl)
  refine lv_aload_n hx hb dL_law_1569 rfl (lv_at hl 1 rfl) ?_
  refine lv_aload_n hx hb dL_law_1570 rfl (lv_at hl 0 rfl) ?_
  refine lv_iload hx hb dL_law_1571 (lv_at hl 4 rfl) ?_
  refine lv_iconst (v := 1) hx hb dL_law_1573 (by decide) ?_
  refine lv_iadd hx hb dL_law_1574 ?_
  refine lv_topi (fun y_1 ey_1 => ?_)
  obtain rfl : y_1 = 1 := ey_1.trans (by decide)
  refine va_sld hx hb hX hbl hbA hS (show ¬ (_ ∨ _) by decide) dL_law_1575 ?_
  refine va_calli (va_runV (As := [.int (xs (1 : Int32).toNatClampNeg)]) (rest := []) ⟨hx, hb, hml, hown, hts⟩ (c_X8_waits l dC dI _ aa kk (xs (1 : Int32).toNatClampNeg)) (cwV 1 hts g_L_X8_waits rfl rfl rfl (by decide +kernel) ⟨Nat.le_of_ble_eq_true rfl, Nat.le_of_ble_eq_true rfl⟩) ⟨pu_bl, va_recv hK hP (ci := 8) (q0 := 0) rfl rfl, pu_in (hP.sub [0, 1, 2, 3, 4, 5, 6, 7, 8, 9] rfl) (hK.sub [0, 1, 2, 3] rfl) (hD.sub [0, 1, 2, 3, 4, 5, 6, 7, 8, 9] (by decide) rfl)⟩ rfl rfl hl.1 rfl (lv_room (Nat.le_of_ble_eq_true rfl)) dL_law_1576 ⟨Nat.le_of_ble_eq_true rfl, Nat.le_of_ble_eq_true rfl⟩) hS (fun q _ h => pu_fr hS hA q h) (pu_fr hS hA) (fun r_2 u t H1 locs ht hvm hw hB hz1 hk1 hS => ?_)
  have hP := pu_keep hP hk1
  clear hk1 hz1 ht hvm
  generalize H1 = H at hP hS ⊢
  obtain rfl : r_2 = 0 := hw
  refine lv_aload_n hx hb dL_law_1579 rfl (lv_at hl 2 rfl) ?_
  refine lv_aload_n hx hb dL_law_1580 rfl (lv_at hl 0 rfl) ?_
  refine lv_iload hx hb dL_law_1581 (lv_at hl 4 rfl) ?_
  refine lv_iconst (v := 1) hx hb dL_law_1583 (by decide) ?_
  refine lv_iadd hx hb dL_law_1584 ?_
  refine lv_topi (fun y_3 ey_3 => ?_)
  obtain rfl : y_3 = 1 := ey_3.trans (by decide)
  refine va_sld hx hb hX hbl hbA hS (show ¬ (_ ∨ _) by decide) dL_law_1585 ?_
  have hFc := va_free (wc := [((bb 0), .inr (9, [.int 0, .ref (bb 10), .ref (bb 11), .ref (bb 12), .ref (bb 13), .ref (bb 14), .ref (bb 15), .ref (bb 16), .ref (bb 17), .ref (bb 18), .ref (bb 19), .ref (bb 20), .ref (bb 1), .ref (bb 2), .ref (bb 3), .ref (bb 4), .int 0, .ref (bb 5), .int 0, .int 0, .int 0, .int 0, .int 0, .int 0, .int 0, .int (-1), .int 0, .int 0, .int 0, .int 0, .int 0, .ref (bb 21), .ref (bb 22), .int 0, .ref (bb 23), .ref (bb 24), .ref (bb 25), .ref (bb 26), .ref (bb 27), .ref (bb 28), .ref (bb 29), .ref (bb 30), .ref (bb 31), .ref (bb 32), .ref (bb 33), .int 0, .int 0, .ref (bb 34), .ref (bb 35), .ref (bb 36), .ref (bb 37), .ref (bb 38), .int 0, .int 0, .ref (bb 39), .ref (bb 40), .ref (bb 41), .ref (bb 42), .ref (bb 43), .ref (bb 44), .ref (bb 45), .int 0, .int 0, .int 0, .ref (bb 46), .int 0, .int 0])), ((bb 1), .inl ((jj 1), 2, .inl (fun _ => 0))), ((bb 2), .inl ((jj 2), 2, .inl (fun _ => 0))), ((bb 3), .inl ((jj 3), 2, .inl (fun _ => 0))), ((bb 4), .inl ((jj 4), 2, .inl begF)), ((bb 5), .inl ((jj 5), 900, .inl (fun _ => 0)))]) hD hS hA [10, 11, 12, 13, 14, 15] rfl
  refine va_calli (va_runV (As := [.int (xs (1 : Int32).toNatClampNeg)]) (rest := [.int 0]) ⟨hx, hb, hml, hown, hts⟩ (c_X9_waits l dC dI _ bb jj (xs (1 : Int32).toNatClampNeg)) (cwV 1 hts g_L_X9_waits rfl rfl rfl (by decide +kernel) ⟨Nat.le_of_ble_eq_true rfl, Nat.le_of_ble_eq_true rfl⟩) ⟨pu_bl, va_recv hK hP (ci := 9) (q0 := 10) rfl rfl, pu_in (hP.sub [10, 11, 12, 13, 14, 15] rfl) (hK.sub [4, 5, 6, 7, 8] rfl) (hD.sub [10, 11, 12, 13, 14, 15] (by decide) rfl)⟩ rfl rfl hl.1 rfl (lv_room (Nat.le_of_ble_eq_true rfl)) dL_law_1586 ⟨Nat.le_of_ble_eq_true rfl, Nat.le_of_ble_eq_true rfl⟩) hS (fun q _ h => hFc q h) hFc (fun r_4 u t H1 locs ht hvm hw hB hz1 hk1 hS => ?_)
  obtain ⟨hP, hD⟩ := va_join (wr := [((aa 0), .inr (8, [.ref (aa 6), .int 0, .ref (aa 4), .ref (aa 1), .ref (aa 5), .ref (aa 2), .ref (aa 10), .int 0, .ref (aa 11), .ref (aa 12), .int 0, .ref (aa 13), .ref (aa 14), .ref (aa 3), .ref (aa 15), .ref (aa 16)])), ((aa 1), .inr (0, [.int 0, .int 0, .int 0, .int (-1), .ref (aa 20), .ref (aa 21), .ref (aa 22), .ref (aa 23), .ref (aa 7), .ref (aa 24), .ref (aa 25), .ref (aa 26), .ref (aa 27), .ref (aa 28), .ref (aa 29), .ref (aa 30), .ref (aa 31)])), ((aa 2), .inr (2, [.int 0, .ref (aa 60), .ref (aa 61)])), ((aa 3), .inr (3, [.int 0, .int 0, .int 0, .ref (aa 62), .ref (aa 63)])), ((aa 4), .inr (4, [.int 0, .int (-1), .null, .int 0, .int 0, .int 0, .int 0, .int 0, .null, .ref (aa 64), .ref (aa 65), .ref (aa 66)])), ((aa 5), .inr (0, [.int 0, .int 0, .int 0, .int (-1), .ref (aa 8), .ref (aa 41), .ref (aa 42), .ref (aa 43), .ref (aa 9), .ref (aa 44), .ref (aa 45), .ref (aa 46), .ref (aa 47), .ref (aa 48), .ref (aa 49), .ref (aa 50), .ref (aa 51)])), ((aa 6), .inl ((kk 0), 900, .inl (fun _ => 0))), ((aa 7), .inl ((kk 1), 22, .inl (fun _ => 0))), ((aa 8), .inl ((kk 2), 8, .inl (fun _ => 0))), ((aa 9), .inl ((kk 3), 22, .inl (fun _ => 0)))]) (w1 := []) hP hD [10, 11, 12, 13, 14, 15] [0, 1, 2, 3, 4, 5, 6, 7, 8, 9] rfl rfl (by decide) (by decide) hk1 hFc pu_P0 pu_D0
  clear hk1 hz1 ht hvm
  generalize H1 = H at hP hS ⊢
  have hP : va_P (dC, dI) vwCl [((aa 0), .inr (8, [.ref (aa 6), .int 0, .ref (aa 4), .ref (aa 1), .ref (aa 5), .ref (aa 2), .ref (aa 10), .int 0, .ref (aa 11), .ref (aa 12), .int 0, .ref (aa 13), .ref (aa 14), .ref (aa 3), .ref (aa 15), .ref (aa 16)])), ((aa 1), .inr (0, [.int 0, .int 0, .int 0, .int (-1), .ref (aa 20), .ref (aa 21), .ref (aa 22), .ref (aa 23), .ref (aa 7), .ref (aa 24), .ref (aa 25), .ref (aa 26), .ref (aa 27), .ref (aa 28), .ref (aa 29), .ref (aa 30), .ref (aa 31)])), ((aa 2), .inr (2, [.int 0, .ref (aa 60), .ref (aa 61)])), ((aa 3), .inr (3, [.int 0, .int 0, .int 0, .ref (aa 62), .ref (aa 63)])), ((aa 4), .inr (4, [.int 0, .int (-1), .null, .int 0, .int 0, .int 0, .int 0, .int 0, .null, .ref (aa 64), .ref (aa 65), .ref (aa 66)])), ((aa 5), .inr (0, [.int 0, .int 0, .int 0, .int (-1), .ref (aa 8), .ref (aa 41), .ref (aa 42), .ref (aa 43), .ref (aa 9), .ref (aa 44), .ref (aa 45), .ref (aa 46), .ref (aa 47), .ref (aa 48), .ref (aa 49), .ref (aa 50), .ref (aa 51)])), ((aa 6), .inl ((kk 0), 900, .inl (fun _ => 0))), ((aa 7), .inl ((kk 1), 22, .inl (fun _ => 0))), ((aa 8), .inl ((kk 2), 8, .inl (fun _ => 0))), ((aa 9), .inl ((kk 3), 22, .inl (fun _ => 0)))] H := hP
  have hD : va_D A [((aa 0), .inr (8, [.ref (aa 6), .int 0, .ref (aa 4), .ref (aa 1), .ref (aa 5), .ref (aa 2), .ref (aa 10), .int 0, .ref (aa 11), .ref (aa 12), .int 0, .ref (aa 13), .ref (aa 14), .ref (aa 3), .ref (aa 15), .ref (aa 16)])), ((aa 1), .inr (0, [.int 0, .int 0, .int 0, .int (-1), .ref (aa 20), .ref (aa 21), .ref (aa 22), .ref (aa 23), .ref (aa 7), .ref (aa 24), .ref (aa 25), .ref (aa 26), .ref (aa 27), .ref (aa 28), .ref (aa 29), .ref (aa 30), .ref (aa 31)])), ((aa 2), .inr (2, [.int 0, .ref (aa 60), .ref (aa 61)])), ((aa 3), .inr (3, [.int 0, .int 0, .int 0, .ref (aa 62), .ref (aa 63)])), ((aa 4), .inr (4, [.int 0, .int (-1), .null, .int 0, .int 0, .int 0, .int 0, .int 0, .null, .ref (aa 64), .ref (aa 65), .ref (aa 66)])), ((aa 5), .inr (0, [.int 0, .int 0, .int 0, .int (-1), .ref (aa 8), .ref (aa 41), .ref (aa 42), .ref (aa 43), .ref (aa 9), .ref (aa 44), .ref (aa 45), .ref (aa 46), .ref (aa 47), .ref (aa 48), .ref (aa 49), .ref (aa 50), .ref (aa 51)])), ((aa 6), .inl ((kk 0), 900, .inl (fun _ => 0))), ((aa 7), .inl ((kk 1), 22, .inl (fun _ => 0))), ((aa 8), .inl ((kk 2), 8, .inl (fun _ => 0))), ((aa 9), .inl ((kk 3), 22, .inl (fun _ => 0)))] := hD
  obtain rfl : r_4 = 0 := hw
  refine lv_icmp_eq (tgt := 1725) hx hb dL_law_1589 (by decide) (fun _ => ?_) (fun z => absurd z (by decide))
  exact law_tail l C0 hA hAs hS (lv_sub hl [0, 4] rfl) (Nat.le_of_ble_eq_true rfl) (Nat.le_of_ble_eq_true rfl)
set_option maxHeartbeats 4000000 in
set_option maxRecDepth 100000 in
theorem law_case_36 {p : Program} {e : Env} {s : State} {m : MethodId} {below : List Frame} {meth : Method} {c : Code} (l : Launch) (hlt : l.stackTraces = false) {b : Nat} {xs : Nat → Int32} (C0 : lw_At p s m meth c b 7 xs) {A : Nat → Prop} (hA : ∀ q : Nat, s.heap.size ≤ q → A q) (hAs : ∀ q : Nat, A q → s.heap.size ≤ q) (hY : sy_E A s s.heap) {dC : Nat → ClassId} {dI : Nat → Nat → Nat} (aa bb : Nat → Nat) (kk jj : Nat → ClassId) (qo : Nat) (H : Heap) (locs : List Loc) (hK : va_K (dC, dI) vwCl (tX kk ++ tM jj) s) (hP : va_P (dC, dI) vwCl (wX aa kk ++ wM bb jj) H) (hD : va_D A (wX aa kk ++ wM bb jj)) (hS : va_S A s.heap H locs) (ls : Array Slot) (hl : lv_has ls 7 [(0, .ref b), (1, .ref (aa 0)), (2, .ref (bb 0)), (3, .ref qo), (4, .int 0)]) : W p l e room_1 s m #[Value.ref b] below meth c H locs 1717 133609 (lw_Z below #[Value.ref b] s) (F0 m 1594 ls []) := by
  obtain ⟨hx, hb, hr, hml, hown0, hts0, hX, hbl, hlocks, hgv⟩ := id C0
  have hown : s.vm.findClass RL = some m.cls := hown0
  have hts : ∀ w ∈ vsL, w.before #[Value.ref b] s = true := fun w h => hts0 w (vsL_in w h)
  have hbA : ¬ A b := fun h => absurd (hAs b h) (Nat.not_le.mpr hbl)
  refine lv_aload_n hx hb dL_law_1594 rfl (lv_at hl 1 rfl) ?_
  refine lv_aload_n hx hb dL_law_1595 rfl (lv_at hl 0 rfl) ?_
  refine lv_iload hx hb dL_law_1596 (lv_at hl 4 rfl) ?_
  refine lv_iconst (v := 1) hx hb dL_law_1598 (by decide) ?_
  refine lv_iadd hx hb dL_law_1599 ?_
  refine lv_topi (fun y_1 ey_1 => ?_)
  obtain rfl : y_1 = 1 := ey_1.trans (by decide)
  refine va_sld hx hb hX hbl hbA hS (show ¬ (_ ∨ _) by decide) dL_law_1600 ?_
  refine va_calli (va_runV (As := [.int (xs (1 : Int32).toNatClampNeg)]) (rest := []) ⟨hx, hb, hml, hown, hts⟩ (c_X8_takes l dC dI _ aa kk (xs (1 : Int32).toNatClampNeg)) (cwV 1 hts g_L_X8_takes rfl rfl rfl (by decide +kernel) ⟨Nat.le_of_ble_eq_true rfl, Nat.le_of_ble_eq_true rfl⟩) ⟨pu_bl, va_recv hK hP (ci := 8) (q0 := 0) rfl rfl, pu_in (hP.sub [0, 1, 2, 3, 4, 5, 6, 7, 8, 9] rfl) (hK.sub [0, 1, 2, 3] rfl) (hD.sub [0, 1, 2, 3, 4, 5, 6, 7, 8, 9] (by decide) rfl)⟩ rfl rfl hl.1 rfl (lv_room (Nat.le_of_ble_eq_true rfl)) dL_law_1601 ⟨Nat.le_of_ble_eq_true rfl, Nat.le_of_ble_eq_true rfl⟩) hS (fun q _ h => pu_fr hS hA q h) (pu_fr hS hA) (fun r_2 u t H1 locs ht hvm hw hB hz1 hk1 hS => ?_)
  have hP := pu_keep hP hk1
  clear hk1 hz1 ht hvm
  generalize H1 = H at hP hS ⊢
  obtain rfl : r_2 = (-1) := hw
  refine lv_aload_n hx hb dL_law_1604 rfl (lv_at hl 2 rfl) ?_
  refine lv_aload_n hx hb dL_law_1605 rfl (lv_at hl 0 rfl) ?_
  refine lv_iload hx hb dL_law_1606 (lv_at hl 4 rfl) ?_
  refine lv_iconst (v := 1) hx hb dL_law_1608 (by decide) ?_
  refine lv_iadd hx hb dL_law_1609 ?_
  refine lv_topi (fun y_3 ey_3 => ?_)
  obtain rfl : y_3 = 1 := ey_3.trans (by decide)
  refine va_sld hx hb hX hbl hbA hS (show ¬ (_ ∨ _) by decide) dL_law_1610 ?_
  have hFc := va_free (wc := [((bb 0), .inr (9, [.int 0, .ref (bb 10), .ref (bb 11), .ref (bb 12), .ref (bb 13), .ref (bb 14), .ref (bb 15), .ref (bb 16), .ref (bb 17), .ref (bb 18), .ref (bb 19), .ref (bb 20), .ref (bb 1), .ref (bb 2), .ref (bb 3), .ref (bb 4), .int 0, .ref (bb 5), .int 0, .int 0, .int 0, .int 0, .int 0, .int 0, .int 0, .int (-1), .int 0, .int 0, .int 0, .int 0, .int 0, .ref (bb 21), .ref (bb 22), .int 0, .ref (bb 23), .ref (bb 24), .ref (bb 25), .ref (bb 26), .ref (bb 27), .ref (bb 28), .ref (bb 29), .ref (bb 30), .ref (bb 31), .ref (bb 32), .ref (bb 33), .int 0, .int 0, .ref (bb 34), .ref (bb 35), .ref (bb 36), .ref (bb 37), .ref (bb 38), .int 0, .int 0, .ref (bb 39), .ref (bb 40), .ref (bb 41), .ref (bb 42), .ref (bb 43), .ref (bb 44), .ref (bb 45), .int 0, .int 0, .int 0, .ref (bb 46), .int 0, .int 0])), ((bb 1), .inl ((jj 1), 2, .inl (fun _ => 0))), ((bb 2), .inl ((jj 2), 2, .inl (fun _ => 0))), ((bb 3), .inl ((jj 3), 2, .inl (fun _ => 0))), ((bb 4), .inl ((jj 4), 2, .inl begF)), ((bb 5), .inl ((jj 5), 900, .inl (fun _ => 0)))]) hD hS hA [10, 11, 12, 13, 14, 15] rfl
  refine va_calli (va_runV (As := [.int (xs (1 : Int32).toNatClampNeg)]) (rest := [.int (-1)]) ⟨hx, hb, hml, hown, hts⟩ (c_X9_takes l dC dI _ bb jj (xs (1 : Int32).toNatClampNeg)) (cwV 1 hts g_L_X9_takes rfl rfl rfl (by decide +kernel) ⟨Nat.le_of_ble_eq_true rfl, Nat.le_of_ble_eq_true rfl⟩) ⟨pu_bl, va_recv hK hP (ci := 9) (q0 := 10) rfl rfl, pu_in (hP.sub [10, 11, 12, 13, 14, 15] rfl) (hK.sub [4, 5, 6, 7, 8] rfl) (hD.sub [10, 11, 12, 13, 14, 15] (by decide) rfl)⟩ rfl rfl hl.1 rfl (lv_room (Nat.le_of_ble_eq_true rfl)) dL_law_1611 ⟨Nat.le_of_ble_eq_true rfl, Nat.le_of_ble_eq_true rfl⟩) hS (fun q _ h => hFc q h) hFc (fun r_4 u t H1 locs ht hvm hw hB hz1 hk1 hS => ?_)
  obtain ⟨hP, hD⟩ := va_join (wr := [((aa 0), .inr (8, [.ref (aa 6), .int 0, .ref (aa 4), .ref (aa 1), .ref (aa 5), .ref (aa 2), .ref (aa 10), .int 0, .ref (aa 11), .ref (aa 12), .int 0, .ref (aa 13), .ref (aa 14), .ref (aa 3), .ref (aa 15), .ref (aa 16)])), ((aa 1), .inr (0, [.int 0, .int 0, .int 0, .int (-1), .ref (aa 20), .ref (aa 21), .ref (aa 22), .ref (aa 23), .ref (aa 7), .ref (aa 24), .ref (aa 25), .ref (aa 26), .ref (aa 27), .ref (aa 28), .ref (aa 29), .ref (aa 30), .ref (aa 31)])), ((aa 2), .inr (2, [.int 0, .ref (aa 60), .ref (aa 61)])), ((aa 3), .inr (3, [.int 0, .int 0, .int 0, .ref (aa 62), .ref (aa 63)])), ((aa 4), .inr (4, [.int 0, .int (-1), .null, .int 0, .int 0, .int 0, .int 0, .int 0, .null, .ref (aa 64), .ref (aa 65), .ref (aa 66)])), ((aa 5), .inr (0, [.int 0, .int 0, .int 0, .int (-1), .ref (aa 8), .ref (aa 41), .ref (aa 42), .ref (aa 43), .ref (aa 9), .ref (aa 44), .ref (aa 45), .ref (aa 46), .ref (aa 47), .ref (aa 48), .ref (aa 49), .ref (aa 50), .ref (aa 51)])), ((aa 6), .inl ((kk 0), 900, .inl (fun _ => 0))), ((aa 7), .inl ((kk 1), 22, .inl (fun _ => 0))), ((aa 8), .inl ((kk 2), 8, .inl (fun _ => 0))), ((aa 9), .inl ((kk 3), 22, .inl (fun _ => 0)))]) (w1 := []) hP hD [10, 11, 12, 13, 14, 15] [0, 1, 2, 3, 4, 5, 6, 7, 8, 9] rfl rfl (by decide) (by decide) hk1 hFc pu_P0 pu_D0
  clear hk1 hz1 ht hvm
  generalize H1 = H at hP hS ⊢
  have hP : va_P (dC, dI) vwCl [((aa 0), .inr (8, [.ref (aa 6), .int 0, .ref (aa 4), .ref (aa 1), .ref (aa 5), .ref (aa 2), .ref (aa 10), .int 0, .ref (aa 11), .ref (aa 12), .int 0, .ref (aa 13), .ref (aa 14), .ref (aa 3), .ref (aa 15), .ref (aa 16)])), ((aa 1), .inr (0, [.int 0, .int 0, .int 0, .int (-1), .ref (aa 20), .ref (aa 21), .ref (aa 22), .ref (aa 23), .ref (aa 7), .ref (aa 24), .ref (aa 25), .ref (aa 26), .ref (aa 27), .ref (aa 28), .ref (aa 29), .ref (aa 30), .ref (aa 31)])), ((aa 2), .inr (2, [.int 0, .ref (aa 60), .ref (aa 61)])), ((aa 3), .inr (3, [.int 0, .int 0, .int 0, .ref (aa 62), .ref (aa 63)])), ((aa 4), .inr (4, [.int 0, .int (-1), .null, .int 0, .int 0, .int 0, .int 0, .int 0, .null, .ref (aa 64), .ref (aa 65), .ref (aa 66)])), ((aa 5), .inr (0, [.int 0, .int 0, .int 0, .int (-1), .ref (aa 8), .ref (aa 41), .ref (aa 42), .ref (aa 43), .ref (aa 9), .ref (aa 44), .ref (aa 45), .ref (aa 46), .ref (aa 47), .ref (aa 48), .ref (aa 49), .ref (aa 50), .ref (aa 51)])), ((aa 6), .inl ((kk 0), 900, .inl (fun _ => 0))), ((aa 7), .inl ((kk 1), 22, .inl (fun _ => 0))), ((aa 8), .inl ((kk 2), 8, .inl (fun _ => 0))), ((aa 9), .inl ((kk 3), 22, .inl (fun _ => 0)))] H := hP
  have hD : va_D A [((aa 0), .inr (8, [.ref (aa 6), .int 0, .ref (aa 4), .ref (aa 1), .ref (aa 5), .ref (aa 2), .ref (aa 10), .int 0, .ref (aa 11), .ref (aa 12), .int 0, .ref (aa 13), .ref (aa 14), .ref (aa 3), .ref (aa 15), .ref (aa 16)])), ((aa 1), .inr (0, [.int 0, .int 0, .int 0, .int (-1), .ref (aa 20), .ref (aa 21), .ref (aa 22), .ref (aa 23), .ref (aa 7), .ref (aa 24), .ref (aa 25), .ref (aa 26), .ref (aa 27), .ref (aa 28), .ref (aa 29), .ref (aa 30), .ref (aa 31)])), ((aa 2), .inr (2, [.int 0, .ref (aa 60), .ref (aa 61)])), ((aa 3), .inr (3, [.int 0, .int 0, .int 0, .ref (aa 62), .ref (aa 63)])), ((aa 4), .inr (4, [.int 0, .int (-1), .null, .int 0, .int 0, .int 0, .int 0, .int 0, .null, .ref (aa 64), .ref (aa 65), .ref (aa 66)])), ((aa 5), .inr (0, [.int 0, .int 0, .int 0, .int (-1), .ref (aa 8), .ref (aa 41), .ref (aa 42), .ref (aa 43), .ref (aa 9), .ref (aa 44), .ref (aa 45), .ref (aa 46), .ref (aa 47), .ref (aa 48), .ref (aa 49), .ref (aa 50), .ref (aa 51)])), ((aa 6), .inl ((kk 0), 900, .inl (fun _ => 0))), ((aa 7), .inl ((kk 1), 22, .inl (fun _ => 0))), ((aa 8), .inl ((kk 2), 8, .inl (fun _ => 0))), ((aa 9), .inl ((kk 3), 22, .inl (fun _ => 0)))] := hD
  obtain rfl : r_4 = (-1) := hw
  refine lv_icmp_eq (tgt := 1725) hx hb dL_law_1614 (by decide) (fun _ => ?_) (fun z => absurd z (by decide))
  exact law_tail l C0 hA hAs hS (lv_sub hl [0, 4] rfl) (Nat.le_of_ble_eq_true rfl) (Nat.le_of_ble_eq_true rfl)
set_option maxHeartbeats 4000000 in
set_option maxRecDepth 100000 in
theorem law_case_37 {p : Program} {e : Env} {s : State} {m : MethodId} {below : List Frame} {meth : Method} {c : Code} (l : Launch) (hlt : l.stackTraces = false) {b : Nat} {xs : Nat → Int32} (C0 : lw_At p s m meth c b 7 xs) {A : Nat → Prop} (hA : ∀ q : Nat, s.heap.size ≤ q → A q) (hAs : ∀ q : Nat, A q → s.heap.size ≤ q) (hY : sy_E A s s.heap) {dC : Nat → ClassId} {dI : Nat → Nat → Nat} (aa bb : Nat → Nat) (kk jj : Nat → ClassId) (qo : Nat) (H : Heap) (locs : List Loc) (hK : va_K (dC, dI) vwCl (tX kk ++ tM jj) s) (hP : va_P (dC, dI) vwCl (wX aa kk ++ wM bb jj) H) (hD : va_D A (wX aa kk ++ wM bb jj)) (hS : va_S A s.heap H locs) (ls : Array Slot) (hl : lv_has ls 7 [(0, .ref b), (1, .ref (aa 0)), (2, .ref (bb 0)), (3, .ref qo), (4, .int 0)]) : W p l e room_1 s m #[Value.ref b] below meth c H locs 1717 133609 (lw_Z below #[Value.ref b] s) (F0 m 1619 ls []) := by
  obtain ⟨hx, hb, hr, hml, hown0, hts0, hX, hbl, hlocks, hgv⟩ := id C0
  have hown : s.vm.findClass RL = some m.cls := hown0
  have hts : ∀ w ∈ vsL, w.before #[Value.ref b] s = true := fun w h => hts0 w (vsL_in w h)
  have hbA : ¬ A b := fun h => absurd (hAs b h) (Nat.not_le.mpr hbl)
  refine lv_aload_n hx hb dL_law_1619 rfl (lv_at hl 1 rfl) ?_
  refine lv_aload_n hx hb dL_law_1620 rfl (lv_at hl 0 rfl) ?_
  refine lv_iload hx hb dL_law_1621 (lv_at hl 4 rfl) ?_
  refine lv_iconst (v := 1) hx hb dL_law_1623 (by decide) ?_
  refine lv_iadd hx hb dL_law_1624 ?_
  refine lv_topi (fun y_1 ey_1 => ?_)
  obtain rfl : y_1 = 1 := ey_1.trans (by decide)
  refine va_sld hx hb hX hbl hbA hS (show ¬ (_ ∨ _) by decide) dL_law_1625 ?_
  refine va_calli (va_runV (As := [.int (xs (1 : Int32).toNatClampNeg)]) (rest := []) ⟨hx, hb, hml, hown, hts⟩ (c_X8_now l dC dI _ aa kk (xs (1 : Int32).toNatClampNeg)) (cwV 1 hts g_L_X8_now rfl rfl rfl (by decide +kernel) ⟨Nat.le_of_ble_eq_true rfl, Nat.le_of_ble_eq_true rfl⟩) ⟨pu_bl, va_recv hK hP (ci := 8) (q0 := 0) rfl rfl, pu_in (hP.sub [0, 1, 2, 3, 4, 5, 6, 7, 8, 9] rfl) (hK.sub [0, 1, 2, 3] rfl) (hD.sub [0, 1, 2, 3, 4, 5, 6, 7, 8, 9] (by decide) rfl)⟩ rfl rfl hl.1 rfl (lv_room (Nat.le_of_ble_eq_true rfl)) dL_law_1626 ⟨Nat.le_of_ble_eq_true rfl, Nat.le_of_ble_eq_true rfl⟩) hS (fun q _ h => pu_fr hS hA q h) (pu_fr hS hA) (fun r_2 u t H1 locs ht hvm hw hB hz1 hk1 hS => ?_)
  have hP := pu_keep hP hk1
  clear hk1 hz1 ht hvm
  generalize H1 = H at hP hS ⊢
  obtain rfl : r_2 = (-1) := hw
  refine lv_aload_n hx hb dL_law_1629 rfl (lv_at hl 2 rfl) ?_
  refine lv_aload_n hx hb dL_law_1630 rfl (lv_at hl 0 rfl) ?_
  refine lv_iload hx hb dL_law_1631 (lv_at hl 4 rfl) ?_
  refine lv_iconst (v := 1) hx hb dL_law_1633 (by decide) ?_
  refine lv_iadd hx hb dL_law_1634 ?_
  refine lv_topi (fun y_3 ey_3 => ?_)
  obtain rfl : y_3 = 1 := ey_3.trans (by decide)
  refine va_sld hx hb hX hbl hbA hS (show ¬ (_ ∨ _) by decide) dL_law_1635 ?_
  have hFc := va_free (wc := [((bb 0), .inr (9, [.int 0, .ref (bb 10), .ref (bb 11), .ref (bb 12), .ref (bb 13), .ref (bb 14), .ref (bb 15), .ref (bb 16), .ref (bb 17), .ref (bb 18), .ref (bb 19), .ref (bb 20), .ref (bb 1), .ref (bb 2), .ref (bb 3), .ref (bb 4), .int 0, .ref (bb 5), .int 0, .int 0, .int 0, .int 0, .int 0, .int 0, .int 0, .int (-1), .int 0, .int 0, .int 0, .int 0, .int 0, .ref (bb 21), .ref (bb 22), .int 0, .ref (bb 23), .ref (bb 24), .ref (bb 25), .ref (bb 26), .ref (bb 27), .ref (bb 28), .ref (bb 29), .ref (bb 30), .ref (bb 31), .ref (bb 32), .ref (bb 33), .int 0, .int 0, .ref (bb 34), .ref (bb 35), .ref (bb 36), .ref (bb 37), .ref (bb 38), .int 0, .int 0, .ref (bb 39), .ref (bb 40), .ref (bb 41), .ref (bb 42), .ref (bb 43), .ref (bb 44), .ref (bb 45), .int 0, .int 0, .int 0, .ref (bb 46), .int 0, .int 0])), ((bb 1), .inl ((jj 1), 2, .inl (fun _ => 0))), ((bb 2), .inl ((jj 2), 2, .inl (fun _ => 0))), ((bb 3), .inl ((jj 3), 2, .inl (fun _ => 0))), ((bb 4), .inl ((jj 4), 2, .inl begF)), ((bb 5), .inl ((jj 5), 900, .inl (fun _ => 0)))]) hD hS hA [10, 11, 12, 13, 14, 15] rfl
  refine va_calli (va_runV (As := [.int (xs (1 : Int32).toNatClampNeg)]) (rest := [.int (-1)]) ⟨hx, hb, hml, hown, hts⟩ (c_X9_now l dC dI _ bb jj (xs (1 : Int32).toNatClampNeg)) (cwV 1 hts g_L_X9_now rfl rfl rfl (by decide +kernel) ⟨Nat.le_of_ble_eq_true rfl, Nat.le_of_ble_eq_true rfl⟩) ⟨pu_bl, va_recv hK hP (ci := 9) (q0 := 10) rfl rfl, pu_in (hP.sub [10, 11, 12, 13, 14, 15] rfl) (hK.sub [4, 5, 6, 7, 8] rfl) (hD.sub [10, 11, 12, 13, 14, 15] (by decide) rfl)⟩ rfl rfl hl.1 rfl (lv_room (Nat.le_of_ble_eq_true rfl)) dL_law_1636 ⟨Nat.le_of_ble_eq_true rfl, Nat.le_of_ble_eq_true rfl⟩) hS (fun q _ h => hFc q h) hFc (fun r_4 u t H1 locs ht hvm hw hB hz1 hk1 hS => ?_)
  obtain ⟨hP, hD⟩ := va_join (wr := [((aa 0), .inr (8, [.ref (aa 6), .int 0, .ref (aa 4), .ref (aa 1), .ref (aa 5), .ref (aa 2), .ref (aa 10), .int 0, .ref (aa 11), .ref (aa 12), .int 0, .ref (aa 13), .ref (aa 14), .ref (aa 3), .ref (aa 15), .ref (aa 16)])), ((aa 1), .inr (0, [.int 0, .int 0, .int 0, .int (-1), .ref (aa 20), .ref (aa 21), .ref (aa 22), .ref (aa 23), .ref (aa 7), .ref (aa 24), .ref (aa 25), .ref (aa 26), .ref (aa 27), .ref (aa 28), .ref (aa 29), .ref (aa 30), .ref (aa 31)])), ((aa 2), .inr (2, [.int 0, .ref (aa 60), .ref (aa 61)])), ((aa 3), .inr (3, [.int 0, .int 0, .int 0, .ref (aa 62), .ref (aa 63)])), ((aa 4), .inr (4, [.int 0, .int (-1), .null, .int 0, .int 0, .int 0, .int 0, .int 0, .null, .ref (aa 64), .ref (aa 65), .ref (aa 66)])), ((aa 5), .inr (0, [.int 0, .int 0, .int 0, .int (-1), .ref (aa 8), .ref (aa 41), .ref (aa 42), .ref (aa 43), .ref (aa 9), .ref (aa 44), .ref (aa 45), .ref (aa 46), .ref (aa 47), .ref (aa 48), .ref (aa 49), .ref (aa 50), .ref (aa 51)])), ((aa 6), .inl ((kk 0), 900, .inl (fun _ => 0))), ((aa 7), .inl ((kk 1), 22, .inl (fun _ => 0))), ((aa 8), .inl ((kk 2), 8, .inl (fun _ => 0))), ((aa 9), .inl ((kk 3), 22, .inl (fun _ => 0)))]) (w1 := []) hP hD [10, 11, 12, 13, 14, 15] [0, 1, 2, 3, 4, 5, 6, 7, 8, 9] rfl rfl (by decide) (by decide) hk1 hFc pu_P0 pu_D0
  clear hk1 hz1 ht hvm
  generalize H1 = H at hP hS ⊢
  have hP : va_P (dC, dI) vwCl [((aa 0), .inr (8, [.ref (aa 6), .int 0, .ref (aa 4), .ref (aa 1), .ref (aa 5), .ref (aa 2), .ref (aa 10), .int 0, .ref (aa 11), .ref (aa 12), .int 0, .ref (aa 13), .ref (aa 14), .ref (aa 3), .ref (aa 15), .ref (aa 16)])), ((aa 1), .inr (0, [.int 0, .int 0, .int 0, .int (-1), .ref (aa 20), .ref (aa 21), .ref (aa 22), .ref (aa 23), .ref (aa 7), .ref (aa 24), .ref (aa 25), .ref (aa 26), .ref (aa 27), .ref (aa 28), .ref (aa 29), .ref (aa 30), .ref (aa 31)])), ((aa 2), .inr (2, [.int 0, .ref (aa 60), .ref (aa 61)])), ((aa 3), .inr (3, [.int 0, .int 0, .int 0, .ref (aa 62), .ref (aa 63)])), ((aa 4), .inr (4, [.int 0, .int (-1), .null, .int 0, .int 0, .int 0, .int 0, .int 0, .null, .ref (aa 64), .ref (aa 65), .ref (aa 66)])), ((aa 5), .inr (0, [.int 0, .int 0, .int 0, .int (-1), .ref (aa 8), .ref (aa 41), .ref (aa 42), .ref (aa 43), .ref (aa 9), .ref (aa 44), .ref (aa 45), .ref (aa 46), .ref (aa 47), .ref (aa 48), .ref (aa 49), .ref (aa 50), .ref (aa 51)])), ((aa 6), .inl ((kk 0), 900, .inl (fun _ => 0))), ((aa 7), .inl ((kk 1), 22, .inl (fun _ => 0))), ((aa 8), .inl ((kk 2), 8, .inl (fun _ => 0))), ((aa 9), .inl ((kk 3), 22, .inl (fun _ => 0)))] H := hP
  have hD : va_D A [((aa 0), .inr (8, [.ref (aa 6), .int 0, .ref (aa 4), .ref (aa 1), .ref (aa 5), .ref (aa 2), .ref (aa 10), .int 0, .ref (aa 11), .ref (aa 12), .int 0, .ref (aa 13), .ref (aa 14), .ref (aa 3), .ref (aa 15), .ref (aa 16)])), ((aa 1), .inr (0, [.int 0, .int 0, .int 0, .int (-1), .ref (aa 20), .ref (aa 21), .ref (aa 22), .ref (aa 23), .ref (aa 7), .ref (aa 24), .ref (aa 25), .ref (aa 26), .ref (aa 27), .ref (aa 28), .ref (aa 29), .ref (aa 30), .ref (aa 31)])), ((aa 2), .inr (2, [.int 0, .ref (aa 60), .ref (aa 61)])), ((aa 3), .inr (3, [.int 0, .int 0, .int 0, .ref (aa 62), .ref (aa 63)])), ((aa 4), .inr (4, [.int 0, .int (-1), .null, .int 0, .int 0, .int 0, .int 0, .int 0, .null, .ref (aa 64), .ref (aa 65), .ref (aa 66)])), ((aa 5), .inr (0, [.int 0, .int 0, .int 0, .int (-1), .ref (aa 8), .ref (aa 41), .ref (aa 42), .ref (aa 43), .ref (aa 9), .ref (aa 44), .ref (aa 45), .ref (aa 46), .ref (aa 47), .ref (aa 48), .ref (aa 49), .ref (aa 50), .ref (aa 51)])), ((aa 6), .inl ((kk 0), 900, .inl (fun _ => 0))), ((aa 7), .inl ((kk 1), 22, .inl (fun _ => 0))), ((aa 8), .inl ((kk 2), 8, .inl (fun _ => 0))), ((aa 9), .inl ((kk 3), 22, .inl (fun _ => 0)))] := hD
  obtain rfl : r_4 = (-1) := hw
  refine lv_icmp_eq (tgt := 1725) hx hb dL_law_1639 (by decide) (fun _ => ?_) (fun z => absurd z (by decide))
  exact law_tail l C0 hA hAs hS (lv_sub hl [0, 4] rfl) (Nat.le_of_ble_eq_true rfl) (Nat.le_of_ble_eq_true rfl)
set_option maxHeartbeats 4000000 in
set_option maxRecDepth 100000 in
theorem law_case_38 {p : Program} {e : Env} {s : State} {m : MethodId} {below : List Frame} {meth : Method} {c : Code} (l : Launch) (hlt : l.stackTraces = false) {b : Nat} {xs : Nat → Int32} (C0 : lw_At p s m meth c b 7 xs) {A : Nat → Prop} (hA : ∀ q : Nat, s.heap.size ≤ q → A q) (hAs : ∀ q : Nat, A q → s.heap.size ≤ q) (hY : sy_E A s s.heap) {dC : Nat → ClassId} {dI : Nat → Nat → Nat} (aa bb : Nat → Nat) (kk jj : Nat → ClassId) (qo : Nat) (H : Heap) (locs : List Loc) (hK : va_K (dC, dI) vwCl (tX kk ++ tM jj) s) (hP : va_P (dC, dI) vwCl (wX aa kk ++ wM bb jj) H) (hD : va_D A (wX aa kk ++ wM bb jj)) (hS : va_S A s.heap H locs) (ls : Array Slot) (hl : lv_has ls 7 [(0, .ref b), (1, .ref (aa 0)), (2, .ref (bb 0)), (3, .ref qo), (4, .int 0)]) : W p l e room_1 s m #[Value.ref b] below meth c H locs 1717 133609 (lw_Z below #[Value.ref b] s) (F0 m 1644 ls []) := by
  obtain ⟨hx, hb, hr, hml, hown0, hts0, hX, hbl, hlocks, hgv⟩ := id C0
  have hown : s.vm.findClass RL = some m.cls := hown0
  have hts : ∀ w ∈ vsL, w.before #[Value.ref b] s = true := fun w h => hts0 w (vsL_in w h)
  have hbA : ¬ A b := fun h => absurd (hAs b h) (Nat.not_le.mpr hbl)
  refine lv_aload_n hx hb dL_law_1644 rfl (lv_at hl 1 rfl) ?_
  refine lv_aload_n hx hb dL_law_1645 rfl (lv_at hl 0 rfl) ?_
  refine lv_iload hx hb dL_law_1646 (lv_at hl 4 rfl) ?_
  refine lv_iconst (v := 1) hx hb dL_law_1648 (by decide) ?_
  refine lv_iadd hx hb dL_law_1649 ?_
  refine lv_topi (fun y_1 ey_1 => ?_)
  obtain rfl : y_1 = 1 := ey_1.trans (by decide)
  refine va_sld hx hb hX hbl hbA hS (show ¬ (_ ∨ _) by decide) dL_law_1650 ?_
  refine lv_aload_n hx hb dL_law_1651 rfl (lv_at hl 3 rfl) ?_
  refine va_calli (vx_runSW (As := [.ref (aa 0), .int (xs (1 : Int32).toNatClampNeg), .ref qo]) (rest := []) ⟨hx, hb, hml, hown, hts⟩ (c_L_clock l hlt dC dI _ aa kk (xs (1 : Int32).toNatClampNeg) qo) (vx_cwSW 3 hts g_L_L_clock rfl rfl rfl (by decide +kernel) ⟨Nat.le_of_ble_eq_true rfl, Nat.le_of_ble_eq_true rfl⟩) ⟨pu_bly, pu_iny (hP.sub [0, 1, 2, 3, 4, 5, 6, 7, 8, 9] rfl) (hK.sub [0, 1, 2, 3] rfl) (hD.sub [0, 1, 2, 3, 4, 5, 6, 7, 8, 9] (by decide) rfl) hY hS (pu_fr hS hA)⟩ rfl rfl hl.1 rfl (lv_room (Nat.le_of_ble_eq_true rfl)) dL_law_1652 ⟨Nat.le_of_ble_eq_true rfl, Nat.le_of_ble_eq_true rfl⟩) hS (fun q _ h => pu_fr hS hA q h) (pu_fr hS hA) (fun r_2 u t H1 locs ht hvm hw hB hz1 hk1 hS => ?_)
  have hP := pu_keep hP hk1
  clear hk1 hz1 ht hvm
  generalize H1 = H at hP hS ⊢
  refine W.widen (k := 1718) (n := 133615) (by omega) (by omega) ?_
  obtain rfl : r_2 = 1 := hw
  refine lv_istore (lv' := [(5, .int 1), (0, .ref b), (1, .ref (aa 0)), (2, .ref (bb 0)), (3, .ref qo), (4, .int 0)]) hx hb dL_law_1655 hl (by decide) rfl (fun ls hl => ?_)
  refine lv_aload_n hx hb dL_law_1657 rfl (lv_at hl 3 rfl) ?_
  refine lv_aload_n hx hb dL_law_1658 rfl (lv_at hl 1 rfl) ?_
  refine lv_iload hx hb dL_law_1659 (lv_at hl 5 rfl) ?_
  refine lv_iconst (v := 1) hx hb dL_law_1661 (by decide) ?_
  refine lv_iadd hx hb dL_law_1662 ?_
  refine lv_topi (fun y_3 ey_3 => ?_)
  obtain rfl : y_3 = 1 := ey_3.trans (by decide)
  refine va_sld hx hb hX hbl hbA hS (show ¬ (_ ∨ _) by decide) dL_law_1663 ?_
  have hFc := va_free (wc := [((bb 0), .inr (9, [.int 0, .ref (bb 10), .ref (bb 11), .ref (bb 12), .ref (bb 13), .ref (bb 14), .ref (bb 15), .ref (bb 16), .ref (bb 17), .ref (bb 18), .ref (bb 19), .ref (bb 20), .ref (bb 1), .ref (bb 2), .ref (bb 3), .ref (bb 4), .int 0, .ref (bb 5), .int 0, .int 0, .int 0, .int 0, .int 0, .int 0, .int 0, .int (-1), .int 0, .int 0, .int 0, .int 0, .int 0, .ref (bb 21), .ref (bb 22), .int 0, .ref (bb 23), .ref (bb 24), .ref (bb 25), .ref (bb 26), .ref (bb 27), .ref (bb 28), .ref (bb 29), .ref (bb 30), .ref (bb 31), .ref (bb 32), .ref (bb 33), .int 0, .int 0, .ref (bb 34), .ref (bb 35), .ref (bb 36), .ref (bb 37), .ref (bb 38), .int 0, .int 0, .ref (bb 39), .ref (bb 40), .ref (bb 41), .ref (bb 42), .ref (bb 43), .ref (bb 44), .ref (bb 45), .int 0, .int 0, .int 0, .ref (bb 46), .int 0, .int 0])), ((bb 1), .inl ((jj 1), 2, .inl (fun _ => 0))), ((bb 2), .inl ((jj 2), 2, .inl (fun _ => 0))), ((bb 3), .inl ((jj 3), 2, .inl (fun _ => 0))), ((bb 4), .inl ((jj 4), 2, .inl begF)), ((bb 5), .inl ((jj 5), 900, .inl (fun _ => 0)))]) hD hS hA [10, 11, 12, 13, 14, 15] rfl
  refine va_calli (va_runV (As := [.int (xs (1 : Int32).toNatClampNeg)]) (rest := []) ⟨hx, hb, hml, hown, hts⟩ (c_X9_clock l dC dI _ bb jj (xs (1 : Int32).toNatClampNeg)) (cwV 1 hts g_L_X9_clock rfl rfl rfl (by decide +kernel) ⟨Nat.le_of_ble_eq_true rfl, Nat.le_of_ble_eq_true rfl⟩) ⟨pu_bl, va_recv hK hP (ci := 9) (q0 := 10) rfl rfl, pu_in (hP.sub [10, 11, 12, 13, 14, 15] rfl) (hK.sub [4, 5, 6, 7, 8] rfl) (hD.sub [10, 11, 12, 13, 14, 15] (by decide) rfl)⟩ rfl rfl hl.1 rfl (lv_room (Nat.le_of_ble_eq_true rfl)) dL_law_1664 ⟨Nat.le_of_ble_eq_true rfl, Nat.le_of_ble_eq_true rfl⟩) hS (fun q _ h => hFc q h) hFc (fun r_4 u t H1 locs ht hvm hw hB hz1 hk1 hS => ?_)
  obtain ⟨hP1, hK1, hD1⟩ := hB
  rw [ht] at hP1
  have hK1 := va_K.moved hvm.symm hK1
  obtain ⟨hP, hD⟩ := va_join (wr := [((aa 0), .inr (8, [.ref (aa 6), .int 0, .ref (aa 4), .ref (aa 1), .ref (aa 5), .ref (aa 2), .ref (aa 10), .int 0, .ref (aa 11), .ref (aa 12), .int 0, .ref (aa 13), .ref (aa 14), .ref (aa 3), .ref (aa 15), .ref (aa 16)])), ((aa 1), .inr (0, [.int 0, .int 0, .int 0, .int (-1), .ref (aa 20), .ref (aa 21), .ref (aa 22), .ref (aa 23), .ref (aa 7), .ref (aa 24), .ref (aa 25), .ref (aa 26), .ref (aa 27), .ref (aa 28), .ref (aa 29), .ref (aa 30), .ref (aa 31)])), ((aa 2), .inr (2, [.int 0, .ref (aa 60), .ref (aa 61)])), ((aa 3), .inr (3, [.int 0, .int 0, .int 0, .ref (aa 62), .ref (aa 63)])), ((aa 4), .inr (4, [.int 0, .int (-1), .null, .int 0, .int 0, .int 0, .int 0, .int 0, .null, .ref (aa 64), .ref (aa 65), .ref (aa 66)])), ((aa 5), .inr (0, [.int 0, .int 0, .int 0, .int (-1), .ref (aa 8), .ref (aa 41), .ref (aa 42), .ref (aa 43), .ref (aa 9), .ref (aa 44), .ref (aa 45), .ref (aa 46), .ref (aa 47), .ref (aa 48), .ref (aa 49), .ref (aa 50), .ref (aa 51)])), ((aa 6), .inl ((kk 0), 900, .inl (fun _ => 0))), ((aa 7), .inl ((kk 1), 22, .inl (fun _ => 0))), ((aa 8), .inl ((kk 2), 8, .inl (fun _ => 0))), ((aa 9), .inl ((kk 3), 22, .inl (fun _ => 0)))]) (w1 := [((bb 0), .inr (9, [.int 1, .ref (bb 10), .ref (bb 11), .ref (bb 12), .ref (bb 13), .ref (bb 14), .ref (bb 15), .ref (bb 16), .ref (bb 17), .ref (bb 18), .ref (bb 19), .ref (bb 20), .ref (bb 1), .ref (bb 2), .ref (bb 3), .ref (bb 4), .int 0, .ref (bb 5), .int 0, .int 0, .int 0, .int 0, .int 0, .int 0, .int 0, .int (-1), .int 0, .int 0, .int 0, .int 0, .int 0, .ref (bb 21), .ref (bb 22), .int 0, .ref (bb 23), .ref (bb 24), .ref (bb 25), .ref (bb 26), .ref (bb 27), .ref (bb 28), .ref (bb 29), .ref (bb 30), .ref (bb 31), .ref (bb 32), .ref (bb 33), .int 0, .int 0, .ref (bb 34), .ref (bb 35), .ref (bb 36), .ref (bb 37), .ref (bb 38), .int 0, .int 0, .ref (bb 39), .ref (bb 40), .ref (bb 41), .ref (bb 42), .ref (bb 43), .ref (bb 44), .ref (bb 45), .int 0, .int 0, .int 0, .ref (bb 46), .int 0, .int 0])), ((bb 1), .inl ((jj 1), 2, .inl (fun _ => 0))), ((bb 2), .inl ((jj 2), 2, .inl (fun _ => 0))), ((bb 3), .inl ((jj 3), 2, .inl (fun _ => 0))), ((bb 4), .inl ((jj 4), 2, .inl begF)), ((bb 5), .inl ((jj 5), 900, .inl (fun _ => 0)))]) hP hD [10, 11, 12, 13, 14, 15] [0, 1, 2, 3, 4, 5, 6, 7, 8, 9] rfl rfl (by decide) (by decide) hk1 hFc hP1 hD1
  have hK := hK.app hK1
  clear hk1 hz1 ht hvm
  generalize H1 = H at hP hS ⊢
  have hP : va_P (dC, dI) vwCl [((aa 0), .inr (8, [.ref (aa 6), .int 0, .ref (aa 4), .ref (aa 1), .ref (aa 5), .ref (aa 2), .ref (aa 10), .int 0, .ref (aa 11), .ref (aa 12), .int 0, .ref (aa 13), .ref (aa 14), .ref (aa 3), .ref (aa 15), .ref (aa 16)])), ((aa 1), .inr (0, [.int 0, .int 0, .int 0, .int (-1), .ref (aa 20), .ref (aa 21), .ref (aa 22), .ref (aa 23), .ref (aa 7), .ref (aa 24), .ref (aa 25), .ref (aa 26), .ref (aa 27), .ref (aa 28), .ref (aa 29), .ref (aa 30), .ref (aa 31)])), ((aa 2), .inr (2, [.int 0, .ref (aa 60), .ref (aa 61)])), ((aa 3), .inr (3, [.int 0, .int 0, .int 0, .ref (aa 62), .ref (aa 63)])), ((aa 4), .inr (4, [.int 0, .int (-1), .null, .int 0, .int 0, .int 0, .int 0, .int 0, .null, .ref (aa 64), .ref (aa 65), .ref (aa 66)])), ((aa 5), .inr (0, [.int 0, .int 0, .int 0, .int (-1), .ref (aa 8), .ref (aa 41), .ref (aa 42), .ref (aa 43), .ref (aa 9), .ref (aa 44), .ref (aa 45), .ref (aa 46), .ref (aa 47), .ref (aa 48), .ref (aa 49), .ref (aa 50), .ref (aa 51)])), ((aa 6), .inl ((kk 0), 900, .inl (fun _ => 0))), ((aa 7), .inl ((kk 1), 22, .inl (fun _ => 0))), ((aa 8), .inl ((kk 2), 8, .inl (fun _ => 0))), ((aa 9), .inl ((kk 3), 22, .inl (fun _ => 0))), ((bb 0), .inr (9, [.int 1, .ref (bb 10), .ref (bb 11), .ref (bb 12), .ref (bb 13), .ref (bb 14), .ref (bb 15), .ref (bb 16), .ref (bb 17), .ref (bb 18), .ref (bb 19), .ref (bb 20), .ref (bb 1), .ref (bb 2), .ref (bb 3), .ref (bb 4), .int 0, .ref (bb 5), .int 0, .int 0, .int 0, .int 0, .int 0, .int 0, .int 0, .int (-1), .int 0, .int 0, .int 0, .int 0, .int 0, .ref (bb 21), .ref (bb 22), .int 0, .ref (bb 23), .ref (bb 24), .ref (bb 25), .ref (bb 26), .ref (bb 27), .ref (bb 28), .ref (bb 29), .ref (bb 30), .ref (bb 31), .ref (bb 32), .ref (bb 33), .int 0, .int 0, .ref (bb 34), .ref (bb 35), .ref (bb 36), .ref (bb 37), .ref (bb 38), .int 0, .int 0, .ref (bb 39), .ref (bb 40), .ref (bb 41), .ref (bb 42), .ref (bb 43), .ref (bb 44), .ref (bb 45), .int 0, .int 0, .int 0, .ref (bb 46), .int 0, .int 0])), ((bb 1), .inl ((jj 1), 2, .inl (fun _ => 0))), ((bb 2), .inl ((jj 2), 2, .inl (fun _ => 0))), ((bb 3), .inl ((jj 3), 2, .inl (fun _ => 0))), ((bb 4), .inl ((jj 4), 2, .inl begF)), ((bb 5), .inl ((jj 5), 900, .inl (fun _ => 0)))] H := hP
  have hD : va_D A [((aa 0), .inr (8, [.ref (aa 6), .int 0, .ref (aa 4), .ref (aa 1), .ref (aa 5), .ref (aa 2), .ref (aa 10), .int 0, .ref (aa 11), .ref (aa 12), .int 0, .ref (aa 13), .ref (aa 14), .ref (aa 3), .ref (aa 15), .ref (aa 16)])), ((aa 1), .inr (0, [.int 0, .int 0, .int 0, .int (-1), .ref (aa 20), .ref (aa 21), .ref (aa 22), .ref (aa 23), .ref (aa 7), .ref (aa 24), .ref (aa 25), .ref (aa 26), .ref (aa 27), .ref (aa 28), .ref (aa 29), .ref (aa 30), .ref (aa 31)])), ((aa 2), .inr (2, [.int 0, .ref (aa 60), .ref (aa 61)])), ((aa 3), .inr (3, [.int 0, .int 0, .int 0, .ref (aa 62), .ref (aa 63)])), ((aa 4), .inr (4, [.int 0, .int (-1), .null, .int 0, .int 0, .int 0, .int 0, .int 0, .null, .ref (aa 64), .ref (aa 65), .ref (aa 66)])), ((aa 5), .inr (0, [.int 0, .int 0, .int 0, .int (-1), .ref (aa 8), .ref (aa 41), .ref (aa 42), .ref (aa 43), .ref (aa 9), .ref (aa 44), .ref (aa 45), .ref (aa 46), .ref (aa 47), .ref (aa 48), .ref (aa 49), .ref (aa 50), .ref (aa 51)])), ((aa 6), .inl ((kk 0), 900, .inl (fun _ => 0))), ((aa 7), .inl ((kk 1), 22, .inl (fun _ => 0))), ((aa 8), .inl ((kk 2), 8, .inl (fun _ => 0))), ((aa 9), .inl ((kk 3), 22, .inl (fun _ => 0))), ((bb 0), .inr (9, [.int 1, .ref (bb 10), .ref (bb 11), .ref (bb 12), .ref (bb 13), .ref (bb 14), .ref (bb 15), .ref (bb 16), .ref (bb 17), .ref (bb 18), .ref (bb 19), .ref (bb 20), .ref (bb 1), .ref (bb 2), .ref (bb 3), .ref (bb 4), .int 0, .ref (bb 5), .int 0, .int 0, .int 0, .int 0, .int 0, .int 0, .int 0, .int (-1), .int 0, .int 0, .int 0, .int 0, .int 0, .ref (bb 21), .ref (bb 22), .int 0, .ref (bb 23), .ref (bb 24), .ref (bb 25), .ref (bb 26), .ref (bb 27), .ref (bb 28), .ref (bb 29), .ref (bb 30), .ref (bb 31), .ref (bb 32), .ref (bb 33), .int 0, .int 0, .ref (bb 34), .ref (bb 35), .ref (bb 36), .ref (bb 37), .ref (bb 38), .int 0, .int 0, .ref (bb 39), .ref (bb 40), .ref (bb 41), .ref (bb 42), .ref (bb 43), .ref (bb 44), .ref (bb 45), .int 0, .int 0, .int 0, .ref (bb 46), .int 0, .int 0])), ((bb 1), .inl ((jj 1), 2, .inl (fun _ => 0))), ((bb 2), .inl ((jj 2), 2, .inl (fun _ => 0))), ((bb 3), .inl ((jj 3), 2, .inl (fun _ => 0))), ((bb 4), .inl ((jj 4), 2, .inl begF)), ((bb 5), .inl ((jj 5), 900, .inl (fun _ => 0)))] := hD
  have hK : va_K (dC, dI) vwCl [(kk 0, .int), (kk 1, .int), (kk 2, .boolean), (kk 3, .int), (jj 1, .int), (jj 2, .int), (jj 3, .int), (jj 4, .int), (jj 5, .int), (jj 1, .int), (jj 2, .int), (jj 3, .int), (jj 4, .int), (jj 5, .int)] s := hK
  obtain rfl : r_4 = 0 := hw
  refine lv_istore (lv' := [(6, .int 0), (5, .int 1), (0, .ref b), (1, .ref (aa 0)), (2, .ref (bb 0)), (3, .ref qo), (4, .int 0)]) hx hb dL_law_1667 hl (by decide) rfl (fun ls hl => ?_)
  refine lv_aload_n hx hb dL_law_1669 rfl (lv_at hl 4 rfl) ?_
  refine va_calli (va_runV (As := []) (rest := []) ⟨hx, hb, hml, hown, hts⟩ (c_X9_thrown l dC dI _ bb jj) (cwV 0 hts g_L_X9_thrown rfl rfl rfl (by decide +kernel) ⟨Nat.le_of_ble_eq_true rfl, Nat.le_of_ble_eq_true rfl⟩) ⟨pu_bl, va_recv hK hP (ci := 9) (q0 := 10) rfl rfl, pu_in (hP.sub [10, 11, 12, 13, 14, 15] rfl) (hK.sub [4, 5, 6, 7, 8] rfl) (hD.sub [10, 11, 12, 13, 14, 15] (by decide) rfl)⟩ rfl rfl hl.1 rfl (lv_room (Nat.le_of_ble_eq_true rfl)) dL_law_1670 ⟨Nat.le_of_ble_eq_true rfl, Nat.le_of_ble_eq_true rfl⟩) hS (fun q _ h => pu_fr hS hA q h) (pu_fr hS hA) (fun r_5 u t H1 locs ht hvm hw hB hz1 hk1 hS => ?_)
  have hP := pu_keep hP hk1
  clear hk1 hz1 ht hvm
  generalize H1 = H at hP hS ⊢
  obtain rfl : r_5 = 1 := hw
  refine lv_iload hx hb dL_law_1673 (lv_at hl 1 rfl) ?_
  refine lv_icmp_eq (tgt := 1680) hx hb dL_law_1675 (by decide) (fun _ => ?_) (fun z => absurd z (by decide))
  refine lv_iload hx hb dL_law_1680 (lv_at hl 1 rfl) ?_
  refine lv_if_ne (tgt := 1697) hx hb dL_law_1682 (by decide) (fun _ => ?_) (fun z => absurd z (by decide))
  refine lv_goto (tgt := 1725) hx hb dL_law_1697 (by decide) ?_
  exact law_tail l C0 hA hAs hS (lv_sub hl [2, 6] rfl) (Nat.le_of_ble_eq_true rfl) (Nat.le_of_ble_eq_true rfl)
set_option maxHeartbeats 4000000 in
set_option maxRecDepth 100000 in
theorem law_case_39 {p : Program} {e : Env} {s : State} {m : MethodId} {below : List Frame} {meth : Method} {c : Code} (l : Launch) (hlt : l.stackTraces = false) {b : Nat} {xs : Nat → Int32} (C0 : lw_At p s m meth c b 7 xs) {A : Nat → Prop} (hA : ∀ q : Nat, s.heap.size ≤ q → A q) (hAs : ∀ q : Nat, A q → s.heap.size ≤ q) (hY : sy_E A s s.heap) {dC : Nat → ClassId} {dI : Nat → Nat → Nat} (aa bb : Nat → Nat) (kk jj : Nat → ClassId) (qo : Nat) (H : Heap) (locs : List Loc) (hK : va_K (dC, dI) vwCl (tX kk ++ tM jj) s) (hP : va_P (dC, dI) vwCl (wX aa kk ++ wM bb jj) H) (hD : va_D A (wX aa kk ++ wM bb jj)) (hS : va_S A s.heap H locs) (ls : Array Slot) (hl : lv_has ls 7 [(0, .ref b), (1, .ref (aa 0)), (2, .ref (bb 0)), (3, .ref qo), (4, .int 0)]) : W p l e room_1 s m #[Value.ref b] below meth c H locs 1717 133609 (lw_Z below #[Value.ref b] s) (F0 m 1700 ls []) := by
  obtain ⟨hx, hb, hr, hml, hown0, hts0, hX, hbl, hlocks, hgv⟩ := id C0
  have hown : s.vm.findClass RL = some m.cls := hown0
  have hts : ∀ w ∈ vsL, w.before #[Value.ref b] s = true := fun w h => hts0 w (vsL_in w h)
  have hbA : ¬ A b := fun h => absurd (hAs b h) (Nat.not_le.mpr hbl)
  refine lv_aload_n hx hb dL_law_1700 rfl (lv_at hl 1 rfl) ?_
  refine lv_aload_n hx hb dL_law_1701 rfl (lv_at hl 0 rfl) ?_
  refine lv_iload hx hb dL_law_1702 (lv_at hl 4 rfl) ?_
  refine lv_iconst (v := 1) hx hb dL_law_1704 (by decide) ?_
  refine lv_iadd hx hb dL_law_1705 ?_
  refine lv_topi (fun y_1 ey_1 => ?_)
  obtain rfl : y_1 = 1 := ey_1.trans (by decide)
  refine va_sld hx hb hX hbl hbA hS (show ¬ (_ ∨ _) by decide) dL_law_1706 ?_
  have hFc := va_free (wc := [((aa 0), .inr (8, [.ref (aa 6), .int 0, .ref (aa 4), .ref (aa 1), .ref (aa 5), .ref (aa 2), .ref (aa 10), .int 0, .ref (aa 11), .ref (aa 12), .int 0, .ref (aa 13), .ref (aa 14), .ref (aa 3), .ref (aa 15), .ref (aa 16)])), ((aa 1), .inr (0, [.int 0, .int 0, .int 0, .int (-1), .ref (aa 20), .ref (aa 21), .ref (aa 22), .ref (aa 23), .ref (aa 7), .ref (aa 24), .ref (aa 25), .ref (aa 26), .ref (aa 27), .ref (aa 28), .ref (aa 29), .ref (aa 30), .ref (aa 31)])), ((aa 2), .inr (2, [.int 0, .ref (aa 60), .ref (aa 61)])), ((aa 3), .inr (3, [.int 0, .int 0, .int 0, .ref (aa 62), .ref (aa 63)])), ((aa 4), .inr (4, [.int 0, .int (-1), .null, .int 0, .int 0, .int 0, .int 0, .int 0, .null, .ref (aa 64), .ref (aa 65), .ref (aa 66)])), ((aa 5), .inr (0, [.int 0, .int 0, .int 0, .int (-1), .ref (aa 8), .ref (aa 41), .ref (aa 42), .ref (aa 43), .ref (aa 9), .ref (aa 44), .ref (aa 45), .ref (aa 46), .ref (aa 47), .ref (aa 48), .ref (aa 49), .ref (aa 50), .ref (aa 51)])), ((aa 6), .inl ((kk 0), 900, .inl (fun _ => 0))), ((aa 7), .inl ((kk 1), 22, .inl (fun _ => 0))), ((aa 8), .inl ((kk 2), 8, .inl (fun _ => 0))), ((aa 9), .inl ((kk 3), 22, .inl (fun _ => 0)))]) hD hS hA [0, 1, 2, 3, 4, 5, 6, 7, 8, 9] rfl
  refine va_calli (va_runV (As := [.int (xs (1 : Int32).toNatClampNeg)]) (rest := []) ⟨hx, hb, hml, hown, hts⟩ (c_X8_replays l dC dI _ aa kk (xs (1 : Int32).toNatClampNeg)) (cwV 1 hts g_L_X8_replays rfl rfl rfl (by decide +kernel) ⟨Nat.le_of_ble_eq_true rfl, Nat.le_of_ble_eq_true rfl⟩) ⟨pu_bl, va_recv hK hP (ci := 8) (q0 := 0) rfl rfl, pu_in (hP.sub [0, 1, 2, 3, 4, 5, 6, 7, 8, 9] rfl) (hK.sub [0, 1, 2, 3] rfl) (hD.sub [0, 1, 2, 3, 4, 5, 6, 7, 8, 9] (by decide) rfl)⟩ rfl rfl hl.1 rfl (lv_room (Nat.le_of_ble_eq_true rfl)) dL_law_1707 ⟨Nat.le_of_ble_eq_true rfl, Nat.le_of_ble_eq_true rfl⟩) hS (fun q _ h => hFc q h) hFc (fun r_2 u t H1 locs ht hvm hw hB hz1 hk1 hS => ?_)
  obtain ⟨hP, hD⟩ := va_join (wr := [((bb 0), .inr (9, [.int 0, .ref (bb 10), .ref (bb 11), .ref (bb 12), .ref (bb 13), .ref (bb 14), .ref (bb 15), .ref (bb 16), .ref (bb 17), .ref (bb 18), .ref (bb 19), .ref (bb 20), .ref (bb 1), .ref (bb 2), .ref (bb 3), .ref (bb 4), .int 0, .ref (bb 5), .int 0, .int 0, .int 0, .int 0, .int 0, .int 0, .int 0, .int (-1), .int 0, .int 0, .int 0, .int 0, .int 0, .ref (bb 21), .ref (bb 22), .int 0, .ref (bb 23), .ref (bb 24), .ref (bb 25), .ref (bb 26), .ref (bb 27), .ref (bb 28), .ref (bb 29), .ref (bb 30), .ref (bb 31), .ref (bb 32), .ref (bb 33), .int 0, .int 0, .ref (bb 34), .ref (bb 35), .ref (bb 36), .ref (bb 37), .ref (bb 38), .int 0, .int 0, .ref (bb 39), .ref (bb 40), .ref (bb 41), .ref (bb 42), .ref (bb 43), .ref (bb 44), .ref (bb 45), .int 0, .int 0, .int 0, .ref (bb 46), .int 0, .int 0])), ((bb 1), .inl ((jj 1), 2, .inl (fun _ => 0))), ((bb 2), .inl ((jj 2), 2, .inl (fun _ => 0))), ((bb 3), .inl ((jj 3), 2, .inl (fun _ => 0))), ((bb 4), .inl ((jj 4), 2, .inl begF)), ((bb 5), .inl ((jj 5), 900, .inl (fun _ => 0)))]) (w1 := []) hP hD [0, 1, 2, 3, 4, 5, 6, 7, 8, 9] [10, 11, 12, 13, 14, 15] rfl rfl (by decide) (by decide) hk1 hFc pu_P0 pu_D0
  clear hk1 hz1 ht hvm
  generalize H1 = H at hP hS ⊢
  have hP : va_P (dC, dI) vwCl [((bb 0), .inr (9, [.int 0, .ref (bb 10), .ref (bb 11), .ref (bb 12), .ref (bb 13), .ref (bb 14), .ref (bb 15), .ref (bb 16), .ref (bb 17), .ref (bb 18), .ref (bb 19), .ref (bb 20), .ref (bb 1), .ref (bb 2), .ref (bb 3), .ref (bb 4), .int 0, .ref (bb 5), .int 0, .int 0, .int 0, .int 0, .int 0, .int 0, .int 0, .int (-1), .int 0, .int 0, .int 0, .int 0, .int 0, .ref (bb 21), .ref (bb 22), .int 0, .ref (bb 23), .ref (bb 24), .ref (bb 25), .ref (bb 26), .ref (bb 27), .ref (bb 28), .ref (bb 29), .ref (bb 30), .ref (bb 31), .ref (bb 32), .ref (bb 33), .int 0, .int 0, .ref (bb 34), .ref (bb 35), .ref (bb 36), .ref (bb 37), .ref (bb 38), .int 0, .int 0, .ref (bb 39), .ref (bb 40), .ref (bb 41), .ref (bb 42), .ref (bb 43), .ref (bb 44), .ref (bb 45), .int 0, .int 0, .int 0, .ref (bb 46), .int 0, .int 0])), ((bb 1), .inl ((jj 1), 2, .inl (fun _ => 0))), ((bb 2), .inl ((jj 2), 2, .inl (fun _ => 0))), ((bb 3), .inl ((jj 3), 2, .inl (fun _ => 0))), ((bb 4), .inl ((jj 4), 2, .inl begF)), ((bb 5), .inl ((jj 5), 900, .inl (fun _ => 0)))] H := hP
  have hD : va_D A [((bb 0), .inr (9, [.int 0, .ref (bb 10), .ref (bb 11), .ref (bb 12), .ref (bb 13), .ref (bb 14), .ref (bb 15), .ref (bb 16), .ref (bb 17), .ref (bb 18), .ref (bb 19), .ref (bb 20), .ref (bb 1), .ref (bb 2), .ref (bb 3), .ref (bb 4), .int 0, .ref (bb 5), .int 0, .int 0, .int 0, .int 0, .int 0, .int 0, .int 0, .int (-1), .int 0, .int 0, .int 0, .int 0, .int 0, .ref (bb 21), .ref (bb 22), .int 0, .ref (bb 23), .ref (bb 24), .ref (bb 25), .ref (bb 26), .ref (bb 27), .ref (bb 28), .ref (bb 29), .ref (bb 30), .ref (bb 31), .ref (bb 32), .ref (bb 33), .int 0, .int 0, .ref (bb 34), .ref (bb 35), .ref (bb 36), .ref (bb 37), .ref (bb 38), .int 0, .int 0, .ref (bb 39), .ref (bb 40), .ref (bb 41), .ref (bb 42), .ref (bb 43), .ref (bb 44), .ref (bb 45), .int 0, .int 0, .int 0, .ref (bb 46), .int 0, .int 0])), ((bb 1), .inl ((jj 1), 2, .inl (fun _ => 0))), ((bb 2), .inl ((jj 2), 2, .inl (fun _ => 0))), ((bb 3), .inl ((jj 3), 2, .inl (fun _ => 0))), ((bb 4), .inl ((jj 4), 2, .inl begF)), ((bb 5), .inl ((jj 5), 900, .inl (fun _ => 0)))] := hD
  obtain rfl : r_2 = 0 := hw
  refine lv_aload_n hx hb dL_law_1710 rfl (lv_at hl 2 rfl) ?_
  refine lv_aload_n hx hb dL_law_1711 rfl (lv_at hl 0 rfl) ?_
  refine lv_iload hx hb dL_law_1712 (lv_at hl 4 rfl) ?_
  refine lv_iconst (v := 1) hx hb dL_law_1714 (by decide) ?_
  refine lv_iadd hx hb dL_law_1715 ?_
  refine lv_topi (fun y_3 ey_3 => ?_)
  obtain rfl : y_3 = 1 := ey_3.trans (by decide)
  refine va_sld hx hb hX hbl hbA hS (show ¬ (_ ∨ _) by decide) dL_law_1716 ?_
  have hFc := va_free (wc := [((bb 0), .inr (9, [.int 0, .ref (bb 10), .ref (bb 11), .ref (bb 12), .ref (bb 13), .ref (bb 14), .ref (bb 15), .ref (bb 16), .ref (bb 17), .ref (bb 18), .ref (bb 19), .ref (bb 20), .ref (bb 1), .ref (bb 2), .ref (bb 3), .ref (bb 4), .int 0, .ref (bb 5), .int 0, .int 0, .int 0, .int 0, .int 0, .int 0, .int 0, .int (-1), .int 0, .int 0, .int 0, .int 0, .int 0, .ref (bb 21), .ref (bb 22), .int 0, .ref (bb 23), .ref (bb 24), .ref (bb 25), .ref (bb 26), .ref (bb 27), .ref (bb 28), .ref (bb 29), .ref (bb 30), .ref (bb 31), .ref (bb 32), .ref (bb 33), .int 0, .int 0, .ref (bb 34), .ref (bb 35), .ref (bb 36), .ref (bb 37), .ref (bb 38), .int 0, .int 0, .ref (bb 39), .ref (bb 40), .ref (bb 41), .ref (bb 42), .ref (bb 43), .ref (bb 44), .ref (bb 45), .int 0, .int 0, .int 0, .ref (bb 46), .int 0, .int 0])), ((bb 1), .inl ((jj 1), 2, .inl (fun _ => 0))), ((bb 2), .inl ((jj 2), 2, .inl (fun _ => 0))), ((bb 3), .inl ((jj 3), 2, .inl (fun _ => 0))), ((bb 4), .inl ((jj 4), 2, .inl begF)), ((bb 5), .inl ((jj 5), 900, .inl (fun _ => 0)))]) hD hS hA [0, 1, 2, 3, 4, 5] rfl
  refine va_calli (va_runV (As := [.int (xs (1 : Int32).toNatClampNeg)]) (rest := [.int 0]) ⟨hx, hb, hml, hown, hts⟩ (c_X9_replays l dC dI _ bb jj (xs (1 : Int32).toNatClampNeg)) (cwV 1 hts g_L_X9_replays rfl rfl rfl (by decide +kernel) ⟨Nat.le_of_ble_eq_true rfl, Nat.le_of_ble_eq_true rfl⟩) ⟨pu_bl, va_recv hK hP (ci := 9) (q0 := 0) rfl rfl, pu_in hP (hK.sub [4, 5, 6, 7, 8] rfl) hD⟩ rfl rfl hl.1 rfl (lv_room (Nat.le_of_ble_eq_true rfl)) dL_law_1717 ⟨Nat.le_of_ble_eq_true rfl, Nat.le_of_ble_eq_true rfl⟩) hS (fun q _ h => hFc q h) hFc (fun r_4 u t H1 locs ht hvm hw hB hz1 hk1 hS => ?_)
  obtain ⟨hP, hD⟩ := va_join (wr := []) (w1 := []) hP hD [0, 1, 2, 3, 4, 5] [] rfl rfl (by decide) (by decide) hk1 hFc pu_P0 pu_D0
  clear hk1 hz1 ht hvm
  generalize H1 = H at hP hS ⊢
  have hP : va_P (dC, dI) vwCl [] H := hP
  have hD : va_D A [] := hD
  obtain rfl : r_4 = 0 := hw
  refine lv_icmp_eq (tgt := 1725) hx hb dL_law_1720 (by decide) (fun _ => ?_) (fun z => absurd z (by decide))
  exact law_tail l C0 hA hAs hS (lv_sub hl [0, 4] rfl) (Nat.le_of_ble_eq_true rfl) (Nat.le_of_ble_eq_true rfl)
