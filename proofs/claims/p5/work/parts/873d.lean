set_option maxHeartbeats 4000000 in
set_option maxRecDepth 100000 in
theorem law_case_30 {p : Program} {e : Env} {s : State} {m : MethodId} {below : List Frame} {meth : Method} {c : Code} (l : Launch) (hlt : l.stackTraces = false) {b L : Nat} {xs : Nat → Int32} (C0 : lw_At p s m meth c b L xs) {A : Nat → Prop} (hA : ∀ q : Nat, s.heap.size ≤ q → A q) (hAs : ∀ q : Nat, A q → s.heap.size ≤ q) (hY : sy_E A s s.heap) {dC : Nat → ClassId} {dI : Nat → Nat → Nat} {kI kB kQ kL : ClassId} (hK : va_K (dC, dI) vwCl (k3 kI kB kQ ++ [(kL, .long)]) s) {xa ma qo : Nat} {XA MA : Nat → Prop} (dis : lw_dis XA MA qo A) (hL : L ≤ 3584) (k : Nat) (hk : 7 * k + 7 ≤ L) {H : Heap} {locs : List Loc} {ls : Array Slot} (hJ : LInv (dC, dI) kI kB kQ kL xa ma qo XA MA H) (hS : va_S A s.heap H locs) (hl : lv_has ls 7 [(0, .ref b), (1, .ref xa), (2, .ref ma), (3, .ref qo), (4, .int (nI (7 * k)))]) {cells slots : Nat} (hc : cells ≤ 600000) (hs : slots ≤ 7200000) (hT : ∀ (H : Heap) (locs : List Loc) (ls : Array Slot), LInv (dC, dI) kI kB kQ kL xa ma qo XA MA H → va_S A s.heap H locs → lv_has ls 7 [(0, .ref b), (1, .ref xa), (2, .ref ma), (3, .ref qo), (4, .int (nI (7 * k)))] → W p l e room_1 s m #[Value.ref b] below meth c H locs (cells + 1) (slots + 6) (lw_Z below #[Value.ref b] s) (F0 m 1697 ls [])) : W p l e room_1 s m #[Value.ref b] below meth c H locs cells slots (lw_Z below #[Value.ref b] s) (F0 m 1322 ls []) := by
  obtain ⟨hx, hb, hr, hml, hown0, hts0, hX, hbl, hlocks, hgv⟩ := id C0
  have hown : s.vm.findClass RL = some m.cls := hown0
  have hts : ∀ w ∈ vsL, w.before #[Value.ref b] s = true := fun w h => hts0 w (vsL_in w h)
  have hbA : ¬ A b := fun h => absurd (hAs b h) (Nat.not_le.mpr hbl)
  obtain ⟨Sx, Sm, hsr, hJX, hJM, fq, hPo⟩ := hJ
  have hfx := xi_fact hJX
  have hfm := mi_fact hJM
  refine lv_aload_n hx hb dL_law_1322 rfl (lv_at hl 1 rfl) ?_
  refine lv_aload_n hx hb dL_law_1323 rfl (lv_at hl 0 rfl) ?_
  refine lv_iload hx hb dL_law_1324 (lv_at hl 4 rfl) ?_
  refine lv_iconst (v := 1) hx hb dL_law_1326 (by decide) ?_
  refine lv_iadd hx hb dL_law_1327 ?_
  refine lv_topi (fun y1 ey1 => ?_)
  obtain rfl : y1 = nI (7 * k + 1) := ey1.trans (nI_add (7 * k) 1)
  refine va_sld hx hb hX hbl hbA hS (vp_in_nI (n := 7 * k + 1) (by omega) (by omega)) dL_law_1328 ?_
  refine lv_aload_n hx hb dL_law_1329 rfl (lv_at hl 0 rfl) ?_
  refine lv_iload hx hb dL_law_1330 (lv_at hl 4 rfl) ?_
  refine lv_iconst (v := 2) hx hb dL_law_1332 (by decide) ?_
  refine lv_iadd hx hb dL_law_1333 ?_
  refine lv_topi (fun y2 ey2 => ?_)
  obtain rfl : y2 = nI (7 * k + 2) := ey2.trans (nI_add (7 * k) 2)
  refine va_sld hx hb hX hbl hbA hS (vp_in_nI (n := 7 * k + 2) (by omega) (by omega)) dL_law_1334 ?_
  refine lv_aload_n hx hb dL_law_1335 rfl (lv_at hl 0 rfl) ?_
  refine lv_iload hx hb dL_law_1336 (lv_at hl 4 rfl) ?_
  refine lv_iconst (v := 3) hx hb dL_law_1338 (by decide) ?_
  refine lv_iadd hx hb dL_law_1339 ?_
  refine lv_topi (fun y3 ey3 => ?_)
  obtain rfl : y3 = nI (7 * k + 3) := ey3.trans (nI_add (7 * k) 3)
  refine va_sld hx hb hX hbl hbA hS (vp_in_nI (n := 7 * k + 3) (by omega) (by omega)) dL_law_1340 ?_
  refine lv_aload_n hx hb dL_law_1341 rfl (lv_at hl 0 rfl) ?_
  refine lv_iload hx hb dL_law_1342 (lv_at hl 4 rfl) ?_
  refine lv_iconst (v := 4) hx hb dL_law_1344 (by decide) ?_
  refine lv_iadd hx hb dL_law_1345 ?_
  refine lv_topi (fun y4 ey4 => ?_)
  obtain rfl : y4 = nI (7 * k + 4) := ey4.trans (nI_add (7 * k) 4)
  refine va_sld hx hb hX hbl hbA hS (vp_in_nI (n := 7 * k + 4) (by omega) (by omega)) dL_law_1346 ?_
  refine lv_aload_n hx hb dL_law_1347 rfl (lv_at hl 0 rfl) ?_
  refine lv_iload hx hb dL_law_1348 (lv_at hl 4 rfl) ?_
  refine lv_iconst (v := 5) hx hb dL_law_1350 (by decide) ?_
  refine lv_iadd hx hb dL_law_1351 ?_
  refine lv_topi (fun y5 ey5 => ?_)
  obtain rfl : y5 = nI (7 * k + 5) := ey5.trans (nI_add (7 * k) 5)
  refine va_sld hx hb hX hbl hbA hS (vp_in_nI (n := 7 * k + 5) (by omega) (by omega)) dL_law_1352 ?_
  refine lv_aload_n hx hb dL_law_1353 rfl (lv_at hl 0 rfl) ?_
  refine lv_iload hx hb dL_law_1354 (lv_at hl 4 rfl) ?_
  refine lv_bipush (v := 6) hx hb dL_law_1356 (by decide) ?_
  refine lv_iadd hx hb dL_law_1358 ?_
  refine lv_topi (fun y6 ey6 => ?_)
  obtain rfl : y6 = nI (7 * k + 6) := ey6.trans (nI_add (7 * k) 6)
  refine va_sld hx hb hX hbl hbA hS (vp_in_nI (n := 7 * k + 6) (by omega) (by omega)) dL_law_1359 ?_
  obtain ⟨fsr, hPr⟩ := xi_recv hJX
  refine va_calli (va_runV (As := [.int (xs (nI (7 * k + 1)).toNatClampNeg), .int (xs (nI (7 * k + 2)).toNatClampNeg), .int (xs (nI (7 * k + 3)).toNatClampNeg), .int (xs (nI (7 * k + 4)).toNatClampNeg), .int (xs (nI (7 * k + 5)).toNatClampNeg), .int (xs (nI (7 * k + 6)).toNatClampNeg)]) (rest := []) ⟨hx, hb, hml, hown, hts⟩ (k_X8_tells l dC dI _ kI kB kQ xa XA Sx (xs (nI (7 * k + 1)).toNatClampNeg) (xs (nI (7 * k + 2)).toNatClampNeg) (xs (nI (7 * k + 3)).toNatClampNeg) (xs (nI (7 * k + 4)).toNatClampNeg) (xs (nI (7 * k + 5)).toNatClampNeg) (xs (nI (7 * k + 6)).toNatClampNeg)) (cwV 6 hts gL_X8_tells rfl rfl rfl (by decide +kernel) ⟨Nat.le_of_ble_eq_true rfl, Nat.le_of_ble_eq_true rfl⟩) ⟨xB_bl, va_recv hK hPr (ci := 8) (q0 := 0) rfl rfl, xB_in hJX (k3_of hK)⟩ rfl rfl hl.1 rfl (lv_room (Nat.le_of_ble_eq_true rfl)) dL_law_1360 ⟨by show _ ≤ 601024; omega, by show _ ≤ 7293034; omega⟩) hS (fun q _ h => lx_A dis.1 hA hS q h) (lx_A dis.1 hA hS) (fun r7 u t H1 locs ht hvm hw hB hz1 hk1 hS => ?_)
  have hJM := mi_keep hJM (fun q h1 h2 => hk1 q h1 (lx_no dis.2.2.2.1 h1 h2))
  have hPo := lx_o hPo dis.2.2.2.2.1 hk1
  have hwx : xM_tells Sx (xs (nI (7 * k + 1)).toNatClampNeg) (xs (nI (7 * k + 2)).toNatClampNeg) (xs (nI (7 * k + 3)).toNatClampNeg) (xs (nI (7 * k + 4)).toNatClampNeg) (xs (nI (7 * k + 5)).toNatClampNeg) (xs (nI (7 * k + 6)).toNatClampNeg) r7 u := hw
  have hJX : XInv (dC, dI) kI kB kQ xa XA u t.heap := hB
  generalize u = ux at hwx hJX
  rw [ht] at hJX
  clear hk1 hz1 ht hvm
  generalize H1 = H at hJX hJM hPo hS ⊢
  refine lv_pop hx hb dL_law_1363 rfl ?_
  refine lv_aload_n hx hb dL_law_1364 rfl (lv_at hl 2 rfl) ?_
  refine lv_aload_n hx hb dL_law_1365 rfl (lv_at hl 0 rfl) ?_
  refine lv_iload hx hb dL_law_1366 (lv_at hl 4 rfl) ?_
  refine lv_iconst (v := 1) hx hb dL_law_1368 (by decide) ?_
  refine lv_iadd hx hb dL_law_1369 ?_
  refine lv_topi (fun y8 ey8 => ?_)
  obtain rfl : y8 = nI (7 * k + 1) := ey8.trans (nI_add (7 * k) 1)
  refine va_sld hx hb hX hbl hbA hS (vp_in_nI (n := 7 * k + 1) (by omega) (by omega)) dL_law_1370 ?_
  refine lv_aload_n hx hb dL_law_1371 rfl (lv_at hl 0 rfl) ?_
  refine lv_iload hx hb dL_law_1372 (lv_at hl 4 rfl) ?_
  refine lv_iconst (v := 2) hx hb dL_law_1374 (by decide) ?_
  refine lv_iadd hx hb dL_law_1375 ?_
  refine lv_topi (fun y9 ey9 => ?_)
  obtain rfl : y9 = nI (7 * k + 2) := ey9.trans (nI_add (7 * k) 2)
  refine va_sld hx hb hX hbl hbA hS (vp_in_nI (n := 7 * k + 2) (by omega) (by omega)) dL_law_1376 ?_
  refine lv_aload_n hx hb dL_law_1377 rfl (lv_at hl 0 rfl) ?_
  refine lv_iload hx hb dL_law_1378 (lv_at hl 4 rfl) ?_
  refine lv_iconst (v := 3) hx hb dL_law_1380 (by decide) ?_
  refine lv_iadd hx hb dL_law_1381 ?_
  refine lv_topi (fun y10 ey10 => ?_)
  obtain rfl : y10 = nI (7 * k + 3) := ey10.trans (nI_add (7 * k) 3)
  refine va_sld hx hb hX hbl hbA hS (vp_in_nI (n := 7 * k + 3) (by omega) (by omega)) dL_law_1382 ?_
  refine lv_aload_n hx hb dL_law_1383 rfl (lv_at hl 0 rfl) ?_
  refine lv_iload hx hb dL_law_1384 (lv_at hl 4 rfl) ?_
  refine lv_iconst (v := 4) hx hb dL_law_1386 (by decide) ?_
  refine lv_iadd hx hb dL_law_1387 ?_
  refine lv_topi (fun y11 ey11 => ?_)
  obtain rfl : y11 = nI (7 * k + 4) := ey11.trans (nI_add (7 * k) 4)
  refine va_sld hx hb hX hbl hbA hS (vp_in_nI (n := 7 * k + 4) (by omega) (by omega)) dL_law_1388 ?_
  refine lv_aload_n hx hb dL_law_1389 rfl (lv_at hl 0 rfl) ?_
  refine lv_iload hx hb dL_law_1390 (lv_at hl 4 rfl) ?_
  refine lv_iconst (v := 5) hx hb dL_law_1392 (by decide) ?_
  refine lv_iadd hx hb dL_law_1393 ?_
  refine lv_topi (fun y12 ey12 => ?_)
  obtain rfl : y12 = nI (7 * k + 5) := ey12.trans (nI_add (7 * k) 5)
  refine va_sld hx hb hX hbl hbA hS (vp_in_nI (n := 7 * k + 5) (by omega) (by omega)) dL_law_1394 ?_
  refine lv_aload_n hx hb dL_law_1395 rfl (lv_at hl 0 rfl) ?_
  refine lv_iload hx hb dL_law_1396 (lv_at hl 4 rfl) ?_
  refine lv_bipush (v := 6) hx hb dL_law_1398 (by decide) ?_
  refine lv_iadd hx hb dL_law_1400 ?_
  refine lv_topi (fun y13 ey13 => ?_)
  obtain rfl : y13 = nI (7 * k + 6) := ey13.trans (nI_add (7 * k) 6)
  refine va_sld hx hb hX hbl hbA hS (vp_in_nI (n := 7 * k + 6) (by omega) (by omega)) dL_law_1401 ?_
  obtain ⟨fsr, hPr⟩ := mi_recv hJM
  refine va_calli (va_runV (As := [.int (xs (nI (7 * k + 1)).toNatClampNeg), .int (xs (nI (7 * k + 2)).toNatClampNeg), .int (xs (nI (7 * k + 3)).toNatClampNeg), .int (xs (nI (7 * k + 4)).toNatClampNeg), .int (xs (nI (7 * k + 5)).toNatClampNeg), .int (xs (nI (7 * k + 6)).toNatClampNeg)]) (rest := []) ⟨hx, hb, hml, hown, hts⟩ (k_X9_tells l dC dI _ kI kB kQ ma MA Sm (xs (nI (7 * k + 1)).toNatClampNeg) (xs (nI (7 * k + 2)).toNatClampNeg) (xs (nI (7 * k + 3)).toNatClampNeg) (xs (nI (7 * k + 4)).toNatClampNeg) (xs (nI (7 * k + 5)).toNatClampNeg) (xs (nI (7 * k + 6)).toNatClampNeg)) (cwV 6 hts gL_X9_tells rfl rfl rfl (by decide +kernel) ⟨Nat.le_of_ble_eq_true rfl, Nat.le_of_ble_eq_true rfl⟩) ⟨xB_bl, va_recv hK hPr (ci := 9) (q0 := 0) rfl rfl, xB_in hJM (k3_of hK)⟩ rfl rfl hl.1 rfl (lv_room (Nat.le_of_ble_eq_true rfl)) dL_law_1402 ⟨by show _ ≤ 601024; omega, by show _ ≤ 7293034; omega⟩) hS (fun q _ h => lx_A dis.2.1 hA hS q h) (lx_A dis.2.1 hA hS) (fun r14 u t H1 locs ht hvm hw hB hz1 hk1 hS => ?_)
  have hJX := xi_keep hJX (fun q h1 h2 => hk1 q h1 (lx_no (fun q h g => dis.2.2.2.1 q g h) h1 h2))
  have hPo := lx_o hPo dis.2.2.2.2.2 hk1
  have hwm : mM_tells Sm (xs (nI (7 * k + 1)).toNatClampNeg) (xs (nI (7 * k + 2)).toNatClampNeg) (xs (nI (7 * k + 3)).toNatClampNeg) (xs (nI (7 * k + 4)).toNatClampNeg) (xs (nI (7 * k + 5)).toNatClampNeg) (xs (nI (7 * k + 6)).toNatClampNeg) r14 u := hw
  have hJM : MInv (dC, dI) kI kB ma MA u t.heap := hB
  generalize u = um at hwm hJM
  have hsr1 := sr_tells hsr hfx hfm hwx hwm
  rw [ht] at hJM
  clear hk1 hz1 ht hvm
  generalize H1 = H at hJX hJM hPo hS ⊢
  refine lv_pop hx hb dL_law_1405 rfl ?_
  refine lv_goto (tgt := 1697) hx hb dL_law_1406 (by decide) ?_
  refine W.widen (k := cells + 1) (n := slots + 6) (by omega) (by omega) ?_
  exact hT _ _ _ ⟨ux, um, hsr1, hJX, hJM, fq, hPo⟩ hS (lv_sub hl [0, 1, 2, 3, 4] rfl)
set_option maxHeartbeats 4000000 in
set_option maxRecDepth 100000 in
theorem law_case_31 {p : Program} {e : Env} {s : State} {m : MethodId} {below : List Frame} {meth : Method} {c : Code} (l : Launch) (hlt : l.stackTraces = false) {b L : Nat} {xs : Nat → Int32} (C0 : lw_At p s m meth c b L xs) {A : Nat → Prop} (hA : ∀ q : Nat, s.heap.size ≤ q → A q) (hAs : ∀ q : Nat, A q → s.heap.size ≤ q) (hY : sy_E A s s.heap) {dC : Nat → ClassId} {dI : Nat → Nat → Nat} {kI kB kQ kL : ClassId} (hK : va_K (dC, dI) vwCl (k3 kI kB kQ ++ [(kL, .long)]) s) {xa ma qo : Nat} {XA MA : Nat → Prop} (dis : lw_dis XA MA qo A) (hL : L ≤ 3584) (k : Nat) (hk : 7 * k + 7 ≤ L) {H : Heap} {locs : List Loc} {ls : Array Slot} (hJ : LInv (dC, dI) kI kB kQ kL xa ma qo XA MA H) (hS : va_S A s.heap H locs) (hl : lv_has ls 7 [(0, .ref b), (1, .ref xa), (2, .ref ma), (3, .ref qo), (4, .int (nI (7 * k)))]) {cells slots : Nat} (hc : cells ≤ 600000) (hs : slots ≤ 7200000) (hT : ∀ (H : Heap) (locs : List Loc) (ls : Array Slot), LInv (dC, dI) kI kB kQ kL xa ma qo XA MA H → va_S A s.heap H locs → lv_has ls 7 [(0, .ref b), (1, .ref xa), (2, .ref ma), (3, .ref qo), (4, .int (nI (7 * k)))] → W p l e room_1 s m #[Value.ref b] below meth c H locs (cells + 1) (slots + 6) (lw_Z below #[Value.ref b] s) (F0 m 1697 ls [])) : W p l e room_1 s m #[Value.ref b] below meth c H locs cells slots (lw_Z below #[Value.ref b] s) (F0 m 1409 ls []) := by
  obtain ⟨hx, hb, hr, hml, hown0, hts0, hX, hbl, hlocks, hgv⟩ := id C0
  have hown : s.vm.findClass RL = some m.cls := hown0
  have hts : ∀ w ∈ vsL, w.before #[Value.ref b] s = true := fun w h => hts0 w (vsL_in w h)
  have hbA : ¬ A b := fun h => absurd (hAs b h) (Nat.not_le.mpr hbl)
  obtain ⟨Sx, Sm, hsr, hJX, hJM, fq, hPo⟩ := hJ
  have hfx := xi_fact hJX
  have hfm := mi_fact hJM
  refine lv_aload_n hx hb dL_law_1409 rfl (lv_at hl 1 rfl) ?_
  refine lv_aload_n hx hb dL_law_1410 rfl (lv_at hl 0 rfl) ?_
  refine lv_iload hx hb dL_law_1411 (lv_at hl 4 rfl) ?_
  refine lv_iconst (v := 1) hx hb dL_law_1413 (by decide) ?_
  refine lv_iadd hx hb dL_law_1414 ?_
  refine lv_topi (fun y1 ey1 => ?_)
  obtain rfl : y1 = nI (7 * k + 1) := ey1.trans (nI_add (7 * k) 1)
  refine va_sld hx hb hX hbl hbA hS (vp_in_nI (n := 7 * k + 1) (by omega) (by omega)) dL_law_1415 ?_
  refine lv_aload_n hx hb dL_law_1416 rfl (lv_at hl 0 rfl) ?_
  refine lv_iload hx hb dL_law_1417 (lv_at hl 4 rfl) ?_
  refine lv_iconst (v := 2) hx hb dL_law_1419 (by decide) ?_
  refine lv_iadd hx hb dL_law_1420 ?_
  refine lv_topi (fun y2 ey2 => ?_)
  obtain rfl : y2 = nI (7 * k + 2) := ey2.trans (nI_add (7 * k) 2)
  refine va_sld hx hb hX hbl hbA hS (vp_in_nI (n := 7 * k + 2) (by omega) (by omega)) dL_law_1421 ?_
  refine lv_aload_n hx hb dL_law_1422 rfl (lv_at hl 0 rfl) ?_
  refine lv_iload hx hb dL_law_1423 (lv_at hl 4 rfl) ?_
  refine lv_iconst (v := 3) hx hb dL_law_1425 (by decide) ?_
  refine lv_iadd hx hb dL_law_1426 ?_
  refine lv_topi (fun y3 ey3 => ?_)
  obtain rfl : y3 = nI (7 * k + 3) := ey3.trans (nI_add (7 * k) 3)
  refine va_sld hx hb hX hbl hbA hS (vp_in_nI (n := 7 * k + 3) (by omega) (by omega)) dL_law_1427 ?_
  obtain ⟨fsr, hPr⟩ := xi_recv hJX
  refine va_calli (va_runV (As := [.int (xs (nI (7 * k + 1)).toNatClampNeg), .int (xs (nI (7 * k + 2)).toNatClampNeg), .int (xs (nI (7 * k + 3)).toNatClampNeg)]) (rest := []) ⟨hx, hb, hml, hown, hts⟩ (k_X8_latest l dC dI _ kI kB kQ xa XA Sx (xs (nI (7 * k + 1)).toNatClampNeg) (xs (nI (7 * k + 2)).toNatClampNeg) (xs (nI (7 * k + 3)).toNatClampNeg)) (cwV 3 hts gL_X8_latest rfl rfl rfl (by decide +kernel) ⟨Nat.le_of_ble_eq_true rfl, Nat.le_of_ble_eq_true rfl⟩) ⟨xB_bl, va_recv hK hPr (ci := 8) (q0 := 0) rfl rfl, xB_in hJX (k3_of hK)⟩ rfl rfl hl.1 rfl (lv_room (Nat.le_of_ble_eq_true rfl)) dL_law_1428 ⟨by show _ ≤ 601024; omega, by show _ ≤ 7293034; omega⟩) hS (fun q _ h => lx_A dis.1 hA hS q h) (lx_A dis.1 hA hS) (fun r4 u t H1 locs ht hvm hw hB hz1 hk1 hS => ?_)
  have hJM := mi_keep hJM (fun q h1 h2 => hk1 q h1 (lx_no dis.2.2.2.1 h1 h2))
  have hPo := lx_o hPo dis.2.2.2.2.1 hk1
  have hwx : xM_latest Sx (xs (nI (7 * k + 1)).toNatClampNeg) (xs (nI (7 * k + 2)).toNatClampNeg) (xs (nI (7 * k + 3)).toNatClampNeg) r4 u := hw
  have hJX : XInv (dC, dI) kI kB kQ xa XA u t.heap := hB
  generalize u = ux at hwx hJX
  rw [ht] at hJX
  clear hk1 hz1 ht hvm
  generalize H1 = H at hJX hJM hPo hS ⊢
  refine lv_pop hx hb dL_law_1431 rfl ?_
  refine lv_aload_n hx hb dL_law_1432 rfl (lv_at hl 2 rfl) ?_
  refine lv_aload_n hx hb dL_law_1433 rfl (lv_at hl 0 rfl) ?_
  refine lv_iload hx hb dL_law_1434 (lv_at hl 4 rfl) ?_
  refine lv_iconst (v := 1) hx hb dL_law_1436 (by decide) ?_
  refine lv_iadd hx hb dL_law_1437 ?_
  refine lv_topi (fun y5 ey5 => ?_)
  obtain rfl : y5 = nI (7 * k + 1) := ey5.trans (nI_add (7 * k) 1)
  refine va_sld hx hb hX hbl hbA hS (vp_in_nI (n := 7 * k + 1) (by omega) (by omega)) dL_law_1438 ?_
  refine lv_aload_n hx hb dL_law_1439 rfl (lv_at hl 0 rfl) ?_
  refine lv_iload hx hb dL_law_1440 (lv_at hl 4 rfl) ?_
  refine lv_iconst (v := 2) hx hb dL_law_1442 (by decide) ?_
  refine lv_iadd hx hb dL_law_1443 ?_
  refine lv_topi (fun y6 ey6 => ?_)
  obtain rfl : y6 = nI (7 * k + 2) := ey6.trans (nI_add (7 * k) 2)
  refine va_sld hx hb hX hbl hbA hS (vp_in_nI (n := 7 * k + 2) (by omega) (by omega)) dL_law_1444 ?_
  refine lv_aload_n hx hb dL_law_1445 rfl (lv_at hl 0 rfl) ?_
  refine lv_iload hx hb dL_law_1446 (lv_at hl 4 rfl) ?_
  refine lv_iconst (v := 3) hx hb dL_law_1448 (by decide) ?_
  refine lv_iadd hx hb dL_law_1449 ?_
  refine lv_topi (fun y7 ey7 => ?_)
  obtain rfl : y7 = nI (7 * k + 3) := ey7.trans (nI_add (7 * k) 3)
  refine va_sld hx hb hX hbl hbA hS (vp_in_nI (n := 7 * k + 3) (by omega) (by omega)) dL_law_1450 ?_
  obtain ⟨fsr, hPr⟩ := mi_recv hJM
  refine va_calli (va_runV (As := [.int (xs (nI (7 * k + 1)).toNatClampNeg), .int (xs (nI (7 * k + 2)).toNatClampNeg), .int (xs (nI (7 * k + 3)).toNatClampNeg)]) (rest := []) ⟨hx, hb, hml, hown, hts⟩ (k_X9_latest l dC dI _ kI kB kQ ma MA Sm (xs (nI (7 * k + 1)).toNatClampNeg) (xs (nI (7 * k + 2)).toNatClampNeg) (xs (nI (7 * k + 3)).toNatClampNeg)) (cwV 3 hts gL_X9_latest rfl rfl rfl (by decide +kernel) ⟨Nat.le_of_ble_eq_true rfl, Nat.le_of_ble_eq_true rfl⟩) ⟨xB_bl, va_recv hK hPr (ci := 9) (q0 := 0) rfl rfl, xB_in hJM (k3_of hK)⟩ rfl rfl hl.1 rfl (lv_room (Nat.le_of_ble_eq_true rfl)) dL_law_1451 ⟨by show _ ≤ 601024; omega, by show _ ≤ 7293034; omega⟩) hS (fun q _ h => lx_A dis.2.1 hA hS q h) (lx_A dis.2.1 hA hS) (fun r8 u t H1 locs ht hvm hw hB hz1 hk1 hS => ?_)
  have hJX := xi_keep hJX (fun q h1 h2 => hk1 q h1 (lx_no (fun q h g => dis.2.2.2.1 q g h) h1 h2))
  have hPo := lx_o hPo dis.2.2.2.2.2 hk1
  have hwm : mM_latest Sm (xs (nI (7 * k + 1)).toNatClampNeg) (xs (nI (7 * k + 2)).toNatClampNeg) (xs (nI (7 * k + 3)).toNatClampNeg) r8 u := hw
  have hJM : MInv (dC, dI) kI kB ma MA u t.heap := hB
  generalize u = um at hwm hJM
  have hsr1 := sr_latest hsr hfx hfm hwx hwm
  rw [ht] at hJM
  clear hk1 hz1 ht hvm
  generalize H1 = H at hJX hJM hPo hS ⊢
  refine lv_pop hx hb dL_law_1454 rfl ?_
  refine lv_goto (tgt := 1697) hx hb dL_law_1455 (by decide) ?_
  refine W.widen (k := cells + 1) (n := slots + 6) (by omega) (by omega) ?_
  exact hT _ _ _ ⟨ux, um, hsr1, hJX, hJM, fq, hPo⟩ hS (lv_sub hl [0, 1, 2, 3, 4] rfl)
set_option maxHeartbeats 4000000 in
set_option maxRecDepth 100000 in
theorem law_case_32 {p : Program} {e : Env} {s : State} {m : MethodId} {below : List Frame} {meth : Method} {c : Code} (l : Launch) (hlt : l.stackTraces = false) {b L : Nat} {xs : Nat → Int32} (C0 : lw_At p s m meth c b L xs) {A : Nat → Prop} (hA : ∀ q : Nat, s.heap.size ≤ q → A q) (hAs : ∀ q : Nat, A q → s.heap.size ≤ q) (hY : sy_E A s s.heap) {dC : Nat → ClassId} {dI : Nat → Nat → Nat} {kI kB kQ kL : ClassId} (hK : va_K (dC, dI) vwCl (k3 kI kB kQ ++ [(kL, .long)]) s) {xa ma qo : Nat} {XA MA : Nat → Prop} (dis : lw_dis XA MA qo A) (hL : L ≤ 3584) (k : Nat) (hk : 7 * k + 7 ≤ L) {H : Heap} {locs : List Loc} {ls : Array Slot} (hJ : LInv (dC, dI) kI kB kQ kL xa ma qo XA MA H) (hS : va_S A s.heap H locs) (hl : lv_has ls 7 [(0, .ref b), (1, .ref xa), (2, .ref ma), (3, .ref qo), (4, .int (nI (7 * k)))]) {cells slots : Nat} (hc : cells ≤ 600000) (hs : slots ≤ 7200000) (hT : ∀ (H : Heap) (locs : List Loc) (ls : Array Slot), LInv (dC, dI) kI kB kQ kL xa ma qo XA MA H → va_S A s.heap H locs → lv_has ls 7 [(0, .ref b), (1, .ref xa), (2, .ref ma), (3, .ref qo), (4, .int (nI (7 * k)))] → W p l e room_1 s m #[Value.ref b] below meth c H locs (cells + 1) (slots + 6) (lw_Z below #[Value.ref b] s) (F0 m 1697 ls [])) : W p l e room_1 s m #[Value.ref b] below meth c H locs cells slots (lw_Z below #[Value.ref b] s) (F0 m 1458 ls []) := by
  obtain ⟨hx, hb, hr, hml, hown0, hts0, hX, hbl, hlocks, hgv⟩ := id C0
  have hown : s.vm.findClass RL = some m.cls := hown0
  have hts : ∀ w ∈ vsL, w.before #[Value.ref b] s = true := fun w h => hts0 w (vsL_in w h)
  have hbA : ¬ A b := fun h => absurd (hAs b h) (Nat.not_le.mpr hbl)
  obtain ⟨Sx, Sm, hsr, hJX, hJM, fq, hPo⟩ := hJ
  have hfx := xi_fact hJX
  have hfm := mi_fact hJM
  refine lv_aload_n hx hb dL_law_1458 rfl (lv_at hl 1 rfl) ?_
  refine lv_aload_n hx hb dL_law_1459 rfl (lv_at hl 0 rfl) ?_
  refine lv_iload hx hb dL_law_1460 (lv_at hl 4 rfl) ?_
  refine lv_iconst (v := 1) hx hb dL_law_1462 (by decide) ?_
  refine lv_iadd hx hb dL_law_1463 ?_
  refine lv_topi (fun y1 ey1 => ?_)
  obtain rfl : y1 = nI (7 * k + 1) := ey1.trans (nI_add (7 * k) 1)
  refine va_sld hx hb hX hbl hbA hS (vp_in_nI (n := 7 * k + 1) (by omega) (by omega)) dL_law_1464 ?_
  refine lv_aload_n hx hb dL_law_1465 rfl (lv_at hl 0 rfl) ?_
  refine lv_iload hx hb dL_law_1466 (lv_at hl 4 rfl) ?_
  refine lv_iconst (v := 2) hx hb dL_law_1468 (by decide) ?_
  refine lv_iadd hx hb dL_law_1469 ?_
  refine lv_topi (fun y2 ey2 => ?_)
  obtain rfl : y2 = nI (7 * k + 2) := ey2.trans (nI_add (7 * k) 2)
  refine va_sld hx hb hX hbl hbA hS (vp_in_nI (n := 7 * k + 2) (by omega) (by omega)) dL_law_1470 ?_
  obtain ⟨fsr, hPr⟩ := xi_recv hJX
  refine va_calli (va_runV (As := [.int (xs (nI (7 * k + 1)).toNatClampNeg), .int (xs (nI (7 * k + 2)).toNatClampNeg)]) (rest := []) ⟨hx, hb, hml, hown, hts⟩ (k_X8_soonest l dC dI _ kI kB kQ xa XA Sx (xs (nI (7 * k + 1)).toNatClampNeg) (xs (nI (7 * k + 2)).toNatClampNeg)) (cwV 2 hts gL_X8_soonest rfl rfl rfl (by decide +kernel) ⟨Nat.le_of_ble_eq_true rfl, Nat.le_of_ble_eq_true rfl⟩) ⟨xB_bl, va_recv hK hPr (ci := 8) (q0 := 0) rfl rfl, xB_in hJX (k3_of hK)⟩ rfl rfl hl.1 rfl (lv_room (Nat.le_of_ble_eq_true rfl)) dL_law_1471 ⟨by show _ ≤ 601024; omega, by show _ ≤ 7293034; omega⟩) hS (fun q _ h => lx_A dis.1 hA hS q h) (lx_A dis.1 hA hS) (fun r3 u t H1 locs ht hvm hw hB hz1 hk1 hS => ?_)
  have hJM := mi_keep hJM (fun q h1 h2 => hk1 q h1 (lx_no dis.2.2.2.1 h1 h2))
  have hPo := lx_o hPo dis.2.2.2.2.1 hk1
  have hwx : xM_soonest Sx (xs (nI (7 * k + 1)).toNatClampNeg) (xs (nI (7 * k + 2)).toNatClampNeg) r3 u := hw
  have hJX : XInv (dC, dI) kI kB kQ xa XA u t.heap := hB
  generalize u = ux at hwx hJX
  rw [ht] at hJX
  clear hk1 hz1 ht hvm
  generalize H1 = H at hJX hJM hPo hS ⊢
  refine lv_pop hx hb dL_law_1474 rfl ?_
  refine lv_aload_n hx hb dL_law_1475 rfl (lv_at hl 2 rfl) ?_
  refine lv_aload_n hx hb dL_law_1476 rfl (lv_at hl 0 rfl) ?_
  refine lv_iload hx hb dL_law_1477 (lv_at hl 4 rfl) ?_
  refine lv_iconst (v := 1) hx hb dL_law_1479 (by decide) ?_
  refine lv_iadd hx hb dL_law_1480 ?_
  refine lv_topi (fun y4 ey4 => ?_)
  obtain rfl : y4 = nI (7 * k + 1) := ey4.trans (nI_add (7 * k) 1)
  refine va_sld hx hb hX hbl hbA hS (vp_in_nI (n := 7 * k + 1) (by omega) (by omega)) dL_law_1481 ?_
  refine lv_aload_n hx hb dL_law_1482 rfl (lv_at hl 0 rfl) ?_
  refine lv_iload hx hb dL_law_1483 (lv_at hl 4 rfl) ?_
  refine lv_iconst (v := 2) hx hb dL_law_1485 (by decide) ?_
  refine lv_iadd hx hb dL_law_1486 ?_
  refine lv_topi (fun y5 ey5 => ?_)
  obtain rfl : y5 = nI (7 * k + 2) := ey5.trans (nI_add (7 * k) 2)
  refine va_sld hx hb hX hbl hbA hS (vp_in_nI (n := 7 * k + 2) (by omega) (by omega)) dL_law_1487 ?_
  obtain ⟨fsr, hPr⟩ := mi_recv hJM
  refine va_calli (va_runV (As := [.int (xs (nI (7 * k + 1)).toNatClampNeg), .int (xs (nI (7 * k + 2)).toNatClampNeg)]) (rest := []) ⟨hx, hb, hml, hown, hts⟩ (k_X9_soonest l dC dI _ kI kB kQ ma MA Sm (xs (nI (7 * k + 1)).toNatClampNeg) (xs (nI (7 * k + 2)).toNatClampNeg)) (cwV 2 hts gL_X9_soonest rfl rfl rfl (by decide +kernel) ⟨Nat.le_of_ble_eq_true rfl, Nat.le_of_ble_eq_true rfl⟩) ⟨xB_bl, va_recv hK hPr (ci := 9) (q0 := 0) rfl rfl, xB_in hJM (k3_of hK)⟩ rfl rfl hl.1 rfl (lv_room (Nat.le_of_ble_eq_true rfl)) dL_law_1488 ⟨by show _ ≤ 601024; omega, by show _ ≤ 7293034; omega⟩) hS (fun q _ h => lx_A dis.2.1 hA hS q h) (lx_A dis.2.1 hA hS) (fun r6 u t H1 locs ht hvm hw hB hz1 hk1 hS => ?_)
  have hJX := xi_keep hJX (fun q h1 h2 => hk1 q h1 (lx_no (fun q h g => dis.2.2.2.1 q g h) h1 h2))
  have hPo := lx_o hPo dis.2.2.2.2.2 hk1
  have hwm : mM_soonest Sm (xs (nI (7 * k + 1)).toNatClampNeg) (xs (nI (7 * k + 2)).toNatClampNeg) r6 u := hw
  have hJM : MInv (dC, dI) kI kB ma MA u t.heap := hB
  generalize u = um at hwm hJM
  have hsr1 := sr_soonest hsr hfx hfm hwx hwm
  rw [ht] at hJM
  clear hk1 hz1 ht hvm
  generalize H1 = H at hJX hJM hPo hS ⊢
  refine lv_pop hx hb dL_law_1491 rfl ?_
  refine lv_goto (tgt := 1697) hx hb dL_law_1492 (by decide) ?_
  refine W.widen (k := cells + 1) (n := slots + 6) (by omega) (by omega) ?_
  exact hT _ _ _ ⟨ux, um, hsr1, hJX, hJM, fq, hPo⟩ hS (lv_sub hl [0, 1, 2, 3, 4] rfl)
set_option maxHeartbeats 4000000 in
set_option maxRecDepth 100000 in
theorem law_case_33 {p : Program} {e : Env} {s : State} {m : MethodId} {below : List Frame} {meth : Method} {c : Code} (l : Launch) (hlt : l.stackTraces = false) {b L : Nat} {xs : Nat → Int32} (C0 : lw_At p s m meth c b L xs) {A : Nat → Prop} (hA : ∀ q : Nat, s.heap.size ≤ q → A q) (hAs : ∀ q : Nat, A q → s.heap.size ≤ q) (hY : sy_E A s s.heap) {dC : Nat → ClassId} {dI : Nat → Nat → Nat} {kI kB kQ kL : ClassId} (hK : va_K (dC, dI) vwCl (k3 kI kB kQ ++ [(kL, .long)]) s) {xa ma qo : Nat} {XA MA : Nat → Prop} (dis : lw_dis XA MA qo A) (hL : L ≤ 3584) (k : Nat) (hk : 7 * k + 7 ≤ L) {H : Heap} {locs : List Loc} {ls : Array Slot} (hJ : LInv (dC, dI) kI kB kQ kL xa ma qo XA MA H) (hS : va_S A s.heap H locs) (hl : lv_has ls 7 [(0, .ref b), (1, .ref xa), (2, .ref ma), (3, .ref qo), (4, .int (nI (7 * k)))]) {cells slots : Nat} (hc : cells ≤ 600000) (hs : slots ≤ 7200000) (hT : ∀ (H : Heap) (locs : List Loc) (ls : Array Slot), LInv (dC, dI) kI kB kQ kL xa ma qo XA MA H → va_S A s.heap H locs → lv_has ls 7 [(0, .ref b), (1, .ref xa), (2, .ref ma), (3, .ref qo), (4, .int (nI (7 * k)))] → W p l e room_1 s m #[Value.ref b] below meth c H locs (cells + 1) (slots + 6) (lw_Z below #[Value.ref b] s) (F0 m 1697 ls [])) : W p l e room_1 s m #[Value.ref b] below meth c H locs cells slots (lw_Z below #[Value.ref b] s) (F0 m 1495 ls []) := by
  obtain ⟨hx, hb, hr, hml, hown0, hts0, hX, hbl, hlocks, hgv⟩ := id C0
  have hown : s.vm.findClass RL = some m.cls := hown0
  have hts : ∀ w ∈ vsL, w.before #[Value.ref b] s = true := fun w h => hts0 w (vsL_in w h)
  have hbA : ¬ A b := fun h => absurd (hAs b h) (Nat.not_le.mpr hbl)
  obtain ⟨Sx, Sm, hsr, hJX, hJM, fq, hPo⟩ := hJ
  have hfx := xi_fact hJX
  have hfm := mi_fact hJM
  refine lv_aload_n hx hb dL_law_1495 rfl (lv_at hl 1 rfl) ?_
  refine lv_aload_n hx hb dL_law_1496 rfl (lv_at hl 0 rfl) ?_
  refine lv_iload hx hb dL_law_1497 (lv_at hl 4 rfl) ?_
  refine lv_iconst (v := 1) hx hb dL_law_1499 (by decide) ?_
  refine lv_iadd hx hb dL_law_1500 ?_
  refine lv_topi (fun y1 ey1 => ?_)
  obtain rfl : y1 = nI (7 * k + 1) := ey1.trans (nI_add (7 * k) 1)
  refine va_sld hx hb hX hbl hbA hS (vp_in_nI (n := 7 * k + 1) (by omega) (by omega)) dL_law_1501 ?_
  refine lv_aload_n hx hb dL_law_1502 rfl (lv_at hl 0 rfl) ?_
  refine lv_iload hx hb dL_law_1503 (lv_at hl 4 rfl) ?_
  refine lv_iconst (v := 2) hx hb dL_law_1505 (by decide) ?_
  refine lv_iadd hx hb dL_law_1506 ?_
  refine lv_topi (fun y2 ey2 => ?_)
  obtain rfl : y2 = nI (7 * k + 2) := ey2.trans (nI_add (7 * k) 2)
  refine va_sld hx hb hX hbl hbA hS (vp_in_nI (n := 7 * k + 2) (by omega) (by omega)) dL_law_1507 ?_
  refine lv_aload_n hx hb dL_law_1508 rfl (lv_at hl 0 rfl) ?_
  refine lv_iload hx hb dL_law_1509 (lv_at hl 4 rfl) ?_
  refine lv_iconst (v := 3) hx hb dL_law_1511 (by decide) ?_
  refine lv_iadd hx hb dL_law_1512 ?_
  refine lv_topi (fun y3 ey3 => ?_)
  obtain rfl : y3 = nI (7 * k + 3) := ey3.trans (nI_add (7 * k) 3)
  refine va_sld hx hb hX hbl hbA hS (vp_in_nI (n := 7 * k + 3) (by omega) (by omega)) dL_law_1513 ?_
  refine lv_aload_n hx hb dL_law_1514 rfl (lv_at hl 0 rfl) ?_
  refine lv_iload hx hb dL_law_1515 (lv_at hl 4 rfl) ?_
  refine lv_iconst (v := 4) hx hb dL_law_1517 (by decide) ?_
  refine lv_iadd hx hb dL_law_1518 ?_
  refine lv_topi (fun y4 ey4 => ?_)
  obtain rfl : y4 = nI (7 * k + 4) := ey4.trans (nI_add (7 * k) 4)
  refine va_sld hx hb hX hbl hbA hS (vp_in_nI (n := 7 * k + 4) (by omega) (by omega)) dL_law_1519 ?_
  obtain ⟨fsr, hPr⟩ := xi_recv hJX
  refine va_calli (va_runV (As := [.int (xs (nI (7 * k + 1)).toNatClampNeg), .int (xs (nI (7 * k + 2)).toNatClampNeg), .int (xs (nI (7 * k + 3)).toNatClampNeg), .int (xs (nI (7 * k + 4)).toNatClampNeg)]) (rest := []) ⟨hx, hb, hml, hown, hts⟩ (k_X8_lets l dC dI _ kI kB kQ xa XA Sx (xs (nI (7 * k + 1)).toNatClampNeg) (xs (nI (7 * k + 2)).toNatClampNeg) (xs (nI (7 * k + 3)).toNatClampNeg) (xs (nI (7 * k + 4)).toNatClampNeg)) (cwV 4 hts gL_X8_lets rfl rfl rfl (by decide +kernel) ⟨Nat.le_of_ble_eq_true rfl, Nat.le_of_ble_eq_true rfl⟩) ⟨xB_bl, va_recv hK hPr (ci := 8) (q0 := 0) rfl rfl, xB_in hJX (k3_of hK)⟩ rfl rfl hl.1 rfl (lv_room (Nat.le_of_ble_eq_true rfl)) dL_law_1520 ⟨by show _ ≤ 601024; omega, by show _ ≤ 7293034; omega⟩) hS (fun q _ h => lx_A dis.1 hA hS q h) (lx_A dis.1 hA hS) (fun r5 u t H1 locs ht hvm hw hB hz1 hk1 hS => ?_)
  have hJM := mi_keep hJM (fun q h1 h2 => hk1 q h1 (lx_no dis.2.2.2.1 h1 h2))
  have hPo := lx_o hPo dis.2.2.2.2.1 hk1
  have hwx : xM_lets Sx (xs (nI (7 * k + 1)).toNatClampNeg) (xs (nI (7 * k + 2)).toNatClampNeg) (xs (nI (7 * k + 3)).toNatClampNeg) (xs (nI (7 * k + 4)).toNatClampNeg) r5 u := hw
  have hJX : XInv (dC, dI) kI kB kQ xa XA u t.heap := hB
  generalize u = ux at hwx hJX
  rw [ht] at hJX
  clear hk1 hz1 ht hvm
  generalize H1 = H at hJX hJM hPo hS ⊢
  refine lv_pop hx hb dL_law_1523 rfl ?_
  refine lv_aload_n hx hb dL_law_1524 rfl (lv_at hl 2 rfl) ?_
  refine lv_aload_n hx hb dL_law_1525 rfl (lv_at hl 0 rfl) ?_
  refine lv_iload hx hb dL_law_1526 (lv_at hl 4 rfl) ?_
  refine lv_iconst (v := 1) hx hb dL_law_1528 (by decide) ?_
  refine lv_iadd hx hb dL_law_1529 ?_
  refine lv_topi (fun y6 ey6 => ?_)
  obtain rfl : y6 = nI (7 * k + 1) := ey6.trans (nI_add (7 * k) 1)
  refine va_sld hx hb hX hbl hbA hS (vp_in_nI (n := 7 * k + 1) (by omega) (by omega)) dL_law_1530 ?_
  refine lv_aload_n hx hb dL_law_1531 rfl (lv_at hl 0 rfl) ?_
  refine lv_iload hx hb dL_law_1532 (lv_at hl 4 rfl) ?_
  refine lv_iconst (v := 2) hx hb dL_law_1534 (by decide) ?_
  refine lv_iadd hx hb dL_law_1535 ?_
  refine lv_topi (fun y7 ey7 => ?_)
  obtain rfl : y7 = nI (7 * k + 2) := ey7.trans (nI_add (7 * k) 2)
  refine va_sld hx hb hX hbl hbA hS (vp_in_nI (n := 7 * k + 2) (by omega) (by omega)) dL_law_1536 ?_
  refine lv_aload_n hx hb dL_law_1537 rfl (lv_at hl 0 rfl) ?_
  refine lv_iload hx hb dL_law_1538 (lv_at hl 4 rfl) ?_
  refine lv_iconst (v := 3) hx hb dL_law_1540 (by decide) ?_
  refine lv_iadd hx hb dL_law_1541 ?_
  refine lv_topi (fun y8 ey8 => ?_)
  obtain rfl : y8 = nI (7 * k + 3) := ey8.trans (nI_add (7 * k) 3)
  refine va_sld hx hb hX hbl hbA hS (vp_in_nI (n := 7 * k + 3) (by omega) (by omega)) dL_law_1542 ?_
  refine lv_aload_n hx hb dL_law_1543 rfl (lv_at hl 0 rfl) ?_
  refine lv_iload hx hb dL_law_1544 (lv_at hl 4 rfl) ?_
  refine lv_iconst (v := 4) hx hb dL_law_1546 (by decide) ?_
  refine lv_iadd hx hb dL_law_1547 ?_
  refine lv_topi (fun y9 ey9 => ?_)
  obtain rfl : y9 = nI (7 * k + 4) := ey9.trans (nI_add (7 * k) 4)
  refine va_sld hx hb hX hbl hbA hS (vp_in_nI (n := 7 * k + 4) (by omega) (by omega)) dL_law_1548 ?_
  obtain ⟨fsr, hPr⟩ := mi_recv hJM
  refine va_calli (va_runV (As := [.int (xs (nI (7 * k + 1)).toNatClampNeg), .int (xs (nI (7 * k + 2)).toNatClampNeg), .int (xs (nI (7 * k + 3)).toNatClampNeg), .int (xs (nI (7 * k + 4)).toNatClampNeg)]) (rest := []) ⟨hx, hb, hml, hown, hts⟩ (k_X9_lets l dC dI _ kI kB kQ ma MA Sm (xs (nI (7 * k + 1)).toNatClampNeg) (xs (nI (7 * k + 2)).toNatClampNeg) (xs (nI (7 * k + 3)).toNatClampNeg) (xs (nI (7 * k + 4)).toNatClampNeg)) (cwV 4 hts gL_X9_lets rfl rfl rfl (by decide +kernel) ⟨Nat.le_of_ble_eq_true rfl, Nat.le_of_ble_eq_true rfl⟩) ⟨xB_bl, va_recv hK hPr (ci := 9) (q0 := 0) rfl rfl, xB_in hJM (k3_of hK)⟩ rfl rfl hl.1 rfl (lv_room (Nat.le_of_ble_eq_true rfl)) dL_law_1549 ⟨by show _ ≤ 601024; omega, by show _ ≤ 7293034; omega⟩) hS (fun q _ h => lx_A dis.2.1 hA hS q h) (lx_A dis.2.1 hA hS) (fun r10 u t H1 locs ht hvm hw hB hz1 hk1 hS => ?_)
  have hJX := xi_keep hJX (fun q h1 h2 => hk1 q h1 (lx_no (fun q h g => dis.2.2.2.1 q g h) h1 h2))
  have hPo := lx_o hPo dis.2.2.2.2.2 hk1
  have hwm : mM_lets Sm (xs (nI (7 * k + 1)).toNatClampNeg) (xs (nI (7 * k + 2)).toNatClampNeg) (xs (nI (7 * k + 3)).toNatClampNeg) (xs (nI (7 * k + 4)).toNatClampNeg) r10 u := hw
  have hJM : MInv (dC, dI) kI kB ma MA u t.heap := hB
  generalize u = um at hwm hJM
  have hsr1 := sr_lets hsr hfx hfm hwx hwm
  rw [ht] at hJM
  clear hk1 hz1 ht hvm
  generalize H1 = H at hJX hJM hPo hS ⊢
  refine lv_pop hx hb dL_law_1552 rfl ?_
  refine lv_goto (tgt := 1697) hx hb dL_law_1553 (by decide) ?_
  refine W.widen (k := cells + 1) (n := slots + 6) (by omega) (by omega) ?_
  exact hT _ _ _ ⟨ux, um, hsr1, hJX, hJM, fq, hPo⟩ hS (lv_sub hl [0, 1, 2, 3, 4] rfl)
set_option maxHeartbeats 4000000 in
set_option maxRecDepth 100000 in
theorem law_case_34 {p : Program} {e : Env} {s : State} {m : MethodId} {below : List Frame} {meth : Method} {c : Code} (l : Launch) (hlt : l.stackTraces = false) {b L : Nat} {xs : Nat → Int32} (C0 : lw_At p s m meth c b L xs) {A : Nat → Prop} (hA : ∀ q : Nat, s.heap.size ≤ q → A q) (hAs : ∀ q : Nat, A q → s.heap.size ≤ q) (hY : sy_E A s s.heap) {dC : Nat → ClassId} {dI : Nat → Nat → Nat} {kI kB kQ kL : ClassId} (hK : va_K (dC, dI) vwCl (k3 kI kB kQ ++ [(kL, .long)]) s) {xa ma qo : Nat} {XA MA : Nat → Prop} (dis : lw_dis XA MA qo A) (hL : L ≤ 3584) (k : Nat) (hk : 7 * k + 7 ≤ L) {H : Heap} {locs : List Loc} {ls : Array Slot} (hJ : LInv (dC, dI) kI kB kQ kL xa ma qo XA MA H) (hS : va_S A s.heap H locs) (hl : lv_has ls 7 [(0, .ref b), (1, .ref xa), (2, .ref ma), (3, .ref qo), (4, .int (nI (7 * k)))]) {cells slots : Nat} (hc : cells ≤ 600000) (hs : slots ≤ 7200000) (hT : ∀ (H : Heap) (locs : List Loc) (ls : Array Slot), LInv (dC, dI) kI kB kQ kL xa ma qo XA MA H → va_S A s.heap H locs → lv_has ls 7 [(0, .ref b), (1, .ref xa), (2, .ref ma), (3, .ref qo), (4, .int (nI (7 * k)))] → W p l e room_1 s m #[Value.ref b] below meth c H locs (cells + 1) (slots + 6) (lw_Z below #[Value.ref b] s) (F0 m 1697 ls [])) : W p l e room_1 s m #[Value.ref b] below meth c H locs cells slots (lw_Z below #[Value.ref b] s) (F0 m 1556 ls []) := by
  obtain ⟨hx, hb, hr, hml, hown0, hts0, hX, hbl, hlocks, hgv⟩ := id C0
  have hown : s.vm.findClass RL = some m.cls := hown0
  have hts : ∀ w ∈ vsL, w.before #[Value.ref b] s = true := fun w h => hts0 w (vsL_in w h)
  have hbA : ¬ A b := fun h => absurd (hAs b h) (Nat.not_le.mpr hbl)
  obtain ⟨Sx, Sm, hsr, hJX, hJM, fq, hPo⟩ := hJ
  have hfx := xi_fact hJX
  have hfm := mi_fact hJM
  refine lv_aload_n hx hb dL_law_1556 rfl (lv_at hl 1 rfl) ?_
  obtain ⟨fsr, hPr⟩ := xi_recv hJX
  refine va_calli (va_runV (As := []) (rest := []) ⟨hx, hb, hml, hown, hts⟩ (k_X8_begin l dC dI _ kI kB kQ xa XA Sx ) (cwV 0 hts gL_X8_begin rfl rfl rfl (by decide +kernel) ⟨Nat.le_of_ble_eq_true rfl, Nat.le_of_ble_eq_true rfl⟩) ⟨xB_bl, va_recv hK hPr (ci := 8) (q0 := 0) rfl rfl, xB_in hJX (k3_of hK)⟩ rfl rfl hl.1 rfl (lv_room (Nat.le_of_ble_eq_true rfl)) dL_law_1557 ⟨by show _ ≤ 601024; omega, by show _ ≤ 7293034; omega⟩) hS (fun q _ h => lx_A dis.1 hA hS q h) (lx_A dis.1 hA hS) (fun r1 u t H1 locs ht hvm hw hB hz1 hk1 hS => ?_)
  have hJM := mi_keep hJM (fun q h1 h2 => hk1 q h1 (lx_no dis.2.2.2.1 h1 h2))
  have hPo := lx_o hPo dis.2.2.2.2.1 hk1
  have hwx : xM_begin Sx  r1 u := hw
  have hJX : XInv (dC, dI) kI kB kQ xa XA u t.heap := hB
  generalize u = ux at hwx hJX
  rw [ht] at hJX
  clear hk1 hz1 ht hvm
  generalize H1 = H at hJX hJM hPo hS ⊢
  refine lv_pop hx hb dL_law_1560 rfl ?_
  refine lv_aload_n hx hb dL_law_1561 rfl (lv_at hl 2 rfl) ?_
  obtain ⟨fsr, hPr⟩ := mi_recv hJM
  refine va_calli (va_runV (As := []) (rest := []) ⟨hx, hb, hml, hown, hts⟩ (k_X9_begin l dC dI _ kI kB kQ ma MA Sm ) (cwV 0 hts gL_X9_begin rfl rfl rfl (by decide +kernel) ⟨Nat.le_of_ble_eq_true rfl, Nat.le_of_ble_eq_true rfl⟩) ⟨xB_bl, va_recv hK hPr (ci := 9) (q0 := 0) rfl rfl, xB_in hJM (k3_of hK)⟩ rfl rfl hl.1 rfl (lv_room (Nat.le_of_ble_eq_true rfl)) dL_law_1562 ⟨by show _ ≤ 601024; omega, by show _ ≤ 7293034; omega⟩) hS (fun q _ h => lx_A dis.2.1 hA hS q h) (lx_A dis.2.1 hA hS) (fun r2 u t H1 locs ht hvm hw hB hz1 hk1 hS => ?_)
  have hJX := xi_keep hJX (fun q h1 h2 => hk1 q h1 (lx_no (fun q h g => dis.2.2.2.1 q g h) h1 h2))
  have hPo := lx_o hPo dis.2.2.2.2.2 hk1
  have hwm : mM_begin Sm  r2 u := hw
  have hJM : MInv (dC, dI) kI kB ma MA u t.heap := hB
  generalize u = um at hwm hJM
  have hsr1 := sr_begin hsr hfx hfm hwx hwm
  rw [ht] at hJM
  clear hk1 hz1 ht hvm
  generalize H1 = H at hJX hJM hPo hS ⊢
  refine lv_pop hx hb dL_law_1565 rfl ?_
  refine lv_goto (tgt := 1697) hx hb dL_law_1566 (by decide) ?_
  refine W.widen (k := cells + 1) (n := slots + 6) (by omega) (by omega) ?_
  exact hT _ _ _ ⟨ux, um, hsr1, hJX, hJM, fq, hPo⟩ hS (lv_sub hl [0, 1, 2, 3, 4] rfl)
set_option maxHeartbeats 4000000 in
set_option maxRecDepth 100000 in
theorem law_case_35 {p : Program} {e : Env} {s : State} {m : MethodId} {below : List Frame} {meth : Method} {c : Code} (l : Launch) (hlt : l.stackTraces = false) {b L : Nat} {xs : Nat → Int32} (C0 : lw_At p s m meth c b L xs) {A : Nat → Prop} (hA : ∀ q : Nat, s.heap.size ≤ q → A q) (hAs : ∀ q : Nat, A q → s.heap.size ≤ q) (hY : sy_E A s s.heap) {dC : Nat → ClassId} {dI : Nat → Nat → Nat} {kI kB kQ kL : ClassId} (hK : va_K (dC, dI) vwCl (k3 kI kB kQ ++ [(kL, .long)]) s) {xa ma qo : Nat} {XA MA : Nat → Prop} (dis : lw_dis XA MA qo A) (hL : L ≤ 3584) (k : Nat) (hk : 7 * k + 7 ≤ L) {H : Heap} {locs : List Loc} {ls : Array Slot} (hJ : LInv (dC, dI) kI kB kQ kL xa ma qo XA MA H) (hS : va_S A s.heap H locs) (hl : lv_has ls 7 [(0, .ref b), (1, .ref xa), (2, .ref ma), (3, .ref qo), (4, .int (nI (7 * k)))]) {cells slots : Nat} (hc : cells ≤ 600000) (hs : slots ≤ 7200000) (hT : ∀ (H : Heap) (locs : List Loc) (ls : Array Slot), LInv (dC, dI) kI kB kQ kL xa ma qo XA MA H → va_S A s.heap H locs → lv_has ls 7 [(0, .ref b), (1, .ref xa), (2, .ref ma), (3, .ref qo), (4, .int (nI (7 * k)))] → W p l e room_1 s m #[Value.ref b] below meth c H locs (cells + 1) (slots + 6) (lw_Z below #[Value.ref b] s) (F0 m 1697 ls [])) : W p l e room_1 s m #[Value.ref b] below meth c H locs cells slots (lw_Z below #[Value.ref b] s) (F0 m 1569 ls []) := by
  obtain ⟨hx, hb, hr, hml, hown0, hts0, hX, hbl, hlocks, hgv⟩ := id C0
  have hown : s.vm.findClass RL = some m.cls := hown0
  have hts : ∀ w ∈ vsL, w.before #[Value.ref b] s = true := fun w h => hts0 w (vsL_in w h)
  have hbA : ¬ A b := fun h => absurd (hAs b h) (Nat.not_le.mpr hbl)
  obtain ⟨Sx, Sm, hsr, hJX, hJM, fq, hPo⟩ := hJ
  have hfx := xi_fact hJX
  have hfm := mi_fact hJM
  refine lv_aload_n hx hb dL_law_1569 rfl (lv_at hl 1 rfl) ?_
  refine lv_aload_n hx hb dL_law_1570 rfl (lv_at hl 0 rfl) ?_
  refine lv_iload hx hb dL_law_1571 (lv_at hl 4 rfl) ?_
  refine lv_iconst (v := 1) hx hb dL_law_1573 (by decide) ?_
  refine lv_iadd hx hb dL_law_1574 ?_
  refine lv_topi (fun y1 ey1 => ?_)
  obtain rfl : y1 = nI (7 * k + 1) := ey1.trans (nI_add (7 * k) 1)
  refine va_sld hx hb hX hbl hbA hS (vp_in_nI (n := 7 * k + 1) (by omega) (by omega)) dL_law_1575 ?_
  obtain ⟨fsr, hPr⟩ := xi_recv hJX
  refine va_calli (va_runV (As := [.int (xs (nI (7 * k + 1)).toNatClampNeg)]) (rest := []) ⟨hx, hb, hml, hown, hts⟩ (k_X8_waits l dC dI _ kI kB kQ xa XA Sx (xs (nI (7 * k + 1)).toNatClampNeg)) (cwV 1 hts gL_X8_waits rfl rfl rfl (by decide +kernel) ⟨Nat.le_of_ble_eq_true rfl, Nat.le_of_ble_eq_true rfl⟩) ⟨xB_bl, va_recv hK hPr (ci := 8) (q0 := 0) rfl rfl, xB_in hJX (k3_of hK)⟩ rfl rfl hl.1 rfl (lv_room (Nat.le_of_ble_eq_true rfl)) dL_law_1576 ⟨by show _ ≤ 601024; omega, by show _ ≤ 7293034; omega⟩) hS (fun q _ h => lx_A dis.1 hA hS q h) (lx_A dis.1 hA hS) (fun r2 u t H1 locs ht hvm hw hB hz1 hk1 hS => ?_)
  have hJM := mi_keep hJM (fun q h1 h2 => hk1 q h1 (lx_no dis.2.2.2.1 h1 h2))
  have hPo := lx_o hPo dis.2.2.2.2.1 hk1
  have hwx : xM_waits Sx (xs (nI (7 * k + 1)).toNatClampNeg) r2 u := hw
  have hJX : XInv (dC, dI) kI kB kQ xa XA u t.heap := hB
  generalize u = ux at hwx hJX
  rw [ht] at hJX
  clear hk1 hz1 ht hvm
  generalize H1 = H at hJX hJM hPo hS ⊢
  refine lv_pop hx hb dL_law_1579 rfl ?_
  refine lv_aload_n hx hb dL_law_1580 rfl (lv_at hl 2 rfl) ?_
  refine lv_aload_n hx hb dL_law_1581 rfl (lv_at hl 0 rfl) ?_
  refine lv_iload hx hb dL_law_1582 (lv_at hl 4 rfl) ?_
  refine lv_iconst (v := 1) hx hb dL_law_1584 (by decide) ?_
  refine lv_iadd hx hb dL_law_1585 ?_
  refine lv_topi (fun y3 ey3 => ?_)
  obtain rfl : y3 = nI (7 * k + 1) := ey3.trans (nI_add (7 * k) 1)
  refine va_sld hx hb hX hbl hbA hS (vp_in_nI (n := 7 * k + 1) (by omega) (by omega)) dL_law_1586 ?_
  obtain ⟨fsr, hPr⟩ := mi_recv hJM
  refine va_calli (va_runV (As := [.int (xs (nI (7 * k + 1)).toNatClampNeg)]) (rest := []) ⟨hx, hb, hml, hown, hts⟩ (k_X9_waits l dC dI _ kI kB kQ ma MA Sm (xs (nI (7 * k + 1)).toNatClampNeg)) (cwV 1 hts gL_X9_waits rfl rfl rfl (by decide +kernel) ⟨Nat.le_of_ble_eq_true rfl, Nat.le_of_ble_eq_true rfl⟩) ⟨xB_bl, va_recv hK hPr (ci := 9) (q0 := 0) rfl rfl, xB_in hJM (k3_of hK)⟩ rfl rfl hl.1 rfl (lv_room (Nat.le_of_ble_eq_true rfl)) dL_law_1587 ⟨by show _ ≤ 601024; omega, by show _ ≤ 7293034; omega⟩) hS (fun q _ h => lx_A dis.2.1 hA hS q h) (lx_A dis.2.1 hA hS) (fun r4 u t H1 locs ht hvm hw hB hz1 hk1 hS => ?_)
  have hJX := xi_keep hJX (fun q h1 h2 => hk1 q h1 (lx_no (fun q h g => dis.2.2.2.1 q g h) h1 h2))
  have hPo := lx_o hPo dis.2.2.2.2.2 hk1
  have hwm : mM_waits Sm (xs (nI (7 * k + 1)).toNatClampNeg) r4 u := hw
  have hJM : MInv (dC, dI) kI kB ma MA u t.heap := hB
  generalize u = um at hwm hJM
  have hsr1 := sr_waits hsr hfx hfm hwx hwm
  rw [ht] at hJM
  clear hk1 hz1 ht hvm
  generalize H1 = H at hJX hJM hPo hS ⊢
  refine lv_pop hx hb dL_law_1590 rfl ?_
  refine lv_goto (tgt := 1697) hx hb dL_law_1591 (by decide) ?_
  refine W.widen (k := cells + 1) (n := slots + 6) (by omega) (by omega) ?_
  exact hT _ _ _ ⟨ux, um, hsr1, hJX, hJM, fq, hPo⟩ hS (lv_sub hl [0, 1, 2, 3, 4] rfl)
set_option maxHeartbeats 4000000 in
set_option maxRecDepth 100000 in
theorem law_case_36 {p : Program} {e : Env} {s : State} {m : MethodId} {below : List Frame} {meth : Method} {c : Code} (l : Launch) (hlt : l.stackTraces = false) {b L : Nat} {xs : Nat → Int32} (C0 : lw_At p s m meth c b L xs) {A : Nat → Prop} (hA : ∀ q : Nat, s.heap.size ≤ q → A q) (hAs : ∀ q : Nat, A q → s.heap.size ≤ q) (hY : sy_E A s s.heap) {dC : Nat → ClassId} {dI : Nat → Nat → Nat} {kI kB kQ kL : ClassId} (hK : va_K (dC, dI) vwCl (k3 kI kB kQ ++ [(kL, .long)]) s) {xa ma qo : Nat} {XA MA : Nat → Prop} (dis : lw_dis XA MA qo A) (hL : L ≤ 3584) (k : Nat) (hk : 7 * k + 7 ≤ L) {H : Heap} {locs : List Loc} {ls : Array Slot} (hJ : LInv (dC, dI) kI kB kQ kL xa ma qo XA MA H) (hS : va_S A s.heap H locs) (hl : lv_has ls 7 [(0, .ref b), (1, .ref xa), (2, .ref ma), (3, .ref qo), (4, .int (nI (7 * k)))]) {cells slots : Nat} (hc : cells ≤ 600000) (hs : slots ≤ 7200000) (hT : ∀ (H : Heap) (locs : List Loc) (ls : Array Slot), LInv (dC, dI) kI kB kQ kL xa ma qo XA MA H → va_S A s.heap H locs → lv_has ls 7 [(0, .ref b), (1, .ref xa), (2, .ref ma), (3, .ref qo), (4, .int (nI (7 * k)))] → W p l e room_1 s m #[Value.ref b] below meth c H locs (cells + 1) (slots + 6) (lw_Z below #[Value.ref b] s) (F0 m 1697 ls [])) : W p l e room_1 s m #[Value.ref b] below meth c H locs cells slots (lw_Z below #[Value.ref b] s) (F0 m 1594 ls []) := by
  obtain ⟨hx, hb, hr, hml, hown0, hts0, hX, hbl, hlocks, hgv⟩ := id C0
  have hown : s.vm.findClass RL = some m.cls := hown0
  have hts : ∀ w ∈ vsL, w.before #[Value.ref b] s = true := fun w h => hts0 w (vsL_in w h)
  have hbA : ¬ A b := fun h => absurd (hAs b h) (Nat.not_le.mpr hbl)
  obtain ⟨Sx, Sm, hsr, hJX, hJM, fq, hPo⟩ := hJ
  have hfx := xi_fact hJX
  have hfm := mi_fact hJM
  refine lv_aload_n hx hb dL_law_1594 rfl (lv_at hl 1 rfl) ?_
  refine lv_aload_n hx hb dL_law_1595 rfl (lv_at hl 0 rfl) ?_
  refine lv_iload hx hb dL_law_1596 (lv_at hl 4 rfl) ?_
  refine lv_iconst (v := 1) hx hb dL_law_1598 (by decide) ?_
  refine lv_iadd hx hb dL_law_1599 ?_
  refine lv_topi (fun y1 ey1 => ?_)
  obtain rfl : y1 = nI (7 * k + 1) := ey1.trans (nI_add (7 * k) 1)
  refine va_sld hx hb hX hbl hbA hS (vp_in_nI (n := 7 * k + 1) (by omega) (by omega)) dL_law_1600 ?_
  obtain ⟨fsr, hPr⟩ := xi_recv hJX
  refine va_calli (va_runV (As := [.int (xs (nI (7 * k + 1)).toNatClampNeg)]) (rest := []) ⟨hx, hb, hml, hown, hts⟩ (k_X8_takes l dC dI _ kI kB kQ xa XA Sx (xs (nI (7 * k + 1)).toNatClampNeg)) (cwV 1 hts gL_X8_takes rfl rfl rfl (by decide +kernel) ⟨Nat.le_of_ble_eq_true rfl, Nat.le_of_ble_eq_true rfl⟩) ⟨xB_bl, va_recv hK hPr (ci := 8) (q0 := 0) rfl rfl, xB_in hJX (k3_of hK)⟩ rfl rfl hl.1 rfl (lv_room (Nat.le_of_ble_eq_true rfl)) dL_law_1601 ⟨by show _ ≤ 601024; omega, by show _ ≤ 7293034; omega⟩) hS (fun q _ h => lx_A dis.1 hA hS q h) (lx_A dis.1 hA hS) (fun r2 u t H1 locs ht hvm hw hB hz1 hk1 hS => ?_)
  have hJM := mi_keep hJM (fun q h1 h2 => hk1 q h1 (lx_no dis.2.2.2.1 h1 h2))
  have hPo := lx_o hPo dis.2.2.2.2.1 hk1
  have hwx : xM_takes Sx (xs (nI (7 * k + 1)).toNatClampNeg) r2 u := hw
  have hJX : XInv (dC, dI) kI kB kQ xa XA u t.heap := hB
  generalize u = ux at hwx hJX
  rw [ht] at hJX
  clear hk1 hz1 ht hvm
  generalize H1 = H at hJX hJM hPo hS ⊢
  refine lv_pop hx hb dL_law_1604 rfl ?_
  refine lv_aload_n hx hb dL_law_1605 rfl (lv_at hl 2 rfl) ?_
  refine lv_aload_n hx hb dL_law_1606 rfl (lv_at hl 0 rfl) ?_
  refine lv_iload hx hb dL_law_1607 (lv_at hl 4 rfl) ?_
  refine lv_iconst (v := 1) hx hb dL_law_1609 (by decide) ?_
  refine lv_iadd hx hb dL_law_1610 ?_
  refine lv_topi (fun y3 ey3 => ?_)
  obtain rfl : y3 = nI (7 * k + 1) := ey3.trans (nI_add (7 * k) 1)
  refine va_sld hx hb hX hbl hbA hS (vp_in_nI (n := 7 * k + 1) (by omega) (by omega)) dL_law_1611 ?_
  obtain ⟨fsr, hPr⟩ := mi_recv hJM
  refine va_calli (va_runV (As := [.int (xs (nI (7 * k + 1)).toNatClampNeg)]) (rest := []) ⟨hx, hb, hml, hown, hts⟩ (k_X9_takes l dC dI _ kI kB kQ ma MA Sm (xs (nI (7 * k + 1)).toNatClampNeg)) (cwV 1 hts gL_X9_takes rfl rfl rfl (by decide +kernel) ⟨Nat.le_of_ble_eq_true rfl, Nat.le_of_ble_eq_true rfl⟩) ⟨xB_bl, va_recv hK hPr (ci := 9) (q0 := 0) rfl rfl, xB_in hJM (k3_of hK)⟩ rfl rfl hl.1 rfl (lv_room (Nat.le_of_ble_eq_true rfl)) dL_law_1612 ⟨by show _ ≤ 601024; omega, by show _ ≤ 7293034; omega⟩) hS (fun q _ h => lx_A dis.2.1 hA hS q h) (lx_A dis.2.1 hA hS) (fun r4 u t H1 locs ht hvm hw hB hz1 hk1 hS => ?_)
  have hJX := xi_keep hJX (fun q h1 h2 => hk1 q h1 (lx_no (fun q h g => dis.2.2.2.1 q g h) h1 h2))
  have hPo := lx_o hPo dis.2.2.2.2.2 hk1
  have hwm : mM_takes Sm (xs (nI (7 * k + 1)).toNatClampNeg) r4 u := hw
  have hJM : MInv (dC, dI) kI kB ma MA u t.heap := hB
  generalize u = um at hwm hJM
  have hsr1 := sr_takes hsr hfx hfm hwx hwm
  rw [ht] at hJM
  clear hk1 hz1 ht hvm
  generalize H1 = H at hJX hJM hPo hS ⊢
  refine lv_pop hx hb dL_law_1615 rfl ?_
  refine lv_goto (tgt := 1697) hx hb dL_law_1616 (by decide) ?_
  refine W.widen (k := cells + 1) (n := slots + 6) (by omega) (by omega) ?_
  exact hT _ _ _ ⟨ux, um, hsr1, hJX, hJM, fq, hPo⟩ hS (lv_sub hl [0, 1, 2, 3, 4] rfl)
set_option maxHeartbeats 4000000 in
set_option maxRecDepth 100000 in
theorem law_case_37 {p : Program} {e : Env} {s : State} {m : MethodId} {below : List Frame} {meth : Method} {c : Code} (l : Launch) (hlt : l.stackTraces = false) {b L : Nat} {xs : Nat → Int32} (C0 : lw_At p s m meth c b L xs) {A : Nat → Prop} (hA : ∀ q : Nat, s.heap.size ≤ q → A q) (hAs : ∀ q : Nat, A q → s.heap.size ≤ q) (hY : sy_E A s s.heap) {dC : Nat → ClassId} {dI : Nat → Nat → Nat} {kI kB kQ kL : ClassId} (hK : va_K (dC, dI) vwCl (k3 kI kB kQ ++ [(kL, .long)]) s) {xa ma qo : Nat} {XA MA : Nat → Prop} (dis : lw_dis XA MA qo A) (hL : L ≤ 3584) (k : Nat) (hk : 7 * k + 7 ≤ L) {H : Heap} {locs : List Loc} {ls : Array Slot} (hJ : LInv (dC, dI) kI kB kQ kL xa ma qo XA MA H) (hS : va_S A s.heap H locs) (hl : lv_has ls 7 [(0, .ref b), (1, .ref xa), (2, .ref ma), (3, .ref qo), (4, .int (nI (7 * k)))]) {cells slots : Nat} (hc : cells ≤ 600000) (hs : slots ≤ 7200000) (hT : ∀ (H : Heap) (locs : List Loc) (ls : Array Slot), LInv (dC, dI) kI kB kQ kL xa ma qo XA MA H → va_S A s.heap H locs → lv_has ls 7 [(0, .ref b), (1, .ref xa), (2, .ref ma), (3, .ref qo), (4, .int (nI (7 * k)))] → W p l e room_1 s m #[Value.ref b] below meth c H locs (cells + 1) (slots + 6) (lw_Z below #[Value.ref b] s) (F0 m 1697 ls [])) : W p l e room_1 s m #[Value.ref b] below meth c H locs cells slots (lw_Z below #[Value.ref b] s) (F0 m 1619 ls []) := by
  obtain ⟨hx, hb, hr, hml, hown0, hts0, hX, hbl, hlocks, hgv⟩ := id C0
  have hown : s.vm.findClass RL = some m.cls := hown0
  have hts : ∀ w ∈ vsL, w.before #[Value.ref b] s = true := fun w h => hts0 w (vsL_in w h)
  have hbA : ¬ A b := fun h => absurd (hAs b h) (Nat.not_le.mpr hbl)
  obtain ⟨Sx, Sm, hsr, hJX, hJM, fq, hPo⟩ := hJ
  have hfx := xi_fact hJX
  have hfm := mi_fact hJM
  refine lv_aload_n hx hb dL_law_1619 rfl (lv_at hl 1 rfl) ?_
  refine lv_aload_n hx hb dL_law_1620 rfl (lv_at hl 0 rfl) ?_
  refine lv_iload hx hb dL_law_1621 (lv_at hl 4 rfl) ?_
  refine lv_iconst (v := 1) hx hb dL_law_1623 (by decide) ?_
  refine lv_iadd hx hb dL_law_1624 ?_
  refine lv_topi (fun y1 ey1 => ?_)
  obtain rfl : y1 = nI (7 * k + 1) := ey1.trans (nI_add (7 * k) 1)
  refine va_sld hx hb hX hbl hbA hS (vp_in_nI (n := 7 * k + 1) (by omega) (by omega)) dL_law_1625 ?_
  obtain ⟨fsr, hPr⟩ := xi_recv hJX
  refine va_calli (va_runV (As := [.int (xs (nI (7 * k + 1)).toNatClampNeg)]) (rest := []) ⟨hx, hb, hml, hown, hts⟩ (k_X8_now l dC dI _ kI kB kQ xa XA Sx (xs (nI (7 * k + 1)).toNatClampNeg)) (cwV 1 hts gL_X8_now rfl rfl rfl (by decide +kernel) ⟨Nat.le_of_ble_eq_true rfl, Nat.le_of_ble_eq_true rfl⟩) ⟨xB_bl, va_recv hK hPr (ci := 8) (q0 := 0) rfl rfl, xB_in hJX (k3_of hK)⟩ rfl rfl hl.1 rfl (lv_room (Nat.le_of_ble_eq_true rfl)) dL_law_1626 ⟨by show _ ≤ 601024; omega, by show _ ≤ 7293034; omega⟩) hS (fun q _ h => lx_A dis.1 hA hS q h) (lx_A dis.1 hA hS) (fun r2 u t H1 locs ht hvm hw hB hz1 hk1 hS => ?_)
  have hJM := mi_keep hJM (fun q h1 h2 => hk1 q h1 (lx_no dis.2.2.2.1 h1 h2))
  have hPo := lx_o hPo dis.2.2.2.2.1 hk1
  have hwx : xM_now Sx (xs (nI (7 * k + 1)).toNatClampNeg) r2 u := hw
  have hJX : XInv (dC, dI) kI kB kQ xa XA u t.heap := hB
  generalize u = ux at hwx hJX
  rw [ht] at hJX
  clear hk1 hz1 ht hvm
  generalize H1 = H at hJX hJM hPo hS ⊢
  refine lv_pop hx hb dL_law_1629 rfl ?_
  refine lv_aload_n hx hb dL_law_1630 rfl (lv_at hl 2 rfl) ?_
  refine lv_aload_n hx hb dL_law_1631 rfl (lv_at hl 0 rfl) ?_
  refine lv_iload hx hb dL_law_1632 (lv_at hl 4 rfl) ?_
  refine lv_iconst (v := 1) hx hb dL_law_1634 (by decide) ?_
  refine lv_iadd hx hb dL_law_1635 ?_
  refine lv_topi (fun y3 ey3 => ?_)
  obtain rfl : y3 = nI (7 * k + 1) := ey3.trans (nI_add (7 * k) 1)
  refine va_sld hx hb hX hbl hbA hS (vp_in_nI (n := 7 * k + 1) (by omega) (by omega)) dL_law_1636 ?_
  obtain ⟨fsr, hPr⟩ := mi_recv hJM
  refine va_calli (va_runV (As := [.int (xs (nI (7 * k + 1)).toNatClampNeg)]) (rest := []) ⟨hx, hb, hml, hown, hts⟩ (k_X9_now l dC dI _ kI kB kQ ma MA Sm (xs (nI (7 * k + 1)).toNatClampNeg)) (cwV 1 hts gL_X9_now rfl rfl rfl (by decide +kernel) ⟨Nat.le_of_ble_eq_true rfl, Nat.le_of_ble_eq_true rfl⟩) ⟨xB_bl, va_recv hK hPr (ci := 9) (q0 := 0) rfl rfl, xB_in hJM (k3_of hK)⟩ rfl rfl hl.1 rfl (lv_room (Nat.le_of_ble_eq_true rfl)) dL_law_1637 ⟨by show _ ≤ 601024; omega, by show _ ≤ 7293034; omega⟩) hS (fun q _ h => lx_A dis.2.1 hA hS q h) (lx_A dis.2.1 hA hS) (fun r4 u t H1 locs ht hvm hw hB hz1 hk1 hS => ?_)
  have hJX := xi_keep hJX (fun q h1 h2 => hk1 q h1 (lx_no (fun q h g => dis.2.2.2.1 q g h) h1 h2))
  have hPo := lx_o hPo dis.2.2.2.2.2 hk1
  have hwm : mM_now Sm (xs (nI (7 * k + 1)).toNatClampNeg) r4 u := hw
  have hJM : MInv (dC, dI) kI kB ma MA u t.heap := hB
  generalize u = um at hwm hJM
  have hsr1 := sr_now hsr hfx hfm hwx hwm
  rw [ht] at hJM
  clear hk1 hz1 ht hvm
  generalize H1 = H at hJX hJM hPo hS ⊢
  refine lv_pop hx hb dL_law_1640 rfl ?_
  refine lv_goto (tgt := 1697) hx hb dL_law_1641 (by decide) ?_
  refine W.widen (k := cells + 1) (n := slots + 6) (by omega) (by omega) ?_
  exact hT _ _ _ ⟨ux, um, hsr1, hJX, hJM, fq, hPo⟩ hS (lv_sub hl [0, 1, 2, 3, 4] rfl)
set_option maxHeartbeats 4000000 in
set_option maxRecDepth 100000 in
theorem law_case_38 {p : Program} {e : Env} {s : State} {m : MethodId} {below : List Frame} {meth : Method} {c : Code} (l : Launch) (hlt : l.stackTraces = false) {b L : Nat} {xs : Nat → Int32} (C0 : lw_At p s m meth c b L xs) {A : Nat → Prop} (hA : ∀ q : Nat, s.heap.size ≤ q → A q) (hAs : ∀ q : Nat, A q → s.heap.size ≤ q) (hY : sy_E A s s.heap) {dC : Nat → ClassId} {dI : Nat → Nat → Nat} {kI kB kQ kL : ClassId} (hK : va_K (dC, dI) vwCl (k3 kI kB kQ ++ [(kL, .long)]) s) {xa ma qo : Nat} {XA MA : Nat → Prop} (dis : lw_dis XA MA qo A) (hL : L ≤ 3584) (k : Nat) (hk : 7 * k + 7 ≤ L) {H : Heap} {locs : List Loc} {ls : Array Slot} (hJ : LInv (dC, dI) kI kB kQ kL xa ma qo XA MA H) (hS : va_S A s.heap H locs) (hl : lv_has ls 7 [(0, .ref b), (1, .ref xa), (2, .ref ma), (3, .ref qo), (4, .int (nI (7 * k)))]) {cells slots : Nat} (hc : cells ≤ 600000) (hs : slots ≤ 7200000) (hT : ∀ (H : Heap) (locs : List Loc) (ls : Array Slot), LInv (dC, dI) kI kB kQ kL xa ma qo XA MA H → va_S A s.heap H locs → lv_has ls 7 [(0, .ref b), (1, .ref xa), (2, .ref ma), (3, .ref qo), (4, .int (nI (7 * k)))] → W p l e room_1 s m #[Value.ref b] below meth c H locs (cells + 1) (slots + 6) (lw_Z below #[Value.ref b] s) (F0 m 1697 ls [])) : W p l e room_1 s m #[Value.ref b] below meth c H locs cells slots (lw_Z below #[Value.ref b] s) (F0 m 1644 ls []) := by
  obtain ⟨hx, hb, hr, hml, hown0, hts0, hX, hbl, hlocks, hgv⟩ := id C0
  have hown : s.vm.findClass RL = some m.cls := hown0
  have hts : ∀ w ∈ vsL, w.before #[Value.ref b] s = true := fun w h => hts0 w (vsL_in w h)
  have hbA : ¬ A b := fun h => absurd (hAs b h) (Nat.not_le.mpr hbl)
  obtain ⟨Sx, Sm, hsr, hJX, hJM, fq, hPo⟩ := hJ
  have hfx := xi_fact hJX
  have hfm := mi_fact hJM
  refine lv_aload_n hx hb dL_law_1644 rfl (lv_at hl 1 rfl) ?_
  refine lv_aload_n hx hb dL_law_1645 rfl (lv_at hl 0 rfl) ?_
  refine lv_iload hx hb dL_law_1646 (lv_at hl 4 rfl) ?_
  refine lv_iconst (v := 1) hx hb dL_law_1648 (by decide) ?_
  refine lv_iadd hx hb dL_law_1649 ?_
  refine lv_topi (fun y1 ey1 => ?_)
  obtain rfl : y1 = nI (7 * k + 1) := ey1.trans (nI_add (7 * k) 1)
  refine va_sld hx hb hX hbl hbA hS (vp_in_nI (n := 7 * k + 1) (by omega) (by omega)) dL_law_1650 ?_
  refine lv_aload_n hx hb dL_law_1651 rfl (lv_at hl 3 rfl) ?_
  refine va_calli (vx_runSW (As := [.ref xa, .int (xs (nI (7 * k + 1)).toNatClampNeg), .ref qo]) (rest := []) ⟨hx, hb, hml, hown, hts⟩ (k_L_clock l hlt dC dI _ kI kB kQ kL xa XA Sx (xs (nI (7 * k + 1)).toNatClampNeg) qo dis.2.2.2.2.1 A A) (vx_cwSW 3 hts gL_L_clock rfl rfl rfl (by decide +kernel) ⟨Nat.le_of_ble_eq_true rfl, Nat.le_of_ble_eq_true rfl⟩) ⟨kBL_bl, kBL_in hJX hK hY hS hA dis.2.2.1 hPo⟩ rfl rfl hl.1 rfl (lv_room (Nat.le_of_ble_eq_true rfl)) dL_law_1652 ⟨by show _ ≤ 601024; omega, by show _ ≤ 7293034; omega⟩) hS (fun q _ h => lx_q dis.2.2.1 hA hS q h) (lx_q dis.2.2.1 hA hS) (fun r2 u t H1 locs ht hvm hw hB hz1 hk1 hS => ?_)
  obtain ⟨fq, hPo⟩ := hB
  rw [ht] at hPo
  have hJX := xi_keep hJX (fun q h1 h2 => hk1 q h1 (fun g => g.elim (fun e => dis.2.2.2.2.1 (by rw [← e]; exact h2)) (fun g => absurd h1 (Nat.not_lt.mpr g))))
  have hJM := mi_keep hJM (fun q h1 h2 => hk1 q h1 (fun g => g.elim (fun e => dis.2.2.2.2.2 (by rw [← e]; exact h2)) (fun g => absurd h1 (Nat.not_lt.mpr g))))
  clear hk1 hz1 ht hvm
  generalize H1 = H at hJX hJM hPo hS ⊢
  refine lv_istore (lv' := [(5, .int r2), (0, .ref b), (1, .ref xa), (2, .ref ma), (3, .ref qo), (4, .int (nI (7 * k)))]) hx hb dL_law_1655 hl (by decide) rfl (fun ls hl => ?_)
  refine lv_aload_n hx hb dL_law_1657 rfl (lv_at hl 3 rfl) ?_
  refine lv_aload_n hx hb dL_law_1658 rfl (lv_at hl 1 rfl) ?_
  refine lv_iload hx hb dL_law_1659 (lv_at hl 5 rfl) ?_
  refine lv_iconst (v := 1) hx hb dL_law_1661 (by decide) ?_
  refine lv_iadd hx hb dL_law_1662 ?_
  refine lv_topi (fun y3 ey3 => ?_)
  obtain rfl : y3 = nI (7 * k + 1) := ey3.trans (nI_add (7 * k) 1)
  refine va_sld hx hb hX hbl hbA hS (vp_in_nI (n := 7 * k + 1) (by omega) (by omega)) dL_law_1663 ?_
  obtain ⟨fsr, hPr⟩ := mi_recv hJM
  refine va_calli (va_runV (As := [.int (xs (nI (7 * k + 1)).toNatClampNeg)]) (rest := []) ⟨hx, hb, hml, hown, hts⟩ (k_X9_clock l dC dI _ kI kB kQ ma MA Sm (xs (nI (7 * k + 1)).toNatClampNeg)) (cwV 1 hts gL_X9_clock rfl rfl rfl (by decide +kernel) ⟨Nat.le_of_ble_eq_true rfl, Nat.le_of_ble_eq_true rfl⟩) ⟨xB_bl, va_recv hK hPr (ci := 9) (q0 := 0) rfl rfl, xB_in hJM (k3_of hK)⟩ rfl rfl hl.1 rfl (lv_room (Nat.le_of_ble_eq_true rfl)) dL_law_1664 ⟨by show _ ≤ 601024; omega, by show _ ≤ 7293034; omega⟩) hS (fun q _ h => lx_A dis.2.1 hA hS q h) (lx_A dis.2.1 hA hS) (fun r4 u t H1 locs ht hvm hw hB hz1 hk1 hS => ?_)
  have hJX := xi_keep hJX (fun q h1 h2 => hk1 q h1 (lx_no (fun q h g => dis.2.2.2.1 q g h) h1 h2))
  have hPo := lx_o hPo dis.2.2.2.2.2 hk1
  have hwm : mM_clock Sm (xs (nI (7 * k + 1)).toNatClampNeg) r4 u := hw
  have hJM : MInv (dC, dI) kI kB ma MA u t.heap := hB
  generalize u = um at hwm hJM
  have hsr1 := sr_clock hsr hfx hfm hwm
  rw [ht] at hJM
  clear hk1 hz1 ht hvm
  generalize H1 = H at hJX hJM hPo hS ⊢
  refine lv_istore (lv' := [(6, .int r4), (5, .int r2), (0, .ref b), (1, .ref xa), (2, .ref ma), (3, .ref qo), (4, .int (nI (7 * k)))]) hx hb dL_law_1667 hl (by decide) rfl (fun ls hl => ?_)
  refine lv_goto (tgt := 1697) hx hb dL_law_1669 (by decide) ?_
  refine W.widen (k := cells + 1) (n := slots + 6) (by omega) (by omega) ?_
  exact hT _ _ _ ⟨Sx, um, hsr1, hJX, hJM, fq, hPo⟩ hS (lv_sub hl [2, 3, 4, 5, 6] rfl)
set_option maxHeartbeats 4000000 in
set_option maxRecDepth 100000 in
theorem law_case_39 {p : Program} {e : Env} {s : State} {m : MethodId} {below : List Frame} {meth : Method} {c : Code} (l : Launch) (hlt : l.stackTraces = false) {b L : Nat} {xs : Nat → Int32} (C0 : lw_At p s m meth c b L xs) {A : Nat → Prop} (hA : ∀ q : Nat, s.heap.size ≤ q → A q) (hAs : ∀ q : Nat, A q → s.heap.size ≤ q) (hY : sy_E A s s.heap) {dC : Nat → ClassId} {dI : Nat → Nat → Nat} {kI kB kQ kL : ClassId} (hK : va_K (dC, dI) vwCl (k3 kI kB kQ ++ [(kL, .long)]) s) {xa ma qo : Nat} {XA MA : Nat → Prop} (dis : lw_dis XA MA qo A) (hL : L ≤ 3584) (k : Nat) (hk : 7 * k + 7 ≤ L) {H : Heap} {locs : List Loc} {ls : Array Slot} (hJ : LInv (dC, dI) kI kB kQ kL xa ma qo XA MA H) (hS : va_S A s.heap H locs) (hl : lv_has ls 7 [(0, .ref b), (1, .ref xa), (2, .ref ma), (3, .ref qo), (4, .int (nI (7 * k)))]) {cells slots : Nat} (hc : cells ≤ 600000) (hs : slots ≤ 7200000) (hT : ∀ (H : Heap) (locs : List Loc) (ls : Array Slot), LInv (dC, dI) kI kB kQ kL xa ma qo XA MA H → va_S A s.heap H locs → lv_has ls 7 [(0, .ref b), (1, .ref xa), (2, .ref ma), (3, .ref qo), (4, .int (nI (7 * k)))] → W p l e room_1 s m #[Value.ref b] below meth c H locs (cells + 1) (slots + 6) (lw_Z below #[Value.ref b] s) (F0 m 1697 ls [])) : W p l e room_1 s m #[Value.ref b] below meth c H locs cells slots (lw_Z below #[Value.ref b] s) (F0 m 1672 ls []) := by
  obtain ⟨hx, hb, hr, hml, hown0, hts0, hX, hbl, hlocks, hgv⟩ := id C0
  have hown : s.vm.findClass RL = some m.cls := hown0
  have hts : ∀ w ∈ vsL, w.before #[Value.ref b] s = true := fun w h => hts0 w (vsL_in w h)
  have hbA : ¬ A b := fun h => absurd (hAs b h) (Nat.not_le.mpr hbl)
  obtain ⟨Sx, Sm, hsr, hJX, hJM, fq, hPo⟩ := hJ
  have hfx := xi_fact hJX
  have hfm := mi_fact hJM
  refine lv_aload_n hx hb dL_law_1672 rfl (lv_at hl 1 rfl) ?_
  refine lv_aload_n hx hb dL_law_1673 rfl (lv_at hl 0 rfl) ?_
  refine lv_iload hx hb dL_law_1674 (lv_at hl 4 rfl) ?_
  refine lv_iconst (v := 1) hx hb dL_law_1676 (by decide) ?_
  refine lv_iadd hx hb dL_law_1677 ?_
  refine lv_topi (fun y1 ey1 => ?_)
  obtain rfl : y1 = nI (7 * k + 1) := ey1.trans (nI_add (7 * k) 1)
  refine va_sld hx hb hX hbl hbA hS (vp_in_nI (n := 7 * k + 1) (by omega) (by omega)) dL_law_1678 ?_
  obtain ⟨fsr, hPr⟩ := xi_recv hJX
  refine va_calli (va_runV (As := [.int (xs (nI (7 * k + 1)).toNatClampNeg)]) (rest := []) ⟨hx, hb, hml, hown, hts⟩ (k_X8_replays l dC dI _ kI kB kQ xa XA Sx (xs (nI (7 * k + 1)).toNatClampNeg)) (cwV 1 hts gL_X8_replays rfl rfl rfl (by decide +kernel) ⟨Nat.le_of_ble_eq_true rfl, Nat.le_of_ble_eq_true rfl⟩) ⟨xB_bl, va_recv hK hPr (ci := 8) (q0 := 0) rfl rfl, xB_in hJX (k3_of hK)⟩ rfl rfl hl.1 rfl (lv_room (Nat.le_of_ble_eq_true rfl)) dL_law_1679 ⟨by show _ ≤ 601024; omega, by show _ ≤ 7293034; omega⟩) hS (fun q _ h => lx_A dis.1 hA hS q h) (lx_A dis.1 hA hS) (fun r2 u t H1 locs ht hvm hw hB hz1 hk1 hS => ?_)
  have hJM := mi_keep hJM (fun q h1 h2 => hk1 q h1 (lx_no dis.2.2.2.1 h1 h2))
  have hPo := lx_o hPo dis.2.2.2.2.1 hk1
  have hwx : xM_replays Sx (xs (nI (7 * k + 1)).toNatClampNeg) r2 u := hw
  have hJX : XInv (dC, dI) kI kB kQ xa XA u t.heap := hB
  generalize u = ux at hwx hJX
  rw [ht] at hJX
  clear hk1 hz1 ht hvm
  generalize H1 = H at hJX hJM hPo hS ⊢
  refine lv_pop hx hb dL_law_1682 rfl ?_
  refine lv_aload_n hx hb dL_law_1683 rfl (lv_at hl 2 rfl) ?_
  refine lv_aload_n hx hb dL_law_1684 rfl (lv_at hl 0 rfl) ?_
  refine lv_iload hx hb dL_law_1685 (lv_at hl 4 rfl) ?_
  refine lv_iconst (v := 1) hx hb dL_law_1687 (by decide) ?_
  refine lv_iadd hx hb dL_law_1688 ?_
  refine lv_topi (fun y3 ey3 => ?_)
  obtain rfl : y3 = nI (7 * k + 1) := ey3.trans (nI_add (7 * k) 1)
  refine va_sld hx hb hX hbl hbA hS (vp_in_nI (n := 7 * k + 1) (by omega) (by omega)) dL_law_1689 ?_
  obtain ⟨fsr, hPr⟩ := mi_recv hJM
  refine va_calli (va_runV (As := [.int (xs (nI (7 * k + 1)).toNatClampNeg)]) (rest := []) ⟨hx, hb, hml, hown, hts⟩ (k_X9_replays l dC dI _ kI kB kQ ma MA Sm (xs (nI (7 * k + 1)).toNatClampNeg)) (cwV 1 hts gL_X9_replays rfl rfl rfl (by decide +kernel) ⟨Nat.le_of_ble_eq_true rfl, Nat.le_of_ble_eq_true rfl⟩) ⟨xB_bl, va_recv hK hPr (ci := 9) (q0 := 0) rfl rfl, xB_in hJM (k3_of hK)⟩ rfl rfl hl.1 rfl (lv_room (Nat.le_of_ble_eq_true rfl)) dL_law_1690 ⟨by show _ ≤ 601024; omega, by show _ ≤ 7293034; omega⟩) hS (fun q _ h => lx_A dis.2.1 hA hS q h) (lx_A dis.2.1 hA hS) (fun r4 u t H1 locs ht hvm hw hB hz1 hk1 hS => ?_)
  have hJX := xi_keep hJX (fun q h1 h2 => hk1 q h1 (lx_no (fun q h g => dis.2.2.2.1 q g h) h1 h2))
  have hPo := lx_o hPo dis.2.2.2.2.2 hk1
  have hwm : mM_replays Sm (xs (nI (7 * k + 1)).toNatClampNeg) r4 u := hw
  have hJM : MInv (dC, dI) kI kB ma MA u t.heap := hB
  generalize u = um at hwm hJM
  have hsr1 := sr_replays hsr hfx hfm hwx hwm
  rw [ht] at hJM
  clear hk1 hz1 ht hvm
  generalize H1 = H at hJX hJM hPo hS ⊢
  refine lv_pop hx hb dL_law_1693 rfl ?_
  refine lv_goto (tgt := 1697) hx hb dL_law_1694 (by decide) ?_
  refine W.widen (k := cells + 1) (n := slots + 6) (by omega) (by omega) ?_
  exact hT _ _ _ ⟨ux, um, hsr1, hJX, hJM, fq, hPo⟩ hS (lv_sub hl [0, 1, 2, 3, 4] rfl)
