set_option maxHeartbeats 4000000 in
set_option maxRecDepth 100000 in
theorem law_case_0 {p : Program} {e : Env} {s : State} {m : MethodId} {below : List Frame} {meth : Method} {c : Code} (l : Launch) (hlt : l.stackTraces = false) {b : Nat} {xs : Nat → Int32} (C0 : lw_At p s m meth c b 7 xs) {A : Nat → Prop} (hA : ∀ q : Nat, s.heap.size ≤ q → A q) (hAs : ∀ q : Nat, A q → s.heap.size ≤ q) (hY : sy_E A s s.heap) {dC : Nat → ClassId} {dI : Nat → Nat → Nat} (aa bb : Nat → Nat) (kk jj : Nat → ClassId) (qo : Nat) (H : Heap) (locs : List Loc) (hK : va_K (dC, dI) vwCl (tX kk ++ tM jj) s) (hP : va_P (dC, dI) vwCl (wX aa kk ++ wM bb jj) H) (hD : va_D A (wX aa kk ++ wM bb jj)) (hS : va_S A s.heap H locs) (ls : Array Slot) (hl : lv_has ls 7 [(0, .ref b), (1, .ref (aa 0)), (2, .ref (bb 0)), (3, .ref qo), (4, .int 0)]) : W p l e room_1 s m #[Value.ref b] below meth c H locs 1717 133609 (lw_Z below #[Value.ref b] s) (F0 m 216 ls []) := by
  obtain ⟨hx, hb, hr, hml, hown0, hts0, hX, hbl, hlocks, hgv⟩ := id C0
  have hown : s.vm.findClass RL = some m.cls := hown0
  have hts : ∀ w ∈ vsL, w.before #[Value.ref b] s = true := fun w h => hts0 w (vsL_in w h)
  have hbA : ¬ A b := fun h => absurd (hAs b h) (Nat.not_le.mpr hbl)
  refine lv_aload_n hx hb dL_law_216 rfl (lv_at hl 1 rfl) ?_
  refine lv_aload_n hx hb dL_law_217 rfl (lv_at hl 0 rfl) ?_
  refine lv_iload hx hb dL_law_218 (lv_at hl 4 rfl) ?_
  refine lv_iconst (v := 1) hx hb dL_law_220 (by decide) ?_
  refine lv_iadd hx hb dL_law_221 ?_
  refine lv_topi (fun y_1 ey_1 => ?_)
  obtain rfl : y_1 = 1 := ey_1.trans (by decide)
  refine va_sld hx hb hX hbl hbA hS (show ¬ (_ ∨ _) by decide) dL_law_222 ?_
  refine lv_aload_n hx hb dL_law_223 rfl (lv_at hl 0 rfl) ?_
  refine lv_iload hx hb dL_law_224 (lv_at hl 4 rfl) ?_
  refine lv_iconst (v := 2) hx hb dL_law_226 (by decide) ?_
  refine lv_iadd hx hb dL_law_227 ?_
  refine lv_topi (fun y_2 ey_2 => ?_)
  obtain rfl : y_2 = 2 := ey_2.trans (by decide)
  refine va_sld hx hb hX hbl hbA hS (show ¬ (_ ∨ _) by decide) dL_law_228 ?_
  refine lv_aload_n hx hb dL_law_229 rfl (lv_at hl 0 rfl) ?_
  refine lv_iload hx hb dL_law_230 (lv_at hl 4 rfl) ?_
  refine lv_iconst (v := 3) hx hb dL_law_232 (by decide) ?_
  refine lv_iadd hx hb dL_law_233 ?_
  refine lv_topi (fun y_3 ey_3 => ?_)
  obtain rfl : y_3 = 3 := ey_3.trans (by decide)
  refine va_sld hx hb hX hbl hbA hS (show ¬ (_ ∨ _) by decide) dL_law_234 ?_
  refine lv_aload_n hx hb dL_law_235 rfl (lv_at hl 0 rfl) ?_
  refine lv_iload hx hb dL_law_236 (lv_at hl 4 rfl) ?_
  refine lv_iconst (v := 4) hx hb dL_law_238 (by decide) ?_
  refine lv_iadd hx hb dL_law_239 ?_
  refine lv_topi (fun y_4 ey_4 => ?_)
  obtain rfl : y_4 = 4 := ey_4.trans (by decide)
  refine va_sld hx hb hX hbl hbA hS (show ¬ (_ ∨ _) by decide) dL_law_240 ?_
  refine lv_aload_n hx hb dL_law_241 rfl (lv_at hl 0 rfl) ?_
  refine lv_iload hx hb dL_law_242 (lv_at hl 4 rfl) ?_
  refine lv_iconst (v := 5) hx hb dL_law_244 (by decide) ?_
  refine lv_iadd hx hb dL_law_245 ?_
  refine lv_topi (fun y_5 ey_5 => ?_)
  obtain rfl : y_5 = 5 := ey_5.trans (by decide)
  refine va_sld hx hb hX hbl hbA hS (show ¬ (_ ∨ _) by decide) dL_law_246 ?_
  have hFc := va_free (wc := [((aa 0), .inr (8, [.ref (aa 6), .int 0, .ref (aa 4), .ref (aa 1), .ref (aa 5), .ref (aa 2), .ref (aa 10), .int 0, .ref (aa 11), .ref (aa 12), .int 0, .ref (aa 13), .ref (aa 14), .ref (aa 3), .ref (aa 15), .ref (aa 16)])), ((aa 1), .inr (0, [.int 0, .int 0, .int 0, .int (-1), .ref (aa 20), .ref (aa 21), .ref (aa 22), .ref (aa 23), .ref (aa 7), .ref (aa 24), .ref (aa 25), .ref (aa 26), .ref (aa 27), .ref (aa 28), .ref (aa 29), .ref (aa 30), .ref (aa 31)])), ((aa 2), .inr (2, [.int 0, .ref (aa 60), .ref (aa 61)])), ((aa 3), .inr (3, [.int 0, .int 0, .int 0, .ref (aa 62), .ref (aa 63)])), ((aa 4), .inr (4, [.int 0, .int (-1), .null, .int 0, .int 0, .int 0, .int 0, .int 0, .null, .ref (aa 64), .ref (aa 65), .ref (aa 66)])), ((aa 5), .inr (0, [.int 0, .int 0, .int 0, .int (-1), .ref (aa 8), .ref (aa 41), .ref (aa 42), .ref (aa 43), .ref (aa 9), .ref (aa 44), .ref (aa 45), .ref (aa 46), .ref (aa 47), .ref (aa 48), .ref (aa 49), .ref (aa 50), .ref (aa 51)])), ((aa 6), .inl ((kk 0), 900, .inl (fun _ => 0))), ((aa 7), .inl ((kk 1), 22, .inl (fun _ => 0))), ((aa 8), .inl ((kk 2), 8, .inl (fun _ => 0))), ((aa 9), .inl ((kk 3), 22, .inl (fun _ => 0)))]) hD hS hA [0, 1, 2, 3, 4, 5, 6, 7, 8, 9] rfl
  refine va_calli (va_runV (As := [.int (xs (1 : Int32).toNatClampNeg), .int (xs (2 : Int32).toNatClampNeg), .int (xs (3 : Int32).toNatClampNeg), .int (xs (4 : Int32).toNatClampNeg), .int (xs (5 : Int32).toNatClampNeg)]) (rest := []) ⟨hx, hb, hml, hown, hts⟩ (c_X8_feed l dC dI _ aa kk (xs (1 : Int32).toNatClampNeg) (xs (2 : Int32).toNatClampNeg) (xs (3 : Int32).toNatClampNeg) (xs (4 : Int32).toNatClampNeg) (xs (5 : Int32).toNatClampNeg)) (cwV 5 hts g_L_X8_feed rfl rfl rfl (by decide +kernel) ⟨Nat.le_of_ble_eq_true rfl, Nat.le_of_ble_eq_true rfl⟩) ⟨pu_bl, va_recv hK hP (ci := 8) (q0 := 0) rfl rfl, pu_in (hP.sub [0, 1, 2, 3, 4, 5, 6, 7, 8, 9] rfl) (hK.sub [0, 1, 2, 3] rfl) (hD.sub [0, 1, 2, 3, 4, 5, 6, 7, 8, 9] (by decide) rfl)⟩ rfl rfl hl.1 rfl (lv_room (Nat.le_of_ble_eq_true rfl)) dL_law_247 ⟨Nat.le_of_ble_eq_true rfl, Nat.le_of_ble_eq_true rfl⟩) hS (fun q _ h => hFc q h) hFc (fun r_6 u t H1 locs ht hvm hw hB hz1 hk1 hS => ?_)
  obtain ⟨hP, hD⟩ := va_join (wr := [((bb 0), .inr (9, [.int 0, .ref (bb 10), .ref (bb 11), .ref (bb 12), .ref (bb 13), .ref (bb 14), .ref (bb 15), .ref (bb 16), .ref (bb 17), .ref (bb 18), .ref (bb 19), .ref (bb 20), .ref (bb 1), .ref (bb 2), .ref (bb 3), .ref (bb 4), .int 0, .ref (bb 5), .int 0, .int 0, .int 0, .int 0, .int 0, .int 0, .int 0, .int (-1), .int 0, .int 0, .int 0, .int 0, .int 0, .ref (bb 21), .ref (bb 22), .int 0, .ref (bb 23), .ref (bb 24), .ref (bb 25), .ref (bb 26), .ref (bb 27), .ref (bb 28), .ref (bb 29), .ref (bb 30), .ref (bb 31), .ref (bb 32), .ref (bb 33), .int 0, .int 0, .ref (bb 34), .ref (bb 35), .ref (bb 36), .ref (bb 37), .ref (bb 38), .int 0, .int 0, .ref (bb 39), .ref (bb 40), .ref (bb 41), .ref (bb 42), .ref (bb 43), .ref (bb 44), .ref (bb 45), .int 0, .int 0, .int 0, .ref (bb 46), .int 0, .int 0])), ((bb 1), .inl ((jj 1), 2, .inl (fun _ => 0))), ((bb 2), .inl ((jj 2), 2, .inl (fun _ => 0))), ((bb 3), .inl ((jj 3), 2, .inl (fun _ => 0))), ((bb 4), .inl ((jj 4), 2, .inl begF)), ((bb 5), .inl ((jj 5), 900, .inl (fun _ => 0)))]) (w1 := []) hP hD [0, 1, 2, 3, 4, 5, 6, 7, 8, 9] [10, 11, 12, 13, 14, 15] rfl rfl (by decide) (by decide) hk1 hFc pu_P0 pu_D0
  clear hk1 hz1 ht hvm
  generalize H1 = H at hP hS ⊢
  have hP : va_P (dC, dI) vwCl [((bb 0), .inr (9, [.int 0, .ref (bb 10), .ref (bb 11), .ref (bb 12), .ref (bb 13), .ref (bb 14), .ref (bb 15), .ref (bb 16), .ref (bb 17), .ref (bb 18), .ref (bb 19), .ref (bb 20), .ref (bb 1), .ref (bb 2), .ref (bb 3), .ref (bb 4), .int 0, .ref (bb 5), .int 0, .int 0, .int 0, .int 0, .int 0, .int 0, .int 0, .int (-1), .int 0, .int 0, .int 0, .int 0, .int 0, .ref (bb 21), .ref (bb 22), .int 0, .ref (bb 23), .ref (bb 24), .ref (bb 25), .ref (bb 26), .ref (bb 27), .ref (bb 28), .ref (bb 29), .ref (bb 30), .ref (bb 31), .ref (bb 32), .ref (bb 33), .int 0, .int 0, .ref (bb 34), .ref (bb 35), .ref (bb 36), .ref (bb 37), .ref (bb 38), .int 0, .int 0, .ref (bb 39), .ref (bb 40), .ref (bb 41), .ref (bb 42), .ref (bb 43), .ref (bb 44), .ref (bb 45), .int 0, .int 0, .int 0, .ref (bb 46), .int 0, .int 0])), ((bb 1), .inl ((jj 1), 2, .inl (fun _ => 0))), ((bb 2), .inl ((jj 2), 2, .inl (fun _ => 0))), ((bb 3), .inl ((jj 3), 2, .inl (fun _ => 0))), ((bb 4), .inl ((jj 4), 2, .inl begF)), ((bb 5), .inl ((jj 5), 900, .inl (fun _ => 0)))] H := hP
  have hD : va_D A [((bb 0), .inr (9, [.int 0, .ref (bb 10), .ref (bb 11), .ref (bb 12), .ref (bb 13), .ref (bb 14), .ref (bb 15), .ref (bb 16), .ref (bb 17), .ref (bb 18), .ref (bb 19), .ref (bb 20), .ref (bb 1), .ref (bb 2), .ref (bb 3), .ref (bb 4), .int 0, .ref (bb 5), .int 0, .int 0, .int 0, .int 0, .int 0, .int 0, .int 0, .int (-1), .int 0, .int 0, .int 0, .int 0, .int 0, .ref (bb 21), .ref (bb 22), .int 0, .ref (bb 23), .ref (bb 24), .ref (bb 25), .ref (bb 26), .ref (bb 27), .ref (bb 28), .ref (bb 29), .ref (bb 30), .ref (bb 31), .ref (bb 32), .ref (bb 33), .int 0, .int 0, .ref (bb 34), .ref (bb 35), .ref (bb 36), .ref (bb 37), .ref (bb 38), .int 0, .int 0, .ref (bb 39), .ref (bb 40), .ref (bb 41), .ref (bb 42), .ref (bb 43), .ref (bb 44), .ref (bb 45), .int 0, .int 0, .int 0, .ref (bb 46), .int 0, .int 0])), ((bb 1), .inl ((jj 1), 2, .inl (fun _ => 0))), ((bb 2), .inl ((jj 2), 2, .inl (fun _ => 0))), ((bb 3), .inl ((jj 3), 2, .inl (fun _ => 0))), ((bb 4), .inl ((jj 4), 2, .inl begF)), ((bb 5), .inl ((jj 5), 900, .inl (fun _ => 0)))] := hD
  obtain rfl : r_6 = 20 := hw
  refine lv_aload_n hx hb dL_law_250 rfl (lv_at hl 2 rfl) ?_
  refine lv_aload_n hx hb dL_law_251 rfl (lv_at hl 0 rfl) ?_
  refine lv_iload hx hb dL_law_252 (lv_at hl 4 rfl) ?_
  refine lv_iconst (v := 1) hx hb dL_law_254 (by decide) ?_
  refine lv_iadd hx hb dL_law_255 ?_
  refine lv_topi (fun y_7 ey_7 => ?_)
  obtain rfl : y_7 = 1 := ey_7.trans (by decide)
  refine va_sld hx hb hX hbl hbA hS (show ¬ (_ ∨ _) by decide) dL_law_256 ?_
  refine lv_aload_n hx hb dL_law_257 rfl (lv_at hl 0 rfl) ?_
  refine lv_iload hx hb dL_law_258 (lv_at hl 4 rfl) ?_
  refine lv_iconst (v := 2) hx hb dL_law_260 (by decide) ?_
  refine lv_iadd hx hb dL_law_261 ?_
  refine lv_topi (fun y_8 ey_8 => ?_)
  obtain rfl : y_8 = 2 := ey_8.trans (by decide)
  refine va_sld hx hb hX hbl hbA hS (show ¬ (_ ∨ _) by decide) dL_law_262 ?_
  refine lv_aload_n hx hb dL_law_263 rfl (lv_at hl 0 rfl) ?_
  refine lv_iload hx hb dL_law_264 (lv_at hl 4 rfl) ?_
  refine lv_iconst (v := 3) hx hb dL_law_266 (by decide) ?_
  refine lv_iadd hx hb dL_law_267 ?_
  refine lv_topi (fun y_9 ey_9 => ?_)
  obtain rfl : y_9 = 3 := ey_9.trans (by decide)
  refine va_sld hx hb hX hbl hbA hS (show ¬ (_ ∨ _) by decide) dL_law_268 ?_
  refine lv_aload_n hx hb dL_law_269 rfl (lv_at hl 0 rfl) ?_
  refine lv_iload hx hb dL_law_270 (lv_at hl 4 rfl) ?_
  refine lv_iconst (v := 4) hx hb dL_law_272 (by decide) ?_
  refine lv_iadd hx hb dL_law_273 ?_
  refine lv_topi (fun y_10 ey_10 => ?_)
  obtain rfl : y_10 = 4 := ey_10.trans (by decide)
  refine va_sld hx hb hX hbl hbA hS (show ¬ (_ ∨ _) by decide) dL_law_274 ?_
  refine lv_aload_n hx hb dL_law_275 rfl (lv_at hl 0 rfl) ?_
  refine lv_iload hx hb dL_law_276 (lv_at hl 4 rfl) ?_
  refine lv_iconst (v := 5) hx hb dL_law_278 (by decide) ?_
  refine lv_iadd hx hb dL_law_279 ?_
  refine lv_topi (fun y_11 ey_11 => ?_)
  obtain rfl : y_11 = 5 := ey_11.trans (by decide)
  refine va_sld hx hb hX hbl hbA hS (show ¬ (_ ∨ _) by decide) dL_law_280 ?_
  have hFc := va_free (wc := [((bb 0), .inr (9, [.int 0, .ref (bb 10), .ref (bb 11), .ref (bb 12), .ref (bb 13), .ref (bb 14), .ref (bb 15), .ref (bb 16), .ref (bb 17), .ref (bb 18), .ref (bb 19), .ref (bb 20), .ref (bb 1), .ref (bb 2), .ref (bb 3), .ref (bb 4), .int 0, .ref (bb 5), .int 0, .int 0, .int 0, .int 0, .int 0, .int 0, .int 0, .int (-1), .int 0, .int 0, .int 0, .int 0, .int 0, .ref (bb 21), .ref (bb 22), .int 0, .ref (bb 23), .ref (bb 24), .ref (bb 25), .ref (bb 26), .ref (bb 27), .ref (bb 28), .ref (bb 29), .ref (bb 30), .ref (bb 31), .ref (bb 32), .ref (bb 33), .int 0, .int 0, .ref (bb 34), .ref (bb 35), .ref (bb 36), .ref (bb 37), .ref (bb 38), .int 0, .int 0, .ref (bb 39), .ref (bb 40), .ref (bb 41), .ref (bb 42), .ref (bb 43), .ref (bb 44), .ref (bb 45), .int 0, .int 0, .int 0, .ref (bb 46), .int 0, .int 0])), ((bb 1), .inl ((jj 1), 2, .inl (fun _ => 0))), ((bb 2), .inl ((jj 2), 2, .inl (fun _ => 0))), ((bb 3), .inl ((jj 3), 2, .inl (fun _ => 0))), ((bb 4), .inl ((jj 4), 2, .inl begF)), ((bb 5), .inl ((jj 5), 900, .inl (fun _ => 0)))]) hD hS hA [0, 1, 2, 3, 4, 5] rfl
  refine va_calli (va_runV (As := [.int (xs (1 : Int32).toNatClampNeg), .int (xs (2 : Int32).toNatClampNeg), .int (xs (3 : Int32).toNatClampNeg), .int (xs (4 : Int32).toNatClampNeg), .int (xs (5 : Int32).toNatClampNeg)]) (rest := [.int 20]) ⟨hx, hb, hml, hown, hts⟩ (c_X9_feed l dC dI _ bb jj (xs (1 : Int32).toNatClampNeg) (xs (2 : Int32).toNatClampNeg) (xs (3 : Int32).toNatClampNeg) (xs (4 : Int32).toNatClampNeg) (xs (5 : Int32).toNatClampNeg)) (cwV 5 hts g_L_X9_feed rfl rfl rfl (by decide +kernel) ⟨Nat.le_of_ble_eq_true rfl, Nat.le_of_ble_eq_true rfl⟩) ⟨pu_bl, va_recv hK hP (ci := 9) (q0 := 0) rfl rfl, pu_in hP (hK.sub [4, 5, 6, 7, 8] rfl) hD⟩ rfl rfl hl.1 rfl (lv_room (Nat.le_of_ble_eq_true rfl)) dL_law_281 ⟨Nat.le_of_ble_eq_true rfl, Nat.le_of_ble_eq_true rfl⟩) hS (fun q _ h => hFc q h) hFc (fun r_12 u t H1 locs ht hvm hw hB hz1 hk1 hS => ?_)
  obtain ⟨hP, hD⟩ := va_join (wr := []) (w1 := []) hP hD [0, 1, 2, 3, 4, 5] [] rfl rfl (by decide) (by decide) hk1 hFc pu_P0 pu_D0
  clear hk1 hz1 ht hvm
  generalize H1 = H at hP hS ⊢
  have hP : va_P (dC, dI) vwCl [] H := hP
  have hD : va_D A [] := hD
  obtain rfl : r_12 = 20 := hw
  refine lv_icmp_eq (tgt := 1725) hx hb dL_law_284 (by decide) (fun _ => ?_) (fun z => absurd z (by decide))
  exact law_tail l C0 hA hAs hS (lv_sub hl [0, 4] rfl) (Nat.le_of_ble_eq_true rfl) (Nat.le_of_ble_eq_true rfl)
set_option maxHeartbeats 4000000 in
set_option maxRecDepth 100000 in
theorem law_case_1 {p : Program} {e : Env} {s : State} {m : MethodId} {below : List Frame} {meth : Method} {c : Code} (l : Launch) (hlt : l.stackTraces = false) {b : Nat} {xs : Nat → Int32} (C0 : lw_At p s m meth c b 7 xs) {A : Nat → Prop} (hA : ∀ q : Nat, s.heap.size ≤ q → A q) (hAs : ∀ q : Nat, A q → s.heap.size ≤ q) (hY : sy_E A s s.heap) {dC : Nat → ClassId} {dI : Nat → Nat → Nat} (aa bb : Nat → Nat) (kk jj : Nat → ClassId) (qo : Nat) (H : Heap) (locs : List Loc) (hK : va_K (dC, dI) vwCl (tX kk ++ tM jj) s) (hP : va_P (dC, dI) vwCl (wX aa kk ++ wM bb jj) H) (hD : va_D A (wX aa kk ++ wM bb jj)) (hS : va_S A s.heap H locs) (ls : Array Slot) (hl : lv_has ls 7 [(0, .ref b), (1, .ref (aa 0)), (2, .ref (bb 0)), (3, .ref qo), (4, .int 0)]) : W p l e room_1 s m #[Value.ref b] below meth c H locs 1717 133609 (lw_Z below #[Value.ref b] s) (F0 m 289 ls []) := by
  obtain ⟨hx, hb, hr, hml, hown0, hts0, hX, hbl, hlocks, hgv⟩ := id C0
  have hown : s.vm.findClass RL = some m.cls := hown0
  have hts : ∀ w ∈ vsL, w.before #[Value.ref b] s = true := fun w h => hts0 w (vsL_in w h)
  have hbA : ¬ A b := fun h => absurd (hAs b h) (Nat.not_le.mpr hbl)
  refine lv_aload_n hx hb dL_law_289 rfl (lv_at hl 1 rfl) ?_
  refine lv_aload_n hx hb dL_law_290 rfl (lv_at hl 0 rfl) ?_
  refine lv_iload hx hb dL_law_291 (lv_at hl 4 rfl) ?_
  refine lv_iconst (v := 1) hx hb dL_law_293 (by decide) ?_
  refine lv_iadd hx hb dL_law_294 ?_
  refine lv_topi (fun y_1 ey_1 => ?_)
  obtain rfl : y_1 = 1 := ey_1.trans (by decide)
  refine va_sld hx hb hX hbl hbA hS (show ¬ (_ ∨ _) by decide) dL_law_295 ?_
  have hFc := va_free (wc := [((aa 0), .inr (8, [.ref (aa 6), .int 0, .ref (aa 4), .ref (aa 1), .ref (aa 5), .ref (aa 2), .ref (aa 10), .int 0, .ref (aa 11), .ref (aa 12), .int 0, .ref (aa 13), .ref (aa 14), .ref (aa 3), .ref (aa 15), .ref (aa 16)])), ((aa 1), .inr (0, [.int 0, .int 0, .int 0, .int (-1), .ref (aa 20), .ref (aa 21), .ref (aa 22), .ref (aa 23), .ref (aa 7), .ref (aa 24), .ref (aa 25), .ref (aa 26), .ref (aa 27), .ref (aa 28), .ref (aa 29), .ref (aa 30), .ref (aa 31)])), ((aa 2), .inr (2, [.int 0, .ref (aa 60), .ref (aa 61)])), ((aa 3), .inr (3, [.int 0, .int 0, .int 0, .ref (aa 62), .ref (aa 63)])), ((aa 4), .inr (4, [.int 0, .int (-1), .null, .int 0, .int 0, .int 0, .int 0, .int 0, .null, .ref (aa 64), .ref (aa 65), .ref (aa 66)])), ((aa 5), .inr (0, [.int 0, .int 0, .int 0, .int (-1), .ref (aa 8), .ref (aa 41), .ref (aa 42), .ref (aa 43), .ref (aa 9), .ref (aa 44), .ref (aa 45), .ref (aa 46), .ref (aa 47), .ref (aa 48), .ref (aa 49), .ref (aa 50), .ref (aa 51)])), ((aa 6), .inl ((kk 0), 900, .inl (fun _ => 0))), ((aa 7), .inl ((kk 1), 22, .inl (fun _ => 0))), ((aa 8), .inl ((kk 2), 8, .inl (fun _ => 0))), ((aa 9), .inl ((kk 3), 22, .inl (fun _ => 0)))]) hD hS hA [0, 1, 2, 3, 4, 5, 6, 7, 8, 9] rfl
  refine va_calli (va_runV (As := [.int (xs (1 : Int32).toNatClampNeg)]) (rest := []) ⟨hx, hb, hml, hown, hts⟩ (c_X8_end l dC dI _ aa kk (xs (1 : Int32).toNatClampNeg)) (cwV 1 hts g_L_X8_end rfl rfl rfl (by decide +kernel) ⟨Nat.le_of_ble_eq_true rfl, Nat.le_of_ble_eq_true rfl⟩) ⟨pu_bl, va_recv hK hP (ci := 8) (q0 := 0) rfl rfl, pu_in (hP.sub [0, 1, 2, 3, 4, 5, 6, 7, 8, 9] rfl) (hK.sub [0, 1, 2, 3] rfl) (hD.sub [0, 1, 2, 3, 4, 5, 6, 7, 8, 9] (by decide) rfl)⟩ rfl rfl hl.1 rfl (lv_room (Nat.le_of_ble_eq_true rfl)) dL_law_296 ⟨Nat.le_of_ble_eq_true rfl, Nat.le_of_ble_eq_true rfl⟩) hS (fun q _ h => hFc q h) hFc (fun r_2 u t H1 locs ht hvm hw hB hz1 hk1 hS => ?_)
  obtain ⟨hP, hD⟩ := va_join (wr := [((bb 0), .inr (9, [.int 0, .ref (bb 10), .ref (bb 11), .ref (bb 12), .ref (bb 13), .ref (bb 14), .ref (bb 15), .ref (bb 16), .ref (bb 17), .ref (bb 18), .ref (bb 19), .ref (bb 20), .ref (bb 1), .ref (bb 2), .ref (bb 3), .ref (bb 4), .int 0, .ref (bb 5), .int 0, .int 0, .int 0, .int 0, .int 0, .int 0, .int 0, .int (-1), .int 0, .int 0, .int 0, .int 0, .int 0, .ref (bb 21), .ref (bb 22), .int 0, .ref (bb 23), .ref (bb 24), .ref (bb 25), .ref (bb 26), .ref (bb 27), .ref (bb 28), .ref (bb 29), .ref (bb 30), .ref (bb 31), .ref (bb 32), .ref (bb 33), .int 0, .int 0, .ref (bb 34), .ref (bb 35), .ref (bb 36), .ref (bb 37), .ref (bb 38), .int 0, .int 0, .ref (bb 39), .ref (bb 40), .ref (bb 41), .ref (bb 42), .ref (bb 43), .ref (bb 44), .ref (bb 45), .int 0, .int 0, .int 0, .ref (bb 46), .int 0, .int 0])), ((bb 1), .inl ((jj 1), 2, .inl (fun _ => 0))), ((bb 2), .inl ((jj 2), 2, .inl (fun _ => 0))), ((bb 3), .inl ((jj 3), 2, .inl (fun _ => 0))), ((bb 4), .inl ((jj 4), 2, .inl begF)), ((bb 5), .inl ((jj 5), 900, .inl (fun _ => 0)))]) (w1 := []) hP hD [0, 1, 2, 3, 4, 5, 6, 7, 8, 9] [10, 11, 12, 13, 14, 15] rfl rfl (by decide) (by decide) hk1 hFc pu_P0 pu_D0
  clear hk1 hz1 ht hvm
  generalize H1 = H at hP hS ⊢
  have hP : va_P (dC, dI) vwCl [((bb 0), .inr (9, [.int 0, .ref (bb 10), .ref (bb 11), .ref (bb 12), .ref (bb 13), .ref (bb 14), .ref (bb 15), .ref (bb 16), .ref (bb 17), .ref (bb 18), .ref (bb 19), .ref (bb 20), .ref (bb 1), .ref (bb 2), .ref (bb 3), .ref (bb 4), .int 0, .ref (bb 5), .int 0, .int 0, .int 0, .int 0, .int 0, .int 0, .int 0, .int (-1), .int 0, .int 0, .int 0, .int 0, .int 0, .ref (bb 21), .ref (bb 22), .int 0, .ref (bb 23), .ref (bb 24), .ref (bb 25), .ref (bb 26), .ref (bb 27), .ref (bb 28), .ref (bb 29), .ref (bb 30), .ref (bb 31), .ref (bb 32), .ref (bb 33), .int 0, .int 0, .ref (bb 34), .ref (bb 35), .ref (bb 36), .ref (bb 37), .ref (bb 38), .int 0, .int 0, .ref (bb 39), .ref (bb 40), .ref (bb 41), .ref (bb 42), .ref (bb 43), .ref (bb 44), .ref (bb 45), .int 0, .int 0, .int 0, .ref (bb 46), .int 0, .int 0])), ((bb 1), .inl ((jj 1), 2, .inl (fun _ => 0))), ((bb 2), .inl ((jj 2), 2, .inl (fun _ => 0))), ((bb 3), .inl ((jj 3), 2, .inl (fun _ => 0))), ((bb 4), .inl ((jj 4), 2, .inl begF)), ((bb 5), .inl ((jj 5), 900, .inl (fun _ => 0)))] H := hP
  have hD : va_D A [((bb 0), .inr (9, [.int 0, .ref (bb 10), .ref (bb 11), .ref (bb 12), .ref (bb 13), .ref (bb 14), .ref (bb 15), .ref (bb 16), .ref (bb 17), .ref (bb 18), .ref (bb 19), .ref (bb 20), .ref (bb 1), .ref (bb 2), .ref (bb 3), .ref (bb 4), .int 0, .ref (bb 5), .int 0, .int 0, .int 0, .int 0, .int 0, .int 0, .int 0, .int (-1), .int 0, .int 0, .int 0, .int 0, .int 0, .ref (bb 21), .ref (bb 22), .int 0, .ref (bb 23), .ref (bb 24), .ref (bb 25), .ref (bb 26), .ref (bb 27), .ref (bb 28), .ref (bb 29), .ref (bb 30), .ref (bb 31), .ref (bb 32), .ref (bb 33), .int 0, .int 0, .ref (bb 34), .ref (bb 35), .ref (bb 36), .ref (bb 37), .ref (bb 38), .int 0, .int 0, .ref (bb 39), .ref (bb 40), .ref (bb 41), .ref (bb 42), .ref (bb 43), .ref (bb 44), .ref (bb 45), .int 0, .int 0, .int 0, .ref (bb 46), .int 0, .int 0])), ((bb 1), .inl ((jj 1), 2, .inl (fun _ => 0))), ((bb 2), .inl ((jj 2), 2, .inl (fun _ => 0))), ((bb 3), .inl ((jj 3), 2, .inl (fun _ => 0))), ((bb 4), .inl ((jj 4), 2, .inl begF)), ((bb 5), .inl ((jj 5), 900, .inl (fun _ => 0)))] := hD
  obtain rfl : r_2 = (flF (xs (1 : Int32).toNatClampNeg)) := hw
  refine lv_aload_n hx hb dL_law_299 rfl (lv_at hl 2 rfl) ?_
  refine lv_aload_n hx hb dL_law_300 rfl (lv_at hl 0 rfl) ?_
  refine lv_iload hx hb dL_law_301 (lv_at hl 4 rfl) ?_
  refine lv_iconst (v := 1) hx hb dL_law_303 (by decide) ?_
  refine lv_iadd hx hb dL_law_304 ?_
  refine lv_topi (fun y_3 ey_3 => ?_)
  obtain rfl : y_3 = 1 := ey_3.trans (by decide)
  refine va_sld hx hb hX hbl hbA hS (show ¬ (_ ∨ _) by decide) dL_law_305 ?_
  have hFc := va_free (wc := [((bb 0), .inr (9, [.int 0, .ref (bb 10), .ref (bb 11), .ref (bb 12), .ref (bb 13), .ref (bb 14), .ref (bb 15), .ref (bb 16), .ref (bb 17), .ref (bb 18), .ref (bb 19), .ref (bb 20), .ref (bb 1), .ref (bb 2), .ref (bb 3), .ref (bb 4), .int 0, .ref (bb 5), .int 0, .int 0, .int 0, .int 0, .int 0, .int 0, .int 0, .int (-1), .int 0, .int 0, .int 0, .int 0, .int 0, .ref (bb 21), .ref (bb 22), .int 0, .ref (bb 23), .ref (bb 24), .ref (bb 25), .ref (bb 26), .ref (bb 27), .ref (bb 28), .ref (bb 29), .ref (bb 30), .ref (bb 31), .ref (bb 32), .ref (bb 33), .int 0, .int 0, .ref (bb 34), .ref (bb 35), .ref (bb 36), .ref (bb 37), .ref (bb 38), .int 0, .int 0, .ref (bb 39), .ref (bb 40), .ref (bb 41), .ref (bb 42), .ref (bb 43), .ref (bb 44), .ref (bb 45), .int 0, .int 0, .int 0, .ref (bb 46), .int 0, .int 0])), ((bb 1), .inl ((jj 1), 2, .inl (fun _ => 0))), ((bb 2), .inl ((jj 2), 2, .inl (fun _ => 0))), ((bb 3), .inl ((jj 3), 2, .inl (fun _ => 0))), ((bb 4), .inl ((jj 4), 2, .inl begF)), ((bb 5), .inl ((jj 5), 900, .inl (fun _ => 0)))]) hD hS hA [0, 1, 2, 3, 4, 5] rfl
  refine va_calli (va_runV (As := [.int (xs (1 : Int32).toNatClampNeg)]) (rest := [.int (flF (xs (1 : Int32).toNatClampNeg))]) ⟨hx, hb, hml, hown, hts⟩ (c_X9_end l dC dI _ bb jj (xs (1 : Int32).toNatClampNeg)) (cwV 1 hts g_L_X9_end rfl rfl rfl (by decide +kernel) ⟨Nat.le_of_ble_eq_true rfl, Nat.le_of_ble_eq_true rfl⟩) ⟨pu_bl, va_recv hK hP (ci := 9) (q0 := 0) rfl rfl, pu_in hP (hK.sub [4, 5, 6, 7, 8] rfl) hD⟩ rfl rfl hl.1 rfl (lv_room (Nat.le_of_ble_eq_true rfl)) dL_law_306 ⟨Nat.le_of_ble_eq_true rfl, Nat.le_of_ble_eq_true rfl⟩) hS (fun q _ h => hFc q h) hFc (fun r_4 u t H1 locs ht hvm hw hB hz1 hk1 hS => ?_)
  obtain ⟨hP, hD⟩ := va_join (wr := []) (w1 := []) hP hD [0, 1, 2, 3, 4, 5] [] rfl rfl (by decide) (by decide) hk1 hFc pu_P0 pu_D0
  clear hk1 hz1 ht hvm
  generalize H1 = H at hP hS ⊢
  have hP : va_P (dC, dI) vwCl [] H := hP
  have hD : va_D A [] := hD
  obtain rfl : r_4 = (flF (xs (1 : Int32).toNatClampNeg)) := hw
  refine lv_icmp_eq (tgt := 1725) hx hb dL_law_309 (by decide) (fun _ => ?_) (fun z => absurd rfl z)
  exact law_tail l C0 hA hAs hS (lv_sub hl [0, 4] rfl) (Nat.le_of_ble_eq_true rfl) (Nat.le_of_ble_eq_true rfl)
set_option maxHeartbeats 4000000 in
set_option maxRecDepth 100000 in
theorem law_case_2 {p : Program} {e : Env} {s : State} {m : MethodId} {below : List Frame} {meth : Method} {c : Code} (l : Launch) (hlt : l.stackTraces = false) {b : Nat} {xs : Nat → Int32} (C0 : lw_At p s m meth c b 7 xs) {A : Nat → Prop} (hA : ∀ q : Nat, s.heap.size ≤ q → A q) (hAs : ∀ q : Nat, A q → s.heap.size ≤ q) (hY : sy_E A s s.heap) {dC : Nat → ClassId} {dI : Nat → Nat → Nat} (aa bb : Nat → Nat) (kk jj : Nat → ClassId) (qo : Nat) (H : Heap) (locs : List Loc) (hK : va_K (dC, dI) vwCl (tX kk ++ tM jj) s) (hP : va_P (dC, dI) vwCl (wX aa kk ++ wM bb jj) H) (hD : va_D A (wX aa kk ++ wM bb jj)) (hS : va_S A s.heap H locs) (ls : Array Slot) (hl : lv_has ls 7 [(0, .ref b), (1, .ref (aa 0)), (2, .ref (bb 0)), (3, .ref qo), (4, .int 0)]) : W p l e room_1 s m #[Value.ref b] below meth c H locs 1717 133609 (lw_Z below #[Value.ref b] s) (F0 m 314 ls []) := by
  obtain ⟨hx, hb, hr, hml, hown0, hts0, hX, hbl, hlocks, hgv⟩ := id C0
  have hown : s.vm.findClass RL = some m.cls := hown0
  have hts : ∀ w ∈ vsL, w.before #[Value.ref b] s = true := fun w h => hts0 w (vsL_in w h)
  have hbA : ¬ A b := fun h => absurd (hAs b h) (Nat.not_le.mpr hbl)
  refine lv_aload_n hx hb dL_law_314 rfl (lv_at hl 1 rfl) ?_
  have hFc := va_free (wc := [((aa 0), .inr (8, [.ref (aa 6), .int 0, .ref (aa 4), .ref (aa 1), .ref (aa 5), .ref (aa 2), .ref (aa 10), .int 0, .ref (aa 11), .ref (aa 12), .int 0, .ref (aa 13), .ref (aa 14), .ref (aa 3), .ref (aa 15), .ref (aa 16)])), ((aa 1), .inr (0, [.int 0, .int 0, .int 0, .int (-1), .ref (aa 20), .ref (aa 21), .ref (aa 22), .ref (aa 23), .ref (aa 7), .ref (aa 24), .ref (aa 25), .ref (aa 26), .ref (aa 27), .ref (aa 28), .ref (aa 29), .ref (aa 30), .ref (aa 31)])), ((aa 2), .inr (2, [.int 0, .ref (aa 60), .ref (aa 61)])), ((aa 3), .inr (3, [.int 0, .int 0, .int 0, .ref (aa 62), .ref (aa 63)])), ((aa 4), .inr (4, [.int 0, .int (-1), .null, .int 0, .int 0, .int 0, .int 0, .int 0, .null, .ref (aa 64), .ref (aa 65), .ref (aa 66)])), ((aa 5), .inr (0, [.int 0, .int 0, .int 0, .int (-1), .ref (aa 8), .ref (aa 41), .ref (aa 42), .ref (aa 43), .ref (aa 9), .ref (aa 44), .ref (aa 45), .ref (aa 46), .ref (aa 47), .ref (aa 48), .ref (aa 49), .ref (aa 50), .ref (aa 51)])), ((aa 6), .inl ((kk 0), 900, .inl (fun _ => 0))), ((aa 7), .inl ((kk 1), 22, .inl (fun _ => 0))), ((aa 8), .inl ((kk 2), 8, .inl (fun _ => 0))), ((aa 9), .inl ((kk 3), 22, .inl (fun _ => 0)))]) hD hS hA [0, 1, 2, 3, 4, 5, 6, 7, 8, 9] rfl
  refine va_calli (va_runV (As := []) (rest := []) ⟨hx, hb, hml, hown, hts⟩ (c_X8_automaton l dC dI _ aa kk) (cwV 0 hts g_L_X8_automaton rfl rfl rfl (by decide +kernel) ⟨Nat.le_of_ble_eq_true rfl, Nat.le_of_ble_eq_true rfl⟩) ⟨pu_bl, va_recv hK hP (ci := 8) (q0 := 0) rfl rfl, pu_in (hP.sub [0, 1, 2, 3, 4, 5, 6, 7, 8, 9] rfl) (hK.sub [0, 1, 2, 3] rfl) (hD.sub [0, 1, 2, 3, 4, 5, 6, 7, 8, 9] (by decide) rfl)⟩ rfl rfl hl.1 rfl (lv_room (Nat.le_of_ble_eq_true rfl)) dL_law_315 ⟨Nat.le_of_ble_eq_true rfl, Nat.le_of_ble_eq_true rfl⟩) hS (fun q _ h => hFc q h) hFc (fun r_1 u t H1 locs ht hvm hw hB hz1 hk1 hS => ?_)
  obtain ⟨hP, hD⟩ := va_join (wr := [((bb 0), .inr (9, [.int 0, .ref (bb 10), .ref (bb 11), .ref (bb 12), .ref (bb 13), .ref (bb 14), .ref (bb 15), .ref (bb 16), .ref (bb 17), .ref (bb 18), .ref (bb 19), .ref (bb 20), .ref (bb 1), .ref (bb 2), .ref (bb 3), .ref (bb 4), .int 0, .ref (bb 5), .int 0, .int 0, .int 0, .int 0, .int 0, .int 0, .int 0, .int (-1), .int 0, .int 0, .int 0, .int 0, .int 0, .ref (bb 21), .ref (bb 22), .int 0, .ref (bb 23), .ref (bb 24), .ref (bb 25), .ref (bb 26), .ref (bb 27), .ref (bb 28), .ref (bb 29), .ref (bb 30), .ref (bb 31), .ref (bb 32), .ref (bb 33), .int 0, .int 0, .ref (bb 34), .ref (bb 35), .ref (bb 36), .ref (bb 37), .ref (bb 38), .int 0, .int 0, .ref (bb 39), .ref (bb 40), .ref (bb 41), .ref (bb 42), .ref (bb 43), .ref (bb 44), .ref (bb 45), .int 0, .int 0, .int 0, .ref (bb 46), .int 0, .int 0])), ((bb 1), .inl ((jj 1), 2, .inl (fun _ => 0))), ((bb 2), .inl ((jj 2), 2, .inl (fun _ => 0))), ((bb 3), .inl ((jj 3), 2, .inl (fun _ => 0))), ((bb 4), .inl ((jj 4), 2, .inl begF)), ((bb 5), .inl ((jj 5), 900, .inl (fun _ => 0)))]) (w1 := []) hP hD [0, 1, 2, 3, 4, 5, 6, 7, 8, 9] [10, 11, 12, 13, 14, 15] rfl rfl (by decide) (by decide) hk1 hFc pu_P0 pu_D0
  clear hk1 hz1 ht hvm
  generalize H1 = H at hP hS ⊢
  have hP : va_P (dC, dI) vwCl [((bb 0), .inr (9, [.int 0, .ref (bb 10), .ref (bb 11), .ref (bb 12), .ref (bb 13), .ref (bb 14), .ref (bb 15), .ref (bb 16), .ref (bb 17), .ref (bb 18), .ref (bb 19), .ref (bb 20), .ref (bb 1), .ref (bb 2), .ref (bb 3), .ref (bb 4), .int 0, .ref (bb 5), .int 0, .int 0, .int 0, .int 0, .int 0, .int 0, .int 0, .int (-1), .int 0, .int 0, .int 0, .int 0, .int 0, .ref (bb 21), .ref (bb 22), .int 0, .ref (bb 23), .ref (bb 24), .ref (bb 25), .ref (bb 26), .ref (bb 27), .ref (bb 28), .ref (bb 29), .ref (bb 30), .ref (bb 31), .ref (bb 32), .ref (bb 33), .int 0, .int 0, .ref (bb 34), .ref (bb 35), .ref (bb 36), .ref (bb 37), .ref (bb 38), .int 0, .int 0, .ref (bb 39), .ref (bb 40), .ref (bb 41), .ref (bb 42), .ref (bb 43), .ref (bb 44), .ref (bb 45), .int 0, .int 0, .int 0, .ref (bb 46), .int 0, .int 0])), ((bb 1), .inl ((jj 1), 2, .inl (fun _ => 0))), ((bb 2), .inl ((jj 2), 2, .inl (fun _ => 0))), ((bb 3), .inl ((jj 3), 2, .inl (fun _ => 0))), ((bb 4), .inl ((jj 4), 2, .inl begF)), ((bb 5), .inl ((jj 5), 900, .inl (fun _ => 0)))] H := hP
  have hD : va_D A [((bb 0), .inr (9, [.int 0, .ref (bb 10), .ref (bb 11), .ref (bb 12), .ref (bb 13), .ref (bb 14), .ref (bb 15), .ref (bb 16), .ref (bb 17), .ref (bb 18), .ref (bb 19), .ref (bb 20), .ref (bb 1), .ref (bb 2), .ref (bb 3), .ref (bb 4), .int 0, .ref (bb 5), .int 0, .int 0, .int 0, .int 0, .int 0, .int 0, .int 0, .int (-1), .int 0, .int 0, .int 0, .int 0, .int 0, .ref (bb 21), .ref (bb 22), .int 0, .ref (bb 23), .ref (bb 24), .ref (bb 25), .ref (bb 26), .ref (bb 27), .ref (bb 28), .ref (bb 29), .ref (bb 30), .ref (bb 31), .ref (bb 32), .ref (bb 33), .int 0, .int 0, .ref (bb 34), .ref (bb 35), .ref (bb 36), .ref (bb 37), .ref (bb 38), .int 0, .int 0, .ref (bb 39), .ref (bb 40), .ref (bb 41), .ref (bb 42), .ref (bb 43), .ref (bb 44), .ref (bb 45), .int 0, .int 0, .int 0, .ref (bb 46), .int 0, .int 0])), ((bb 1), .inl ((jj 1), 2, .inl (fun _ => 0))), ((bb 2), .inl ((jj 2), 2, .inl (fun _ => 0))), ((bb 3), .inl ((jj 3), 2, .inl (fun _ => 0))), ((bb 4), .inl ((jj 4), 2, .inl begF)), ((bb 5), .inl ((jj 5), 900, .inl (fun _ => 0)))] := hD
  obtain rfl : r_1 = (-1) := hw
  refine lv_aload_n hx hb dL_law_318 rfl (lv_at hl 2 rfl) ?_
  have hFc := va_free (wc := [((bb 0), .inr (9, [.int 0, .ref (bb 10), .ref (bb 11), .ref (bb 12), .ref (bb 13), .ref (bb 14), .ref (bb 15), .ref (bb 16), .ref (bb 17), .ref (bb 18), .ref (bb 19), .ref (bb 20), .ref (bb 1), .ref (bb 2), .ref (bb 3), .ref (bb 4), .int 0, .ref (bb 5), .int 0, .int 0, .int 0, .int 0, .int 0, .int 0, .int 0, .int (-1), .int 0, .int 0, .int 0, .int 0, .int 0, .ref (bb 21), .ref (bb 22), .int 0, .ref (bb 23), .ref (bb 24), .ref (bb 25), .ref (bb 26), .ref (bb 27), .ref (bb 28), .ref (bb 29), .ref (bb 30), .ref (bb 31), .ref (bb 32), .ref (bb 33), .int 0, .int 0, .ref (bb 34), .ref (bb 35), .ref (bb 36), .ref (bb 37), .ref (bb 38), .int 0, .int 0, .ref (bb 39), .ref (bb 40), .ref (bb 41), .ref (bb 42), .ref (bb 43), .ref (bb 44), .ref (bb 45), .int 0, .int 0, .int 0, .ref (bb 46), .int 0, .int 0])), ((bb 1), .inl ((jj 1), 2, .inl (fun _ => 0))), ((bb 2), .inl ((jj 2), 2, .inl (fun _ => 0))), ((bb 3), .inl ((jj 3), 2, .inl (fun _ => 0))), ((bb 4), .inl ((jj 4), 2, .inl begF)), ((bb 5), .inl ((jj 5), 900, .inl (fun _ => 0)))]) hD hS hA [0, 1, 2, 3, 4, 5] rfl
  refine va_calli (va_runV (As := []) (rest := [.int (-1)]) ⟨hx, hb, hml, hown, hts⟩ (c_X9_automaton l dC dI _ bb jj) (cwV 0 hts g_L_X9_automaton rfl rfl rfl (by decide +kernel) ⟨Nat.le_of_ble_eq_true rfl, Nat.le_of_ble_eq_true rfl⟩) ⟨pu_bl, va_recv hK hP (ci := 9) (q0 := 0) rfl rfl, pu_in hP (hK.sub [4, 5, 6, 7, 8] rfl) hD⟩ rfl rfl hl.1 rfl (lv_room (Nat.le_of_ble_eq_true rfl)) dL_law_319 ⟨Nat.le_of_ble_eq_true rfl, Nat.le_of_ble_eq_true rfl⟩) hS (fun q _ h => hFc q h) hFc (fun r_2 u t H1 locs ht hvm hw hB hz1 hk1 hS => ?_)
  obtain ⟨hP, hD⟩ := va_join (wr := []) (w1 := []) hP hD [0, 1, 2, 3, 4, 5] [] rfl rfl (by decide) (by decide) hk1 hFc pu_P0 pu_D0
  clear hk1 hz1 ht hvm
  generalize H1 = H at hP hS ⊢
  have hP : va_P (dC, dI) vwCl [] H := hP
  have hD : va_D A [] := hD
  obtain rfl : r_2 = (-1) := hw
  refine lv_icmp_eq (tgt := 1725) hx hb dL_law_322 (by decide) (fun _ => ?_) (fun z => absurd z (by decide))
  exact law_tail l C0 hA hAs hS (lv_sub hl [0, 4] rfl) (Nat.le_of_ble_eq_true rfl) (Nat.le_of_ble_eq_true rfl)
set_option maxHeartbeats 4000000 in
set_option maxRecDepth 100000 in
theorem law_case_3 {p : Program} {e : Env} {s : State} {m : MethodId} {below : List Frame} {meth : Method} {c : Code} (l : Launch) (hlt : l.stackTraces = false) {b : Nat} {xs : Nat → Int32} (C0 : lw_At p s m meth c b 7 xs) {A : Nat → Prop} (hA : ∀ q : Nat, s.heap.size ≤ q → A q) (hAs : ∀ q : Nat, A q → s.heap.size ≤ q) (hY : sy_E A s s.heap) {dC : Nat → ClassId} {dI : Nat → Nat → Nat} (aa bb : Nat → Nat) (kk jj : Nat → ClassId) (qo : Nat) (H : Heap) (locs : List Loc) (hK : va_K (dC, dI) vwCl (tX kk ++ tM jj) s) (hP : va_P (dC, dI) vwCl (wX aa kk ++ wM bb jj) H) (hD : va_D A (wX aa kk ++ wM bb jj)) (hS : va_S A s.heap H locs) (ls : Array Slot) (hl : lv_has ls 7 [(0, .ref b), (1, .ref (aa 0)), (2, .ref (bb 0)), (3, .ref qo), (4, .int 0)]) : W p l e room_1 s m #[Value.ref b] below meth c H locs 1717 133609 (lw_Z below #[Value.ref b] s) (F0 m 327 ls []) := by
  obtain ⟨hx, hb, hr, hml, hown0, hts0, hX, hbl, hlocks, hgv⟩ := id C0
  have hown : s.vm.findClass RL = some m.cls := hown0
  have hts : ∀ w ∈ vsL, w.before #[Value.ref b] s = true := fun w h => hts0 w (vsL_in w h)
  have hbA : ¬ A b := fun h => absurd (hAs b h) (Nat.not_le.mpr hbl)
  refine lv_aload_n hx hb dL_law_327 rfl (lv_at hl 1 rfl) ?_
  refine lv_aload_n hx hb dL_law_328 rfl (lv_at hl 0 rfl) ?_
  refine lv_iload hx hb dL_law_329 (lv_at hl 4 rfl) ?_
  refine lv_iconst (v := 1) hx hb dL_law_331 (by decide) ?_
  refine lv_iadd hx hb dL_law_332 ?_
  refine lv_topi (fun y_1 ey_1 => ?_)
  obtain rfl : y_1 = 1 := ey_1.trans (by decide)
  refine va_sld hx hb hX hbl hbA hS (show ¬ (_ ∨ _) by decide) dL_law_333 ?_
  refine va_calli (va_runV (As := [.int (xs (1 : Int32).toNatClampNeg)]) (rest := []) ⟨hx, hb, hml, hown, hts⟩ (c_X8_fault l dC dI _ aa kk (xs (1 : Int32).toNatClampNeg)) (cwV 1 hts g_L_X8_fault rfl rfl rfl (by decide +kernel) ⟨Nat.le_of_ble_eq_true rfl, Nat.le_of_ble_eq_true rfl⟩) ⟨pu_bl, va_recv hK hP (ci := 8) (q0 := 0) rfl rfl, pu_in (hP.sub [0, 1, 2, 3, 4, 5, 6, 7, 8, 9] rfl) (hK.sub [0, 1, 2, 3] rfl) (hD.sub [0, 1, 2, 3, 4, 5, 6, 7, 8, 9] (by decide) rfl)⟩ rfl rfl hl.1 rfl (lv_room (Nat.le_of_ble_eq_true rfl)) dL_law_334 ⟨Nat.le_of_ble_eq_true rfl, Nat.le_of_ble_eq_true rfl⟩) hS (fun q _ h => pu_fr hS hA q h) (pu_fr hS hA) (fun r_2 u t H1 locs ht hvm hw hB hz1 hk1 hS => ?_)
  have hP := pu_keep hP hk1
  clear hk1 hz1 ht hvm
  generalize H1 = H at hP hS ⊢
  obtain rfl : r_2 = (flF (xs (1 : Int32).toNatClampNeg)) := hw
  refine lv_aload_n hx hb dL_law_337 rfl (lv_at hl 2 rfl) ?_
  refine lv_aload_n hx hb dL_law_338 rfl (lv_at hl 0 rfl) ?_
  refine lv_iload hx hb dL_law_339 (lv_at hl 4 rfl) ?_
  refine lv_iconst (v := 1) hx hb dL_law_341 (by decide) ?_
  refine lv_iadd hx hb dL_law_342 ?_
  refine lv_topi (fun y_3 ey_3 => ?_)
  obtain rfl : y_3 = 1 := ey_3.trans (by decide)
  refine va_sld hx hb hX hbl hbA hS (show ¬ (_ ∨ _) by decide) dL_law_343 ?_
  have hFc := va_free (wc := [((bb 0), .inr (9, [.int 0, .ref (bb 10), .ref (bb 11), .ref (bb 12), .ref (bb 13), .ref (bb 14), .ref (bb 15), .ref (bb 16), .ref (bb 17), .ref (bb 18), .ref (bb 19), .ref (bb 20), .ref (bb 1), .ref (bb 2), .ref (bb 3), .ref (bb 4), .int 0, .ref (bb 5), .int 0, .int 0, .int 0, .int 0, .int 0, .int 0, .int 0, .int (-1), .int 0, .int 0, .int 0, .int 0, .int 0, .ref (bb 21), .ref (bb 22), .int 0, .ref (bb 23), .ref (bb 24), .ref (bb 25), .ref (bb 26), .ref (bb 27), .ref (bb 28), .ref (bb 29), .ref (bb 30), .ref (bb 31), .ref (bb 32), .ref (bb 33), .int 0, .int 0, .ref (bb 34), .ref (bb 35), .ref (bb 36), .ref (bb 37), .ref (bb 38), .int 0, .int 0, .ref (bb 39), .ref (bb 40), .ref (bb 41), .ref (bb 42), .ref (bb 43), .ref (bb 44), .ref (bb 45), .int 0, .int 0, .int 0, .ref (bb 46), .int 0, .int 0])), ((bb 1), .inl ((jj 1), 2, .inl (fun _ => 0))), ((bb 2), .inl ((jj 2), 2, .inl (fun _ => 0))), ((bb 3), .inl ((jj 3), 2, .inl (fun _ => 0))), ((bb 4), .inl ((jj 4), 2, .inl begF)), ((bb 5), .inl ((jj 5), 900, .inl (fun _ => 0)))]) hD hS hA [10, 11, 12, 13, 14, 15] rfl
  refine va_calli (va_runV (As := [.int (xs (1 : Int32).toNatClampNeg)]) (rest := [.int (flF (xs (1 : Int32).toNatClampNeg))]) ⟨hx, hb, hml, hown, hts⟩ (c_X9_fault l dC dI _ bb jj (xs (1 : Int32).toNatClampNeg)) (cwV 1 hts g_L_X9_fault rfl rfl rfl (by decide +kernel) ⟨Nat.le_of_ble_eq_true rfl, Nat.le_of_ble_eq_true rfl⟩) ⟨pu_bl, va_recv hK hP (ci := 9) (q0 := 10) rfl rfl, pu_in (hP.sub [10, 11, 12, 13, 14, 15] rfl) (hK.sub [4, 5, 6, 7, 8] rfl) (hD.sub [10, 11, 12, 13, 14, 15] (by decide) rfl)⟩ rfl rfl hl.1 rfl (lv_room (Nat.le_of_ble_eq_true rfl)) dL_law_344 ⟨Nat.le_of_ble_eq_true rfl, Nat.le_of_ble_eq_true rfl⟩) hS (fun q _ h => hFc q h) hFc (fun r_4 u t H1 locs ht hvm hw hB hz1 hk1 hS => ?_)
  obtain ⟨hP, hD⟩ := va_join (wr := [((aa 0), .inr (8, [.ref (aa 6), .int 0, .ref (aa 4), .ref (aa 1), .ref (aa 5), .ref (aa 2), .ref (aa 10), .int 0, .ref (aa 11), .ref (aa 12), .int 0, .ref (aa 13), .ref (aa 14), .ref (aa 3), .ref (aa 15), .ref (aa 16)])), ((aa 1), .inr (0, [.int 0, .int 0, .int 0, .int (-1), .ref (aa 20), .ref (aa 21), .ref (aa 22), .ref (aa 23), .ref (aa 7), .ref (aa 24), .ref (aa 25), .ref (aa 26), .ref (aa 27), .ref (aa 28), .ref (aa 29), .ref (aa 30), .ref (aa 31)])), ((aa 2), .inr (2, [.int 0, .ref (aa 60), .ref (aa 61)])), ((aa 3), .inr (3, [.int 0, .int 0, .int 0, .ref (aa 62), .ref (aa 63)])), ((aa 4), .inr (4, [.int 0, .int (-1), .null, .int 0, .int 0, .int 0, .int 0, .int 0, .null, .ref (aa 64), .ref (aa 65), .ref (aa 66)])), ((aa 5), .inr (0, [.int 0, .int 0, .int 0, .int (-1), .ref (aa 8), .ref (aa 41), .ref (aa 42), .ref (aa 43), .ref (aa 9), .ref (aa 44), .ref (aa 45), .ref (aa 46), .ref (aa 47), .ref (aa 48), .ref (aa 49), .ref (aa 50), .ref (aa 51)])), ((aa 6), .inl ((kk 0), 900, .inl (fun _ => 0))), ((aa 7), .inl ((kk 1), 22, .inl (fun _ => 0))), ((aa 8), .inl ((kk 2), 8, .inl (fun _ => 0))), ((aa 9), .inl ((kk 3), 22, .inl (fun _ => 0)))]) (w1 := []) hP hD [10, 11, 12, 13, 14, 15] [0, 1, 2, 3, 4, 5, 6, 7, 8, 9] rfl rfl (by decide) (by decide) hk1 hFc pu_P0 pu_D0
  clear hk1 hz1 ht hvm
  generalize H1 = H at hP hS ⊢
  have hP : va_P (dC, dI) vwCl [((aa 0), .inr (8, [.ref (aa 6), .int 0, .ref (aa 4), .ref (aa 1), .ref (aa 5), .ref (aa 2), .ref (aa 10), .int 0, .ref (aa 11), .ref (aa 12), .int 0, .ref (aa 13), .ref (aa 14), .ref (aa 3), .ref (aa 15), .ref (aa 16)])), ((aa 1), .inr (0, [.int 0, .int 0, .int 0, .int (-1), .ref (aa 20), .ref (aa 21), .ref (aa 22), .ref (aa 23), .ref (aa 7), .ref (aa 24), .ref (aa 25), .ref (aa 26), .ref (aa 27), .ref (aa 28), .ref (aa 29), .ref (aa 30), .ref (aa 31)])), ((aa 2), .inr (2, [.int 0, .ref (aa 60), .ref (aa 61)])), ((aa 3), .inr (3, [.int 0, .int 0, .int 0, .ref (aa 62), .ref (aa 63)])), ((aa 4), .inr (4, [.int 0, .int (-1), .null, .int 0, .int 0, .int 0, .int 0, .int 0, .null, .ref (aa 64), .ref (aa 65), .ref (aa 66)])), ((aa 5), .inr (0, [.int 0, .int 0, .int 0, .int (-1), .ref (aa 8), .ref (aa 41), .ref (aa 42), .ref (aa 43), .ref (aa 9), .ref (aa 44), .ref (aa 45), .ref (aa 46), .ref (aa 47), .ref (aa 48), .ref (aa 49), .ref (aa 50), .ref (aa 51)])), ((aa 6), .inl ((kk 0), 900, .inl (fun _ => 0))), ((aa 7), .inl ((kk 1), 22, .inl (fun _ => 0))), ((aa 8), .inl ((kk 2), 8, .inl (fun _ => 0))), ((aa 9), .inl ((kk 3), 22, .inl (fun _ => 0)))] H := hP
  have hD : va_D A [((aa 0), .inr (8, [.ref (aa 6), .int 0, .ref (aa 4), .ref (aa 1), .ref (aa 5), .ref (aa 2), .ref (aa 10), .int 0, .ref (aa 11), .ref (aa 12), .int 0, .ref (aa 13), .ref (aa 14), .ref (aa 3), .ref (aa 15), .ref (aa 16)])), ((aa 1), .inr (0, [.int 0, .int 0, .int 0, .int (-1), .ref (aa 20), .ref (aa 21), .ref (aa 22), .ref (aa 23), .ref (aa 7), .ref (aa 24), .ref (aa 25), .ref (aa 26), .ref (aa 27), .ref (aa 28), .ref (aa 29), .ref (aa 30), .ref (aa 31)])), ((aa 2), .inr (2, [.int 0, .ref (aa 60), .ref (aa 61)])), ((aa 3), .inr (3, [.int 0, .int 0, .int 0, .ref (aa 62), .ref (aa 63)])), ((aa 4), .inr (4, [.int 0, .int (-1), .null, .int 0, .int 0, .int 0, .int 0, .int 0, .null, .ref (aa 64), .ref (aa 65), .ref (aa 66)])), ((aa 5), .inr (0, [.int 0, .int 0, .int 0, .int (-1), .ref (aa 8), .ref (aa 41), .ref (aa 42), .ref (aa 43), .ref (aa 9), .ref (aa 44), .ref (aa 45), .ref (aa 46), .ref (aa 47), .ref (aa 48), .ref (aa 49), .ref (aa 50), .ref (aa 51)])), ((aa 6), .inl ((kk 0), 900, .inl (fun _ => 0))), ((aa 7), .inl ((kk 1), 22, .inl (fun _ => 0))), ((aa 8), .inl ((kk 2), 8, .inl (fun _ => 0))), ((aa 9), .inl ((kk 3), 22, .inl (fun _ => 0)))] := hD
  obtain rfl : r_4 = (flF (xs (1 : Int32).toNatClampNeg)) := hw
  refine lv_icmp_eq (tgt := 1725) hx hb dL_law_347 (by decide) (fun _ => ?_) (fun z => absurd rfl z)
  exact law_tail l C0 hA hAs hS (lv_sub hl [0, 4] rfl) (Nat.le_of_ble_eq_true rfl) (Nat.le_of_ble_eq_true rfl)
set_option maxHeartbeats 4000000 in
set_option maxRecDepth 100000 in
theorem law_case_4 {p : Program} {e : Env} {s : State} {m : MethodId} {below : List Frame} {meth : Method} {c : Code} (l : Launch) (hlt : l.stackTraces = false) {b : Nat} {xs : Nat → Int32} (C0 : lw_At p s m meth c b 7 xs) {A : Nat → Prop} (hA : ∀ q : Nat, s.heap.size ≤ q → A q) (hAs : ∀ q : Nat, A q → s.heap.size ≤ q) (hY : sy_E A s s.heap) {dC : Nat → ClassId} {dI : Nat → Nat → Nat} (aa bb : Nat → Nat) (kk jj : Nat → ClassId) (qo : Nat) (H : Heap) (locs : List Loc) (hK : va_K (dC, dI) vwCl (tX kk ++ tM jj) s) (hP : va_P (dC, dI) vwCl (wX aa kk ++ wM bb jj) H) (hD : va_D A (wX aa kk ++ wM bb jj)) (hS : va_S A s.heap H locs) (ls : Array Slot) (hl : lv_has ls 7 [(0, .ref b), (1, .ref (aa 0)), (2, .ref (bb 0)), (3, .ref qo), (4, .int 0)]) : W p l e room_1 s m #[Value.ref b] below meth c H locs 1717 133609 (lw_Z below #[Value.ref b] s) (F0 m 352 ls []) := by
  obtain ⟨hx, hb, hr, hml, hown0, hts0, hX, hbl, hlocks, hgv⟩ := id C0
  have hown : s.vm.findClass RL = some m.cls := hown0
  have hts : ∀ w ∈ vsL, w.before #[Value.ref b] s = true := fun w h => hts0 w (vsL_in w h)
  have hbA : ¬ A b := fun h => absurd (hAs b h) (Nat.not_le.mpr hbl)
  refine lv_aload_n hx hb dL_law_352 rfl (lv_at hl 1 rfl) ?_
  refine lv_aload_n hx hb dL_law_353 rfl (lv_at hl 0 rfl) ?_
  refine lv_iload hx hb dL_law_354 (lv_at hl 4 rfl) ?_
  refine lv_iconst (v := 1) hx hb dL_law_356 (by decide) ?_
  refine lv_iadd hx hb dL_law_357 ?_
  refine lv_topi (fun y_1 ey_1 => ?_)
  obtain rfl : y_1 = 1 := ey_1.trans (by decide)
  refine va_sld hx hb hX hbl hbA hS (show ¬ (_ ∨ _) by decide) dL_law_358 ?_
  refine va_calli (va_runV (As := [.int (xs (1 : Int32).toNatClampNeg)]) (rest := []) ⟨hx, hb, hml, hown, hts⟩ (c_X8_about l dC dI _ aa kk (xs (1 : Int32).toNatClampNeg)) (cwV 1 hts g_L_X8_about rfl rfl rfl (by decide +kernel) ⟨Nat.le_of_ble_eq_true rfl, Nat.le_of_ble_eq_true rfl⟩) ⟨pu_bl, va_recv hK hP (ci := 8) (q0 := 0) rfl rfl, pu_in (hP.sub [0, 1, 2, 3, 4, 5, 6, 7, 8, 9] rfl) (hK.sub [0, 1, 2, 3] rfl) (hD.sub [0, 1, 2, 3, 4, 5, 6, 7, 8, 9] (by decide) rfl)⟩ rfl rfl hl.1 rfl (lv_room (Nat.le_of_ble_eq_true rfl)) dL_law_359 ⟨Nat.le_of_ble_eq_true rfl, Nat.le_of_ble_eq_true rfl⟩) hS (fun q _ h => pu_fr hS hA q h) (pu_fr hS hA) (fun r_2 u t H1 locs ht hvm hw hB hz1 hk1 hS => ?_)
  have hP := pu_keep hP hk1
  clear hk1 hz1 ht hvm
  generalize H1 = H at hP hS ⊢
  obtain rfl : r_2 = (abF (xs (1 : Int32).toNatClampNeg)) := hw
  refine lv_aload_n hx hb dL_law_362 rfl (lv_at hl 2 rfl) ?_
  refine lv_aload_n hx hb dL_law_363 rfl (lv_at hl 0 rfl) ?_
  refine lv_iload hx hb dL_law_364 (lv_at hl 4 rfl) ?_
  refine lv_iconst (v := 1) hx hb dL_law_366 (by decide) ?_
  refine lv_iadd hx hb dL_law_367 ?_
  refine lv_topi (fun y_3 ey_3 => ?_)
  obtain rfl : y_3 = 1 := ey_3.trans (by decide)
  refine va_sld hx hb hX hbl hbA hS (show ¬ (_ ∨ _) by decide) dL_law_368 ?_
  have hFc := va_free (wc := [((bb 0), .inr (9, [.int 0, .ref (bb 10), .ref (bb 11), .ref (bb 12), .ref (bb 13), .ref (bb 14), .ref (bb 15), .ref (bb 16), .ref (bb 17), .ref (bb 18), .ref (bb 19), .ref (bb 20), .ref (bb 1), .ref (bb 2), .ref (bb 3), .ref (bb 4), .int 0, .ref (bb 5), .int 0, .int 0, .int 0, .int 0, .int 0, .int 0, .int 0, .int (-1), .int 0, .int 0, .int 0, .int 0, .int 0, .ref (bb 21), .ref (bb 22), .int 0, .ref (bb 23), .ref (bb 24), .ref (bb 25), .ref (bb 26), .ref (bb 27), .ref (bb 28), .ref (bb 29), .ref (bb 30), .ref (bb 31), .ref (bb 32), .ref (bb 33), .int 0, .int 0, .ref (bb 34), .ref (bb 35), .ref (bb 36), .ref (bb 37), .ref (bb 38), .int 0, .int 0, .ref (bb 39), .ref (bb 40), .ref (bb 41), .ref (bb 42), .ref (bb 43), .ref (bb 44), .ref (bb 45), .int 0, .int 0, .int 0, .ref (bb 46), .int 0, .int 0])), ((bb 1), .inl ((jj 1), 2, .inl (fun _ => 0))), ((bb 2), .inl ((jj 2), 2, .inl (fun _ => 0))), ((bb 3), .inl ((jj 3), 2, .inl (fun _ => 0))), ((bb 4), .inl ((jj 4), 2, .inl begF)), ((bb 5), .inl ((jj 5), 900, .inl (fun _ => 0)))]) hD hS hA [10, 11, 12, 13, 14, 15] rfl
  refine va_calli (va_runV (As := [.int (xs (1 : Int32).toNatClampNeg)]) (rest := [.int (abF (xs (1 : Int32).toNatClampNeg))]) ⟨hx, hb, hml, hown, hts⟩ (c_X9_about l dC dI _ bb jj (xs (1 : Int32).toNatClampNeg)) (cwV 1 hts g_L_X9_about rfl rfl rfl (by decide +kernel) ⟨Nat.le_of_ble_eq_true rfl, Nat.le_of_ble_eq_true rfl⟩) ⟨pu_bl, va_recv hK hP (ci := 9) (q0 := 10) rfl rfl, pu_in (hP.sub [10, 11, 12, 13, 14, 15] rfl) (hK.sub [4, 5, 6, 7, 8] rfl) (hD.sub [10, 11, 12, 13, 14, 15] (by decide) rfl)⟩ rfl rfl hl.1 rfl (lv_room (Nat.le_of_ble_eq_true rfl)) dL_law_369 ⟨Nat.le_of_ble_eq_true rfl, Nat.le_of_ble_eq_true rfl⟩) hS (fun q _ h => hFc q h) hFc (fun r_4 u t H1 locs ht hvm hw hB hz1 hk1 hS => ?_)
  obtain ⟨hP, hD⟩ := va_join (wr := [((aa 0), .inr (8, [.ref (aa 6), .int 0, .ref (aa 4), .ref (aa 1), .ref (aa 5), .ref (aa 2), .ref (aa 10), .int 0, .ref (aa 11), .ref (aa 12), .int 0, .ref (aa 13), .ref (aa 14), .ref (aa 3), .ref (aa 15), .ref (aa 16)])), ((aa 1), .inr (0, [.int 0, .int 0, .int 0, .int (-1), .ref (aa 20), .ref (aa 21), .ref (aa 22), .ref (aa 23), .ref (aa 7), .ref (aa 24), .ref (aa 25), .ref (aa 26), .ref (aa 27), .ref (aa 28), .ref (aa 29), .ref (aa 30), .ref (aa 31)])), ((aa 2), .inr (2, [.int 0, .ref (aa 60), .ref (aa 61)])), ((aa 3), .inr (3, [.int 0, .int 0, .int 0, .ref (aa 62), .ref (aa 63)])), ((aa 4), .inr (4, [.int 0, .int (-1), .null, .int 0, .int 0, .int 0, .int 0, .int 0, .null, .ref (aa 64), .ref (aa 65), .ref (aa 66)])), ((aa 5), .inr (0, [.int 0, .int 0, .int 0, .int (-1), .ref (aa 8), .ref (aa 41), .ref (aa 42), .ref (aa 43), .ref (aa 9), .ref (aa 44), .ref (aa 45), .ref (aa 46), .ref (aa 47), .ref (aa 48), .ref (aa 49), .ref (aa 50), .ref (aa 51)])), ((aa 6), .inl ((kk 0), 900, .inl (fun _ => 0))), ((aa 7), .inl ((kk 1), 22, .inl (fun _ => 0))), ((aa 8), .inl ((kk 2), 8, .inl (fun _ => 0))), ((aa 9), .inl ((kk 3), 22, .inl (fun _ => 0)))]) (w1 := []) hP hD [10, 11, 12, 13, 14, 15] [0, 1, 2, 3, 4, 5, 6, 7, 8, 9] rfl rfl (by decide) (by decide) hk1 hFc pu_P0 pu_D0
  clear hk1 hz1 ht hvm
  generalize H1 = H at hP hS ⊢
  have hP : va_P (dC, dI) vwCl [((aa 0), .inr (8, [.ref (aa 6), .int 0, .ref (aa 4), .ref (aa 1), .ref (aa 5), .ref (aa 2), .ref (aa 10), .int 0, .ref (aa 11), .ref (aa 12), .int 0, .ref (aa 13), .ref (aa 14), .ref (aa 3), .ref (aa 15), .ref (aa 16)])), ((aa 1), .inr (0, [.int 0, .int 0, .int 0, .int (-1), .ref (aa 20), .ref (aa 21), .ref (aa 22), .ref (aa 23), .ref (aa 7), .ref (aa 24), .ref (aa 25), .ref (aa 26), .ref (aa 27), .ref (aa 28), .ref (aa 29), .ref (aa 30), .ref (aa 31)])), ((aa 2), .inr (2, [.int 0, .ref (aa 60), .ref (aa 61)])), ((aa 3), .inr (3, [.int 0, .int 0, .int 0, .ref (aa 62), .ref (aa 63)])), ((aa 4), .inr (4, [.int 0, .int (-1), .null, .int 0, .int 0, .int 0, .int 0, .int 0, .null, .ref (aa 64), .ref (aa 65), .ref (aa 66)])), ((aa 5), .inr (0, [.int 0, .int 0, .int 0, .int (-1), .ref (aa 8), .ref (aa 41), .ref (aa 42), .ref (aa 43), .ref (aa 9), .ref (aa 44), .ref (aa 45), .ref (aa 46), .ref (aa 47), .ref (aa 48), .ref (aa 49), .ref (aa 50), .ref (aa 51)])), ((aa 6), .inl ((kk 0), 900, .inl (fun _ => 0))), ((aa 7), .inl ((kk 1), 22, .inl (fun _ => 0))), ((aa 8), .inl ((kk 2), 8, .inl (fun _ => 0))), ((aa 9), .inl ((kk 3), 22, .inl (fun _ => 0)))] H := hP
  have hD : va_D A [((aa 0), .inr (8, [.ref (aa 6), .int 0, .ref (aa 4), .ref (aa 1), .ref (aa 5), .ref (aa 2), .ref (aa 10), .int 0, .ref (aa 11), .ref (aa 12), .int 0, .ref (aa 13), .ref (aa 14), .ref (aa 3), .ref (aa 15), .ref (aa 16)])), ((aa 1), .inr (0, [.int 0, .int 0, .int 0, .int (-1), .ref (aa 20), .ref (aa 21), .ref (aa 22), .ref (aa 23), .ref (aa 7), .ref (aa 24), .ref (aa 25), .ref (aa 26), .ref (aa 27), .ref (aa 28), .ref (aa 29), .ref (aa 30), .ref (aa 31)])), ((aa 2), .inr (2, [.int 0, .ref (aa 60), .ref (aa 61)])), ((aa 3), .inr (3, [.int 0, .int 0, .int 0, .ref (aa 62), .ref (aa 63)])), ((aa 4), .inr (4, [.int 0, .int (-1), .null, .int 0, .int 0, .int 0, .int 0, .int 0, .null, .ref (aa 64), .ref (aa 65), .ref (aa 66)])), ((aa 5), .inr (0, [.int 0, .int 0, .int 0, .int (-1), .ref (aa 8), .ref (aa 41), .ref (aa 42), .ref (aa 43), .ref (aa 9), .ref (aa 44), .ref (aa 45), .ref (aa 46), .ref (aa 47), .ref (aa 48), .ref (aa 49), .ref (aa 50), .ref (aa 51)])), ((aa 6), .inl ((kk 0), 900, .inl (fun _ => 0))), ((aa 7), .inl ((kk 1), 22, .inl (fun _ => 0))), ((aa 8), .inl ((kk 2), 8, .inl (fun _ => 0))), ((aa 9), .inl ((kk 3), 22, .inl (fun _ => 0)))] := hD
  obtain rfl : r_4 = (abF (xs (1 : Int32).toNatClampNeg)) := hw
  refine lv_icmp_eq (tgt := 1725) hx hb dL_law_372 (by decide) (fun _ => ?_) (fun z => absurd rfl z)
  exact law_tail l C0 hA hAs hS (lv_sub hl [0, 4] rfl) (Nat.le_of_ble_eq_true rfl) (Nat.le_of_ble_eq_true rfl)
set_option maxHeartbeats 4000000 in
set_option maxRecDepth 100000 in
theorem law_case_5 {p : Program} {e : Env} {s : State} {m : MethodId} {below : List Frame} {meth : Method} {c : Code} (l : Launch) (hlt : l.stackTraces = false) {b : Nat} {xs : Nat → Int32} (C0 : lw_At p s m meth c b 7 xs) {A : Nat → Prop} (hA : ∀ q : Nat, s.heap.size ≤ q → A q) (hAs : ∀ q : Nat, A q → s.heap.size ≤ q) (hY : sy_E A s s.heap) {dC : Nat → ClassId} {dI : Nat → Nat → Nat} (aa bb : Nat → Nat) (kk jj : Nat → ClassId) (qo : Nat) (H : Heap) (locs : List Loc) (hK : va_K (dC, dI) vwCl (tX kk ++ tM jj) s) (hP : va_P (dC, dI) vwCl (wX aa kk ++ wM bb jj) H) (hD : va_D A (wX aa kk ++ wM bb jj)) (hS : va_S A s.heap H locs) (ls : Array Slot) (hl : lv_has ls 7 [(0, .ref b), (1, .ref (aa 0)), (2, .ref (bb 0)), (3, .ref qo), (4, .int 0)]) : W p l e room_1 s m #[Value.ref b] below meth c H locs 1717 133609 (lw_Z below #[Value.ref b] s) (F0 m 377 ls []) := by
  obtain ⟨hx, hb, hr, hml, hown0, hts0, hX, hbl, hlocks, hgv⟩ := id C0
  have hown : s.vm.findClass RL = some m.cls := hown0
  have hts : ∀ w ∈ vsL, w.before #[Value.ref b] s = true := fun w h => hts0 w (vsL_in w h)
  have hbA : ¬ A b := fun h => absurd (hAs b h) (Nat.not_le.mpr hbl)
  refine lv_aload_n hx hb dL_law_377 rfl (lv_at hl 1 rfl) ?_
  refine lv_aload_n hx hb dL_law_378 rfl (lv_at hl 0 rfl) ?_
  refine lv_iload hx hb dL_law_379 (lv_at hl 4 rfl) ?_
  refine lv_iconst (v := 1) hx hb dL_law_381 (by decide) ?_
  refine lv_iadd hx hb dL_law_382 ?_
  refine lv_topi (fun y_1 ey_1 => ?_)
  obtain rfl : y_1 = 1 := ey_1.trans (by decide)
  refine va_sld hx hb hX hbl hbA hS (show ¬ (_ ∨ _) by decide) dL_law_383 ?_
  refine lv_aload_n hx hb dL_law_384 rfl (lv_at hl 0 rfl) ?_
  refine lv_iload hx hb dL_law_385 (lv_at hl 4 rfl) ?_
  refine lv_iconst (v := 2) hx hb dL_law_387 (by decide) ?_
  refine lv_iadd hx hb dL_law_388 ?_
  refine lv_topi (fun y_2 ey_2 => ?_)
  obtain rfl : y_2 = 2 := ey_2.trans (by decide)
  refine va_sld hx hb hX hbl hbA hS (show ¬ (_ ∨ _) by decide) dL_law_389 ?_
  refine va_calli (va_runV (As := [.int (xs (1 : Int32).toNatClampNeg), .int (xs (2 : Int32).toNatClampNeg)]) (rest := []) ⟨hx, hb, hml, hown, hts⟩ (c_X8_place l dC dI _ aa kk (xs (1 : Int32).toNatClampNeg) (xs (2 : Int32).toNatClampNeg)) (cwV 2 hts g_L_X8_place rfl rfl rfl (by decide +kernel) ⟨Nat.le_of_ble_eq_true rfl, Nat.le_of_ble_eq_true rfl⟩) ⟨pu_bl, va_recv hK hP (ci := 8) (q0 := 0) rfl rfl, pu_in (hP.sub [0, 1, 2, 3, 4, 5, 6, 7, 8, 9] rfl) (hK.sub [0, 1, 2, 3] rfl) (hD.sub [0, 1, 2, 3, 4, 5, 6, 7, 8, 9] (by decide) rfl)⟩ rfl rfl hl.1 rfl (lv_room (Nat.le_of_ble_eq_true rfl)) dL_law_390 ⟨Nat.le_of_ble_eq_true rfl, Nat.le_of_ble_eq_true rfl⟩) hS (fun q _ h => pu_fr hS hA q h) (pu_fr hS hA) (fun r_3 u t H1 locs ht hvm hw hB hz1 hk1 hS => ?_)
  have hP := pu_keep hP hk1
  clear hk1 hz1 ht hvm
  generalize H1 = H at hP hS ⊢
  obtain rfl : r_3 = (-1) := hw
  refine lv_aload_n hx hb dL_law_393 rfl (lv_at hl 2 rfl) ?_
  refine lv_aload_n hx hb dL_law_394 rfl (lv_at hl 0 rfl) ?_
  refine lv_iload hx hb dL_law_395 (lv_at hl 4 rfl) ?_
  refine lv_iconst (v := 1) hx hb dL_law_397 (by decide) ?_
  refine lv_iadd hx hb dL_law_398 ?_
  refine lv_topi (fun y_4 ey_4 => ?_)
  obtain rfl : y_4 = 1 := ey_4.trans (by decide)
  refine va_sld hx hb hX hbl hbA hS (show ¬ (_ ∨ _) by decide) dL_law_399 ?_
  refine lv_aload_n hx hb dL_law_400 rfl (lv_at hl 0 rfl) ?_
  refine lv_iload hx hb dL_law_401 (lv_at hl 4 rfl) ?_
  refine lv_iconst (v := 2) hx hb dL_law_403 (by decide) ?_
  refine lv_iadd hx hb dL_law_404 ?_
  refine lv_topi (fun y_5 ey_5 => ?_)
  obtain rfl : y_5 = 2 := ey_5.trans (by decide)
  refine va_sld hx hb hX hbl hbA hS (show ¬ (_ ∨ _) by decide) dL_law_405 ?_
  have hFc := va_free (wc := [((bb 0), .inr (9, [.int 0, .ref (bb 10), .ref (bb 11), .ref (bb 12), .ref (bb 13), .ref (bb 14), .ref (bb 15), .ref (bb 16), .ref (bb 17), .ref (bb 18), .ref (bb 19), .ref (bb 20), .ref (bb 1), .ref (bb 2), .ref (bb 3), .ref (bb 4), .int 0, .ref (bb 5), .int 0, .int 0, .int 0, .int 0, .int 0, .int 0, .int 0, .int (-1), .int 0, .int 0, .int 0, .int 0, .int 0, .ref (bb 21), .ref (bb 22), .int 0, .ref (bb 23), .ref (bb 24), .ref (bb 25), .ref (bb 26), .ref (bb 27), .ref (bb 28), .ref (bb 29), .ref (bb 30), .ref (bb 31), .ref (bb 32), .ref (bb 33), .int 0, .int 0, .ref (bb 34), .ref (bb 35), .ref (bb 36), .ref (bb 37), .ref (bb 38), .int 0, .int 0, .ref (bb 39), .ref (bb 40), .ref (bb 41), .ref (bb 42), .ref (bb 43), .ref (bb 44), .ref (bb 45), .int 0, .int 0, .int 0, .ref (bb 46), .int 0, .int 0])), ((bb 1), .inl ((jj 1), 2, .inl (fun _ => 0))), ((bb 2), .inl ((jj 2), 2, .inl (fun _ => 0))), ((bb 3), .inl ((jj 3), 2, .inl (fun _ => 0))), ((bb 4), .inl ((jj 4), 2, .inl begF)), ((bb 5), .inl ((jj 5), 900, .inl (fun _ => 0)))]) hD hS hA [10, 11, 12, 13, 14, 15] rfl
  refine va_calli (va_runV (As := [.int (xs (1 : Int32).toNatClampNeg), .int (xs (2 : Int32).toNatClampNeg)]) (rest := [.int (-1)]) ⟨hx, hb, hml, hown, hts⟩ (c_X9_place l dC dI _ bb jj (xs (1 : Int32).toNatClampNeg) (xs (2 : Int32).toNatClampNeg)) (cwV 2 hts g_L_X9_place rfl rfl rfl (by decide +kernel) ⟨Nat.le_of_ble_eq_true rfl, Nat.le_of_ble_eq_true rfl⟩) ⟨pu_bl, va_recv hK hP (ci := 9) (q0 := 10) rfl rfl, pu_in (hP.sub [10, 11, 12, 13, 14, 15] rfl) (hK.sub [4, 5, 6, 7, 8] rfl) (hD.sub [10, 11, 12, 13, 14, 15] (by decide) rfl)⟩ rfl rfl hl.1 rfl (lv_room (Nat.le_of_ble_eq_true rfl)) dL_law_406 ⟨Nat.le_of_ble_eq_true rfl, Nat.le_of_ble_eq_true rfl⟩) hS (fun q _ h => hFc q h) hFc (fun r_6 u t H1 locs ht hvm hw hB hz1 hk1 hS => ?_)
  obtain ⟨hP, hD⟩ := va_join (wr := [((aa 0), .inr (8, [.ref (aa 6), .int 0, .ref (aa 4), .ref (aa 1), .ref (aa 5), .ref (aa 2), .ref (aa 10), .int 0, .ref (aa 11), .ref (aa 12), .int 0, .ref (aa 13), .ref (aa 14), .ref (aa 3), .ref (aa 15), .ref (aa 16)])), ((aa 1), .inr (0, [.int 0, .int 0, .int 0, .int (-1), .ref (aa 20), .ref (aa 21), .ref (aa 22), .ref (aa 23), .ref (aa 7), .ref (aa 24), .ref (aa 25), .ref (aa 26), .ref (aa 27), .ref (aa 28), .ref (aa 29), .ref (aa 30), .ref (aa 31)])), ((aa 2), .inr (2, [.int 0, .ref (aa 60), .ref (aa 61)])), ((aa 3), .inr (3, [.int 0, .int 0, .int 0, .ref (aa 62), .ref (aa 63)])), ((aa 4), .inr (4, [.int 0, .int (-1), .null, .int 0, .int 0, .int 0, .int 0, .int 0, .null, .ref (aa 64), .ref (aa 65), .ref (aa 66)])), ((aa 5), .inr (0, [.int 0, .int 0, .int 0, .int (-1), .ref (aa 8), .ref (aa 41), .ref (aa 42), .ref (aa 43), .ref (aa 9), .ref (aa 44), .ref (aa 45), .ref (aa 46), .ref (aa 47), .ref (aa 48), .ref (aa 49), .ref (aa 50), .ref (aa 51)])), ((aa 6), .inl ((kk 0), 900, .inl (fun _ => 0))), ((aa 7), .inl ((kk 1), 22, .inl (fun _ => 0))), ((aa 8), .inl ((kk 2), 8, .inl (fun _ => 0))), ((aa 9), .inl ((kk 3), 22, .inl (fun _ => 0)))]) (w1 := []) hP hD [10, 11, 12, 13, 14, 15] [0, 1, 2, 3, 4, 5, 6, 7, 8, 9] rfl rfl (by decide) (by decide) hk1 hFc pu_P0 pu_D0
  clear hk1 hz1 ht hvm
  generalize H1 = H at hP hS ⊢
  have hP : va_P (dC, dI) vwCl [((aa 0), .inr (8, [.ref (aa 6), .int 0, .ref (aa 4), .ref (aa 1), .ref (aa 5), .ref (aa 2), .ref (aa 10), .int 0, .ref (aa 11), .ref (aa 12), .int 0, .ref (aa 13), .ref (aa 14), .ref (aa 3), .ref (aa 15), .ref (aa 16)])), ((aa 1), .inr (0, [.int 0, .int 0, .int 0, .int (-1), .ref (aa 20), .ref (aa 21), .ref (aa 22), .ref (aa 23), .ref (aa 7), .ref (aa 24), .ref (aa 25), .ref (aa 26), .ref (aa 27), .ref (aa 28), .ref (aa 29), .ref (aa 30), .ref (aa 31)])), ((aa 2), .inr (2, [.int 0, .ref (aa 60), .ref (aa 61)])), ((aa 3), .inr (3, [.int 0, .int 0, .int 0, .ref (aa 62), .ref (aa 63)])), ((aa 4), .inr (4, [.int 0, .int (-1), .null, .int 0, .int 0, .int 0, .int 0, .int 0, .null, .ref (aa 64), .ref (aa 65), .ref (aa 66)])), ((aa 5), .inr (0, [.int 0, .int 0, .int 0, .int (-1), .ref (aa 8), .ref (aa 41), .ref (aa 42), .ref (aa 43), .ref (aa 9), .ref (aa 44), .ref (aa 45), .ref (aa 46), .ref (aa 47), .ref (aa 48), .ref (aa 49), .ref (aa 50), .ref (aa 51)])), ((aa 6), .inl ((kk 0), 900, .inl (fun _ => 0))), ((aa 7), .inl ((kk 1), 22, .inl (fun _ => 0))), ((aa 8), .inl ((kk 2), 8, .inl (fun _ => 0))), ((aa 9), .inl ((kk 3), 22, .inl (fun _ => 0)))] H := hP
  have hD : va_D A [((aa 0), .inr (8, [.ref (aa 6), .int 0, .ref (aa 4), .ref (aa 1), .ref (aa 5), .ref (aa 2), .ref (aa 10), .int 0, .ref (aa 11), .ref (aa 12), .int 0, .ref (aa 13), .ref (aa 14), .ref (aa 3), .ref (aa 15), .ref (aa 16)])), ((aa 1), .inr (0, [.int 0, .int 0, .int 0, .int (-1), .ref (aa 20), .ref (aa 21), .ref (aa 22), .ref (aa 23), .ref (aa 7), .ref (aa 24), .ref (aa 25), .ref (aa 26), .ref (aa 27), .ref (aa 28), .ref (aa 29), .ref (aa 30), .ref (aa 31)])), ((aa 2), .inr (2, [.int 0, .ref (aa 60), .ref (aa 61)])), ((aa 3), .inr (3, [.int 0, .int 0, .int 0, .ref (aa 62), .ref (aa 63)])), ((aa 4), .inr (4, [.int 0, .int (-1), .null, .int 0, .int 0, .int 0, .int 0, .int 0, .null, .ref (aa 64), .ref (aa 65), .ref (aa 66)])), ((aa 5), .inr (0, [.int 0, .int 0, .int 0, .int (-1), .ref (aa 8), .ref (aa 41), .ref (aa 42), .ref (aa 43), .ref (aa 9), .ref (aa 44), .ref (aa 45), .ref (aa 46), .ref (aa 47), .ref (aa 48), .ref (aa 49), .ref (aa 50), .ref (aa 51)])), ((aa 6), .inl ((kk 0), 900, .inl (fun _ => 0))), ((aa 7), .inl ((kk 1), 22, .inl (fun _ => 0))), ((aa 8), .inl ((kk 2), 8, .inl (fun _ => 0))), ((aa 9), .inl ((kk 3), 22, .inl (fun _ => 0)))] := hD
  obtain rfl : r_6 = (-1) := hw
  refine lv_icmp_eq (tgt := 1725) hx hb dL_law_409 (by decide) (fun _ => ?_) (fun z => absurd z (by decide))
  exact law_tail l C0 hA hAs hS (lv_sub hl [0, 4] rfl) (Nat.le_of_ble_eq_true rfl) (Nat.le_of_ble_eq_true rfl)
set_option maxHeartbeats 4000000 in
set_option maxRecDepth 100000 in
theorem law_case_6 {p : Program} {e : Env} {s : State} {m : MethodId} {below : List Frame} {meth : Method} {c : Code} (l : Launch) (hlt : l.stackTraces = false) {b : Nat} {xs : Nat → Int32} (C0 : lw_At p s m meth c b 7 xs) {A : Nat → Prop} (hA : ∀ q : Nat, s.heap.size ≤ q → A q) (hAs : ∀ q : Nat, A q → s.heap.size ≤ q) (hY : sy_E A s s.heap) {dC : Nat → ClassId} {dI : Nat → Nat → Nat} (aa bb : Nat → Nat) (kk jj : Nat → ClassId) (qo : Nat) (H : Heap) (locs : List Loc) (hK : va_K (dC, dI) vwCl (tX kk ++ tM jj) s) (hP : va_P (dC, dI) vwCl (wX aa kk ++ wM bb jj) H) (hD : va_D A (wX aa kk ++ wM bb jj)) (hS : va_S A s.heap H locs) (ls : Array Slot) (hl : lv_has ls 7 [(0, .ref b), (1, .ref (aa 0)), (2, .ref (bb 0)), (3, .ref qo), (4, .int 0)]) : W p l e room_1 s m #[Value.ref b] below meth c H locs 1717 133609 (lw_Z below #[Value.ref b] s) (F0 m 414 ls []) := by
  obtain ⟨hx, hb, hr, hml, hown0, hts0, hX, hbl, hlocks, hgv⟩ := id C0
  have hown : s.vm.findClass RL = some m.cls := hown0
  have hts : ∀ w ∈ vsL, w.before #[Value.ref b] s = true := fun w h => hts0 w (vsL_in w h)
  have hbA : ¬ A b := fun h => absurd (hAs b h) (Nat.not_le.mpr hbl)
  refine lv_aload_n hx hb dL_law_414 rfl (lv_at hl 1 rfl) ?_
  refine lv_aload_n hx hb dL_law_415 rfl (lv_at hl 0 rfl) ?_
  refine lv_iload hx hb dL_law_416 (lv_at hl 4 rfl) ?_
  refine lv_iconst (v := 1) hx hb dL_law_418 (by decide) ?_
  refine lv_iadd hx hb dL_law_419 ?_
  refine lv_topi (fun y_1 ey_1 => ?_)
  obtain rfl : y_1 = 1 := ey_1.trans (by decide)
  refine va_sld hx hb hX hbl hbA hS (show ¬ (_ ∨ _) by decide) dL_law_420 ?_
  refine lv_aload_n hx hb dL_law_421 rfl (lv_at hl 0 rfl) ?_
  refine lv_iload hx hb dL_law_422 (lv_at hl 4 rfl) ?_
  refine lv_iconst (v := 2) hx hb dL_law_424 (by decide) ?_
  refine lv_iadd hx hb dL_law_425 ?_
  refine lv_topi (fun y_2 ey_2 => ?_)
  obtain rfl : y_2 = 2 := ey_2.trans (by decide)
  refine va_sld hx hb hX hbl hbA hS (show ¬ (_ ∨ _) by decide) dL_law_426 ?_
  refine va_calli (va_runV (As := [.int (xs (1 : Int32).toNatClampNeg), .int (xs (2 : Int32).toNatClampNeg)]) (rest := []) ⟨hx, hb, hml, hown, hts⟩ (c_X8_edge l dC dI _ aa kk (xs (1 : Int32).toNatClampNeg) (xs (2 : Int32).toNatClampNeg)) (cwV 2 hts g_L_X8_edge rfl rfl rfl (by decide +kernel) ⟨Nat.le_of_ble_eq_true rfl, Nat.le_of_ble_eq_true rfl⟩) ⟨pu_bl, va_recv hK hP (ci := 8) (q0 := 0) rfl rfl, pu_in (hP.sub [0, 1, 2, 3, 4, 5, 6, 7, 8, 9] rfl) (hK.sub [0, 1, 2, 3] rfl) (hD.sub [0, 1, 2, 3, 4, 5, 6, 7, 8, 9] (by decide) rfl)⟩ rfl rfl hl.1 rfl (lv_room (Nat.le_of_ble_eq_true rfl)) dL_law_427 ⟨Nat.le_of_ble_eq_true rfl, Nat.le_of_ble_eq_true rfl⟩) hS (fun q _ h => pu_fr hS hA q h) (pu_fr hS hA) (fun r_3 u t H1 locs ht hvm hw hB hz1 hk1 hS => ?_)
  have hP := pu_keep hP hk1
  clear hk1 hz1 ht hvm
  generalize H1 = H at hP hS ⊢
  obtain rfl : r_3 = (-1) := hw
  refine lv_aload_n hx hb dL_law_430 rfl (lv_at hl 2 rfl) ?_
  refine lv_aload_n hx hb dL_law_431 rfl (lv_at hl 0 rfl) ?_
  refine lv_iload hx hb dL_law_432 (lv_at hl 4 rfl) ?_
  refine lv_iconst (v := 1) hx hb dL_law_434 (by decide) ?_
  refine lv_iadd hx hb dL_law_435 ?_
  refine lv_topi (fun y_4 ey_4 => ?_)
  obtain rfl : y_4 = 1 := ey_4.trans (by decide)
  refine va_sld hx hb hX hbl hbA hS (show ¬ (_ ∨ _) by decide) dL_law_436 ?_
  refine lv_aload_n hx hb dL_law_437 rfl (lv_at hl 0 rfl) ?_
  refine lv_iload hx hb dL_law_438 (lv_at hl 4 rfl) ?_
  refine lv_iconst (v := 2) hx hb dL_law_440 (by decide) ?_
  refine lv_iadd hx hb dL_law_441 ?_
  refine lv_topi (fun y_5 ey_5 => ?_)
  obtain rfl : y_5 = 2 := ey_5.trans (by decide)
  refine va_sld hx hb hX hbl hbA hS (show ¬ (_ ∨ _) by decide) dL_law_442 ?_
  have hFc := va_free (wc := [((bb 0), .inr (9, [.int 0, .ref (bb 10), .ref (bb 11), .ref (bb 12), .ref (bb 13), .ref (bb 14), .ref (bb 15), .ref (bb 16), .ref (bb 17), .ref (bb 18), .ref (bb 19), .ref (bb 20), .ref (bb 1), .ref (bb 2), .ref (bb 3), .ref (bb 4), .int 0, .ref (bb 5), .int 0, .int 0, .int 0, .int 0, .int 0, .int 0, .int 0, .int (-1), .int 0, .int 0, .int 0, .int 0, .int 0, .ref (bb 21), .ref (bb 22), .int 0, .ref (bb 23), .ref (bb 24), .ref (bb 25), .ref (bb 26), .ref (bb 27), .ref (bb 28), .ref (bb 29), .ref (bb 30), .ref (bb 31), .ref (bb 32), .ref (bb 33), .int 0, .int 0, .ref (bb 34), .ref (bb 35), .ref (bb 36), .ref (bb 37), .ref (bb 38), .int 0, .int 0, .ref (bb 39), .ref (bb 40), .ref (bb 41), .ref (bb 42), .ref (bb 43), .ref (bb 44), .ref (bb 45), .int 0, .int 0, .int 0, .ref (bb 46), .int 0, .int 0])), ((bb 1), .inl ((jj 1), 2, .inl (fun _ => 0))), ((bb 2), .inl ((jj 2), 2, .inl (fun _ => 0))), ((bb 3), .inl ((jj 3), 2, .inl (fun _ => 0))), ((bb 4), .inl ((jj 4), 2, .inl begF)), ((bb 5), .inl ((jj 5), 900, .inl (fun _ => 0)))]) hD hS hA [10, 11, 12, 13, 14, 15] rfl
  refine va_calli (va_runV (As := [.int (xs (1 : Int32).toNatClampNeg), .int (xs (2 : Int32).toNatClampNeg)]) (rest := [.int (-1)]) ⟨hx, hb, hml, hown, hts⟩ (c_X9_edge l dC dI _ bb jj (xs (1 : Int32).toNatClampNeg) (xs (2 : Int32).toNatClampNeg)) (cwV 2 hts g_L_X9_edge rfl rfl rfl (by decide +kernel) ⟨Nat.le_of_ble_eq_true rfl, Nat.le_of_ble_eq_true rfl⟩) ⟨pu_bl, va_recv hK hP (ci := 9) (q0 := 10) rfl rfl, pu_in (hP.sub [10, 11, 12, 13, 14, 15] rfl) (hK.sub [4, 5, 6, 7, 8] rfl) (hD.sub [10, 11, 12, 13, 14, 15] (by decide) rfl)⟩ rfl rfl hl.1 rfl (lv_room (Nat.le_of_ble_eq_true rfl)) dL_law_443 ⟨Nat.le_of_ble_eq_true rfl, Nat.le_of_ble_eq_true rfl⟩) hS (fun q _ h => hFc q h) hFc (fun r_6 u t H1 locs ht hvm hw hB hz1 hk1 hS => ?_)
  obtain ⟨hP, hD⟩ := va_join (wr := [((aa 0), .inr (8, [.ref (aa 6), .int 0, .ref (aa 4), .ref (aa 1), .ref (aa 5), .ref (aa 2), .ref (aa 10), .int 0, .ref (aa 11), .ref (aa 12), .int 0, .ref (aa 13), .ref (aa 14), .ref (aa 3), .ref (aa 15), .ref (aa 16)])), ((aa 1), .inr (0, [.int 0, .int 0, .int 0, .int (-1), .ref (aa 20), .ref (aa 21), .ref (aa 22), .ref (aa 23), .ref (aa 7), .ref (aa 24), .ref (aa 25), .ref (aa 26), .ref (aa 27), .ref (aa 28), .ref (aa 29), .ref (aa 30), .ref (aa 31)])), ((aa 2), .inr (2, [.int 0, .ref (aa 60), .ref (aa 61)])), ((aa 3), .inr (3, [.int 0, .int 0, .int 0, .ref (aa 62), .ref (aa 63)])), ((aa 4), .inr (4, [.int 0, .int (-1), .null, .int 0, .int 0, .int 0, .int 0, .int 0, .null, .ref (aa 64), .ref (aa 65), .ref (aa 66)])), ((aa 5), .inr (0, [.int 0, .int 0, .int 0, .int (-1), .ref (aa 8), .ref (aa 41), .ref (aa 42), .ref (aa 43), .ref (aa 9), .ref (aa 44), .ref (aa 45), .ref (aa 46), .ref (aa 47), .ref (aa 48), .ref (aa 49), .ref (aa 50), .ref (aa 51)])), ((aa 6), .inl ((kk 0), 900, .inl (fun _ => 0))), ((aa 7), .inl ((kk 1), 22, .inl (fun _ => 0))), ((aa 8), .inl ((kk 2), 8, .inl (fun _ => 0))), ((aa 9), .inl ((kk 3), 22, .inl (fun _ => 0)))]) (w1 := []) hP hD [10, 11, 12, 13, 14, 15] [0, 1, 2, 3, 4, 5, 6, 7, 8, 9] rfl rfl (by decide) (by decide) hk1 hFc pu_P0 pu_D0
  clear hk1 hz1 ht hvm
  generalize H1 = H at hP hS ⊢
  have hP : va_P (dC, dI) vwCl [((aa 0), .inr (8, [.ref (aa 6), .int 0, .ref (aa 4), .ref (aa 1), .ref (aa 5), .ref (aa 2), .ref (aa 10), .int 0, .ref (aa 11), .ref (aa 12), .int 0, .ref (aa 13), .ref (aa 14), .ref (aa 3), .ref (aa 15), .ref (aa 16)])), ((aa 1), .inr (0, [.int 0, .int 0, .int 0, .int (-1), .ref (aa 20), .ref (aa 21), .ref (aa 22), .ref (aa 23), .ref (aa 7), .ref (aa 24), .ref (aa 25), .ref (aa 26), .ref (aa 27), .ref (aa 28), .ref (aa 29), .ref (aa 30), .ref (aa 31)])), ((aa 2), .inr (2, [.int 0, .ref (aa 60), .ref (aa 61)])), ((aa 3), .inr (3, [.int 0, .int 0, .int 0, .ref (aa 62), .ref (aa 63)])), ((aa 4), .inr (4, [.int 0, .int (-1), .null, .int 0, .int 0, .int 0, .int 0, .int 0, .null, .ref (aa 64), .ref (aa 65), .ref (aa 66)])), ((aa 5), .inr (0, [.int 0, .int 0, .int 0, .int (-1), .ref (aa 8), .ref (aa 41), .ref (aa 42), .ref (aa 43), .ref (aa 9), .ref (aa 44), .ref (aa 45), .ref (aa 46), .ref (aa 47), .ref (aa 48), .ref (aa 49), .ref (aa 50), .ref (aa 51)])), ((aa 6), .inl ((kk 0), 900, .inl (fun _ => 0))), ((aa 7), .inl ((kk 1), 22, .inl (fun _ => 0))), ((aa 8), .inl ((kk 2), 8, .inl (fun _ => 0))), ((aa 9), .inl ((kk 3), 22, .inl (fun _ => 0)))] H := hP
  have hD : va_D A [((aa 0), .inr (8, [.ref (aa 6), .int 0, .ref (aa 4), .ref (aa 1), .ref (aa 5), .ref (aa 2), .ref (aa 10), .int 0, .ref (aa 11), .ref (aa 12), .int 0, .ref (aa 13), .ref (aa 14), .ref (aa 3), .ref (aa 15), .ref (aa 16)])), ((aa 1), .inr (0, [.int 0, .int 0, .int 0, .int (-1), .ref (aa 20), .ref (aa 21), .ref (aa 22), .ref (aa 23), .ref (aa 7), .ref (aa 24), .ref (aa 25), .ref (aa 26), .ref (aa 27), .ref (aa 28), .ref (aa 29), .ref (aa 30), .ref (aa 31)])), ((aa 2), .inr (2, [.int 0, .ref (aa 60), .ref (aa 61)])), ((aa 3), .inr (3, [.int 0, .int 0, .int 0, .ref (aa 62), .ref (aa 63)])), ((aa 4), .inr (4, [.int 0, .int (-1), .null, .int 0, .int 0, .int 0, .int 0, .int 0, .null, .ref (aa 64), .ref (aa 65), .ref (aa 66)])), ((aa 5), .inr (0, [.int 0, .int 0, .int 0, .int (-1), .ref (aa 8), .ref (aa 41), .ref (aa 42), .ref (aa 43), .ref (aa 9), .ref (aa 44), .ref (aa 45), .ref (aa 46), .ref (aa 47), .ref (aa 48), .ref (aa 49), .ref (aa 50), .ref (aa 51)])), ((aa 6), .inl ((kk 0), 900, .inl (fun _ => 0))), ((aa 7), .inl ((kk 1), 22, .inl (fun _ => 0))), ((aa 8), .inl ((kk 2), 8, .inl (fun _ => 0))), ((aa 9), .inl ((kk 3), 22, .inl (fun _ => 0)))] := hD
  obtain rfl : r_6 = (-1) := hw
  refine lv_icmp_eq (tgt := 1725) hx hb dL_law_446 (by decide) (fun _ => ?_) (fun z => absurd z (by decide))
  exact law_tail l C0 hA hAs hS (lv_sub hl [0, 4] rfl) (Nat.le_of_ble_eq_true rfl) (Nat.le_of_ble_eq_true rfl)
set_option maxHeartbeats 4000000 in
set_option maxRecDepth 100000 in
theorem law_case_7 {p : Program} {e : Env} {s : State} {m : MethodId} {below : List Frame} {meth : Method} {c : Code} (l : Launch) (hlt : l.stackTraces = false) {b : Nat} {xs : Nat → Int32} (C0 : lw_At p s m meth c b 7 xs) {A : Nat → Prop} (hA : ∀ q : Nat, s.heap.size ≤ q → A q) (hAs : ∀ q : Nat, A q → s.heap.size ≤ q) (hY : sy_E A s s.heap) {dC : Nat → ClassId} {dI : Nat → Nat → Nat} (aa bb : Nat → Nat) (kk jj : Nat → ClassId) (qo : Nat) (H : Heap) (locs : List Loc) (hK : va_K (dC, dI) vwCl (tX kk ++ tM jj) s) (hP : va_P (dC, dI) vwCl (wX aa kk ++ wM bb jj) H) (hD : va_D A (wX aa kk ++ wM bb jj)) (hS : va_S A s.heap H locs) (ls : Array Slot) (hl : lv_has ls 7 [(0, .ref b), (1, .ref (aa 0)), (2, .ref (bb 0)), (3, .ref qo), (4, .int 0)]) : W p l e room_1 s m #[Value.ref b] below meth c H locs 1717 133609 (lw_Z below #[Value.ref b] s) (F0 m 451 ls []) := by
  obtain ⟨hx, hb, hr, hml, hown0, hts0, hX, hbl, hlocks, hgv⟩ := id C0
  have hown : s.vm.findClass RL = some m.cls := hown0
  have hts : ∀ w ∈ vsL, w.before #[Value.ref b] s = true := fun w h => hts0 w (vsL_in w h)
  have hbA : ¬ A b := fun h => absurd (hAs b h) (Nat.not_le.mpr hbl)
  refine lv_aload_n hx hb dL_law_451 rfl (lv_at hl 1 rfl) ?_
  refine lv_aload_n hx hb dL_law_452 rfl (lv_at hl 0 rfl) ?_
  refine lv_iload hx hb dL_law_453 (lv_at hl 4 rfl) ?_
  refine lv_iconst (v := 1) hx hb dL_law_455 (by decide) ?_
  refine lv_iadd hx hb dL_law_456 ?_
  refine lv_topi (fun y_1 ey_1 => ?_)
  obtain rfl : y_1 = 1 := ey_1.trans (by decide)
  refine va_sld hx hb hX hbl hbA hS (show ¬ (_ ∨ _) by decide) dL_law_457 ?_
  refine lv_aload_n hx hb dL_law_458 rfl (lv_at hl 0 rfl) ?_
  refine lv_iload hx hb dL_law_459 (lv_at hl 4 rfl) ?_
  refine lv_iconst (v := 2) hx hb dL_law_461 (by decide) ?_
  refine lv_iadd hx hb dL_law_462 ?_
  refine lv_topi (fun y_2 ey_2 => ?_)
  obtain rfl : y_2 = 2 := ey_2.trans (by decide)
  refine va_sld hx hb hX hbl hbA hS (show ¬ (_ ∨ _) by decide) dL_law_463 ?_
  refine lv_aload_n hx hb dL_law_464 rfl (lv_at hl 0 rfl) ?_
  refine lv_iload hx hb dL_law_465 (lv_at hl 4 rfl) ?_
  refine lv_iconst (v := 3) hx hb dL_law_467 (by decide) ?_
  refine lv_iadd hx hb dL_law_468 ?_
  refine lv_topi (fun y_3 ey_3 => ?_)
  obtain rfl : y_3 = 3 := ey_3.trans (by decide)
  refine va_sld hx hb hX hbl hbA hS (show ¬ (_ ∨ _) by decide) dL_law_469 ?_
  refine va_calli (va_runV (As := [.int (xs (1 : Int32).toNatClampNeg), .int (xs (2 : Int32).toNatClampNeg), .int (xs (3 : Int32).toNatClampNeg)]) (rest := []) ⟨hx, hb, hml, hown, hts⟩ (c_X8_condition l dC dI _ aa kk (xs (1 : Int32).toNatClampNeg) (xs (2 : Int32).toNatClampNeg) (xs (3 : Int32).toNatClampNeg)) (cwV 3 hts g_L_X8_condition rfl rfl rfl (by decide +kernel) ⟨Nat.le_of_ble_eq_true rfl, Nat.le_of_ble_eq_true rfl⟩) ⟨pu_bl, va_recv hK hP (ci := 8) (q0 := 0) rfl rfl, pu_in (hP.sub [0, 1, 2, 3, 4, 5, 6, 7, 8, 9] rfl) (hK.sub [0, 1, 2, 3] rfl) (hD.sub [0, 1, 2, 3, 4, 5, 6, 7, 8, 9] (by decide) rfl)⟩ rfl rfl hl.1 rfl (lv_room (Nat.le_of_ble_eq_true rfl)) dL_law_470 ⟨Nat.le_of_ble_eq_true rfl, Nat.le_of_ble_eq_true rfl⟩) hS (fun q _ h => pu_fr hS hA q h) (pu_fr hS hA) (fun r_4 u t H1 locs ht hvm hw hB hz1 hk1 hS => ?_)
  have hP := pu_keep hP hk1
  clear hk1 hz1 ht hvm
  generalize H1 = H at hP hS ⊢
  obtain rfl : r_4 = (-1) := hw
  refine lv_aload_n hx hb dL_law_473 rfl (lv_at hl 2 rfl) ?_
  refine lv_aload_n hx hb dL_law_474 rfl (lv_at hl 0 rfl) ?_
  refine lv_iload hx hb dL_law_475 (lv_at hl 4 rfl) ?_
  refine lv_iconst (v := 1) hx hb dL_law_477 (by decide) ?_
  refine lv_iadd hx hb dL_law_478 ?_
  refine lv_topi (fun y_5 ey_5 => ?_)
  obtain rfl : y_5 = 1 := ey_5.trans (by decide)
  refine va_sld hx hb hX hbl hbA hS (show ¬ (_ ∨ _) by decide) dL_law_479 ?_
  refine lv_aload_n hx hb dL_law_480 rfl (lv_at hl 0 rfl) ?_
  refine lv_iload hx hb dL_law_481 (lv_at hl 4 rfl) ?_
  refine lv_iconst (v := 2) hx hb dL_law_483 (by decide) ?_
  refine lv_iadd hx hb dL_law_484 ?_
  refine lv_topi (fun y_6 ey_6 => ?_)
  obtain rfl : y_6 = 2 := ey_6.trans (by decide)
  refine va_sld hx hb hX hbl hbA hS (show ¬ (_ ∨ _) by decide) dL_law_485 ?_
  refine lv_aload_n hx hb dL_law_486 rfl (lv_at hl 0 rfl) ?_
  refine lv_iload hx hb dL_law_487 (lv_at hl 4 rfl) ?_
  refine lv_iconst (v := 3) hx hb dL_law_489 (by decide) ?_
  refine lv_iadd hx hb dL_law_490 ?_
  refine lv_topi (fun y_7 ey_7 => ?_)
  obtain rfl : y_7 = 3 := ey_7.trans (by decide)
  refine va_sld hx hb hX hbl hbA hS (show ¬ (_ ∨ _) by decide) dL_law_491 ?_
  have hFc := va_free (wc := [((bb 0), .inr (9, [.int 0, .ref (bb 10), .ref (bb 11), .ref (bb 12), .ref (bb 13), .ref (bb 14), .ref (bb 15), .ref (bb 16), .ref (bb 17), .ref (bb 18), .ref (bb 19), .ref (bb 20), .ref (bb 1), .ref (bb 2), .ref (bb 3), .ref (bb 4), .int 0, .ref (bb 5), .int 0, .int 0, .int 0, .int 0, .int 0, .int 0, .int 0, .int (-1), .int 0, .int 0, .int 0, .int 0, .int 0, .ref (bb 21), .ref (bb 22), .int 0, .ref (bb 23), .ref (bb 24), .ref (bb 25), .ref (bb 26), .ref (bb 27), .ref (bb 28), .ref (bb 29), .ref (bb 30), .ref (bb 31), .ref (bb 32), .ref (bb 33), .int 0, .int 0, .ref (bb 34), .ref (bb 35), .ref (bb 36), .ref (bb 37), .ref (bb 38), .int 0, .int 0, .ref (bb 39), .ref (bb 40), .ref (bb 41), .ref (bb 42), .ref (bb 43), .ref (bb 44), .ref (bb 45), .int 0, .int 0, .int 0, .ref (bb 46), .int 0, .int 0])), ((bb 1), .inl ((jj 1), 2, .inl (fun _ => 0))), ((bb 2), .inl ((jj 2), 2, .inl (fun _ => 0))), ((bb 3), .inl ((jj 3), 2, .inl (fun _ => 0))), ((bb 4), .inl ((jj 4), 2, .inl begF)), ((bb 5), .inl ((jj 5), 900, .inl (fun _ => 0)))]) hD hS hA [10, 11, 12, 13, 14, 15] rfl
  refine va_calli (va_runV (As := [.int (xs (1 : Int32).toNatClampNeg), .int (xs (2 : Int32).toNatClampNeg), .int (xs (3 : Int32).toNatClampNeg)]) (rest := [.int (-1)]) ⟨hx, hb, hml, hown, hts⟩ (c_X9_condition l dC dI _ bb jj (xs (1 : Int32).toNatClampNeg) (xs (2 : Int32).toNatClampNeg) (xs (3 : Int32).toNatClampNeg)) (cwV 3 hts g_L_X9_condition rfl rfl rfl (by decide +kernel) ⟨Nat.le_of_ble_eq_true rfl, Nat.le_of_ble_eq_true rfl⟩) ⟨pu_bl, va_recv hK hP (ci := 9) (q0 := 10) rfl rfl, pu_in (hP.sub [10, 11, 12, 13, 14, 15] rfl) (hK.sub [4, 5, 6, 7, 8] rfl) (hD.sub [10, 11, 12, 13, 14, 15] (by decide) rfl)⟩ rfl rfl hl.1 rfl (lv_room (Nat.le_of_ble_eq_true rfl)) dL_law_492 ⟨Nat.le_of_ble_eq_true rfl, Nat.le_of_ble_eq_true rfl⟩) hS (fun q _ h => hFc q h) hFc (fun r_8 u t H1 locs ht hvm hw hB hz1 hk1 hS => ?_)
  obtain ⟨hP, hD⟩ := va_join (wr := [((aa 0), .inr (8, [.ref (aa 6), .int 0, .ref (aa 4), .ref (aa 1), .ref (aa 5), .ref (aa 2), .ref (aa 10), .int 0, .ref (aa 11), .ref (aa 12), .int 0, .ref (aa 13), .ref (aa 14), .ref (aa 3), .ref (aa 15), .ref (aa 16)])), ((aa 1), .inr (0, [.int 0, .int 0, .int 0, .int (-1), .ref (aa 20), .ref (aa 21), .ref (aa 22), .ref (aa 23), .ref (aa 7), .ref (aa 24), .ref (aa 25), .ref (aa 26), .ref (aa 27), .ref (aa 28), .ref (aa 29), .ref (aa 30), .ref (aa 31)])), ((aa 2), .inr (2, [.int 0, .ref (aa 60), .ref (aa 61)])), ((aa 3), .inr (3, [.int 0, .int 0, .int 0, .ref (aa 62), .ref (aa 63)])), ((aa 4), .inr (4, [.int 0, .int (-1), .null, .int 0, .int 0, .int 0, .int 0, .int 0, .null, .ref (aa 64), .ref (aa 65), .ref (aa 66)])), ((aa 5), .inr (0, [.int 0, .int 0, .int 0, .int (-1), .ref (aa 8), .ref (aa 41), .ref (aa 42), .ref (aa 43), .ref (aa 9), .ref (aa 44), .ref (aa 45), .ref (aa 46), .ref (aa 47), .ref (aa 48), .ref (aa 49), .ref (aa 50), .ref (aa 51)])), ((aa 6), .inl ((kk 0), 900, .inl (fun _ => 0))), ((aa 7), .inl ((kk 1), 22, .inl (fun _ => 0))), ((aa 8), .inl ((kk 2), 8, .inl (fun _ => 0))), ((aa 9), .inl ((kk 3), 22, .inl (fun _ => 0)))]) (w1 := []) hP hD [10, 11, 12, 13, 14, 15] [0, 1, 2, 3, 4, 5, 6, 7, 8, 9] rfl rfl (by decide) (by decide) hk1 hFc pu_P0 pu_D0
  clear hk1 hz1 ht hvm
  generalize H1 = H at hP hS ⊢
  have hP : va_P (dC, dI) vwCl [((aa 0), .inr (8, [.ref (aa 6), .int 0, .ref (aa 4), .ref (aa 1), .ref (aa 5), .ref (aa 2), .ref (aa 10), .int 0, .ref (aa 11), .ref (aa 12), .int 0, .ref (aa 13), .ref (aa 14), .ref (aa 3), .ref (aa 15), .ref (aa 16)])), ((aa 1), .inr (0, [.int 0, .int 0, .int 0, .int (-1), .ref (aa 20), .ref (aa 21), .ref (aa 22), .ref (aa 23), .ref (aa 7), .ref (aa 24), .ref (aa 25), .ref (aa 26), .ref (aa 27), .ref (aa 28), .ref (aa 29), .ref (aa 30), .ref (aa 31)])), ((aa 2), .inr (2, [.int 0, .ref (aa 60), .ref (aa 61)])), ((aa 3), .inr (3, [.int 0, .int 0, .int 0, .ref (aa 62), .ref (aa 63)])), ((aa 4), .inr (4, [.int 0, .int (-1), .null, .int 0, .int 0, .int 0, .int 0, .int 0, .null, .ref (aa 64), .ref (aa 65), .ref (aa 66)])), ((aa 5), .inr (0, [.int 0, .int 0, .int 0, .int (-1), .ref (aa 8), .ref (aa 41), .ref (aa 42), .ref (aa 43), .ref (aa 9), .ref (aa 44), .ref (aa 45), .ref (aa 46), .ref (aa 47), .ref (aa 48), .ref (aa 49), .ref (aa 50), .ref (aa 51)])), ((aa 6), .inl ((kk 0), 900, .inl (fun _ => 0))), ((aa 7), .inl ((kk 1), 22, .inl (fun _ => 0))), ((aa 8), .inl ((kk 2), 8, .inl (fun _ => 0))), ((aa 9), .inl ((kk 3), 22, .inl (fun _ => 0)))] H := hP
  have hD : va_D A [((aa 0), .inr (8, [.ref (aa 6), .int 0, .ref (aa 4), .ref (aa 1), .ref (aa 5), .ref (aa 2), .ref (aa 10), .int 0, .ref (aa 11), .ref (aa 12), .int 0, .ref (aa 13), .ref (aa 14), .ref (aa 3), .ref (aa 15), .ref (aa 16)])), ((aa 1), .inr (0, [.int 0, .int 0, .int 0, .int (-1), .ref (aa 20), .ref (aa 21), .ref (aa 22), .ref (aa 23), .ref (aa 7), .ref (aa 24), .ref (aa 25), .ref (aa 26), .ref (aa 27), .ref (aa 28), .ref (aa 29), .ref (aa 30), .ref (aa 31)])), ((aa 2), .inr (2, [.int 0, .ref (aa 60), .ref (aa 61)])), ((aa 3), .inr (3, [.int 0, .int 0, .int 0, .ref (aa 62), .ref (aa 63)])), ((aa 4), .inr (4, [.int 0, .int (-1), .null, .int 0, .int 0, .int 0, .int 0, .int 0, .null, .ref (aa 64), .ref (aa 65), .ref (aa 66)])), ((aa 5), .inr (0, [.int 0, .int 0, .int 0, .int (-1), .ref (aa 8), .ref (aa 41), .ref (aa 42), .ref (aa 43), .ref (aa 9), .ref (aa 44), .ref (aa 45), .ref (aa 46), .ref (aa 47), .ref (aa 48), .ref (aa 49), .ref (aa 50), .ref (aa 51)])), ((aa 6), .inl ((kk 0), 900, .inl (fun _ => 0))), ((aa 7), .inl ((kk 1), 22, .inl (fun _ => 0))), ((aa 8), .inl ((kk 2), 8, .inl (fun _ => 0))), ((aa 9), .inl ((kk 3), 22, .inl (fun _ => 0)))] := hD
  obtain rfl : r_8 = (-1) := hw
  refine lv_icmp_eq (tgt := 1725) hx hb dL_law_495 (by decide) (fun _ => ?_) (fun z => absurd z (by decide))
  exact law_tail l C0 hA hAs hS (lv_sub hl [0, 4] rfl) (Nat.le_of_ble_eq_true rfl) (Nat.le_of_ble_eq_true rfl)
set_option maxHeartbeats 4000000 in
set_option maxRecDepth 100000 in
theorem law_case_8 {p : Program} {e : Env} {s : State} {m : MethodId} {below : List Frame} {meth : Method} {c : Code} (l : Launch) (hlt : l.stackTraces = false) {b : Nat} {xs : Nat → Int32} (C0 : lw_At p s m meth c b 7 xs) {A : Nat → Prop} (hA : ∀ q : Nat, s.heap.size ≤ q → A q) (hAs : ∀ q : Nat, A q → s.heap.size ≤ q) (hY : sy_E A s s.heap) {dC : Nat → ClassId} {dI : Nat → Nat → Nat} (aa bb : Nat → Nat) (kk jj : Nat → ClassId) (qo : Nat) (H : Heap) (locs : List Loc) (hK : va_K (dC, dI) vwCl (tX kk ++ tM jj) s) (hP : va_P (dC, dI) vwCl (wX aa kk ++ wM bb jj) H) (hD : va_D A (wX aa kk ++ wM bb jj)) (hS : va_S A s.heap H locs) (ls : Array Slot) (hl : lv_has ls 7 [(0, .ref b), (1, .ref (aa 0)), (2, .ref (bb 0)), (3, .ref qo), (4, .int 0)]) : W p l e room_1 s m #[Value.ref b] below meth c H locs 1717 133609 (lw_Z below #[Value.ref b] s) (F0 m 500 ls []) := by
  obtain ⟨hx, hb, hr, hml, hown0, hts0, hX, hbl, hlocks, hgv⟩ := id C0
  have hown : s.vm.findClass RL = some m.cls := hown0
  have hts : ∀ w ∈ vsL, w.before #[Value.ref b] s = true := fun w h => hts0 w (vsL_in w h)
  have hbA : ¬ A b := fun h => absurd (hAs b h) (Nat.not_le.mpr hbl)
  refine lv_aload_n hx hb dL_law_500 rfl (lv_at hl 1 rfl) ?_
  refine lv_aload_n hx hb dL_law_501 rfl (lv_at hl 0 rfl) ?_
  refine lv_iload hx hb dL_law_502 (lv_at hl 4 rfl) ?_
  refine lv_iconst (v := 1) hx hb dL_law_504 (by decide) ?_
  refine lv_iadd hx hb dL_law_505 ?_
  refine lv_topi (fun y_1 ey_1 => ?_)
  obtain rfl : y_1 = 1 := ey_1.trans (by decide)
  refine va_sld hx hb hX hbl hbA hS (show ¬ (_ ∨ _) by decide) dL_law_506 ?_
  refine lv_aload_n hx hb dL_law_507 rfl (lv_at hl 0 rfl) ?_
  refine lv_iload hx hb dL_law_508 (lv_at hl 4 rfl) ?_
  refine lv_iconst (v := 2) hx hb dL_law_510 (by decide) ?_
  refine lv_iadd hx hb dL_law_511 ?_
  refine lv_topi (fun y_2 ey_2 => ?_)
  obtain rfl : y_2 = 2 := ey_2.trans (by decide)
  refine va_sld hx hb hX hbl hbA hS (show ¬ (_ ∨ _) by decide) dL_law_512 ?_
  refine va_calli (va_runV (As := [.int (xs (1 : Int32).toNatClampNeg), .int (xs (2 : Int32).toNatClampNeg)]) (rest := []) ⟨hx, hb, hml, hown, hts⟩ (c_X8_limit l dC dI _ aa kk (xs (1 : Int32).toNatClampNeg) (xs (2 : Int32).toNatClampNeg)) (cwV 2 hts g_L_X8_limit rfl rfl rfl (by decide +kernel) ⟨Nat.le_of_ble_eq_true rfl, Nat.le_of_ble_eq_true rfl⟩) ⟨pu_bl, va_recv hK hP (ci := 8) (q0 := 0) rfl rfl, pu_in (hP.sub [0, 1, 2, 3, 4, 5, 6, 7, 8, 9] rfl) (hK.sub [0, 1, 2, 3] rfl) (hD.sub [0, 1, 2, 3, 4, 5, 6, 7, 8, 9] (by decide) rfl)⟩ rfl rfl hl.1 rfl (lv_room (Nat.le_of_ble_eq_true rfl)) dL_law_513 ⟨Nat.le_of_ble_eq_true rfl, Nat.le_of_ble_eq_true rfl⟩) hS (fun q _ h => pu_fr hS hA q h) (pu_fr hS hA) (fun r_3 u t H1 locs ht hvm hw hB hz1 hk1 hS => ?_)
  have hP := pu_keep hP hk1
  clear hk1 hz1 ht hvm
  generalize H1 = H at hP hS ⊢
  obtain rfl : r_3 = (-1) := hw
  refine lv_aload_n hx hb dL_law_516 rfl (lv_at hl 2 rfl) ?_
  refine lv_aload_n hx hb dL_law_517 rfl (lv_at hl 0 rfl) ?_
  refine lv_iload hx hb dL_law_518 (lv_at hl 4 rfl) ?_
  refine lv_iconst (v := 1) hx hb dL_law_520 (by decide) ?_
  refine lv_iadd hx hb dL_law_521 ?_
  refine lv_topi (fun y_4 ey_4 => ?_)
  obtain rfl : y_4 = 1 := ey_4.trans (by decide)
  refine va_sld hx hb hX hbl hbA hS (show ¬ (_ ∨ _) by decide) dL_law_522 ?_
  refine lv_aload_n hx hb dL_law_523 rfl (lv_at hl 0 rfl) ?_
  refine lv_iload hx hb dL_law_524 (lv_at hl 4 rfl) ?_
  refine lv_iconst (v := 2) hx hb dL_law_526 (by decide) ?_
  refine lv_iadd hx hb dL_law_527 ?_
  refine lv_topi (fun y_5 ey_5 => ?_)
  obtain rfl : y_5 = 2 := ey_5.trans (by decide)
  refine va_sld hx hb hX hbl hbA hS (show ¬ (_ ∨ _) by decide) dL_law_528 ?_
  have hFc := va_free (wc := [((bb 0), .inr (9, [.int 0, .ref (bb 10), .ref (bb 11), .ref (bb 12), .ref (bb 13), .ref (bb 14), .ref (bb 15), .ref (bb 16), .ref (bb 17), .ref (bb 18), .ref (bb 19), .ref (bb 20), .ref (bb 1), .ref (bb 2), .ref (bb 3), .ref (bb 4), .int 0, .ref (bb 5), .int 0, .int 0, .int 0, .int 0, .int 0, .int 0, .int 0, .int (-1), .int 0, .int 0, .int 0, .int 0, .int 0, .ref (bb 21), .ref (bb 22), .int 0, .ref (bb 23), .ref (bb 24), .ref (bb 25), .ref (bb 26), .ref (bb 27), .ref (bb 28), .ref (bb 29), .ref (bb 30), .ref (bb 31), .ref (bb 32), .ref (bb 33), .int 0, .int 0, .ref (bb 34), .ref (bb 35), .ref (bb 36), .ref (bb 37), .ref (bb 38), .int 0, .int 0, .ref (bb 39), .ref (bb 40), .ref (bb 41), .ref (bb 42), .ref (bb 43), .ref (bb 44), .ref (bb 45), .int 0, .int 0, .int 0, .ref (bb 46), .int 0, .int 0])), ((bb 1), .inl ((jj 1), 2, .inl (fun _ => 0))), ((bb 2), .inl ((jj 2), 2, .inl (fun _ => 0))), ((bb 3), .inl ((jj 3), 2, .inl (fun _ => 0))), ((bb 4), .inl ((jj 4), 2, .inl begF)), ((bb 5), .inl ((jj 5), 900, .inl (fun _ => 0)))]) hD hS hA [10, 11, 12, 13, 14, 15] rfl
  refine va_calli (va_runV (As := [.int (xs (1 : Int32).toNatClampNeg), .int (xs (2 : Int32).toNatClampNeg)]) (rest := [.int (-1)]) ⟨hx, hb, hml, hown, hts⟩ (c_X9_limit l dC dI _ bb jj (xs (1 : Int32).toNatClampNeg) (xs (2 : Int32).toNatClampNeg)) (cwV 2 hts g_L_X9_limit rfl rfl rfl (by decide +kernel) ⟨Nat.le_of_ble_eq_true rfl, Nat.le_of_ble_eq_true rfl⟩) ⟨pu_bl, va_recv hK hP (ci := 9) (q0 := 10) rfl rfl, pu_in (hP.sub [10, 11, 12, 13, 14, 15] rfl) (hK.sub [4, 5, 6, 7, 8] rfl) (hD.sub [10, 11, 12, 13, 14, 15] (by decide) rfl)⟩ rfl rfl hl.1 rfl (lv_room (Nat.le_of_ble_eq_true rfl)) dL_law_529 ⟨Nat.le_of_ble_eq_true rfl, Nat.le_of_ble_eq_true rfl⟩) hS (fun q _ h => hFc q h) hFc (fun r_6 u t H1 locs ht hvm hw hB hz1 hk1 hS => ?_)
  obtain ⟨hP, hD⟩ := va_join (wr := [((aa 0), .inr (8, [.ref (aa 6), .int 0, .ref (aa 4), .ref (aa 1), .ref (aa 5), .ref (aa 2), .ref (aa 10), .int 0, .ref (aa 11), .ref (aa 12), .int 0, .ref (aa 13), .ref (aa 14), .ref (aa 3), .ref (aa 15), .ref (aa 16)])), ((aa 1), .inr (0, [.int 0, .int 0, .int 0, .int (-1), .ref (aa 20), .ref (aa 21), .ref (aa 22), .ref (aa 23), .ref (aa 7), .ref (aa 24), .ref (aa 25), .ref (aa 26), .ref (aa 27), .ref (aa 28), .ref (aa 29), .ref (aa 30), .ref (aa 31)])), ((aa 2), .inr (2, [.int 0, .ref (aa 60), .ref (aa 61)])), ((aa 3), .inr (3, [.int 0, .int 0, .int 0, .ref (aa 62), .ref (aa 63)])), ((aa 4), .inr (4, [.int 0, .int (-1), .null, .int 0, .int 0, .int 0, .int 0, .int 0, .null, .ref (aa 64), .ref (aa 65), .ref (aa 66)])), ((aa 5), .inr (0, [.int 0, .int 0, .int 0, .int (-1), .ref (aa 8), .ref (aa 41), .ref (aa 42), .ref (aa 43), .ref (aa 9), .ref (aa 44), .ref (aa 45), .ref (aa 46), .ref (aa 47), .ref (aa 48), .ref (aa 49), .ref (aa 50), .ref (aa 51)])), ((aa 6), .inl ((kk 0), 900, .inl (fun _ => 0))), ((aa 7), .inl ((kk 1), 22, .inl (fun _ => 0))), ((aa 8), .inl ((kk 2), 8, .inl (fun _ => 0))), ((aa 9), .inl ((kk 3), 22, .inl (fun _ => 0)))]) (w1 := []) hP hD [10, 11, 12, 13, 14, 15] [0, 1, 2, 3, 4, 5, 6, 7, 8, 9] rfl rfl (by decide) (by decide) hk1 hFc pu_P0 pu_D0
  clear hk1 hz1 ht hvm
  generalize H1 = H at hP hS ⊢
  have hP : va_P (dC, dI) vwCl [((aa 0), .inr (8, [.ref (aa 6), .int 0, .ref (aa 4), .ref (aa 1), .ref (aa 5), .ref (aa 2), .ref (aa 10), .int 0, .ref (aa 11), .ref (aa 12), .int 0, .ref (aa 13), .ref (aa 14), .ref (aa 3), .ref (aa 15), .ref (aa 16)])), ((aa 1), .inr (0, [.int 0, .int 0, .int 0, .int (-1), .ref (aa 20), .ref (aa 21), .ref (aa 22), .ref (aa 23), .ref (aa 7), .ref (aa 24), .ref (aa 25), .ref (aa 26), .ref (aa 27), .ref (aa 28), .ref (aa 29), .ref (aa 30), .ref (aa 31)])), ((aa 2), .inr (2, [.int 0, .ref (aa 60), .ref (aa 61)])), ((aa 3), .inr (3, [.int 0, .int 0, .int 0, .ref (aa 62), .ref (aa 63)])), ((aa 4), .inr (4, [.int 0, .int (-1), .null, .int 0, .int 0, .int 0, .int 0, .int 0, .null, .ref (aa 64), .ref (aa 65), .ref (aa 66)])), ((aa 5), .inr (0, [.int 0, .int 0, .int 0, .int (-1), .ref (aa 8), .ref (aa 41), .ref (aa 42), .ref (aa 43), .ref (aa 9), .ref (aa 44), .ref (aa 45), .ref (aa 46), .ref (aa 47), .ref (aa 48), .ref (aa 49), .ref (aa 50), .ref (aa 51)])), ((aa 6), .inl ((kk 0), 900, .inl (fun _ => 0))), ((aa 7), .inl ((kk 1), 22, .inl (fun _ => 0))), ((aa 8), .inl ((kk 2), 8, .inl (fun _ => 0))), ((aa 9), .inl ((kk 3), 22, .inl (fun _ => 0)))] H := hP
  have hD : va_D A [((aa 0), .inr (8, [.ref (aa 6), .int 0, .ref (aa 4), .ref (aa 1), .ref (aa 5), .ref (aa 2), .ref (aa 10), .int 0, .ref (aa 11), .ref (aa 12), .int 0, .ref (aa 13), .ref (aa 14), .ref (aa 3), .ref (aa 15), .ref (aa 16)])), ((aa 1), .inr (0, [.int 0, .int 0, .int 0, .int (-1), .ref (aa 20), .ref (aa 21), .ref (aa 22), .ref (aa 23), .ref (aa 7), .ref (aa 24), .ref (aa 25), .ref (aa 26), .ref (aa 27), .ref (aa 28), .ref (aa 29), .ref (aa 30), .ref (aa 31)])), ((aa 2), .inr (2, [.int 0, .ref (aa 60), .ref (aa 61)])), ((aa 3), .inr (3, [.int 0, .int 0, .int 0, .ref (aa 62), .ref (aa 63)])), ((aa 4), .inr (4, [.int 0, .int (-1), .null, .int 0, .int 0, .int 0, .int 0, .int 0, .null, .ref (aa 64), .ref (aa 65), .ref (aa 66)])), ((aa 5), .inr (0, [.int 0, .int 0, .int 0, .int (-1), .ref (aa 8), .ref (aa 41), .ref (aa 42), .ref (aa 43), .ref (aa 9), .ref (aa 44), .ref (aa 45), .ref (aa 46), .ref (aa 47), .ref (aa 48), .ref (aa 49), .ref (aa 50), .ref (aa 51)])), ((aa 6), .inl ((kk 0), 900, .inl (fun _ => 0))), ((aa 7), .inl ((kk 1), 22, .inl (fun _ => 0))), ((aa 8), .inl ((kk 2), 8, .inl (fun _ => 0))), ((aa 9), .inl ((kk 3), 22, .inl (fun _ => 0)))] := hD
  obtain rfl : r_6 = (-1) := hw
  refine lv_icmp_eq (tgt := 1725) hx hb dL_law_532 (by decide) (fun _ => ?_) (fun z => absurd z (by decide))
  exact law_tail l C0 hA hAs hS (lv_sub hl [0, 4] rfl) (Nat.le_of_ble_eq_true rfl) (Nat.le_of_ble_eq_true rfl)
set_option maxHeartbeats 4000000 in
set_option maxRecDepth 100000 in
theorem law_case_9 {p : Program} {e : Env} {s : State} {m : MethodId} {below : List Frame} {meth : Method} {c : Code} (l : Launch) (hlt : l.stackTraces = false) {b : Nat} {xs : Nat → Int32} (C0 : lw_At p s m meth c b 7 xs) {A : Nat → Prop} (hA : ∀ q : Nat, s.heap.size ≤ q → A q) (hAs : ∀ q : Nat, A q → s.heap.size ≤ q) (hY : sy_E A s s.heap) {dC : Nat → ClassId} {dI : Nat → Nat → Nat} (aa bb : Nat → Nat) (kk jj : Nat → ClassId) (qo : Nat) (H : Heap) (locs : List Loc) (hK : va_K (dC, dI) vwCl (tX kk ++ tM jj) s) (hP : va_P (dC, dI) vwCl (wX aa kk ++ wM bb jj) H) (hD : va_D A (wX aa kk ++ wM bb jj)) (hS : va_S A s.heap H locs) (ls : Array Slot) (hl : lv_has ls 7 [(0, .ref b), (1, .ref (aa 0)), (2, .ref (bb 0)), (3, .ref qo), (4, .int 0)]) : W p l e room_1 s m #[Value.ref b] below meth c H locs 1717 133609 (lw_Z below #[Value.ref b] s) (F0 m 537 ls []) := by
  obtain ⟨hx, hb, hr, hml, hown0, hts0, hX, hbl, hlocks, hgv⟩ := id C0
  have hown : s.vm.findClass RL = some m.cls := hown0
  have hts : ∀ w ∈ vsL, w.before #[Value.ref b] s = true := fun w h => hts0 w (vsL_in w h)
  have hbA : ¬ A b := fun h => absurd (hAs b h) (Nat.not_le.mpr hbl)
  refine lv_aload_n hx hb dL_law_537 rfl (lv_at hl 1 rfl) ?_
  refine lv_aload_n hx hb dL_law_538 rfl (lv_at hl 0 rfl) ?_
  refine lv_iload hx hb dL_law_539 (lv_at hl 4 rfl) ?_
  refine lv_iconst (v := 1) hx hb dL_law_541 (by decide) ?_
  refine lv_iadd hx hb dL_law_542 ?_
  refine lv_topi (fun y_1 ey_1 => ?_)
  obtain rfl : y_1 = 1 := ey_1.trans (by decide)
  refine va_sld hx hb hX hbl hbA hS (show ¬ (_ ∨ _) by decide) dL_law_543 ?_
  refine lv_aload_n hx hb dL_law_544 rfl (lv_at hl 0 rfl) ?_
  refine lv_iload hx hb dL_law_545 (lv_at hl 4 rfl) ?_
  refine lv_iconst (v := 2) hx hb dL_law_547 (by decide) ?_
  refine lv_iadd hx hb dL_law_548 ?_
  refine lv_topi (fun y_2 ey_2 => ?_)
  obtain rfl : y_2 = 2 := ey_2.trans (by decide)
  refine va_sld hx hb hX hbl hbA hS (show ¬ (_ ∨ _) by decide) dL_law_549 ?_
  refine lv_aload_n hx hb dL_law_550 rfl (lv_at hl 0 rfl) ?_
  refine lv_iload hx hb dL_law_551 (lv_at hl 4 rfl) ?_
  refine lv_iconst (v := 3) hx hb dL_law_553 (by decide) ?_
  refine lv_iadd hx hb dL_law_554 ?_
  refine lv_topi (fun y_3 ey_3 => ?_)
  obtain rfl : y_3 = 3 := ey_3.trans (by decide)
  refine va_sld hx hb hX hbl hbA hS (show ¬ (_ ∨ _) by decide) dL_law_555 ?_
  refine va_calli (va_runV (As := [.int (xs (1 : Int32).toNatClampNeg), .int (xs (2 : Int32).toNatClampNeg), .int (xs (3 : Int32).toNatClampNeg)]) (rest := []) ⟨hx, hb, hml, hown, hts⟩ (c_X8_number l dC dI _ aa kk (xs (1 : Int32).toNatClampNeg) (xs (2 : Int32).toNatClampNeg) (xs (3 : Int32).toNatClampNeg)) (cwV 3 hts g_L_X8_number rfl rfl rfl (by decide +kernel) ⟨Nat.le_of_ble_eq_true rfl, Nat.le_of_ble_eq_true rfl⟩) ⟨pu_bl, va_recv hK hP (ci := 8) (q0 := 0) rfl rfl, pu_in (hP.sub [0, 1, 2, 3, 4, 5, 6, 7, 8, 9] rfl) (hK.sub [0, 1, 2, 3] rfl) (hD.sub [0, 1, 2, 3, 4, 5, 6, 7, 8, 9] (by decide) rfl)⟩ rfl rfl hl.1 rfl (lv_room (Nat.le_of_ble_eq_true rfl)) dL_law_556 ⟨Nat.le_of_ble_eq_true rfl, Nat.le_of_ble_eq_true rfl⟩) hS (fun q _ h => pu_fr hS hA q h) (pu_fr hS hA) (fun r_4 u t H1 locs ht hvm hw hB hz1 hk1 hS => ?_)
  have hP := pu_keep hP hk1
  clear hk1 hz1 ht hvm
  generalize H1 = H at hP hS ⊢
  obtain rfl : r_4 = (-1) := hw
  refine lv_aload_n hx hb dL_law_559 rfl (lv_at hl 2 rfl) ?_
  refine lv_aload_n hx hb dL_law_560 rfl (lv_at hl 0 rfl) ?_
  refine lv_iload hx hb dL_law_561 (lv_at hl 4 rfl) ?_
  refine lv_iconst (v := 1) hx hb dL_law_563 (by decide) ?_
  refine lv_iadd hx hb dL_law_564 ?_
  refine lv_topi (fun y_5 ey_5 => ?_)
  obtain rfl : y_5 = 1 := ey_5.trans (by decide)
  refine va_sld hx hb hX hbl hbA hS (show ¬ (_ ∨ _) by decide) dL_law_565 ?_
  refine lv_aload_n hx hb dL_law_566 rfl (lv_at hl 0 rfl) ?_
  refine lv_iload hx hb dL_law_567 (lv_at hl 4 rfl) ?_
  refine lv_iconst (v := 2) hx hb dL_law_569 (by decide) ?_
  refine lv_iadd hx hb dL_law_570 ?_
  refine lv_topi (fun y_6 ey_6 => ?_)
  obtain rfl : y_6 = 2 := ey_6.trans (by decide)
  refine va_sld hx hb hX hbl hbA hS (show ¬ (_ ∨ _) by decide) dL_law_571 ?_
  refine lv_aload_n hx hb dL_law_572 rfl (lv_at hl 0 rfl) ?_
  refine lv_iload hx hb dL_law_573 (lv_at hl 4 rfl) ?_
  refine lv_iconst (v := 3) hx hb dL_law_575 (by decide) ?_
  refine lv_iadd hx hb dL_law_576 ?_
  refine lv_topi (fun y_7 ey_7 => ?_)
  obtain rfl : y_7 = 3 := ey_7.trans (by decide)
  refine va_sld hx hb hX hbl hbA hS (show ¬ (_ ∨ _) by decide) dL_law_577 ?_
  have hFc := va_free (wc := [((bb 0), .inr (9, [.int 0, .ref (bb 10), .ref (bb 11), .ref (bb 12), .ref (bb 13), .ref (bb 14), .ref (bb 15), .ref (bb 16), .ref (bb 17), .ref (bb 18), .ref (bb 19), .ref (bb 20), .ref (bb 1), .ref (bb 2), .ref (bb 3), .ref (bb 4), .int 0, .ref (bb 5), .int 0, .int 0, .int 0, .int 0, .int 0, .int 0, .int 0, .int (-1), .int 0, .int 0, .int 0, .int 0, .int 0, .ref (bb 21), .ref (bb 22), .int 0, .ref (bb 23), .ref (bb 24), .ref (bb 25), .ref (bb 26), .ref (bb 27), .ref (bb 28), .ref (bb 29), .ref (bb 30), .ref (bb 31), .ref (bb 32), .ref (bb 33), .int 0, .int 0, .ref (bb 34), .ref (bb 35), .ref (bb 36), .ref (bb 37), .ref (bb 38), .int 0, .int 0, .ref (bb 39), .ref (bb 40), .ref (bb 41), .ref (bb 42), .ref (bb 43), .ref (bb 44), .ref (bb 45), .int 0, .int 0, .int 0, .ref (bb 46), .int 0, .int 0])), ((bb 1), .inl ((jj 1), 2, .inl (fun _ => 0))), ((bb 2), .inl ((jj 2), 2, .inl (fun _ => 0))), ((bb 3), .inl ((jj 3), 2, .inl (fun _ => 0))), ((bb 4), .inl ((jj 4), 2, .inl begF)), ((bb 5), .inl ((jj 5), 900, .inl (fun _ => 0)))]) hD hS hA [10, 11, 12, 13, 14, 15] rfl
  refine va_calli (va_runV (As := [.int (xs (1 : Int32).toNatClampNeg), .int (xs (2 : Int32).toNatClampNeg), .int (xs (3 : Int32).toNatClampNeg)]) (rest := [.int (-1)]) ⟨hx, hb, hml, hown, hts⟩ (c_X9_number l dC dI _ bb jj (xs (1 : Int32).toNatClampNeg) (xs (2 : Int32).toNatClampNeg) (xs (3 : Int32).toNatClampNeg)) (cwV 3 hts g_L_X9_number rfl rfl rfl (by decide +kernel) ⟨Nat.le_of_ble_eq_true rfl, Nat.le_of_ble_eq_true rfl⟩) ⟨pu_bl, va_recv hK hP (ci := 9) (q0 := 10) rfl rfl, pu_in (hP.sub [10, 11, 12, 13, 14, 15] rfl) (hK.sub [4, 5, 6, 7, 8] rfl) (hD.sub [10, 11, 12, 13, 14, 15] (by decide) rfl)⟩ rfl rfl hl.1 rfl (lv_room (Nat.le_of_ble_eq_true rfl)) dL_law_578 ⟨Nat.le_of_ble_eq_true rfl, Nat.le_of_ble_eq_true rfl⟩) hS (fun q _ h => hFc q h) hFc (fun r_8 u t H1 locs ht hvm hw hB hz1 hk1 hS => ?_)
  obtain ⟨hP, hD⟩ := va_join (wr := [((aa 0), .inr (8, [.ref (aa 6), .int 0, .ref (aa 4), .ref (aa 1), .ref (aa 5), .ref (aa 2), .ref (aa 10), .int 0, .ref (aa 11), .ref (aa 12), .int 0, .ref (aa 13), .ref (aa 14), .ref (aa 3), .ref (aa 15), .ref (aa 16)])), ((aa 1), .inr (0, [.int 0, .int 0, .int 0, .int (-1), .ref (aa 20), .ref (aa 21), .ref (aa 22), .ref (aa 23), .ref (aa 7), .ref (aa 24), .ref (aa 25), .ref (aa 26), .ref (aa 27), .ref (aa 28), .ref (aa 29), .ref (aa 30), .ref (aa 31)])), ((aa 2), .inr (2, [.int 0, .ref (aa 60), .ref (aa 61)])), ((aa 3), .inr (3, [.int 0, .int 0, .int 0, .ref (aa 62), .ref (aa 63)])), ((aa 4), .inr (4, [.int 0, .int (-1), .null, .int 0, .int 0, .int 0, .int 0, .int 0, .null, .ref (aa 64), .ref (aa 65), .ref (aa 66)])), ((aa 5), .inr (0, [.int 0, .int 0, .int 0, .int (-1), .ref (aa 8), .ref (aa 41), .ref (aa 42), .ref (aa 43), .ref (aa 9), .ref (aa 44), .ref (aa 45), .ref (aa 46), .ref (aa 47), .ref (aa 48), .ref (aa 49), .ref (aa 50), .ref (aa 51)])), ((aa 6), .inl ((kk 0), 900, .inl (fun _ => 0))), ((aa 7), .inl ((kk 1), 22, .inl (fun _ => 0))), ((aa 8), .inl ((kk 2), 8, .inl (fun _ => 0))), ((aa 9), .inl ((kk 3), 22, .inl (fun _ => 0)))]) (w1 := []) hP hD [10, 11, 12, 13, 14, 15] [0, 1, 2, 3, 4, 5, 6, 7, 8, 9] rfl rfl (by decide) (by decide) hk1 hFc pu_P0 pu_D0
  clear hk1 hz1 ht hvm
  generalize H1 = H at hP hS ⊢
  have hP : va_P (dC, dI) vwCl [((aa 0), .inr (8, [.ref (aa 6), .int 0, .ref (aa 4), .ref (aa 1), .ref (aa 5), .ref (aa 2), .ref (aa 10), .int 0, .ref (aa 11), .ref (aa 12), .int 0, .ref (aa 13), .ref (aa 14), .ref (aa 3), .ref (aa 15), .ref (aa 16)])), ((aa 1), .inr (0, [.int 0, .int 0, .int 0, .int (-1), .ref (aa 20), .ref (aa 21), .ref (aa 22), .ref (aa 23), .ref (aa 7), .ref (aa 24), .ref (aa 25), .ref (aa 26), .ref (aa 27), .ref (aa 28), .ref (aa 29), .ref (aa 30), .ref (aa 31)])), ((aa 2), .inr (2, [.int 0, .ref (aa 60), .ref (aa 61)])), ((aa 3), .inr (3, [.int 0, .int 0, .int 0, .ref (aa 62), .ref (aa 63)])), ((aa 4), .inr (4, [.int 0, .int (-1), .null, .int 0, .int 0, .int 0, .int 0, .int 0, .null, .ref (aa 64), .ref (aa 65), .ref (aa 66)])), ((aa 5), .inr (0, [.int 0, .int 0, .int 0, .int (-1), .ref (aa 8), .ref (aa 41), .ref (aa 42), .ref (aa 43), .ref (aa 9), .ref (aa 44), .ref (aa 45), .ref (aa 46), .ref (aa 47), .ref (aa 48), .ref (aa 49), .ref (aa 50), .ref (aa 51)])), ((aa 6), .inl ((kk 0), 900, .inl (fun _ => 0))), ((aa 7), .inl ((kk 1), 22, .inl (fun _ => 0))), ((aa 8), .inl ((kk 2), 8, .inl (fun _ => 0))), ((aa 9), .inl ((kk 3), 22, .inl (fun _ => 0)))] H := hP
  have hD : va_D A [((aa 0), .inr (8, [.ref (aa 6), .int 0, .ref (aa 4), .ref (aa 1), .ref (aa 5), .ref (aa 2), .ref (aa 10), .int 0, .ref (aa 11), .ref (aa 12), .int 0, .ref (aa 13), .ref (aa 14), .ref (aa 3), .ref (aa 15), .ref (aa 16)])), ((aa 1), .inr (0, [.int 0, .int 0, .int 0, .int (-1), .ref (aa 20), .ref (aa 21), .ref (aa 22), .ref (aa 23), .ref (aa 7), .ref (aa 24), .ref (aa 25), .ref (aa 26), .ref (aa 27), .ref (aa 28), .ref (aa 29), .ref (aa 30), .ref (aa 31)])), ((aa 2), .inr (2, [.int 0, .ref (aa 60), .ref (aa 61)])), ((aa 3), .inr (3, [.int 0, .int 0, .int 0, .ref (aa 62), .ref (aa 63)])), ((aa 4), .inr (4, [.int 0, .int (-1), .null, .int 0, .int 0, .int 0, .int 0, .int 0, .null, .ref (aa 64), .ref (aa 65), .ref (aa 66)])), ((aa 5), .inr (0, [.int 0, .int 0, .int 0, .int (-1), .ref (aa 8), .ref (aa 41), .ref (aa 42), .ref (aa 43), .ref (aa 9), .ref (aa 44), .ref (aa 45), .ref (aa 46), .ref (aa 47), .ref (aa 48), .ref (aa 49), .ref (aa 50), .ref (aa 51)])), ((aa 6), .inl ((kk 0), 900, .inl (fun _ => 0))), ((aa 7), .inl ((kk 1), 22, .inl (fun _ => 0))), ((aa 8), .inl ((kk 2), 8, .inl (fun _ => 0))), ((aa 9), .inl ((kk 3), 22, .inl (fun _ => 0)))] := hD
  obtain rfl : r_8 = (-1) := hw
  refine lv_icmp_eq (tgt := 1725) hx hb dL_law_581 (by decide) (fun _ => ?_) (fun z => absurd z (by decide))
  exact law_tail l C0 hA hAs hS (lv_sub hl [0, 4] rfl) (Nat.le_of_ble_eq_true rfl) (Nat.le_of_ble_eq_true rfl)
