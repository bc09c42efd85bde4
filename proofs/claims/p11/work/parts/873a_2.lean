theorem lx_q {qo : Nat} {A : Nat → Prop} {H0 H : Heap} {locs : List Loc} (h : A qo) (hA : ∀ q : Nat, H0.size ≤ q → A q) (hS : va_S A H0 H locs) : ∀ q, (q = qo ∨ H.size ≤ q) → A q := fun q g => by
  rcases g with rfl | g
  · exact h
  · exact hA q (Nat.le_trans hS.1 g)
set_option maxHeartbeats 4000000 in
set_option maxRecDepth 100000 in
theorem law_case_0 {p : Program} {e : Env} {s : State} {m : MethodId} {below : List Frame} {meth : Method} {c : Code} (l : Launch) (hlt : l.stackTraces = false) {b L : Nat} {xs : Nat → Int32} (C0 : lw_At p s m meth c b L xs) {A : Nat → Prop} (hA : ∀ q : Nat, s.heap.size ≤ q → A q) (hAs : ∀ q : Nat, A q → s.heap.size ≤ q) (hY : sy_E A s s.heap) {dC : Nat → ClassId} {dI : Nat → Nat → Nat} {kI kB kQ kL : ClassId} (hK : va_K (dC, dI) vwCl (k3 kI kB kQ ++ [(kL, .long)]) s) {xa ma qo : Nat} {XA MA : Nat → Prop} (dis : lw_dis XA MA qo A) (hL : L ≤ 3584) (k : Nat) (hk : 7 * k + 7 ≤ L) {H : Heap} {locs : List Loc} {ls : Array Slot} (hJ : LInv (dC, dI) kI kB kQ kL xa ma qo XA MA H) (hS : va_S A s.heap H locs) (hl : lv_has ls 7 [(0, .ref b), (1, .ref xa), (2, .ref ma), (3, .ref qo), (4, .int (nI (7 * k)))]) {cells slots : Nat} (hc : cells ≤ 600000) (hs : slots ≤ 7200000) (hT : ∀ (H : Heap) (locs : List Loc) (ls : Array Slot), LInv (dC, dI) kI kB kQ kL xa ma qo XA MA H → va_S A s.heap H locs → lv_has ls 7 [(0, .ref b), (1, .ref xa), (2, .ref ma), (3, .ref qo), (4, .int (nI (7 * k)))] → W p l e room_1 s m #[Value.ref b] below meth c H locs (cells + 1) (slots + 6) (lw_Z below #[Value.ref b] s) (F0 m 1697 ls [])) : W p l e room_1 s m #[Value.ref b] below meth c H locs cells slots (lw_Z below #[Value.ref b] s) (F0 m 216 ls []) := by
  obtain ⟨hx, hb, hr, hml, hown0, hts0, hX, hbl, hlocks, hgv⟩ := id C0
  have hown : s.vm.findClass RL = some m.cls := hown0
  have hts : ∀ w ∈ vsL, w.before #[Value.ref b] s = true := fun w h => hts0 w (vsL_in w h)
  have hbA : ¬ A b := fun h => absurd (hAs b h) (Nat.not_le.mpr hbl)
  obtain ⟨Sx, Sm, hsr, hJX, hJM, fq, hPo⟩ := hJ
  have hfx := xi_fact hJX
  have hfm := mi_fact hJM
  refine lv_aload_n hx hb dL_law_216 rfl (lv_at hl 1 rfl) ?_
  refine lv_aload_n hx hb dL_law_217 rfl (lv_at hl 0 rfl) ?_
  refine lv_iload hx hb dL_law_218 (lv_at hl 4 rfl) ?_
  refine lv_iconst (v := 1) hx hb dL_law_220 (by decide) ?_
  refine lv_iadd hx hb dL_law_221 ?_
  refine lv_topi (fun y1 ey1 => ?_)
  obtain rfl : y1 = nI (7 * k + 1) := ey1.trans (nI_add (7 * k) 1)
  refine va_sld hx hb hX hbl hbA hS (vp_in_nI (n := 7 * k + 1) (by omega) (by omega)) dL_law_222 ?_
  refine lv_aload_n hx hb dL_law_223 rfl (lv_at hl 0 rfl) ?_
  refine lv_iload hx hb dL_law_224 (lv_at hl 4 rfl) ?_
  refine lv_iconst (v := 2) hx hb dL_law_226 (by decide) ?_
  refine lv_iadd hx hb dL_law_227 ?_
  refine lv_topi (fun y2 ey2 => ?_)
  obtain rfl : y2 = nI (7 * k + 2) := ey2.trans (nI_add (7 * k) 2)
  refine va_sld hx hb hX hbl hbA hS (vp_in_nI (n := 7 * k + 2) (by omega) (by omega)) dL_law_228 ?_
  refine lv_aload_n hx hb dL_law_229 rfl (lv_at hl 0 rfl) ?_
  refine lv_iload hx hb dL_law_230 (lv_at hl 4 rfl) ?_
  refine lv_iconst (v := 3) hx hb dL_law_232 (by decide) ?_
  refine lv_iadd hx hb dL_law_233 ?_
  refine lv_topi (fun y3 ey3 => ?_)
  obtain rfl : y3 = nI (7 * k + 3) := ey3.trans (nI_add (7 * k) 3)
  refine va_sld hx hb hX hbl hbA hS (vp_in_nI (n := 7 * k + 3) (by omega) (by omega)) dL_law_234 ?_
  refine lv_aload_n hx hb dL_law_235 rfl (lv_at hl 0 rfl) ?_
  refine lv_iload hx hb dL_law_236 (lv_at hl 4 rfl) ?_
  refine lv_iconst (v := 4) hx hb dL_law_238 (by decide) ?_
  refine lv_iadd hx hb dL_law_239 ?_
  refine lv_topi (fun y4 ey4 => ?_)
  obtain rfl : y4 = nI (7 * k + 4) := ey4.trans (nI_add (7 * k) 4)
  refine va_sld hx hb hX hbl hbA hS (vp_in_nI (n := 7 * k + 4) (by omega) (by omega)) dL_law_240 ?_
  refine lv_aload_n hx hb dL_law_241 rfl (lv_at hl 0 rfl) ?_
  refine lv_iload hx hb dL_law_242 (lv_at hl 4 rfl) ?_
  refine lv_iconst (v := 5) hx hb dL_law_244 (by decide) ?_
  refine lv_iadd hx hb dL_law_245 ?_
  refine lv_topi (fun y5 ey5 => ?_)
  obtain rfl : y5 = nI (7 * k + 5) := ey5.trans (nI_add (7 * k) 5)
  refine va_sld hx hb hX hbl hbA hS (vp_in_nI (n := 7 * k + 5) (by omega) (by omega)) dL_law_246 ?_
  obtain ⟨fsr, hPr⟩ := xi_recv hJX
  refine va_calli (va_runV (As := [.int (xs (nI (7 * k + 1)).toNatClampNeg), .int (xs (nI (7 * k + 2)).toNatClampNeg), .int (xs (nI (7 * k + 3)).toNatClampNeg), .int (xs (nI (7 * k + 4)).toNatClampNeg), .int (xs (nI (7 * k + 5)).toNatClampNeg)]) (rest := []) ⟨hx, hb, hml, hown, hts⟩ (k_X8_feed l dC dI _ kI kB kQ xa XA Sx (xs (nI (7 * k + 1)).toNatClampNeg) (xs (nI (7 * k + 2)).toNatClampNeg) (xs (nI (7 * k + 3)).toNatClampNeg) (xs (nI (7 * k + 4)).toNatClampNeg) (xs (nI (7 * k + 5)).toNatClampNeg)) (cwV 5 hts gL_X8_feed rfl rfl rfl (by decide +kernel) ⟨Nat.le_of_ble_eq_true rfl, Nat.le_of_ble_eq_true rfl⟩) ⟨xB_bl, va_recv hK hPr (ci := 8) (q0 := 0) rfl rfl, xB_in hJX (k3_of hK)⟩ rfl rfl hl.1 rfl (lv_room (Nat.le_of_ble_eq_true rfl)) dL_law_247 ⟨by show _ ≤ 601024; omega, by show _ ≤ 7293034; omega⟩) hS (fun q _ h => lx_A dis.1 hA hS q h) (lx_A dis.1 hA hS) (fun r6 u t H1 locs ht hvm hw hB hz1 hk1 hS => ?_)
  have hJM := mi_keep hJM (fun q h1 h2 => hk1 q h1 (lx_no dis.2.2.2.1 h1 h2))
  have hPo := lx_o hPo dis.2.2.2.2.1 hk1
  have hwx : xM_feed Sx (xs (nI (7 * k + 1)).toNatClampNeg) (xs (nI (7 * k + 2)).toNatClampNeg) (xs (nI (7 * k + 3)).toNatClampNeg) (xs (nI (7 * k + 4)).toNatClampNeg) (xs (nI (7 * k + 5)).toNatClampNeg) r6 u := hw
  have hJX : XInv (dC, dI) kI kB kQ xa XA u t.heap := hB
  generalize u = ux at hwx hJX
  rw [ht] at hJX
  clear hk1 hz1 ht hvm
  generalize H1 = H at hJX hJM hPo hS ⊢
  refine lv_pop hx hb dL_law_250 rfl ?_
  refine lv_aload_n hx hb dL_law_251 rfl (lv_at hl 2 rfl) ?_
  refine lv_aload_n hx hb dL_law_252 rfl (lv_at hl 0 rfl) ?_
  refine lv_iload hx hb dL_law_253 (lv_at hl 4 rfl) ?_
  refine lv_iconst (v := 1) hx hb dL_law_255 (by decide) ?_
  refine lv_iadd hx hb dL_law_256 ?_
  refine lv_topi (fun y7 ey7 => ?_)
  obtain rfl : y7 = nI (7 * k + 1) := ey7.trans (nI_add (7 * k) 1)
  refine va_sld hx hb hX hbl hbA hS (vp_in_nI (n := 7 * k + 1) (by omega) (by omega)) dL_law_257 ?_
  refine lv_aload_n hx hb dL_law_258 rfl (lv_at hl 0 rfl) ?_
  refine lv_iload hx hb dL_law_259 (lv_at hl 4 rfl) ?_
  refine lv_iconst (v := 2) hx hb dL_law_261 (by decide) ?_
  refine lv_iadd hx hb dL_law_262 ?_
  refine lv_topi (fun y8 ey8 => ?_)
  obtain rfl : y8 = nI (7 * k + 2) := ey8.trans (nI_add (7 * k) 2)
  refine va_sld hx hb hX hbl hbA hS (vp_in_nI (n := 7 * k + 2) (by omega) (by omega)) dL_law_263 ?_
  refine lv_aload_n hx hb dL_law_264 rfl (lv_at hl 0 rfl) ?_
  refine lv_iload hx hb dL_law_265 (lv_at hl 4 rfl) ?_
  refine lv_iconst (v := 3) hx hb dL_law_267 (by decide) ?_
  refine lv_iadd hx hb dL_law_268 ?_
  refine lv_topi (fun y9 ey9 => ?_)
  obtain rfl : y9 = nI (7 * k + 3) := ey9.trans (nI_add (7 * k) 3)
  refine va_sld hx hb hX hbl hbA hS (vp_in_nI (n := 7 * k + 3) (by omega) (by omega)) dL_law_269 ?_
  refine lv_aload_n hx hb dL_law_270 rfl (lv_at hl 0 rfl) ?_
  refine lv_iload hx hb dL_law_271 (lv_at hl 4 rfl) ?_
  refine lv_iconst (v := 4) hx hb dL_law_273 (by decide) ?_
  refine lv_iadd hx hb dL_law_274 ?_
  refine lv_topi (fun y10 ey10 => ?_)
  obtain rfl : y10 = nI (7 * k + 4) := ey10.trans (nI_add (7 * k) 4)
  refine va_sld hx hb hX hbl hbA hS (vp_in_nI (n := 7 * k + 4) (by omega) (by omega)) dL_law_275 ?_
  refine lv_aload_n hx hb dL_law_276 rfl (lv_at hl 0 rfl) ?_
  refine lv_iload hx hb dL_law_277 (lv_at hl 4 rfl) ?_
  refine lv_iconst (v := 5) hx hb dL_law_279 (by decide) ?_
  refine lv_iadd hx hb dL_law_280 ?_
  refine lv_topi (fun y11 ey11 => ?_)
  obtain rfl : y11 = nI (7 * k + 5) := ey11.trans (nI_add (7 * k) 5)
  refine va_sld hx hb hX hbl hbA hS (vp_in_nI (n := 7 * k + 5) (by omega) (by omega)) dL_law_281 ?_
  obtain ⟨fsr, hPr⟩ := mi_recv hJM
  refine va_calli (va_runV (As := [.int (xs (nI (7 * k + 1)).toNatClampNeg), .int (xs (nI (7 * k + 2)).toNatClampNeg), .int (xs (nI (7 * k + 3)).toNatClampNeg), .int (xs (nI (7 * k + 4)).toNatClampNeg), .int (xs (nI (7 * k + 5)).toNatClampNeg)]) (rest := []) ⟨hx, hb, hml, hown, hts⟩ (k_X9_feed l dC dI _ kI kB kQ ma MA Sm (xs (nI (7 * k + 1)).toNatClampNeg) (xs (nI (7 * k + 2)).toNatClampNeg) (xs (nI (7 * k + 3)).toNatClampNeg) (xs (nI (7 * k + 4)).toNatClampNeg) (xs (nI (7 * k + 5)).toNatClampNeg)) (cwV 5 hts gL_X9_feed rfl rfl rfl (by decide +kernel) ⟨Nat.le_of_ble_eq_true rfl, Nat.le_of_ble_eq_true rfl⟩) ⟨xB_bl, va_recv hK hPr (ci := 9) (q0 := 0) rfl rfl, xB_in hJM (k3_of hK)⟩ rfl rfl hl.1 rfl (lv_room (Nat.le_of_ble_eq_true rfl)) dL_law_282 ⟨by show _ ≤ 601024; omega, by show _ ≤ 7293034; omega⟩) hS (fun q _ h => lx_A dis.2.1 hA hS q h) (lx_A dis.2.1 hA hS) (fun r12 u t H1 locs ht hvm hw hB hz1 hk1 hS => ?_)
  have hJX := xi_keep hJX (fun q h1 h2 => hk1 q h1 (lx_no (fun q h g => dis.2.2.2.1 q g h) h1 h2))
  have hPo := lx_o hPo dis.2.2.2.2.2 hk1
  have hwm : mM_feed Sm (xs (nI (7 * k + 1)).toNatClampNeg) (xs (nI (7 * k + 2)).toNatClampNeg) (xs (nI (7 * k + 3)).toNatClampNeg) (xs (nI (7 * k + 4)).toNatClampNeg) (xs (nI (7 * k + 5)).toNatClampNeg) r12 u := hw
  have hJM : MInv (dC, dI) kI kB ma MA u t.heap := hB
  generalize u = um at hwm hJM
  have hsr1 := sr_feed hsr hfx hfm hwx hwm
  rw [ht] at hJM
  clear hk1 hz1 ht hvm
  generalize H1 = H at hJX hJM hPo hS ⊢
  refine lv_pop hx hb dL_law_285 rfl ?_
  refine lv_goto (tgt := 1697) hx hb dL_law_286 (by decide) ?_
  refine W.widen (k := cells + 1) (n := slots + 6) (by omega) (by omega) ?_
  exact hT _ _ _ ⟨ux, um, hsr1, hJX, hJM, fq, hPo⟩ hS (lv_sub hl [0, 1, 2, 3, 4] rfl)
set_option maxHeartbeats 4000000 in
set_option maxRecDepth 100000 in
theorem law_case_1 {p : Program} {e : Env} {s : State} {m : MethodId} {below : List Frame} {meth : Method} {c : Code} (l : Launch) (hlt : l.stackTraces = false) {b L : Nat} {xs : Nat → Int32} (C0 : lw_At p s m meth c b L xs) {A : Nat → Prop} (hA : ∀ q : Nat, s.heap.size ≤ q → A q) (hAs : ∀ q : Nat, A q → s.heap.size ≤ q) (hY : sy_E A s s.heap) {dC : Nat → ClassId} {dI : Nat → Nat → Nat} {kI kB kQ kL : ClassId} (hK : va_K (dC, dI) vwCl (k3 kI kB kQ ++ [(kL, .long)]) s) {xa ma qo : Nat} {XA MA : Nat → Prop} (dis : lw_dis XA MA qo A) (hL : L ≤ 3584) (k : Nat) (hk : 7 * k + 7 ≤ L) {H : Heap} {locs : List Loc} {ls : Array Slot} (hJ : LInv (dC, dI) kI kB kQ kL xa ma qo XA MA H) (hS : va_S A s.heap H locs) (hl : lv_has ls 7 [(0, .ref b), (1, .ref xa), (2, .ref ma), (3, .ref qo), (4, .int (nI (7 * k)))]) {cells slots : Nat} (hc : cells ≤ 600000) (hs : slots ≤ 7200000) (hT : ∀ (H : Heap) (locs : List Loc) (ls : Array Slot), LInv (dC, dI) kI kB kQ kL xa ma qo XA MA H → va_S A s.heap H locs → lv_has ls 7 [(0, .ref b), (1, .ref xa), (2, .ref ma), (3, .ref qo), (4, .int (nI (7 * k)))] → W p l e room_1 s m #[Value.ref b] below meth c H locs (cells + 1) (slots + 6) (lw_Z below #[Value.ref b] s) (F0 m 1697 ls [])) : W p l e room_1 s m #[Value.ref b] below meth c H locs cells slots (lw_Z below #[Value.ref b] s) (F0 m 289 ls []) := by
  obtain ⟨hx, hb, hr, hml, hown0, hts0, hX, hbl, hlocks, hgv⟩ := id C0
  have hown : s.vm.findClass RL = some m.cls := hown0
  have hts : ∀ w ∈ vsL, w.before #[Value.ref b] s = true := fun w h => hts0 w (vsL_in w h)
  have hbA : ¬ A b := fun h => absurd (hAs b h) (Nat.not_le.mpr hbl)
  obtain ⟨Sx, Sm, hsr, hJX, hJM, fq, hPo⟩ := hJ
  have hfx := xi_fact hJX
  have hfm := mi_fact hJM
  refine lv_aload_n hx hb dL_law_289 rfl (lv_at hl 1 rfl) ?_
  refine lv_aload_n hx hb dL_law_290 rfl (lv_at hl 0 rfl) ?_
  refine lv_iload hx hb dL_law_291 (lv_at hl 4 rfl) ?_
  refine lv_iconst (v := 1) hx hb dL_law_293 (by decide) ?_
  refine lv_iadd hx hb dL_law_294 ?_
  refine lv_topi (fun y1 ey1 => ?_)
  obtain rfl : y1 = nI (7 * k + 1) := ey1.trans (nI_add (7 * k) 1)
  refine va_sld hx hb hX hbl hbA hS (vp_in_nI (n := 7 * k + 1) (by omega) (by omega)) dL_law_295 ?_
  obtain ⟨fsr, hPr⟩ := xi_recv hJX
  refine va_calli (va_runV (As := [.int (xs (nI (7 * k + 1)).toNatClampNeg)]) (rest := []) ⟨hx, hb, hml, hown, hts⟩ (k_X8_end l dC dI _ kI kB kQ xa XA Sx (xs (nI (7 * k + 1)).toNatClampNeg)) (cwV 1 hts gL_X8_end rfl rfl rfl (by decide +kernel) ⟨Nat.le_of_ble_eq_true rfl, Nat.le_of_ble_eq_true rfl⟩) ⟨xB_bl, va_recv hK hPr (ci := 8) (q0 := 0) rfl rfl, xB_in hJX (k3_of hK)⟩ rfl rfl hl.1 rfl (lv_room (Nat.le_of_ble_eq_true rfl)) dL_law_296 ⟨by show _ ≤ 601024; omega, by show _ ≤ 7293034; omega⟩) hS (fun q _ h => lx_A dis.1 hA hS q h) (lx_A dis.1 hA hS) (fun r2 u t H1 locs ht hvm hw hB hz1 hk1 hS => ?_)
  have hJM := mi_keep hJM (fun q h1 h2 => hk1 q h1 (lx_no dis.2.2.2.1 h1 h2))
  have hPo := lx_o hPo dis.2.2.2.2.1 hk1
  have hwx : xM_end Sx (xs (nI (7 * k + 1)).toNatClampNeg) r2 u := hw
  have hJX : XInv (dC, dI) kI kB kQ xa XA u t.heap := hB
  generalize u = ux at hwx hJX
  rw [ht] at hJX
  clear hk1 hz1 ht hvm
  generalize H1 = H at hJX hJM hPo hS ⊢
  refine lv_pop hx hb dL_law_299 rfl ?_
  refine lv_aload_n hx hb dL_law_300 rfl (lv_at hl 2 rfl) ?_
  refine lv_aload_n hx hb dL_law_301 rfl (lv_at hl 0 rfl) ?_
  refine lv_iload hx hb dL_law_302 (lv_at hl 4 rfl) ?_
  refine lv_iconst (v := 1) hx hb dL_law_304 (by decide) ?_
  refine lv_iadd hx hb dL_law_305 ?_
  refine lv_topi (fun y3 ey3 => ?_)
  obtain rfl : y3 = nI (7 * k + 1) := ey3.trans (nI_add (7 * k) 1)
  refine va_sld hx hb hX hbl hbA hS (vp_in_nI (n := 7 * k + 1) (by omega) (by omega)) dL_law_306 ?_
  obtain ⟨fsr, hPr⟩ := mi_recv hJM
  refine va_calli (va_runV (As := [.int (xs (nI (7 * k + 1)).toNatClampNeg)]) (rest := []) ⟨hx, hb, hml, hown, hts⟩ (k_X9_end l dC dI _ kI kB kQ ma MA Sm (xs (nI (7 * k + 1)).toNatClampNeg)) (cwV 1 hts gL_X9_end rfl rfl rfl (by decide +kernel) ⟨Nat.le_of_ble_eq_true rfl, Nat.le_of_ble_eq_true rfl⟩) ⟨xB_bl, va_recv hK hPr (ci := 9) (q0 := 0) rfl rfl, xB_in hJM (k3_of hK)⟩ rfl rfl hl.1 rfl (lv_room (Nat.le_of_ble_eq_true rfl)) dL_law_307 ⟨by show _ ≤ 601024; omega, by show _ ≤ 7293034; omega⟩) hS (fun q _ h => lx_A dis.2.1 hA hS q h) (lx_A dis.2.1 hA hS) (fun r4 u t H1 locs ht hvm hw hB hz1 hk1 hS => ?_)
  have hJX := xi_keep hJX (fun q h1 h2 => hk1 q h1 (lx_no (fun q h g => dis.2.2.2.1 q g h) h1 h2))
  have hPo := lx_o hPo dis.2.2.2.2.2 hk1
  have hwm : mM_end Sm (xs (nI (7 * k + 1)).toNatClampNeg) r4 u := hw
  have hJM : MInv (dC, dI) kI kB ma MA u t.heap := hB
  generalize u = um at hwm hJM
  have hsr1 := sr_end hsr hfx hfm hwx hwm
  rw [ht] at hJM
  clear hk1 hz1 ht hvm
  generalize H1 = H at hJX hJM hPo hS ⊢
  refine lv_pop hx hb dL_law_310 rfl ?_
  refine lv_goto (tgt := 1697) hx hb dL_law_311 (by decide) ?_
  refine W.widen (k := cells + 1) (n := slots + 6) (by omega) (by omega) ?_
  exact hT _ _ _ ⟨ux, um, hsr1, hJX, hJM, fq, hPo⟩ hS (lv_sub hl [0, 1, 2, 3, 4] rfl)
set_option maxHeartbeats 4000000 in
set_option maxRecDepth 100000 in
theorem law_case_2 {p : Program} {e : Env} {s : State} {m : MethodId} {below : List Frame} {meth : Method} {c : Code} (l : Launch) (hlt : l.stackTraces = false) {b L : Nat} {xs : Nat → Int32} (C0 : lw_At p s m meth c b L xs) {A : Nat → Prop} (hA : ∀ q : Nat, s.heap.size ≤ q → A q) (hAs : ∀ q : Nat, A q → s.heap.size ≤ q) (hY : sy_E A s s.heap) {dC : Nat → ClassId} {dI : Nat → Nat → Nat} {kI kB kQ kL : ClassId} (hK : va_K (dC, dI) vwCl (k3 kI kB kQ ++ [(kL, .long)]) s) {xa ma qo : Nat} {XA MA : Nat → Prop} (dis : lw_dis XA MA qo A) (hL : L ≤ 3584) (k : Nat) (hk : 7 * k + 7 ≤ L) {H : Heap} {locs : List Loc} {ls : Array Slot} (hJ : LInv (dC, dI) kI kB kQ kL xa ma qo XA MA H) (hS : va_S A s.heap H locs) (hl : lv_has ls 7 [(0, .ref b), (1, .ref xa), (2, .ref ma), (3, .ref qo), (4, .int (nI (7 * k)))]) {cells slots : Nat} (hc : cells ≤ 600000) (hs : slots ≤ 7200000) (hT : ∀ (H : Heap) (locs : List Loc) (ls : Array Slot), LInv (dC, dI) kI kB kQ kL xa ma qo XA MA H → va_S A s.heap H locs → lv_has ls 7 [(0, .ref b), (1, .ref xa), (2, .ref ma), (3, .ref qo), (4, .int (nI (7 * k)))] → W p l e room_1 s m #[Value.ref b] below meth c H locs (cells + 1) (slots + 6) (lw_Z below #[Value.ref b] s) (F0 m 1697 ls [])) : W p l e room_1 s m #[Value.ref b] below meth c H locs cells slots (lw_Z below #[Value.ref b] s) (F0 m 314 ls []) := by
  obtain ⟨hx, hb, hr, hml, hown0, hts0, hX, hbl, hlocks, hgv⟩ := id C0
  have hown : s.vm.findClass RL = some m.cls := hown0
  have hts : ∀ w ∈ vsL, w.before #[Value.ref b] s = true := fun w h => hts0 w (vsL_in w h)
  have hbA : ¬ A b := fun h => absurd (hAs b h) (Nat.not_le.mpr hbl)
  obtain ⟨Sx, Sm, hsr, hJX, hJM, fq, hPo⟩ := hJ
  have hfx := xi_fact hJX
  have hfm := mi_fact hJM
  refine lv_aload_n hx hb dL_law_314 rfl (lv_at hl 1 rfl) ?_
  obtain ⟨fsr, hPr⟩ := xi_recv hJX
  refine va_calli (va_runV (As := []) (rest := []) ⟨hx, hb, hml, hown, hts⟩ (k_X8_automaton l dC dI _ kI kB kQ xa XA Sx ) (cwV 0 hts gL_X8_automaton rfl rfl rfl (by decide +kernel) ⟨Nat.le_of_ble_eq_true rfl, Nat.le_of_ble_eq_true rfl⟩) ⟨xB_bl, va_recv hK hPr (ci := 8) (q0 := 0) rfl rfl, xB_in hJX (k3_of hK)⟩ rfl rfl hl.1 rfl (lv_room (Nat.le_of_ble_eq_true rfl)) dL_law_315 ⟨by show _ ≤ 601024; omega, by show _ ≤ 7293034; omega⟩) hS (fun q _ h => lx_A dis.1 hA hS q h) (lx_A dis.1 hA hS) (fun r1 u t H1 locs ht hvm hw hB hz1 hk1 hS => ?_)
  have hJM := mi_keep hJM (fun q h1 h2 => hk1 q h1 (lx_no dis.2.2.2.1 h1 h2))
  have hPo := lx_o hPo dis.2.2.2.2.1 hk1
  have hwx : xM_automaton Sx  r1 u := hw
  have hJX : XInv (dC, dI) kI kB kQ xa XA u t.heap := hB
  generalize u = ux at hwx hJX
  rw [ht] at hJX
  clear hk1 hz1 ht hvm
  generalize H1 = H at hJX hJM hPo hS ⊢
  refine lv_pop hx hb dL_law_318 rfl ?_
  refine lv_aload_n hx hb dL_law_319 rfl (lv_at hl 2 rfl) ?_
  obtain ⟨fsr, hPr⟩ := mi_recv hJM
  refine va_calli (va_runV (As := []) (rest := []) ⟨hx, hb, hml, hown, hts⟩ (k_X9_automaton l dC dI _ kI kB kQ ma MA Sm ) (cwV 0 hts gL_X9_automaton rfl rfl rfl (by decide +kernel) ⟨Nat.le_of_ble_eq_true rfl, Nat.le_of_ble_eq_true rfl⟩) ⟨xB_bl, va_recv hK hPr (ci := 9) (q0 := 0) rfl rfl, xB_in hJM (k3_of hK)⟩ rfl rfl hl.1 rfl (lv_room (Nat.le_of_ble_eq_true rfl)) dL_law_320 ⟨by show _ ≤ 601024; omega, by show _ ≤ 7293034; omega⟩) hS (fun q _ h => lx_A dis.2.1 hA hS q h) (lx_A dis.2.1 hA hS) (fun r2 u t H1 locs ht hvm hw hB hz1 hk1 hS => ?_)
  have hJX := xi_keep hJX (fun q h1 h2 => hk1 q h1 (lx_no (fun q h g => dis.2.2.2.1 q g h) h1 h2))
  have hPo := lx_o hPo dis.2.2.2.2.2 hk1
  have hwm : mM_automaton Sm  r2 u := hw
  have hJM : MInv (dC, dI) kI kB ma MA u t.heap := hB
  generalize u = um at hwm hJM
  have hsr1 := sr_automaton hsr hfx hfm hwx hwm
  rw [ht] at hJM
  clear hk1 hz1 ht hvm
  generalize H1 = H at hJX hJM hPo hS ⊢
  refine lv_pop hx hb dL_law_323 rfl ?_
  refine lv_goto (tgt := 1697) hx hb dL_law_324 (by decide) ?_
  refine W.widen (k := cells + 1) (n := slots + 6) (by omega) (by omega) ?_
  exact hT _ _ _ ⟨ux, um, hsr1, hJX, hJM, fq, hPo⟩ hS (lv_sub hl [0, 1, 2, 3, 4] rfl)
set_option maxHeartbeats 4000000 in
set_option maxRecDepth 100000 in
theorem law_case_3 {p : Program} {e : Env} {s : State} {m : MethodId} {below : List Frame} {meth : Method} {c : Code} (l : Launch) (hlt : l.stackTraces = false) {b L : Nat} {xs : Nat → Int32} (C0 : lw_At p s m meth c b L xs) {A : Nat → Prop} (hA : ∀ q : Nat, s.heap.size ≤ q → A q) (hAs : ∀ q : Nat, A q → s.heap.size ≤ q) (hY : sy_E A s s.heap) {dC : Nat → ClassId} {dI : Nat → Nat → Nat} {kI kB kQ kL : ClassId} (hK : va_K (dC, dI) vwCl (k3 kI kB kQ ++ [(kL, .long)]) s) {xa ma qo : Nat} {XA MA : Nat → Prop} (dis : lw_dis XA MA qo A) (hL : L ≤ 3584) (k : Nat) (hk : 7 * k + 7 ≤ L) {H : Heap} {locs : List Loc} {ls : Array Slot} (hJ : LInv (dC, dI) kI kB kQ kL xa ma qo XA MA H) (hS : va_S A s.heap H locs) (hl : lv_has ls 7 [(0, .ref b), (1, .ref xa), (2, .ref ma), (3, .ref qo), (4, .int (nI (7 * k)))]) {cells slots : Nat} (hc : cells ≤ 600000) (hs : slots ≤ 7200000) (hT : ∀ (H : Heap) (locs : List Loc) (ls : Array Slot), LInv (dC, dI) kI kB kQ kL xa ma qo XA MA H → va_S A s.heap H locs → lv_has ls 7 [(0, .ref b), (1, .ref xa), (2, .ref ma), (3, .ref qo), (4, .int (nI (7 * k)))] → W p l e room_1 s m #[Value.ref b] below meth c H locs (cells + 1) (slots + 6) (lw_Z below #[Value.ref b] s) (F0 m 1697 ls [])) : W p l e room_1 s m #[Value.ref b] below meth c H locs cells slots (lw_Z below #[Value.ref b] s) (F0 m 327 ls []) := by
  obtain ⟨hx, hb, hr, hml, hown0, hts0, hX, hbl, hlocks, hgv⟩ := id C0
  have hown : s.vm.findClass RL = some m.cls := hown0
  have hts : ∀ w ∈ vsL, w.before #[Value.ref b] s = true := fun w h => hts0 w (vsL_in w h)
  have hbA : ¬ A b := fun h => absurd (hAs b h) (Nat.not_le.mpr hbl)
  obtain ⟨Sx, Sm, hsr, hJX, hJM, fq, hPo⟩ := hJ
  have hfx := xi_fact hJX
  have hfm := mi_fact hJM
  refine lv_aload_n hx hb dL_law_327 rfl (lv_at hl 1 rfl) ?_
  refine lv_aload_n hx hb dL_law_328 rfl (lv_at hl 0 rfl) ?_
  refine lv_iload hx hb dL_law_329 (lv_at hl 4 rfl) ?_
  refine lv_iconst (v := 1) hx hb dL_law_331 (by decide) ?_
  refine lv_iadd hx hb dL_law_332 ?_
  refine lv_topi (fun y1 ey1 => ?_)
  obtain rfl : y1 = nI (7 * k + 1) := ey1.trans (nI_add (7 * k) 1)
  refine va_sld hx hb hX hbl hbA hS (vp_in_nI (n := 7 * k + 1) (by omega) (by omega)) dL_law_333 ?_
  obtain ⟨fsr, hPr⟩ := xi_recv hJX
  refine va_calli (va_runV (As := [.int (xs (nI (7 * k + 1)).toNatClampNeg)]) (rest := []) ⟨hx, hb, hml, hown, hts⟩ (k_X8_fault l dC dI _ kI kB kQ xa XA Sx (xs (nI (7 * k + 1)).toNatClampNeg)) (cwV 1 hts gL_X8_fault rfl rfl rfl (by decide +kernel) ⟨Nat.le_of_ble_eq_true rfl, Nat.le_of_ble_eq_true rfl⟩) ⟨xB_bl, va_recv hK hPr (ci := 8) (q0 := 0) rfl rfl, xB_in hJX (k3_of hK)⟩ rfl rfl hl.1 rfl (lv_room (Nat.le_of_ble_eq_true rfl)) dL_law_334 ⟨by show _ ≤ 601024; omega, by show _ ≤ 7293034; omega⟩) hS (fun q _ h => lx_A dis.1 hA hS q h) (lx_A dis.1 hA hS) (fun r2 u t H1 locs ht hvm hw hB hz1 hk1 hS => ?_)
  have hJM := mi_keep hJM (fun q h1 h2 => hk1 q h1 (lx_no dis.2.2.2.1 h1 h2))
  have hPo := lx_o hPo dis.2.2.2.2.1 hk1
  have hwx : xM_fault Sx (xs (nI (7 * k + 1)).toNatClampNeg) r2 u := hw
  have hJX : XInv (dC, dI) kI kB kQ xa XA u t.heap := hB
  generalize u = ux at hwx hJX
  rw [ht] at hJX
  clear hk1 hz1 ht hvm
  generalize H1 = H at hJX hJM hPo hS ⊢
  refine lv_pop hx hb dL_law_337 rfl ?_
  refine lv_aload_n hx hb dL_law_338 rfl (lv_at hl 2 rfl) ?_
  refine lv_aload_n hx hb dL_law_339 rfl (lv_at hl 0 rfl) ?_
  refine lv_iload hx hb dL_law_340 (lv_at hl 4 rfl) ?_
  refine lv_iconst (v := 1) hx hb dL_law_342 (by decide) ?_
  refine lv_iadd hx hb dL_law_343 ?_
  refine lv_topi (fun y3 ey3 => ?_)
  obtain rfl : y3 = nI (7 * k + 1) := ey3.trans (nI_add (7 * k) 1)
  refine va_sld hx hb hX hbl hbA hS (vp_in_nI (n := 7 * k + 1) (by omega) (by omega)) dL_law_344 ?_
  obtain ⟨fsr, hPr⟩ := mi_recv hJM
  refine va_calli (va_runV (As := [.int (xs (nI (7 * k + 1)).toNatClampNeg)]) (rest := []) ⟨hx, hb, hml, hown, hts⟩ (k_X9_fault l dC dI _ kI kB kQ ma MA Sm (xs (nI (7 * k + 1)).toNatClampNeg)) (cwV 1 hts gL_X9_fault rfl rfl rfl (by decide +kernel) ⟨Nat.le_of_ble_eq_true rfl, Nat.le_of_ble_eq_true rfl⟩) ⟨xB_bl, va_recv hK hPr (ci := 9) (q0 := 0) rfl rfl, xB_in hJM (k3_of hK)⟩ rfl rfl hl.1 rfl (lv_room (Nat.le_of_ble_eq_true rfl)) dL_law_345 ⟨by show _ ≤ 601024; omega, by show _ ≤ 7293034; omega⟩) hS (fun q _ h => lx_A dis.2.1 hA hS q h) (lx_A dis.2.1 hA hS) (fun r4 u t H1 locs ht hvm hw hB hz1 hk1 hS => ?_)
  have hJX := xi_keep hJX (fun q h1 h2 => hk1 q h1 (lx_no (fun q h g => dis.2.2.2.1 q g h) h1 h2))
  have hPo := lx_o hPo dis.2.2.2.2.2 hk1
  have hwm : mM_fault Sm (xs (nI (7 * k + 1)).toNatClampNeg) r4 u := hw
  have hJM : MInv (dC, dI) kI kB ma MA u t.heap := hB
  generalize u = um at hwm hJM
  have hsr1 := sr_fault hsr hfx hfm hwx hwm
  rw [ht] at hJM
  clear hk1 hz1 ht hvm
  generalize H1 = H at hJX hJM hPo hS ⊢
  refine lv_pop hx hb dL_law_348 rfl ?_
  refine lv_goto (tgt := 1697) hx hb dL_law_349 (by decide) ?_
  refine W.widen (k := cells + 1) (n := slots + 6) (by omega) (by omega) ?_
  exact hT _ _ _ ⟨ux, um, hsr1, hJX, hJM, fq, hPo⟩ hS (lv_sub hl [0, 1, 2, 3, 4] rfl)
set_option maxHeartbeats 4000000 in
set_option maxRecDepth 100000 in
theorem law_case_4 {p : Program} {e : Env} {s : State} {m : MethodId} {below : List Frame} {meth : Method} {c : Code} (l : Launch) (hlt : l.stackTraces = false) {b L : Nat} {xs : Nat → Int32} (C0 : lw_At p s m meth c b L xs) {A : Nat → Prop} (hA : ∀ q : Nat, s.heap.size ≤ q → A q) (hAs : ∀ q : Nat, A q → s.heap.size ≤ q) (hY : sy_E A s s.heap) {dC : Nat → ClassId} {dI : Nat → Nat → Nat} {kI kB kQ kL : ClassId} (hK : va_K (dC, dI) vwCl (k3 kI kB kQ ++ [(kL, .long)]) s) {xa ma qo : Nat} {XA MA : Nat → Prop} (dis : lw_dis XA MA qo A) (hL : L ≤ 3584) (k : Nat) (hk : 7 * k + 7 ≤ L) {H : Heap} {locs : List Loc} {ls : Array Slot} (hJ : LInv (dC, dI) kI kB kQ kL xa ma qo XA MA H) (hS : va_S A s.heap H locs) (hl : lv_has ls 7 [(0, .ref b), (1, .ref xa), (2, .ref ma), (3, .ref qo), (4, .int (nI (7 * k)))]) {cells slots : Nat} (hc : cells ≤ 600000) (hs : slots ≤ 7200000) (hT : ∀ (H : Heap) (locs : List Loc) (ls : Array Slot), LInv (dC, dI) kI kB kQ kL xa ma qo XA MA H → va_S A s.heap H locs → lv_has ls 7 [(0, .ref b), (1, .ref xa), (2, .ref ma), (3, .ref qo), (4, .int (nI (7 * k)))] → W p l e room_1 s m #[Value.ref b] below meth c H locs (cells + 1) (slots + 6) (lw_Z below #[Value.ref b] s) (F0 m 1697 ls [])) : W p l e room_1 s m #[Value.ref b] below meth c H locs cells slots (lw_Z below #[Value.ref b] s) (F0 m 352 ls []) := by
  obtain ⟨hx, hb, hr, hml, hown0, hts0, hX, hbl, hlocks, hgv⟩ := id C0
  have hown : s.vm.findClass RL = some m.cls := hown0
  have hts : ∀ w ∈ vsL, w.before #[Value.ref b] s = true := fun w h => hts0 w (vsL_in w h)
  have hbA : ¬ A b := fun h => absurd (hAs b h) (Nat.not_le.mpr hbl)
  obtain ⟨Sx, Sm, hsr, hJX, hJM, fq, hPo⟩ := hJ
  have hfx := xi_fact hJX
  have hfm := mi_fact hJM
  refine lv_aload_n hx hb dL_law_352 rfl (lv_at hl 1 rfl) ?_
  refine lv_aload_n hx hb dL_law_353 rfl (lv_at hl 0 rfl) ?_
  refine lv_iload hx hb dL_law_354 (lv_at hl 4 rfl) ?_
  refine lv_iconst (v := 1) hx hb dL_law_356 (by decide) ?_
  refine lv_iadd hx hb dL_law_357 ?_
  refine lv_topi (fun y1 ey1 => ?_)
  obtain rfl : y1 = nI (7 * k + 1) := ey1.trans (nI_add (7 * k) 1)
  refine va_sld hx hb hX hbl hbA hS (vp_in_nI (n := 7 * k + 1) (by omega) (by omega)) dL_law_358 ?_
  obtain ⟨fsr, hPr⟩ := xi_recv hJX
  refine va_calli (va_runV (As := [.int (xs (nI (7 * k + 1)).toNatClampNeg)]) (rest := []) ⟨hx, hb, hml, hown, hts⟩ (k_X8_about l dC dI _ kI kB kQ xa XA Sx (xs (nI (7 * k + 1)).toNatClampNeg)) (cwV 1 hts gL_X8_about rfl rfl rfl (by decide +kernel) ⟨Nat.le_of_ble_eq_true rfl, Nat.le_of_ble_eq_true rfl⟩) ⟨xB_bl, va_recv hK hPr (ci := 8) (q0 := 0) rfl rfl, xB_in hJX (k3_of hK)⟩ rfl rfl hl.1 rfl (lv_room (Nat.le_of_ble_eq_true rfl)) dL_law_359 ⟨by show _ ≤ 601024; omega, by show _ ≤ 7293034; omega⟩) hS (fun q _ h => lx_A dis.1 hA hS q h) (lx_A dis.1 hA hS) (fun r2 u t H1 locs ht hvm hw hB hz1 hk1 hS => ?_)
  have hJM := mi_keep hJM (fun q h1 h2 => hk1 q h1 (lx_no dis.2.2.2.1 h1 h2))
  have hPo := lx_o hPo dis.2.2.2.2.1 hk1
  have hwx : xM_about Sx (xs (nI (7 * k + 1)).toNatClampNeg) r2 u := hw
  have hJX : XInv (dC, dI) kI kB kQ xa XA u t.heap := hB
  generalize u = ux at hwx hJX
  rw [ht] at hJX
  clear hk1 hz1 ht hvm
  generalize H1 = H at hJX hJM hPo hS ⊢
  refine lv_pop hx hb dL_law_362 rfl ?_
  refine lv_aload_n hx hb dL_law_363 rfl (lv_at hl 2 rfl) ?_
  refine lv_aload_n hx hb dL_law_364 rfl (lv_at hl 0 rfl) ?_
  refine lv_iload hx hb dL_law_365 (lv_at hl 4 rfl) ?_
  refine lv_iconst (v := 1) hx hb dL_law_367 (by decide) ?_
  refine lv_iadd hx hb dL_law_368 ?_
  refine lv_topi (fun y3 ey3 => ?_)
  obtain rfl : y3 = nI (7 * k + 1) := ey3.trans (nI_add (7 * k) 1)
  refine va_sld hx hb hX hbl hbA hS (vp_in_nI (n := 7 * k + 1) (by omega) (by omega)) dL_law_369 ?_
  obtain ⟨fsr, hPr⟩ := mi_recv hJM
  refine va_calli (va_runV (As := [.int (xs (nI (7 * k + 1)).toNatClampNeg)]) (rest := []) ⟨hx, hb, hml, hown, hts⟩ (k_X9_about l dC dI _ kI kB kQ ma MA Sm (xs (nI (7 * k + 1)).toNatClampNeg)) (cwV 1 hts gL_X9_about rfl rfl rfl (by decide +kernel) ⟨Nat.le_of_ble_eq_true rfl, Nat.le_of_ble_eq_true rfl⟩) ⟨xB_bl, va_recv hK hPr (ci := 9) (q0 := 0) rfl rfl, xB_in hJM (k3_of hK)⟩ rfl rfl hl.1 rfl (lv_room (Nat.le_of_ble_eq_true rfl)) dL_law_370 ⟨by show _ ≤ 601024; omega, by show _ ≤ 7293034; omega⟩) hS (fun q _ h => lx_A dis.2.1 hA hS q h) (lx_A dis.2.1 hA hS) (fun r4 u t H1 locs ht hvm hw hB hz1 hk1 hS => ?_)
  have hJX := xi_keep hJX (fun q h1 h2 => hk1 q h1 (lx_no (fun q h g => dis.2.2.2.1 q g h) h1 h2))
  have hPo := lx_o hPo dis.2.2.2.2.2 hk1
  have hwm : mM_about Sm (xs (nI (7 * k + 1)).toNatClampNeg) r4 u := hw
  have hJM : MInv (dC, dI) kI kB ma MA u t.heap := hB
  generalize u = um at hwm hJM
  have hsr1 := sr_about hsr hfx hfm hwx hwm
  rw [ht] at hJM
  clear hk1 hz1 ht hvm
  generalize H1 = H at hJX hJM hPo hS ⊢
  refine lv_pop hx hb dL_law_373 rfl ?_
  refine lv_goto (tgt := 1697) hx hb dL_law_374 (by decide) ?_
  refine W.widen (k := cells + 1) (n := slots + 6) (by omega) (by omega) ?_
  exact hT _ _ _ ⟨ux, um, hsr1, hJX, hJM, fq, hPo⟩ hS (lv_sub hl [0, 1, 2, 3, 4] rfl)
set_option maxHeartbeats 4000000 in
set_option maxRecDepth 100000 in
theorem law_case_5 {p : Program} {e : Env} {s : State} {m : MethodId} {below : List Frame} {meth : Method} {c : Code} (l : Launch) (hlt : l.stackTraces = false) {b L : Nat} {xs : Nat → Int32} (C0 : lw_At p s m meth c b L xs) {A : Nat → Prop} (hA : ∀ q : Nat, s.heap.size ≤ q → A q) (hAs : ∀ q : Nat, A q → s.heap.size ≤ q) (hY : sy_E A s s.heap) {dC : Nat → ClassId} {dI : Nat → Nat → Nat} {kI kB kQ kL : ClassId} (hK : va_K (dC, dI) vwCl (k3 kI kB kQ ++ [(kL, .long)]) s) {xa ma qo : Nat} {XA MA : Nat → Prop} (dis : lw_dis XA MA qo A) (hL : L ≤ 3584) (k : Nat) (hk : 7 * k + 7 ≤ L) {H : Heap} {locs : List Loc} {ls : Array Slot} (hJ : LInv (dC, dI) kI kB kQ kL xa ma qo XA MA H) (hS : va_S A s.heap H locs) (hl : lv_has ls 7 [(0, .ref b), (1, .ref xa), (2, .ref ma), (3, .ref qo), (4, .int (nI (7 * k)))]) {cells slots : Nat} (hc : cells ≤ 600000) (hs : slots ≤ 7200000) (hT : ∀ (H : Heap) (locs : List Loc) (ls : Array Slot), LInv (dC, dI) kI kB kQ kL xa ma qo XA MA H → va_S A s.heap H locs → lv_has ls 7 [(0, .ref b), (1, .ref xa), (2, .ref ma), (3, .ref qo), (4, .int (nI (7 * k)))] → W p l e room_1 s m #[Value.ref b] below meth c H locs (cells + 1) (slots + 6) (lw_Z below #[Value.ref b] s) (F0 m 1697 ls [])) : W p l e room_1 s m #[Value.ref b] below meth c H locs cells slots (lw_Z below #[Value.ref b] s) (F0 m 377 ls []) := by
  obtain ⟨hx, hb, hr, hml, hown0, hts0, hX, hbl, hlocks, hgv⟩ := id C0
  have hown : s.vm.findClass RL = some m.cls := hown0
  have hts : ∀ w ∈ vsL, w.before #[Value.ref b] s = true := fun w h => hts0 w (vsL_in w h)
  have hbA : ¬ A b := fun h => absurd (hAs b h) (Nat.not_le.mpr hbl)
  obtain ⟨Sx, Sm, hsr, hJX, hJM, fq, hPo⟩ := hJ
  have hfx := xi_fact hJX
  have hfm := mi_fact hJM
  refine lv_aload_n hx hb dL_law_377 rfl (lv_at hl 1 rfl) ?_
  refine lv_aload_n hx hb dL_law_378 rfl (lv_at hl 0 rfl) ?_
  refine lv_iload hx hb dL_law_379 (lv_at hl 4 rfl) ?_
  refine lv_iconst (v := 1) hx hb dL_law_381 (by decide) ?_
  refine lv_iadd hx hb dL_law_382 ?_
  refine lv_topi (fun y1 ey1 => ?_)
  obtain rfl : y1 = nI (7 * k + 1) := ey1.trans (nI_add (7 * k) 1)
  refine va_sld hx hb hX hbl hbA hS (vp_in_nI (n := 7 * k + 1) (by omega) (by omega)) dL_law_383 ?_
  refine lv_aload_n hx hb dL_law_384 rfl (lv_at hl 0 rfl) ?_
  refine lv_iload hx hb dL_law_385 (lv_at hl 4 rfl) ?_
  refine lv_iconst (v := 2) hx hb dL_law_387 (by decide) ?_
  refine lv_iadd hx hb dL_law_388 ?_
  refine lv_topi (fun y2 ey2 => ?_)
  obtain rfl : y2 = nI (7 * k + 2) := ey2.trans (nI_add (7 * k) 2)
  refine va_sld hx hb hX hbl hbA hS (vp_in_nI (n := 7 * k + 2) (by omega) (by omega)) dL_law_389 ?_
  obtain ⟨fsr, hPr⟩ := xi_recv hJX
  refine va_calli (va_runV (As := [.int (xs (nI (7 * k + 1)).toNatClampNeg), .int (xs (nI (7 * k + 2)).toNatClampNeg)]) (rest := []) ⟨hx, hb, hml, hown, hts⟩ (k_X8_place l dC dI _ kI kB kQ xa XA Sx (xs (nI (7 * k + 1)).toNatClampNeg) (xs (nI (7 * k + 2)).toNatClampNeg)) (cwV 2 hts gL_X8_place rfl rfl rfl (by decide +kernel) ⟨Nat.le_of_ble_eq_true rfl, Nat.le_of_ble_eq_true rfl⟩) ⟨xB_bl, va_recv hK hPr (ci := 8) (q0 := 0) rfl rfl, xB_in hJX (k3_of hK)⟩ rfl rfl hl.1 rfl (lv_room (Nat.le_of_ble_eq_true rfl)) dL_law_390 ⟨by show _ ≤ 601024; omega, by show _ ≤ 7293034; omega⟩) hS (fun q _ h => lx_A dis.1 hA hS q h) (lx_A dis.1 hA hS) (fun r3 u t H1 locs ht hvm hw hB hz1 hk1 hS => ?_)
  have hJM := mi_keep hJM (fun q h1 h2 => hk1 q h1 (lx_no dis.2.2.2.1 h1 h2))
  have hPo := lx_o hPo dis.2.2.2.2.1 hk1
  have hwx : xM_place Sx (xs (nI (7 * k + 1)).toNatClampNeg) (xs (nI (7 * k + 2)).toNatClampNeg) r3 u := hw
  have hJX : XInv (dC, dI) kI kB kQ xa XA u t.heap := hB
  generalize u = ux at hwx hJX
  rw [ht] at hJX
  clear hk1 hz1 ht hvm
  generalize H1 = H at hJX hJM hPo hS ⊢
  refine lv_pop hx hb dL_law_393 rfl ?_
  refine lv_aload_n hx hb dL_law_394 rfl (lv_at hl 2 rfl) ?_
  refine lv_aload_n hx hb dL_law_395 rfl (lv_at hl 0 rfl) ?_
  refine lv_iload hx hb dL_law_396 (lv_at hl 4 rfl) ?_
  refine lv_iconst (v := 1) hx hb dL_law_398 (by decide) ?_
  refine lv_iadd hx hb dL_law_399 ?_
  refine lv_topi (fun y4 ey4 => ?_)
  obtain rfl : y4 = nI (7 * k + 1) := ey4.trans (nI_add (7 * k) 1)
  refine va_sld hx hb hX hbl hbA hS (vp_in_nI (n := 7 * k + 1) (by omega) (by omega)) dL_law_400 ?_
  refine lv_aload_n hx hb dL_law_401 rfl (lv_at hl 0 rfl) ?_
  refine lv_iload hx hb dL_law_402 (lv_at hl 4 rfl) ?_
  refine lv_iconst (v := 2) hx hb dL_law_404 (by decide) ?_
  refine lv_iadd hx hb dL_law_405 ?_
  refine lv_topi (fun y5 ey5 => ?_)
  obtain rfl : y5 = nI (7 * k + 2) := ey5.trans (nI_add (7 * k) 2)
  refine va_sld hx hb hX hbl hbA hS (vp_in_nI (n := 7 * k + 2) (by omega) (by omega)) dL_law_406 ?_
  obtain ⟨fsr, hPr⟩ := mi_recv hJM
  refine va_calli (va_runV (As := [.int (xs (nI (7 * k + 1)).toNatClampNeg), .int (xs (nI (7 * k + 2)).toNatClampNeg)]) (rest := []) ⟨hx, hb, hml, hown, hts⟩ (k_X9_place l dC dI _ kI kB kQ ma MA Sm (xs (nI (7 * k + 1)).toNatClampNeg) (xs (nI (7 * k + 2)).toNatClampNeg)) (cwV 2 hts gL_X9_place rfl rfl rfl (by decide +kernel) ⟨Nat.le_of_ble_eq_true rfl, Nat.le_of_ble_eq_true rfl⟩) ⟨xB_bl, va_recv hK hPr (ci := 9) (q0 := 0) rfl rfl, xB_in hJM (k3_of hK)⟩ rfl rfl hl.1 rfl (lv_room (Nat.le_of_ble_eq_true rfl)) dL_law_407 ⟨by show _ ≤ 601024; omega, by show _ ≤ 7293034; omega⟩) hS (fun q _ h => lx_A dis.2.1 hA hS q h) (lx_A dis.2.1 hA hS) (fun r6 u t H1 locs ht hvm hw hB hz1 hk1 hS => ?_)
  have hJX := xi_keep hJX (fun q h1 h2 => hk1 q h1 (lx_no (fun q h g => dis.2.2.2.1 q g h) h1 h2))
  have hPo := lx_o hPo dis.2.2.2.2.2 hk1
  have hwm : mM_place Sm (xs (nI (7 * k + 1)).toNatClampNeg) (xs (nI (7 * k + 2)).toNatClampNeg) r6 u := hw
  have hJM : MInv (dC, dI) kI kB ma MA u t.heap := hB
  generalize u = um at hwm hJM
  have hsr1 := sr_place hsr hfx hfm hwx hwm
  rw [ht] at hJM
  clear hk1 hz1 ht hvm
  generalize H1 = H at hJX hJM hPo hS ⊢
  refine lv_pop hx hb dL_law_410 rfl ?_
  refine lv_goto (tgt := 1697) hx hb dL_law_411 (by decide) ?_
  refine W.widen (k := cells + 1) (n := slots + 6) (by omega) (by omega) ?_
  exact hT _ _ _ ⟨ux, um, hsr1, hJX, hJM, fq, hPo⟩ hS (lv_sub hl [0, 1, 2, 3, 4] rfl)
set_option maxHeartbeats 4000000 in
set_option maxRecDepth 100000 in
theorem law_case_6 {p : Program} {e : Env} {s : State} {m : MethodId} {below : List Frame} {meth : Method} {c : Code} (l : Launch) (hlt : l.stackTraces = false) {b L : Nat} {xs : Nat → Int32} (C0 : lw_At p s m meth c b L xs) {A : Nat → Prop} (hA : ∀ q : Nat, s.heap.size ≤ q → A q) (hAs : ∀ q : Nat, A q → s.heap.size ≤ q) (hY : sy_E A s s.heap) {dC : Nat → ClassId} {dI : Nat → Nat → Nat} {kI kB kQ kL : ClassId} (hK : va_K (dC, dI) vwCl (k3 kI kB kQ ++ [(kL, .long)]) s) {xa ma qo : Nat} {XA MA : Nat → Prop} (dis : lw_dis XA MA qo A) (hL : L ≤ 3584) (k : Nat) (hk : 7 * k + 7 ≤ L) {H : Heap} {locs : List Loc} {ls : Array Slot} (hJ : LInv (dC, dI) kI kB kQ kL xa ma qo XA MA H) (hS : va_S A s.heap H locs) (hl : lv_has ls 7 [(0, .ref b), (1, .ref xa), (2, .ref ma), (3, .ref qo), (4, .int (nI (7 * k)))]) {cells slots : Nat} (hc : cells ≤ 600000) (hs : slots ≤ 7200000) (hT : ∀ (H : Heap) (locs : List Loc) (ls : Array Slot), LInv (dC, dI) kI kB kQ kL xa ma qo XA MA H → va_S A s.heap H locs → lv_has ls 7 [(0, .ref b), (1, .ref xa), (2, .ref ma), (3, .ref qo), (4, .int (nI (7 * k)))] → W p l e room_1 s m #[Value.ref b] below meth c H locs (cells + 1) (slots + 6) (lw_Z below #[Value.ref b] s) (F0 m 1697 ls [])) : W p l e room_1 s m #[Value.ref b] below meth c H locs cells slots (lw_Z below #[Value.ref b] s) (F0 m 414 ls []) := by
  obtain ⟨hx, hb, hr, hml, hown0, hts0, hX, hbl, hlocks, hgv⟩ := id C0
  have hown : s.vm.findClass RL = some m.cls := hown0
  have hts : ∀ w ∈ vsL, w.before #[Value.ref b] s = true := fun w h => hts0 w (vsL_in w h)
  have hbA : ¬ A b := fun h => absurd (hAs b h) (Nat.not_le.mpr hbl)
  obtain ⟨Sx, Sm, hsr, hJX, hJM, fq, hPo⟩ := hJ
  have hfx := xi_fact hJX
  have hfm := mi_fact hJM
  refine lv_aload_n hx hb dL_law_414 rfl (lv_at hl 1 rfl) ?_
  refine lv_aload_n hx hb dL_law_415 rfl (lv_at hl 0 rfl) ?_
  refine lv_iload hx hb dL_law_416 (lv_at hl 4 rfl) ?_
  refine lv_iconst (v := 1) hx hb dL_law_418 (by decide) ?_
  refine lv_iadd hx hb dL_law_419 ?_
  refine lv_topi (fun y1 ey1 => ?_)
  obtain rfl : y1 = nI (7 * k + 1) := ey1.trans (nI_add (7 * k) 1)
  refine va_sld hx hb hX hbl hbA hS (vp_in_nI (n := 7 * k + 1) (by omega) (by omega)) dL_law_420 ?_
  refine lv_aload_n hx hb dL_law_421 rfl (lv_at hl 0 rfl) ?_
  refine lv_iload hx hb dL_law_422 (lv_at hl 4 rfl) ?_
  refine lv_iconst (v := 2) hx hb dL_law_424 (by decide) ?_
  refine lv_iadd hx hb dL_law_425 ?_
  refine lv_topi (fun y2 ey2 => ?_)
  obtain rfl : y2 = nI (7 * k + 2) := ey2.trans (nI_add (7 * k) 2)
  refine va_sld hx hb hX hbl hbA hS (vp_in_nI (n := 7 * k + 2) (by omega) (by omega)) dL_law_426 ?_
  obtain ⟨fsr, hPr⟩ := xi_recv hJX
  refine va_calli (va_runV (As := [.int (xs (nI (7 * k + 1)).toNatClampNeg), .int (xs (nI (7 * k + 2)).toNatClampNeg)]) (rest := []) ⟨hx, hb, hml, hown, hts⟩ (k_X8_edge l dC dI _ kI kB kQ xa XA Sx (xs (nI (7 * k + 1)).toNatClampNeg) (xs (nI (7 * k + 2)).toNatClampNeg)) (cwV 2 hts gL_X8_edge rfl rfl rfl (by decide +kernel) ⟨Nat.le_of_ble_eq_true rfl, Nat.le_of_ble_eq_true rfl⟩) ⟨xB_bl, va_recv hK hPr (ci := 8) (q0 := 0) rfl rfl, xB_in hJX (k3_of hK)⟩ rfl rfl hl.1 rfl (lv_room (Nat.le_of_ble_eq_true rfl)) dL_law_427 ⟨by show _ ≤ 601024; omega, by show _ ≤ 7293034; omega⟩) hS (fun q _ h => lx_A dis.1 hA hS q h) (lx_A dis.1 hA hS) (fun r3 u t H1 locs ht hvm hw hB hz1 hk1 hS => ?_)
  have hJM := mi_keep hJM (fun q h1 h2 => hk1 q h1 (lx_no dis.2.2.2.1 h1 h2))
  have hPo := lx_o hPo dis.2.2.2.2.1 hk1
  have hwx : xM_edge Sx (xs (nI (7 * k + 1)).toNatClampNeg) (xs (nI (7 * k + 2)).toNatClampNeg) r3 u := hw
  have hJX : XInv (dC, dI) kI kB kQ xa XA u t.heap := hB
  generalize u = ux at hwx hJX
  rw [ht] at hJX
  clear hk1 hz1 ht hvm
  generalize H1 = H at hJX hJM hPo hS ⊢
  refine lv_pop hx hb dL_law_430 rfl ?_
  refine lv_aload_n hx hb dL_law_431 rfl (lv_at hl 2 rfl) ?_
  refine lv_aload_n hx hb dL_law_432 rfl (lv_at hl 0 rfl) ?_
  refine lv_iload hx hb dL_law_433 (lv_at hl 4 rfl) ?_
  refine lv_iconst (v := 1) hx hb dL_law_435 (by decide) ?_
  refine lv_iadd hx hb dL_law_436 ?_
  refine lv_topi (fun y4 ey4 => ?_)
  obtain rfl : y4 = nI (7 * k + 1) := ey4.trans (nI_add (7 * k) 1)
  refine va_sld hx hb hX hbl hbA hS (vp_in_nI (n := 7 * k + 1) (by omega) (by omega)) dL_law_437 ?_
  refine lv_aload_n hx hb dL_law_438 rfl (lv_at hl 0 rfl) ?_
  refine lv_iload hx hb dL_law_439 (lv_at hl 4 rfl) ?_
  refine lv_iconst (v := 2) hx hb dL_law_441 (by decide) ?_
  refine lv_iadd hx hb dL_law_442 ?_
  refine lv_topi (fun y5 ey5 => ?_)
  obtain rfl : y5 = nI (7 * k + 2) := ey5.trans (nI_add (7 * k) 2)
  refine va_sld hx hb hX hbl hbA hS (vp_in_nI (n := 7 * k + 2) (by omega) (by omega)) dL_law_443 ?_
  obtain ⟨fsr, hPr⟩ := mi_recv hJM
  refine va_calli (va_runV (As := [.int (xs (nI (7 * k + 1)).toNatClampNeg), .int (xs (nI (7 * k + 2)).toNatClampNeg)]) (rest := []) ⟨hx, hb, hml, hown, hts⟩ (k_X9_edge l dC dI _ kI kB kQ ma MA Sm (xs (nI (7 * k + 1)).toNatClampNeg) (xs (nI (7 * k + 2)).toNatClampNeg)) (cwV 2 hts gL_X9_edge rfl rfl rfl (by decide +kernel) ⟨Nat.le_of_ble_eq_true rfl, Nat.le_of_ble_eq_true rfl⟩) ⟨xB_bl, va_recv hK hPr (ci := 9) (q0 := 0) rfl rfl, xB_in hJM (k3_of hK)⟩ rfl rfl hl.1 rfl (lv_room (Nat.le_of_ble_eq_true rfl)) dL_law_444 ⟨by show _ ≤ 601024; omega, by show _ ≤ 7293034; omega⟩) hS (fun q _ h => lx_A dis.2.1 hA hS q h) (lx_A dis.2.1 hA hS) (fun r6 u t H1 locs ht hvm hw hB hz1 hk1 hS => ?_)
  have hJX := xi_keep hJX (fun q h1 h2 => hk1 q h1 (lx_no (fun q h g => dis.2.2.2.1 q g h) h1 h2))
  have hPo := lx_o hPo dis.2.2.2.2.2 hk1
  have hwm : mM_edge Sm (xs (nI (7 * k + 1)).toNatClampNeg) (xs (nI (7 * k + 2)).toNatClampNeg) r6 u := hw
  have hJM : MInv (dC, dI) kI kB ma MA u t.heap := hB
  generalize u = um at hwm hJM
  have hsr1 := sr_edge hsr hfx hfm hwx hwm
  rw [ht] at hJM
  clear hk1 hz1 ht hvm
  generalize H1 = H at hJX hJM hPo hS ⊢
  refine lv_pop hx hb dL_law_447 rfl ?_
  refine lv_goto (tgt := 1697) hx hb dL_law_448 (by decide) ?_
  refine W.widen (k := cells + 1) (n := slots + 6) (by omega) (by omega) ?_
  exact hT _ _ _ ⟨ux, um, hsr1, hJX, hJM, fq, hPo⟩ hS (lv_sub hl [0, 1, 2, 3, 4] rfl)
set_option maxHeartbeats 4000000 in
set_option maxRecDepth 100000 in
theorem law_case_7 {p : Program} {e : Env} {s : State} {m : MethodId} {below : List Frame} {meth : Method} {c : Code} (l : Launch) (hlt : l.stackTraces = false) {b L : Nat} {xs : Nat → Int32} (C0 : lw_At p s m meth c b L xs) {A : Nat → Prop} (hA : ∀ q : Nat, s.heap.size ≤ q → A q) (hAs : ∀ q : Nat, A q → s.heap.size ≤ q) (hY : sy_E A s s.heap) {dC : Nat → ClassId} {dI : Nat → Nat → Nat} {kI kB kQ kL : ClassId} (hK : va_K (dC, dI) vwCl (k3 kI kB kQ ++ [(kL, .long)]) s) {xa ma qo : Nat} {XA MA : Nat → Prop} (dis : lw_dis XA MA qo A) (hL : L ≤ 3584) (k : Nat) (hk : 7 * k + 7 ≤ L) {H : Heap} {locs : List Loc} {ls : Array Slot} (hJ : LInv (dC, dI) kI kB kQ kL xa ma qo XA MA H) (hS : va_S A s.heap H locs) (hl : lv_has ls 7 [(0, .ref b), (1, .ref xa), (2, .ref ma), (3, .ref qo), (4, .int (nI (7 * k)))]) {cells slots : Nat} (hc : cells ≤ 600000) (hs : slots ≤ 7200000) (hT : ∀ (H : Heap) (locs : List Loc) (ls : Array Slot), LInv (dC, dI) kI kB kQ kL xa ma qo XA MA H → va_S A s.heap H locs → lv_has ls 7 [(0, .ref b), (1, .ref xa), (2, .ref ma), (3, .ref qo), (4, .int (nI (7 * k)))] → W p l e room_1 s m #[Value.ref b] below meth c H locs (cells + 1) (slots + 6) (lw_Z below #[Value.ref b] s) (F0 m 1697 ls [])) : W p l e room_1 s m #[Value.ref b] below meth c H locs cells slots (lw_Z below #[Value.ref b] s) (F0 m 451 ls []) := by
  obtain ⟨hx, hb, hr, hml, hown0, hts0, hX, hbl, hlocks, hgv⟩ := id C0
  have hown : s.vm.findClass RL = some m.cls := hown0
  have hts : ∀ w ∈ vsL, w.before #[Value.ref b] s = true := fun w h => hts0 w (vsL_in w h)
  have hbA : ¬ A b := fun h => absurd (hAs b h) (Nat.not_le.mpr hbl)
  obtain ⟨Sx, Sm, hsr, hJX, hJM, fq, hPo⟩ := hJ
  have hfx := xi_fact hJX
  have hfm := mi_fact hJM
  refine lv_aload_n hx hb dL_law_451 rfl (lv_at hl 1 rfl) ?_
  refine lv_aload_n hx hb dL_law_452 rfl (lv_at hl 0 rfl) ?_
  refine lv_iload hx hb dL_law_453 (lv_at hl 4 rfl) ?_
  refine lv_iconst (v := 1) hx hb dL_law_455 (by decide) ?_
  refine lv_iadd hx hb dL_law_456 ?_
  refine lv_topi (fun y1 ey1 => ?_)
  obtain rfl : y1 = nI (7 * k + 1) := ey1.trans (nI_add (7 * k) 1)
  refine va_sld hx hb hX hbl hbA hS (vp_in_nI (n := 7 * k + 1) (by omega) (by omega)) dL_law_457 ?_
  refine lv_aload_n hx hb dL_law_458 rfl (lv_at hl 0 rfl) ?_
  refine lv_iload hx hb dL_law_459 (lv_at hl 4 rfl) ?_
  refine lv_iconst (v := 2) hx hb dL_law_461 (by decide) ?_
  refine lv_iadd hx hb dL_law_462 ?_
  refine lv_topi (fun y2 ey2 => ?_)
  obtain rfl : y2 = nI (7 * k + 2) := ey2.trans (nI_add (7 * k) 2)
  refine va_sld hx hb hX hbl hbA hS (vp_in_nI (n := 7 * k + 2) (by omega) (by omega)) dL_law_463 ?_
  refine lv_aload_n hx hb dL_law_464 rfl (lv_at hl 0 rfl) ?_
  refine lv_iload hx hb dL_law_465 (lv_at hl 4 rfl) ?_
  refine lv_iconst (v := 3) hx hb dL_law_467 (by decide) ?_
  refine lv_iadd hx hb dL_law_468 ?_
  refine lv_topi (fun y3 ey3 => ?_)
  obtain rfl : y3 = nI (7 * k + 3) := ey3.trans (nI_add (7 * k) 3)
  refine va_sld hx hb hX hbl hbA hS (vp_in_nI (n := 7 * k + 3) (by omega) (by omega)) dL_law_469 ?_
  obtain ⟨fsr, hPr⟩ := xi_recv hJX
  refine va_calli (va_runV (As := [.int (xs (nI (7 * k + 1)).toNatClampNeg), .int (xs (nI (7 * k + 2)).toNatClampNeg), .int (xs (nI (7 * k + 3)).toNatClampNeg)]) (rest := []) ⟨hx, hb, hml, hown, hts⟩ (k_X8_condition l dC dI _ kI kB kQ xa XA Sx (xs (nI (7 * k + 1)).toNatClampNeg) (xs (nI (7 * k + 2)).toNatClampNeg) (xs (nI (7 * k + 3)).toNatClampNeg)) (cwV 3 hts gL_X8_condition rfl rfl rfl (by decide +kernel) ⟨Nat.le_of_ble_eq_true rfl, Nat.le_of_ble_eq_true rfl⟩) ⟨xB_bl, va_recv hK hPr (ci := 8) (q0 := 0) rfl rfl, xB_in hJX (k3_of hK)⟩ rfl rfl hl.1 rfl (lv_room (Nat.le_of_ble_eq_true rfl)) dL_law_470 ⟨by show _ ≤ 601024; omega, by show _ ≤ 7293034; omega⟩) hS (fun q _ h => lx_A dis.1 hA hS q h) (lx_A dis.1 hA hS) (fun r4 u t H1 locs ht hvm hw hB hz1 hk1 hS => ?_)
  have hJM := mi_keep hJM (fun q h1 h2 => hk1 q h1 (lx_no dis.2.2.2.1 h1 h2))
  have hPo := lx_o hPo dis.2.2.2.2.1 hk1
  have hwx : xM_condition Sx (xs (nI (7 * k + 1)).toNatClampNeg) (xs (nI (7 * k + 2)).toNatClampNeg) (xs (nI (7 * k + 3)).toNatClampNeg) r4 u := hw
  have hJX : XInv (dC, dI) kI kB kQ xa XA u t.heap := hB
  generalize u = ux at hwx hJX
  rw [ht] at hJX
  clear hk1 hz1 ht hvm
  generalize H1 = H at hJX hJM hPo hS ⊢
  refine lv_pop hx hb dL_law_473 rfl ?_
  refine lv_aload_n hx hb dL_law_474 rfl (lv_at hl 2 rfl) ?_
  refine lv_aload_n hx hb dL_law_475 rfl (lv_at hl 0 rfl) ?_
  refine lv_iload hx hb dL_law_476 (lv_at hl 4 rfl) ?_
  refine lv_iconst (v := 1) hx hb dL_law_478 (by decide) ?_
  refine lv_iadd hx hb dL_law_479 ?_
  refine lv_topi (fun y5 ey5 => ?_)
  obtain rfl : y5 = nI (7 * k + 1) := ey5.trans (nI_add (7 * k) 1)
  refine va_sld hx hb hX hbl hbA hS (vp_in_nI (n := 7 * k + 1) (by omega) (by omega)) dL_law_480 ?_
  refine lv_aload_n hx hb dL_law_481 rfl (lv_at hl 0 rfl) ?_
  refine lv_iload hx hb dL_law_482 (lv_at hl 4 rfl) ?_
  refine lv_iconst (v := 2) hx hb dL_law_484 (by decide) ?_
  refine lv_iadd hx hb dL_law_485 ?_
  refine lv_topi (fun y6 ey6 => ?_)
  obtain rfl : y6 = nI (7 * k + 2) := ey6.trans (nI_add (7 * k) 2)
  refine va_sld hx hb hX hbl hbA hS (vp_in_nI (n := 7 * k + 2) (by omega) (by omega)) dL_law_486 ?_
  refine lv_aload_n hx hb dL_law_487 rfl (lv_at hl 0 rfl) ?_
  refine lv_iload hx hb dL_law_488 (lv_at hl 4 rfl) ?_
  refine lv_iconst (v := 3) hx hb dL_law_490 (by decide) ?_
  refine lv_iadd hx hb dL_law_491 ?_
  refine lv_topi (fun y7 ey7 => ?_)
  obtain rfl : y7 = nI (7 * k + 3) := ey7.trans (nI_add (7 * k) 3)
  refine va_sld hx hb hX hbl hbA hS (vp_in_nI (n := 7 * k + 3) (by omega) (by omega)) dL_law_492 ?_
  obtain ⟨fsr, hPr⟩ := mi_recv hJM
  refine va_calli (va_runV (As := [.int (xs (nI (7 * k + 1)).toNatClampNeg), .int (xs (nI (7 * k + 2)).toNatClampNeg), .int (xs (nI (7 * k + 3)).toNatClampNeg)]) (rest := []) ⟨hx, hb, hml, hown, hts⟩ (k_X9_condition l dC dI _ kI kB kQ ma MA Sm (xs (nI (7 * k + 1)).toNatClampNeg) (xs (nI (7 * k + 2)).toNatClampNeg) (xs (nI (7 * k + 3)).toNatClampNeg)) (cwV 3 hts gL_X9_condition rfl rfl rfl (by decide +kernel) ⟨Nat.le_of_ble_eq_true rfl, Nat.le_of_ble_eq_true rfl⟩) ⟨xB_bl, va_recv hK hPr (ci := 9) (q0 := 0) rfl rfl, xB_in hJM (k3_of hK)⟩ rfl rfl hl.1 rfl (lv_room (Nat.le_of_ble_eq_true rfl)) dL_law_493 ⟨by show _ ≤ 601024; omega, by show _ ≤ 7293034; omega⟩) hS (fun q _ h => lx_A dis.2.1 hA hS q h) (lx_A dis.2.1 hA hS) (fun r8 u t H1 locs ht hvm hw hB hz1 hk1 hS => ?_)
  have hJX := xi_keep hJX (fun q h1 h2 => hk1 q h1 (lx_no (fun q h g => dis.2.2.2.1 q g h) h1 h2))
  have hPo := lx_o hPo dis.2.2.2.2.2 hk1
  have hwm : mM_condition Sm (xs (nI (7 * k + 1)).toNatClampNeg) (xs (nI (7 * k + 2)).toNatClampNeg) (xs (nI (7 * k + 3)).toNatClampNeg) r8 u := hw
  have hJM : MInv (dC, dI) kI kB ma MA u t.heap := hB
  generalize u = um at hwm hJM
  have hsr1 := sr_condition hsr hfx hfm hwx hwm
  rw [ht] at hJM
  clear hk1 hz1 ht hvm
  generalize H1 = H at hJX hJM hPo hS ⊢
  refine lv_pop hx hb dL_law_496 rfl ?_
  refine lv_goto (tgt := 1697) hx hb dL_law_497 (by decide) ?_
  refine W.widen (k := cells + 1) (n := slots + 6) (by omega) (by omega) ?_
  exact hT _ _ _ ⟨ux, um, hsr1, hJX, hJM, fq, hPo⟩ hS (lv_sub hl [0, 1, 2, 3, 4] rfl)
set_option maxHeartbeats 4000000 in
set_option maxRecDepth 100000 in
theorem law_case_8 {p : Program} {e : Env} {s : State} {m : MethodId} {below : List Frame} {meth : Method} {c : Code} (l : Launch) (hlt : l.stackTraces = false) {b L : Nat} {xs : Nat → Int32} (C0 : lw_At p s m meth c b L xs) {A : Nat → Prop} (hA : ∀ q : Nat, s.heap.size ≤ q → A q) (hAs : ∀ q : Nat, A q → s.heap.size ≤ q) (hY : sy_E A s s.heap) {dC : Nat → ClassId} {dI : Nat → Nat → Nat} {kI kB kQ kL : ClassId} (hK : va_K (dC, dI) vwCl (k3 kI kB kQ ++ [(kL, .long)]) s) {xa ma qo : Nat} {XA MA : Nat → Prop} (dis : lw_dis XA MA qo A) (hL : L ≤ 3584) (k : Nat) (hk : 7 * k + 7 ≤ L) {H : Heap} {locs : List Loc} {ls : Array Slot} (hJ : LInv (dC, dI) kI kB kQ kL xa ma qo XA MA H) (hS : va_S A s.heap H locs) (hl : lv_has ls 7 [(0, .ref b), (1, .ref xa), (2, .ref ma), (3, .ref qo), (4, .int (nI (7 * k)))]) {cells slots : Nat} (hc : cells ≤ 600000) (hs : slots ≤ 7200000) (hT : ∀ (H : Heap) (locs : List Loc) (ls : Array Slot), LInv (dC, dI) kI kB kQ kL xa ma qo XA MA H → va_S A s.heap H locs → lv_has ls 7 [(0, .ref b), (1, .ref xa), (2, .ref ma), (3, .ref qo), (4, .int (nI (7 * k)))] → W p l e room_1 s m #[Value.ref b] below meth c H locs (cells + 1) (slots + 6) (lw_Z below #[Value.ref b] s) (F0 m 1697 ls [])) : W p l e room_1 s m #[Value.ref b] below meth c H locs cells slots (lw_Z below #[Value.ref b] s) (F0 m 500 ls []) := by
  obtain ⟨hx, hb, hr, hml, hown0, hts0, hX, hbl, hlocks, hgv⟩ := id C0
  have hown : s.vm.findClass RL = some m.cls := hown0
  have hts : ∀ w ∈ vsL, w.before #[Value.ref b] s = true := fun w h => hts0 w (vsL_in w h)
  have hbA : ¬ A b := fun h => absurd (hAs b h) (Nat.not_le.mpr hbl)
  obtain ⟨Sx, Sm, hsr, hJX, hJM, fq, hPo⟩ := hJ
  have hfx := xi_fact hJX
  have hfm := mi_fact hJM
  refine lv_aload_n hx hb dL_law_500 rfl (lv_at hl 1 rfl) ?_
  refine lv_aload_n hx hb dL_law_501 rfl (lv_at hl 0 rfl) ?_
  refine lv_iload hx hb dL_law_502 (lv_at hl 4 rfl) ?_
  refine lv_iconst (v := 1) hx hb dL_law_504 (by decide) ?_
  refine lv_iadd hx hb dL_law_505 ?_
  refine lv_topi (fun y1 ey1 => ?_)
  obtain rfl : y1 = nI (7 * k + 1) := ey1.trans (nI_add (7 * k) 1)
  refine va_sld hx hb hX hbl hbA hS (vp_in_nI (n := 7 * k + 1) (by omega) (by omega)) dL_law_506 ?_
  refine lv_aload_n hx hb dL_law_507 rfl (lv_at hl 0 rfl) ?_
  refine lv_iload hx hb dL_law_508 (lv_at hl 4 rfl) ?_
  refine lv_iconst (v := 2) hx hb dL_law_510 (by decide) ?_
  refine lv_iadd hx hb dL_law_511 ?_
  refine lv_topi (fun y2 ey2 => ?_)
  obtain rfl : y2 = nI (7 * k + 2) := ey2.trans (nI_add (7 * k) 2)
  refine va_sld hx hb hX hbl hbA hS (vp_in_nI (n := 7 * k + 2) (by omega) (by omega)) dL_law_512 ?_
  obtain ⟨fsr, hPr⟩ := xi_recv hJX
  refine va_calli (va_runV (As := [.int (xs (nI (7 * k + 1)).toNatClampNeg), .int (xs (nI (7 * k + 2)).toNatClampNeg)]) (rest := []) ⟨hx, hb, hml, hown, hts⟩ (k_X8_limit l dC dI _ kI kB kQ xa XA Sx (xs (nI (7 * k + 1)).toNatClampNeg) (xs (nI (7 * k + 2)).toNatClampNeg)) (cwV 2 hts gL_X8_limit rfl rfl rfl (by decide +kernel) ⟨Nat.le_of_ble_eq_true rfl, Nat.le_of_ble_eq_true rfl⟩) ⟨xB_bl, va_recv hK hPr (ci := 8) (q0 := 0) rfl rfl, xB_in hJX (k3_of hK)⟩ rfl rfl hl.1 rfl (lv_room (Nat.le_of_ble_eq_true rfl)) dL_law_513 ⟨by show _ ≤ 601024; omega, by show _ ≤ 7293034; omega⟩) hS (fun q _ h => lx_A dis.1 hA hS q h) (lx_A dis.1 hA hS) (fun r3 u t H1 locs ht hvm hw hB hz1 hk1 hS => ?_)
  have hJM := mi_keep hJM (fun q h1 h2 => hk1 q h1 (lx_no dis.2.2.2.1 h1 h2))
  have hPo := lx_o hPo dis.2.2.2.2.1 hk1
  have hwx : xM_limit Sx (xs (nI (7 * k + 1)).toNatClampNeg) (xs (nI (7 * k + 2)).toNatClampNeg) r3 u := hw
  have hJX : XInv (dC, dI) kI kB kQ xa XA u t.heap := hB
  generalize u = ux at hwx hJX
  rw [ht] at hJX
  clear hk1 hz1 ht hvm
  generalize H1 = H at hJX hJM hPo hS ⊢
  refine lv_pop hx hb dL_law_516 rfl ?_
  refine lv_aload_n hx hb dL_law_517 rfl (lv_at hl 2 rfl) ?_
  refine lv_aload_n hx hb dL_law_518 rfl (lv_at hl 0 rfl) ?_
  refine lv_iload hx hb dL_law_519 (lv_at hl 4 rfl) ?_
  refine lv_iconst (v := 1) hx hb dL_law_521 (by decide) ?_
  refine lv_iadd hx hb dL_law_522 ?_
  refine lv_topi (fun y4 ey4 => ?_)
  obtain rfl : y4 = nI (7 * k + 1) := ey4.trans (nI_add (7 * k) 1)
  refine va_sld hx hb hX hbl hbA hS (vp_in_nI (n := 7 * k + 1) (by omega) (by omega)) dL_law_523 ?_
  refine lv_aload_n hx hb dL_law_524 rfl (lv_at hl 0 rfl) ?_
  refine lv_iload hx hb dL_law_525 (lv_at hl 4 rfl) ?_
  refine lv_iconst (v := 2) hx hb dL_law_527 (by decide) ?_
  refine lv_iadd hx hb dL_law_528 ?_
  refine lv_topi (fun y5 ey5 => ?_)
  obtain rfl : y5 = nI (7 * k + 2) := ey5.trans (nI_add (7 * k) 2)
  refine va_sld hx hb hX hbl hbA hS (vp_in_nI (n := 7 * k + 2) (by omega) (by omega)) dL_law_529 ?_
  obtain ⟨fsr, hPr⟩ := mi_recv hJM
  refine va_calli (va_runV (As := [.int (xs (nI (7 * k + 1)).toNatClampNeg), .int (xs (nI (7 * k + 2)).toNatClampNeg)]) (rest := []) ⟨hx, hb, hml, hown, hts⟩ (k_X9_limit l dC dI _ kI kB kQ ma MA Sm (xs (nI (7 * k + 1)).toNatClampNeg) (xs (nI (7 * k + 2)).toNatClampNeg)) (cwV 2 hts gL_X9_limit rfl rfl rfl (by decide +kernel) ⟨Nat.le_of_ble_eq_true rfl, Nat.le_of_ble_eq_true rfl⟩) ⟨xB_bl, va_recv hK hPr (ci := 9) (q0 := 0) rfl rfl, xB_in hJM (k3_of hK)⟩ rfl rfl hl.1 rfl (lv_room (Nat.le_of_ble_eq_true rfl)) dL_law_530 ⟨by show _ ≤ 601024; omega, by show _ ≤ 7293034; omega⟩) hS (fun q _ h => lx_A dis.2.1 hA hS q h) (lx_A dis.2.1 hA hS) (fun r6 u t H1 locs ht hvm hw hB hz1 hk1 hS => ?_)
  have hJX := xi_keep hJX (fun q h1 h2 => hk1 q h1 (lx_no (fun q h g => dis.2.2.2.1 q g h) h1 h2))
  have hPo := lx_o hPo dis.2.2.2.2.2 hk1
  have hwm : mM_limit Sm (xs (nI (7 * k + 1)).toNatClampNeg) (xs (nI (7 * k + 2)).toNatClampNeg) r6 u := hw
  have hJM : MInv (dC, dI) kI kB ma MA u t.heap := hB
  generalize u = um at hwm hJM
  have hsr1 := sr_limit hsr hfx hfm hwx hwm
  rw [ht] at hJM
  clear hk1 hz1 ht hvm
  generalize H1 = H at hJX hJM hPo hS ⊢
  refine lv_pop hx hb dL_law_533 rfl ?_
  refine lv_goto (tgt := 1697) hx hb dL_law_534 (by decide) ?_
  refine W.widen (k := cells + 1) (n := slots + 6) (by omega) (by omega) ?_
  exact hT _ _ _ ⟨ux, um, hsr1, hJX, hJM, fq, hPo⟩ hS (lv_sub hl [0, 1, 2, 3, 4] rfl)
set_option maxHeartbeats 4000000 in
set_option maxRecDepth 100000 in
theorem law_case_9 {p : Program} {e : Env} {s : State} {m : MethodId} {below : List Frame} {meth : Method} {c : Code} (l : Launch) (hlt : l.stackTraces = false) {b L : Nat} {xs : Nat → Int32} (C0 : lw_At p s m meth c b L xs) {A : Nat → Prop} (hA : ∀ q : Nat, s.heap.size ≤ q → A q) (hAs : ∀ q : Nat, A q → s.heap.size ≤ q) (hY : sy_E A s s.heap) {dC : Nat → ClassId} {dI : Nat → Nat → Nat} {kI kB kQ kL : ClassId} (hK : va_K (dC, dI) vwCl (k3 kI kB kQ ++ [(kL, .long)]) s) {xa ma qo : Nat} {XA MA : Nat → Prop} (dis : lw_dis XA MA qo A) (hL : L ≤ 3584) (k : Nat) (hk : 7 * k + 7 ≤ L) {H : Heap} {locs : List Loc} {ls : Array Slot} (hJ : LInv (dC, dI) kI kB kQ kL xa ma qo XA MA H) (hS : va_S A s.heap H locs) (hl : lv_has ls 7 [(0, .ref b), (1, .ref xa), (2, .ref ma), (3, .ref qo), (4, .int (nI (7 * k)))]) {cells slots : Nat} (hc : cells ≤ 600000) (hs : slots ≤ 7200000) (hT : ∀ (H : Heap) (locs : List Loc) (ls : Array Slot), LInv (dC, dI) kI kB kQ kL xa ma qo XA MA H → va_S A s.heap H locs → lv_has ls 7 [(0, .ref b), (1, .ref xa), (2, .ref ma), (3, .ref qo), (4, .int (nI (7 * k)))] → W p l e room_1 s m #[Value.ref b] below meth c H locs (cells + 1) (slots + 6) (lw_Z below #[Value.ref b] s) (F0 m 1697 ls [])) : W p l e room_1 s m #[Value.ref b] below meth c H locs cells slots (lw_Z below #[Value.ref b] s) (F0 m 537 ls []) := by
  obtain ⟨hx, hb, hr, hml, hown0, hts0, hX, hbl, hlocks, hgv⟩ := id C0
  have hown : s.vm.findClass RL = some m.cls := hown0
  have hts : ∀ w ∈ vsL, w.before #[Value.ref b] s = true := fun w h => hts0 w (vsL_in w h)
  have hbA : ¬ A b := fun h => absurd (hAs b h) (Nat.not_le.mpr hbl)
  obtain ⟨Sx, Sm, hsr, hJX, hJM, fq, hPo⟩ := hJ
  have hfx := xi_fact hJX
  have hfm := mi_fact hJM
  refine lv_aload_n hx hb dL_law_537 rfl (lv_at hl 1 rfl) ?_
  refine lv_aload_n hx hb dL_law_538 rfl (lv_at hl 0 rfl) ?_
  refine lv_iload hx hb dL_law_539 (lv_at hl 4 rfl) ?_
  refine lv_iconst (v := 1) hx hb dL_law_541 (by decide) ?_
  refine lv_iadd hx hb dL_law_542 ?_
  refine lv_topi (fun y1 ey1 => ?_)
  obtain rfl : y1 = nI (7 * k + 1) := ey1.trans (nI_add (7 * k) 1)
  refine va_sld hx hb hX hbl hbA hS (vp_in_nI (n := 7 * k + 1) (by omega) (by omega)) dL_law_543 ?_
  refine lv_aload_n hx hb dL_law_544 rfl (lv_at hl 0 rfl) ?_
  refine lv_iload hx hb dL_law_545 (lv_at hl 4 rfl) ?_
  refine lv_iconst (v := 2) hx hb dL_law_547 (by decide) ?_
  refine lv_iadd hx hb dL_law_548 ?_
  refine lv_topi (fun y2 ey2 => ?_)
  obtain rfl : y2 = nI (7 * k + 2) := ey2.trans (nI_add (7 * k) 2)
  refine va_sld hx hb hX hbl hbA hS (vp_in_nI (n := 7 * k + 2) (by omega) (by omega)) dL_law_549 ?_
  refine lv_aload_n hx hb dL_law_550 rfl (lv_at hl 0 rfl) ?_
  refine lv_iload hx hb dL_law_551 (lv_at hl 4 rfl) ?_
  refine lv_iconst (v := 3) hx hb dL_law_553 (by decide) ?_
  refine lv_iadd hx hb dL_law_554 ?_
  refine lv_topi (fun y3 ey3 => ?_)
  obtain rfl : y3 = nI (7 * k + 3) := ey3.trans (nI_add (7 * k) 3)
  refine va_sld hx hb hX hbl hbA hS (vp_in_nI (n := 7 * k + 3) (by omega) (by omega)) dL_law_555 ?_
  obtain ⟨fsr, hPr⟩ := xi_recv hJX
  refine va_calli (va_runV (As := [.int (xs (nI (7 * k + 1)).toNatClampNeg), .int (xs (nI (7 * k + 2)).toNatClampNeg), .int (xs (nI (7 * k + 3)).toNatClampNeg)]) (rest := []) ⟨hx, hb, hml, hown, hts⟩ (k_X8_number l dC dI _ kI kB kQ xa XA Sx (xs (nI (7 * k + 1)).toNatClampNeg) (xs (nI (7 * k + 2)).toNatClampNeg) (xs (nI (7 * k + 3)).toNatClampNeg)) (cwV 3 hts gL_X8_number rfl rfl rfl (by decide +kernel) ⟨Nat.le_of_ble_eq_true rfl, Nat.le_of_ble_eq_true rfl⟩) ⟨xB_bl, va_recv hK hPr (ci := 8) (q0 := 0) rfl rfl, xB_in hJX (k3_of hK)⟩ rfl rfl hl.1 rfl (lv_room (Nat.le_of_ble_eq_true rfl)) dL_law_556 ⟨by show _ ≤ 601024; omega, by show _ ≤ 7293034; omega⟩) hS (fun q _ h => lx_A dis.1 hA hS q h) (lx_A dis.1 hA hS) (fun r4 u t H1 locs ht hvm hw hB hz1 hk1 hS => ?_)
  have hJM := mi_keep hJM (fun q h1 h2 => hk1 q h1 (lx_no dis.2.2.2.1 h1 h2))
  have hPo := lx_o hPo dis.2.2.2.2.1 hk1
  have hwx : xM_number Sx (xs (nI (7 * k + 1)).toNatClampNeg) (xs (nI (7 * k + 2)).toNatClampNeg) (xs (nI (7 * k + 3)).toNatClampNeg) r4 u := hw
  have hJX : XInv (dC, dI) kI kB kQ xa XA u t.heap := hB
  generalize u = ux at hwx hJX
  rw [ht] at hJX
  clear hk1 hz1 ht hvm
  generalize H1 = H at hJX hJM hPo hS ⊢
  refine lv_aload_n hx hb dL_law_559 rfl (lv_at hl 2 rfl) ?_
  refine lv_aload_n hx hb dL_law_560 rfl (lv_at hl 0 rfl) ?_
  refine lv_iload hx hb dL_law_561 (lv_at hl 4 rfl) ?_
  refine lv_iconst (v := 1) hx hb dL_law_563 (by decide) ?_
  refine lv_iadd hx hb dL_law_564 ?_
  refine lv_topi (fun y5 ey5 => ?_)
  obtain rfl : y5 = nI (7 * k + 1) := ey5.trans (nI_add (7 * k) 1)
  refine va_sld hx hb hX hbl hbA hS (vp_in_nI (n := 7 * k + 1) (by omega) (by omega)) dL_law_565 ?_
  refine lv_aload_n hx hb dL_law_566 rfl (lv_at hl 0 rfl) ?_
  refine lv_iload hx hb dL_law_567 (lv_at hl 4 rfl) ?_
  refine lv_iconst (v := 2) hx hb dL_law_569 (by decide) ?_
  refine lv_iadd hx hb dL_law_570 ?_
  refine lv_topi (fun y6 ey6 => ?_)
  obtain rfl : y6 = nI (7 * k + 2) := ey6.trans (nI_add (7 * k) 2)
  refine va_sld hx hb hX hbl hbA hS (vp_in_nI (n := 7 * k + 2) (by omega) (by omega)) dL_law_571 ?_
  refine lv_aload_n hx hb dL_law_572 rfl (lv_at hl 0 rfl) ?_
  refine lv_iload hx hb dL_law_573 (lv_at hl 4 rfl) ?_
  refine lv_iconst (v := 3) hx hb dL_law_575 (by decide) ?_
  refine lv_iadd hx hb dL_law_576 ?_
  refine lv_topi (fun y7 ey7 => ?_)
  obtain rfl : y7 = nI (7 * k + 3) := ey7.trans (nI_add (7 * k) 3)
  refine va_sld hx hb hX hbl hbA hS (vp_in_nI (n := 7 * k + 3) (by omega) (by omega)) dL_law_577 ?_
  obtain ⟨fsr, hPr⟩ := mi_recv hJM
  refine va_calli (va_runV (As := [.int (xs (nI (7 * k + 1)).toNatClampNeg), .int (xs (nI (7 * k + 2)).toNatClampNeg), .int (xs (nI (7 * k + 3)).toNatClampNeg)]) (rest := [.int r4]) ⟨hx, hb, hml, hown, hts⟩ (k_X9_number l dC dI _ kI kB kQ ma MA Sm (xs (nI (7 * k + 1)).toNatClampNeg) (xs (nI (7 * k + 2)).toNatClampNeg) (xs (nI (7 * k + 3)).toNatClampNeg)) (cwV 3 hts gL_X9_number rfl rfl rfl (by decide +kernel) ⟨Nat.le_of_ble_eq_true rfl, Nat.le_of_ble_eq_true rfl⟩) ⟨xB_bl, va_recv hK hPr (ci := 9) (q0 := 0) rfl rfl, xB_in hJM (k3_of hK)⟩ rfl rfl hl.1 rfl (lv_room (Nat.le_of_ble_eq_true rfl)) dL_law_578 ⟨by show _ ≤ 601024; omega, by show _ ≤ 7293034; omega⟩) hS (fun q _ h => lx_A dis.2.1 hA hS q h) (lx_A dis.2.1 hA hS) (fun r8 u t H1 locs ht hvm hw hB hz1 hk1 hS => ?_)
  have hJX := xi_keep hJX (fun q h1 h2 => hk1 q h1 (lx_no (fun q h g => dis.2.2.2.1 q g h) h1 h2))
  have hPo := lx_o hPo dis.2.2.2.2.2 hk1
  have hwm : mM_number Sm (xs (nI (7 * k + 1)).toNatClampNeg) (xs (nI (7 * k + 2)).toNatClampNeg) (xs (nI (7 * k + 3)).toNatClampNeg) r8 u := hw
  have hJM : MInv (dC, dI) kI kB ma MA u t.heap := hB
  generalize u = um at hwm hJM
  have hsr1 := sr_number hsr hfx hfm hwx hwm
  have hrr : r4 = r8 := eq_number hsr hfx hfm hwx hwm
  rw [ht] at hJM
  clear hk1 hz1 ht hvm
  generalize H1 = H at hJX hJM hPo hS ⊢
  refine lv_icmp_eq (tgt := 1697) hx hb dL_law_581 (by decide) (fun _ => ?_) (fun z => absurd hrr z)
  refine W.widen (k := cells + 1) (n := slots + 6) (by omega) (by omega) ?_
  exact hT _ _ _ ⟨ux, um, hsr1, hJX, hJM, fq, hPo⟩ hS (lv_sub hl [0, 1, 2, 3, 4] rfl)
set_option maxHeartbeats 4000000 in
set_option maxRecDepth 100000 in
theorem law_case_10 {p : Program} {e : Env} {s : State} {m : MethodId} {below : List Frame} {meth : Method} {c : Code} (l : Launch) (hlt : l.stackTraces = false) {b L : Nat} {xs : Nat → Int32} (C0 : lw_At p s m meth c b L xs) {A : Nat → Prop} (hA : ∀ q : Nat, s.heap.size ≤ q → A q) (hAs : ∀ q : Nat, A q → s.heap.size ≤ q) (hY : sy_E A s s.heap) {dC : Nat → ClassId} {dI : Nat → Nat → Nat} {kI kB kQ kL : ClassId} (hK : va_K (dC, dI) vwCl (k3 kI kB kQ ++ [(kL, .long)]) s) {xa ma qo : Nat} {XA MA : Nat → Prop} (dis : lw_dis XA MA qo A) (hL : L ≤ 3584) (k : Nat) (hk : 7 * k + 7 ≤ L) {H : Heap} {locs : List Loc} {ls : Array Slot} (hJ : LInv (dC, dI) kI kB kQ kL xa ma qo XA MA H) (hS : va_S A s.heap H locs) (hl : lv_has ls 7 [(0, .ref b), (1, .ref xa), (2, .ref ma), (3, .ref qo), (4, .int (nI (7 * k)))]) {cells slots : Nat} (hc : cells ≤ 600000) (hs : slots ≤ 7200000) (hT : ∀ (H : Heap) (locs : List Loc) (ls : Array Slot), LInv (dC, dI) kI kB kQ kL xa ma qo XA MA H → va_S A s.heap H locs → lv_has ls 7 [(0, .ref b), (1, .ref xa), (2, .ref ma), (3, .ref qo), (4, .int (nI (7 * k)))] → W p l e room_1 s m #[Value.ref b] below meth c H locs (cells + 1) (slots + 6) (lw_Z below #[Value.ref b] s) (F0 m 1697 ls [])) : W p l e room_1 s m #[Value.ref b] below meth c H locs cells slots (lw_Z below #[Value.ref b] s) (F0 m 586 ls []) := by
  obtain ⟨hx, hb, hr, hml, hown0, hts0, hX, hbl, hlocks, hgv⟩ := id C0
  have hown : s.vm.findClass RL = some m.cls := hown0
  have hts : ∀ w ∈ vsL, w.before #[Value.ref b] s = true := fun w h => hts0 w (vsL_in w h)
  have hbA : ¬ A b := fun h => absurd (hAs b h) (Nat.not_le.mpr hbl)
  obtain ⟨Sx, Sm, hsr, hJX, hJM, fq, hPo⟩ := hJ
  have hfx := xi_fact hJX
  have hfm := mi_fact hJM
  refine lv_aload_n hx hb dL_law_586 rfl (lv_at hl 1 rfl) ?_
  refine lv_aload_n hx hb dL_law_587 rfl (lv_at hl 0 rfl) ?_
  refine lv_iload hx hb dL_law_588 (lv_at hl 4 rfl) ?_
  refine lv_iconst (v := 1) hx hb dL_law_590 (by decide) ?_
  refine lv_iadd hx hb dL_law_591 ?_
  refine lv_topi (fun y1 ey1 => ?_)
  obtain rfl : y1 = nI (7 * k + 1) := ey1.trans (nI_add (7 * k) 1)
  refine va_sld hx hb hX hbl hbA hS (vp_in_nI (n := 7 * k + 1) (by omega) (by omega)) dL_law_592 ?_
  refine lv_aload_n hx hb dL_law_593 rfl (lv_at hl 0 rfl) ?_
  refine lv_iload hx hb dL_law_594 (lv_at hl 4 rfl) ?_
  refine lv_iconst (v := 2) hx hb dL_law_596 (by decide) ?_
  refine lv_iadd hx hb dL_law_597 ?_
  refine lv_topi (fun y2 ey2 => ?_)
  obtain rfl : y2 = nI (7 * k + 2) := ey2.trans (nI_add (7 * k) 2)
  refine va_sld hx hb hX hbl hbA hS (vp_in_nI (n := 7 * k + 2) (by omega) (by omega)) dL_law_598 ?_
  by_cases hz : xs (nI (7 * k + 2)).toNatClampNeg = 0
  · refine lv_if_eq (tgt := 606) hx hb dL_law_599 (by decide) (fun _ => ?_) (fun z => absurd hz z)
    refine lv_iconst (v := 0) hx hb dL_law_606 (by decide) ?_
    refine W.eq (g2 := F0 m 607 ls [.int (nI 0), .int (xs (nI (7 * k + 1)).toNatClampNeg), .ref xa]) rfl ?_
    obtain ⟨fsr, hPr⟩ := xi_recv hJX
    refine va_calli (va_runV (As := [.int (xs (nI (7 * k + 1)).toNatClampNeg), .int (nI 0)]) (rest := []) ⟨hx, hb, hml, hown, hts⟩ (k_X8_urgent l dC dI _ kI kB kQ xa XA Sx (xs (nI (7 * k + 1)).toNatClampNeg) 0 (Nat.le_of_ble_eq_true rfl)) (cwV 2 hts gL_X8_urgent rfl rfl rfl (by decide +kernel) ⟨Nat.le_of_ble_eq_true rfl, Nat.le_of_ble_eq_true rfl⟩) ⟨xB_bl, va_recv hK hPr (ci := 8) (q0 := 0) rfl rfl, xB_in hJX (k3_of hK)⟩ rfl rfl hl.1 rfl (lv_room (Nat.le_of_ble_eq_true rfl)) dL_law_607 ⟨by show _ ≤ 601024; omega, by show _ ≤ 7293034; omega⟩) hS (fun q _ h => lx_A dis.1 hA hS q h) (lx_A dis.1 hA hS) (fun r3 u t H1 locs ht hvm hw hB hz1 hk1 hS => ?_)
    have hJM := mi_keep hJM (fun q h1 h2 => hk1 q h1 (lx_no dis.2.2.2.1 h1 h2))
    have hPo := lx_o hPo dis.2.2.2.2.1 hk1
    have hwx : xM_urgent Sx (xs (nI (7 * k + 1)).toNatClampNeg) 0 r3 u := hw
    have hJX : XInv (dC, dI) kI kB kQ xa XA u t.heap := hB
    generalize u = ux at hwx hJX
    rw [ht] at hJX
    clear hk1 hz1 ht hvm
    generalize H1 = H at hJX hJM hPo hS ⊢
    refine lv_pop hx hb dL_law_610 rfl ?_
    refine lv_aload_n hx hb dL_law_611 rfl (lv_at hl 2 rfl) ?_
    refine lv_aload_n hx hb dL_law_612 rfl (lv_at hl 0 rfl) ?_
    refine lv_iload hx hb dL_law_613 (lv_at hl 4 rfl) ?_
    refine lv_iconst (v := 1) hx hb dL_law_615 (by decide) ?_
    refine lv_iadd hx hb dL_law_616 ?_
    refine lv_topi (fun y4 ey4 => ?_)
    obtain rfl : y4 = nI (7 * k + 1) := ey4.trans (nI_add (7 * k) 1)
    refine va_sld hx hb hX hbl hbA hS (vp_in_nI (n := 7 * k + 1) (by omega) (by omega)) dL_law_617 ?_
    refine lv_aload_n hx hb dL_law_618 rfl (lv_at hl 0 rfl) ?_
    refine lv_iload hx hb dL_law_619 (lv_at hl 4 rfl) ?_
    refine lv_iconst (v := 2) hx hb dL_law_621 (by decide) ?_
    refine lv_iadd hx hb dL_law_622 ?_
    refine lv_topi (fun y5 ey5 => ?_)
    obtain rfl : y5 = nI (7 * k + 2) := ey5.trans (nI_add (7 * k) 2)
    refine va_sld hx hb hX hbl hbA hS (vp_in_nI (n := 7 * k + 2) (by omega) (by omega)) dL_law_623 ?_
    refine lv_if_eq (tgt := 631) hx hb dL_law_624 (by decide) (fun _ => ?_) (fun z => absurd hz z)
    refine lv_iconst (v := 0) hx hb dL_law_631 (by decide) ?_
    refine W.eq (g2 := F0 m 632 ls [.int (nI 0), .int (xs (nI (7 * k + 1)).toNatClampNeg), .ref ma]) rfl ?_
    obtain ⟨fsr, hPr⟩ := mi_recv hJM
    refine va_calli (va_runV (As := [.int (xs (nI (7 * k + 1)).toNatClampNeg), .int (nI 0)]) (rest := []) ⟨hx, hb, hml, hown, hts⟩ (k_X9_urgent l dC dI _ kI kB kQ ma MA Sm (xs (nI (7 * k + 1)).toNatClampNeg) 0 (Nat.le_of_ble_eq_true rfl)) (cwV 2 hts gL_X9_urgent rfl rfl rfl (by decide +kernel) ⟨Nat.le_of_ble_eq_true rfl, Nat.le_of_ble_eq_true rfl⟩) ⟨xB_bl, va_recv hK hPr (ci := 9) (q0 := 0) rfl rfl, xB_in hJM (k3_of hK)⟩ rfl rfl hl.1 rfl (lv_room (Nat.le_of_ble_eq_true rfl)) dL_law_632 ⟨by show _ ≤ 601024; omega, by show _ ≤ 7293034; omega⟩) hS (fun q _ h => lx_A dis.2.1 hA hS q h) (lx_A dis.2.1 hA hS) (fun r6 u t H1 locs ht hvm hw hB hz1 hk1 hS => ?_)
    have hJX := xi_keep hJX (fun q h1 h2 => hk1 q h1 (lx_no (fun q h g => dis.2.2.2.1 q g h) h1 h2))
    have hPo := lx_o hPo dis.2.2.2.2.2 hk1
    have hwm : mM_urgent Sm (xs (nI (7 * k + 1)).toNatClampNeg) 0 r6 u := hw
    have hJM : MInv (dC, dI) kI kB ma MA u t.heap := hB
    generalize u = um at hwm hJM
    have hsr1 := sr_urgent hsr hfx hfm hwx hwm
    rw [ht] at hJM
    clear hk1 hz1 ht hvm
    generalize H1 = H at hJX hJM hPo hS ⊢
    refine lv_pop hx hb dL_law_635 rfl ?_
    refine lv_goto (tgt := 1697) hx hb dL_law_636 (by decide) ?_
    refine W.widen (k := cells + 1) (n := slots + 6) (by omega) (by omega) ?_
    exact hT _ _ _ ⟨ux, um, hsr1, hJX, hJM, fq, hPo⟩ hS (lv_sub hl [0, 1, 2, 3, 4] rfl)
  · refine lv_if_eq (tgt := 606) hx hb dL_law_599 (by decide) (fun z => absurd z hz) (fun _ => ?_)
    refine lv_iconst (v := 1) hx hb dL_law_602 (by decide) ?_
    refine lv_goto (tgt := 607) hx hb dL_law_603 (by decide) ?_
    refine W.eq (g2 := F0 m 607 ls [.int (nI 1), .int (xs (nI (7 * k + 1)).toNatClampNeg), .ref xa]) rfl ?_
    obtain ⟨fsr, hPr⟩ := xi_recv hJX
    refine va_calli (va_runV (As := [.int (xs (nI (7 * k + 1)).toNatClampNeg), .int (nI 1)]) (rest := []) ⟨hx, hb, hml, hown, hts⟩ (k_X8_urgent l dC dI _ kI kB kQ xa XA Sx (xs (nI (7 * k + 1)).toNatClampNeg) 1 (Nat.le_of_ble_eq_true rfl)) (cwV 2 hts gL_X8_urgent rfl rfl rfl (by decide +kernel) ⟨Nat.le_of_ble_eq_true rfl, Nat.le_of_ble_eq_true rfl⟩) ⟨xB_bl, va_recv hK hPr (ci := 8) (q0 := 0) rfl rfl, xB_in hJX (k3_of hK)⟩ rfl rfl hl.1 rfl (lv_room (Nat.le_of_ble_eq_true rfl)) dL_law_607 ⟨by show _ ≤ 601024; omega, by show _ ≤ 7293034; omega⟩) hS (fun q _ h => lx_A dis.1 hA hS q h) (lx_A dis.1 hA hS) (fun r7 u t H1 locs ht hvm hw hB hz1 hk1 hS => ?_)
    have hJM := mi_keep hJM (fun q h1 h2 => hk1 q h1 (lx_no dis.2.2.2.1 h1 h2))
    have hPo := lx_o hPo dis.2.2.2.2.1 hk1
    have hwx : xM_urgent Sx (xs (nI (7 * k + 1)).toNatClampNeg) 1 r7 u := hw
    have hJX : XInv (dC, dI) kI kB kQ xa XA u t.heap := hB
    generalize u = ux at hwx hJX
    rw [ht] at hJX
    clear hk1 hz1 ht hvm
    generalize H1 = H at hJX hJM hPo hS ⊢
    refine lv_pop hx hb dL_law_610 rfl ?_
    refine lv_aload_n hx hb dL_law_611 rfl (lv_at hl 2 rfl) ?_
    refine lv_aload_n hx hb dL_law_612 rfl (lv_at hl 0 rfl) ?_
    refine lv_iload hx hb dL_law_613 (lv_at hl 4 rfl) ?_
    refine lv_iconst (v := 1) hx hb dL_law_615 (by decide) ?_
    refine lv_iadd hx hb dL_law_616 ?_
    refine lv_topi (fun y8 ey8 => ?_)
    obtain rfl : y8 = nI (7 * k + 1) := ey8.trans (nI_add (7 * k) 1)
    refine va_sld hx hb hX hbl hbA hS (vp_in_nI (n := 7 * k + 1) (by omega) (by omega)) dL_law_617 ?_
    refine lv_aload_n hx hb dL_law_618 rfl (lv_at hl 0 rfl) ?_
    refine lv_iload hx hb dL_law_619 (lv_at hl 4 rfl) ?_
    refine lv_iconst (v := 2) hx hb dL_law_621 (by decide) ?_
    refine lv_iadd hx hb dL_law_622 ?_
    refine lv_topi (fun y9 ey9 => ?_)
    obtain rfl : y9 = nI (7 * k + 2) := ey9.trans (nI_add (7 * k) 2)
    refine va_sld hx hb hX hbl hbA hS (vp_in_nI (n := 7 * k + 2) (by omega) (by omega)) dL_law_623 ?_
    refine lv_if_eq (tgt := 631) hx hb dL_law_624 (by decide) (fun z => absurd z hz) (fun _ => ?_)
    refine lv_iconst (v := 1) hx hb dL_law_627 (by decide) ?_
    refine lv_goto (tgt := 632) hx hb dL_law_628 (by decide) ?_
    refine W.eq (g2 := F0 m 632 ls [.int (nI 1), .int (xs (nI (7 * k + 1)).toNatClampNeg), .ref ma]) rfl ?_
    obtain ⟨fsr, hPr⟩ := mi_recv hJM
    refine va_calli (va_runV (As := [.int (xs (nI (7 * k + 1)).toNatClampNeg), .int (nI 1)]) (rest := []) ⟨hx, hb, hml, hown, hts⟩ (k_X9_urgent l dC dI _ kI kB kQ ma MA Sm (xs (nI (7 * k + 1)).toNatClampNeg) 1 (Nat.le_of_ble_eq_true rfl)) (cwV 2 hts gL_X9_urgent rfl rfl rfl (by decide +kernel) ⟨Nat.le_of_ble_eq_true rfl, Nat.le_of_ble_eq_true rfl⟩) ⟨xB_bl, va_recv hK hPr (ci := 9) (q0 := 0) rfl rfl, xB_in hJM (k3_of hK)⟩ rfl rfl hl.1 rfl (lv_room (Nat.le_of_ble_eq_true rfl)) dL_law_632 ⟨by show _ ≤ 601024; omega, by show _ ≤ 7293034; omega⟩) hS (fun q _ h => lx_A dis.2.1 hA hS q h) (lx_A dis.2.1 hA hS) (fun r10 u t H1 locs ht hvm hw hB hz1 hk1 hS => ?_)
    have hJX := xi_keep hJX (fun q h1 h2 => hk1 q h1 (lx_no (fun q h g => dis.2.2.2.1 q g h) h1 h2))
    have hPo := lx_o hPo dis.2.2.2.2.2 hk1
    have hwm : mM_urgent Sm (xs (nI (7 * k + 1)).toNatClampNeg) 1 r10 u := hw
    have hJM : MInv (dC, dI) kI kB ma MA u t.heap := hB
    generalize u = um at hwm hJM
    have hsr1 := sr_urgent hsr hfx hfm hwx hwm
    rw [ht] at hJM
    clear hk1 hz1 ht hvm
    generalize H1 = H at hJX hJM hPo hS ⊢
    refine lv_pop hx hb dL_law_635 rfl ?_
    refine lv_goto (tgt := 1697) hx hb dL_law_636 (by decide) ?_
    refine W.widen (k := cells + 1) (n := slots + 6) (by omega) (by omega) ?_
    exact hT _ _ _ ⟨ux, um, hsr1, hJX, hJM, fq, hPo⟩ hS (lv_sub hl [0, 1, 2, 3, 4] rfl)
set_option maxHeartbeats 4000000 in
set_option maxRecDepth 100000 in
theorem law_case_11 {p : Program} {e : Env} {s : State} {m : MethodId} {below : List Frame} {meth : Method} {c : Code} (l : Launch) (hlt : l.stackTraces = false) {b L : Nat} {xs : Nat → Int32} (C0 : lw_At p s m meth c b L xs) {A : Nat → Prop} (hA : ∀ q : Nat, s.heap.size ≤ q → A q) (hAs : ∀ q : Nat, A q → s.heap.size ≤ q) (hY : sy_E A s s.heap) {dC : Nat → ClassId} {dI : Nat → Nat → Nat} {kI kB kQ kL : ClassId} (hK : va_K (dC, dI) vwCl (k3 kI kB kQ ++ [(kL, .long)]) s) {xa ma qo : Nat} {XA MA : Nat → Prop} (dis : lw_dis XA MA qo A) (hL : L ≤ 3584) (k : Nat) (hk : 7 * k + 7 ≤ L) {H : Heap} {locs : List Loc} {ls : Array Slot} (hJ : LInv (dC, dI) kI kB kQ kL xa ma qo XA MA H) (hS : va_S A s.heap H locs) (hl : lv_has ls 7 [(0, .ref b), (1, .ref xa), (2, .ref ma), (3, .ref qo), (4, .int (nI (7 * k)))]) {cells slots : Nat} (hc : cells ≤ 600000) (hs : slots ≤ 7200000) (hT : ∀ (H : Heap) (locs : List Loc) (ls : Array Slot), LInv (dC, dI) kI kB kQ kL xa ma qo XA MA H → va_S A s.heap H locs → lv_has ls 7 [(0, .ref b), (1, .ref xa), (2, .ref ma), (3, .ref qo), (4, .int (nI (7 * k)))] → W p l e room_1 s m #[Value.ref b] below meth c H locs (cells + 1) (slots + 6) (lw_Z below #[Value.ref b] s) (F0 m 1697 ls [])) : W p l e room_1 s m #[Value.ref b] below meth c H locs cells slots (lw_Z below #[Value.ref b] s) (F0 m 639 ls []) := by
  obtain ⟨hx, hb, hr, hml, hown0, hts0, hX, hbl, hlocks, hgv⟩ := id C0
  have hown : s.vm.findClass RL = some m.cls := hown0
  have hts : ∀ w ∈ vsL, w.before #[Value.ref b] s = true := fun w h => hts0 w (vsL_in w h)
  have hbA : ¬ A b := fun h => absurd (hAs b h) (Nat.not_le.mpr hbl)
  obtain ⟨Sx, Sm, hsr, hJX, hJM, fq, hPo⟩ := hJ
  have hfx := xi_fact hJX
  have hfm := mi_fact hJM
  refine lv_aload_n hx hb dL_law_639 rfl (lv_at hl 1 rfl) ?_
  obtain ⟨fsr, hPr⟩ := xi_recv hJX
  refine va_calli (va_runV (As := []) (rest := []) ⟨hx, hb, hml, hown, hts⟩ (k_X8_undo l dC dI _ kI kB kQ xa XA Sx ) (cwV 0 hts gL_X8_undo rfl rfl rfl (by decide +kernel) ⟨Nat.le_of_ble_eq_true rfl, Nat.le_of_ble_eq_true rfl⟩) ⟨xB_bl, va_recv hK hPr (ci := 8) (q0 := 0) rfl rfl, xB_in hJX (k3_of hK)⟩ rfl rfl hl.1 rfl (lv_room (Nat.le_of_ble_eq_true rfl)) dL_law_640 ⟨by show _ ≤ 601024; omega, by show _ ≤ 7293034; omega⟩) hS (fun q _ h => lx_A dis.1 hA hS q h) (lx_A dis.1 hA hS) (fun r1 u t H1 locs ht hvm hw hB hz1 hk1 hS => ?_)
  have hJM := mi_keep hJM (fun q h1 h2 => hk1 q h1 (lx_no dis.2.2.2.1 h1 h2))
  have hPo := lx_o hPo dis.2.2.2.2.1 hk1
  have hwx : xM_undo Sx  r1 u := hw
  have hJX : XInv (dC, dI) kI kB kQ xa XA u t.heap := hB
  generalize u = ux at hwx hJX
  rw [ht] at hJX
  clear hk1 hz1 ht hvm
  generalize H1 = H at hJX hJM hPo hS ⊢
  refine lv_pop hx hb dL_law_643 rfl ?_
  refine lv_aload_n hx hb dL_law_644 rfl (lv_at hl 2 rfl) ?_
  obtain ⟨fsr, hPr⟩ := mi_recv hJM
  refine va_calli (va_runV (As := []) (rest := []) ⟨hx, hb, hml, hown, hts⟩ (k_X9_undo l dC dI _ kI kB kQ ma MA Sm ) (cwV 0 hts gL_X9_undo rfl rfl rfl (by decide +kernel) ⟨Nat.le_of_ble_eq_true rfl, Nat.le_of_ble_eq_true rfl⟩) ⟨xB_bl, va_recv hK hPr (ci := 9) (q0 := 0) rfl rfl, xB_in hJM (k3_of hK)⟩ rfl rfl hl.1 rfl (lv_room (Nat.le_of_ble_eq_true rfl)) dL_law_645 ⟨by show _ ≤ 601024; omega, by show _ ≤ 7293034; omega⟩) hS (fun q _ h => lx_A dis.2.1 hA hS q h) (lx_A dis.2.1 hA hS) (fun r2 u t H1 locs ht hvm hw hB hz1 hk1 hS => ?_)
  have hJX := xi_keep hJX (fun q h1 h2 => hk1 q h1 (lx_no (fun q h g => dis.2.2.2.1 q g h) h1 h2))
  have hPo := lx_o hPo dis.2.2.2.2.2 hk1
  have hwm : mM_undo Sm  r2 u := hw
  have hJM : MInv (dC, dI) kI kB ma MA u t.heap := hB
  generalize u = um at hwm hJM
  have hsr1 := sr_undo hsr hfx hfm hwx hwm
  rw [ht] at hJM
  clear hk1 hz1 ht hvm
  generalize H1 = H at hJX hJM hPo hS ⊢
  refine lv_pop hx hb dL_law_648 rfl ?_
  refine lv_goto (tgt := 1697) hx hb dL_law_649 (by decide) ?_
  refine W.widen (k := cells + 1) (n := slots + 6) (by omega) (by omega) ?_
  exact hT _ _ _ ⟨ux, um, hsr1, hJX, hJM, fq, hPo⟩ hS (lv_sub hl [0, 1, 2, 3, 4] rfl)
set_option maxHeartbeats 4000000 in
set_option maxRecDepth 100000 in
theorem law_case_12 {p : Program} {e : Env} {s : State} {m : MethodId} {below : List Frame} {meth : Method} {c : Code} (l : Launch) (hlt : l.stackTraces = false) {b L : Nat} {xs : Nat → Int32} (C0 : lw_At p s m meth c b L xs) {A : Nat → Prop} (hA : ∀ q : Nat, s.heap.size ≤ q → A q) (hAs : ∀ q : Nat, A q → s.heap.size ≤ q) (hY : sy_E A s s.heap) {dC : Nat → ClassId} {dI : Nat → Nat → Nat} {kI kB kQ kL : ClassId} (hK : va_K (dC, dI) vwCl (k3 kI kB kQ ++ [(kL, .long)]) s) {xa ma qo : Nat} {XA MA : Nat → Prop} (dis : lw_dis XA MA qo A) (hL : L ≤ 3584) (k : Nat) (hk : 7 * k + 7 ≤ L) {H : Heap} {locs : List Loc} {ls : Array Slot} (hJ : LInv (dC, dI) kI kB kQ kL xa ma qo XA MA H) (hS : va_S A s.heap H locs) (hl : lv_has ls 7 [(0, .ref b), (1, .ref xa), (2, .ref ma), (3, .ref qo), (4, .int (nI (7 * k)))]) {cells slots : Nat} (hc : cells ≤ 600000) (hs : slots ≤ 7200000) (hT : ∀ (H : Heap) (locs : List Loc) (ls : Array Slot), LInv (dC, dI) kI kB kQ kL xa ma qo XA MA H → va_S A s.heap H locs → lv_has ls 7 [(0, .ref b), (1, .ref xa), (2, .ref ma), (3, .ref qo), (4, .int (nI (7 * k)))] → W p l e room_1 s m #[Value.ref b] below meth c H locs (cells + 1) (slots + 6) (lw_Z below #[Value.ref b] s) (F0 m 1697 ls [])) : W p l e room_1 s m #[Value.ref b] below meth c H locs cells slots (lw_Z below #[Value.ref b] s) (F0 m 652 ls []) := by
  obtain ⟨hx, hb, hr, hml, hown0, hts0, hX, hbl, hlocks, hgv⟩ := id C0
  have hown : s.vm.findClass RL = some m.cls := hown0
  have hts : ∀ w ∈ vsL, w.before #[Value.ref b] s = true := fun w h => hts0 w (vsL_in w h)
  have hbA : ¬ A b := fun h => absurd (hAs b h) (Nat.not_le.mpr hbl)
  obtain ⟨Sx, Sm, hsr, hJX, hJM, fq, hPo⟩ := hJ
  have hfx := xi_fact hJX
  have hfm := mi_fact hJM
  refine lv_aload_n hx hb dL_law_652 rfl (lv_at hl 1 rfl) ?_
  refine lv_aload_n hx hb dL_law_653 rfl (lv_at hl 0 rfl) ?_
  refine lv_iload hx hb dL_law_654 (lv_at hl 4 rfl) ?_
  refine lv_iconst (v := 1) hx hb dL_law_656 (by decide) ?_
  refine lv_iadd hx hb dL_law_657 ?_
  refine lv_topi (fun y1 ey1 => ?_)
  obtain rfl : y1 = nI (7 * k + 1) := ey1.trans (nI_add (7 * k) 1)
  refine va_sld hx hb hX hbl hbA hS (vp_in_nI (n := 7 * k + 1) (by omega) (by omega)) dL_law_658 ?_
  refine lv_aload_n hx hb dL_law_659 rfl (lv_at hl 0 rfl) ?_
  refine lv_iload hx hb dL_law_660 (lv_at hl 4 rfl) ?_
  refine lv_iconst (v := 2) hx hb dL_law_662 (by decide) ?_
  refine lv_iadd hx hb dL_law_663 ?_
  refine lv_topi (fun y2 ey2 => ?_)
  obtain rfl : y2 = nI (7 * k + 2) := ey2.trans (nI_add (7 * k) 2)
  refine va_sld hx hb hX hbl hbA hS (vp_in_nI (n := 7 * k + 2) (by omega) (by omega)) dL_law_664 ?_
  by_cases hz : xs (nI (7 * k + 2)).toNatClampNeg = 0
  · refine lv_if_eq (tgt := 672) hx hb dL_law_665 (by decide) (fun _ => ?_) (fun z => absurd hz z)
    refine lv_iconst (v := 0) hx hb dL_law_672 (by decide) ?_
    refine W.eq (g2 := F0 m 673 ls [.int (nI 0), .int (xs (nI (7 * k + 1)).toNatClampNeg), .ref xa]) rfl ?_
    obtain ⟨fsr, hPr⟩ := xi_recv hJX
    refine va_calli (va_runV (As := [.int (xs (nI (7 * k + 1)).toNatClampNeg), .int (nI 0)]) (rest := []) ⟨hx, hb, hml, hown, hts⟩ (k_X8_graph l dC dI _ kI kB kQ xa XA Sx (xs (nI (7 * k + 1)).toNatClampNeg) 0 (Nat.le_of_ble_eq_true rfl)) (cwV 2 hts gL_X8_graph rfl rfl rfl (by decide +kernel) ⟨Nat.le_of_ble_eq_true rfl, Nat.le_of_ble_eq_true rfl⟩) ⟨xB_bl, va_recv hK hPr (ci := 8) (q0 := 0) rfl rfl, xB_in hJX (k3_of hK)⟩ rfl rfl hl.1 rfl (lv_room (Nat.le_of_ble_eq_true rfl)) dL_law_673 ⟨by show _ ≤ 601024; omega, by show _ ≤ 7293034; omega⟩) hS (fun q _ h => lx_A dis.1 hA hS q h) (lx_A dis.1 hA hS) (fun r3 u t H1 locs ht hvm hw hB hz1 hk1 hS => ?_)
    have hJM := mi_keep hJM (fun q h1 h2 => hk1 q h1 (lx_no dis.2.2.2.1 h1 h2))
    have hPo := lx_o hPo dis.2.2.2.2.1 hk1
    have hwx : xM_graph Sx (xs (nI (7 * k + 1)).toNatClampNeg) 0 r3 u := hw
    have hJX : XInv (dC, dI) kI kB kQ xa XA u t.heap := hB
    generalize u = ux at hwx hJX
    rw [ht] at hJX
    clear hk1 hz1 ht hvm
    generalize H1 = H at hJX hJM hPo hS ⊢
    refine lv_pop hx hb dL_law_676 rfl ?_
    refine lv_aload_n hx hb dL_law_677 rfl (lv_at hl 2 rfl) ?_
    refine lv_aload_n hx hb dL_law_678 rfl (lv_at hl 0 rfl) ?_
    refine lv_iload hx hb dL_law_679 (lv_at hl 4 rfl) ?_
    refine lv_iconst (v := 1) hx hb dL_law_681 (by decide) ?_
    refine lv_iadd hx hb dL_law_682 ?_
    refine lv_topi (fun y4 ey4 => ?_)
    obtain rfl : y4 = nI (7 * k + 1) := ey4.trans (nI_add (7 * k) 1)
    refine va_sld hx hb hX hbl hbA hS (vp_in_nI (n := 7 * k + 1) (by omega) (by omega)) dL_law_683 ?_
    refine lv_aload_n hx hb dL_law_684 rfl (lv_at hl 0 rfl) ?_
    refine lv_iload hx hb dL_law_685 (lv_at hl 4 rfl) ?_
    refine lv_iconst (v := 2) hx hb dL_law_687 (by decide) ?_
    refine lv_iadd hx hb dL_law_688 ?_
    refine lv_topi (fun y5 ey5 => ?_)
    obtain rfl : y5 = nI (7 * k + 2) := ey5.trans (nI_add (7 * k) 2)
    refine va_sld hx hb hX hbl hbA hS (vp_in_nI (n := 7 * k + 2) (by omega) (by omega)) dL_law_689 ?_
    refine lv_if_eq (tgt := 697) hx hb dL_law_690 (by decide) (fun _ => ?_) (fun z => absurd hz z)
    refine lv_iconst (v := 0) hx hb dL_law_697 (by decide) ?_
    refine W.eq (g2 := F0 m 698 ls [.int (nI 0), .int (xs (nI (7 * k + 1)).toNatClampNeg), .ref ma]) rfl ?_
    obtain ⟨fsr, hPr⟩ := mi_recv hJM
    refine va_calli (va_runV (As := [.int (xs (nI (7 * k + 1)).toNatClampNeg), .int (nI 0)]) (rest := []) ⟨hx, hb, hml, hown, hts⟩ (k_X9_graph l dC dI _ kI kB kQ ma MA Sm (xs (nI (7 * k + 1)).toNatClampNeg) 0 (Nat.le_of_ble_eq_true rfl)) (cwV 2 hts gL_X9_graph rfl rfl rfl (by decide +kernel) ⟨Nat.le_of_ble_eq_true rfl, Nat.le_of_ble_eq_true rfl⟩) ⟨xB_bl, va_recv hK hPr (ci := 9) (q0 := 0) rfl rfl, xB_in hJM (k3_of hK)⟩ rfl rfl hl.1 rfl (lv_room (Nat.le_of_ble_eq_true rfl)) dL_law_698 ⟨by show _ ≤ 601024; omega, by show _ ≤ 7293034; omega⟩) hS (fun q _ h => lx_A dis.2.1 hA hS q h) (lx_A dis.2.1 hA hS) (fun r6 u t H1 locs ht hvm hw hB hz1 hk1 hS => ?_)
    have hJX := xi_keep hJX (fun q h1 h2 => hk1 q h1 (lx_no (fun q h g => dis.2.2.2.1 q g h) h1 h2))
    have hPo := lx_o hPo dis.2.2.2.2.2 hk1
    have hwm : mM_graph Sm (xs (nI (7 * k + 1)).toNatClampNeg) 0 r6 u := hw
    have hJM : MInv (dC, dI) kI kB ma MA u t.heap := hB
    generalize u = um at hwm hJM
    have hsr1 := sr_graph hsr hfx hfm hwx hwm
    rw [ht] at hJM
    clear hk1 hz1 ht hvm
    generalize H1 = H at hJX hJM hPo hS ⊢
    refine lv_pop hx hb dL_law_701 rfl ?_
    refine lv_goto (tgt := 1697) hx hb dL_law_702 (by decide) ?_
    refine W.widen (k := cells + 1) (n := slots + 6) (by omega) (by omega) ?_
    exact hT _ _ _ ⟨ux, um, hsr1, hJX, hJM, fq, hPo⟩ hS (lv_sub hl [0, 1, 2, 3, 4] rfl)
  · refine lv_if_eq (tgt := 672) hx hb dL_law_665 (by decide) (fun z => absurd z hz) (fun _ => ?_)
    refine lv_iconst (v := 1) hx hb dL_law_668 (by decide) ?_
    refine lv_goto (tgt := 673) hx hb dL_law_669 (by decide) ?_
    refine W.eq (g2 := F0 m 673 ls [.int (nI 1), .int (xs (nI (7 * k + 1)).toNatClampNeg), .ref xa]) rfl ?_
    obtain ⟨fsr, hPr⟩ := xi_recv hJX
    refine va_calli (va_runV (As := [.int (xs (nI (7 * k + 1)).toNatClampNeg), .int (nI 1)]) (rest := []) ⟨hx, hb, hml, hown, hts⟩ (k_X8_graph l dC dI _ kI kB kQ xa XA Sx (xs (nI (7 * k + 1)).toNatClampNeg) 1 (Nat.le_of_ble_eq_true rfl)) (cwV 2 hts gL_X8_graph rfl rfl rfl (by decide +kernel) ⟨Nat.le_of_ble_eq_true rfl, Nat.le_of_ble_eq_true rfl⟩) ⟨xB_bl, va_recv hK hPr (ci := 8) (q0 := 0) rfl rfl, xB_in hJX (k3_of hK)⟩ rfl rfl hl.1 rfl (lv_room (Nat.le_of_ble_eq_true rfl)) dL_law_673 ⟨by show _ ≤ 601024; omega, by show _ ≤ 7293034; omega⟩) hS (fun q _ h => lx_A dis.1 hA hS q h) (lx_A dis.1 hA hS) (fun r7 u t H1 locs ht hvm hw hB hz1 hk1 hS => ?_)
    have hJM := mi_keep hJM (fun q h1 h2 => hk1 q h1 (lx_no dis.2.2.2.1 h1 h2))
    have hPo := lx_o hPo dis.2.2.2.2.1 hk1
    have hwx : xM_graph Sx (xs (nI (7 * k + 1)).toNatClampNeg) 1 r7 u := hw
    have hJX : XInv (dC, dI) kI kB kQ xa XA u t.heap := hB
    generalize u = ux at hwx hJX
    rw [ht] at hJX
    clear hk1 hz1 ht hvm
    generalize H1 = H at hJX hJM hPo hS ⊢
    refine lv_pop hx hb dL_law_676 rfl ?_
    refine lv_aload_n hx hb dL_law_677 rfl (lv_at hl 2 rfl) ?_
    refine lv_aload_n hx hb dL_law_678 rfl (lv_at hl 0 rfl) ?_
    refine lv_iload hx hb dL_law_679 (lv_at hl 4 rfl) ?_
    refine lv_iconst (v := 1) hx hb dL_law_681 (by decide) ?_
    refine lv_iadd hx hb dL_law_682 ?_
    refine lv_topi (fun y8 ey8 => ?_)
    obtain rfl : y8 = nI (7 * k + 1) := ey8.trans (nI_add (7 * k) 1)
    refine va_sld hx hb hX hbl hbA hS (vp_in_nI (n := 7 * k + 1) (by omega) (by omega)) dL_law_683 ?_
    refine lv_aload_n hx hb dL_law_684 rfl (lv_at hl 0 rfl) ?_
    refine lv_iload hx hb dL_law_685 (lv_at hl 4 rfl) ?_
    refine lv_iconst (v := 2) hx hb dL_law_687 (by decide) ?_
    refine lv_iadd hx hb dL_law_688 ?_
    refine lv_topi (fun y9 ey9 => ?_)
    obtain rfl : y9 = nI (7 * k + 2) := ey9.trans (nI_add (7 * k) 2)
    refine va_sld hx hb hX hbl hbA hS (vp_in_nI (n := 7 * k + 2) (by omega) (by omega)) dL_law_689 ?_
    refine lv_if_eq (tgt := 697) hx hb dL_law_690 (by decide) (fun z => absurd z hz) (fun _ => ?_)
    refine lv_iconst (v := 1) hx hb dL_law_693 (by decide) ?_
    refine lv_goto (tgt := 698) hx hb dL_law_694 (by decide) ?_
    refine W.eq (g2 := F0 m 698 ls [.int (nI 1), .int (xs (nI (7 * k + 1)).toNatClampNeg), .ref ma]) rfl ?_
    obtain ⟨fsr, hPr⟩ := mi_recv hJM
    refine va_calli (va_runV (As := [.int (xs (nI (7 * k + 1)).toNatClampNeg), .int (nI 1)]) (rest := []) ⟨hx, hb, hml, hown, hts⟩ (k_X9_graph l dC dI _ kI kB kQ ma MA Sm (xs (nI (7 * k + 1)).toNatClampNeg) 1 (Nat.le_of_ble_eq_true rfl)) (cwV 2 hts gL_X9_graph rfl rfl rfl (by decide +kernel) ⟨Nat.le_of_ble_eq_true rfl, Nat.le_of_ble_eq_true rfl⟩) ⟨xB_bl, va_recv hK hPr (ci := 9) (q0 := 0) rfl rfl, xB_in hJM (k3_of hK)⟩ rfl rfl hl.1 rfl (lv_room (Nat.le_of_ble_eq_true rfl)) dL_law_698 ⟨by show _ ≤ 601024; omega, by show _ ≤ 7293034; omega⟩) hS (fun q _ h => lx_A dis.2.1 hA hS q h) (lx_A dis.2.1 hA hS) (fun r10 u t H1 locs ht hvm hw hB hz1 hk1 hS => ?_)
    have hJX := xi_keep hJX (fun q h1 h2 => hk1 q h1 (lx_no (fun q h g => dis.2.2.2.1 q g h) h1 h2))
    have hPo := lx_o hPo dis.2.2.2.2.2 hk1
    have hwm : mM_graph Sm (xs (nI (7 * k + 1)).toNatClampNeg) 1 r10 u := hw
    have hJM : MInv (dC, dI) kI kB ma MA u t.heap := hB
    generalize u = um at hwm hJM
    have hsr1 := sr_graph hsr hfx hfm hwx hwm
    rw [ht] at hJM
    clear hk1 hz1 ht hvm
    generalize H1 = H at hJX hJM hPo hS ⊢
    refine lv_pop hx hb dL_law_701 rfl ?_
    refine lv_goto (tgt := 1697) hx hb dL_law_702 (by decide) ?_
    refine W.widen (k := cells + 1) (n := slots + 6) (by omega) (by omega) ?_
    exact hT _ _ _ ⟨ux, um, hsr1, hJX, hJM, fq, hPo⟩ hS (lv_sub hl [0, 1, 2, 3, 4] rfl)
set_option maxHeartbeats 4000000 in
set_option maxRecDepth 100000 in
theorem law_case_13 {p : Program} {e : Env} {s : State} {m : MethodId} {below : List Frame} {meth : Method} {c : Code} (l : Launch) (hlt : l.stackTraces = false) {b L : Nat} {xs : Nat → Int32} (C0 : lw_At p s m meth c b L xs) {A : Nat → Prop} (hA : ∀ q : Nat, s.heap.size ≤ q → A q) (hAs : ∀ q : Nat, A q → s.heap.size ≤ q) (hY : sy_E A s s.heap) {dC : Nat → ClassId} {dI : Nat → Nat → Nat} {kI kB kQ kL : ClassId} (hK : va_K (dC, dI) vwCl (k3 kI kB kQ ++ [(kL, .long)]) s) {xa ma qo : Nat} {XA MA : Nat → Prop} (dis : lw_dis XA MA qo A) (hL : L ≤ 3584) (k : Nat) (hk : 7 * k + 7 ≤ L) {H : Heap} {locs : List Loc} {ls : Array Slot} (hJ : LInv (dC, dI) kI kB kQ kL xa ma qo XA MA H) (hS : va_S A s.heap H locs) (hl : lv_has ls 7 [(0, .ref b), (1, .ref xa), (2, .ref ma), (3, .ref qo), (4, .int (nI (7 * k)))]) {cells slots : Nat} (hc : cells ≤ 600000) (hs : slots ≤ 7200000) (hT : ∀ (H : Heap) (locs : List Loc) (ls : Array Slot), LInv (dC, dI) kI kB kQ kL xa ma qo XA MA H → va_S A s.heap H locs → lv_has ls 7 [(0, .ref b), (1, .ref xa), (2, .ref ma), (3, .ref qo), (4, .int (nI (7 * k)))] → W p l e room_1 s m #[Value.ref b] below meth c H locs (cells + 1) (slots + 6) (lw_Z below #[Value.ref b] s) (F0 m 1697 ls [])) : W p l e room_1 s m #[Value.ref b] below meth c H locs cells slots (lw_Z below #[Value.ref b] s) (F0 m 705 ls []) := by
  obtain ⟨hx, hb, hr, hml, hown0, hts0, hX, hbl, hlocks, hgv⟩ := id C0
  have hown : s.vm.findClass RL = some m.cls := hown0
  have hts : ∀ w ∈ vsL, w.before #[Value.ref b] s = true := fun w h => hts0 w (vsL_in w h)
  have hbA : ¬ A b := fun h => absurd (hAs b h) (Nat.not_le.mpr hbl)
  obtain ⟨Sx, Sm, hsr, hJX, hJM, fq, hPo⟩ := hJ
  have hfx := xi_fact hJX
  have hfm := mi_fact hJM
  refine lv_aload_n hx hb dL_law_705 rfl (lv_at hl 1 rfl) ?_
  refine lv_aload_n hx hb dL_law_706 rfl (lv_at hl 0 rfl) ?_
  refine lv_iload hx hb dL_law_707 (lv_at hl 4 rfl) ?_
  refine lv_iconst (v := 1) hx hb dL_law_709 (by decide) ?_
  refine lv_iadd hx hb dL_law_710 ?_
  refine lv_topi (fun y1 ey1 => ?_)
  obtain rfl : y1 = nI (7 * k + 1) := ey1.trans (nI_add (7 * k) 1)
  refine va_sld hx hb hX hbl hbA hS (vp_in_nI (n := 7 * k + 1) (by omega) (by omega)) dL_law_711 ?_
  refine lv_aload_n hx hb dL_law_712 rfl (lv_at hl 0 rfl) ?_
  refine lv_iload hx hb dL_law_713 (lv_at hl 4 rfl) ?_
  refine lv_iconst (v := 2) hx hb dL_law_715 (by decide) ?_
  refine lv_iadd hx hb dL_law_716 ?_
  refine lv_topi (fun y2 ey2 => ?_)
  obtain rfl : y2 = nI (7 * k + 2) := ey2.trans (nI_add (7 * k) 2)
  refine va_sld hx hb hX hbl hbA hS (vp_in_nI (n := 7 * k + 2) (by omega) (by omega)) dL_law_717 ?_
  obtain ⟨fsr, hPr⟩ := xi_recv hJX
  refine va_calli (va_runV (As := [.int (xs (nI (7 * k + 1)).toNatClampNeg), .int (xs (nI (7 * k + 2)).toNatClampNeg)]) (rest := []) ⟨hx, hb, hml, hown, hts⟩ (k_X8_state l dC dI _ kI kB kQ xa XA Sx (xs (nI (7 * k + 1)).toNatClampNeg) (xs (nI (7 * k + 2)).toNatClampNeg)) (cwV 2 hts gL_X8_state rfl rfl rfl (by decide +kernel) ⟨Nat.le_of_ble_eq_true rfl, Nat.le_of_ble_eq_true rfl⟩) ⟨xB_bl, va_recv hK hPr (ci := 8) (q0 := 0) rfl rfl, xB_in hJX (k3_of hK)⟩ rfl rfl hl.1 rfl (lv_room (Nat.le_of_ble_eq_true rfl)) dL_law_718 ⟨by show _ ≤ 601024; omega, by show _ ≤ 7293034; omega⟩) hS (fun q _ h => lx_A dis.1 hA hS q h) (lx_A dis.1 hA hS) (fun r3 u t H1 locs ht hvm hw hB hz1 hk1 hS => ?_)
  have hJM := mi_keep hJM (fun q h1 h2 => hk1 q h1 (lx_no dis.2.2.2.1 h1 h2))
  have hPo := lx_o hPo dis.2.2.2.2.1 hk1
  have hwx : xM_state Sx (xs (nI (7 * k + 1)).toNatClampNeg) (xs (nI (7 * k + 2)).toNatClampNeg) r3 u := hw
  have hJX : XInv (dC, dI) kI kB kQ xa XA u t.heap := hB
  generalize u = ux at hwx hJX
  rw [ht] at hJX
  clear hk1 hz1 ht hvm
  generalize H1 = H at hJX hJM hPo hS ⊢
  refine lv_pop hx hb dL_law_721 rfl ?_
  refine lv_aload_n hx hb dL_law_722 rfl (lv_at hl 2 rfl) ?_
  refine lv_aload_n hx hb dL_law_723 rfl (lv_at hl 0 rfl) ?_
  refine lv_iload hx hb dL_law_724 (lv_at hl 4 rfl) ?_
  refine lv_iconst (v := 1) hx hb dL_law_726 (by decide) ?_
  refine lv_iadd hx hb dL_law_727 ?_
  refine lv_topi (fun y4 ey4 => ?_)
  obtain rfl : y4 = nI (7 * k + 1) := ey4.trans (nI_add (7 * k) 1)
  refine va_sld hx hb hX hbl hbA hS (vp_in_nI (n := 7 * k + 1) (by omega) (by omega)) dL_law_728 ?_
  refine lv_aload_n hx hb dL_law_729 rfl (lv_at hl 0 rfl) ?_
  refine lv_iload hx hb dL_law_730 (lv_at hl 4 rfl) ?_
  refine lv_iconst (v := 2) hx hb dL_law_732 (by decide) ?_
  refine lv_iadd hx hb dL_law_733 ?_
  refine lv_topi (fun y5 ey5 => ?_)
  obtain rfl : y5 = nI (7 * k + 2) := ey5.trans (nI_add (7 * k) 2)
  refine va_sld hx hb hX hbl hbA hS (vp_in_nI (n := 7 * k + 2) (by omega) (by omega)) dL_law_734 ?_
  obtain ⟨fsr, hPr⟩ := mi_recv hJM
  refine va_calli (va_runV (As := [.int (xs (nI (7 * k + 1)).toNatClampNeg), .int (xs (nI (7 * k + 2)).toNatClampNeg)]) (rest := []) ⟨hx, hb, hml, hown, hts⟩ (k_X9_state l dC dI _ kI kB kQ ma MA Sm (xs (nI (7 * k + 1)).toNatClampNeg) (xs (nI (7 * k + 2)).toNatClampNeg)) (cwV 2 hts gL_X9_state rfl rfl rfl (by decide +kernel) ⟨Nat.le_of_ble_eq_true rfl, Nat.le_of_ble_eq_true rfl⟩) ⟨xB_bl, va_recv hK hPr (ci := 9) (q0 := 0) rfl rfl, xB_in hJM (k3_of hK)⟩ rfl rfl hl.1 rfl (lv_room (Nat.le_of_ble_eq_true rfl)) dL_law_735 ⟨by show _ ≤ 601024; omega, by show _ ≤ 7293034; omega⟩) hS (fun q _ h => lx_A dis.2.1 hA hS q h) (lx_A dis.2.1 hA hS) (fun r6 u t H1 locs ht hvm hw hB hz1 hk1 hS => ?_)
  have hJX := xi_keep hJX (fun q h1 h2 => hk1 q h1 (lx_no (fun q h g => dis.2.2.2.1 q g h) h1 h2))
  have hPo := lx_o hPo dis.2.2.2.2.2 hk1
  have hwm : mM_state Sm (xs (nI (7 * k + 1)).toNatClampNeg) (xs (nI (7 * k + 2)).toNatClampNeg) r6 u := hw
  have hJM : MInv (dC, dI) kI kB ma MA u t.heap := hB
  generalize u = um at hwm hJM
  have hsr1 := sr_state hsr hfx hfm hwx hwm
  rw [ht] at hJM
  clear hk1 hz1 ht hvm
  generalize H1 = H at hJX hJM hPo hS ⊢
  refine lv_pop hx hb dL_law_738 rfl ?_
  refine lv_goto (tgt := 1697) hx hb dL_law_739 (by decide) ?_
  refine W.widen (k := cells + 1) (n := slots + 6) (by omega) (by omega) ?_
  exact hT _ _ _ ⟨ux, um, hsr1, hJX, hJM, fq, hPo⟩ hS (lv_sub hl [0, 1, 2, 3, 4] rfl)
set_option maxHeartbeats 4000000 in
set_option maxRecDepth 100000 in
theorem law_case_14 {p : Program} {e : Env} {s : State} {m : MethodId} {below : List Frame} {meth : Method} {c : Code} (l : Launch) (hlt : l.stackTraces = false) {b L : Nat} {xs : Nat → Int32} (C0 : lw_At p s m meth c b L xs) {A : Nat → Prop} (hA : ∀ q : Nat, s.heap.size ≤ q → A q) (hAs : ∀ q : Nat, A q → s.heap.size ≤ q) (hY : sy_E A s s.heap) {dC : Nat → ClassId} {dI : Nat → Nat → Nat} {kI kB kQ kL : ClassId} (hK : va_K (dC, dI) vwCl (k3 kI kB kQ ++ [(kL, .long)]) s) {xa ma qo : Nat} {XA MA : Nat → Prop} (dis : lw_dis XA MA qo A) (hL : L ≤ 3584) (k : Nat) (hk : 7 * k + 7 ≤ L) {H : Heap} {locs : List Loc} {ls : Array Slot} (hJ : LInv (dC, dI) kI kB kQ kL xa ma qo XA MA H) (hS : va_S A s.heap H locs) (hl : lv_has ls 7 [(0, .ref b), (1, .ref xa), (2, .ref ma), (3, .ref qo), (4, .int (nI (7 * k)))]) {cells slots : Nat} (hc : cells ≤ 600000) (hs : slots ≤ 7200000) (hT : ∀ (H : Heap) (locs : List Loc) (ls : Array Slot), LInv (dC, dI) kI kB kQ kL xa ma qo XA MA H → va_S A s.heap H locs → lv_has ls 7 [(0, .ref b), (1, .ref xa), (2, .ref ma), (3, .ref qo), (4, .int (nI (7 * k)))] → W p l e room_1 s m #[Value.ref b] below meth c H locs (cells + 1) (slots + 6) (lw_Z below #[Value.ref b] s) (F0 m 1697 ls [])) : W p l e room_1 s m #[Value.ref b] below meth c H locs cells slots (lw_Z below #[Value.ref b] s) (F0 m 742 ls []) := by
  obtain ⟨hx, hb, hr, hml, hown0, hts0, hX, hbl, hlocks, hgv⟩ := id C0
  have hown : s.vm.findClass RL = some m.cls := hown0
  have hts : ∀ w ∈ vsL, w.before #[Value.ref b] s = true := fun w h => hts0 w (vsL_in w h)
  have hbA : ¬ A b := fun h => absurd (hAs b h) (Nat.not_le.mpr hbl)
  obtain ⟨Sx, Sm, hsr, hJX, hJM, fq, hPo⟩ := hJ
  have hfx := xi_fact hJX
  have hfm := mi_fact hJM
  refine lv_aload_n hx hb dL_law_742 rfl (lv_at hl 1 rfl) ?_
  refine lv_aload_n hx hb dL_law_743 rfl (lv_at hl 0 rfl) ?_
  refine lv_iload hx hb dL_law_744 (lv_at hl 4 rfl) ?_
  refine lv_iconst (v := 1) hx hb dL_law_746 (by decide) ?_
  refine lv_iadd hx hb dL_law_747 ?_
  refine lv_topi (fun y1 ey1 => ?_)
  obtain rfl : y1 = nI (7 * k + 1) := ey1.trans (nI_add (7 * k) 1)
  refine va_sld hx hb hX hbl hbA hS (vp_in_nI (n := 7 * k + 1) (by omega) (by omega)) dL_law_748 ?_
  refine lv_aload_n hx hb dL_law_749 rfl (lv_at hl 0 rfl) ?_
  refine lv_iload hx hb dL_law_750 (lv_at hl 4 rfl) ?_
  refine lv_iconst (v := 2) hx hb dL_law_752 (by decide) ?_
  refine lv_iadd hx hb dL_law_753 ?_
  refine lv_topi (fun y2 ey2 => ?_)
  obtain rfl : y2 = nI (7 * k + 2) := ey2.trans (nI_add (7 * k) 2)
  refine va_sld hx hb hX hbl hbA hS (vp_in_nI (n := 7 * k + 2) (by omega) (by omega)) dL_law_754 ?_
  refine lv_aload_n hx hb dL_law_755 rfl (lv_at hl 0 rfl) ?_
  refine lv_iload hx hb dL_law_756 (lv_at hl 4 rfl) ?_
  refine lv_iconst (v := 3) hx hb dL_law_758 (by decide) ?_
  refine lv_iadd hx hb dL_law_759 ?_
  refine lv_topi (fun y3 ey3 => ?_)
  obtain rfl : y3 = nI (7 * k + 3) := ey3.trans (nI_add (7 * k) 3)
  refine va_sld hx hb hX hbl hbA hS (vp_in_nI (n := 7 * k + 3) (by omega) (by omega)) dL_law_760 ?_
  refine lv_aload_n hx hb dL_law_761 rfl (lv_at hl 0 rfl) ?_
  refine lv_iload hx hb dL_law_762 (lv_at hl 4 rfl) ?_
  refine lv_iconst (v := 4) hx hb dL_law_764 (by decide) ?_
  refine lv_iadd hx hb dL_law_765 ?_
  refine lv_topi (fun y4 ey4 => ?_)
  obtain rfl : y4 = nI (7 * k + 4) := ey4.trans (nI_add (7 * k) 4)
  refine va_sld hx hb hX hbl hbA hS (vp_in_nI (n := 7 * k + 4) (by omega) (by omega)) dL_law_766 ?_
  obtain ⟨fsr, hPr⟩ := xi_recv hJX
  refine va_calli (va_runV (As := [.int (xs (nI (7 * k + 1)).toNatClampNeg), .int (xs (nI (7 * k + 2)).toNatClampNeg), .int (xs (nI (7 * k + 3)).toNatClampNeg), .int (xs (nI (7 * k + 4)).toNatClampNeg)]) (rest := []) ⟨hx, hb, hml, hown, hts⟩ (k_X8_bound l dC dI _ kI kB kQ xa XA Sx (xs (nI (7 * k + 1)).toNatClampNeg) (xs (nI (7 * k + 2)).toNatClampNeg) (xs (nI (7 * k + 3)).toNatClampNeg) (xs (nI (7 * k + 4)).toNatClampNeg)) (cwV 4 hts gL_X8_bound rfl rfl rfl (by decide +kernel) ⟨Nat.le_of_ble_eq_true rfl, Nat.le_of_ble_eq_true rfl⟩) ⟨xB_bl, va_recv hK hPr (ci := 8) (q0 := 0) rfl rfl, xB_in hJX (k3_of hK)⟩ rfl rfl hl.1 rfl (lv_room (Nat.le_of_ble_eq_true rfl)) dL_law_767 ⟨by show _ ≤ 601024; omega, by show _ ≤ 7293034; omega⟩) hS (fun q _ h => lx_A dis.1 hA hS q h) (lx_A dis.1 hA hS) (fun r5 u t H1 locs ht hvm hw hB hz1 hk1 hS => ?_)
  have hJM := mi_keep hJM (fun q h1 h2 => hk1 q h1 (lx_no dis.2.2.2.1 h1 h2))
  have hPo := lx_o hPo dis.2.2.2.2.1 hk1
  have hwx : xM_bound Sx (xs (nI (7 * k + 1)).toNatClampNeg) (xs (nI (7 * k + 2)).toNatClampNeg) (xs (nI (7 * k + 3)).toNatClampNeg) (xs (nI (7 * k + 4)).toNatClampNeg) r5 u := hw
  have hJX : XInv (dC, dI) kI kB kQ xa XA u t.heap := hB
  generalize u = ux at hwx hJX
  rw [ht] at hJX
  clear hk1 hz1 ht hvm
  generalize H1 = H at hJX hJM hPo hS ⊢
  refine lv_pop hx hb dL_law_770 rfl ?_
  refine lv_aload_n hx hb dL_law_771 rfl (lv_at hl 2 rfl) ?_
  refine lv_aload_n hx hb dL_law_772 rfl (lv_at hl 0 rfl) ?_
  refine lv_iload hx hb dL_law_773 (lv_at hl 4 rfl) ?_
  refine lv_iconst (v := 1) hx hb dL_law_775 (by decide) ?_
  refine lv_iadd hx hb dL_law_776 ?_
  refine lv_topi (fun y6 ey6 => ?_)
  obtain rfl : y6 = nI (7 * k + 1) := ey6.trans (nI_add (7 * k) 1)
  refine va_sld hx hb hX hbl hbA hS (vp_in_nI (n := 7 * k + 1) (by omega) (by omega)) dL_law_777 ?_
  refine lv_aload_n hx hb dL_law_778 rfl (lv_at hl 0 rfl) ?_
  refine lv_iload hx hb dL_law_779 (lv_at hl 4 rfl) ?_
  refine lv_iconst (v := 2) hx hb dL_law_781 (by decide) ?_
  refine lv_iadd hx hb dL_law_782 ?_
  refine lv_topi (fun y7 ey7 => ?_)
  obtain rfl : y7 = nI (7 * k + 2) := ey7.trans (nI_add (7 * k) 2)
  refine va_sld hx hb hX hbl hbA hS (vp_in_nI (n := 7 * k + 2) (by omega) (by omega)) dL_law_783 ?_
  refine lv_aload_n hx hb dL_law_784 rfl (lv_at hl 0 rfl) ?_
  refine lv_iload hx hb dL_law_785 (lv_at hl 4 rfl) ?_
  refine lv_iconst (v := 3) hx hb dL_law_787 (by decide) ?_
  refine lv_iadd hx hb dL_law_788 ?_
  refine lv_topi (fun y8 ey8 => ?_)
  obtain rfl : y8 = nI (7 * k + 3) := ey8.trans (nI_add (7 * k) 3)
  refine va_sld hx hb hX hbl hbA hS (vp_in_nI (n := 7 * k + 3) (by omega) (by omega)) dL_law_789 ?_
  refine lv_aload_n hx hb dL_law_790 rfl (lv_at hl 0 rfl) ?_
  refine lv_iload hx hb dL_law_791 (lv_at hl 4 rfl) ?_
  refine lv_iconst (v := 4) hx hb dL_law_793 (by decide) ?_
  refine lv_iadd hx hb dL_law_794 ?_
  refine lv_topi (fun y9 ey9 => ?_)
  obtain rfl : y9 = nI (7 * k + 4) := ey9.trans (nI_add (7 * k) 4)
  refine va_sld hx hb hX hbl hbA hS (vp_in_nI (n := 7 * k + 4) (by omega) (by omega)) dL_law_795 ?_
  obtain ⟨fsr, hPr⟩ := mi_recv hJM
  refine va_calli (va_runV (As := [.int (xs (nI (7 * k + 1)).toNatClampNeg), .int (xs (nI (7 * k + 2)).toNatClampNeg), .int (xs (nI (7 * k + 3)).toNatClampNeg), .int (xs (nI (7 * k + 4)).toNatClampNeg)]) (rest := []) ⟨hx, hb, hml, hown, hts⟩ (k_X9_bound l dC dI _ kI kB kQ ma MA Sm (xs (nI (7 * k + 1)).toNatClampNeg) (xs (nI (7 * k + 2)).toNatClampNeg) (xs (nI (7 * k + 3)).toNatClampNeg) (xs (nI (7 * k + 4)).toNatClampNeg)) (cwV 4 hts gL_X9_bound rfl rfl rfl (by decide +kernel) ⟨Nat.le_of_ble_eq_true rfl, Nat.le_of_ble_eq_true rfl⟩) ⟨xB_bl, va_recv hK hPr (ci := 9) (q0 := 0) rfl rfl, xB_in hJM (k3_of hK)⟩ rfl rfl hl.1 rfl (lv_room (Nat.le_of_ble_eq_true rfl)) dL_law_796 ⟨by show _ ≤ 601024; omega, by show _ ≤ 7293034; omega⟩) hS (fun q _ h => lx_A dis.2.1 hA hS q h) (lx_A dis.2.1 hA hS) (fun r10 u t H1 locs ht hvm hw hB hz1 hk1 hS => ?_)
  have hJX := xi_keep hJX (fun q h1 h2 => hk1 q h1 (lx_no (fun q h g => dis.2.2.2.1 q g h) h1 h2))
  have hPo := lx_o hPo dis.2.2.2.2.2 hk1
  have hwm : mM_bound Sm (xs (nI (7 * k + 1)).toNatClampNeg) (xs (nI (7 * k + 2)).toNatClampNeg) (xs (nI (7 * k + 3)).toNatClampNeg) (xs (nI (7 * k + 4)).toNatClampNeg) r10 u := hw
  have hJM : MInv (dC, dI) kI kB ma MA u t.heap := hB
  generalize u = um at hwm hJM
  have hsr1 := sr_bound hsr hfx hfm hwx hwm
  rw [ht] at hJM
  clear hk1 hz1 ht hvm
  generalize H1 = H at hJX hJM hPo hS ⊢
  refine lv_pop hx hb dL_law_799 rfl ?_
  refine lv_goto (tgt := 1697) hx hb dL_law_800 (by decide) ?_
  refine W.widen (k := cells + 1) (n := slots + 6) (by omega) (by omega) ?_
  exact hT _ _ _ ⟨ux, um, hsr1, hJX, hJM, fq, hPo⟩ hS (lv_sub hl [0, 1, 2, 3, 4] rfl)
set_option maxHeartbeats 4000000 in
set_option maxRecDepth 100000 in
theorem law_case_15 {p : Program} {e : Env} {s : State} {m : MethodId} {below : List Frame} {meth : Method} {c : Code} (l : Launch) (hlt : l.stackTraces = false) {b L : Nat} {xs : Nat → Int32} (C0 : lw_At p s m meth c b L xs) {A : Nat → Prop} (hA : ∀ q : Nat, s.heap.size ≤ q → A q) (hAs : ∀ q : Nat, A q → s.heap.size ≤ q) (hY : sy_E A s s.heap) {dC : Nat → ClassId} {dI : Nat → Nat → Nat} {kI kB kQ kL : ClassId} (hK : va_K (dC, dI) vwCl (k3 kI kB kQ ++ [(kL, .long)]) s) {xa ma qo : Nat} {XA MA : Nat → Prop} (dis : lw_dis XA MA qo A) (hL : L ≤ 3584) (k : Nat) (hk : 7 * k + 7 ≤ L) {H : Heap} {locs : List Loc} {ls : Array Slot} (hJ : LInv (dC, dI) kI kB kQ kL xa ma qo XA MA H) (hS : va_S A s.heap H locs) (hl : lv_has ls 7 [(0, .ref b), (1, .ref xa), (2, .ref ma), (3, .ref qo), (4, .int (nI (7 * k)))]) {cells slots : Nat} (hc : cells ≤ 600000) (hs : slots ≤ 7200000) (hT : ∀ (H : Heap) (locs : List Loc) (ls : Array Slot), LInv (dC, dI) kI kB kQ kL xa ma qo XA MA H → va_S A s.heap H locs → lv_has ls 7 [(0, .ref b), (1, .ref xa), (2, .ref ma), (3, .ref qo), (4, .int (nI (7 * k)))] → W p l e room_1 s m #[Value.ref b] below meth c H locs (cells + 1) (slots + 6) (lw_Z below #[Value.ref b] s) (F0 m 1697 ls [])) : W p l e room_1 s m #[Value.ref b] below meth c H locs cells slots (lw_Z below #[Value.ref b] s) (F0 m 803 ls []) := by
  obtain ⟨hx, hb, hr, hml, hown0, hts0, hX, hbl, hlocks, hgv⟩ := id C0
  have hown : s.vm.findClass RL = some m.cls := hown0
  have hts : ∀ w ∈ vsL, w.before #[Value.ref b] s = true := fun w h => hts0 w (vsL_in w h)
  have hbA : ¬ A b := fun h => absurd (hAs b h) (Nat.not_le.mpr hbl)
  obtain ⟨Sx, Sm, hsr, hJX, hJM, fq, hPo⟩ := hJ
  have hfx := xi_fact hJX
  have hfm := mi_fact hJM
  refine lv_aload_n hx hb dL_law_803 rfl (lv_at hl 1 rfl) ?_
  refine lv_aload_n hx hb dL_law_804 rfl (lv_at hl 0 rfl) ?_
  refine lv_iload hx hb dL_law_805 (lv_at hl 4 rfl) ?_
  refine lv_iconst (v := 1) hx hb dL_law_807 (by decide) ?_
  refine lv_iadd hx hb dL_law_808 ?_
  refine lv_topi (fun y1 ey1 => ?_)
  obtain rfl : y1 = nI (7 * k + 1) := ey1.trans (nI_add (7 * k) 1)
  refine va_sld hx hb hX hbl hbA hS (vp_in_nI (n := 7 * k + 1) (by omega) (by omega)) dL_law_809 ?_
  refine lv_aload_n hx hb dL_law_810 rfl (lv_at hl 0 rfl) ?_
  refine lv_iload hx hb dL_law_811 (lv_at hl 4 rfl) ?_
  refine lv_iconst (v := 2) hx hb dL_law_813 (by decide) ?_
  refine lv_iadd hx hb dL_law_814 ?_
  refine lv_topi (fun y2 ey2 => ?_)
  obtain rfl : y2 = nI (7 * k + 2) := ey2.trans (nI_add (7 * k) 2)
  refine va_sld hx hb hX hbl hbA hS (vp_in_nI (n := 7 * k + 2) (by omega) (by omega)) dL_law_815 ?_
  obtain ⟨fsr, hPr⟩ := xi_recv hJX
  refine va_calli (va_runV (As := [.int (xs (nI (7 * k + 1)).toNatClampNeg), .int (xs (nI (7 * k + 2)).toNatClampNeg)]) (rest := []) ⟨hx, hb, hml, hown, hts⟩ (k_X8_within l dC dI _ kI kB kQ xa XA Sx (xs (nI (7 * k + 1)).toNatClampNeg) (xs (nI (7 * k + 2)).toNatClampNeg)) (cwV 2 hts gL_X8_within rfl rfl rfl (by decide +kernel) ⟨Nat.le_of_ble_eq_true rfl, Nat.le_of_ble_eq_true rfl⟩) ⟨xB_bl, va_recv hK hPr (ci := 8) (q0 := 0) rfl rfl, xB_in hJX (k3_of hK)⟩ rfl rfl hl.1 rfl (lv_room (Nat.le_of_ble_eq_true rfl)) dL_law_816 ⟨by show _ ≤ 601024; omega, by show _ ≤ 7293034; omega⟩) hS (fun q _ h => lx_A dis.1 hA hS q h) (lx_A dis.1 hA hS) (fun r3 u t H1 locs ht hvm hw hB hz1 hk1 hS => ?_)
  have hJM := mi_keep hJM (fun q h1 h2 => hk1 q h1 (lx_no dis.2.2.2.1 h1 h2))
  have hPo := lx_o hPo dis.2.2.2.2.1 hk1
  have hwx : xM_within Sx (xs (nI (7 * k + 1)).toNatClampNeg) (xs (nI (7 * k + 2)).toNatClampNeg) r3 u := hw
  have hJX : XInv (dC, dI) kI kB kQ xa XA u t.heap := hB
  generalize u = ux at hwx hJX
  rw [ht] at hJX
  clear hk1 hz1 ht hvm
  generalize H1 = H at hJX hJM hPo hS ⊢
  refine lv_pop hx hb dL_law_819 rfl ?_
  refine lv_aload_n hx hb dL_law_820 rfl (lv_at hl 2 rfl) ?_
  refine lv_aload_n hx hb dL_law_821 rfl (lv_at hl 0 rfl) ?_
  refine lv_iload hx hb dL_law_822 (lv_at hl 4 rfl) ?_
  refine lv_iconst (v := 1) hx hb dL_law_824 (by decide) ?_
  refine lv_iadd hx hb dL_law_825 ?_
  refine lv_topi (fun y4 ey4 => ?_)
  obtain rfl : y4 = nI (7 * k + 1) := ey4.trans (nI_add (7 * k) 1)
  refine va_sld hx hb hX hbl hbA hS (vp_in_nI (n := 7 * k + 1) (by omega) (by omega)) dL_law_826 ?_
  refine lv_aload_n hx hb dL_law_827 rfl (lv_at hl 0 rfl) ?_
  refine lv_iload hx hb dL_law_828 (lv_at hl 4 rfl) ?_
  refine lv_iconst (v := 2) hx hb dL_law_830 (by decide) ?_
  refine lv_iadd hx hb dL_law_831 ?_
  refine lv_topi (fun y5 ey5 => ?_)
  obtain rfl : y5 = nI (7 * k + 2) := ey5.trans (nI_add (7 * k) 2)
  refine va_sld hx hb hX hbl hbA hS (vp_in_nI (n := 7 * k + 2) (by omega) (by omega)) dL_law_832 ?_
  obtain ⟨fsr, hPr⟩ := mi_recv hJM
  refine va_calli (va_runV (As := [.int (xs (nI (7 * k + 1)).toNatClampNeg), .int (xs (nI (7 * k + 2)).toNatClampNeg)]) (rest := []) ⟨hx, hb, hml, hown, hts⟩ (k_X9_within l dC dI _ kI kB kQ ma MA Sm (xs (nI (7 * k + 1)).toNatClampNeg) (xs (nI (7 * k + 2)).toNatClampNeg)) (cwV 2 hts gL_X9_within rfl rfl rfl (by decide +kernel) ⟨Nat.le_of_ble_eq_true rfl, Nat.le_of_ble_eq_true rfl⟩) ⟨xB_bl, va_recv hK hPr (ci := 9) (q0 := 0) rfl rfl, xB_in hJM (k3_of hK)⟩ rfl rfl hl.1 rfl (lv_room (Nat.le_of_ble_eq_true rfl)) dL_law_833 ⟨by show _ ≤ 601024; omega, by show _ ≤ 7293034; omega⟩) hS (fun q _ h => lx_A dis.2.1 hA hS q h) (lx_A dis.2.1 hA hS) (fun r6 u t H1 locs ht hvm hw hB hz1 hk1 hS => ?_)
  have hJX := xi_keep hJX (fun q h1 h2 => hk1 q h1 (lx_no (fun q h g => dis.2.2.2.1 q g h) h1 h2))
  have hPo := lx_o hPo dis.2.2.2.2.2 hk1
  have hwm : mM_within Sm (xs (nI (7 * k + 1)).toNatClampNeg) (xs (nI (7 * k + 2)).toNatClampNeg) r6 u := hw
  have hJM : MInv (dC, dI) kI kB ma MA u t.heap := hB
  generalize u = um at hwm hJM
  have hsr1 := sr_within hsr hfx hfm hwx hwm
  rw [ht] at hJM
  clear hk1 hz1 ht hvm
  generalize H1 = H at hJX hJM hPo hS ⊢
  refine lv_pop hx hb dL_law_836 rfl ?_
  refine lv_goto (tgt := 1697) hx hb dL_law_837 (by decide) ?_
  refine W.widen (k := cells + 1) (n := slots + 6) (by omega) (by omega) ?_
  exact hT _ _ _ ⟨ux, um, hsr1, hJX, hJM, fq, hPo⟩ hS (lv_sub hl [0, 1, 2, 3, 4] rfl)
set_option maxHeartbeats 4000000 in
set_option maxRecDepth 100000 in
theorem law_case_16 {p : Program} {e : Env} {s : State} {m : MethodId} {below : List Frame} {meth : Method} {c : Code} (l : Launch) (hlt : l.stackTraces = false) {b L : Nat} {xs : Nat → Int32} (C0 : lw_At p s m meth c b L xs) {A : Nat → Prop} (hA : ∀ q : Nat, s.heap.size ≤ q → A q) (hAs : ∀ q : Nat, A q → s.heap.size ≤ q) (hY : sy_E A s s.heap) {dC : Nat → ClassId} {dI : Nat → Nat → Nat} {kI kB kQ kL : ClassId} (hK : va_K (dC, dI) vwCl (k3 kI kB kQ ++ [(kL, .long)]) s) {xa ma qo : Nat} {XA MA : Nat → Prop} (dis : lw_dis XA MA qo A) (hL : L ≤ 3584) (k : Nat) (hk : 7 * k + 7 ≤ L) {H : Heap} {locs : List Loc} {ls : Array Slot} (hJ : LInv (dC, dI) kI kB kQ kL xa ma qo XA MA H) (hS : va_S A s.heap H locs) (hl : lv_has ls 7 [(0, .ref b), (1, .ref xa), (2, .ref ma), (3, .ref qo), (4, .int (nI (7 * k)))]) {cells slots : Nat} (hc : cells ≤ 600000) (hs : slots ≤ 7200000) (hT : ∀ (H : Heap) (locs : List Loc) (ls : Array Slot), LInv (dC, dI) kI kB kQ kL xa ma qo XA MA H → va_S A s.heap H locs → lv_has ls 7 [(0, .ref b), (1, .ref xa), (2, .ref ma), (3, .ref qo), (4, .int (nI (7 * k)))] → W p l e room_1 s m #[Value.ref b] below meth c H locs (cells + 1) (slots + 6) (lw_Z below #[Value.ref b] s) (F0 m 1697 ls [])) : W p l e room_1 s m #[Value.ref b] below meth c H locs cells slots (lw_Z below #[Value.ref b] s) (F0 m 840 ls []) := by
  obtain ⟨hx, hb, hr, hml, hown0, hts0, hX, hbl, hlocks, hgv⟩ := id C0
  have hown : s.vm.findClass RL = some m.cls := hown0
  have hts : ∀ w ∈ vsL, w.before #[Value.ref b] s = true := fun w h => hts0 w (vsL_in w h)
  have hbA : ¬ A b := fun h => absurd (hAs b h) (Nat.not_le.mpr hbl)
  obtain ⟨Sx, Sm, hsr, hJX, hJM, fq, hPo⟩ := hJ
  have hfx := xi_fact hJX
  have hfm := mi_fact hJM
  refine lv_aload_n hx hb dL_law_840 rfl (lv_at hl 1 rfl) ?_
  refine lv_aload_n hx hb dL_law_841 rfl (lv_at hl 0 rfl) ?_
  refine lv_iload hx hb dL_law_842 (lv_at hl 4 rfl) ?_
  refine lv_iconst (v := 1) hx hb dL_law_844 (by decide) ?_
  refine lv_iadd hx hb dL_law_845 ?_
  refine lv_topi (fun y1 ey1 => ?_)
  obtain rfl : y1 = nI (7 * k + 1) := ey1.trans (nI_add (7 * k) 1)
  refine va_sld hx hb hX hbl hbA hS (vp_in_nI (n := 7 * k + 1) (by omega) (by omega)) dL_law_846 ?_
  refine lv_aload_n hx hb dL_law_847 rfl (lv_at hl 0 rfl) ?_
  refine lv_iload hx hb dL_law_848 (lv_at hl 4 rfl) ?_
  refine lv_iconst (v := 2) hx hb dL_law_850 (by decide) ?_
  refine lv_iadd hx hb dL_law_851 ?_
  refine lv_topi (fun y2 ey2 => ?_)
  obtain rfl : y2 = nI (7 * k + 2) := ey2.trans (nI_add (7 * k) 2)
  refine va_sld hx hb hX hbl hbA hS (vp_in_nI (n := 7 * k + 2) (by omega) (by omega)) dL_law_852 ?_
  refine lv_aload_n hx hb dL_law_853 rfl (lv_at hl 0 rfl) ?_
  refine lv_iload hx hb dL_law_854 (lv_at hl 4 rfl) ?_
  refine lv_iconst (v := 3) hx hb dL_law_856 (by decide) ?_
  refine lv_iadd hx hb dL_law_857 ?_
  refine lv_topi (fun y3 ey3 => ?_)
  obtain rfl : y3 = nI (7 * k + 3) := ey3.trans (nI_add (7 * k) 3)
  refine va_sld hx hb hX hbl hbA hS (vp_in_nI (n := 7 * k + 3) (by omega) (by omega)) dL_law_858 ?_
  refine lv_aload_n hx hb dL_law_859 rfl (lv_at hl 0 rfl) ?_
  refine lv_iload hx hb dL_law_860 (lv_at hl 4 rfl) ?_
  refine lv_iconst (v := 4) hx hb dL_law_862 (by decide) ?_
  refine lv_iadd hx hb dL_law_863 ?_
  refine lv_topi (fun y4 ey4 => ?_)
  obtain rfl : y4 = nI (7 * k + 4) := ey4.trans (nI_add (7 * k) 4)
  refine va_sld hx hb hX hbl hbA hS (vp_in_nI (n := 7 * k + 4) (by omega) (by omega)) dL_law_864 ?_
  obtain ⟨fsr, hPr⟩ := xi_recv hJX
  refine va_calli (va_runV (As := [.int (xs (nI (7 * k + 1)).toNatClampNeg), .int (xs (nI (7 * k + 2)).toNatClampNeg), .int (xs (nI (7 * k + 3)).toNatClampNeg), .int (xs (nI (7 * k + 4)).toNatClampNeg)]) (rest := []) ⟨hx, hb, hml, hown, hts⟩ (k_X8_has l dC dI _ kI kB kQ xa XA Sx (xs (nI (7 * k + 1)).toNatClampNeg) (xs (nI (7 * k + 2)).toNatClampNeg) (xs (nI (7 * k + 3)).toNatClampNeg) (xs (nI (7 * k + 4)).toNatClampNeg)) (cwV 4 hts gL_X8_has rfl rfl rfl (by decide +kernel) ⟨Nat.le_of_ble_eq_true rfl, Nat.le_of_ble_eq_true rfl⟩) ⟨xB_bl, va_recv hK hPr (ci := 8) (q0 := 0) rfl rfl, xB_in hJX (k3_of hK)⟩ rfl rfl hl.1 rfl (lv_room (Nat.le_of_ble_eq_true rfl)) dL_law_865 ⟨by show _ ≤ 601024; omega, by show _ ≤ 7293034; omega⟩) hS (fun q _ h => lx_A dis.1 hA hS q h) (lx_A dis.1 hA hS) (fun r5 u t H1 locs ht hvm hw hB hz1 hk1 hS => ?_)
  have hJM := mi_keep hJM (fun q h1 h2 => hk1 q h1 (lx_no dis.2.2.2.1 h1 h2))
  have hPo := lx_o hPo dis.2.2.2.2.1 hk1
  have hwx : xM_has Sx (xs (nI (7 * k + 1)).toNatClampNeg) (xs (nI (7 * k + 2)).toNatClampNeg) (xs (nI (7 * k + 3)).toNatClampNeg) (xs (nI (7 * k + 4)).toNatClampNeg) r5 u := hw
  have hJX : XInv (dC, dI) kI kB kQ xa XA u t.heap := hB
  generalize u = ux at hwx hJX
  rw [ht] at hJX
  clear hk1 hz1 ht hvm
  generalize H1 = H at hJX hJM hPo hS ⊢
  refine lv_pop hx hb dL_law_868 rfl ?_
  refine lv_aload_n hx hb dL_law_869 rfl (lv_at hl 2 rfl) ?_
  refine lv_aload_n hx hb dL_law_870 rfl (lv_at hl 0 rfl) ?_
  refine lv_iload hx hb dL_law_871 (lv_at hl 4 rfl) ?_
  refine lv_iconst (v := 1) hx hb dL_law_873 (by decide) ?_
  refine lv_iadd hx hb dL_law_874 ?_
  refine lv_topi (fun y6 ey6 => ?_)
  obtain rfl : y6 = nI (7 * k + 1) := ey6.trans (nI_add (7 * k) 1)
  refine va_sld hx hb hX hbl hbA hS (vp_in_nI (n := 7 * k + 1) (by omega) (by omega)) dL_law_875 ?_
  refine lv_aload_n hx hb dL_law_876 rfl (lv_at hl 0 rfl) ?_
  refine lv_iload hx hb dL_law_877 (lv_at hl 4 rfl) ?_
  refine lv_iconst (v := 2) hx hb dL_law_879 (by decide) ?_
  refine lv_iadd hx hb dL_law_880 ?_
  refine lv_topi (fun y7 ey7 => ?_)
  obtain rfl : y7 = nI (7 * k + 2) := ey7.trans (nI_add (7 * k) 2)
  refine va_sld hx hb hX hbl hbA hS (vp_in_nI (n := 7 * k + 2) (by omega) (by omega)) dL_law_881 ?_
  refine lv_aload_n hx hb dL_law_882 rfl (lv_at hl 0 rfl) ?_
  refine lv_iload hx hb dL_law_883 (lv_at hl 4 rfl) ?_
  refine lv_iconst (v := 3) hx hb dL_law_885 (by decide) ?_
  refine lv_iadd hx hb dL_law_886 ?_
  refine lv_topi (fun y8 ey8 => ?_)
  obtain rfl : y8 = nI (7 * k + 3) := ey8.trans (nI_add (7 * k) 3)
  refine va_sld hx hb hX hbl hbA hS (vp_in_nI (n := 7 * k + 3) (by omega) (by omega)) dL_law_887 ?_
  refine lv_aload_n hx hb dL_law_888 rfl (lv_at hl 0 rfl) ?_
  refine lv_iload hx hb dL_law_889 (lv_at hl 4 rfl) ?_
  refine lv_iconst (v := 4) hx hb dL_law_891 (by decide) ?_
  refine lv_iadd hx hb dL_law_892 ?_
  refine lv_topi (fun y9 ey9 => ?_)
  obtain rfl : y9 = nI (7 * k + 4) := ey9.trans (nI_add (7 * k) 4)
  refine va_sld hx hb hX hbl hbA hS (vp_in_nI (n := 7 * k + 4) (by omega) (by omega)) dL_law_893 ?_
  obtain ⟨fsr, hPr⟩ := mi_recv hJM
  refine va_calli (va_runV (As := [.int (xs (nI (7 * k + 1)).toNatClampNeg), .int (xs (nI (7 * k + 2)).toNatClampNeg), .int (xs (nI (7 * k + 3)).toNatClampNeg), .int (xs (nI (7 * k + 4)).toNatClampNeg)]) (rest := []) ⟨hx, hb, hml, hown, hts⟩ (k_X9_has l dC dI _ kI kB kQ ma MA Sm (xs (nI (7 * k + 1)).toNatClampNeg) (xs (nI (7 * k + 2)).toNatClampNeg) (xs (nI (7 * k + 3)).toNatClampNeg) (xs (nI (7 * k + 4)).toNatClampNeg)) (cwV 4 hts gL_X9_has rfl rfl rfl (by decide +kernel) ⟨Nat.le_of_ble_eq_true rfl, Nat.le_of_ble_eq_true rfl⟩) ⟨xB_bl, va_recv hK hPr (ci := 9) (q0 := 0) rfl rfl, xB_in hJM (k3_of hK)⟩ rfl rfl hl.1 rfl (lv_room (Nat.le_of_ble_eq_true rfl)) dL_law_894 ⟨by show _ ≤ 601024; omega, by show _ ≤ 7293034; omega⟩) hS (fun q _ h => lx_A dis.2.1 hA hS q h) (lx_A dis.2.1 hA hS) (fun r10 u t H1 locs ht hvm hw hB hz1 hk1 hS => ?_)
  have hJX := xi_keep hJX (fun q h1 h2 => hk1 q h1 (lx_no (fun q h g => dis.2.2.2.1 q g h) h1 h2))
  have hPo := lx_o hPo dis.2.2.2.2.2 hk1
  have hwm : mM_has Sm (xs (nI (7 * k + 1)).toNatClampNeg) (xs (nI (7 * k + 2)).toNatClampNeg) (xs (nI (7 * k + 3)).toNatClampNeg) (xs (nI (7 * k + 4)).toNatClampNeg) r10 u := hw
  have hJM : MInv (dC, dI) kI kB ma MA u t.heap := hB
  generalize u = um at hwm hJM
  have hsr1 := sr_has hsr hfx hfm hwx hwm
  rw [ht] at hJM
  clear hk1 hz1 ht hvm
  generalize H1 = H at hJX hJM hPo hS ⊢
  refine lv_pop hx hb dL_law_897 rfl ?_
  refine lv_goto (tgt := 1697) hx hb dL_law_898 (by decide) ?_
  refine W.widen (k := cells + 1) (n := slots + 6) (by omega) (by omega) ?_
  exact hT _ _ _ ⟨ux, um, hsr1, hJX, hJM, fq, hPo⟩ hS (lv_sub hl [0, 1, 2, 3, 4] rfl)
set_option maxHeartbeats 4000000 in
set_option maxRecDepth 100000 in
theorem law_case_17 {p : Program} {e : Env} {s : State} {m : MethodId} {below : List Frame} {meth : Method} {c : Code} (l : Launch) (hlt : l.stackTraces = false) {b L : Nat} {xs : Nat → Int32} (C0 : lw_At p s m meth c b L xs) {A : Nat → Prop} (hA : ∀ q : Nat, s.heap.size ≤ q → A q) (hAs : ∀ q : Nat, A q → s.heap.size ≤ q) (hY : sy_E A s s.heap) {dC : Nat → ClassId} {dI : Nat → Nat → Nat} {kI kB kQ kL : ClassId} (hK : va_K (dC, dI) vwCl (k3 kI kB kQ ++ [(kL, .long)]) s) {xa ma qo : Nat} {XA MA : Nat → Prop} (dis : lw_dis XA MA qo A) (hL : L ≤ 3584) (k : Nat) (hk : 7 * k + 7 ≤ L) {H : Heap} {locs : List Loc} {ls : Array Slot} (hJ : LInv (dC, dI) kI kB kQ kL xa ma qo XA MA H) (hS : va_S A s.heap H locs) (hl : lv_has ls 7 [(0, .ref b), (1, .ref xa), (2, .ref ma), (3, .ref qo), (4, .int (nI (7 * k)))]) {cells slots : Nat} (hc : cells ≤ 600000) (hs : slots ≤ 7200000) (hT : ∀ (H : Heap) (locs : List Loc) (ls : Array Slot), LInv (dC, dI) kI kB kQ kL xa ma qo XA MA H → va_S A s.heap H locs → lv_has ls 7 [(0, .ref b), (1, .ref xa), (2, .ref ma), (3, .ref qo), (4, .int (nI (7 * k)))] → W p l e room_1 s m #[Value.ref b] below meth c H locs (cells + 1) (slots + 6) (lw_Z below #[Value.ref b] s) (F0 m 1697 ls [])) : W p l e room_1 s m #[Value.ref b] below meth c H locs cells slots (lw_Z below #[Value.ref b] s) (F0 m 901 ls []) := by
  obtain ⟨hx, hb, hr, hml, hown0, hts0, hX, hbl, hlocks, hgv⟩ := id C0
  have hown : s.vm.findClass RL = some m.cls := hown0
  have hts : ∀ w ∈ vsL, w.before #[Value.ref b] s = true := fun w h => hts0 w (vsL_in w h)
  have hbA : ¬ A b := fun h => absurd (hAs b h) (Nat.not_le.mpr hbl)
  obtain ⟨Sx, Sm, hsr, hJX, hJM, fq, hPo⟩ := hJ
  have hfx := xi_fact hJX
  have hfm := mi_fact hJM
  refine lv_aload_n hx hb dL_law_901 rfl (lv_at hl 1 rfl) ?_
  refine lv_aload_n hx hb dL_law_902 rfl (lv_at hl 0 rfl) ?_
  refine lv_iload hx hb dL_law_903 (lv_at hl 4 rfl) ?_
  refine lv_iconst (v := 1) hx hb dL_law_905 (by decide) ?_
  refine lv_iadd hx hb dL_law_906 ?_
  refine lv_topi (fun y1 ey1 => ?_)
  obtain rfl : y1 = nI (7 * k + 1) := ey1.trans (nI_add (7 * k) 1)
  refine va_sld hx hb hX hbl hbA hS (vp_in_nI (n := 7 * k + 1) (by omega) (by omega)) dL_law_907 ?_
  obtain ⟨fsr, hPr⟩ := xi_recv hJX
  refine va_calli (va_runV (As := [.int (xs (nI (7 * k + 1)).toNatClampNeg)]) (rest := []) ⟨hx, hb, hml, hown, hts⟩ (k_X8_first l dC dI _ kI kB kQ xa XA Sx (xs (nI (7 * k + 1)).toNatClampNeg)) (cwV 1 hts gL_X8_first rfl rfl rfl (by decide +kernel) ⟨Nat.le_of_ble_eq_true rfl, Nat.le_of_ble_eq_true rfl⟩) ⟨xB_bl, va_recv hK hPr (ci := 8) (q0 := 0) rfl rfl, xB_in hJX (k3_of hK)⟩ rfl rfl hl.1 rfl (lv_room (Nat.le_of_ble_eq_true rfl)) dL_law_908 ⟨by show _ ≤ 601024; omega, by show _ ≤ 7293034; omega⟩) hS (fun q _ h => lx_A dis.1 hA hS q h) (lx_A dis.1 hA hS) (fun r2 u t H1 locs ht hvm hw hB hz1 hk1 hS => ?_)
  have hJM := mi_keep hJM (fun q h1 h2 => hk1 q h1 (lx_no dis.2.2.2.1 h1 h2))
  have hPo := lx_o hPo dis.2.2.2.2.1 hk1
  have hwx : xM_first Sx (xs (nI (7 * k + 1)).toNatClampNeg) r2 u := hw
  have hJX : XInv (dC, dI) kI kB kQ xa XA u t.heap := hB
  generalize u = ux at hwx hJX
  rw [ht] at hJX
  clear hk1 hz1 ht hvm
  generalize H1 = H at hJX hJM hPo hS ⊢
  refine lv_pop hx hb dL_law_911 rfl ?_
  refine lv_aload_n hx hb dL_law_912 rfl (lv_at hl 2 rfl) ?_
  refine lv_aload_n hx hb dL_law_913 rfl (lv_at hl 0 rfl) ?_
  refine lv_iload hx hb dL_law_914 (lv_at hl 4 rfl) ?_
  refine lv_iconst (v := 1) hx hb dL_law_916 (by decide) ?_
  refine lv_iadd hx hb dL_law_917 ?_
  refine lv_topi (fun y3 ey3 => ?_)
  obtain rfl : y3 = nI (7 * k + 1) := ey3.trans (nI_add (7 * k) 1)
  refine va_sld hx hb hX hbl hbA hS (vp_in_nI (n := 7 * k + 1) (by omega) (by omega)) dL_law_918 ?_
  obtain ⟨fsr, hPr⟩ := mi_recv hJM
  refine va_calli (va_runV (As := [.int (xs (nI (7 * k + 1)).toNatClampNeg)]) (rest := []) ⟨hx, hb, hml, hown, hts⟩ (k_X9_first l dC dI _ kI kB kQ ma MA Sm (xs (nI (7 * k + 1)).toNatClampNeg)) (cwV 1 hts gL_X9_first rfl rfl rfl (by decide +kernel) ⟨Nat.le_of_ble_eq_true rfl, Nat.le_of_ble_eq_true rfl⟩) ⟨xB_bl, va_recv hK hPr (ci := 9) (q0 := 0) rfl rfl, xB_in hJM (k3_of hK)⟩ rfl rfl hl.1 rfl (lv_room (Nat.le_of_ble_eq_true rfl)) dL_law_919 ⟨by show _ ≤ 601024; omega, by show _ ≤ 7293034; omega⟩) hS (fun q _ h => lx_A dis.2.1 hA hS q h) (lx_A dis.2.1 hA hS) (fun r4 u t H1 locs ht hvm hw hB hz1 hk1 hS => ?_)
  have hJX := xi_keep hJX (fun q h1 h2 => hk1 q h1 (lx_no (fun q h g => dis.2.2.2.1 q g h) h1 h2))
  have hPo := lx_o hPo dis.2.2.2.2.2 hk1
  have hwm : mM_first Sm (xs (nI (7 * k + 1)).toNatClampNeg) r4 u := hw
  have hJM : MInv (dC, dI) kI kB ma MA u t.heap := hB
  generalize u = um at hwm hJM
  have hsr1 := sr_first hsr hfx hfm hwx hwm
  rw [ht] at hJM
  clear hk1 hz1 ht hvm
  generalize H1 = H at hJX hJM hPo hS ⊢
  refine lv_pop hx hb dL_law_922 rfl ?_
  refine lv_goto (tgt := 1697) hx hb dL_law_923 (by decide) ?_
  refine W.widen (k := cells + 1) (n := slots + 6) (by omega) (by omega) ?_
  exact hT _ _ _ ⟨ux, um, hsr1, hJX, hJM, fq, hPo⟩ hS (lv_sub hl [0, 1, 2, 3, 4] rfl)
set_option maxHeartbeats 4000000 in
set_option maxRecDepth 100000 in
theorem law_case_18 {p : Program} {e : Env} {s : State} {m : MethodId} {below : List Frame} {meth : Method} {c : Code} (l : Launch) (hlt : l.stackTraces = false) {b L : Nat} {xs : Nat → Int32} (C0 : lw_At p s m meth c b L xs) {A : Nat → Prop} (hA : ∀ q : Nat, s.heap.size ≤ q → A q) (hAs : ∀ q : Nat, A q → s.heap.size ≤ q) (hY : sy_E A s s.heap) {dC : Nat → ClassId} {dI : Nat → Nat → Nat} {kI kB kQ kL : ClassId} (hK : va_K (dC, dI) vwCl (k3 kI kB kQ ++ [(kL, .long)]) s) {xa ma qo : Nat} {XA MA : Nat → Prop} (dis : lw_dis XA MA qo A) (hL : L ≤ 3584) (k : Nat) (hk : 7 * k + 7 ≤ L) {H : Heap} {locs : List Loc} {ls : Array Slot} (hJ : LInv (dC, dI) kI kB kQ kL xa ma qo XA MA H) (hS : va_S A s.heap H locs) (hl : lv_has ls 7 [(0, .ref b), (1, .ref xa), (2, .ref ma), (3, .ref qo), (4, .int (nI (7 * k)))]) {cells slots : Nat} (hc : cells ≤ 600000) (hs : slots ≤ 7200000) (hT : ∀ (H : Heap) (locs : List Loc) (ls : Array Slot), LInv (dC, dI) kI kB kQ kL xa ma qo XA MA H → va_S A s.heap H locs → lv_has ls 7 [(0, .ref b), (1, .ref xa), (2, .ref ma), (3, .ref qo), (4, .int (nI (7 * k)))] → W p l e room_1 s m #[Value.ref b] below meth c H locs (cells + 1) (slots + 6) (lw_Z below #[Value.ref b] s) (F0 m 1697 ls [])) : W p l e room_1 s m #[Value.ref b] below meth c H locs cells slots (lw_Z below #[Value.ref b] s) (F0 m 926 ls []) := by
  obtain ⟨hx, hb, hr, hml, hown0, hts0, hX, hbl, hlocks, hgv⟩ := id C0
  have hown : s.vm.findClass RL = some m.cls := hown0
  have hts : ∀ w ∈ vsL, w.before #[Value.ref b] s = true := fun w h => hts0 w (vsL_in w h)
  have hbA : ¬ A b := fun h => absurd (hAs b h) (Nat.not_le.mpr hbl)
  obtain ⟨Sx, Sm, hsr, hJX, hJM, fq, hPo⟩ := hJ
  have hfx := xi_fact hJX
  have hfm := mi_fact hJM
  refine lv_aload_n hx hb dL_law_926 rfl (lv_at hl 1 rfl) ?_
  obtain ⟨fsr, hPr⟩ := xi_recv hJX
  refine va_calli (va_runV (As := []) (rest := []) ⟨hx, hb, hml, hown, hts⟩ (k_X8_reached l dC dI _ kI kB kQ xa XA Sx ) (cwV 0 hts gL_X8_reached rfl rfl rfl (by decide +kernel) ⟨Nat.le_of_ble_eq_true rfl, Nat.le_of_ble_eq_true rfl⟩) ⟨xB_bl, va_recv hK hPr (ci := 8) (q0 := 0) rfl rfl, xB_in hJX (k3_of hK)⟩ rfl rfl hl.1 rfl (lv_room (Nat.le_of_ble_eq_true rfl)) dL_law_927 ⟨by show _ ≤ 601024; omega, by show _ ≤ 7293034; omega⟩) hS (fun q _ h => lx_A dis.1 hA hS q h) (lx_A dis.1 hA hS) (fun r1 u t H1 locs ht hvm hw hB hz1 hk1 hS => ?_)
  have hJM := mi_keep hJM (fun q h1 h2 => hk1 q h1 (lx_no dis.2.2.2.1 h1 h2))
  have hPo := lx_o hPo dis.2.2.2.2.1 hk1
  have hwx : xM_reached Sx  r1 u := hw
  have hJX : XInv (dC, dI) kI kB kQ xa XA u t.heap := hB
  generalize u = ux at hwx hJX
  rw [ht] at hJX
  clear hk1 hz1 ht hvm
  generalize H1 = H at hJX hJM hPo hS ⊢
  refine lv_pop hx hb dL_law_930 rfl ?_
  refine lv_aload_n hx hb dL_law_931 rfl (lv_at hl 2 rfl) ?_
  obtain ⟨fsr, hPr⟩ := mi_recv hJM
  refine va_calli (va_runV (As := []) (rest := []) ⟨hx, hb, hml, hown, hts⟩ (k_X9_reached l dC dI _ kI kB kQ ma MA Sm ) (cwV 0 hts gL_X9_reached rfl rfl rfl (by decide +kernel) ⟨Nat.le_of_ble_eq_true rfl, Nat.le_of_ble_eq_true rfl⟩) ⟨xB_bl, va_recv hK hPr (ci := 9) (q0 := 0) rfl rfl, xB_in hJM (k3_of hK)⟩ rfl rfl hl.1 rfl (lv_room (Nat.le_of_ble_eq_true rfl)) dL_law_932 ⟨by show _ ≤ 601024; omega, by show _ ≤ 7293034; omega⟩) hS (fun q _ h => lx_A dis.2.1 hA hS q h) (lx_A dis.2.1 hA hS) (fun r2 u t H1 locs ht hvm hw hB hz1 hk1 hS => ?_)
  have hJX := xi_keep hJX (fun q h1 h2 => hk1 q h1 (lx_no (fun q h g => dis.2.2.2.1 q g h) h1 h2))
  have hPo := lx_o hPo dis.2.2.2.2.2 hk1
  have hwm : mM_reached Sm  r2 u := hw
  have hJM : MInv (dC, dI) kI kB ma MA u t.heap := hB
  generalize u = um at hwm hJM
  have hsr1 := sr_reached hsr hfx hfm hwx hwm
  rw [ht] at hJM
  clear hk1 hz1 ht hvm
  generalize H1 = H at hJX hJM hPo hS ⊢
  refine lv_pop hx hb dL_law_935 rfl ?_
  refine lv_goto (tgt := 1697) hx hb dL_law_936 (by decide) ?_
  refine W.widen (k := cells + 1) (n := slots + 6) (by omega) (by omega) ?_
  exact hT _ _ _ ⟨ux, um, hsr1, hJX, hJM, fq, hPo⟩ hS (lv_sub hl [0, 1, 2, 3, 4] rfl)
set_option maxHeartbeats 4000000 in
set_option maxRecDepth 100000 in
theorem law_case_19 {p : Program} {e : Env} {s : State} {m : MethodId} {below : List Frame} {meth : Method} {c : Code} (l : Launch) (hlt : l.stackTraces = false) {b L : Nat} {xs : Nat → Int32} (C0 : lw_At p s m meth c b L xs) {A : Nat → Prop} (hA : ∀ q : Nat, s.heap.size ≤ q → A q) (hAs : ∀ q : Nat, A q → s.heap.size ≤ q) (hY : sy_E A s s.heap) {dC : Nat → ClassId} {dI : Nat → Nat → Nat} {kI kB kQ kL : ClassId} (hK : va_K (dC, dI) vwCl (k3 kI kB kQ ++ [(kL, .long)]) s) {xa ma qo : Nat} {XA MA : Nat → Prop} (dis : lw_dis XA MA qo A) (hL : L ≤ 3584) (k : Nat) (hk : 7 * k + 7 ≤ L) {H : Heap} {locs : List Loc} {ls : Array Slot} (hJ : LInv (dC, dI) kI kB kQ kL xa ma qo XA MA H) (hS : va_S A s.heap H locs) (hl : lv_has ls 7 [(0, .ref b), (1, .ref xa), (2, .ref ma), (3, .ref qo), (4, .int (nI (7 * k)))]) {cells slots : Nat} (hc : cells ≤ 600000) (hs : slots ≤ 7200000) (hT : ∀ (H : Heap) (locs : List Loc) (ls : Array Slot), LInv (dC, dI) kI kB kQ kL xa ma qo XA MA H → va_S A s.heap H locs → lv_has ls 7 [(0, .ref b), (1, .ref xa), (2, .ref ma), (3, .ref qo), (4, .int (nI (7 * k)))] → W p l e room_1 s m #[Value.ref b] below meth c H locs (cells + 1) (slots + 6) (lw_Z below #[Value.ref b] s) (F0 m 1697 ls [])) : W p l e room_1 s m #[Value.ref b] below meth c H locs cells slots (lw_Z below #[Value.ref b] s) (F0 m 939 ls []) := by
  obtain ⟨hx, hb, hr, hml, hown0, hts0, hX, hbl, hlocks, hgv⟩ := id C0
  have hown : s.vm.findClass RL = some m.cls := hown0
  have hts : ∀ w ∈ vsL, w.before #[Value.ref b] s = true := fun w h => hts0 w (vsL_in w h)
  have hbA : ¬ A b := fun h => absurd (hAs b h) (Nat.not_le.mpr hbl)
  obtain ⟨Sx, Sm, hsr, hJX, hJM, fq, hPo⟩ := hJ
  have hfx := xi_fact hJX
  have hfm := mi_fact hJM
  refine lv_aload_n hx hb dL_law_939 rfl (lv_at hl 1 rfl) ?_
  obtain ⟨fsr, hPr⟩ := xi_recv hJX
  refine va_calli (va_runV (As := []) (rest := []) ⟨hx, hb, hml, hown, hts⟩ (k_X8_taken l dC dI _ kI kB kQ xa XA Sx ) (cwV 0 hts gL_X8_taken rfl rfl rfl (by decide +kernel) ⟨Nat.le_of_ble_eq_true rfl, Nat.le_of_ble_eq_true rfl⟩) ⟨xB_bl, va_recv hK hPr (ci := 8) (q0 := 0) rfl rfl, xB_in hJX (k3_of hK)⟩ rfl rfl hl.1 rfl (lv_room (Nat.le_of_ble_eq_true rfl)) dL_law_940 ⟨by show _ ≤ 601024; omega, by show _ ≤ 7293034; omega⟩) hS (fun q _ h => lx_A dis.1 hA hS q h) (lx_A dis.1 hA hS) (fun r1 u t H1 locs ht hvm hw hB hz1 hk1 hS => ?_)
  have hJM := mi_keep hJM (fun q h1 h2 => hk1 q h1 (lx_no dis.2.2.2.1 h1 h2))
  have hPo := lx_o hPo dis.2.2.2.2.1 hk1
  have hwx : xM_taken Sx  r1 u := hw
  have hJX : XInv (dC, dI) kI kB kQ xa XA u t.heap := hB
  generalize u = ux at hwx hJX
  rw [ht] at hJX
  clear hk1 hz1 ht hvm
  generalize H1 = H at hJX hJM hPo hS ⊢
  refine lv_pop hx hb dL_law_943 rfl ?_
  refine lv_aload_n hx hb dL_law_944 rfl (lv_at hl 2 rfl) ?_
  obtain ⟨fsr, hPr⟩ := mi_recv hJM
  refine va_calli (va_runV (As := []) (rest := []) ⟨hx, hb, hml, hown, hts⟩ (k_X9_taken l dC dI _ kI kB kQ ma MA Sm ) (cwV 0 hts gL_X9_taken rfl rfl rfl (by decide +kernel) ⟨Nat.le_of_ble_eq_true rfl, Nat.le_of_ble_eq_true rfl⟩) ⟨xB_bl, va_recv hK hPr (ci := 9) (q0 := 0) rfl rfl, xB_in hJM (k3_of hK)⟩ rfl rfl hl.1 rfl (lv_room (Nat.le_of_ble_eq_true rfl)) dL_law_945 ⟨by show _ ≤ 601024; omega, by show _ ≤ 7293034; omega⟩) hS (fun q _ h => lx_A dis.2.1 hA hS q h) (lx_A dis.2.1 hA hS) (fun r2 u t H1 locs ht hvm hw hB hz1 hk1 hS => ?_)
  have hJX := xi_keep hJX (fun q h1 h2 => hk1 q h1 (lx_no (fun q h g => dis.2.2.2.1 q g h) h1 h2))
  have hPo := lx_o hPo dis.2.2.2.2.2 hk1
  have hwm : mM_taken Sm  r2 u := hw
  have hJM : MInv (dC, dI) kI kB ma MA u t.heap := hB
  generalize u = um at hwm hJM
  have hsr1 := sr_taken hsr hfx hfm hwx hwm
  rw [ht] at hJM
  clear hk1 hz1 ht hvm
  generalize H1 = H at hJX hJM hPo hS ⊢
  refine lv_pop hx hb dL_law_948 rfl ?_
  refine lv_goto (tgt := 1697) hx hb dL_law_949 (by decide) ?_
  refine W.widen (k := cells + 1) (n := slots + 6) (by omega) (by omega) ?_
  exact hT _ _ _ ⟨ux, um, hsr1, hJX, hJM, fq, hPo⟩ hS (lv_sub hl [0, 1, 2, 3, 4] rfl)
