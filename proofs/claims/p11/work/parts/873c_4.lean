set_option maxHeartbeats 4000000 in
set_option maxRecDepth 100000 in
theorem law_case_20 {p : Program} {e : Env} {s : State} {m : MethodId} {below : List Frame} {meth : Method} {c : Code} (l : Launch) (hlt : l.stackTraces = false) {b L : Nat} {xs : Nat → Int32} (C0 : lw_At p s m meth c b L xs) {A : Nat → Prop} (hA : ∀ q : Nat, s.heap.size ≤ q → A q) (hAs : ∀ q : Nat, A q → s.heap.size ≤ q) (hY : sy_E A s s.heap) {dC : Nat → ClassId} {dI : Nat → Nat → Nat} {kI kB kQ kL : ClassId} (hK : va_K (dC, dI) vwCl (k3 kI kB kQ ++ [(kL, .long)]) s) {xa ma qo : Nat} {XA MA : Nat → Prop} (dis : lw_dis XA MA qo A) (hL : L ≤ 3584) (k : Nat) (hk : 7 * k + 7 ≤ L) {H : Heap} {locs : List Loc} {ls : Array Slot} (hJ : LInv (dC, dI) kI kB kQ kL xa ma qo XA MA H) (hS : va_S A s.heap H locs) (hl : lv_has ls 7 [(0, .ref b), (1, .ref xa), (2, .ref ma), (3, .ref qo), (4, .int (nI (7 * k)))]) {cells slots : Nat} (hc : cells ≤ 600000) (hs : slots ≤ 7200000) (hT : ∀ (H : Heap) (locs : List Loc) (ls : Array Slot), LInv (dC, dI) kI kB kQ kL xa ma qo XA MA H → va_S A s.heap H locs → lv_has ls 7 [(0, .ref b), (1, .ref xa), (2, .ref ma), (3, .ref qo), (4, .int (nI (7 * k)))] → W p l e room_1 s m #[Value.ref b] below meth c H locs (cells + 1) (slots + 6) (lw_Z below #[Value.ref b] s) (F0 m 1697 ls [])) : W p l e room_1 s m #[Value.ref b] below meth c H locs cells slots (lw_Z below #[Value.ref b] s) (F0 m 952 ls []) := by
  obtain ⟨hx, hb, hr, hml, hown0, hts0, hX, hbl, hlocks, hgv⟩ := id C0
  have hown : s.vm.findClass RL = some m.cls := hown0
  have hts : ∀ w ∈ vsL, w.before #[Value.ref b] s = true := fun w h => hts0 w (vsL_in w h)
  have hbA : ¬ A b := fun h => absurd (hAs b h) (Nat.not_le.mpr hbl)
  obtain ⟨Sx, Sm, hsr, hJX, hJM, fq, hPo⟩ := hJ
  have hfx := xi_fact hJX
  have hfm := mi_fact hJM
  refine lv_aload_n hx hb dL_law_952 rfl (lv_at hl 1 rfl) ?_
  refine lv_aload_n hx hb dL_law_953 rfl (lv_at hl 0 rfl) ?_
  refine lv_iload hx hb dL_law_954 (lv_at hl 4 rfl) ?_
  refine lv_iconst (v := 1) hx hb dL_law_956 (by decide) ?_
  refine lv_iadd hx hb dL_law_957 ?_
  refine lv_topi (fun y1 ey1 => ?_)
  obtain rfl : y1 = nI (7 * k + 1) := ey1.trans (nI_add (7 * k) 1)
  refine va_sld hx hb hX hbl hbA hS (vp_in_nI (n := 7 * k + 1) (by omega) (by omega)) dL_law_958 ?_
  refine lv_aload_n hx hb dL_law_959 rfl (lv_at hl 0 rfl) ?_
  refine lv_iload hx hb dL_law_960 (lv_at hl 4 rfl) ?_
  refine lv_iconst (v := 2) hx hb dL_law_962 (by decide) ?_
  refine lv_iadd hx hb dL_law_963 ?_
  refine lv_topi (fun y2 ey2 => ?_)
  obtain rfl : y2 = nI (7 * k + 2) := ey2.trans (nI_add (7 * k) 2)
  refine va_sld hx hb hX hbl hbA hS (vp_in_nI (n := 7 * k + 2) (by omega) (by omega)) dL_law_964 ?_
  obtain ⟨fsr, hPr⟩ := xi_recv hJX
  refine va_calli (va_runV (As := [.int (xs (nI (7 * k + 1)).toNatClampNeg), .int (xs (nI (7 * k + 2)).toNatClampNeg)]) (rest := []) ⟨hx, hb, hml, hown, hts⟩ (k_X8_overlap l dC dI _ kI kB kQ xa XA Sx (xs (nI (7 * k + 1)).toNatClampNeg) (xs (nI (7 * k + 2)).toNatClampNeg)) (cwV 2 hts gL_X8_overlap rfl rfl rfl (by decide +kernel) ⟨Nat.le_of_ble_eq_true rfl, Nat.le_of_ble_eq_true rfl⟩) ⟨xB_bl, va_recv hK hPr (ci := 8) (q0 := 0) rfl rfl, xB_in hJX (k3_of hK)⟩ rfl rfl hl.1 rfl (lv_room (Nat.le_of_ble_eq_true rfl)) dL_law_965 ⟨by show _ ≤ 601024; omega, by show _ ≤ 7293034; omega⟩) hS (fun q _ h => lx_A dis.1 hA hS q h) (lx_A dis.1 hA hS) (fun r3 u t H1 locs ht hvm hw hB hz1 hk1 hS => ?_)
  have hJM := mi_keep hJM (fun q h1 h2 => hk1 q h1 (lx_no dis.2.2.2.1 h1 h2))
  have hPo := lx_o hPo dis.2.2.2.2.1 hk1
  have hwx : xM_overlap Sx (xs (nI (7 * k + 1)).toNatClampNeg) (xs (nI (7 * k + 2)).toNatClampNeg) r3 u := hw
  have hJX : XInv (dC, dI) kI kB kQ xa XA u t.heap := hB
  generalize u = ux at hwx hJX
  rw [ht] at hJX
  clear hk1 hz1 ht hvm
  generalize H1 = H at hJX hJM hPo hS ⊢
  refine lv_pop hx hb dL_law_968 rfl ?_
  refine lv_aload_n hx hb dL_law_969 rfl (lv_at hl 2 rfl) ?_
  refine lv_aload_n hx hb dL_law_970 rfl (lv_at hl 0 rfl) ?_
  refine lv_iload hx hb dL_law_971 (lv_at hl 4 rfl) ?_
  refine lv_iconst (v := 1) hx hb dL_law_973 (by decide) ?_
  refine lv_iadd hx hb dL_law_974 ?_
  refine lv_topi (fun y4 ey4 => ?_)
  obtain rfl : y4 = nI (7 * k + 1) := ey4.trans (nI_add (7 * k) 1)
  refine va_sld hx hb hX hbl hbA hS (vp_in_nI (n := 7 * k + 1) (by omega) (by omega)) dL_law_975 ?_
  refine lv_aload_n hx hb dL_law_976 rfl (lv_at hl 0 rfl) ?_
  refine lv_iload hx hb dL_law_977 (lv_at hl 4 rfl) ?_
  refine lv_iconst (v := 2) hx hb dL_law_979 (by decide) ?_
  refine lv_iadd hx hb dL_law_980 ?_
  refine lv_topi (fun y5 ey5 => ?_)
  obtain rfl : y5 = nI (7 * k + 2) := ey5.trans (nI_add (7 * k) 2)
  refine va_sld hx hb hX hbl hbA hS (vp_in_nI (n := 7 * k + 2) (by omega) (by omega)) dL_law_981 ?_
  obtain ⟨fsr, hPr⟩ := mi_recv hJM
  refine va_calli (va_runV (As := [.int (xs (nI (7 * k + 1)).toNatClampNeg), .int (xs (nI (7 * k + 2)).toNatClampNeg)]) (rest := []) ⟨hx, hb, hml, hown, hts⟩ (k_X9_overlap l dC dI _ kI kB kQ ma MA Sm (xs (nI (7 * k + 1)).toNatClampNeg) (xs (nI (7 * k + 2)).toNatClampNeg)) (cwV 2 hts gL_X9_overlap rfl rfl rfl (by decide +kernel) ⟨Nat.le_of_ble_eq_true rfl, Nat.le_of_ble_eq_true rfl⟩) ⟨xB_bl, va_recv hK hPr (ci := 9) (q0 := 0) rfl rfl, xB_in hJM (k3_of hK)⟩ rfl rfl hl.1 rfl (lv_room (Nat.le_of_ble_eq_true rfl)) dL_law_982 ⟨by show _ ≤ 601024; omega, by show _ ≤ 7293034; omega⟩) hS (fun q _ h => lx_A dis.2.1 hA hS q h) (lx_A dis.2.1 hA hS) (fun r6 u t H1 locs ht hvm hw hB hz1 hk1 hS => ?_)
  have hJX := xi_keep hJX (fun q h1 h2 => hk1 q h1 (lx_no (fun q h g => dis.2.2.2.1 q g h) h1 h2))
  have hPo := lx_o hPo dis.2.2.2.2.2 hk1
  have hwm : mM_overlap Sm (xs (nI (7 * k + 1)).toNatClampNeg) (xs (nI (7 * k + 2)).toNatClampNeg) r6 u := hw
  have hJM : MInv (dC, dI) kI kB ma MA u t.heap := hB
  generalize u = um at hwm hJM
  have hsr1 := sr_overlap hsr hfx hfm hwx hwm
  rw [ht] at hJM
  clear hk1 hz1 ht hvm
  generalize H1 = H at hJX hJM hPo hS ⊢
  refine lv_pop hx hb dL_law_985 rfl ?_
  refine lv_goto (tgt := 1697) hx hb dL_law_986 (by decide) ?_
  refine W.widen (k := cells + 1) (n := slots + 6) (by omega) (by omega) ?_
  exact hT _ _ _ ⟨ux, um, hsr1, hJX, hJM, fq, hPo⟩ hS (lv_sub hl [0, 1, 2, 3, 4] rfl)
set_option maxHeartbeats 4000000 in
set_option maxRecDepth 100000 in
theorem law_case_21 {p : Program} {e : Env} {s : State} {m : MethodId} {below : List Frame} {meth : Method} {c : Code} (l : Launch) (hlt : l.stackTraces = false) {b L : Nat} {xs : Nat → Int32} (C0 : lw_At p s m meth c b L xs) {A : Nat → Prop} (hA : ∀ q : Nat, s.heap.size ≤ q → A q) (hAs : ∀ q : Nat, A q → s.heap.size ≤ q) (hY : sy_E A s s.heap) {dC : Nat → ClassId} {dI : Nat → Nat → Nat} {kI kB kQ kL : ClassId} (hK : va_K (dC, dI) vwCl (k3 kI kB kQ ++ [(kL, .long)]) s) {xa ma qo : Nat} {XA MA : Nat → Prop} (dis : lw_dis XA MA qo A) (hL : L ≤ 3584) (k : Nat) (hk : 7 * k + 7 ≤ L) {H : Heap} {locs : List Loc} {ls : Array Slot} (hJ : LInv (dC, dI) kI kB kQ kL xa ma qo XA MA H) (hS : va_S A s.heap H locs) (hl : lv_has ls 7 [(0, .ref b), (1, .ref xa), (2, .ref ma), (3, .ref qo), (4, .int (nI (7 * k)))]) {cells slots : Nat} (hc : cells ≤ 600000) (hs : slots ≤ 7200000) (hT : ∀ (H : Heap) (locs : List Loc) (ls : Array Slot), LInv (dC, dI) kI kB kQ kL xa ma qo XA MA H → va_S A s.heap H locs → lv_has ls 7 [(0, .ref b), (1, .ref xa), (2, .ref ma), (3, .ref qo), (4, .int (nI (7 * k)))] → W p l e room_1 s m #[Value.ref b] below meth c H locs (cells + 1) (slots + 6) (lw_Z below #[Value.ref b] s) (F0 m 1697 ls [])) : W p l e room_1 s m #[Value.ref b] below meth c H locs cells slots (lw_Z below #[Value.ref b] s) (F0 m 989 ls []) := by
  obtain ⟨hx, hb, hr, hml, hown0, hts0, hX, hbl, hlocks, hgv⟩ := id C0
  have hown : s.vm.findClass RL = some m.cls := hown0
  have hts : ∀ w ∈ vsL, w.before #[Value.ref b] s = true := fun w h => hts0 w (vsL_in w h)
  have hbA : ¬ A b := fun h => absurd (hAs b h) (Nat.not_le.mpr hbl)
  obtain ⟨Sx, Sm, hsr, hJX, hJM, fq, hPo⟩ := hJ
  have hfx := xi_fact hJX
  have hfm := mi_fact hJM
  refine lv_aload_n hx hb dL_law_989 rfl (lv_at hl 1 rfl) ?_
  refine lv_aload_n hx hb dL_law_990 rfl (lv_at hl 0 rfl) ?_
  refine lv_iload hx hb dL_law_991 (lv_at hl 4 rfl) ?_
  refine lv_iconst (v := 1) hx hb dL_law_993 (by decide) ?_
  refine lv_iadd hx hb dL_law_994 ?_
  refine lv_topi (fun y1 ey1 => ?_)
  obtain rfl : y1 = nI (7 * k + 1) := ey1.trans (nI_add (7 * k) 1)
  refine va_sld hx hb hX hbl hbA hS (vp_in_nI (n := 7 * k + 1) (by omega) (by omega)) dL_law_995 ?_
  obtain ⟨fsr, hPr⟩ := xi_recv hJX
  refine va_calli (va_runV (As := [.int (xs (nI (7 * k + 1)).toNatClampNeg)]) (rest := []) ⟨hx, hb, hml, hown, hts⟩ (k_X8_covered l dC dI _ kI kB kQ xa XA Sx (xs (nI (7 * k + 1)).toNatClampNeg)) (cwV 1 hts gL_X8_covered rfl rfl rfl (by decide +kernel) ⟨Nat.le_of_ble_eq_true rfl, Nat.le_of_ble_eq_true rfl⟩) ⟨xB_bl, va_recv hK hPr (ci := 8) (q0 := 0) rfl rfl, xB_in hJX (k3_of hK)⟩ rfl rfl hl.1 rfl (lv_room (Nat.le_of_ble_eq_true rfl)) dL_law_996 ⟨by show _ ≤ 601024; omega, by show _ ≤ 7293034; omega⟩) hS (fun q _ h => lx_A dis.1 hA hS q h) (lx_A dis.1 hA hS) (fun r2 u t H1 locs ht hvm hw hB hz1 hk1 hS => ?_)
  have hJM := mi_keep hJM (fun q h1 h2 => hk1 q h1 (lx_no dis.2.2.2.1 h1 h2))
  have hPo := lx_o hPo dis.2.2.2.2.1 hk1
  have hwx : xM_covered Sx (xs (nI (7 * k + 1)).toNatClampNeg) r2 u := hw
  have hJX : XInv (dC, dI) kI kB kQ xa XA u t.heap := hB
  generalize u = ux at hwx hJX
  rw [ht] at hJX
  clear hk1 hz1 ht hvm
  generalize H1 = H at hJX hJM hPo hS ⊢
  refine lv_pop hx hb dL_law_999 rfl ?_
  refine lv_aload_n hx hb dL_law_1000 rfl (lv_at hl 2 rfl) ?_
  refine lv_aload_n hx hb dL_law_1001 rfl (lv_at hl 0 rfl) ?_
  refine lv_iload hx hb dL_law_1002 (lv_at hl 4 rfl) ?_
  refine lv_iconst (v := 1) hx hb dL_law_1004 (by decide) ?_
  refine lv_iadd hx hb dL_law_1005 ?_
  refine lv_topi (fun y3 ey3 => ?_)
  obtain rfl : y3 = nI (7 * k + 1) := ey3.trans (nI_add (7 * k) 1)
  refine va_sld hx hb hX hbl hbA hS (vp_in_nI (n := 7 * k + 1) (by omega) (by omega)) dL_law_1006 ?_
  obtain ⟨fsr, hPr⟩ := mi_recv hJM
  refine va_calli (va_runV (As := [.int (xs (nI (7 * k + 1)).toNatClampNeg)]) (rest := []) ⟨hx, hb, hml, hown, hts⟩ (k_X9_covered l dC dI _ kI kB kQ ma MA Sm (xs (nI (7 * k + 1)).toNatClampNeg)) (cwV 1 hts gL_X9_covered rfl rfl rfl (by decide +kernel) ⟨Nat.le_of_ble_eq_true rfl, Nat.le_of_ble_eq_true rfl⟩) ⟨xB_bl, va_recv hK hPr (ci := 9) (q0 := 0) rfl rfl, xB_in hJM (k3_of hK)⟩ rfl rfl hl.1 rfl (lv_room (Nat.le_of_ble_eq_true rfl)) dL_law_1007 ⟨by show _ ≤ 601024; omega, by show _ ≤ 7293034; omega⟩) hS (fun q _ h => lx_A dis.2.1 hA hS q h) (lx_A dis.2.1 hA hS) (fun r4 u t H1 locs ht hvm hw hB hz1 hk1 hS => ?_)
  have hJX := xi_keep hJX (fun q h1 h2 => hk1 q h1 (lx_no (fun q h g => dis.2.2.2.1 q g h) h1 h2))
  have hPo := lx_o hPo dis.2.2.2.2.2 hk1
  have hwm : mM_covered Sm (xs (nI (7 * k + 1)).toNatClampNeg) r4 u := hw
  have hJM : MInv (dC, dI) kI kB ma MA u t.heap := hB
  generalize u = um at hwm hJM
  have hsr1 := sr_covered hsr hfx hfm hwx hwm
  rw [ht] at hJM
  clear hk1 hz1 ht hvm
  generalize H1 = H at hJX hJM hPo hS ⊢
  refine lv_pop hx hb dL_law_1010 rfl ?_
  refine lv_goto (tgt := 1697) hx hb dL_law_1011 (by decide) ?_
  refine W.widen (k := cells + 1) (n := slots + 6) (by omega) (by omega) ?_
  exact hT _ _ _ ⟨ux, um, hsr1, hJX, hJM, fq, hPo⟩ hS (lv_sub hl [0, 1, 2, 3, 4] rfl)
set_option maxHeartbeats 4000000 in
set_option maxRecDepth 100000 in
theorem law_case_22 {p : Program} {e : Env} {s : State} {m : MethodId} {below : List Frame} {meth : Method} {c : Code} (l : Launch) (hlt : l.stackTraces = false) {b L : Nat} {xs : Nat → Int32} (C0 : lw_At p s m meth c b L xs) {A : Nat → Prop} (hA : ∀ q : Nat, s.heap.size ≤ q → A q) (hAs : ∀ q : Nat, A q → s.heap.size ≤ q) (hY : sy_E A s s.heap) {dC : Nat → ClassId} {dI : Nat → Nat → Nat} {kI kB kQ kL : ClassId} (hK : va_K (dC, dI) vwCl (k3 kI kB kQ ++ [(kL, .long)]) s) {xa ma qo : Nat} {XA MA : Nat → Prop} (dis : lw_dis XA MA qo A) (hL : L ≤ 3584) (k : Nat) (hk : 7 * k + 7 ≤ L) {H : Heap} {locs : List Loc} {ls : Array Slot} (hJ : LInv (dC, dI) kI kB kQ kL xa ma qo XA MA H) (hS : va_S A s.heap H locs) (hl : lv_has ls 7 [(0, .ref b), (1, .ref xa), (2, .ref ma), (3, .ref qo), (4, .int (nI (7 * k)))]) {cells slots : Nat} (hc : cells ≤ 600000) (hs : slots ≤ 7200000) (hT : ∀ (H : Heap) (locs : List Loc) (ls : Array Slot), LInv (dC, dI) kI kB kQ kL xa ma qo XA MA H → va_S A s.heap H locs → lv_has ls 7 [(0, .ref b), (1, .ref xa), (2, .ref ma), (3, .ref qo), (4, .int (nI (7 * k)))] → W p l e room_1 s m #[Value.ref b] below meth c H locs (cells + 1) (slots + 6) (lw_Z below #[Value.ref b] s) (F0 m 1697 ls [])) : W p l e room_1 s m #[Value.ref b] below meth c H locs cells slots (lw_Z below #[Value.ref b] s) (F0 m 1014 ls []) := by
  obtain ⟨hx, hb, hr, hml, hown0, hts0, hX, hbl, hlocks, hgv⟩ := id C0
  have hown : s.vm.findClass RL = some m.cls := hown0
  have hts : ∀ w ∈ vsL, w.before #[Value.ref b] s = true := fun w h => hts0 w (vsL_in w h)
  have hbA : ¬ A b := fun h => absurd (hAs b h) (Nat.not_le.mpr hbl)
  obtain ⟨Sx, Sm, hsr, hJX, hJM, fq, hPo⟩ := hJ
  have hfx := xi_fact hJX
  have hfm := mi_fact hJM
  refine lv_aload_n hx hb dL_law_1014 rfl (lv_at hl 1 rfl) ?_
  refine lv_aload_n hx hb dL_law_1015 rfl (lv_at hl 0 rfl) ?_
  refine lv_iload hx hb dL_law_1016 (lv_at hl 4 rfl) ?_
  refine lv_iconst (v := 1) hx hb dL_law_1018 (by decide) ?_
  refine lv_iadd hx hb dL_law_1019 ?_
  refine lv_topi (fun y1 ey1 => ?_)
  obtain rfl : y1 = nI (7 * k + 1) := ey1.trans (nI_add (7 * k) 1)
  refine va_sld hx hb hX hbl hbA hS (vp_in_nI (n := 7 * k + 1) (by omega) (by omega)) dL_law_1020 ?_
  obtain ⟨fsr, hPr⟩ := xi_recv hJX
  refine va_calli (va_runV (As := [.int (xs (nI (7 * k + 1)).toNatClampNeg)]) (rest := []) ⟨hx, hb, hml, hown, hts⟩ (k_X8_points l dC dI _ kI kB kQ xa XA Sx (xs (nI (7 * k + 1)).toNatClampNeg)) (cwV 1 hts gL_X8_points rfl rfl rfl (by decide +kernel) ⟨Nat.le_of_ble_eq_true rfl, Nat.le_of_ble_eq_true rfl⟩) ⟨xB_bl, va_recv hK hPr (ci := 8) (q0 := 0) rfl rfl, xB_in hJX (k3_of hK)⟩ rfl rfl hl.1 rfl (lv_room (Nat.le_of_ble_eq_true rfl)) dL_law_1021 ⟨by show _ ≤ 601024; omega, by show _ ≤ 7293034; omega⟩) hS (fun q _ h => lx_A dis.1 hA hS q h) (lx_A dis.1 hA hS) (fun r2 u t H1 locs ht hvm hw hB hz1 hk1 hS => ?_)
  have hJM := mi_keep hJM (fun q h1 h2 => hk1 q h1 (lx_no dis.2.2.2.1 h1 h2))
  have hPo := lx_o hPo dis.2.2.2.2.1 hk1
  have hwx : xM_points Sx (xs (nI (7 * k + 1)).toNatClampNeg) r2 u := hw
  have hJX : XInv (dC, dI) kI kB kQ xa XA u t.heap := hB
  generalize u = ux at hwx hJX
  rw [ht] at hJX
  clear hk1 hz1 ht hvm
  generalize H1 = H at hJX hJM hPo hS ⊢
  refine lv_pop hx hb dL_law_1024 rfl ?_
  refine lv_aload_n hx hb dL_law_1025 rfl (lv_at hl 2 rfl) ?_
  refine lv_aload_n hx hb dL_law_1026 rfl (lv_at hl 0 rfl) ?_
  refine lv_iload hx hb dL_law_1027 (lv_at hl 4 rfl) ?_
  refine lv_iconst (v := 1) hx hb dL_law_1029 (by decide) ?_
  refine lv_iadd hx hb dL_law_1030 ?_
  refine lv_topi (fun y3 ey3 => ?_)
  obtain rfl : y3 = nI (7 * k + 1) := ey3.trans (nI_add (7 * k) 1)
  refine va_sld hx hb hX hbl hbA hS (vp_in_nI (n := 7 * k + 1) (by omega) (by omega)) dL_law_1031 ?_
  obtain ⟨fsr, hPr⟩ := mi_recv hJM
  refine va_calli (va_runV (As := [.int (xs (nI (7 * k + 1)).toNatClampNeg)]) (rest := []) ⟨hx, hb, hml, hown, hts⟩ (k_X9_points l dC dI _ kI kB kQ ma MA Sm (xs (nI (7 * k + 1)).toNatClampNeg)) (cwV 1 hts gL_X9_points rfl rfl rfl (by decide +kernel) ⟨Nat.le_of_ble_eq_true rfl, Nat.le_of_ble_eq_true rfl⟩) ⟨xB_bl, va_recv hK hPr (ci := 9) (q0 := 0) rfl rfl, xB_in hJM (k3_of hK)⟩ rfl rfl hl.1 rfl (lv_room (Nat.le_of_ble_eq_true rfl)) dL_law_1032 ⟨by show _ ≤ 601024; omega, by show _ ≤ 7293034; omega⟩) hS (fun q _ h => lx_A dis.2.1 hA hS q h) (lx_A dis.2.1 hA hS) (fun r4 u t H1 locs ht hvm hw hB hz1 hk1 hS => ?_)
  have hJX := xi_keep hJX (fun q h1 h2 => hk1 q h1 (lx_no (fun q h g => dis.2.2.2.1 q g h) h1 h2))
  have hPo := lx_o hPo dis.2.2.2.2.2 hk1
  have hwm : mM_points Sm (xs (nI (7 * k + 1)).toNatClampNeg) r4 u := hw
  have hJM : MInv (dC, dI) kI kB ma MA u t.heap := hB
  generalize u = um at hwm hJM
  have hsr1 := sr_points hsr hfx hfm hwx hwm
  rw [ht] at hJM
  clear hk1 hz1 ht hvm
  generalize H1 = H at hJX hJM hPo hS ⊢
  refine lv_pop hx hb dL_law_1035 rfl ?_
  refine lv_goto (tgt := 1697) hx hb dL_law_1036 (by decide) ?_
  refine W.widen (k := cells + 1) (n := slots + 6) (by omega) (by omega) ?_
  exact hT _ _ _ ⟨ux, um, hsr1, hJX, hJM, fq, hPo⟩ hS (lv_sub hl [0, 1, 2, 3, 4] rfl)
set_option maxHeartbeats 4000000 in
set_option maxRecDepth 100000 in
theorem law_case_23 {p : Program} {e : Env} {s : State} {m : MethodId} {below : List Frame} {meth : Method} {c : Code} (l : Launch) (hlt : l.stackTraces = false) {b L : Nat} {xs : Nat → Int32} (C0 : lw_At p s m meth c b L xs) {A : Nat → Prop} (hA : ∀ q : Nat, s.heap.size ≤ q → A q) (hAs : ∀ q : Nat, A q → s.heap.size ≤ q) (hY : sy_E A s s.heap) {dC : Nat → ClassId} {dI : Nat → Nat → Nat} {kI kB kQ kL : ClassId} (hK : va_K (dC, dI) vwCl (k3 kI kB kQ ++ [(kL, .long)]) s) {xa ma qo : Nat} {XA MA : Nat → Prop} (dis : lw_dis XA MA qo A) (hL : L ≤ 3584) (k : Nat) (hk : 7 * k + 7 ≤ L) {H : Heap} {locs : List Loc} {ls : Array Slot} (hJ : LInv (dC, dI) kI kB kQ kL xa ma qo XA MA H) (hS : va_S A s.heap H locs) (hl : lv_has ls 7 [(0, .ref b), (1, .ref xa), (2, .ref ma), (3, .ref qo), (4, .int (nI (7 * k)))]) {cells slots : Nat} (hc : cells ≤ 600000) (hs : slots ≤ 7200000) (hT : ∀ (H : Heap) (locs : List Loc) (ls : Array Slot), LInv (dC, dI) kI kB kQ kL xa ma qo XA MA H → va_S A s.heap H locs → lv_has ls 7 [(0, .ref b), (1, .ref xa), (2, .ref ma), (3, .ref qo), (4, .int (nI (7 * k)))] → W p l e room_1 s m #[Value.ref b] below meth c H locs (cells + 1) (slots + 6) (lw_Z below #[Value.ref b] s) (F0 m 1697 ls [])) : W p l e room_1 s m #[Value.ref b] below meth c H locs cells slots (lw_Z below #[Value.ref b] s) (F0 m 1039 ls []) := by
  obtain ⟨hx, hb, hr, hml, hown0, hts0, hX, hbl, hlocks, hgv⟩ := id C0
  have hown : s.vm.findClass RL = some m.cls := hown0
  have hts : ∀ w ∈ vsL, w.before #[Value.ref b] s = true := fun w h => hts0 w (vsL_in w h)
  have hbA : ¬ A b := fun h => absurd (hAs b h) (Nat.not_le.mpr hbl)
  obtain ⟨Sx, Sm, hsr, hJX, hJM, fq, hPo⟩ := hJ
  have hfx := xi_fact hJX
  have hfm := mi_fact hJM
  refine lv_aload_n hx hb dL_law_1039 rfl (lv_at hl 1 rfl) ?_
  obtain ⟨fsr, hPr⟩ := xi_recv hJX
  refine va_calli (va_runV (As := []) (rest := []) ⟨hx, hb, hml, hown, hts⟩ (k_X8_rings l dC dI _ kI kB kQ xa XA Sx ) (cwV 0 hts gL_X8_rings rfl rfl rfl (by decide +kernel) ⟨Nat.le_of_ble_eq_true rfl, Nat.le_of_ble_eq_true rfl⟩) ⟨xB_bl, va_recv hK hPr (ci := 8) (q0 := 0) rfl rfl, xB_in hJX (k3_of hK)⟩ rfl rfl hl.1 rfl (lv_room (Nat.le_of_ble_eq_true rfl)) dL_law_1040 ⟨by show _ ≤ 601024; omega, by show _ ≤ 7293034; omega⟩) hS (fun q _ h => lx_A dis.1 hA hS q h) (lx_A dis.1 hA hS) (fun r1 u t H1 locs ht hvm hw hB hz1 hk1 hS => ?_)
  have hJM := mi_keep hJM (fun q h1 h2 => hk1 q h1 (lx_no dis.2.2.2.1 h1 h2))
  have hPo := lx_o hPo dis.2.2.2.2.1 hk1
  have hwx : xM_rings Sx  r1 u := hw
  have hJX : XInv (dC, dI) kI kB kQ xa XA u t.heap := hB
  generalize u = ux at hwx hJX
  rw [ht] at hJX
  clear hk1 hz1 ht hvm
  generalize H1 = H at hJX hJM hPo hS ⊢
  refine lv_pop hx hb dL_law_1043 rfl ?_
  refine lv_aload_n hx hb dL_law_1044 rfl (lv_at hl 2 rfl) ?_
  obtain ⟨fsr, hPr⟩ := mi_recv hJM
  refine va_calli (va_runV (As := []) (rest := []) ⟨hx, hb, hml, hown, hts⟩ (k_X9_rings l dC dI _ kI kB kQ ma MA Sm ) (cwV 0 hts gL_X9_rings rfl rfl rfl (by decide +kernel) ⟨Nat.le_of_ble_eq_true rfl, Nat.le_of_ble_eq_true rfl⟩) ⟨xB_bl, va_recv hK hPr (ci := 9) (q0 := 0) rfl rfl, xB_in hJM (k3_of hK)⟩ rfl rfl hl.1 rfl (lv_room (Nat.le_of_ble_eq_true rfl)) dL_law_1045 ⟨by show _ ≤ 601024; omega, by show _ ≤ 7293034; omega⟩) hS (fun q _ h => lx_A dis.2.1 hA hS q h) (lx_A dis.2.1 hA hS) (fun r2 u t H1 locs ht hvm hw hB hz1 hk1 hS => ?_)
  have hJX := xi_keep hJX (fun q h1 h2 => hk1 q h1 (lx_no (fun q h g => dis.2.2.2.1 q g h) h1 h2))
  have hPo := lx_o hPo dis.2.2.2.2.2 hk1
  have hwm : mM_rings Sm  r2 u := hw
  have hJM : MInv (dC, dI) kI kB ma MA u t.heap := hB
  generalize u = um at hwm hJM
  have hsr1 := sr_rings hsr hfx hfm hwx hwm
  rw [ht] at hJM
  clear hk1 hz1 ht hvm
  generalize H1 = H at hJX hJM hPo hS ⊢
  refine lv_pop hx hb dL_law_1048 rfl ?_
  refine lv_goto (tgt := 1697) hx hb dL_law_1049 (by decide) ?_
  refine W.widen (k := cells + 1) (n := slots + 6) (by omega) (by omega) ?_
  exact hT _ _ _ ⟨ux, um, hsr1, hJX, hJM, fq, hPo⟩ hS (lv_sub hl [0, 1, 2, 3, 4] rfl)
set_option maxHeartbeats 4000000 in
set_option maxRecDepth 100000 in
theorem law_case_24 {p : Program} {e : Env} {s : State} {m : MethodId} {below : List Frame} {meth : Method} {c : Code} (l : Launch) (hlt : l.stackTraces = false) {b L : Nat} {xs : Nat → Int32} (C0 : lw_At p s m meth c b L xs) {A : Nat → Prop} (hA : ∀ q : Nat, s.heap.size ≤ q → A q) (hAs : ∀ q : Nat, A q → s.heap.size ≤ q) (hY : sy_E A s s.heap) {dC : Nat → ClassId} {dI : Nat → Nat → Nat} {kI kB kQ kL : ClassId} (hK : va_K (dC, dI) vwCl (k3 kI kB kQ ++ [(kL, .long)]) s) {xa ma qo : Nat} {XA MA : Nat → Prop} (dis : lw_dis XA MA qo A) (hL : L ≤ 3584) (k : Nat) (hk : 7 * k + 7 ≤ L) {H : Heap} {locs : List Loc} {ls : Array Slot} (hJ : LInv (dC, dI) kI kB kQ kL xa ma qo XA MA H) (hS : va_S A s.heap H locs) (hl : lv_has ls 7 [(0, .ref b), (1, .ref xa), (2, .ref ma), (3, .ref qo), (4, .int (nI (7 * k)))]) {cells slots : Nat} (hc : cells ≤ 600000) (hs : slots ≤ 7200000) (hT : ∀ (H : Heap) (locs : List Loc) (ls : Array Slot), LInv (dC, dI) kI kB kQ kL xa ma qo XA MA H → va_S A s.heap H locs → lv_has ls 7 [(0, .ref b), (1, .ref xa), (2, .ref ma), (3, .ref qo), (4, .int (nI (7 * k)))] → W p l e room_1 s m #[Value.ref b] below meth c H locs (cells + 1) (slots + 6) (lw_Z below #[Value.ref b] s) (F0 m 1697 ls [])) : W p l e room_1 s m #[Value.ref b] below meth c H locs cells slots (lw_Z below #[Value.ref b] s) (F0 m 1052 ls []) := by
  obtain ⟨hx, hb, hr, hml, hown0, hts0, hX, hbl, hlocks, hgv⟩ := id C0
  have hown : s.vm.findClass RL = some m.cls := hown0
  have hts : ∀ w ∈ vsL, w.before #[Value.ref b] s = true := fun w h => hts0 w (vsL_in w h)
  have hbA : ¬ A b := fun h => absurd (hAs b h) (Nat.not_le.mpr hbl)
  obtain ⟨Sx, Sm, hsr, hJX, hJM, fq, hPo⟩ := hJ
  have hfx := xi_fact hJX
  have hfm := mi_fact hJM
  refine lv_aload_n hx hb dL_law_1052 rfl (lv_at hl 1 rfl) ?_
  refine lv_aload_n hx hb dL_law_1053 rfl (lv_at hl 0 rfl) ?_
  refine lv_iload hx hb dL_law_1054 (lv_at hl 4 rfl) ?_
  refine lv_iconst (v := 1) hx hb dL_law_1056 (by decide) ?_
  refine lv_iadd hx hb dL_law_1057 ?_
  refine lv_topi (fun y1 ey1 => ?_)
  obtain rfl : y1 = nI (7 * k + 1) := ey1.trans (nI_add (7 * k) 1)
  refine va_sld hx hb hX hbl hbA hS (vp_in_nI (n := 7 * k + 1) (by omega) (by omega)) dL_law_1058 ?_
  refine lv_aload_n hx hb dL_law_1059 rfl (lv_at hl 0 rfl) ?_
  refine lv_iload hx hb dL_law_1060 (lv_at hl 4 rfl) ?_
  refine lv_iconst (v := 2) hx hb dL_law_1062 (by decide) ?_
  refine lv_iadd hx hb dL_law_1063 ?_
  refine lv_topi (fun y2 ey2 => ?_)
  obtain rfl : y2 = nI (7 * k + 2) := ey2.trans (nI_add (7 * k) 2)
  refine va_sld hx hb hX hbl hbA hS (vp_in_nI (n := 7 * k + 2) (by omega) (by omega)) dL_law_1064 ?_
  refine lv_aload_n hx hb dL_law_1065 rfl (lv_at hl 0 rfl) ?_
  refine lv_iload hx hb dL_law_1066 (lv_at hl 4 rfl) ?_
  refine lv_iconst (v := 3) hx hb dL_law_1068 (by decide) ?_
  refine lv_iadd hx hb dL_law_1069 ?_
  refine lv_topi (fun y3 ey3 => ?_)
  obtain rfl : y3 = nI (7 * k + 3) := ey3.trans (nI_add (7 * k) 3)
  refine va_sld hx hb hX hbl hbA hS (vp_in_nI (n := 7 * k + 3) (by omega) (by omega)) dL_law_1070 ?_
  refine lv_aload_n hx hb dL_law_1071 rfl (lv_at hl 0 rfl) ?_
  refine lv_iload hx hb dL_law_1072 (lv_at hl 4 rfl) ?_
  refine lv_iconst (v := 4) hx hb dL_law_1074 (by decide) ?_
  refine lv_iadd hx hb dL_law_1075 ?_
  refine lv_topi (fun y4 ey4 => ?_)
  obtain rfl : y4 = nI (7 * k + 4) := ey4.trans (nI_add (7 * k) 4)
  refine va_sld hx hb hX hbl hbA hS (vp_in_nI (n := 7 * k + 4) (by omega) (by omega)) dL_law_1076 ?_
  refine lv_aload_n hx hb dL_law_1077 rfl (lv_at hl 0 rfl) ?_
  refine lv_iload hx hb dL_law_1078 (lv_at hl 4 rfl) ?_
  refine lv_iconst (v := 5) hx hb dL_law_1080 (by decide) ?_
  refine lv_iadd hx hb dL_law_1081 ?_
  refine lv_topi (fun y5 ey5 => ?_)
  obtain rfl : y5 = nI (7 * k + 5) := ey5.trans (nI_add (7 * k) 5)
  refine va_sld hx hb hX hbl hbA hS (vp_in_nI (n := 7 * k + 5) (by omega) (by omega)) dL_law_1082 ?_
  obtain ⟨fsr, hPr⟩ := xi_recv hJX
  refine va_calli (va_runV (As := [.int (xs (nI (7 * k + 1)).toNatClampNeg), .int (xs (nI (7 * k + 2)).toNatClampNeg), .int (xs (nI (7 * k + 3)).toNatClampNeg), .int (xs (nI (7 * k + 4)).toNatClampNeg), .int (xs (nI (7 * k + 5)).toNatClampNeg)]) (rest := []) ⟨hx, hb, hml, hown, hts⟩ (k_X8_from l dC dI _ kI kB kQ xa XA Sx (xs (nI (7 * k + 1)).toNatClampNeg) (xs (nI (7 * k + 2)).toNatClampNeg) (xs (nI (7 * k + 3)).toNatClampNeg) (xs (nI (7 * k + 4)).toNatClampNeg) (xs (nI (7 * k + 5)).toNatClampNeg)) (cwV 5 hts gL_X8_from rfl rfl rfl (by decide +kernel) ⟨Nat.le_of_ble_eq_true rfl, Nat.le_of_ble_eq_true rfl⟩) ⟨xB_bl, va_recv hK hPr (ci := 8) (q0 := 0) rfl rfl, xB_in hJX (k3_of hK)⟩ rfl rfl hl.1 rfl (lv_room (Nat.le_of_ble_eq_true rfl)) dL_law_1083 ⟨by show _ ≤ 601024; omega, by show _ ≤ 7293034; omega⟩) hS (fun q _ h => lx_A dis.1 hA hS q h) (lx_A dis.1 hA hS) (fun r6 u t H1 locs ht hvm hw hB hz1 hk1 hS => ?_)
  have hJM := mi_keep hJM (fun q h1 h2 => hk1 q h1 (lx_no dis.2.2.2.1 h1 h2))
  have hPo := lx_o hPo dis.2.2.2.2.1 hk1
  have hwx : xM_from Sx (xs (nI (7 * k + 1)).toNatClampNeg) (xs (nI (7 * k + 2)).toNatClampNeg) (xs (nI (7 * k + 3)).toNatClampNeg) (xs (nI (7 * k + 4)).toNatClampNeg) (xs (nI (7 * k + 5)).toNatClampNeg) r6 u := hw
  have hJX : XInv (dC, dI) kI kB kQ xa XA u t.heap := hB
  generalize u = ux at hwx hJX
  rw [ht] at hJX
  clear hk1 hz1 ht hvm
  generalize H1 = H at hJX hJM hPo hS ⊢
  refine lv_pop hx hb dL_law_1086 rfl ?_
  refine lv_aload_n hx hb dL_law_1087 rfl (lv_at hl 2 rfl) ?_
  refine lv_aload_n hx hb dL_law_1088 rfl (lv_at hl 0 rfl) ?_
  refine lv_iload hx hb dL_law_1089 (lv_at hl 4 rfl) ?_
  refine lv_iconst (v := 1) hx hb dL_law_1091 (by decide) ?_
  refine lv_iadd hx hb dL_law_1092 ?_
  refine lv_topi (fun y7 ey7 => ?_)
  obtain rfl : y7 = nI (7 * k + 1) := ey7.trans (nI_add (7 * k) 1)
  refine va_sld hx hb hX hbl hbA hS (vp_in_nI (n := 7 * k + 1) (by omega) (by omega)) dL_law_1093 ?_
  refine lv_aload_n hx hb dL_law_1094 rfl (lv_at hl 0 rfl) ?_
  refine lv_iload hx hb dL_law_1095 (lv_at hl 4 rfl) ?_
  refine lv_iconst (v := 2) hx hb dL_law_1097 (by decide) ?_
  refine lv_iadd hx hb dL_law_1098 ?_
  refine lv_topi (fun y8 ey8 => ?_)
  obtain rfl : y8 = nI (7 * k + 2) := ey8.trans (nI_add (7 * k) 2)
  refine va_sld hx hb hX hbl hbA hS (vp_in_nI (n := 7 * k + 2) (by omega) (by omega)) dL_law_1099 ?_
  refine lv_aload_n hx hb dL_law_1100 rfl (lv_at hl 0 rfl) ?_
  refine lv_iload hx hb dL_law_1101 (lv_at hl 4 rfl) ?_
  refine lv_iconst (v := 3) hx hb dL_law_1103 (by decide) ?_
  refine lv_iadd hx hb dL_law_1104 ?_
  refine lv_topi (fun y9 ey9 => ?_)
  obtain rfl : y9 = nI (7 * k + 3) := ey9.trans (nI_add (7 * k) 3)
  refine va_sld hx hb hX hbl hbA hS (vp_in_nI (n := 7 * k + 3) (by omega) (by omega)) dL_law_1105 ?_
  refine lv_aload_n hx hb dL_law_1106 rfl (lv_at hl 0 rfl) ?_
  refine lv_iload hx hb dL_law_1107 (lv_at hl 4 rfl) ?_
  refine lv_iconst (v := 4) hx hb dL_law_1109 (by decide) ?_
  refine lv_iadd hx hb dL_law_1110 ?_
  refine lv_topi (fun y10 ey10 => ?_)
  obtain rfl : y10 = nI (7 * k + 4) := ey10.trans (nI_add (7 * k) 4)
  refine va_sld hx hb hX hbl hbA hS (vp_in_nI (n := 7 * k + 4) (by omega) (by omega)) dL_law_1111 ?_
  refine lv_aload_n hx hb dL_law_1112 rfl (lv_at hl 0 rfl) ?_
  refine lv_iload hx hb dL_law_1113 (lv_at hl 4 rfl) ?_
  refine lv_iconst (v := 5) hx hb dL_law_1115 (by decide) ?_
  refine lv_iadd hx hb dL_law_1116 ?_
  refine lv_topi (fun y11 ey11 => ?_)
  obtain rfl : y11 = nI (7 * k + 5) := ey11.trans (nI_add (7 * k) 5)
  refine va_sld hx hb hX hbl hbA hS (vp_in_nI (n := 7 * k + 5) (by omega) (by omega)) dL_law_1117 ?_
  obtain ⟨fsr, hPr⟩ := mi_recv hJM
  refine va_calli (va_runV (As := [.int (xs (nI (7 * k + 1)).toNatClampNeg), .int (xs (nI (7 * k + 2)).toNatClampNeg), .int (xs (nI (7 * k + 3)).toNatClampNeg), .int (xs (nI (7 * k + 4)).toNatClampNeg), .int (xs (nI (7 * k + 5)).toNatClampNeg)]) (rest := []) ⟨hx, hb, hml, hown, hts⟩ (k_X9_from l dC dI _ kI kB kQ ma MA Sm (xs (nI (7 * k + 1)).toNatClampNeg) (xs (nI (7 * k + 2)).toNatClampNeg) (xs (nI (7 * k + 3)).toNatClampNeg) (xs (nI (7 * k + 4)).toNatClampNeg) (xs (nI (7 * k + 5)).toNatClampNeg)) (cwV 5 hts gL_X9_from rfl rfl rfl (by decide +kernel) ⟨Nat.le_of_ble_eq_true rfl, Nat.le_of_ble_eq_true rfl⟩) ⟨xB_bl, va_recv hK hPr (ci := 9) (q0 := 0) rfl rfl, xB_in hJM (k3_of hK)⟩ rfl rfl hl.1 rfl (lv_room (Nat.le_of_ble_eq_true rfl)) dL_law_1118 ⟨by show _ ≤ 601024; omega, by show _ ≤ 7293034; omega⟩) hS (fun q _ h => lx_A dis.2.1 hA hS q h) (lx_A dis.2.1 hA hS) (fun r12 u t H1 locs ht hvm hw hB hz1 hk1 hS => ?_)
  have hJX := xi_keep hJX (fun q h1 h2 => hk1 q h1 (lx_no (fun q h g => dis.2.2.2.1 q g h) h1 h2))
  have hPo := lx_o hPo dis.2.2.2.2.2 hk1
  have hwm : mM_from Sm (xs (nI (7 * k + 1)).toNatClampNeg) (xs (nI (7 * k + 2)).toNatClampNeg) (xs (nI (7 * k + 3)).toNatClampNeg) (xs (nI (7 * k + 4)).toNatClampNeg) (xs (nI (7 * k + 5)).toNatClampNeg) r12 u := hw
  have hJM : MInv (dC, dI) kI kB ma MA u t.heap := hB
  generalize u = um at hwm hJM
  have hsr1 := sr_from hsr hfx hfm hwx hwm
  rw [ht] at hJM
  clear hk1 hz1 ht hvm
  generalize H1 = H at hJX hJM hPo hS ⊢
  refine lv_pop hx hb dL_law_1121 rfl ?_
  refine lv_goto (tgt := 1697) hx hb dL_law_1122 (by decide) ?_
  refine W.widen (k := cells + 1) (n := slots + 6) (by omega) (by omega) ?_
  exact hT _ _ _ ⟨ux, um, hsr1, hJX, hJM, fq, hPo⟩ hS (lv_sub hl [0, 1, 2, 3, 4] rfl)
set_option maxHeartbeats 4000000 in
set_option maxRecDepth 100000 in
theorem law_case_25 {p : Program} {e : Env} {s : State} {m : MethodId} {below : List Frame} {meth : Method} {c : Code} (l : Launch) (hlt : l.stackTraces = false) {b L : Nat} {xs : Nat → Int32} (C0 : lw_At p s m meth c b L xs) {A : Nat → Prop} (hA : ∀ q : Nat, s.heap.size ≤ q → A q) (hAs : ∀ q : Nat, A q → s.heap.size ≤ q) (hY : sy_E A s s.heap) {dC : Nat → ClassId} {dI : Nat → Nat → Nat} {kI kB kQ kL : ClassId} (hK : va_K (dC, dI) vwCl (k3 kI kB kQ ++ [(kL, .long)]) s) {xa ma qo : Nat} {XA MA : Nat → Prop} (dis : lw_dis XA MA qo A) (hL : L ≤ 3584) (k : Nat) (hk : 7 * k + 7 ≤ L) {H : Heap} {locs : List Loc} {ls : Array Slot} (hJ : LInv (dC, dI) kI kB kQ kL xa ma qo XA MA H) (hS : va_S A s.heap H locs) (hl : lv_has ls 7 [(0, .ref b), (1, .ref xa), (2, .ref ma), (3, .ref qo), (4, .int (nI (7 * k)))]) {cells slots : Nat} (hc : cells ≤ 600000) (hs : slots ≤ 7200000) (hT : ∀ (H : Heap) (locs : List Loc) (ls : Array Slot), LInv (dC, dI) kI kB kQ kL xa ma qo XA MA H → va_S A s.heap H locs → lv_has ls 7 [(0, .ref b), (1, .ref xa), (2, .ref ma), (3, .ref qo), (4, .int (nI (7 * k)))] → W p l e room_1 s m #[Value.ref b] below meth c H locs (cells + 1) (slots + 6) (lw_Z below #[Value.ref b] s) (F0 m 1697 ls [])) : W p l e room_1 s m #[Value.ref b] below meth c H locs cells slots (lw_Z below #[Value.ref b] s) (F0 m 1125 ls []) := by
  obtain ⟨hx, hb, hr, hml, hown0, hts0, hX, hbl, hlocks, hgv⟩ := id C0
  have hown : s.vm.findClass RL = some m.cls := hown0
  have hts : ∀ w ∈ vsL, w.before #[Value.ref b] s = true := fun w h => hts0 w (vsL_in w h)
  have hbA : ¬ A b := fun h => absurd (hAs b h) (Nat.not_le.mpr hbl)
  obtain ⟨Sx, Sm, hsr, hJX, hJM, fq, hPo⟩ := hJ
  have hfx := xi_fact hJX
  have hfm := mi_fact hJM
  refine lv_aload_n hx hb dL_law_1125 rfl (lv_at hl 1 rfl) ?_
  refine lv_aload_n hx hb dL_law_1126 rfl (lv_at hl 0 rfl) ?_
  refine lv_iload hx hb dL_law_1127 (lv_at hl 4 rfl) ?_
  refine lv_iconst (v := 1) hx hb dL_law_1129 (by decide) ?_
  refine lv_iadd hx hb dL_law_1130 ?_
  refine lv_topi (fun y1 ey1 => ?_)
  obtain rfl : y1 = nI (7 * k + 1) := ey1.trans (nI_add (7 * k) 1)
  refine va_sld hx hb hX hbl hbA hS (vp_in_nI (n := 7 * k + 1) (by omega) (by omega)) dL_law_1131 ?_
  refine lv_aload_n hx hb dL_law_1132 rfl (lv_at hl 0 rfl) ?_
  refine lv_iload hx hb dL_law_1133 (lv_at hl 4 rfl) ?_
  refine lv_iconst (v := 2) hx hb dL_law_1135 (by decide) ?_
  refine lv_iadd hx hb dL_law_1136 ?_
  refine lv_topi (fun y2 ey2 => ?_)
  obtain rfl : y2 = nI (7 * k + 2) := ey2.trans (nI_add (7 * k) 2)
  refine va_sld hx hb hX hbl hbA hS (vp_in_nI (n := 7 * k + 2) (by omega) (by omega)) dL_law_1137 ?_
  obtain ⟨fsr, hPr⟩ := xi_recv hJX
  refine va_calli (va_runV (As := [.int (xs (nI (7 * k + 1)).toNatClampNeg), .int (xs (nI (7 * k + 2)).toNatClampNeg)]) (rest := []) ⟨hx, hb, hml, hown, hts⟩ (k_X8_avoids l dC dI _ kI kB kQ xa XA Sx (xs (nI (7 * k + 1)).toNatClampNeg) (xs (nI (7 * k + 2)).toNatClampNeg)) (cwV 2 hts gL_X8_avoids rfl rfl rfl (by decide +kernel) ⟨Nat.le_of_ble_eq_true rfl, Nat.le_of_ble_eq_true rfl⟩) ⟨xB_bl, va_recv hK hPr (ci := 8) (q0 := 0) rfl rfl, xB_in hJX (k3_of hK)⟩ rfl rfl hl.1 rfl (lv_room (Nat.le_of_ble_eq_true rfl)) dL_law_1138 ⟨by show _ ≤ 601024; omega, by show _ ≤ 7293034; omega⟩) hS (fun q _ h => lx_A dis.1 hA hS q h) (lx_A dis.1 hA hS) (fun r3 u t H1 locs ht hvm hw hB hz1 hk1 hS => ?_)
  have hJM := mi_keep hJM (fun q h1 h2 => hk1 q h1 (lx_no dis.2.2.2.1 h1 h2))
  have hPo := lx_o hPo dis.2.2.2.2.1 hk1
  have hwx : xM_avoids Sx (xs (nI (7 * k + 1)).toNatClampNeg) (xs (nI (7 * k + 2)).toNatClampNeg) r3 u := hw
  have hJX : XInv (dC, dI) kI kB kQ xa XA u t.heap := hB
  generalize u = ux at hwx hJX
  rw [ht] at hJX
  clear hk1 hz1 ht hvm
  generalize H1 = H at hJX hJM hPo hS ⊢
  refine lv_pop hx hb dL_law_1141 rfl ?_
  refine lv_aload_n hx hb dL_law_1142 rfl (lv_at hl 2 rfl) ?_
  refine lv_aload_n hx hb dL_law_1143 rfl (lv_at hl 0 rfl) ?_
  refine lv_iload hx hb dL_law_1144 (lv_at hl 4 rfl) ?_
  refine lv_iconst (v := 1) hx hb dL_law_1146 (by decide) ?_
  refine lv_iadd hx hb dL_law_1147 ?_
  refine lv_topi (fun y4 ey4 => ?_)
  obtain rfl : y4 = nI (7 * k + 1) := ey4.trans (nI_add (7 * k) 1)
  refine va_sld hx hb hX hbl hbA hS (vp_in_nI (n := 7 * k + 1) (by omega) (by omega)) dL_law_1148 ?_
  refine lv_aload_n hx hb dL_law_1149 rfl (lv_at hl 0 rfl) ?_
  refine lv_iload hx hb dL_law_1150 (lv_at hl 4 rfl) ?_
  refine lv_iconst (v := 2) hx hb dL_law_1152 (by decide) ?_
  refine lv_iadd hx hb dL_law_1153 ?_
  refine lv_topi (fun y5 ey5 => ?_)
  obtain rfl : y5 = nI (7 * k + 2) := ey5.trans (nI_add (7 * k) 2)
  refine va_sld hx hb hX hbl hbA hS (vp_in_nI (n := 7 * k + 2) (by omega) (by omega)) dL_law_1154 ?_
  obtain ⟨fsr, hPr⟩ := mi_recv hJM
  refine va_calli (va_runV (As := [.int (xs (nI (7 * k + 1)).toNatClampNeg), .int (xs (nI (7 * k + 2)).toNatClampNeg)]) (rest := []) ⟨hx, hb, hml, hown, hts⟩ (k_X9_avoids l dC dI _ kI kB kQ ma MA Sm (xs (nI (7 * k + 1)).toNatClampNeg) (xs (nI (7 * k + 2)).toNatClampNeg)) (cwV 2 hts gL_X9_avoids rfl rfl rfl (by decide +kernel) ⟨Nat.le_of_ble_eq_true rfl, Nat.le_of_ble_eq_true rfl⟩) ⟨xB_bl, va_recv hK hPr (ci := 9) (q0 := 0) rfl rfl, xB_in hJM (k3_of hK)⟩ rfl rfl hl.1 rfl (lv_room (Nat.le_of_ble_eq_true rfl)) dL_law_1155 ⟨by show _ ≤ 601024; omega, by show _ ≤ 7293034; omega⟩) hS (fun q _ h => lx_A dis.2.1 hA hS q h) (lx_A dis.2.1 hA hS) (fun r6 u t H1 locs ht hvm hw hB hz1 hk1 hS => ?_)
  have hJX := xi_keep hJX (fun q h1 h2 => hk1 q h1 (lx_no (fun q h g => dis.2.2.2.1 q g h) h1 h2))
  have hPo := lx_o hPo dis.2.2.2.2.2 hk1
  have hwm : mM_avoids Sm (xs (nI (7 * k + 1)).toNatClampNeg) (xs (nI (7 * k + 2)).toNatClampNeg) r6 u := hw
  have hJM : MInv (dC, dI) kI kB ma MA u t.heap := hB
  generalize u = um at hwm hJM
  have hsr1 := sr_avoids hsr hfx hfm hwx hwm
  rw [ht] at hJM
  clear hk1 hz1 ht hvm
  generalize H1 = H at hJX hJM hPo hS ⊢
  refine lv_pop hx hb dL_law_1158 rfl ?_
  refine lv_goto (tgt := 1697) hx hb dL_law_1159 (by decide) ?_
  refine W.widen (k := cells + 1) (n := slots + 6) (by omega) (by omega) ?_
  exact hT _ _ _ ⟨ux, um, hsr1, hJX, hJM, fq, hPo⟩ hS (lv_sub hl [0, 1, 2, 3, 4] rfl)
set_option maxHeartbeats 4000000 in
set_option maxRecDepth 100000 in
theorem law_case_26 {p : Program} {e : Env} {s : State} {m : MethodId} {below : List Frame} {meth : Method} {c : Code} (l : Launch) (hlt : l.stackTraces = false) {b L : Nat} {xs : Nat → Int32} (C0 : lw_At p s m meth c b L xs) {A : Nat → Prop} (hA : ∀ q : Nat, s.heap.size ≤ q → A q) (hAs : ∀ q : Nat, A q → s.heap.size ≤ q) (hY : sy_E A s s.heap) {dC : Nat → ClassId} {dI : Nat → Nat → Nat} {kI kB kQ kL : ClassId} (hK : va_K (dC, dI) vwCl (k3 kI kB kQ ++ [(kL, .long)]) s) {xa ma qo : Nat} {XA MA : Nat → Prop} (dis : lw_dis XA MA qo A) (hL : L ≤ 3584) (k : Nat) (hk : 7 * k + 7 ≤ L) {H : Heap} {locs : List Loc} {ls : Array Slot} (hJ : LInv (dC, dI) kI kB kQ kL xa ma qo XA MA H) (hS : va_S A s.heap H locs) (hl : lv_has ls 7 [(0, .ref b), (1, .ref xa), (2, .ref ma), (3, .ref qo), (4, .int (nI (7 * k)))]) {cells slots : Nat} (hc : cells ≤ 600000) (hs : slots ≤ 7200000) (hT : ∀ (H : Heap) (locs : List Loc) (ls : Array Slot), LInv (dC, dI) kI kB kQ kL xa ma qo XA MA H → va_S A s.heap H locs → lv_has ls 7 [(0, .ref b), (1, .ref xa), (2, .ref ma), (3, .ref qo), (4, .int (nI (7 * k)))] → W p l e room_1 s m #[Value.ref b] below meth c H locs (cells + 1) (slots + 6) (lw_Z below #[Value.ref b] s) (F0 m 1697 ls [])) : W p l e room_1 s m #[Value.ref b] below meth c H locs cells slots (lw_Z below #[Value.ref b] s) (F0 m 1162 ls []) := by
  obtain ⟨hx, hb, hr, hml, hown0, hts0, hX, hbl, hlocks, hgv⟩ := id C0
  have hown : s.vm.findClass RL = some m.cls := hown0
  have hts : ∀ w ∈ vsL, w.before #[Value.ref b] s = true := fun w h => hts0 w (vsL_in w h)
  have hbA : ¬ A b := fun h => absurd (hAs b h) (Nat.not_le.mpr hbl)
  obtain ⟨Sx, Sm, hsr, hJX, hJM, fq, hPo⟩ := hJ
  have hfx := xi_fact hJX
  have hfm := mi_fact hJM
  refine lv_aload_n hx hb dL_law_1162 rfl (lv_at hl 1 rfl) ?_
  refine lv_aload_n hx hb dL_law_1163 rfl (lv_at hl 0 rfl) ?_
  refine lv_iload hx hb dL_law_1164 (lv_at hl 4 rfl) ?_
  refine lv_iconst (v := 1) hx hb dL_law_1166 (by decide) ?_
  refine lv_iadd hx hb dL_law_1167 ?_
  refine lv_topi (fun y1 ey1 => ?_)
  obtain rfl : y1 = nI (7 * k + 1) := ey1.trans (nI_add (7 * k) 1)
  refine va_sld hx hb hX hbl hbA hS (vp_in_nI (n := 7 * k + 1) (by omega) (by omega)) dL_law_1168 ?_
  refine lv_aload_n hx hb dL_law_1169 rfl (lv_at hl 0 rfl) ?_
  refine lv_iload hx hb dL_law_1170 (lv_at hl 4 rfl) ?_
  refine lv_iconst (v := 2) hx hb dL_law_1172 (by decide) ?_
  refine lv_iadd hx hb dL_law_1173 ?_
  refine lv_topi (fun y2 ey2 => ?_)
  obtain rfl : y2 = nI (7 * k + 2) := ey2.trans (nI_add (7 * k) 2)
  refine va_sld hx hb hX hbl hbA hS (vp_in_nI (n := 7 * k + 2) (by omega) (by omega)) dL_law_1174 ?_
  obtain ⟨fsr, hPr⟩ := xi_recv hJX
  refine va_calli (va_runV (As := [.int (xs (nI (7 * k + 1)).toNatClampNeg), .int (xs (nI (7 * k + 2)).toNatClampNeg)]) (rest := []) ⟨hx, hb, hml, hown, hts⟩ (k_X8_run l dC dI _ kI kB kQ xa XA Sx (xs (nI (7 * k + 1)).toNatClampNeg) (xs (nI (7 * k + 2)).toNatClampNeg)) (cwV 2 hts gL_X8_run rfl rfl rfl (by decide +kernel) ⟨Nat.le_of_ble_eq_true rfl, Nat.le_of_ble_eq_true rfl⟩) ⟨xB_bl, va_recv hK hPr (ci := 8) (q0 := 0) rfl rfl, xB_in hJX (k3_of hK)⟩ rfl rfl hl.1 rfl (lv_room (Nat.le_of_ble_eq_true rfl)) dL_law_1175 ⟨by show _ ≤ 601024; omega, by show _ ≤ 7293034; omega⟩) hS (fun q _ h => lx_A dis.1 hA hS q h) (lx_A dis.1 hA hS) (fun r3 u t H1 locs ht hvm hw hB hz1 hk1 hS => ?_)
  have hJM := mi_keep hJM (fun q h1 h2 => hk1 q h1 (lx_no dis.2.2.2.1 h1 h2))
  have hPo := lx_o hPo dis.2.2.2.2.1 hk1
  have hwx : xM_run Sx (xs (nI (7 * k + 1)).toNatClampNeg) (xs (nI (7 * k + 2)).toNatClampNeg) r3 u := hw
  have hJX : XInv (dC, dI) kI kB kQ xa XA u t.heap := hB
  generalize u = ux at hwx hJX
  rw [ht] at hJX
  clear hk1 hz1 ht hvm
  generalize H1 = H at hJX hJM hPo hS ⊢
  refine lv_pop hx hb dL_law_1178 rfl ?_
  refine lv_aload_n hx hb dL_law_1179 rfl (lv_at hl 2 rfl) ?_
  refine lv_aload_n hx hb dL_law_1180 rfl (lv_at hl 0 rfl) ?_
  refine lv_iload hx hb dL_law_1181 (lv_at hl 4 rfl) ?_
  refine lv_iconst (v := 1) hx hb dL_law_1183 (by decide) ?_
  refine lv_iadd hx hb dL_law_1184 ?_
  refine lv_topi (fun y4 ey4 => ?_)
  obtain rfl : y4 = nI (7 * k + 1) := ey4.trans (nI_add (7 * k) 1)
  refine va_sld hx hb hX hbl hbA hS (vp_in_nI (n := 7 * k + 1) (by omega) (by omega)) dL_law_1185 ?_
  refine lv_aload_n hx hb dL_law_1186 rfl (lv_at hl 0 rfl) ?_
  refine lv_iload hx hb dL_law_1187 (lv_at hl 4 rfl) ?_
  refine lv_iconst (v := 2) hx hb dL_law_1189 (by decide) ?_
  refine lv_iadd hx hb dL_law_1190 ?_
  refine lv_topi (fun y5 ey5 => ?_)
  obtain rfl : y5 = nI (7 * k + 2) := ey5.trans (nI_add (7 * k) 2)
  refine va_sld hx hb hX hbl hbA hS (vp_in_nI (n := 7 * k + 2) (by omega) (by omega)) dL_law_1191 ?_
  obtain ⟨fsr, hPr⟩ := mi_recv hJM
  refine va_calli (va_runV (As := [.int (xs (nI (7 * k + 1)).toNatClampNeg), .int (xs (nI (7 * k + 2)).toNatClampNeg)]) (rest := []) ⟨hx, hb, hml, hown, hts⟩ (k_X9_run l dC dI _ kI kB kQ ma MA Sm (xs (nI (7 * k + 1)).toNatClampNeg) (xs (nI (7 * k + 2)).toNatClampNeg)) (cwV 2 hts gL_X9_run rfl rfl rfl (by decide +kernel) ⟨Nat.le_of_ble_eq_true rfl, Nat.le_of_ble_eq_true rfl⟩) ⟨xB_bl, va_recv hK hPr (ci := 9) (q0 := 0) rfl rfl, xB_in hJM (k3_of hK)⟩ rfl rfl hl.1 rfl (lv_room (Nat.le_of_ble_eq_true rfl)) dL_law_1192 ⟨by show _ ≤ 601024; omega, by show _ ≤ 7293034; omega⟩) hS (fun q _ h => lx_A dis.2.1 hA hS q h) (lx_A dis.2.1 hA hS) (fun r6 u t H1 locs ht hvm hw hB hz1 hk1 hS => ?_)
  have hJX := xi_keep hJX (fun q h1 h2 => hk1 q h1 (lx_no (fun q h g => dis.2.2.2.1 q g h) h1 h2))
  have hPo := lx_o hPo dis.2.2.2.2.2 hk1
  have hwm : mM_run Sm (xs (nI (7 * k + 1)).toNatClampNeg) (xs (nI (7 * k + 2)).toNatClampNeg) r6 u := hw
  have hJM : MInv (dC, dI) kI kB ma MA u t.heap := hB
  generalize u = um at hwm hJM
  have hsr1 := sr_run hsr hfx hfm hwx hwm
  rw [ht] at hJM
  clear hk1 hz1 ht hvm
  generalize H1 = H at hJX hJM hPo hS ⊢
  refine lv_pop hx hb dL_law_1195 rfl ?_
  refine lv_goto (tgt := 1697) hx hb dL_law_1196 (by decide) ?_
  refine W.widen (k := cells + 1) (n := slots + 6) (by omega) (by omega) ?_
  exact hT _ _ _ ⟨ux, um, hsr1, hJX, hJM, fq, hPo⟩ hS (lv_sub hl [0, 1, 2, 3, 4] rfl)
set_option maxHeartbeats 4000000 in
set_option maxRecDepth 100000 in
theorem law_case_27 {p : Program} {e : Env} {s : State} {m : MethodId} {below : List Frame} {meth : Method} {c : Code} (l : Launch) (hlt : l.stackTraces = false) {b L : Nat} {xs : Nat → Int32} (C0 : lw_At p s m meth c b L xs) {A : Nat → Prop} (hA : ∀ q : Nat, s.heap.size ≤ q → A q) (hAs : ∀ q : Nat, A q → s.heap.size ≤ q) (hY : sy_E A s s.heap) {dC : Nat → ClassId} {dI : Nat → Nat → Nat} {kI kB kQ kL : ClassId} (hK : va_K (dC, dI) vwCl (k3 kI kB kQ ++ [(kL, .long)]) s) {xa ma qo : Nat} {XA MA : Nat → Prop} (dis : lw_dis XA MA qo A) (hL : L ≤ 3584) (k : Nat) (hk : 7 * k + 7 ≤ L) {H : Heap} {locs : List Loc} {ls : Array Slot} (hJ : LInv (dC, dI) kI kB kQ kL xa ma qo XA MA H) (hS : va_S A s.heap H locs) (hl : lv_has ls 7 [(0, .ref b), (1, .ref xa), (2, .ref ma), (3, .ref qo), (4, .int (nI (7 * k)))]) {cells slots : Nat} (hc : cells ≤ 600000) (hs : slots ≤ 7200000) (hT : ∀ (H : Heap) (locs : List Loc) (ls : Array Slot), LInv (dC, dI) kI kB kQ kL xa ma qo XA MA H → va_S A s.heap H locs → lv_has ls 7 [(0, .ref b), (1, .ref xa), (2, .ref ma), (3, .ref qo), (4, .int (nI (7 * k)))] → W p l e room_1 s m #[Value.ref b] below meth c H locs (cells + 1) (slots + 6) (lw_Z below #[Value.ref b] s) (F0 m 1697 ls [])) : W p l e room_1 s m #[Value.ref b] below meth c H locs cells slots (lw_Z below #[Value.ref b] s) (F0 m 1199 ls []) := by
  obtain ⟨hx, hb, hr, hml, hown0, hts0, hX, hbl, hlocks, hgv⟩ := id C0
  have hown : s.vm.findClass RL = some m.cls := hown0
  have hts : ∀ w ∈ vsL, w.before #[Value.ref b] s = true := fun w h => hts0 w (vsL_in w h)
  have hbA : ¬ A b := fun h => absurd (hAs b h) (Nat.not_le.mpr hbl)
  obtain ⟨Sx, Sm, hsr, hJX, hJM, fq, hPo⟩ := hJ
  have hfx := xi_fact hJX
  have hfm := mi_fact hJM
  refine lv_aload_n hx hb dL_law_1199 rfl (lv_at hl 1 rfl) ?_
  refine lv_aload_n hx hb dL_law_1200 rfl (lv_at hl 0 rfl) ?_
  refine lv_iload hx hb dL_law_1201 (lv_at hl 4 rfl) ?_
  refine lv_iconst (v := 1) hx hb dL_law_1203 (by decide) ?_
  refine lv_iadd hx hb dL_law_1204 ?_
  refine lv_topi (fun y1 ey1 => ?_)
  obtain rfl : y1 = nI (7 * k + 1) := ey1.trans (nI_add (7 * k) 1)
  refine va_sld hx hb hX hbl hbA hS (vp_in_nI (n := 7 * k + 1) (by omega) (by omega)) dL_law_1205 ?_
  refine lv_aload_n hx hb dL_law_1206 rfl (lv_at hl 0 rfl) ?_
  refine lv_iload hx hb dL_law_1207 (lv_at hl 4 rfl) ?_
  refine lv_iconst (v := 2) hx hb dL_law_1209 (by decide) ?_
  refine lv_iadd hx hb dL_law_1210 ?_
  refine lv_topi (fun y2 ey2 => ?_)
  obtain rfl : y2 = nI (7 * k + 2) := ey2.trans (nI_add (7 * k) 2)
  refine va_sld hx hb hX hbl hbA hS (vp_in_nI (n := 7 * k + 2) (by omega) (by omega)) dL_law_1211 ?_
  obtain ⟨fsr, hPr⟩ := xi_recv hJX
  refine va_calli (va_runV (As := [.int (xs (nI (7 * k + 1)).toNatClampNeg), .int (xs (nI (7 * k + 2)).toNatClampNeg)]) (rest := []) ⟨hx, hb, hml, hown, hts⟩ (k_X8_when l dC dI _ kI kB kQ xa XA Sx (xs (nI (7 * k + 1)).toNatClampNeg) (xs (nI (7 * k + 2)).toNatClampNeg)) (cwV 2 hts gL_X8_when rfl rfl rfl (by decide +kernel) ⟨Nat.le_of_ble_eq_true rfl, Nat.le_of_ble_eq_true rfl⟩) ⟨xB_bl, va_recv hK hPr (ci := 8) (q0 := 0) rfl rfl, xB_in hJX (k3_of hK)⟩ rfl rfl hl.1 rfl (lv_room (Nat.le_of_ble_eq_true rfl)) dL_law_1212 ⟨by show _ ≤ 601024; omega, by show _ ≤ 7293034; omega⟩) hS (fun q _ h => lx_A dis.1 hA hS q h) (lx_A dis.1 hA hS) (fun r3 u t H1 locs ht hvm hw hB hz1 hk1 hS => ?_)
  have hJM := mi_keep hJM (fun q h1 h2 => hk1 q h1 (lx_no dis.2.2.2.1 h1 h2))
  have hPo := lx_o hPo dis.2.2.2.2.1 hk1
  have hwx : xM_when Sx (xs (nI (7 * k + 1)).toNatClampNeg) (xs (nI (7 * k + 2)).toNatClampNeg) r3 u := hw
  have hJX : XInv (dC, dI) kI kB kQ xa XA u t.heap := hB
  generalize u = ux at hwx hJX
  rw [ht] at hJX
  clear hk1 hz1 ht hvm
  generalize H1 = H at hJX hJM hPo hS ⊢
  refine lv_pop hx hb dL_law_1215 rfl ?_
  refine lv_aload_n hx hb dL_law_1216 rfl (lv_at hl 2 rfl) ?_
  refine lv_aload_n hx hb dL_law_1217 rfl (lv_at hl 0 rfl) ?_
  refine lv_iload hx hb dL_law_1218 (lv_at hl 4 rfl) ?_
  refine lv_iconst (v := 1) hx hb dL_law_1220 (by decide) ?_
  refine lv_iadd hx hb dL_law_1221 ?_
  refine lv_topi (fun y4 ey4 => ?_)
  obtain rfl : y4 = nI (7 * k + 1) := ey4.trans (nI_add (7 * k) 1)
  refine va_sld hx hb hX hbl hbA hS (vp_in_nI (n := 7 * k + 1) (by omega) (by omega)) dL_law_1222 ?_
  refine lv_aload_n hx hb dL_law_1223 rfl (lv_at hl 0 rfl) ?_
  refine lv_iload hx hb dL_law_1224 (lv_at hl 4 rfl) ?_
  refine lv_iconst (v := 2) hx hb dL_law_1226 (by decide) ?_
  refine lv_iadd hx hb dL_law_1227 ?_
  refine lv_topi (fun y5 ey5 => ?_)
  obtain rfl : y5 = nI (7 * k + 2) := ey5.trans (nI_add (7 * k) 2)
  refine va_sld hx hb hX hbl hbA hS (vp_in_nI (n := 7 * k + 2) (by omega) (by omega)) dL_law_1228 ?_
  obtain ⟨fsr, hPr⟩ := mi_recv hJM
  refine va_calli (va_runV (As := [.int (xs (nI (7 * k + 1)).toNatClampNeg), .int (xs (nI (7 * k + 2)).toNatClampNeg)]) (rest := []) ⟨hx, hb, hml, hown, hts⟩ (k_X9_when l dC dI _ kI kB kQ ma MA Sm (xs (nI (7 * k + 1)).toNatClampNeg) (xs (nI (7 * k + 2)).toNatClampNeg)) (cwV 2 hts gL_X9_when rfl rfl rfl (by decide +kernel) ⟨Nat.le_of_ble_eq_true rfl, Nat.le_of_ble_eq_true rfl⟩) ⟨xB_bl, va_recv hK hPr (ci := 9) (q0 := 0) rfl rfl, xB_in hJM (k3_of hK)⟩ rfl rfl hl.1 rfl (lv_room (Nat.le_of_ble_eq_true rfl)) dL_law_1229 ⟨by show _ ≤ 601024; omega, by show _ ≤ 7293034; omega⟩) hS (fun q _ h => lx_A dis.2.1 hA hS q h) (lx_A dis.2.1 hA hS) (fun r6 u t H1 locs ht hvm hw hB hz1 hk1 hS => ?_)
  have hJX := xi_keep hJX (fun q h1 h2 => hk1 q h1 (lx_no (fun q h g => dis.2.2.2.1 q g h) h1 h2))
  have hPo := lx_o hPo dis.2.2.2.2.2 hk1
  have hwm : mM_when Sm (xs (nI (7 * k + 1)).toNatClampNeg) (xs (nI (7 * k + 2)).toNatClampNeg) r6 u := hw
  have hJM : MInv (dC, dI) kI kB ma MA u t.heap := hB
  generalize u = um at hwm hJM
  have hsr1 := sr_when hsr hfx hfm hwx hwm
  rw [ht] at hJM
  clear hk1 hz1 ht hvm
  generalize H1 = H at hJX hJM hPo hS ⊢
  refine lv_pop hx hb dL_law_1232 rfl ?_
  refine lv_goto (tgt := 1697) hx hb dL_law_1233 (by decide) ?_
  refine W.widen (k := cells + 1) (n := slots + 6) (by omega) (by omega) ?_
  exact hT _ _ _ ⟨ux, um, hsr1, hJX, hJM, fq, hPo⟩ hS (lv_sub hl [0, 1, 2, 3, 4] rfl)
set_option maxHeartbeats 4000000 in
set_option maxRecDepth 100000 in
theorem law_case_28 {p : Program} {e : Env} {s : State} {m : MethodId} {below : List Frame} {meth : Method} {c : Code} (l : Launch) (hlt : l.stackTraces = false) {b L : Nat} {xs : Nat → Int32} (C0 : lw_At p s m meth c b L xs) {A : Nat → Prop} (hA : ∀ q : Nat, s.heap.size ≤ q → A q) (hAs : ∀ q : Nat, A q → s.heap.size ≤ q) (hY : sy_E A s s.heap) {dC : Nat → ClassId} {dI : Nat → Nat → Nat} {kI kB kQ kL : ClassId} (hK : va_K (dC, dI) vwCl (k3 kI kB kQ ++ [(kL, .long)]) s) {xa ma qo : Nat} {XA MA : Nat → Prop} (dis : lw_dis XA MA qo A) (hL : L ≤ 3584) (k : Nat) (hk : 7 * k + 7 ≤ L) {H : Heap} {locs : List Loc} {ls : Array Slot} (hJ : LInv (dC, dI) kI kB kQ kL xa ma qo XA MA H) (hS : va_S A s.heap H locs) (hl : lv_has ls 7 [(0, .ref b), (1, .ref xa), (2, .ref ma), (3, .ref qo), (4, .int (nI (7 * k)))]) {cells slots : Nat} (hc : cells ≤ 600000) (hs : slots ≤ 7200000) (hT : ∀ (H : Heap) (locs : List Loc) (ls : Array Slot), LInv (dC, dI) kI kB kQ kL xa ma qo XA MA H → va_S A s.heap H locs → lv_has ls 7 [(0, .ref b), (1, .ref xa), (2, .ref ma), (3, .ref qo), (4, .int (nI (7 * k)))] → W p l e room_1 s m #[Value.ref b] below meth c H locs (cells + 1) (slots + 6) (lw_Z below #[Value.ref b] s) (F0 m 1697 ls [])) : W p l e room_1 s m #[Value.ref b] below meth c H locs cells slots (lw_Z below #[Value.ref b] s) (F0 m 1236 ls []) := by
  obtain ⟨hx, hb, hr, hml, hown0, hts0, hX, hbl, hlocks, hgv⟩ := id C0
  have hown : s.vm.findClass RL = some m.cls := hown0
  have hts : ∀ w ∈ vsL, w.before #[Value.ref b] s = true := fun w h => hts0 w (vsL_in w h)
  have hbA : ¬ A b := fun h => absurd (hAs b h) (Nat.not_le.mpr hbl)
  obtain ⟨Sx, Sm, hsr, hJX, hJM, fq, hPo⟩ := hJ
  have hfx := xi_fact hJX
  have hfm := mi_fact hJM
  refine lv_aload_n hx hb dL_law_1236 rfl (lv_at hl 1 rfl) ?_
  refine lv_aload_n hx hb dL_law_1237 rfl (lv_at hl 0 rfl) ?_
  refine lv_iload hx hb dL_law_1238 (lv_at hl 4 rfl) ?_
  refine lv_iconst (v := 1) hx hb dL_law_1240 (by decide) ?_
  refine lv_iadd hx hb dL_law_1241 ?_
  refine lv_topi (fun y1 ey1 => ?_)
  obtain rfl : y1 = nI (7 * k + 1) := ey1.trans (nI_add (7 * k) 1)
  refine va_sld hx hb hX hbl hbA hS (vp_in_nI (n := 7 * k + 1) (by omega) (by omega)) dL_law_1242 ?_
  refine lv_aload_n hx hb dL_law_1243 rfl (lv_at hl 0 rfl) ?_
  refine lv_iload hx hb dL_law_1244 (lv_at hl 4 rfl) ?_
  refine lv_iconst (v := 2) hx hb dL_law_1246 (by decide) ?_
  refine lv_iadd hx hb dL_law_1247 ?_
  refine lv_topi (fun y2 ey2 => ?_)
  obtain rfl : y2 = nI (7 * k + 2) := ey2.trans (nI_add (7 * k) 2)
  refine va_sld hx hb hX hbl hbA hS (vp_in_nI (n := 7 * k + 2) (by omega) (by omega)) dL_law_1248 ?_
  refine lv_aload_n hx hb dL_law_1249 rfl (lv_at hl 0 rfl) ?_
  refine lv_iload hx hb dL_law_1250 (lv_at hl 4 rfl) ?_
  refine lv_iconst (v := 3) hx hb dL_law_1252 (by decide) ?_
  refine lv_iadd hx hb dL_law_1253 ?_
  refine lv_topi (fun y3 ey3 => ?_)
  obtain rfl : y3 = nI (7 * k + 3) := ey3.trans (nI_add (7 * k) 3)
  refine va_sld hx hb hX hbl hbA hS (vp_in_nI (n := 7 * k + 3) (by omega) (by omega)) dL_law_1254 ?_
  obtain ⟨fsr, hPr⟩ := xi_recv hJX
  refine va_calli (va_runV (As := [.int (xs (nI (7 * k + 1)).toNatClampNeg), .int (xs (nI (7 * k + 2)).toNatClampNeg), .int (xs (nI (7 * k + 3)).toNatClampNeg)]) (rest := []) ⟨hx, hb, hml, hown, hts⟩ (k_X8_then l dC dI _ kI kB kQ xa XA Sx (xs (nI (7 * k + 1)).toNatClampNeg) (xs (nI (7 * k + 2)).toNatClampNeg) (xs (nI (7 * k + 3)).toNatClampNeg)) (cwV 3 hts gL_X8_then rfl rfl rfl (by decide +kernel) ⟨Nat.le_of_ble_eq_true rfl, Nat.le_of_ble_eq_true rfl⟩) ⟨xB_bl, va_recv hK hPr (ci := 8) (q0 := 0) rfl rfl, xB_in hJX (k3_of hK)⟩ rfl rfl hl.1 rfl (lv_room (Nat.le_of_ble_eq_true rfl)) dL_law_1255 ⟨by show _ ≤ 601024; omega, by show _ ≤ 7293034; omega⟩) hS (fun q _ h => lx_A dis.1 hA hS q h) (lx_A dis.1 hA hS) (fun r4 u t H1 locs ht hvm hw hB hz1 hk1 hS => ?_)
  have hJM := mi_keep hJM (fun q h1 h2 => hk1 q h1 (lx_no dis.2.2.2.1 h1 h2))
  have hPo := lx_o hPo dis.2.2.2.2.1 hk1
  have hwx : xM_then Sx (xs (nI (7 * k + 1)).toNatClampNeg) (xs (nI (7 * k + 2)).toNatClampNeg) (xs (nI (7 * k + 3)).toNatClampNeg) r4 u := hw
  have hJX : XInv (dC, dI) kI kB kQ xa XA u t.heap := hB
  generalize u = ux at hwx hJX
  rw [ht] at hJX
  clear hk1 hz1 ht hvm
  generalize H1 = H at hJX hJM hPo hS ⊢
  refine lv_pop hx hb dL_law_1258 rfl ?_
  refine lv_aload_n hx hb dL_law_1259 rfl (lv_at hl 2 rfl) ?_
  refine lv_aload_n hx hb dL_law_1260 rfl (lv_at hl 0 rfl) ?_
  refine lv_iload hx hb dL_law_1261 (lv_at hl 4 rfl) ?_
  refine lv_iconst (v := 1) hx hb dL_law_1263 (by decide) ?_
  refine lv_iadd hx hb dL_law_1264 ?_
  refine lv_topi (fun y5 ey5 => ?_)
  obtain rfl : y5 = nI (7 * k + 1) := ey5.trans (nI_add (7 * k) 1)
  refine va_sld hx hb hX hbl hbA hS (vp_in_nI (n := 7 * k + 1) (by omega) (by omega)) dL_law_1265 ?_
  refine lv_aload_n hx hb dL_law_1266 rfl (lv_at hl 0 rfl) ?_
  refine lv_iload hx hb dL_law_1267 (lv_at hl 4 rfl) ?_
  refine lv_iconst (v := 2) hx hb dL_law_1269 (by decide) ?_
  refine lv_iadd hx hb dL_law_1270 ?_
  refine lv_topi (fun y6 ey6 => ?_)
  obtain rfl : y6 = nI (7 * k + 2) := ey6.trans (nI_add (7 * k) 2)
  refine va_sld hx hb hX hbl hbA hS (vp_in_nI (n := 7 * k + 2) (by omega) (by omega)) dL_law_1271 ?_
  refine lv_aload_n hx hb dL_law_1272 rfl (lv_at hl 0 rfl) ?_
  refine lv_iload hx hb dL_law_1273 (lv_at hl 4 rfl) ?_
  refine lv_iconst (v := 3) hx hb dL_law_1275 (by decide) ?_
  refine lv_iadd hx hb dL_law_1276 ?_
  refine lv_topi (fun y7 ey7 => ?_)
  obtain rfl : y7 = nI (7 * k + 3) := ey7.trans (nI_add (7 * k) 3)
  refine va_sld hx hb hX hbl hbA hS (vp_in_nI (n := 7 * k + 3) (by omega) (by omega)) dL_law_1277 ?_
  obtain ⟨fsr, hPr⟩ := mi_recv hJM
  refine va_calli (va_runV (As := [.int (xs (nI (7 * k + 1)).toNatClampNeg), .int (xs (nI (7 * k + 2)).toNatClampNeg), .int (xs (nI (7 * k + 3)).toNatClampNeg)]) (rest := []) ⟨hx, hb, hml, hown, hts⟩ (k_X9_then l dC dI _ kI kB kQ ma MA Sm (xs (nI (7 * k + 1)).toNatClampNeg) (xs (nI (7 * k + 2)).toNatClampNeg) (xs (nI (7 * k + 3)).toNatClampNeg)) (cwV 3 hts gL_X9_then rfl rfl rfl (by decide +kernel) ⟨Nat.le_of_ble_eq_true rfl, Nat.le_of_ble_eq_true rfl⟩) ⟨xB_bl, va_recv hK hPr (ci := 9) (q0 := 0) rfl rfl, xB_in hJM (k3_of hK)⟩ rfl rfl hl.1 rfl (lv_room (Nat.le_of_ble_eq_true rfl)) dL_law_1278 ⟨by show _ ≤ 601024; omega, by show _ ≤ 7293034; omega⟩) hS (fun q _ h => lx_A dis.2.1 hA hS q h) (lx_A dis.2.1 hA hS) (fun r8 u t H1 locs ht hvm hw hB hz1 hk1 hS => ?_)
  have hJX := xi_keep hJX (fun q h1 h2 => hk1 q h1 (lx_no (fun q h g => dis.2.2.2.1 q g h) h1 h2))
  have hPo := lx_o hPo dis.2.2.2.2.2 hk1
  have hwm : mM_then Sm (xs (nI (7 * k + 1)).toNatClampNeg) (xs (nI (7 * k + 2)).toNatClampNeg) (xs (nI (7 * k + 3)).toNatClampNeg) r8 u := hw
  have hJM : MInv (dC, dI) kI kB ma MA u t.heap := hB
  generalize u = um at hwm hJM
  have hsr1 := sr_then hsr hfx hfm hwx hwm
  rw [ht] at hJM
  clear hk1 hz1 ht hvm
  generalize H1 = H at hJX hJM hPo hS ⊢
  refine lv_pop hx hb dL_law_1281 rfl ?_
  refine lv_goto (tgt := 1697) hx hb dL_law_1282 (by decide) ?_
  refine W.widen (k := cells + 1) (n := slots + 6) (by omega) (by omega) ?_
  exact hT _ _ _ ⟨ux, um, hsr1, hJX, hJM, fq, hPo⟩ hS (lv_sub hl [0, 1, 2, 3, 4] rfl)
set_option maxHeartbeats 4000000 in
set_option maxRecDepth 100000 in
theorem law_case_29 {p : Program} {e : Env} {s : State} {m : MethodId} {below : List Frame} {meth : Method} {c : Code} (l : Launch) (hlt : l.stackTraces = false) {b L : Nat} {xs : Nat → Int32} (C0 : lw_At p s m meth c b L xs) {A : Nat → Prop} (hA : ∀ q : Nat, s.heap.size ≤ q → A q) (hAs : ∀ q : Nat, A q → s.heap.size ≤ q) (hY : sy_E A s s.heap) {dC : Nat → ClassId} {dI : Nat → Nat → Nat} {kI kB kQ kL : ClassId} (hK : va_K (dC, dI) vwCl (k3 kI kB kQ ++ [(kL, .long)]) s) {xa ma qo : Nat} {XA MA : Nat → Prop} (dis : lw_dis XA MA qo A) (hL : L ≤ 3584) (k : Nat) (hk : 7 * k + 7 ≤ L) {H : Heap} {locs : List Loc} {ls : Array Slot} (hJ : LInv (dC, dI) kI kB kQ kL xa ma qo XA MA H) (hS : va_S A s.heap H locs) (hl : lv_has ls 7 [(0, .ref b), (1, .ref xa), (2, .ref ma), (3, .ref qo), (4, .int (nI (7 * k)))]) {cells slots : Nat} (hc : cells ≤ 600000) (hs : slots ≤ 7200000) (hT : ∀ (H : Heap) (locs : List Loc) (ls : Array Slot), LInv (dC, dI) kI kB kQ kL xa ma qo XA MA H → va_S A s.heap H locs → lv_has ls 7 [(0, .ref b), (1, .ref xa), (2, .ref ma), (3, .ref qo), (4, .int (nI (7 * k)))] → W p l e room_1 s m #[Value.ref b] below meth c H locs (cells + 1) (slots + 6) (lw_Z below #[Value.ref b] s) (F0 m 1697 ls [])) : W p l e room_1 s m #[Value.ref b] below meth c H locs cells slots (lw_Z below #[Value.ref b] s) (F0 m 1285 ls []) := by
  obtain ⟨hx, hb, hr, hml, hown0, hts0, hX, hbl, hlocks, hgv⟩ := id C0
  have hown : s.vm.findClass RL = some m.cls := hown0
  have hts : ∀ w ∈ vsL, w.before #[Value.ref b] s = true := fun w h => hts0 w (vsL_in w h)
  have hbA : ¬ A b := fun h => absurd (hAs b h) (Nat.not_le.mpr hbl)
  obtain ⟨Sx, Sm, hsr, hJX, hJM, fq, hPo⟩ := hJ
  have hfx := xi_fact hJX
  have hfm := mi_fact hJM
  refine lv_aload_n hx hb dL_law_1285 rfl (lv_at hl 1 rfl) ?_
  refine lv_aload_n hx hb dL_law_1286 rfl (lv_at hl 0 rfl) ?_
  refine lv_iload hx hb dL_law_1287 (lv_at hl 4 rfl) ?_
  refine lv_iconst (v := 1) hx hb dL_law_1289 (by decide) ?_
  refine lv_iadd hx hb dL_law_1290 ?_
  refine lv_topi (fun y1 ey1 => ?_)
  obtain rfl : y1 = nI (7 * k + 1) := ey1.trans (nI_add (7 * k) 1)
  refine va_sld hx hb hX hbl hbA hS (vp_in_nI (n := 7 * k + 1) (by omega) (by omega)) dL_law_1291 ?_
  refine lv_aload_n hx hb dL_law_1292 rfl (lv_at hl 0 rfl) ?_
  refine lv_iload hx hb dL_law_1293 (lv_at hl 4 rfl) ?_
  refine lv_iconst (v := 2) hx hb dL_law_1295 (by decide) ?_
  refine lv_iadd hx hb dL_law_1296 ?_
  refine lv_topi (fun y2 ey2 => ?_)
  obtain rfl : y2 = nI (7 * k + 2) := ey2.trans (nI_add (7 * k) 2)
  refine va_sld hx hb hX hbl hbA hS (vp_in_nI (n := 7 * k + 2) (by omega) (by omega)) dL_law_1297 ?_
  obtain ⟨fsr, hPr⟩ := xi_recv hJX
  refine va_calli (va_runV (As := [.int (xs (nI (7 * k + 1)).toNatClampNeg), .int (xs (nI (7 * k + 2)).toNatClampNeg)]) (rest := []) ⟨hx, hb, hml, hown, hts⟩ (k_X8_spans l dC dI _ kI kB kQ xa XA Sx (xs (nI (7 * k + 1)).toNatClampNeg) (xs (nI (7 * k + 2)).toNatClampNeg)) (cwV 2 hts gL_X8_spans rfl rfl rfl (by decide +kernel) ⟨Nat.le_of_ble_eq_true rfl, Nat.le_of_ble_eq_true rfl⟩) ⟨xB_bl, va_recv hK hPr (ci := 8) (q0 := 0) rfl rfl, xB_in hJX (k3_of hK)⟩ rfl rfl hl.1 rfl (lv_room (Nat.le_of_ble_eq_true rfl)) dL_law_1298 ⟨by show _ ≤ 601024; omega, by show _ ≤ 7293034; omega⟩) hS (fun q _ h => lx_A dis.1 hA hS q h) (lx_A dis.1 hA hS) (fun r3 u t H1 locs ht hvm hw hB hz1 hk1 hS => ?_)
  have hJM := mi_keep hJM (fun q h1 h2 => hk1 q h1 (lx_no dis.2.2.2.1 h1 h2))
  have hPo := lx_o hPo dis.2.2.2.2.1 hk1
  have hwx : xM_spans Sx (xs (nI (7 * k + 1)).toNatClampNeg) (xs (nI (7 * k + 2)).toNatClampNeg) r3 u := hw
  have hJX : XInv (dC, dI) kI kB kQ xa XA u t.heap := hB
  generalize u = ux at hwx hJX
  rw [ht] at hJX
  clear hk1 hz1 ht hvm
  generalize H1 = H at hJX hJM hPo hS ⊢
  refine lv_pop hx hb dL_law_1301 rfl ?_
  refine lv_aload_n hx hb dL_law_1302 rfl (lv_at hl 2 rfl) ?_
  refine lv_aload_n hx hb dL_law_1303 rfl (lv_at hl 0 rfl) ?_
  refine lv_iload hx hb dL_law_1304 (lv_at hl 4 rfl) ?_
  refine lv_iconst (v := 1) hx hb dL_law_1306 (by decide) ?_
  refine lv_iadd hx hb dL_law_1307 ?_
  refine lv_topi (fun y4 ey4 => ?_)
  obtain rfl : y4 = nI (7 * k + 1) := ey4.trans (nI_add (7 * k) 1)
  refine va_sld hx hb hX hbl hbA hS (vp_in_nI (n := 7 * k + 1) (by omega) (by omega)) dL_law_1308 ?_
  refine lv_aload_n hx hb dL_law_1309 rfl (lv_at hl 0 rfl) ?_
  refine lv_iload hx hb dL_law_1310 (lv_at hl 4 rfl) ?_
  refine lv_iconst (v := 2) hx hb dL_law_1312 (by decide) ?_
  refine lv_iadd hx hb dL_law_1313 ?_
  refine lv_topi (fun y5 ey5 => ?_)
  obtain rfl : y5 = nI (7 * k + 2) := ey5.trans (nI_add (7 * k) 2)
  refine va_sld hx hb hX hbl hbA hS (vp_in_nI (n := 7 * k + 2) (by omega) (by omega)) dL_law_1314 ?_
  obtain ⟨fsr, hPr⟩ := mi_recv hJM
  refine va_calli (va_runV (As := [.int (xs (nI (7 * k + 1)).toNatClampNeg), .int (xs (nI (7 * k + 2)).toNatClampNeg)]) (rest := []) ⟨hx, hb, hml, hown, hts⟩ (k_X9_spans l dC dI _ kI kB kQ ma MA Sm (xs (nI (7 * k + 1)).toNatClampNeg) (xs (nI (7 * k + 2)).toNatClampNeg)) (cwV 2 hts gL_X9_spans rfl rfl rfl (by decide +kernel) ⟨Nat.le_of_ble_eq_true rfl, Nat.le_of_ble_eq_true rfl⟩) ⟨xB_bl, va_recv hK hPr (ci := 9) (q0 := 0) rfl rfl, xB_in hJM (k3_of hK)⟩ rfl rfl hl.1 rfl (lv_room (Nat.le_of_ble_eq_true rfl)) dL_law_1315 ⟨by show _ ≤ 601024; omega, by show _ ≤ 7293034; omega⟩) hS (fun q _ h => lx_A dis.2.1 hA hS q h) (lx_A dis.2.1 hA hS) (fun r6 u t H1 locs ht hvm hw hB hz1 hk1 hS => ?_)
  have hJX := xi_keep hJX (fun q h1 h2 => hk1 q h1 (lx_no (fun q h g => dis.2.2.2.1 q g h) h1 h2))
  have hPo := lx_o hPo dis.2.2.2.2.2 hk1
  have hwm : mM_spans Sm (xs (nI (7 * k + 1)).toNatClampNeg) (xs (nI (7 * k + 2)).toNatClampNeg) r6 u := hw
  have hJM : MInv (dC, dI) kI kB ma MA u t.heap := hB
  generalize u = um at hwm hJM
  have hsr1 := sr_spans hsr hfx hfm hwx hwm
  rw [ht] at hJM
  clear hk1 hz1 ht hvm
  generalize H1 = H at hJX hJM hPo hS ⊢
  refine lv_pop hx hb dL_law_1318 rfl ?_
  refine lv_goto (tgt := 1697) hx hb dL_law_1319 (by decide) ?_
  refine W.widen (k := cells + 1) (n := slots + 6) (by omega) (by omega) ?_
  exact hT _ _ _ ⟨ux, um, hsr1, hJX, hJM, fq, hPo⟩ hS (lv_sub hl [0, 1, 2, 3, 4] rfl)
set_option maxHeartbeats 4000000 in
set_option maxRecDepth 100000 in
theorem law_case_30 {p : Program} {e : Env} {s : State} {m : MethodId} {below : List Frame} {meth : Method} {c : Code} (l : Launch) (hlt : l.stackTraces = false) {b L : Nat} {xs : Nat → Int32} (C0 : lw_At p s m meth c b L xs) {A : Nat → Prop} (hA : ∀ q : Nat, s.heap.size ≤ q → A q) (hAs : ∀ q : Nat, A q → s.heap.size ≤ q) (hY : sy_E A s s.heap) {dC : Nat → ClassId} {dI : Nat → Nat → Nat} {kI kB kQ kL : ClassId} (hK : va_K (dC, dI) vwCl (k3 kI kB kQ ++ [(kL, .long)]) s) {xa ma qo : Nat} {XA MA : Nat → Prop} (dis : lw_dis XA MA qo A) (hL : L ≤ 3584) (k : Nat) (hk : 7 * k + 7 ≤ L) {H : Heap} {locs : List Loc} {ls : Array Slot} (hJ : LInv (dC, dI) kI kB kQ kL xa ma qo XA MA H) (hS : va_S A s.heap H locs) (hl : lv_has ls 7 [(0, .ref b), (1, .ref xa), (2, .ref ma), (3, .ref qo), (4, .int (nI (7 * k)))]) {cells slots : Nat} (hc : cells ≤ 600000) (hs : slots ≤ 7200000) (hT : ∀ (H : Heap) (locs : List Loc) (ls : Array Slot), LInv (dC, dI) kI kB kQ kL xa ma qo XA MA H → va_S A s.heap H locs → lv_has ls 7 [(0, .ref b), (1, .ref xa), (2, .ref ma), (3, .ref qo), (4, .int (nI (7 * k)))] → W p l e room_1 s m #[Value.ref b] below meth c H locs (cells + 1) (slots + 6) (lw_Z below #[Value.ref b] s) (F0 m 1697 ls [])) : W p l e room_1 s m #[Value.ref b] below meth c H locs cells slots (lw_Z below #[Value.ref b] s) (F0 m 1322 ls []) := by
  obtain ⟨hx, hb, hr, hml, hown0, hts0, hX, hbl, hlocks, hgv⟩ := id C0
  have hown : s.vm.findClass RL = some m.cls := hown0
  have hts : ∀ w ∈ vsL, w.before #[Value.ref b] s = true := fun w h => hts0 w (vsL_in w h)
  have hbA : ¬ A b := fun h => absurd (hAs b h) (Nat.not_le.mpr hbl)
  obtain ⟨Sx, Sm, hsr, hJX, hJM, fq, hPo⟩ := hJ
  have hfx := xi_fact hJX
  have hfm := mi_fact hJM
  refine lv_aload_n hx hb dL_law_1322 rfl (lv_at hl 1 rfl) ?_
  refine lv_aload_n hx hb dL_law_1323 rfl (lv_at hl 0 rfl) ?_
  refine lv_iload hx hb dL_law_1324 (lv_at hl 4 rfl) ?_
  refine lv_iconst (v := 1) hx hb dL_law_1326 (by decide) ?_
  refine lv_iadd hx hb dL_law_1327 ?_
  refine lv_topi (fun y1 ey1 => ?_)
  obtain rfl : y1 = nI (7 * k + 1) := ey1.trans (nI_add (7 * k) 1)
  refine va_sld hx hb hX hbl hbA hS (vp_in_nI (n := 7 * k + 1) (by omega) (by omega)) dL_law_1328 ?_
  refine lv_aload_n hx hb dL_law_1329 rfl (lv_at hl 0 rfl) ?_
  refine lv_iload hx hb dL_law_1330 (lv_at hl 4 rfl) ?_
  refine lv_iconst (v := 2) hx hb dL_law_1332 (by decide) ?_
  refine lv_iadd hx hb dL_law_1333 ?_
  refine lv_topi (fun y2 ey2 => ?_)
  obtain rfl : y2 = nI (7 * k + 2) := ey2.trans (nI_add (7 * k) 2)
  refine va_sld hx hb hX hbl hbA hS (vp_in_nI (n := 7 * k + 2) (by omega) (by omega)) dL_law_1334 ?_
  refine lv_aload_n hx hb dL_law_1335 rfl (lv_at hl 0 rfl) ?_
  refine lv_iload hx hb dL_law_1336 (lv_at hl 4 rfl) ?_
  refine lv_iconst (v := 3) hx hb dL_law_1338 (by decide) ?_
  refine lv_iadd hx hb dL_law_1339 ?_
  refine lv_topi (fun y3 ey3 => ?_)
  obtain rfl : y3 = nI (7 * k + 3) := ey3.trans (nI_add (7 * k) 3)
  refine va_sld hx hb hX hbl hbA hS (vp_in_nI (n := 7 * k + 3) (by omega) (by omega)) dL_law_1340 ?_
  refine lv_aload_n hx hb dL_law_1341 rfl (lv_at hl 0 rfl) ?_
  refine lv_iload hx hb dL_law_1342 (lv_at hl 4 rfl) ?_
  refine lv_iconst (v := 4) hx hb dL_law_1344 (by decide) ?_
  refine lv_iadd hx hb dL_law_1345 ?_
  refine lv_topi (fun y4 ey4 => ?_)
  obtain rfl : y4 = nI (7 * k + 4) := ey4.trans (nI_add (7 * k) 4)
  refine va_sld hx hb hX hbl hbA hS (vp_in_nI (n := 7 * k + 4) (by omega) (by omega)) dL_law_1346 ?_
  refine lv_aload_n hx hb dL_law_1347 rfl (lv_at hl 0 rfl) ?_
  refine lv_iload hx hb dL_law_1348 (lv_at hl 4 rfl) ?_
  refine lv_iconst (v := 5) hx hb dL_law_1350 (by decide) ?_
  refine lv_iadd hx hb dL_law_1351 ?_
  refine lv_topi (fun y5 ey5 => ?_)
  obtain rfl : y5 = nI (7 * k + 5) := ey5.trans (nI_add (7 * k) 5)
  refine va_sld hx hb hX hbl hbA hS (vp_in_nI (n := 7 * k + 5) (by omega) (by omega)) dL_law_1352 ?_
  refine lv_aload_n hx hb dL_law_1353 rfl (lv_at hl 0 rfl) ?_
  refine lv_iload hx hb dL_law_1354 (lv_at hl 4 rfl) ?_
  refine lv_bipush (v := 6) hx hb dL_law_1356 (by decide) ?_
  refine lv_iadd hx hb dL_law_1358 ?_
  refine lv_topi (fun y6 ey6 => ?_)
  obtain rfl : y6 = nI (7 * k + 6) := ey6.trans (nI_add (7 * k) 6)
  refine va_sld hx hb hX hbl hbA hS (vp_in_nI (n := 7 * k + 6) (by omega) (by omega)) dL_law_1359 ?_
  obtain ⟨fsr, hPr⟩ := xi_recv hJX
  refine va_calli (va_runV (As := [.int (xs (nI (7 * k + 1)).toNatClampNeg), .int (xs (nI (7 * k + 2)).toNatClampNeg), .int (xs (nI (7 * k + 3)).toNatClampNeg), .int (xs (nI (7 * k + 4)).toNatClampNeg), .int (xs (nI (7 * k + 5)).toNatClampNeg), .int (xs (nI (7 * k + 6)).toNatClampNeg)]) (rest := []) ⟨hx, hb, hml, hown, hts⟩ (k_X8_tells l dC dI _ kI kB kQ xa XA Sx (xs (nI (7 * k + 1)).toNatClampNeg) (xs (nI (7 * k + 2)).toNatClampNeg) (xs (nI (7 * k + 3)).toNatClampNeg) (xs (nI (7 * k + 4)).toNatClampNeg) (xs (nI (7 * k + 5)).toNatClampNeg) (xs (nI (7 * k + 6)).toNatClampNeg)) (cwV 6 hts gL_X8_tells rfl rfl rfl (by decide +kernel) ⟨Nat.le_of_ble_eq_true rfl, Nat.le_of_ble_eq_true rfl⟩) ⟨xB_bl, va_recv hK hPr (ci := 8) (q0 := 0) rfl rfl, xB_in hJX (k3_of hK)⟩ rfl rfl hl.1 rfl (lv_room (Nat.le_of_ble_eq_true rfl)) dL_law_1360 ⟨by show _ ≤ 601024; omega, by show _ ≤ 7293034; omega⟩) hS (fun q _ h => lx_A dis.1 hA hS q h) (lx_A dis.1 hA hS) (fun r7 u t H1 locs ht hvm hw hB hz1 hk1 hS => ?_)
  have hJM := mi_keep hJM (fun q h1 h2 => hk1 q h1 (lx_no dis.2.2.2.1 h1 h2))
  have hPo := lx_o hPo dis.2.2.2.2.1 hk1
  have hwx : xM_tells Sx (xs (nI (7 * k + 1)).toNatClampNeg) (xs (nI (7 * k + 2)).toNatClampNeg) (xs (nI (7 * k + 3)).toNatClampNeg) (xs (nI (7 * k + 4)).toNatClampNeg) (xs (nI (7 * k + 5)).toNatClampNeg) (xs (nI (7 * k + 6)).toNatClampNeg) r7 u := hw
  have hJX : XInv (dC, dI) kI kB kQ xa XA u t.heap := hB
  generalize u = ux at hwx hJX
  rw [ht] at hJX
  clear hk1 hz1 ht hvm
  generalize H1 = H at hJX hJM hPo hS ⊢
  refine lv_pop hx hb dL_law_1363 rfl ?_
  refine lv_aload_n hx hb dL_law_1364 rfl (lv_at hl 2 rfl) ?_
  refine lv_aload_n hx hb dL_law_1365 rfl (lv_at hl 0 rfl) ?_
  refine lv_iload hx hb dL_law_1366 (lv_at hl 4 rfl) ?_
  refine lv_iconst (v := 1) hx hb dL_law_1368 (by decide) ?_
  refine lv_iadd hx hb dL_law_1369 ?_
  refine lv_topi (fun y8 ey8 => ?_)
  obtain rfl : y8 = nI (7 * k + 1) := ey8.trans (nI_add (7 * k) 1)
  refine va_sld hx hb hX hbl hbA hS (vp_in_nI (n := 7 * k + 1) (by omega) (by omega)) dL_law_1370 ?_
  refine lv_aload_n hx hb dL_law_1371 rfl (lv_at hl 0 rfl) ?_
  refine lv_iload hx hb dL_law_1372 (lv_at hl 4 rfl) ?_
  refine lv_iconst (v := 2) hx hb dL_law_1374 (by decide) ?_
  refine lv_iadd hx hb dL_law_1375 ?_
  refine lv_topi (fun y9 ey9 => ?_)
  obtain rfl : y9 = nI (7 * k + 2) := ey9.trans (nI_add (7 * k) 2)
  refine va_sld hx hb hX hbl hbA hS (vp_in_nI (n := 7 * k + 2) (by omega) (by omega)) dL_law_1376 ?_
  refine lv_aload_n hx hb dL_law_1377 rfl (lv_at hl 0 rfl) ?_
  refine lv_iload hx hb dL_law_1378 (lv_at hl 4 rfl) ?_
  refine lv_iconst (v := 3) hx hb dL_law_1380 (by decide) ?_
  refine lv_iadd hx hb dL_law_1381 ?_
  refine lv_topi (fun y10 ey10 => ?_)
  obtain rfl : y10 = nI (7 * k + 3) := ey10.trans (nI_add (7 * k) 3)
  refine va_sld hx hb hX hbl hbA hS (vp_in_nI (n := 7 * k + 3) (by omega) (by omega)) dL_law_1382 ?_
  refine lv_aload_n hx hb dL_law_1383 rfl (lv_at hl 0 rfl) ?_
  refine lv_iload hx hb dL_law_1384 (lv_at hl 4 rfl) ?_
  refine lv_iconst (v := 4) hx hb dL_law_1386 (by decide) ?_
  refine lv_iadd hx hb dL_law_1387 ?_
  refine lv_topi (fun y11 ey11 => ?_)
  obtain rfl : y11 = nI (7 * k + 4) := ey11.trans (nI_add (7 * k) 4)
  refine va_sld hx hb hX hbl hbA hS (vp_in_nI (n := 7 * k + 4) (by omega) (by omega)) dL_law_1388 ?_
  refine lv_aload_n hx hb dL_law_1389 rfl (lv_at hl 0 rfl) ?_
  refine lv_iload hx hb dL_law_1390 (lv_at hl 4 rfl) ?_
  refine lv_iconst (v := 5) hx hb dL_law_1392 (by decide) ?_
  refine lv_iadd hx hb dL_law_1393 ?_
  refine lv_topi (fun y12 ey12 => ?_)
  obtain rfl : y12 = nI (7 * k + 5) := ey12.trans (nI_add (7 * k) 5)
  refine va_sld hx hb hX hbl hbA hS (vp_in_nI (n := 7 * k + 5) (by omega) (by omega)) dL_law_1394 ?_
  refine lv_aload_n hx hb dL_law_1395 rfl (lv_at hl 0 rfl) ?_
  refine lv_iload hx hb dL_law_1396 (lv_at hl 4 rfl) ?_
  refine lv_bipush (v := 6) hx hb dL_law_1398 (by decide) ?_
  refine lv_iadd hx hb dL_law_1400 ?_
  refine lv_topi (fun y13 ey13 => ?_)
  obtain rfl : y13 = nI (7 * k + 6) := ey13.trans (nI_add (7 * k) 6)
  refine va_sld hx hb hX hbl hbA hS (vp_in_nI (n := 7 * k + 6) (by omega) (by omega)) dL_law_1401 ?_
  obtain ⟨fsr, hPr⟩ := mi_recv hJM
  refine va_calli (va_runV (As := [.int (xs (nI (7 * k + 1)).toNatClampNeg), .int (xs (nI (7 * k + 2)).toNatClampNeg), .int (xs (nI (7 * k + 3)).toNatClampNeg), .int (xs (nI (7 * k + 4)).toNatClampNeg), .int (xs (nI (7 * k + 5)).toNatClampNeg), .int (xs (nI (7 * k + 6)).toNatClampNeg)]) (rest := []) ⟨hx, hb, hml, hown, hts⟩ (k_X9_tells l dC dI _ kI kB kQ ma MA Sm (xs (nI (7 * k + 1)).toNatClampNeg) (xs (nI (7 * k + 2)).toNatClampNeg) (xs (nI (7 * k + 3)).toNatClampNeg) (xs (nI (7 * k + 4)).toNatClampNeg) (xs (nI (7 * k + 5)).toNatClampNeg) (xs (nI (7 * k + 6)).toNatClampNeg)) (cwV 6 hts gL_X9_tells rfl rfl rfl (by decide +kernel) ⟨Nat.le_of_ble_eq_true rfl, Nat.le_of_ble_eq_true rfl⟩) ⟨xB_bl, va_recv hK hPr (ci := 9) (q0 := 0) rfl rfl, xB_in hJM (k3_of hK)⟩ rfl rfl hl.1 rfl (lv_room (Nat.le_of_ble_eq_true rfl)) dL_law_1402 ⟨by show _ ≤ 601024; omega, by show _ ≤ 7293034; omega⟩) hS (fun q _ h => lx_A dis.2.1 hA hS q h) (lx_A dis.2.1 hA hS) (fun r14 u t H1 locs ht hvm hw hB hz1 hk1 hS => ?_)
  have hJX := xi_keep hJX (fun q h1 h2 => hk1 q h1 (lx_no (fun q h g => dis.2.2.2.1 q g h) h1 h2))
  have hPo := lx_o hPo dis.2.2.2.2.2 hk1
  have hwm : mM_tells Sm (xs (nI (7 * k + 1)).toNatClampNeg) (xs (nI (7 * k + 2)).toNatClampNeg) (xs (nI (7 * k + 3)).toNatClampNeg) (xs (nI (7 * k + 4)).toNatClampNeg) (xs (nI (7 * k + 5)).toNatClampNeg) (xs (nI (7 * k + 6)).toNatClampNeg) r14 u := hw
  have hJM : MInv (dC, dI) kI kB ma MA u t.heap := hB
  generalize u = um at hwm hJM
  have hsr1 := sr_tells hsr hfx hfm hwx hwm
  rw [ht] at hJM
  clear hk1 hz1 ht hvm
  generalize H1 = H at hJX hJM hPo hS ⊢
  refine lv_pop hx hb dL_law_1405 rfl ?_
  refine lv_goto (tgt := 1697) hx hb dL_law_1406 (by decide) ?_
  refine W.widen (k := cells + 1) (n := slots + 6) (by omega) (by omega) ?_
  exact hT _ _ _ ⟨ux, um, hsr1, hJX, hJM, fq, hPo⟩ hS (lv_sub hl [0, 1, 2, 3, 4] rfl)
set_option maxHeartbeats 4000000 in
set_option maxRecDepth 100000 in
theorem law_case_31 {p : Program} {e : Env} {s : State} {m : MethodId} {below : List Frame} {meth : Method} {c : Code} (l : Launch) (hlt : l.stackTraces = false) {b L : Nat} {xs : Nat → Int32} (C0 : lw_At p s m meth c b L xs) {A : Nat → Prop} (hA : ∀ q : Nat, s.heap.size ≤ q → A q) (hAs : ∀ q : Nat, A q → s.heap.size ≤ q) (hY : sy_E A s s.heap) {dC : Nat → ClassId} {dI : Nat → Nat → Nat} {kI kB kQ kL : ClassId} (hK : va_K (dC, dI) vwCl (k3 kI kB kQ ++ [(kL, .long)]) s) {xa ma qo : Nat} {XA MA : Nat → Prop} (dis : lw_dis XA MA qo A) (hL : L ≤ 3584) (k : Nat) (hk : 7 * k + 7 ≤ L) {H : Heap} {locs : List Loc} {ls : Array Slot} (hJ : LInv (dC, dI) kI kB kQ kL xa ma qo XA MA H) (hS : va_S A s.heap H locs) (hl : lv_has ls 7 [(0, .ref b), (1, .ref xa), (2, .ref ma), (3, .ref qo), (4, .int (nI (7 * k)))]) {cells slots : Nat} (hc : cells ≤ 600000) (hs : slots ≤ 7200000) (hT : ∀ (H : Heap) (locs : List Loc) (ls : Array Slot), LInv (dC, dI) kI kB kQ kL xa ma qo XA MA H → va_S A s.heap H locs → lv_has ls 7 [(0, .ref b), (1, .ref xa), (2, .ref ma), (3, .ref qo), (4, .int (nI (7 * k)))] → W p l e room_1 s m #[Value.ref b] below meth c H locs (cells + 1) (slots + 6) (lw_Z below #[Value.ref b] s) (F0 m 1697 ls [])) : W p l e room_1 s m #[Value.ref b] below meth c H locs cells slots (lw_Z below #[Value.ref b] s) (F0 m 1409 ls []) := by
  obtain ⟨hx, hb, hr, hml, hown0, hts0, hX, hbl, hlocks, hgv⟩ := id C0
  have hown : s.vm.findClass RL = some m.cls := hown0
  have hts : ∀ w ∈ vsL, w.before #[Value.ref b] s = true := fun w h => hts0 w (vsL_in w h)
  have hbA : ¬ A b := fun h => absurd (hAs b h) (Nat.not_le.mpr hbl)
  obtain ⟨Sx, Sm, hsr, hJX, hJM, fq, hPo⟩ := hJ
  have hfx := xi_fact hJX
  have hfm := mi_fact hJM
  refine lv_aload_n hx hb dL_law_1409 rfl (lv_at hl 1 rfl) ?_
  refine lv_aload_n hx hb dL_law_1410 rfl (lv_at hl 0 rfl) ?_
  refine lv_iload hx hb dL_law_1411 (lv_at hl 4 rfl) ?_
  refine lv_iconst (v := 1) hx hb dL_law_1413 (by decide) ?_
  refine lv_iadd hx hb dL_law_1414 ?_
  refine lv_topi (fun y1 ey1 => ?_)
  obtain rfl : y1 = nI (7 * k + 1) := ey1.trans (nI_add (7 * k) 1)
  refine va_sld hx hb hX hbl hbA hS (vp_in_nI (n := 7 * k + 1) (by omega) (by omega)) dL_law_1415 ?_
  refine lv_aload_n hx hb dL_law_1416 rfl (lv_at hl 0 rfl) ?_
  refine lv_iload hx hb dL_law_1417 (lv_at hl 4 rfl) ?_
  refine lv_iconst (v := 2) hx hb dL_law_1419 (by decide) ?_
  refine lv_iadd hx hb dL_law_1420 ?_
  refine lv_topi (fun y2 ey2 => ?_)
  obtain rfl : y2 = nI (7 * k + 2) := ey2.trans (nI_add (7 * k) 2)
  refine va_sld hx hb hX hbl hbA hS (vp_in_nI (n := 7 * k + 2) (by omega) (by omega)) dL_law_1421 ?_
  refine lv_aload_n hx hb dL_law_1422 rfl (lv_at hl 0 rfl) ?_
  refine lv_iload hx hb dL_law_1423 (lv_at hl 4 rfl) ?_
  refine lv_iconst (v := 3) hx hb dL_law_1425 (by decide) ?_
  refine lv_iadd hx hb dL_law_1426 ?_
  refine lv_topi (fun y3 ey3 => ?_)
  obtain rfl : y3 = nI (7 * k + 3) := ey3.trans (nI_add (7 * k) 3)
  refine va_sld hx hb hX hbl hbA hS (vp_in_nI (n := 7 * k + 3) (by omega) (by omega)) dL_law_1427 ?_
  obtain ⟨fsr, hPr⟩ := xi_recv hJX
  refine va_calli (va_runV (As := [.int (xs (nI (7 * k + 1)).toNatClampNeg), .int (xs (nI (7 * k + 2)).toNatClampNeg), .int (xs (nI (7 * k + 3)).toNatClampNeg)]) (rest := []) ⟨hx, hb, hml, hown, hts⟩ (k_X8_latest l dC dI _ kI kB kQ xa XA Sx (xs (nI (7 * k + 1)).toNatClampNeg) (xs (nI (7 * k + 2)).toNatClampNeg) (xs (nI (7 * k + 3)).toNatClampNeg)) (cwV 3 hts gL_X8_latest rfl rfl rfl (by decide +kernel) ⟨Nat.le_of_ble_eq_true rfl, Nat.le_of_ble_eq_true rfl⟩) ⟨xB_bl, va_recv hK hPr (ci := 8) (q0 := 0) rfl rfl, xB_in hJX (k3_of hK)⟩ rfl rfl hl.1 rfl (lv_room (Nat.le_of_ble_eq_true rfl)) dL_law_1428 ⟨by show _ ≤ 601024; omega, by show _ ≤ 7293034; omega⟩) hS (fun q _ h => lx_A dis.1 hA hS q h) (lx_A dis.1 hA hS) (fun r4 u t H1 locs ht hvm hw hB hz1 hk1 hS => ?_)
  have hJM := mi_keep hJM (fun q h1 h2 => hk1 q h1 (lx_no dis.2.2.2.1 h1 h2))
  have hPo := lx_o hPo dis.2.2.2.2.1 hk1
  have hwx : xM_latest Sx (xs (nI (7 * k + 1)).toNatClampNeg) (xs (nI (7 * k + 2)).toNatClampNeg) (xs (nI (7 * k + 3)).toNatClampNeg) r4 u := hw
  have hJX : XInv (dC, dI) kI kB kQ xa XA u t.heap := hB
  generalize u = ux at hwx hJX
  rw [ht] at hJX
  clear hk1 hz1 ht hvm
  generalize H1 = H at hJX hJM hPo hS ⊢
  refine lv_pop hx hb dL_law_1431 rfl ?_
  refine lv_aload_n hx hb dL_law_1432 rfl (lv_at hl 2 rfl) ?_
  refine lv_aload_n hx hb dL_law_1433 rfl (lv_at hl 0 rfl) ?_
  refine lv_iload hx hb dL_law_1434 (lv_at hl 4 rfl) ?_
  refine lv_iconst (v := 1) hx hb dL_law_1436 (by decide) ?_
  refine lv_iadd hx hb dL_law_1437 ?_
  refine lv_topi (fun y5 ey5 => ?_)
  obtain rfl : y5 = nI (7 * k + 1) := ey5.trans (nI_add (7 * k) 1)
  refine va_sld hx hb hX hbl hbA hS (vp_in_nI (n := 7 * k + 1) (by omega) (by omega)) dL_law_1438 ?_
  refine lv_aload_n hx hb dL_law_1439 rfl (lv_at hl 0 rfl) ?_
  refine lv_iload hx hb dL_law_1440 (lv_at hl 4 rfl) ?_
  refine lv_iconst (v := 2) hx hb dL_law_1442 (by decide) ?_
  refine lv_iadd hx hb dL_law_1443 ?_
  refine lv_topi (fun y6 ey6 => ?_)
  obtain rfl : y6 = nI (7 * k + 2) := ey6.trans (nI_add (7 * k) 2)
  refine va_sld hx hb hX hbl hbA hS (vp_in_nI (n := 7 * k + 2) (by omega) (by omega)) dL_law_1444 ?_
  refine lv_aload_n hx hb dL_law_1445 rfl (lv_at hl 0 rfl) ?_
  refine lv_iload hx hb dL_law_1446 (lv_at hl 4 rfl) ?_
  refine lv_iconst (v := 3) hx hb dL_law_1448 (by decide) ?_
  refine lv_iadd hx hb dL_law_1449 ?_
  refine lv_topi (fun y7 ey7 => ?_)
  obtain rfl : y7 = nI (7 * k + 3) := ey7.trans (nI_add (7 * k) 3)
  refine va_sld hx hb hX hbl hbA hS (vp_in_nI (n := 7 * k + 3) (by omega) (by omega)) dL_law_1450 ?_
  obtain ⟨fsr, hPr⟩ := mi_recv hJM
  refine va_calli (va_runV (As := [.int (xs (nI (7 * k + 1)).toNatClampNeg), .int (xs (nI (7 * k + 2)).toNatClampNeg), .int (xs (nI (7 * k + 3)).toNatClampNeg)]) (rest := []) ⟨hx, hb, hml, hown, hts⟩ (k_X9_latest l dC dI _ kI kB kQ ma MA Sm (xs (nI (7 * k + 1)).toNatClampNeg) (xs (nI (7 * k + 2)).toNatClampNeg) (xs (nI (7 * k + 3)).toNatClampNeg)) (cwV 3 hts gL_X9_latest rfl rfl rfl (by decide +kernel) ⟨Nat.le_of_ble_eq_true rfl, Nat.le_of_ble_eq_true rfl⟩) ⟨xB_bl, va_recv hK hPr (ci := 9) (q0 := 0) rfl rfl, xB_in hJM (k3_of hK)⟩ rfl rfl hl.1 rfl (lv_room (Nat.le_of_ble_eq_true rfl)) dL_law_1451 ⟨by show _ ≤ 601024; omega, by show _ ≤ 7293034; omega⟩) hS (fun q _ h => lx_A dis.2.1 hA hS q h) (lx_A dis.2.1 hA hS) (fun r8 u t H1 locs ht hvm hw hB hz1 hk1 hS => ?_)
  have hJX := xi_keep hJX (fun q h1 h2 => hk1 q h1 (lx_no (fun q h g => dis.2.2.2.1 q g h) h1 h2))
  have hPo := lx_o hPo dis.2.2.2.2.2 hk1
  have hwm : mM_latest Sm (xs (nI (7 * k + 1)).toNatClampNeg) (xs (nI (7 * k + 2)).toNatClampNeg) (xs (nI (7 * k + 3)).toNatClampNeg) r8 u := hw
  have hJM : MInv (dC, dI) kI kB ma MA u t.heap := hB
  generalize u = um at hwm hJM
  have hsr1 := sr_latest hsr hfx hfm hwx hwm
  rw [ht] at hJM
  clear hk1 hz1 ht hvm
  generalize H1 = H at hJX hJM hPo hS ⊢
  refine lv_pop hx hb dL_law_1454 rfl ?_
  refine lv_goto (tgt := 1697) hx hb dL_law_1455 (by decide) ?_
  refine W.widen (k := cells + 1) (n := slots + 6) (by omega) (by omega) ?_
  exact hT _ _ _ ⟨ux, um, hsr1, hJX, hJM, fq, hPo⟩ hS (lv_sub hl [0, 1, 2, 3, 4] rfl)
set_option maxHeartbeats 4000000 in
set_option maxRecDepth 100000 in
theorem law_case_32 {p : Program} {e : Env} {s : State} {m : MethodId} {below : List Frame} {meth : Method} {c : Code} (l : Launch) (hlt : l.stackTraces = false) {b L : Nat} {xs : Nat → Int32} (C0 : lw_At p s m meth c b L xs) {A : Nat → Prop} (hA : ∀ q : Nat, s.heap.size ≤ q → A q) (hAs : ∀ q : Nat, A q → s.heap.size ≤ q) (hY : sy_E A s s.heap) {dC : Nat → ClassId} {dI : Nat → Nat → Nat} {kI kB kQ kL : ClassId} (hK : va_K (dC, dI) vwCl (k3 kI kB kQ ++ [(kL, .long)]) s) {xa ma qo : Nat} {XA MA : Nat → Prop} (dis : lw_dis XA MA qo A) (hL : L ≤ 3584) (k : Nat) (hk : 7 * k + 7 ≤ L) {H : Heap} {locs : List Loc} {ls : Array Slot} (hJ : LInv (dC, dI) kI kB kQ kL xa ma qo XA MA H) (hS : va_S A s.heap H locs) (hl : lv_has ls 7 [(0, .ref b), (1, .ref xa), (2, .ref ma), (3, .ref qo), (4, .int (nI (7 * k)))]) {cells slots : Nat} (hc : cells ≤ 600000) (hs : slots ≤ 7200000) (hT : ∀ (H : Heap) (locs : List Loc) (ls : Array Slot), LInv (dC, dI) kI kB kQ kL xa ma qo XA MA H → va_S A s.heap H locs → lv_has ls 7 [(0, .ref b), (1, .ref xa), (2, .ref ma), (3, .ref qo), (4, .int (nI (7 * k)))] → W p l e room_1 s m #[Value.ref b] below meth c H locs (cells + 1) (slots + 6) (lw_Z below #[Value.ref b] s) (F0 m 1697 ls [])) : W p l e room_1 s m #[Value.ref b] below meth c H locs cells slots (lw_Z below #[Value.ref b] s) (F0 m 1458 ls []) := by
  obtain ⟨hx, hb, hr, hml, hown0, hts0, hX, hbl, hlocks, hgv⟩ := id C0
  have hown : s.vm.findClass RL = some m.cls := hown0
  have hts : ∀ w ∈ vsL, w.before #[Value.ref b] s = true := fun w h => hts0 w (vsL_in w h)
  have hbA : ¬ A b := fun h => absurd (hAs b h) (Nat.not_le.mpr hbl)
  obtain ⟨Sx, Sm, hsr, hJX, hJM, fq, hPo⟩ := hJ
  have hfx := xi_fact hJX
  have hfm := mi_fact hJM
  refine lv_aload_n hx hb dL_law_1458 rfl (lv_at hl 1 rfl) ?_
  refine lv_aload_n hx hb dL_law_1459 rfl (lv_at hl 0 rfl) ?_
  refine lv_iload hx hb dL_law_1460 (lv_at hl 4 rfl) ?_
  refine lv_iconst (v := 1) hx hb dL_law_1462 (by decide) ?_
  refine lv_iadd hx hb dL_law_1463 ?_
  refine lv_topi (fun y1 ey1 => ?_)
  obtain rfl : y1 = nI (7 * k + 1) := ey1.trans (nI_add (7 * k) 1)
  refine va_sld hx hb hX hbl hbA hS (vp_in_nI (n := 7 * k + 1) (by omega) (by omega)) dL_law_1464 ?_
  refine lv_aload_n hx hb dL_law_1465 rfl (lv_at hl 0 rfl) ?_
  refine lv_iload hx hb dL_law_1466 (lv_at hl 4 rfl) ?_
  refine lv_iconst (v := 2) hx hb dL_law_1468 (by decide) ?_
  refine lv_iadd hx hb dL_law_1469 ?_
  refine lv_topi (fun y2 ey2 => ?_)
  obtain rfl : y2 = nI (7 * k + 2) := ey2.trans (nI_add (7 * k) 2)
  refine va_sld hx hb hX hbl hbA hS (vp_in_nI (n := 7 * k + 2) (by omega) (by omega)) dL_law_1470 ?_
  obtain ⟨fsr, hPr⟩ := xi_recv hJX
  refine va_calli (va_runV (As := [.int (xs (nI (7 * k + 1)).toNatClampNeg), .int (xs (nI (7 * k + 2)).toNatClampNeg)]) (rest := []) ⟨hx, hb, hml, hown, hts⟩ (k_X8_soonest l dC dI _ kI kB kQ xa XA Sx (xs (nI (7 * k + 1)).toNatClampNeg) (xs (nI (7 * k + 2)).toNatClampNeg)) (cwV 2 hts gL_X8_soonest rfl rfl rfl (by decide +kernel) ⟨Nat.le_of_ble_eq_true rfl, Nat.le_of_ble_eq_true rfl⟩) ⟨xB_bl, va_recv hK hPr (ci := 8) (q0 := 0) rfl rfl, xB_in hJX (k3_of hK)⟩ rfl rfl hl.1 rfl (lv_room (Nat.le_of_ble_eq_true rfl)) dL_law_1471 ⟨by show _ ≤ 601024; omega, by show _ ≤ 7293034; omega⟩) hS (fun q _ h => lx_A dis.1 hA hS q h) (lx_A dis.1 hA hS) (fun r3 u t H1 locs ht hvm hw hB hz1 hk1 hS => ?_)
  have hJM := mi_keep hJM (fun q h1 h2 => hk1 q h1 (lx_no dis.2.2.2.1 h1 h2))
  have hPo := lx_o hPo dis.2.2.2.2.1 hk1
  have hwx : xM_soonest Sx (xs (nI (7 * k + 1)).toNatClampNeg) (xs (nI (7 * k + 2)).toNatClampNeg) r3 u := hw
  have hJX : XInv (dC, dI) kI kB kQ xa XA u t.heap := hB
  generalize u = ux at hwx hJX
  rw [ht] at hJX
  clear hk1 hz1 ht hvm
  generalize H1 = H at hJX hJM hPo hS ⊢
  refine lv_pop hx hb dL_law_1474 rfl ?_
  refine lv_aload_n hx hb dL_law_1475 rfl (lv_at hl 2 rfl) ?_
  refine lv_aload_n hx hb dL_law_1476 rfl (lv_at hl 0 rfl) ?_
  refine lv_iload hx hb dL_law_1477 (lv_at hl 4 rfl) ?_
  refine lv_iconst (v := 1) hx hb dL_law_1479 (by decide) ?_
  refine lv_iadd hx hb dL_law_1480 ?_
  refine lv_topi (fun y4 ey4 => ?_)
  obtain rfl : y4 = nI (7 * k + 1) := ey4.trans (nI_add (7 * k) 1)
  refine va_sld hx hb hX hbl hbA hS (vp_in_nI (n := 7 * k + 1) (by omega) (by omega)) dL_law_1481 ?_
  refine lv_aload_n hx hb dL_law_1482 rfl (lv_at hl 0 rfl) ?_
  refine lv_iload hx hb dL_law_1483 (lv_at hl 4 rfl) ?_
  refine lv_iconst (v := 2) hx hb dL_law_1485 (by decide) ?_
  refine lv_iadd hx hb dL_law_1486 ?_
  refine lv_topi (fun y5 ey5 => ?_)
  obtain rfl : y5 = nI (7 * k + 2) := ey5.trans (nI_add (7 * k) 2)
  refine va_sld hx hb hX hbl hbA hS (vp_in_nI (n := 7 * k + 2) (by omega) (by omega)) dL_law_1487 ?_
  obtain ⟨fsr, hPr⟩ := mi_recv hJM
  refine va_calli (va_runV (As := [.int (xs (nI (7 * k + 1)).toNatClampNeg), .int (xs (nI (7 * k + 2)).toNatClampNeg)]) (rest := []) ⟨hx, hb, hml, hown, hts⟩ (k_X9_soonest l dC dI _ kI kB kQ ma MA Sm (xs (nI (7 * k + 1)).toNatClampNeg) (xs (nI (7 * k + 2)).toNatClampNeg)) (cwV 2 hts gL_X9_soonest rfl rfl rfl (by decide +kernel) ⟨Nat.le_of_ble_eq_true rfl, Nat.le_of_ble_eq_true rfl⟩) ⟨xB_bl, va_recv hK hPr (ci := 9) (q0 := 0) rfl rfl, xB_in hJM (k3_of hK)⟩ rfl rfl hl.1 rfl (lv_room (Nat.le_of_ble_eq_true rfl)) dL_law_1488 ⟨by show _ ≤ 601024; omega, by show _ ≤ 7293034; omega⟩) hS (fun q _ h => lx_A dis.2.1 hA hS q h) (lx_A dis.2.1 hA hS) (fun r6 u t H1 locs ht hvm hw hB hz1 hk1 hS => ?_)
  have hJX := xi_keep hJX (fun q h1 h2 => hk1 q h1 (lx_no (fun q h g => dis.2.2.2.1 q g h) h1 h2))
  have hPo := lx_o hPo dis.2.2.2.2.2 hk1
  have hwm : mM_soonest Sm (xs (nI (7 * k + 1)).toNatClampNeg) (xs (nI (7 * k + 2)).toNatClampNeg) r6 u := hw
  have hJM : MInv (dC, dI) kI kB ma MA u t.heap := hB
  generalize u = um at hwm hJM
  have hsr1 := sr_soonest hsr hfx hfm hwx hwm
  rw [ht] at hJM
  clear hk1 hz1 ht hvm
  generalize H1 = H at hJX hJM hPo hS ⊢
  refine lv_pop hx hb dL_law_1491 rfl ?_
  refine lv_goto (tgt := 1697) hx hb dL_law_1492 (by decide) ?_
  refine W.widen (k := cells + 1) (n := slots + 6) (by omega) (by omega) ?_
  exact hT _ _ _ ⟨ux, um, hsr1, hJX, hJM, fq, hPo⟩ hS (lv_sub hl [0, 1, 2, 3, 4] rfl)
set_option maxHeartbeats 4000000 in
set_option maxRecDepth 100000 in
theorem law_case_33 {p : Program} {e : Env} {s : State} {m : MethodId} {below : List Frame} {meth : Method} {c : Code} (l : Launch) (hlt : l.stackTraces = false) {b L : Nat} {xs : Nat → Int32} (C0 : lw_At p s m meth c b L xs) {A : Nat → Prop} (hA : ∀ q : Nat, s.heap.size ≤ q → A q) (hAs : ∀ q : Nat, A q → s.heap.size ≤ q) (hY : sy_E A s s.heap) {dC : Nat → ClassId} {dI : Nat → Nat → Nat} {kI kB kQ kL : ClassId} (hK : va_K (dC, dI) vwCl (k3 kI kB kQ ++ [(kL, .long)]) s) {xa ma qo : Nat} {XA MA : Nat → Prop} (dis : lw_dis XA MA qo A) (hL : L ≤ 3584) (k : Nat) (hk : 7 * k + 7 ≤ L) {H : Heap} {locs : List Loc} {ls : Array Slot} (hJ : LInv (dC, dI) kI kB kQ kL xa ma qo XA MA H) (hS : va_S A s.heap H locs) (hl : lv_has ls 7 [(0, .ref b), (1, .ref xa), (2, .ref ma), (3, .ref qo), (4, .int (nI (7 * k)))]) {cells slots : Nat} (hc : cells ≤ 600000) (hs : slots ≤ 7200000) (hT : ∀ (H : Heap) (locs : List Loc) (ls : Array Slot), LInv (dC, dI) kI kB kQ kL xa ma qo XA MA H → va_S A s.heap H locs → lv_has ls 7 [(0, .ref b), (1, .ref xa), (2, .ref ma), (3, .ref qo), (4, .int (nI (7 * k)))] → W p l e room_1 s m #[Value.ref b] below meth c H locs (cells + 1) (slots + 6) (lw_Z below #[Value.ref b] s) (F0 m 1697 ls [])) : W p l e room_1 s m #[Value.ref b] below meth c H locs cells slots (lw_Z below #[Value.ref b] s) (F0 m 1495 ls []) := by
  obtain ⟨hx, hb, hr, hml, hown0, hts0, hX, hbl, hlocks, hgv⟩ := id C0
  have hown : s.vm.findClass RL = some m.cls := hown0
  have hts : ∀ w ∈ vsL, w.before #[Value.ref b] s = true := fun w h => hts0 w (vsL_in w h)
  have hbA : ¬ A b := fun h => absurd (hAs b h) (Nat.not_le.mpr hbl)
  obtain ⟨Sx, Sm, hsr, hJX, hJM, fq, hPo⟩ := hJ
  have hfx := xi_fact hJX
  have hfm := mi_fact hJM
  refine lv_aload_n hx hb dL_law_1495 rfl (lv_at hl 1 rfl) ?_
  refine lv_aload_n hx hb dL_law_1496 rfl (lv_at hl 0 rfl) ?_
  refine lv_iload hx hb dL_law_1497 (lv_at hl 4 rfl) ?_
  refine lv_iconst (v := 1) hx hb dL_law_1499 (by decide) ?_
  refine lv_iadd hx hb dL_law_1500 ?_
  refine lv_topi (fun y1 ey1 => ?_)
  obtain rfl : y1 = nI (7 * k + 1) := ey1.trans (nI_add (7 * k) 1)
  refine va_sld hx hb hX hbl hbA hS (vp_in_nI (n := 7 * k + 1) (by omega) (by omega)) dL_law_1501 ?_
  refine lv_aload_n hx hb dL_law_1502 rfl (lv_at hl 0 rfl) ?_
  refine lv_iload hx hb dL_law_1503 (lv_at hl 4 rfl) ?_
  refine lv_iconst (v := 2) hx hb dL_law_1505 (by decide) ?_
  refine lv_iadd hx hb dL_law_1506 ?_
  refine lv_topi (fun y2 ey2 => ?_)
  obtain rfl : y2 = nI (7 * k + 2) := ey2.trans (nI_add (7 * k) 2)
  refine va_sld hx hb hX hbl hbA hS (vp_in_nI (n := 7 * k + 2) (by omega) (by omega)) dL_law_1507 ?_
  refine lv_aload_n hx hb dL_law_1508 rfl (lv_at hl 0 rfl) ?_
  refine lv_iload hx hb dL_law_1509 (lv_at hl 4 rfl) ?_
  refine lv_iconst (v := 3) hx hb dL_law_1511 (by decide) ?_
  refine lv_iadd hx hb dL_law_1512 ?_
  refine lv_topi (fun y3 ey3 => ?_)
  obtain rfl : y3 = nI (7 * k + 3) := ey3.trans (nI_add (7 * k) 3)
  refine va_sld hx hb hX hbl hbA hS (vp_in_nI (n := 7 * k + 3) (by omega) (by omega)) dL_law_1513 ?_
  refine lv_aload_n hx hb dL_law_1514 rfl (lv_at hl 0 rfl) ?_
  refine lv_iload hx hb dL_law_1515 (lv_at hl 4 rfl) ?_
  refine lv_iconst (v := 4) hx hb dL_law_1517 (by decide) ?_
  refine lv_iadd hx hb dL_law_1518 ?_
  refine lv_topi (fun y4 ey4 => ?_)
  obtain rfl : y4 = nI (7 * k + 4) := ey4.trans (nI_add (7 * k) 4)
  refine va_sld hx hb hX hbl hbA hS (vp_in_nI (n := 7 * k + 4) (by omega) (by omega)) dL_law_1519 ?_
  obtain ⟨fsr, hPr⟩ := xi_recv hJX
  refine va_calli (va_runV (As := [.int (xs (nI (7 * k + 1)).toNatClampNeg), .int (xs (nI (7 * k + 2)).toNatClampNeg), .int (xs (nI (7 * k + 3)).toNatClampNeg), .int (xs (nI (7 * k + 4)).toNatClampNeg)]) (rest := []) ⟨hx, hb, hml, hown, hts⟩ (k_X8_lets l dC dI _ kI kB kQ xa XA Sx (xs (nI (7 * k + 1)).toNatClampNeg) (xs (nI (7 * k + 2)).toNatClampNeg) (xs (nI (7 * k + 3)).toNatClampNeg) (xs (nI (7 * k + 4)).toNatClampNeg)) (cwV 4 hts gL_X8_lets rfl rfl rfl (by decide +kernel) ⟨Nat.le_of_ble_eq_true rfl, Nat.le_of_ble_eq_true rfl⟩) ⟨xB_bl, va_recv hK hPr (ci := 8) (q0 := 0) rfl rfl, xB_in hJX (k3_of hK)⟩ rfl rfl hl.1 rfl (lv_room (Nat.le_of_ble_eq_true rfl)) dL_law_1520 ⟨by show _ ≤ 601024; omega, by show _ ≤ 7293034; omega⟩) hS (fun q _ h => lx_A dis.1 hA hS q h) (lx_A dis.1 hA hS) (fun r5 u t H1 locs ht hvm hw hB hz1 hk1 hS => ?_)
  have hJM := mi_keep hJM (fun q h1 h2 => hk1 q h1 (lx_no dis.2.2.2.1 h1 h2))
  have hPo := lx_o hPo dis.2.2.2.2.1 hk1
  have hwx : xM_lets Sx (xs (nI (7 * k + 1)).toNatClampNeg) (xs (nI (7 * k + 2)).toNatClampNeg) (xs (nI (7 * k + 3)).toNatClampNeg) (xs (nI (7 * k + 4)).toNatClampNeg) r5 u := hw
  have hJX : XInv (dC, dI) kI kB kQ xa XA u t.heap := hB
  generalize u = ux at hwx hJX
  rw [ht] at hJX
  clear hk1 hz1 ht hvm
  generalize H1 = H at hJX hJM hPo hS ⊢
  refine lv_pop hx hb dL_law_1523 rfl ?_
  refine lv_aload_n hx hb dL_law_1524 rfl (lv_at hl 2 rfl) ?_
  refine lv_aload_n hx hb dL_law_1525 rfl (lv_at hl 0 rfl) ?_
  refine lv_iload hx hb dL_law_1526 (lv_at hl 4 rfl) ?_
  refine lv_iconst (v := 1) hx hb dL_law_1528 (by decide) ?_
  refine lv_iadd hx hb dL_law_1529 ?_
  refine lv_topi (fun y6 ey6 => ?_)
  obtain rfl : y6 = nI (7 * k + 1) := ey6.trans (nI_add (7 * k) 1)
  refine va_sld hx hb hX hbl hbA hS (vp_in_nI (n := 7 * k + 1) (by omega) (by omega)) dL_law_1530 ?_
  refine lv_aload_n hx hb dL_law_1531 rfl (lv_at hl 0 rfl) ?_
  refine lv_iload hx hb dL_law_1532 (lv_at hl 4 rfl) ?_
  refine lv_iconst (v := 2) hx hb dL_law_1534 (by decide) ?_
  refine lv_iadd hx hb dL_law_1535 ?_
  refine lv_topi (fun y7 ey7 => ?_)
  obtain rfl : y7 = nI (7 * k + 2) := ey7.trans (nI_add (7 * k) 2)
  refine va_sld hx hb hX hbl hbA hS (vp_in_nI (n := 7 * k + 2) (by omega) (by omega)) dL_law_1536 ?_
  refine lv_aload_n hx hb dL_law_1537 rfl (lv_at hl 0 rfl) ?_
  refine lv_iload hx hb dL_law_1538 (lv_at hl 4 rfl) ?_
  refine lv_iconst (v := 3) hx hb dL_law_1540 (by decide) ?_
  refine lv_iadd hx hb dL_law_1541 ?_
  refine lv_topi (fun y8 ey8 => ?_)
  obtain rfl : y8 = nI (7 * k + 3) := ey8.trans (nI_add (7 * k) 3)
  refine va_sld hx hb hX hbl hbA hS (vp_in_nI (n := 7 * k + 3) (by omega) (by omega)) dL_law_1542 ?_
  refine lv_aload_n hx hb dL_law_1543 rfl (lv_at hl 0 rfl) ?_
  refine lv_iload hx hb dL_law_1544 (lv_at hl 4 rfl) ?_
  refine lv_iconst (v := 4) hx hb dL_law_1546 (by decide) ?_
  refine lv_iadd hx hb dL_law_1547 ?_
  refine lv_topi (fun y9 ey9 => ?_)
  obtain rfl : y9 = nI (7 * k + 4) := ey9.trans (nI_add (7 * k) 4)
  refine va_sld hx hb hX hbl hbA hS (vp_in_nI (n := 7 * k + 4) (by omega) (by omega)) dL_law_1548 ?_
  obtain ⟨fsr, hPr⟩ := mi_recv hJM
  refine va_calli (va_runV (As := [.int (xs (nI (7 * k + 1)).toNatClampNeg), .int (xs (nI (7 * k + 2)).toNatClampNeg), .int (xs (nI (7 * k + 3)).toNatClampNeg), .int (xs (nI (7 * k + 4)).toNatClampNeg)]) (rest := []) ⟨hx, hb, hml, hown, hts⟩ (k_X9_lets l dC dI _ kI kB kQ ma MA Sm (xs (nI (7 * k + 1)).toNatClampNeg) (xs (nI (7 * k + 2)).toNatClampNeg) (xs (nI (7 * k + 3)).toNatClampNeg) (xs (nI (7 * k + 4)).toNatClampNeg)) (cwV 4 hts gL_X9_lets rfl rfl rfl (by decide +kernel) ⟨Nat.le_of_ble_eq_true rfl, Nat.le_of_ble_eq_true rfl⟩) ⟨xB_bl, va_recv hK hPr (ci := 9) (q0 := 0) rfl rfl, xB_in hJM (k3_of hK)⟩ rfl rfl hl.1 rfl (lv_room (Nat.le_of_ble_eq_true rfl)) dL_law_1549 ⟨by show _ ≤ 601024; omega, by show _ ≤ 7293034; omega⟩) hS (fun q _ h => lx_A dis.2.1 hA hS q h) (lx_A dis.2.1 hA hS) (fun r10 u t H1 locs ht hvm hw hB hz1 hk1 hS => ?_)
  have hJX := xi_keep hJX (fun q h1 h2 => hk1 q h1 (lx_no (fun q h g => dis.2.2.2.1 q g h) h1 h2))
  have hPo := lx_o hPo dis.2.2.2.2.2 hk1
  have hwm : mM_lets Sm (xs (nI (7 * k + 1)).toNatClampNeg) (xs (nI (7 * k + 2)).toNatClampNeg) (xs (nI (7 * k + 3)).toNatClampNeg) (xs (nI (7 * k + 4)).toNatClampNeg) r10 u := hw
  have hJM : MInv (dC, dI) kI kB ma MA u t.heap := hB
  generalize u = um at hwm hJM
  have hsr1 := sr_lets hsr hfx hfm hwx hwm
  rw [ht] at hJM
  clear hk1 hz1 ht hvm
  generalize H1 = H at hJX hJM hPo hS ⊢
  refine lv_pop hx hb dL_law_1552 rfl ?_
  refine lv_goto (tgt := 1697) hx hb dL_law_1553 (by decide) ?_
  refine W.widen (k := cells + 1) (n := slots + 6) (by omega) (by omega) ?_
  exact hT _ _ _ ⟨ux, um, hsr1, hJX, hJM, fq, hPo⟩ hS (lv_sub hl [0, 1, 2, 3, 4] rfl)
set_option maxHeartbeats 4000000 in
set_option maxRecDepth 100000 in
theorem law_case_34 {p : Program} {e : Env} {s : State} {m : MethodId} {below : List Frame} {meth : Method} {c : Code} (l : Launch) (hlt : l.stackTraces = false) {b L : Nat} {xs : Nat → Int32} (C0 : lw_At p s m meth c b L xs) {A : Nat → Prop} (hA : ∀ q : Nat, s.heap.size ≤ q → A q) (hAs : ∀ q : Nat, A q → s.heap.size ≤ q) (hY : sy_E A s s.heap) {dC : Nat → ClassId} {dI : Nat → Nat → Nat} {kI kB kQ kL : ClassId} (hK : va_K (dC, dI) vwCl (k3 kI kB kQ ++ [(kL, .long)]) s) {xa ma qo : Nat} {XA MA : Nat → Prop} (dis : lw_dis XA MA qo A) (hL : L ≤ 3584) (k : Nat) (hk : 7 * k + 7 ≤ L) {H : Heap} {locs : List Loc} {ls : Array Slot} (hJ : LInv (dC, dI) kI kB kQ kL xa ma qo XA MA H) (hS : va_S A s.heap H locs) (hl : lv_has ls 7 [(0, .ref b), (1, .ref xa), (2, .ref ma), (3, .ref qo), (4, .int (nI (7 * k)))]) {cells slots : Nat} (hc : cells ≤ 600000) (hs : slots ≤ 7200000) (hT : ∀ (H : Heap) (locs : List Loc) (ls : Array Slot), LInv (dC, dI) kI kB kQ kL xa ma qo XA MA H → va_S A s.heap H locs → lv_has ls 7 [(0, .ref b), (1, .ref xa), (2, .ref ma), (3, .ref qo), (4, .int (nI (7 * k)))] → W p l e room_1 s m #[Value.ref b] below meth c H locs (cells + 1) (slots + 6) (lw_Z below #[Value.ref b] s) (F0 m 1697 ls [])) : W p l e room_1 s m #[Value.ref b] below meth c H locs cells slots (lw_Z below #[Value.ref b] s) (F0 m 1556 ls []) := by
  obtain ⟨hx, hb, hr, hml, hown0, hts0, hX, hbl, hlocks, hgv⟩ := id C0
  have hown : s.vm.findClass RL = some m.cls := hown0
  have hts : ∀ w ∈ vsL, w.before #[Value.ref b] s = true := fun w h => hts0 w (vsL_in w h)
  have hbA : ¬ A b := fun h => absurd (hAs b h) (Nat.not_le.mpr hbl)
  obtain ⟨Sx, Sm, hsr, hJX, hJM, fq, hPo⟩ := hJ
  have hfx := xi_fact hJX
  have hfm := mi_fact hJM
  refine lv_aload_n hx hb dL_law_1556 rfl (lv_at hl 1 rfl) ?_
  obtain ⟨fsr, hPr⟩ := xi_recv hJX
  refine va_calli (va_runV (As := []) (rest := []) ⟨hx, hb, hml, hown, hts⟩ (k_X8_begin l dC dI _ kI kB kQ xa XA Sx ) (cwV 0 hts gL_X8_begin rfl rfl rfl (by decide +kernel) ⟨Nat.le_of_ble_eq_true rfl, Nat.le_of_ble_eq_true rfl⟩) ⟨xB_bl, va_recv hK hPr (ci := 8) (q0 := 0) rfl rfl, xB_in hJX (k3_of hK)⟩ rfl rfl hl.1 rfl (lv_room (Nat.le_of_ble_eq_true rfl)) dL_law_1557 ⟨by show _ ≤ 601024; omega, by show _ ≤ 7293034; omega⟩) hS (fun q _ h => lx_A dis.1 hA hS q h) (lx_A dis.1 hA hS) (fun r1 u t H1 locs ht hvm hw hB hz1 hk1 hS => ?_)
  have hJM := mi_keep hJM (fun q h1 h2 => hk1 q h1 (lx_no dis.2.2.2.1 h1 h2))
  have hPo := lx_o hPo dis.2.2.2.2.1 hk1
  have hwx : xM_begin Sx  r1 u := hw
  have hJX : XInv (dC, dI) kI kB kQ xa XA u t.heap := hB
  generalize u = ux at hwx hJX
  rw [ht] at hJX
  clear hk1 hz1 ht hvm
  generalize H1 = H at hJX hJM hPo hS ⊢
  refine lv_pop hx hb dL_law_1560 rfl ?_
  refine lv_aload_n hx hb dL_law_1561 rfl (lv_at hl 2 rfl) ?_
  obtain ⟨fsr, hPr⟩ := mi_recv hJM
  refine va_calli (va_runV (As := []) (rest := []) ⟨hx, hb, hml, hown, hts⟩ (k_X9_begin l dC dI _ kI kB kQ ma MA Sm ) (cwV 0 hts gL_X9_begin rfl rfl rfl (by decide +kernel) ⟨Nat.le_of_ble_eq_true rfl, Nat.le_of_ble_eq_true rfl⟩) ⟨xB_bl, va_recv hK hPr (ci := 9) (q0 := 0) rfl rfl, xB_in hJM (k3_of hK)⟩ rfl rfl hl.1 rfl (lv_room (Nat.le_of_ble_eq_true rfl)) dL_law_1562 ⟨by show _ ≤ 601024; omega, by show _ ≤ 7293034; omega⟩) hS (fun q _ h => lx_A dis.2.1 hA hS q h) (lx_A dis.2.1 hA hS) (fun r2 u t H1 locs ht hvm hw hB hz1 hk1 hS => ?_)
  have hJX := xi_keep hJX (fun q h1 h2 => hk1 q h1 (lx_no (fun q h g => dis.2.2.2.1 q g h) h1 h2))
  have hPo := lx_o hPo dis.2.2.2.2.2 hk1
  have hwm : mM_begin Sm  r2 u := hw
  have hJM : MInv (dC, dI) kI kB ma MA u t.heap := hB
  generalize u = um at hwm hJM
  have hsr1 := sr_begin hsr hfx hfm hwx hwm
  rw [ht] at hJM
  clear hk1 hz1 ht hvm
  generalize H1 = H at hJX hJM hPo hS ⊢
  refine lv_pop hx hb dL_law_1565 rfl ?_
  refine lv_goto (tgt := 1697) hx hb dL_law_1566 (by decide) ?_
  refine W.widen (k := cells + 1) (n := slots + 6) (by omega) (by omega) ?_
  exact hT _ _ _ ⟨ux, um, hsr1, hJX, hJM, fq, hPo⟩ hS (lv_sub hl [0, 1, 2, 3, 4] rfl)
set_option maxHeartbeats 4000000 in
set_option maxRecDepth 100000 in
theorem law_case_35 {p : Program} {e : Env} {s : State} {m : MethodId} {below : List Frame} {meth : Method} {c : Code} (l : Launch) (hlt : l.stackTraces = false) {b L : Nat} {xs : Nat → Int32} (C0 : lw_At p s m meth c b L xs) {A : Nat → Prop} (hA : ∀ q : Nat, s.heap.size ≤ q → A q) (hAs : ∀ q : Nat, A q → s.heap.size ≤ q) (hY : sy_E A s s.heap) {dC : Nat → ClassId} {dI : Nat → Nat → Nat} {kI kB kQ kL : ClassId} (hK : va_K (dC, dI) vwCl (k3 kI kB kQ ++ [(kL, .long)]) s) {xa ma qo : Nat} {XA MA : Nat → Prop} (dis : lw_dis XA MA qo A) (hL : L ≤ 3584) (k : Nat) (hk : 7 * k + 7 ≤ L) {H : Heap} {locs : List Loc} {ls : Array Slot} (hJ : LInv (dC, dI) kI kB kQ kL xa ma qo XA MA H) (hS : va_S A s.heap H locs) (hl : lv_has ls 7 [(0, .ref b), (1, .ref xa), (2, .ref ma), (3, .ref qo), (4, .int (nI (7 * k)))]) {cells slots : Nat} (hc : cells ≤ 600000) (hs : slots ≤ 7200000) (hT : ∀ (H : Heap) (locs : List Loc) (ls : Array Slot), LInv (dC, dI) kI kB kQ kL xa ma qo XA MA H → va_S A s.heap H locs → lv_has ls 7 [(0, .ref b), (1, .ref xa), (2, .ref ma), (3, .ref qo), (4, .int (nI (7 * k)))] → W p l e room_1 s m #[Value.ref b] below meth c H locs (cells + 1) (slots + 6) (lw_Z below #[Value.ref b] s) (F0 m 1697 ls [])) : W p l e room_1 s m #[Value.ref b] below meth c H locs cells slots (lw_Z below #[Value.ref b] s) (F0 m 1569 ls []) := by
  obtain ⟨hx, hb, hr, hml, hown0, hts0, hX, hbl, hlocks, hgv⟩ := id C0
  have hown : s.vm.findClass RL = some m.cls := hown0
  have hts : ∀ w ∈ vsL, w.before #[Value.ref b] s = true := fun w h => hts0 w (vsL_in w h)
  have hbA : ¬ A b := fun h => absurd (hAs b h) (Nat.not_le.mpr hbl)
  obtain ⟨Sx, Sm, hsr, hJX, hJM, fq, hPo⟩ := hJ
  have hfx := xi_fact hJX
  have hfm := mi_fact hJM
  refine lv_aload_n hx hb dL_law_1569 rfl (lv_at hl 1 rfl) ?_
  refine lv_aload_n hx hb dL_law_1570 rfl (lv_at hl 0 rfl) ?_
  refine lv_iload hx hb dL_law_1571 (lv_at hl 4 rfl) ?_
  refine lv_iconst (v := 1) hx hb dL_law_1573 (by decide) ?_
  refine lv_iadd hx hb dL_law_1574 ?_
  refine lv_topi (fun y1 ey1 => ?_)
  obtain rfl : y1 = nI (7 * k + 1) := ey1.trans (nI_add (7 * k) 1)
  refine va_sld hx hb hX hbl hbA hS (vp_in_nI (n := 7 * k + 1) (by omega) (by omega)) dL_law_1575 ?_
  obtain ⟨fsr, hPr⟩ := xi_recv hJX
  refine va_calli (va_runV (As := [.int (xs (nI (7 * k + 1)).toNatClampNeg)]) (rest := []) ⟨hx, hb, hml, hown, hts⟩ (k_X8_waits l dC dI _ kI kB kQ xa XA Sx (xs (nI (7 * k + 1)).toNatClampNeg)) (cwV 1 hts gL_X8_waits rfl rfl rfl (by decide +kernel) ⟨Nat.le_of_ble_eq_true rfl, Nat.le_of_ble_eq_true rfl⟩) ⟨xB_bl, va_recv hK hPr (ci := 8) (q0 := 0) rfl rfl, xB_in hJX (k3_of hK)⟩ rfl rfl hl.1 rfl (lv_room (Nat.le_of_ble_eq_true rfl)) dL_law_1576 ⟨by show _ ≤ 601024; omega, by show _ ≤ 7293034; omega⟩) hS (fun q _ h => lx_A dis.1 hA hS q h) (lx_A dis.1 hA hS) (fun r2 u t H1 locs ht hvm hw hB hz1 hk1 hS => ?_)
  have hJM := mi_keep hJM (fun q h1 h2 => hk1 q h1 (lx_no dis.2.2.2.1 h1 h2))
  have hPo := lx_o hPo dis.2.2.2.2.1 hk1
  have hwx : xM_waits Sx (xs (nI (7 * k + 1)).toNatClampNeg) r2 u := hw
  have hJX : XInv (dC, dI) kI kB kQ xa XA u t.heap := hB
  generalize u = ux at hwx hJX
  rw [ht] at hJX
  clear hk1 hz1 ht hvm
  generalize H1 = H at hJX hJM hPo hS ⊢
  refine lv_pop hx hb dL_law_1579 rfl ?_
  refine lv_aload_n hx hb dL_law_1580 rfl (lv_at hl 2 rfl) ?_
  refine lv_aload_n hx hb dL_law_1581 rfl (lv_at hl 0 rfl) ?_
  refine lv_iload hx hb dL_law_1582 (lv_at hl 4 rfl) ?_
  refine lv_iconst (v := 1) hx hb dL_law_1584 (by decide) ?_
  refine lv_iadd hx hb dL_law_1585 ?_
  refine lv_topi (fun y3 ey3 => ?_)
  obtain rfl : y3 = nI (7 * k + 1) := ey3.trans (nI_add (7 * k) 1)
  refine va_sld hx hb hX hbl hbA hS (vp_in_nI (n := 7 * k + 1) (by omega) (by omega)) dL_law_1586 ?_
  obtain ⟨fsr, hPr⟩ := mi_recv hJM
  refine va_calli (va_runV (As := [.int (xs (nI (7 * k + 1)).toNatClampNeg)]) (rest := []) ⟨hx, hb, hml, hown, hts⟩ (k_X9_waits l dC dI _ kI kB kQ ma MA Sm (xs (nI (7 * k + 1)).toNatClampNeg)) (cwV 1 hts gL_X9_waits rfl rfl rfl (by decide +kernel) ⟨Nat.le_of_ble_eq_true rfl, Nat.le_of_ble_eq_true rfl⟩) ⟨xB_bl, va_recv hK hPr (ci := 9) (q0 := 0) rfl rfl, xB_in hJM (k3_of hK)⟩ rfl rfl hl.1 rfl (lv_room (Nat.le_of_ble_eq_true rfl)) dL_law_1587 ⟨by show _ ≤ 601024; omega, by show _ ≤ 7293034; omega⟩) hS (fun q _ h => lx_A dis.2.1 hA hS q h) (lx_A dis.2.1 hA hS) (fun r4 u t H1 locs ht hvm hw hB hz1 hk1 hS => ?_)
  have hJX := xi_keep hJX (fun q h1 h2 => hk1 q h1 (lx_no (fun q h g => dis.2.2.2.1 q g h) h1 h2))
  have hPo := lx_o hPo dis.2.2.2.2.2 hk1
  have hwm : mM_waits Sm (xs (nI (7 * k + 1)).toNatClampNeg) r4 u := hw
  have hJM : MInv (dC, dI) kI kB ma MA u t.heap := hB
  generalize u = um at hwm hJM
  have hsr1 := sr_waits hsr hfx hfm hwx hwm
  rw [ht] at hJM
  clear hk1 hz1 ht hvm
  generalize H1 = H at hJX hJM hPo hS ⊢
  refine lv_pop hx hb dL_law_1590 rfl ?_
  refine lv_goto (tgt := 1697) hx hb dL_law_1591 (by decide) ?_
  refine W.widen (k := cells + 1) (n := slots + 6) (by omega) (by omega) ?_
  exact hT _ _ _ ⟨ux, um, hsr1, hJX, hJM, fq, hPo⟩ hS (lv_sub hl [0, 1, 2, 3, 4] rfl)
set_option maxHeartbeats 4000000 in
set_option maxRecDepth 100000 in
theorem law_case_36 {p : Program} {e : Env} {s : State} {m : MethodId} {below : List Frame} {meth : Method} {c : Code} (l : Launch) (hlt : l.stackTraces = false) {b L : Nat} {xs : Nat → Int32} (C0 : lw_At p s m meth c b L xs) {A : Nat → Prop} (hA : ∀ q : Nat, s.heap.size ≤ q → A q) (hAs : ∀ q : Nat, A q → s.heap.size ≤ q) (hY : sy_E A s s.heap) {dC : Nat → ClassId} {dI : Nat → Nat → Nat} {kI kB kQ kL : ClassId} (hK : va_K (dC, dI) vwCl (k3 kI kB kQ ++ [(kL, .long)]) s) {xa ma qo : Nat} {XA MA : Nat → Prop} (dis : lw_dis XA MA qo A) (hL : L ≤ 3584) (k : Nat) (hk : 7 * k + 7 ≤ L) {H : Heap} {locs : List Loc} {ls : Array Slot} (hJ : LInv (dC, dI) kI kB kQ kL xa ma qo XA MA H) (hS : va_S A s.heap H locs) (hl : lv_has ls 7 [(0, .ref b), (1, .ref xa), (2, .ref ma), (3, .ref qo), (4, .int (nI (7 * k)))]) {cells slots : Nat} (hc : cells ≤ 600000) (hs : slots ≤ 7200000) (hT : ∀ (H : Heap) (locs : List Loc) (ls : Array Slot), LInv (dC, dI) kI kB kQ kL xa ma qo XA MA H → va_S A s.heap H locs → lv_has ls 7 [(0, .ref b), (1, .ref xa), (2, .ref ma), (3, .ref qo), (4, .int (nI (7 * k)))] → W p l e room_1 s m #[Value.ref b] below meth c H locs (cells + 1) (slots + 6) (lw_Z below #[Value.ref b] s) (F0 m 1697 ls [])) : W p l e room_1 s m #[Value.ref b] below meth c H locs cells slots (lw_Z below #[Value.ref b] s) (F0 m 1594 ls []) := by
  obtain ⟨hx, hb, hr, hml, hown0, hts0, hX, hbl, hlocks, hgv⟩ := id C0
  have hown : s.vm.findClass RL = some m.cls := hown0
  have hts : ∀ w ∈ vsL, w.before #[Value.ref b] s = true := fun w h => hts0 w (vsL_in w h)
  have hbA : ¬ A b := fun h => absurd (hAs b h) (Nat.not_le.mpr hbl)
  obtain ⟨Sx, Sm, hsr, hJX, hJM, fq, hPo⟩ := hJ
  have hfx := xi_fact hJX
  have hfm := mi_fact hJM
  refine lv_aload_n hx hb dL_law_1594 rfl (lv_at hl 1 rfl) ?_
  refine lv_aload_n hx hb dL_law_1595 rfl (lv_at hl 0 rfl) ?_
  refine lv_iload hx hb dL_law_1596 (lv_at hl 4 rfl) ?_
  refine lv_iconst (v := 1) hx hb dL_law_1598 (by decide) ?_
  refine lv_iadd hx hb dL_law_1599 ?_
  refine lv_topi (fun y1 ey1 => ?_)
  obtain rfl : y1 = nI (7 * k + 1) := ey1.trans (nI_add (7 * k) 1)
  refine va_sld hx hb hX hbl hbA hS (vp_in_nI (n := 7 * k + 1) (by omega) (by omega)) dL_law_1600 ?_
  obtain ⟨fsr, hPr⟩ := xi_recv hJX
  refine va_calli (va_runV (As := [.int (xs (nI (7 * k + 1)).toNatClampNeg)]) (rest := []) ⟨hx, hb, hml, hown, hts⟩ (k_X8_takes l dC dI _ kI kB kQ xa XA Sx (xs (nI (7 * k + 1)).toNatClampNeg)) (cwV 1 hts gL_X8_takes rfl rfl rfl (by decide +kernel) ⟨Nat.le_of_ble_eq_true rfl, Nat.le_of_ble_eq_true rfl⟩) ⟨xB_bl, va_recv hK hPr (ci := 8) (q0 := 0) rfl rfl, xB_in hJX (k3_of hK)⟩ rfl rfl hl.1 rfl (lv_room (Nat.le_of_ble_eq_true rfl)) dL_law_1601 ⟨by show _ ≤ 601024; omega, by show _ ≤ 7293034; omega⟩) hS (fun q _ h => lx_A dis.1 hA hS q h) (lx_A dis.1 hA hS) (fun r2 u t H1 locs ht hvm hw hB hz1 hk1 hS => ?_)
  have hJM := mi_keep hJM (fun q h1 h2 => hk1 q h1 (lx_no dis.2.2.2.1 h1 h2))
  have hPo := lx_o hPo dis.2.2.2.2.1 hk1
  have hwx : xM_takes Sx (xs (nI (7 * k + 1)).toNatClampNeg) r2 u := hw
  have hJX : XInv (dC, dI) kI kB kQ xa XA u t.heap := hB
  generalize u = ux at hwx hJX
  rw [ht] at hJX
  clear hk1 hz1 ht hvm
  generalize H1 = H at hJX hJM hPo hS ⊢
  refine lv_pop hx hb dL_law_1604 rfl ?_
  refine lv_aload_n hx hb dL_law_1605 rfl (lv_at hl 2 rfl) ?_
  refine lv_aload_n hx hb dL_law_1606 rfl (lv_at hl 0 rfl) ?_
  refine lv_iload hx hb dL_law_1607 (lv_at hl 4 rfl) ?_
  refine lv_iconst (v := 1) hx hb dL_law_1609 (by decide) ?_
  refine lv_iadd hx hb dL_law_1610 ?_
  refine lv_topi (fun y3 ey3 => ?_)
  obtain rfl : y3 = nI (7 * k + 1) := ey3.trans (nI_add (7 * k) 1)
  refine va_sld hx hb hX hbl hbA hS (vp_in_nI (n := 7 * k + 1) (by omega) (by omega)) dL_law_1611 ?_
  obtain ⟨fsr, hPr⟩ := mi_recv hJM
  refine va_calli (va_runV (As := [.int (xs (nI (7 * k + 1)).toNatClampNeg)]) (rest := []) ⟨hx, hb, hml, hown, hts⟩ (k_X9_takes l dC dI _ kI kB kQ ma MA Sm (xs (nI (7 * k + 1)).toNatClampNeg)) (cwV 1 hts gL_X9_takes rfl rfl rfl (by decide +kernel) ⟨Nat.le_of_ble_eq_true rfl, Nat.le_of_ble_eq_true rfl⟩) ⟨xB_bl, va_recv hK hPr (ci := 9) (q0 := 0) rfl rfl, xB_in hJM (k3_of hK)⟩ rfl rfl hl.1 rfl (lv_room (Nat.le_of_ble_eq_true rfl)) dL_law_1612 ⟨by show _ ≤ 601024; omega, by show _ ≤ 7293034; omega⟩) hS (fun q _ h => lx_A dis.2.1 hA hS q h) (lx_A dis.2.1 hA hS) (fun r4 u t H1 locs ht hvm hw hB hz1 hk1 hS => ?_)
  have hJX := xi_keep hJX (fun q h1 h2 => hk1 q h1 (lx_no (fun q h g => dis.2.2.2.1 q g h) h1 h2))
  have hPo := lx_o hPo dis.2.2.2.2.2 hk1
  have hwm : mM_takes Sm (xs (nI (7 * k + 1)).toNatClampNeg) r4 u := hw
  have hJM : MInv (dC, dI) kI kB ma MA u t.heap := hB
  generalize u = um at hwm hJM
  have hsr1 := sr_takes hsr hfx hfm hwx hwm
  rw [ht] at hJM
  clear hk1 hz1 ht hvm
  generalize H1 = H at hJX hJM hPo hS ⊢
  refine lv_pop hx hb dL_law_1615 rfl ?_
  refine lv_goto (tgt := 1697) hx hb dL_law_1616 (by decide) ?_
  refine W.widen (k := cells + 1) (n := slots + 6) (by omega) (by omega) ?_
  exact hT _ _ _ ⟨ux, um, hsr1, hJX, hJM, fq, hPo⟩ hS (lv_sub hl [0, 1, 2, 3, 4] rfl)
set_option maxHeartbeats 4000000 in
set_option maxRecDepth 100000 in
theorem law_case_37 {p : Program} {e : Env} {s : State} {m : MethodId} {below : List Frame} {meth : Method} {c : Code} (l : Launch) (hlt : l.stackTraces = false) {b L : Nat} {xs : Nat → Int32} (C0 : lw_At p s m meth c b L xs) {A : Nat → Prop} (hA : ∀ q : Nat, s.heap.size ≤ q → A q) (hAs : ∀ q : Nat, A q → s.heap.size ≤ q) (hY : sy_E A s s.heap) {dC : Nat → ClassId} {dI : Nat → Nat → Nat} {kI kB kQ kL : ClassId} (hK : va_K (dC, dI) vwCl (k3 kI kB kQ ++ [(kL, .long)]) s) {xa ma qo : Nat} {XA MA : Nat → Prop} (dis : lw_dis XA MA qo A) (hL : L ≤ 3584) (k : Nat) (hk : 7 * k + 7 ≤ L) {H : Heap} {locs : List Loc} {ls : Array Slot} (hJ : LInv (dC, dI) kI kB kQ kL xa ma qo XA MA H) (hS : va_S A s.heap H locs) (hl : lv_has ls 7 [(0, .ref b), (1, .ref xa), (2, .ref ma), (3, .ref qo), (4, .int (nI (7 * k)))]) {cells slots : Nat} (hc : cells ≤ 600000) (hs : slots ≤ 7200000) (hT : ∀ (H : Heap) (locs : List Loc) (ls : Array Slot), LInv (dC, dI) kI kB kQ kL xa ma qo XA MA H → va_S A s.heap H locs → lv_has ls 7 [(0, .ref b), (1, .ref xa), (2, .ref ma), (3, .ref qo), (4, .int (nI (7 * k)))] → W p l e room_1 s m #[Value.ref b] below meth c H locs (cells + 1) (slots + 6) (lw_Z below #[Value.ref b] s) (F0 m 1697 ls [])) : W p l e room_1 s m #[Value.ref b] below meth c H locs cells slots (lw_Z below #[Value.ref b] s) (F0 m 1619 ls []) := by
  obtain ⟨hx, hb, hr, hml, hown0, hts0, hX, hbl, hlocks, hgv⟩ := id C0
  have hown : s.vm.findClass RL = some m.cls := hown0
  have hts : ∀ w ∈ vsL, w.before #[Value.ref b] s = true := fun w h => hts0 w (vsL_in w h)
  have hbA : ¬ A b := fun h => absurd (hAs b h) (Nat.not_le.mpr hbl)
  obtain ⟨Sx, Sm, hsr, hJX, hJM, fq, hPo⟩ := hJ
  have hfx := xi_fact hJX
  have hfm := mi_fact hJM
  refine lv_aload_n hx hb dL_law_1619 rfl (lv_at hl 1 rfl) ?_
  refine lv_aload_n hx hb dL_law_1620 rfl (lv_at hl 0 rfl) ?_
  refine lv_iload hx hb dL_law_1621 (lv_at hl 4 rfl) ?_
  refine lv_iconst (v := 1) hx hb dL_law_1623 (by decide) ?_
  refine lv_iadd hx hb dL_law_1624 ?_
  refine lv_topi (fun y1 ey1 => ?_)
  obtain rfl : y1 = nI (7 * k + 1) := ey1.trans (nI_add (7 * k) 1)
  refine va_sld hx hb hX hbl hbA hS (vp_in_nI (n := 7 * k + 1) (by omega) (by omega)) dL_law_1625 ?_
  obtain ⟨fsr, hPr⟩ := xi_recv hJX
  refine va_calli (va_runV (As := [.int (xs (nI (7 * k + 1)).toNatClampNeg)]) (rest := []) ⟨hx, hb, hml, hown, hts⟩ (k_X8_now l dC dI _ kI kB kQ xa XA Sx (xs (nI (7 * k + 1)).toNatClampNeg)) (cwV 1 hts gL_X8_now rfl rfl rfl (by decide +kernel) ⟨Nat.le_of_ble_eq_true rfl, Nat.le_of_ble_eq_true rfl⟩) ⟨xB_bl, va_recv hK hPr (ci := 8) (q0 := 0) rfl rfl, xB_in hJX (k3_of hK)⟩ rfl rfl hl.1 rfl (lv_room (Nat.le_of_ble_eq_true rfl)) dL_law_1626 ⟨by show _ ≤ 601024; omega, by show _ ≤ 7293034; omega⟩) hS (fun q _ h => lx_A dis.1 hA hS q h) (lx_A dis.1 hA hS) (fun r2 u t H1 locs ht hvm hw hB hz1 hk1 hS => ?_)
  have hJM := mi_keep hJM (fun q h1 h2 => hk1 q h1 (lx_no dis.2.2.2.1 h1 h2))
  have hPo := lx_o hPo dis.2.2.2.2.1 hk1
  have hwx : xM_now Sx (xs (nI (7 * k + 1)).toNatClampNeg) r2 u := hw
  have hJX : XInv (dC, dI) kI kB kQ xa XA u t.heap := hB
  generalize u = ux at hwx hJX
  rw [ht] at hJX
  clear hk1 hz1 ht hvm
  generalize H1 = H at hJX hJM hPo hS ⊢
  refine lv_pop hx hb dL_law_1629 rfl ?_
  refine lv_aload_n hx hb dL_law_1630 rfl (lv_at hl 2 rfl) ?_
  refine lv_aload_n hx hb dL_law_1631 rfl (lv_at hl 0 rfl) ?_
  refine lv_iload hx hb dL_law_1632 (lv_at hl 4 rfl) ?_
  refine lv_iconst (v := 1) hx hb dL_law_1634 (by decide) ?_
  refine lv_iadd hx hb dL_law_1635 ?_
  refine lv_topi (fun y3 ey3 => ?_)
  obtain rfl : y3 = nI (7 * k + 1) := ey3.trans (nI_add (7 * k) 1)
  refine va_sld hx hb hX hbl hbA hS (vp_in_nI (n := 7 * k + 1) (by omega) (by omega)) dL_law_1636 ?_
  obtain ⟨fsr, hPr⟩ := mi_recv hJM
  refine va_calli (va_runV (As := [.int (xs (nI (7 * k + 1)).toNatClampNeg)]) (rest := []) ⟨hx, hb, hml, hown, hts⟩ (k_X9_now l dC dI _ kI kB kQ ma MA Sm (xs (nI (7 * k + 1)).toNatClampNeg)) (cwV 1 hts gL_X9_now rfl rfl rfl (by decide +kernel) ⟨Nat.le_of_ble_eq_true rfl, Nat.le_of_ble_eq_true rfl⟩) ⟨xB_bl, va_recv hK hPr (ci := 9) (q0 := 0) rfl rfl, xB_in hJM (k3_of hK)⟩ rfl rfl hl.1 rfl (lv_room (Nat.le_of_ble_eq_true rfl)) dL_law_1637 ⟨by show _ ≤ 601024; omega, by show _ ≤ 7293034; omega⟩) hS (fun q _ h => lx_A dis.2.1 hA hS q h) (lx_A dis.2.1 hA hS) (fun r4 u t H1 locs ht hvm hw hB hz1 hk1 hS => ?_)
  have hJX := xi_keep hJX (fun q h1 h2 => hk1 q h1 (lx_no (fun q h g => dis.2.2.2.1 q g h) h1 h2))
  have hPo := lx_o hPo dis.2.2.2.2.2 hk1
  have hwm : mM_now Sm (xs (nI (7 * k + 1)).toNatClampNeg) r4 u := hw
  have hJM : MInv (dC, dI) kI kB ma MA u t.heap := hB
  generalize u = um at hwm hJM
  have hsr1 := sr_now hsr hfx hfm hwx hwm
  rw [ht] at hJM
  clear hk1 hz1 ht hvm
  generalize H1 = H at hJX hJM hPo hS ⊢
  refine lv_pop hx hb dL_law_1640 rfl ?_
  refine lv_goto (tgt := 1697) hx hb dL_law_1641 (by decide) ?_
  refine W.widen (k := cells + 1) (n := slots + 6) (by omega) (by omega) ?_
  exact hT _ _ _ ⟨ux, um, hsr1, hJX, hJM, fq, hPo⟩ hS (lv_sub hl [0, 1, 2, 3, 4] rfl)
set_option maxHeartbeats 4000000 in
set_option maxRecDepth 100000 in
theorem law_case_38 {p : Program} {e : Env} {s : State} {m : MethodId} {below : List Frame} {meth : Method} {c : Code} (l : Launch) (hlt : l.stackTraces = false) {b L : Nat} {xs : Nat → Int32} (C0 : lw_At p s m meth c b L xs) {A : Nat → Prop} (hA : ∀ q : Nat, s.heap.size ≤ q → A q) (hAs : ∀ q : Nat, A q → s.heap.size ≤ q) (hY : sy_E A s s.heap) {dC : Nat → ClassId} {dI : Nat → Nat → Nat} {kI kB kQ kL : ClassId} (hK : va_K (dC, dI) vwCl (k3 kI kB kQ ++ [(kL, .long)]) s) {xa ma qo : Nat} {XA MA : Nat → Prop} (dis : lw_dis XA MA qo A) (hL : L ≤ 3584) (k : Nat) (hk : 7 * k + 7 ≤ L) {H : Heap} {locs : List Loc} {ls : Array Slot} (hJ : LInv (dC, dI) kI kB kQ kL xa ma qo XA MA H) (hS : va_S A s.heap H locs) (hl : lv_has ls 7 [(0, .ref b), (1, .ref xa), (2, .ref ma), (3, .ref qo), (4, .int (nI (7 * k)))]) {cells slots : Nat} (hc : cells ≤ 600000) (hs : slots ≤ 7200000) (hT : ∀ (H : Heap) (locs : List Loc) (ls : Array Slot), LInv (dC, dI) kI kB kQ kL xa ma qo XA MA H → va_S A s.heap H locs → lv_has ls 7 [(0, .ref b), (1, .ref xa), (2, .ref ma), (3, .ref qo), (4, .int (nI (7 * k)))] → W p l e room_1 s m #[Value.ref b] below meth c H locs (cells + 1) (slots + 6) (lw_Z below #[Value.ref b] s) (F0 m 1697 ls [])) : W p l e room_1 s m #[Value.ref b] below meth c H locs cells slots (lw_Z below #[Value.ref b] s) (F0 m 1644 ls []) := by
  obtain ⟨hx, hb, hr, hml, hown0, hts0, hX, hbl, hlocks, hgv⟩ := id C0
  have hown : s.vm.findClass RL = some m.cls := hown0
  have hts : ∀ w ∈ vsL, w.before #[Value.ref b] s = true := fun w h => hts0 w (vsL_in w h)
  have hbA : ¬ A b := fun h => absurd (hAs b h) (Nat.not_le.mpr hbl)
  obtain ⟨Sx, Sm, hsr, hJX, hJM, fq, hPo⟩ := hJ
  have hfx := xi_fact hJX
  have hfm := mi_fact hJM
  refine lv_aload_n hx hb dL_law_1644 rfl (lv_at hl 1 rfl) ?_
  refine lv_aload_n hx hb dL_law_1645 rfl (lv_at hl 0 rfl) ?_
  refine lv_iload hx hb dL_law_1646 (lv_at hl 4 rfl) ?_
  refine lv_iconst (v := 1) hx hb dL_law_1648 (by decide) ?_
  refine lv_iadd hx hb dL_law_1649 ?_
  refine lv_topi (fun y1 ey1 => ?_)
  obtain rfl : y1 = nI (7 * k + 1) := ey1.trans (nI_add (7 * k) 1)
  refine va_sld hx hb hX hbl hbA hS (vp_in_nI (n := 7 * k + 1) (by omega) (by omega)) dL_law_1650 ?_
  refine lv_aload_n hx hb dL_law_1651 rfl (lv_at hl 3 rfl) ?_
  refine va_calli (vx_runSW (As := [.ref xa, .int (xs (nI (7 * k + 1)).toNatClampNeg), .ref qo]) (rest := []) ⟨hx, hb, hml, hown, hts⟩ (k_L_clock l hlt dC dI _ kI kB kQ kL xa XA Sx (xs (nI (7 * k + 1)).toNatClampNeg) qo dis.2.2.2.2.1 A A) (vx_cwSW 3 hts gL_L_clock rfl rfl rfl (by decide +kernel) ⟨Nat.le_of_ble_eq_true rfl, Nat.le_of_ble_eq_true rfl⟩) ⟨kBL_bl, kBL_in hJX hK hY hS hA dis.2.2.1 hPo⟩ rfl rfl hl.1 rfl (lv_room (Nat.le_of_ble_eq_true rfl)) dL_law_1652 ⟨by show _ ≤ 601024; omega, by show _ ≤ 7293034; omega⟩) hS (fun q _ h => lx_q dis.2.2.1 hA hS q h) (lx_q dis.2.2.1 hA hS) (fun r2 u t H1 locs ht hvm hw hB hz1 hk1 hS => ?_)
  obtain ⟨fq, hPo⟩ := hB
  rw [ht] at hPo
  have hJX := xi_keep hJX (fun q h1 h2 => hk1 q h1 (fun g => g.elim (fun e => dis.2.2.2.2.1 (by rw [← e]; exact h2)) (fun g => absurd h1 (Nat.not_lt.mpr g))))
  have hJM := mi_keep hJM (fun q h1 h2 => hk1 q h1 (fun g => g.elim (fun e => dis.2.2.2.2.2 (by rw [← e]; exact h2)) (fun g => absurd h1 (Nat.not_lt.mpr g))))
  clear hk1 hz1 ht hvm
  generalize H1 = H at hJX hJM hPo hS ⊢
  refine lv_istore (lv' := [(5, .int r2), (0, .ref b), (1, .ref xa), (2, .ref ma), (3, .ref qo), (4, .int (nI (7 * k)))]) hx hb dL_law_1655 hl (by decide) rfl (fun ls hl => ?_)
  refine lv_aload_n hx hb dL_law_1657 rfl (lv_at hl 3 rfl) ?_
  refine lv_aload_n hx hb dL_law_1658 rfl (lv_at hl 1 rfl) ?_
  refine lv_iload hx hb dL_law_1659 (lv_at hl 5 rfl) ?_
  refine lv_iconst (v := 1) hx hb dL_law_1661 (by decide) ?_
  refine lv_iadd hx hb dL_law_1662 ?_
  refine lv_topi (fun y3 ey3 => ?_)
  obtain rfl : y3 = nI (7 * k + 1) := ey3.trans (nI_add (7 * k) 1)
  refine va_sld hx hb hX hbl hbA hS (vp_in_nI (n := 7 * k + 1) (by omega) (by omega)) dL_law_1663 ?_
  obtain ⟨fsr, hPr⟩ := mi_recv hJM
  refine va_calli (va_runV (As := [.int (xs (nI (7 * k + 1)).toNatClampNeg)]) (rest := []) ⟨hx, hb, hml, hown, hts⟩ (k_X9_clock l dC dI _ kI kB kQ ma MA Sm (xs (nI (7 * k + 1)).toNatClampNeg)) (cwV 1 hts gL_X9_clock rfl rfl rfl (by decide +kernel) ⟨Nat.le_of_ble_eq_true rfl, Nat.le_of_ble_eq_true rfl⟩) ⟨xB_bl, va_recv hK hPr (ci := 9) (q0 := 0) rfl rfl, xB_in hJM (k3_of hK)⟩ rfl rfl hl.1 rfl (lv_room (Nat.le_of_ble_eq_true rfl)) dL_law_1664 ⟨by show _ ≤ 601024; omega, by show _ ≤ 7293034; omega⟩) hS (fun q _ h => lx_A dis.2.1 hA hS q h) (lx_A dis.2.1 hA hS) (fun r4 u t H1 locs ht hvm hw hB hz1 hk1 hS => ?_)
  have hJX := xi_keep hJX (fun q h1 h2 => hk1 q h1 (lx_no (fun q h g => dis.2.2.2.1 q g h) h1 h2))
  have hPo := lx_o hPo dis.2.2.2.2.2 hk1
  have hwm : mM_clock Sm (xs (nI (7 * k + 1)).toNatClampNeg) r4 u := hw
  have hJM : MInv (dC, dI) kI kB ma MA u t.heap := hB
  generalize u = um at hwm hJM
  have hsr1 := sr_clock hsr hfx hfm hwm
  rw [ht] at hJM
  clear hk1 hz1 ht hvm
  generalize H1 = H at hJX hJM hPo hS ⊢
  refine lv_istore (lv' := [(6, .int r4), (5, .int r2), (0, .ref b), (1, .ref xa), (2, .ref ma), (3, .ref qo), (4, .int (nI (7 * k)))]) hx hb dL_law_1667 hl (by decide) rfl (fun ls hl => ?_)
  refine lv_goto (tgt := 1697) hx hb dL_law_1669 (by decide) ?_
  refine W.widen (k := cells + 1) (n := slots + 6) (by omega) (by omega) ?_
  exact hT _ _ _ ⟨Sx, um, hsr1, hJX, hJM, fq, hPo⟩ hS (lv_sub hl [2, 3, 4, 5, 6] rfl)
set_option maxHeartbeats 4000000 in
set_option maxRecDepth 100000 in
theorem law_case_39 {p : Program} {e : Env} {s : State} {m : MethodId} {below : List Frame} {meth : Method} {c : Code} (l : Launch) (hlt : l.stackTraces = false) {b L : Nat} {xs : Nat → Int32} (C0 : lw_At p s m meth c b L xs) {A : Nat → Prop} (hA : ∀ q : Nat, s.heap.size ≤ q → A q) (hAs : ∀ q : Nat, A q → s.heap.size ≤ q) (hY : sy_E A s s.heap) {dC : Nat → ClassId} {dI : Nat → Nat → Nat} {kI kB kQ kL : ClassId} (hK : va_K (dC, dI) vwCl (k3 kI kB kQ ++ [(kL, .long)]) s) {xa ma qo : Nat} {XA MA : Nat → Prop} (dis : lw_dis XA MA qo A) (hL : L ≤ 3584) (k : Nat) (hk : 7 * k + 7 ≤ L) {H : Heap} {locs : List Loc} {ls : Array Slot} (hJ : LInv (dC, dI) kI kB kQ kL xa ma qo XA MA H) (hS : va_S A s.heap H locs) (hl : lv_has ls 7 [(0, .ref b), (1, .ref xa), (2, .ref ma), (3, .ref qo), (4, .int (nI (7 * k)))]) {cells slots : Nat} (hc : cells ≤ 600000) (hs : slots ≤ 7200000) (hT : ∀ (H : Heap) (locs : List Loc) (ls : Array Slot), LInv (dC, dI) kI kB kQ kL xa ma qo XA MA H → va_S A s.heap H locs → lv_has ls 7 [(0, .ref b), (1, .ref xa), (2, .ref ma), (3, .ref qo), (4, .int (nI (7 * k)))] → W p l e room_1 s m #[Value.ref b] below meth c H locs (cells + 1) (slots + 6) (lw_Z below #[Value.ref b] s) (F0 m 1697 ls [])) : W p l e room_1 s m #[Value.ref b] below meth c H locs cells slots (lw_Z below #[Value.ref b] s) (F0 m 1672 ls []) := by
  obtain ⟨hx, hb, hr, hml, hown0, hts0, hX, hbl, hlocks, hgv⟩ := id C0
  have hown : s.vm.findClass RL = some m.cls := hown0
  have hts : ∀ w ∈ vsL, w.before #[Value.ref b] s = true := fun w h => hts0 w (vsL_in w h)
  have hbA : ¬ A b := fun h => absurd (hAs b h) (Nat.not_le.mpr hbl)
  obtain ⟨Sx, Sm, hsr, hJX, hJM, fq, hPo⟩ := hJ
  have hfx := xi_fact hJX
  have hfm := mi_fact hJM
  refine lv_aload_n hx hb dL_law_1672 rfl (lv_at hl 1 rfl) ?_
  refine lv_aload_n hx hb dL_law_1673 rfl (lv_at hl 0 rfl) ?_
  refine lv_iload hx hb dL_law_1674 (lv_at hl 4 rfl) ?_
  refine lv_iconst (v := 1) hx hb dL_law_1676 (by decide) ?_
  refine lv_iadd hx hb dL_law_1677 ?_
  refine lv_topi (fun y1 ey1 => ?_)
  obtain rfl : y1 = nI (7 * k + 1) := ey1.trans (nI_add (7 * k) 1)
  refine va_sld hx hb hX hbl hbA hS (vp_in_nI (n := 7 * k + 1) (by omega) (by omega)) dL_law_1678 ?_
  obtain ⟨fsr, hPr⟩ := xi_recv hJX
  refine va_calli (va_runV (As := [.int (xs (nI (7 * k + 1)).toNatClampNeg)]) (rest := []) ⟨hx, hb, hml, hown, hts⟩ (k_X8_replays l dC dI _ kI kB kQ xa XA Sx (xs (nI (7 * k + 1)).toNatClampNeg)) (cwV 1 hts gL_X8_replays rfl rfl rfl (by decide +kernel) ⟨Nat.le_of_ble_eq_true rfl, Nat.le_of_ble_eq_true rfl⟩) ⟨xB_bl, va_recv hK hPr (ci := 8) (q0 := 0) rfl rfl, xB_in hJX (k3_of hK)⟩ rfl rfl hl.1 rfl (lv_room (Nat.le_of_ble_eq_true rfl)) dL_law_1679 ⟨by show _ ≤ 601024; omega, by show _ ≤ 7293034; omega⟩) hS (fun q _ h => lx_A dis.1 hA hS q h) (lx_A dis.1 hA hS) (fun r2 u t H1 locs ht hvm hw hB hz1 hk1 hS => ?_)
  have hJM := mi_keep hJM (fun q h1 h2 => hk1 q h1 (lx_no dis.2.2.2.1 h1 h2))
  have hPo := lx_o hPo dis.2.2.2.2.1 hk1
  have hwx : xM_replays Sx (xs (nI (7 * k + 1)).toNatClampNeg) r2 u := hw
  have hJX : XInv (dC, dI) kI kB kQ xa XA u t.heap := hB
  generalize u = ux at hwx hJX
  rw [ht] at hJX
  clear hk1 hz1 ht hvm
  generalize H1 = H at hJX hJM hPo hS ⊢
  refine lv_pop hx hb dL_law_1682 rfl ?_
  refine lv_aload_n hx hb dL_law_1683 rfl (lv_at hl 2 rfl) ?_
  refine lv_aload_n hx hb dL_law_1684 rfl (lv_at hl 0 rfl) ?_
  refine lv_iload hx hb dL_law_1685 (lv_at hl 4 rfl) ?_
  refine lv_iconst (v := 1) hx hb dL_law_1687 (by decide) ?_
  refine lv_iadd hx hb dL_law_1688 ?_
  refine lv_topi (fun y3 ey3 => ?_)
  obtain rfl : y3 = nI (7 * k + 1) := ey3.trans (nI_add (7 * k) 1)
  refine va_sld hx hb hX hbl hbA hS (vp_in_nI (n := 7 * k + 1) (by omega) (by omega)) dL_law_1689 ?_
  obtain ⟨fsr, hPr⟩ := mi_recv hJM
  refine va_calli (va_runV (As := [.int (xs (nI (7 * k + 1)).toNatClampNeg)]) (rest := []) ⟨hx, hb, hml, hown, hts⟩ (k_X9_replays l dC dI _ kI kB kQ ma MA Sm (xs (nI (7 * k + 1)).toNatClampNeg)) (cwV 1 hts gL_X9_replays rfl rfl rfl (by decide +kernel) ⟨Nat.le_of_ble_eq_true rfl, Nat.le_of_ble_eq_true rfl⟩) ⟨xB_bl, va_recv hK hPr (ci := 9) (q0 := 0) rfl rfl, xB_in hJM (k3_of hK)⟩ rfl rfl hl.1 rfl (lv_room (Nat.le_of_ble_eq_true rfl)) dL_law_1690 ⟨by show _ ≤ 601024; omega, by show _ ≤ 7293034; omega⟩) hS (fun q _ h => lx_A dis.2.1 hA hS q h) (lx_A dis.2.1 hA hS) (fun r4 u t H1 locs ht hvm hw hB hz1 hk1 hS => ?_)
  have hJX := xi_keep hJX (fun q h1 h2 => hk1 q h1 (lx_no (fun q h g => dis.2.2.2.1 q g h) h1 h2))
  have hPo := lx_o hPo dis.2.2.2.2.2 hk1
  have hwm : mM_replays Sm (xs (nI (7 * k + 1)).toNatClampNeg) r4 u := hw
  have hJM : MInv (dC, dI) kI kB ma MA u t.heap := hB
  generalize u = um at hwm hJM
  have hsr1 := sr_replays hsr hfx hfm hwx hwm
  rw [ht] at hJM
  clear hk1 hz1 ht hvm
  generalize H1 = H at hJX hJM hPo hS ⊢
  refine lv_pop hx hb dL_law_1693 rfl ?_
  refine lv_goto (tgt := 1697) hx hb dL_law_1694 (by decide) ?_
  refine W.widen (k := cells + 1) (n := slots + 6) (by omega) (by omega) ?_
  exact hT _ _ _ ⟨ux, um, hsr1, hJX, hJM, fq, hPo⟩ hS (lv_sub hl [0, 1, 2, 3, 4] rfl)
set_option maxHeartbeats 4000000 in
set_option maxRecDepth 100000 in
theorem law_loop {p : Program} {e : Env} {s : State} {m : MethodId} {below : List Frame} {meth : Method} {c : Code} (l : Launch) (hlt : l.stackTraces = false) {b L : Nat} {xs : Nat → Int32} (C0 : lw_At p s m meth c b L xs) {A : Nat → Prop} (hA : ∀ q : Nat, s.heap.size ≤ q → A q) (hAs : ∀ q : Nat, A q → s.heap.size ≤ q) (hY : sy_E A s s.heap) {dC : Nat → ClassId} {dI : Nat → Nat → Nat} {kI kB kQ kL : ClassId} (hK : va_K (dC, dI) vwCl (k3 kI kB kQ ++ [(kL, .long)]) s) {xa ma qo : Nat} {XA MA : Nat → Prop} (dis : lw_dis XA MA qo A) (hL : L ≤ 3584) : ∀ (n k : Nat), L < 7 * (k + n) + 7 → 7 * k ≤ L + 7 → ∀ (H : Heap) (locs : List Loc) (ls : Array Slot), LInv (dC, dI) kI kB kQ kL xa ma qo XA MA H → va_S A s.heap H locs → lv_has ls 7 [(0, .ref b), (1, .ref xa), (2, .ref ma), (3, .ref qo), (4, .int (nI (7 * k)))] → W p l e room_1 s m #[Value.ref b] below meth c H locs (1717 + k) (133609 + 6 * k) (lw_Z below #[Value.ref b] s) (F0 m 23 ls []) := by
  obtain ⟨hx, hb, hr, hml, hown0, hts0, hX, hbl, hlocks, hgv⟩ := id C0
  have hbA : ¬ A b := fun h => absurd (hAs b h) (Nat.not_le.mpr hbl)
  intro n
  induction n with
  | zero =>
    intro k hn hk H locs ls hJ hS hl
    refine lv_iload hx hb dL_law_23 (lv_at hl 4 rfl) ?_
    refine lv_aload_n hx hb dL_law_25 rfl (lv_at hl 0 rfl) ?_
    refine va_slen hx hb hX hbl hbA hS dL_law_26 ?_
    refine lv_bipush (v := 7) hx hb dL_law_27 (by decide) ?_
    refine lv_isub hx hb dL_law_29 ?_
    refine lv_icmp_gt (tgt := 1703) hx hb dL_law_30 (by decide) (fun _ => ?_) (fun z => ?_)
    · exact law_exit l C0 hA hAs hS (by omega) (by omega)
    · have := law_test (k := k) hL (by omega) z
      omega
  | succ n ih =>
    intro k hn hk H locs ls hJ hS hl
    refine lv_iload hx hb dL_law_23 (lv_at hl 4 rfl) ?_
    refine lv_aload_n hx hb dL_law_25 rfl (lv_at hl 0 rfl) ?_
    refine va_slen hx hb hX hbl hbA hS dL_law_26 ?_
    refine lv_bipush (v := 7) hx hb dL_law_27 (by decide) ?_
    refine lv_isub hx hb dL_law_29 ?_
    refine lv_icmp_gt (tgt := 1703) hx hb dL_law_30 (by decide) (fun _ => ?_) (fun z => ?_)
    · exact law_exit l C0 hA hAs hS (by omega) (by omega)
    have hk2 := law_test (k := k) hL (by omega) z
    have hT : ∀ (H : Heap) (locs : List Loc) (ls : Array Slot), LInv (dC, dI) kI kB kQ kL xa ma qo XA MA H → va_S A s.heap H locs → lv_has ls 7 [(0, .ref b), (1, .ref xa), (2, .ref ma), (3, .ref qo), (4, .int (nI (7 * k)))] → W p l e room_1 s m #[Value.ref b] below meth c H locs (1717 + k + 1) (133609 + 6 * k + 6) (lw_Z below #[Value.ref b] s) (F0 m 1697 ls []) := by
      intro H locs ls hJ hS hl
      refine lv_iinc (v := nI (7 * (k + 1))) (lv' := [(4, .int (nI (7 * (k + 1)))), (0, .ref b), (1, .ref xa), (2, .ref ma), (3, .ref qo)]) hx hb dL_law_1697 hl (k := 4) rfl (nI_add (7 * k) 7) (by decide) rfl (fun ls hl => ?_)
      refine lv_goto (tgt := 23) hx hb dL_law_1700 (by decide) ?_
      refine W.widen (k := 1717 + (k + 1)) (n := 133609 + 6 * (k + 1)) (by omega) (by omega) ?_
      exact ih (k + 1) (by omega) (by omega) _ _ _ hJ hS (lv_sub hl [1, 2, 3, 4, 0] rfl)
    refine lv_aload_n hx hb dL_law_33 rfl (lv_at hl 0 rfl) ?_
    refine lv_iload hx hb dL_law_34 (lv_at hl 4 rfl) ?_
    refine va_sld hx hb hX hbl hbA hS (vp_in_nI (n := 7 * k) (by omega) (by omega)) dL_law_36 ?_
    refine lv_bipush (v := 63) hx hb dL_law_37 (by decide) ?_
    refine lv_iand hx hb dL_law_39 ?_
    obtain ⟨v, hv, ev⟩ := law_and (xs (nI (7 * k)).toNatClampNeg)
    refine lv_topi (fun y ey => ?_)
    obtain rfl : y = nI v := ey.trans ev
    by_cases h0 : v = 0
    · subst h0
      refine lv_tableIn (tgt := 216) (off := 176) hx hb dL_law_40 (by decide) (by decide) rfl (by decide) ?_
      exact law_case_0 l hlt C0 hA hAs hY hK dis hL k hk2 hJ hS hl (by omega) (by omega) hT
    by_cases h1 : v = 1
    · subst h1
      refine lv_tableIn (tgt := 289) (off := 249) hx hb dL_law_40 (by decide) (by decide) rfl (by decide) ?_
      exact law_case_1 l hlt C0 hA hAs hY hK dis hL k hk2 hJ hS hl (by omega) (by omega) hT
    by_cases h2 : v = 2
    · subst h2
      refine lv_tableIn (tgt := 314) (off := 274) hx hb dL_law_40 (by decide) (by decide) rfl (by decide) ?_
      exact law_case_2 l hlt C0 hA hAs hY hK dis hL k hk2 hJ hS hl (by omega) (by omega) hT
    by_cases h3 : v = 3
    · subst h3
      refine lv_tableIn (tgt := 327) (off := 287) hx hb dL_law_40 (by decide) (by decide) rfl (by decide) ?_
      exact law_case_3 l hlt C0 hA hAs hY hK dis hL k hk2 hJ hS hl (by omega) (by omega) hT
    by_cases h4 : v = 4
    · subst h4
      refine lv_tableIn (tgt := 352) (off := 312) hx hb dL_law_40 (by decide) (by decide) rfl (by decide) ?_
      exact law_case_4 l hlt C0 hA hAs hY hK dis hL k hk2 hJ hS hl (by omega) (by omega) hT
    by_cases h5 : v = 5
    · subst h5
      refine lv_tableIn (tgt := 377) (off := 337) hx hb dL_law_40 (by decide) (by decide) rfl (by decide) ?_
      exact law_case_5 l hlt C0 hA hAs hY hK dis hL k hk2 hJ hS hl (by omega) (by omega) hT
    by_cases h6 : v = 6
    · subst h6
      refine lv_tableIn (tgt := 414) (off := 374) hx hb dL_law_40 (by decide) (by decide) rfl (by decide) ?_
      exact law_case_6 l hlt C0 hA hAs hY hK dis hL k hk2 hJ hS hl (by omega) (by omega) hT
    by_cases h7 : v = 7
    · subst h7
      refine lv_tableIn (tgt := 451) (off := 411) hx hb dL_law_40 (by decide) (by decide) rfl (by decide) ?_
      exact law_case_7 l hlt C0 hA hAs hY hK dis hL k hk2 hJ hS hl (by omega) (by omega) hT
    by_cases h8 : v = 8
    · subst h8
      refine lv_tableIn (tgt := 500) (off := 460) hx hb dL_law_40 (by decide) (by decide) rfl (by decide) ?_
      exact law_case_8 l hlt C0 hA hAs hY hK dis hL k hk2 hJ hS hl (by omega) (by omega) hT
    by_cases h9 : v = 9
    · subst h9
      refine lv_tableIn (tgt := 537) (off := 497) hx hb dL_law_40 (by decide) (by decide) rfl (by decide) ?_
      exact law_case_9 l hlt C0 hA hAs hY hK dis hL k hk2 hJ hS hl (by omega) (by omega) hT
    by_cases h10 : v = 10
    · subst h10
      refine lv_tableIn (tgt := 586) (off := 546) hx hb dL_law_40 (by decide) (by decide) rfl (by decide) ?_
      exact law_case_10 l hlt C0 hA hAs hY hK dis hL k hk2 hJ hS hl (by omega) (by omega) hT
    by_cases h11 : v = 11
    · subst h11
      refine lv_tableIn (tgt := 639) (off := 599) hx hb dL_law_40 (by decide) (by decide) rfl (by decide) ?_
      exact law_case_11 l hlt C0 hA hAs hY hK dis hL k hk2 hJ hS hl (by omega) (by omega) hT
    by_cases h12 : v = 12
    · subst h12
      refine lv_tableIn (tgt := 652) (off := 612) hx hb dL_law_40 (by decide) (by decide) rfl (by decide) ?_
      exact law_case_12 l hlt C0 hA hAs hY hK dis hL k hk2 hJ hS hl (by omega) (by omega) hT
    by_cases h13 : v = 13
    · subst h13
      refine lv_tableIn (tgt := 705) (off := 665) hx hb dL_law_40 (by decide) (by decide) rfl (by decide) ?_
      exact law_case_13 l hlt C0 hA hAs hY hK dis hL k hk2 hJ hS hl (by omega) (by omega) hT
    by_cases h14 : v = 14
    · subst h14
      refine lv_tableIn (tgt := 742) (off := 702) hx hb dL_law_40 (by decide) (by decide) rfl (by decide) ?_
      exact law_case_14 l hlt C0 hA hAs hY hK dis hL k hk2 hJ hS hl (by omega) (by omega) hT
    by_cases h15 : v = 15
    · subst h15
      refine lv_tableIn (tgt := 803) (off := 763) hx hb dL_law_40 (by decide) (by decide) rfl (by decide) ?_
      exact law_case_15 l hlt C0 hA hAs hY hK dis hL k hk2 hJ hS hl (by omega) (by omega) hT
    by_cases h16 : v = 16
    · subst h16
      refine lv_tableIn (tgt := 840) (off := 800) hx hb dL_law_40 (by decide) (by decide) rfl (by decide) ?_
      exact law_case_16 l hlt C0 hA hAs hY hK dis hL k hk2 hJ hS hl (by omega) (by omega) hT
    by_cases h17 : v = 17
    · subst h17
      refine lv_tableIn (tgt := 901) (off := 861) hx hb dL_law_40 (by decide) (by decide) rfl (by decide) ?_
      exact law_case_17 l hlt C0 hA hAs hY hK dis hL k hk2 hJ hS hl (by omega) (by omega) hT
    by_cases h18 : v = 18
    · subst h18
      refine lv_tableIn (tgt := 926) (off := 886) hx hb dL_law_40 (by decide) (by decide) rfl (by decide) ?_
      exact law_case_18 l hlt C0 hA hAs hY hK dis hL k hk2 hJ hS hl (by omega) (by omega) hT
    by_cases h19 : v = 19
    · subst h19
      refine lv_tableIn (tgt := 939) (off := 899) hx hb dL_law_40 (by decide) (by decide) rfl (by decide) ?_
      exact law_case_19 l hlt C0 hA hAs hY hK dis hL k hk2 hJ hS hl (by omega) (by omega) hT
    by_cases h20 : v = 20
    · subst h20
      refine lv_tableIn (tgt := 952) (off := 912) hx hb dL_law_40 (by decide) (by decide) rfl (by decide) ?_
      exact law_case_20 l hlt C0 hA hAs hY hK dis hL k hk2 hJ hS hl (by omega) (by omega) hT
    by_cases h21 : v = 21
    · subst h21
      refine lv_tableIn (tgt := 989) (off := 949) hx hb dL_law_40 (by decide) (by decide) rfl (by decide) ?_
      exact law_case_21 l hlt C0 hA hAs hY hK dis hL k hk2 hJ hS hl (by omega) (by omega) hT
    by_cases h22 : v = 22
    · subst h22
      refine lv_tableIn (tgt := 1014) (off := 974) hx hb dL_law_40 (by decide) (by decide) rfl (by decide) ?_
      exact law_case_22 l hlt C0 hA hAs hY hK dis hL k hk2 hJ hS hl (by omega) (by omega) hT
    by_cases h23 : v = 23
    · subst h23
      refine lv_tableIn (tgt := 1039) (off := 999) hx hb dL_law_40 (by decide) (by decide) rfl (by decide) ?_
      exact law_case_23 l hlt C0 hA hAs hY hK dis hL k hk2 hJ hS hl (by omega) (by omega) hT
    by_cases h24 : v = 24
    · subst h24
      refine lv_tableIn (tgt := 1052) (off := 1012) hx hb dL_law_40 (by decide) (by decide) rfl (by decide) ?_
      exact law_case_24 l hlt C0 hA hAs hY hK dis hL k hk2 hJ hS hl (by omega) (by omega) hT
    by_cases h25 : v = 25
    · subst h25
      refine lv_tableIn (tgt := 1125) (off := 1085) hx hb dL_law_40 (by decide) (by decide) rfl (by decide) ?_
      exact law_case_25 l hlt C0 hA hAs hY hK dis hL k hk2 hJ hS hl (by omega) (by omega) hT
    by_cases h26 : v = 26
    · subst h26
      refine lv_tableIn (tgt := 1162) (off := 1122) hx hb dL_law_40 (by decide) (by decide) rfl (by decide) ?_
      exact law_case_26 l hlt C0 hA hAs hY hK dis hL k hk2 hJ hS hl (by omega) (by omega) hT
    by_cases h27 : v = 27
    · subst h27
      refine lv_tableIn (tgt := 1199) (off := 1159) hx hb dL_law_40 (by decide) (by decide) rfl (by decide) ?_
      exact law_case_27 l hlt C0 hA hAs hY hK dis hL k hk2 hJ hS hl (by omega) (by omega) hT
    by_cases h28 : v = 28
    · subst h28
      refine lv_tableIn (tgt := 1236) (off := 1196) hx hb dL_law_40 (by decide) (by decide) rfl (by decide) ?_
      exact law_case_28 l hlt C0 hA hAs hY hK dis hL k hk2 hJ hS hl (by omega) (by omega) hT
    by_cases h29 : v = 29
    · subst h29
      refine lv_tableIn (tgt := 1285) (off := 1245) hx hb dL_law_40 (by decide) (by decide) rfl (by decide) ?_
      exact law_case_29 l hlt C0 hA hAs hY hK dis hL k hk2 hJ hS hl (by omega) (by omega) hT
    by_cases h30 : v = 30
    · subst h30
      refine lv_tableIn (tgt := 1322) (off := 1282) hx hb dL_law_40 (by decide) (by decide) rfl (by decide) ?_
      exact law_case_30 l hlt C0 hA hAs hY hK dis hL k hk2 hJ hS hl (by omega) (by omega) hT
    by_cases h31 : v = 31
    · subst h31
      refine lv_tableIn (tgt := 1409) (off := 1369) hx hb dL_law_40 (by decide) (by decide) rfl (by decide) ?_
      exact law_case_31 l hlt C0 hA hAs hY hK dis hL k hk2 hJ hS hl (by omega) (by omega) hT
    by_cases h32 : v = 32
    · subst h32
      refine lv_tableIn (tgt := 1458) (off := 1418) hx hb dL_law_40 (by decide) (by decide) rfl (by decide) ?_
      exact law_case_32 l hlt C0 hA hAs hY hK dis hL k hk2 hJ hS hl (by omega) (by omega) hT
    by_cases h33 : v = 33
    · subst h33
      refine lv_tableIn (tgt := 1495) (off := 1455) hx hb dL_law_40 (by decide) (by decide) rfl (by decide) ?_
      exact law_case_33 l hlt C0 hA hAs hY hK dis hL k hk2 hJ hS hl (by omega) (by omega) hT
    by_cases h34 : v = 34
    · subst h34
      refine lv_tableIn (tgt := 1556) (off := 1516) hx hb dL_law_40 (by decide) (by decide) rfl (by decide) ?_
      exact law_case_34 l hlt C0 hA hAs hY hK dis hL k hk2 hJ hS hl (by omega) (by omega) hT
    by_cases h35 : v = 35
    · subst h35
      refine lv_tableIn (tgt := 1569) (off := 1529) hx hb dL_law_40 (by decide) (by decide) rfl (by decide) ?_
      exact law_case_35 l hlt C0 hA hAs hY hK dis hL k hk2 hJ hS hl (by omega) (by omega) hT
    by_cases h36 : v = 36
    · subst h36
      refine lv_tableIn (tgt := 1594) (off := 1554) hx hb dL_law_40 (by decide) (by decide) rfl (by decide) ?_
      exact law_case_36 l hlt C0 hA hAs hY hK dis hL k hk2 hJ hS hl (by omega) (by omega) hT
    by_cases h37 : v = 37
    · subst h37
      refine lv_tableIn (tgt := 1619) (off := 1579) hx hb dL_law_40 (by decide) (by decide) rfl (by decide) ?_
      exact law_case_37 l hlt C0 hA hAs hY hK dis hL k hk2 hJ hS hl (by omega) (by omega) hT
    by_cases h38 : v = 38
    · subst h38
      refine lv_tableIn (tgt := 1644) (off := 1604) hx hb dL_law_40 (by decide) (by decide) rfl (by decide) ?_
      exact law_case_38 l hlt C0 hA hAs hY hK dis hL k hk2 hJ hS hl (by omega) (by omega) hT
    by_cases h39 : v = 39
    · subst h39
      refine lv_tableIn (tgt := 1672) (off := 1632) hx hb dL_law_40 (by decide) (by decide) rfl (by decide) ?_
      exact law_case_39 l hlt C0 hA hAs hY hK dis hL k hk2 hJ hS hl (by omega) (by omega) hT
    refine lv_tableOut (tgt := 1697) hx hb dL_law_40 (Or.inr (by rw [nI_toInt (by omega)]; omega)) (by decide) ?_
    refine W.widen (k := 1717 + k + 1) (n := 133609 + 6 * k + 6) (by omega) (by omega) ?_
    exact hT _ _ _ hJ hS hl
abbrev cI (a : Nat) (k : ClassId) (n : Nat) (f : Nat → Int32) : Nat × va_E := (a, .inl (k, n, .inl f))
abbrev cQ (a : Nat) (k : ClassId) (n : Nat) (f : Nat → Option Nat) : Nat × va_E := (a, .inl (k, n, .inr (.inr (.inr (.inr f)))))
abbrev cO (a ci : Nat) (fs : List Value) : Nat × va_E := (a, .inr (ci, fs))
abbrev z0f : Nat → Int32 := fun _ => 0
abbrev n0f : Nat → Option Nat := fun _ => none
abbrev kT3 (kI kB kQ : ClassId) : List (ClassId × FieldType) := k3 kI kB kQ
