set_option maxHeartbeats 4000000 in
set_option maxRecDepth 100000 in
theorem law_case_20 {p : Program} {e : Env} {s : State} {m : MethodId} {below : List Frame} {meth : Method} {c : Code} (l : Launch) (hlt : l.stackTraces = false) {b L : Nat} {xs : Nat → Int32} (C0 : lw_At p s m meth c b L xs) {A : Nat → Prop} (hA : ∀ q : Nat, s.heap.size ≤ q → A q) (hAs : ∀ q : Nat, A q → s.heap.size ≤ q) (hY : sy_E A s s.heap) {dC : Nat → ClassId} {dI : Nat → Nat → Nat} {kI kB kQ kL : ClassId} (hK : va_K (dC, dI) vwCl (k3 kI kB kQ ++ [(kL, .long)]) s) {xa ma qo : Nat} {XA MA : Nat → Prop} (dis : lw_dis XA MA qo A) (hL : L ≤ 3584) (k : Nat) (hk : 7 * k + 7 ≤ L) {H : Heap} {locs : List Loc} {ls : Array Slot} (hJ : LInv (dC, dI) kI kB kQ kL xa ma qo XA MA H) (hS : va_S A s.heap H locs) (hl : lv_has ls 7 [(0, .ref b), (1, .ref xa), (2, .ref ma), (3, .ref qo), (4, .int (nI (7 * k)))]) {cells slots : Nat} (hc : cells ≤ 600000) (hs : slots ≤ 7200000) (hT : ∀ (H : Heap) (locs : List Loc) (ls : Array Slot), LInv (dC, dI) kI kB kQ kL xa ma qo XA MA H → va_S A s.heap H locs → lv_has ls 7 [(0, .ref b), (1, .ref xa), (2, .ref ma), (3, .ref qo), (4, .int (nI (7 * k)))] → W p l e room_1 s m #[Value.ref b] below meth c H locs (cells + 1) (slots + 6) (lw_Z below #[Value.ref b] s) (F0 m 1697 ls [])) : W p l e room_1 s m #[Value.ref b] below meth c H locs cells slots (lw_Z below #[Value.ref b] s) (F0 m 952 ls []) := by
  obtain ⟨hx, hb, hr, hml, hown0, hts0, hX, hbl, hlocks, hgv⟩ := id C0
  have hown : s.vm.findClass RL = some m.cls := hown0
  have hts : ∀ w ∈ vsL, w.before #[Value.ref b] s = true := fun w h => hts0 w (vsL_in w h)
  have hbA : ¬ A b := fun h => absurd (hAs b h) (Nat.not_le.mpr hbl)
  obtain ⟨Sx, Sm, hsr, hJX, hJM, fq, hPo⟩ := hJ
  have hfx := xi_fact hJX
  have hfm := mi_fact hJM
  refine lv_aload_n hx hb dL_law_952 rfl (lv_at hl 1 rfl) ?_
  refine lv_aload_n hx hb dL_law_953 rfl (lv_at hl 0 rfl) ?_
  refine lv_iload hx hb dL_law_954 (lv_at hl 4 rfl) ?_
  refine lv_iconst (v := 1) hx hb dL_law_956 (by decide) ?_
  refine lv_iadd hx hb dL_law_957 ?_
  refine lv_topi (fun y1 ey1 => ?_)
  obtain rfl : y1 = nI (7 * k + 1) := ey1.trans (nI_add (7 * k) 1)
  refine va_sld hx hb hX hbl hbA hS (vp_in_nI (n := 7 * k + 1) (by omega) (by omega)) dL_law_958 ?_
  refine lv_aload_n hx hb dL_law_959 rfl (lv_at hl 0 rfl) ?_
  refine lv_iload hx hb dL_law_960 (lv_at hl 4 rfl) ?_
  refine lv_iconst (v := 2) hx hb dL_law_962 (by decide) ?_
  refine lv_iadd hx hb dL_law_963 ?_
  refine lv_topi (fun y2 ey2 => ?_)
  obtain rfl : y2 = nI (7 * k + 2) := ey2.trans (nI_add (7 * k) 2)
  refine va_sld hx hb hX hbl hbA hS (vp_in_nI (n := 7 * k + 2) (by omega) (by omega)) dL_law_964 ?_
  obtain ⟨fsr, hPr⟩ := xi_recv hJX
  refine va_calli (va_runV (As := [.int (xs (nI (7 * k + 1)).toNatClampNeg), .int (xs (nI (7 * k + 2)).toNatClampNeg)]) (rest := []) ⟨hx, hb, hml, hown, hts⟩ (k_X8_overlap l dC dI _ kI kB kQ xa XA Sx (xs (nI (7 * k + 1)).toNatClampNeg) (xs (nI (7 * k + 2)).toNatClampNeg)) (cwV 2 hts gL_X8_overlap rfl rfl rfl (by decide +kernel) ⟨Nat.le_of_ble_eq_true rfl, Nat.le_of_ble_eq_true rfl⟩) ⟨xB_bl, va_recv hK hPr (ci := 8) (q0 := 0) rfl rfl, xB_in hJX (k3_of hK)⟩ rfl rfl hl.1 rfl (lv_room (Nat.le_of_ble_eq_true rfl)) dL_law_965 ⟨by show _ ≤ 601024; omega, by show _ ≤ 7293034; omega⟩) hS (fun q _ h => lx_A dis.1 hA hS q h) (lx_A dis.1 hA hS) (fun r3 u t H1 locs ht hvm hw hB hz1 hk1 hS => ?_)
  have hJM := mi_keep hJM (fun q h1 h2 => hk1 q h1 (lx_no dis.2.2.2.1 h1 h2))
  have hPo := lx_o hPo dis.2.2.2.2.1 hk1
  have hwx : xM_overlap Sx (xs (nI (7 * k + 1)).toNatClampNeg) (xs (nI (7 * k + 2)).toNatClampNeg) r3 u := hw
  have hJX : XInv (dC, dI) kI kB kQ xa XA u t.heap := hB
  generalize u = ux at hwx hJX
  rw [ht] at hJX
  clear hk1 hz1 ht hvm
  generalize H1 = H at hJX hJM hPo hS ⊢
  refine lv_pop hx hb dL_law_968 rfl ?_
  refine lv_aload_n hx hb dL_law_969 rfl (lv_at hl 2 rfl) ?_
  refine lv_aload_n hx hb dL_law_970 rfl (lv_at hl 0 rfl) ?_
  refine lv_iload hx hb dL_law_971 (lv_at hl 4 rfl) ?_
  refine lv_iconst (v := 1) hx hb dL_law_973 (by decide) ?_
  refine lv_iadd hx hb dL_law_974 ?_
  refine lv_topi (fun y4 ey4 => ?_)
  obtain rfl : y4 = nI (7 * k + 1) := ey4.trans (nI_add (7 * k) 1)
  refine va_sld hx hb hX hbl hbA hS (vp_in_nI (n := 7 * k + 1) (by omega) (by omega)) dL_law_975 ?_
  refine lv_aload_n hx hb dL_law_976 rfl (lv_at hl 0 rfl) ?_
  refine lv_iload hx hb dL_law_977 (lv_at hl 4 rfl) ?_
  refine lv_iconst (v := 2) hx hb dL_law_979 (by decide) ?_
  refine lv_iadd hx hb dL_law_980 ?_
  refine lv_topi (fun y5 ey5 => ?_)
  obtain rfl : y5 = nI (7 * k + 2) := ey5.trans (nI_add (7 * k) 2)
  refine va_sld hx hb hX hbl hbA hS (vp_in_nI (n := 7 * k + 2) (by omega) (by omega)) dL_law_981 ?_
  obtain ⟨fsr, hPr⟩ := mi_recv hJM
  refine va_calli (va_runV (As := [.int (xs (nI (7 * k + 1)).toNatClampNeg), .int (xs (nI (7 * k + 2)).toNatClampNeg)]) (rest := []) ⟨hx, hb, hml, hown, hts⟩ (k_X9_overlap l dC dI _ kI kB kQ ma MA Sm (xs (nI (7 * k + 1)).toNatClampNeg) (xs (nI (7 * k + 2)).toNatClampNeg)) (cwV 2 hts gL_X9_overlap rfl rfl rfl (by decide +kernel) ⟨Nat.le_of_ble_eq_true rfl, Nat.le_of_ble_eq_true rfl⟩) ⟨xB_bl, va_recv hK hPr (ci := 9) (q0 := 0) rfl rfl, xB_in hJM (k3_of hK)⟩ rfl rfl hl.1 rfl (lv_room (Nat.le_of_ble_eq_true rfl)) dL_law_982 ⟨by show _ ≤ 601024; omega, by show _ ≤ 7293034; omega⟩) hS (fun q _ h => lx_A dis.2.1 hA hS q h) (lx_A dis.2.1 hA hS) (fun r6 u t H1 locs ht hvm hw hB hz1 hk1 hS => ?_)
  have hJX := xi_keep hJX (fun q h1 h2 => hk1 q h1 (lx_no (fun q h g => dis.2.2.2.1 q g h) h1 h2))
  have hPo := lx_o hPo dis.2.2.2.2.2 hk1
  have hwm : mM_overlap Sm (xs (nI (7 * k + 1)).toNatClampNeg) (xs (nI (7 * k + 2)).toNatClampNeg) r6 u := hw
  have hJM : MInv (dC, dI) kI kB ma MA u t.heap := hB
  generalize u = um at hwm hJM
  have hsr1 := sr_overlap hsr hfx hfm hwx hwm
  rw [ht] at hJM
  clear hk1 hz1 ht hvm
  generalize H1 = H at hJX hJM hPo hS ⊢
  refine lv_pop hx hb dL_law_985 rfl ?_
  refine lv_goto (tgt := 1697) hx hb dL_law_986 (by decide) ?_
  refine W.widen (k := cells + 1) (n := slots + 6) (by omega) (by omega) ?_
  exact hT _ _ _ ⟨ux, um, hsr1, hJX, hJM, fq, hPo⟩ hS (lv_sub hl [0, 1, 2, 3, 4] rfl)
set_option maxHeartbeats 4000000 in
set_option maxRecDepth 100000 in
theorem law_case_21 {p : Program} {e : Env} {s : State} {m : MethodId} {below : List Frame} {meth : Method} {c : Code} (l : Launch) (hlt : l.stackTraces = false) {b L : Nat} {xs : Nat → Int32} (C0 : lw_At p s m meth c b L xs) {A : Nat → Prop} (hA : ∀ q : Nat, s.heap.size ≤ q → A q) (hAs : ∀ q : Nat, A q → s.heap.size ≤ q) (hY : sy_E A s s.heap) {dC : Nat → ClassId} {dI : Nat → Nat → Nat} {kI kB kQ kL : ClassId} (hK : va_K (dC, dI) vwCl (k3 kI kB kQ ++ [(kL, .long)]) s) {xa ma qo : Nat} {XA MA : Nat → Prop} (dis : lw_dis XA MA qo A) (hL : L ≤ 3584) (k : Nat) (hk : 7 * k + 7 ≤ L) {H : Heap} {locs : List Loc} {ls : Array Slot} (hJ : LInv (dC, dI) kI kB kQ kL xa ma qo XA MA H) (hS : va_S A s.heap H locs) (hl : lv_has ls 7 [(0, .ref b), (1, .ref xa), (2, .ref ma), (3, .ref qo), (4, .int (nI (7 * k)))]) {cells slots : Nat} (hc : cells ≤ 600000) (hs : slots ≤ 7200000) (hT : ∀ (H : Heap) (locs : List Loc) (ls : Array Slot), LInv (dC, dI) kI kB kQ kL xa ma qo XA MA H → va_S A s.heap H locs → lv_has ls 7 [(0, .ref b), (1, .ref xa), (2, .ref ma), (3, .ref qo), (4, .int (nI (7 * k)))] → W p l e room_1 s m #[Value.ref b] below meth c H locs (cells + 1) (slots + 6) (lw_Z below #[Value.ref b] s) (F0 m 1697 ls [])) : W p l e room_1 s m #[Value.ref b] below meth c H locs cells slots (lw_Z below #[Value.ref b] s) (F0 m 989 ls []) := by
  obtain ⟨hx, hb, hr, hml, hown0, hts0, hX, hbl, hlocks, hgv⟩ := id C0
  have hown : s.vm.findClass RL = some m.cls := hown0
  have hts : ∀ w ∈ vsL, w.before #[Value.ref b] s = true := fun w h => hts0 w (vsL_in w h)
  have hbA : ¬ A b := fun h => absurd (hAs b h) (Nat.not_le.mpr hbl)
  obtain ⟨Sx, Sm, hsr, hJX, hJM, fq, hPo⟩ := hJ
  have hfx := xi_fact hJX
  have hfm := mi_fact hJM
  refine lv_aload_n hx hb dL_law_989 rfl (lv_at hl 1 rfl) ?_
  refine lv_aload_n hx hb dL_law_990 rfl (lv_at hl 0 rfl) ?_
  refine lv_iload hx hb dL_law_991 (lv_at hl 4 rfl) ?_
  refine lv_iconst (v := 1) hx hb dL_law_993 (by decide) ?_
  refine lv_iadd hx hb dL_law_994 ?_
  refine lv_topi (fun y1 ey1 => ?_)
  obtain rfl : y1 = nI (7 * k + 1) := ey1.trans (nI_add (7 * k) 1)
  refine va_sld hx hb hX hbl hbA hS (vp_in_nI (n := 7 * k + 1) (by omega) (by omega)) dL_law_995 ?_
  obtain ⟨fsr, hPr⟩ := xi_recv hJX
  refine va_calli (va_runV (As := [.int (xs (nI (7 * k + 1)).toNatClampNeg)]) (rest := []) ⟨hx, hb, hml, hown, hts⟩ (k_X8_covered l dC dI _ kI kB kQ xa XA Sx (xs (nI (7 * k + 1)).toNatClampNeg)) (cwV 1 hts gL_X8_covered rfl rfl rfl (by decide +kernel) ⟨Nat.le_of_ble_eq_true rfl, Nat.le_of_ble_eq_true rfl⟩) ⟨xB_bl, va_recv hK hPr (ci := 8) (q0 := 0) rfl rfl, xB_in hJX (k3_of hK)⟩ rfl rfl hl.1 rfl (lv_room (Nat.le_of_ble_eq_true rfl)) dL_law_996 ⟨by show _ ≤ 601024; omega, by show _ ≤ 7293034; omega⟩) hS (fun q _ h => lx_A dis.1 hA hS q h) (lx_A dis.1 hA hS) (fun r2 u t H1 locs ht hvm hw hB hz1 hk1 hS => ?_)
  have hJM := mi_keep hJM (fun q h1 h2 => hk1 q h1 (lx_no dis.2.2.2.1 h1 h2))
  have hPo := lx_o hPo dis.2.2.2.2.1 hk1
  have hwx : xM_covered Sx (xs (nI (7 * k + 1)).toNatClampNeg) r2 u := hw
  have hJX : XInv (dC, dI) kI kB kQ xa XA u t.heap := hB
  generalize u = ux at hwx hJX
  rw [ht] at hJX
  clear hk1 hz1 ht hvm
  generalize H1 = H at hJX hJM hPo hS ⊢
  refine lv_pop hx hb dL_law_999 rfl ?_
  refine lv_aload_n hx hb dL_law_1000 rfl (lv_at hl 2 rfl) ?_
  refine lv_aload_n hx hb dL_law_1001 rfl (lv_at hl 0 rfl) ?_
  refine lv_iload hx hb dL_law_1002 (lv_at hl 4 rfl) ?_
  refine lv_iconst (v := 1) hx hb dL_law_1004 (by decide) ?_
  refine lv_iadd hx hb dL_law_1005 ?_
  refine lv_topi (fun y3 ey3 => ?_)
  obtain rfl : y3 = nI (7 * k + 1) := ey3.trans (nI_add (7 * k) 1)
  refine va_sld hx hb hX hbl hbA hS (vp_in_nI (n := 7 * k + 1) (by omega) (by omega)) dL_law_1006 ?_
  obtain ⟨fsr, hPr⟩ := mi_recv hJM
  refine va_calli (va_runV (As := [.int (xs (nI (7 * k + 1)).toNatClampNeg)]) (rest := []) ⟨hx, hb, hml, hown, hts⟩ (k_X9_covered l dC dI _ kI kB kQ ma MA Sm (xs (nI (7 * k + 1)).toNatClampNeg)) (cwV 1 hts gL_X9_covered rfl rfl rfl (by decide +kernel) ⟨Nat.le_of_ble_eq_true rfl, Nat.le_of_ble_eq_true rfl⟩) ⟨xB_bl, va_recv hK hPr (ci := 9) (q0 := 0) rfl rfl, xB_in hJM (k3_of hK)⟩ rfl rfl hl.1 rfl (lv_room (Nat.le_of_ble_eq_true rfl)) dL_law_1007 ⟨by show _ ≤ 601024; omega, by show _ ≤ 7293034; omega⟩) hS (fun q _ h => lx_A dis.2.1 hA hS q h) (lx_A dis.2.1 hA hS) (fun r4 u t H1 locs ht hvm hw hB hz1 hk1 hS => ?_)
  have hJX := xi_keep hJX (fun q h1 h2 => hk1 q h1 (lx_no (fun q h g => dis.2.2.2.1 q g h) h1 h2))
  have hPo := lx_o hPo dis.2.2.2.2.2 hk1
  have hwm : mM_covered Sm (xs (nI (7 * k + 1)).toNatClampNeg) r4 u := hw
  have hJM : MInv (dC, dI) kI kB ma MA u t.heap := hB
  generalize u = um at hwm hJM
  have hsr1 := sr_covered hsr hfx hfm hwx hwm
  rw [ht] at hJM
  clear hk1 hz1 ht hvm
  generalize H1 = H at hJX hJM hPo hS ⊢
  refine lv_pop hx hb dL_law_1010 rfl ?_
  refine lv_goto (tgt := 1697) hx hb dL_law_1011 (by decide) ?_
  refine W.widen (k := cells + 1) (n := slots + 6) (by omega) (by omega) ?_
  exact hT _ _ _ ⟨ux, um, hsr1, hJX, hJM, fq, hPo⟩ hS (lv_sub hl [0, 1, 2, 3, 4] rfl)
set_option maxHeartbeats 4000000 in
set_option maxRecDepth 100000 in
theorem law_case_22 {p : Program} {e : Env} {s : State} {m : MethodId} {below : List Frame} {meth : Method} {c : Code} (l : Launch) (hlt : l.stackTraces = false) {b L : Nat} {xs : Nat → Int32} (C0 : lw_At p s m meth c b L xs) {A : Nat → Prop} (hA : ∀ q : Nat, s.heap.size ≤ q → A q) (hAs : ∀ q : Nat, A q → s.heap.size ≤ q) (hY : sy_E A s s.heap) {dC : Nat → ClassId} {dI : Nat → Nat → Nat} {kI kB kQ kL : ClassId} (hK : va_K (dC, dI) vwCl (k3 kI kB kQ ++ [(kL, .long)]) s) {xa ma qo : Nat} {XA MA : Nat → Prop} (dis : lw_dis XA MA qo A) (hL : L ≤ 3584) (k : Nat) (hk : 7 * k + 7 ≤ L) {H : Heap} {locs : List Loc} {ls : Array Slot} (hJ : LInv (dC, dI) kI kB kQ kL xa ma qo XA MA H) (hS : va_S A s.heap H locs) (hl : lv_has ls 7 [(0, .ref b), (1, .ref xa), (2, .ref ma), (3, .ref qo), (4, .int (nI (7 * k)))]) {cells slots : Nat} (hc : cells ≤ 600000) (hs : slots ≤ 7200000) (hT : ∀ (H : Heap) (locs : List Loc) (ls : Array Slot), LInv (dC, dI) kI kB kQ kL xa ma qo XA MA H → va_S A s.heap H locs → lv_has ls 7 [(0, .ref b), (1, .ref xa), (2, .ref ma), (3, .ref qo), (4, .int (nI (7 * k)))] → W p l e room_1 s m #[Value.ref b] below meth c H locs (cells + 1) (slots + 6) (lw_Z below #[Value.ref b] s) (F0 m 1697 ls [])) : W p l e room_1 s m #[Value.ref b] below meth c H locs cells slots (lw_Z below #[Value.ref b] s) (F0 m 1014 ls []) := by
  obtain ⟨hx, hb, hr, hml, hown0, hts0, hX, hbl, hlocks, hgv⟩ := id C0
  have hown : s.vm.findClass RL = some m.cls := hown0
  have hts : ∀ w ∈ vsL, w.before #[Value.ref b] s = true := fun w h => hts0 w (vsL_in w h)
  have hbA : ¬ A b := fun h => absurd (hAs b h) (Nat.not_le.mpr hbl)
  obtain ⟨Sx, Sm, hsr, hJX, hJM, fq, hPo⟩ := hJ
  have hfx := xi_fact hJX
  have hfm := mi_fact hJM
  refine lv_aload_n hx hb dL_law_1014 rfl (lv_at hl 1 rfl) ?_
  refine lv_aload_n hx hb dL_law_1015 rfl (lv_at hl 0 rfl) ?_
  refine lv_iload hx hb dL_law_1016 (lv_at hl 4 rfl) ?_
  refine lv_iconst (v := 1) hx hb dL_law_1018 (by decide) ?_
  refine lv_iadd hx hb dL_law_1019 ?_
  refine lv_topi (fun y1 ey1 => ?_)
  obtain rfl : y1 = nI (7 * k + 1) := ey1.trans (nI_add (7 * k) 1)
  refine va_sld hx hb hX hbl hbA hS (vp_in_nI (n := 7 * k + 1) (by omega) (by omega)) dL_law_1020 ?_
  obtain ⟨fsr, hPr⟩ := xi_recv hJX
  refine va_calli (va_runV (As := [.int (xs (nI (7 * k + 1)).toNatClampNeg)]) (rest := []) ⟨hx, hb, hml, hown, hts⟩ (k_X8_points l dC dI _ kI kB kQ xa XA Sx (xs (nI (7 * k + 1)).toNatClampNeg)) (cwV 1 hts gL_X8_points rfl rfl rfl (by decide +kernel) ⟨Nat.le_of_ble_eq_true rfl, Nat.le_of_ble_eq_true rfl⟩) ⟨xB_bl, va_recv hK hPr (ci := 8) (q0 := 0) rfl rfl, xB_in hJX (k3_of hK)⟩ rfl rfl hl.1 rfl (lv_room (Nat.le_of_ble_eq_true rfl)) dL_law_1021 ⟨by show _ ≤ 601024; omega, by show _ ≤ 7293034; omega⟩) hS (fun q _ h => lx_A dis.1 hA hS q h) (lx_A dis.1 hA hS) (fun r2 u t H1 locs ht hvm hw hB hz1 hk1 hS => ?_)
  have hJM := mi_keep hJM (fun q h1 h2 => hk1 q h1 (lx_no dis.2.2.2.1 h1 h2))
  have hPo := lx_o hPo dis.2.2.2.2.1 hk1
  have hwx : xM_points Sx (xs (nI (7 * k + 1)).toNatClampNeg) r2 u := hw
  have hJX : XInv (dC, dI) kI kB kQ xa XA u t.heap := hB
  generalize u = ux at hwx hJX
  rw [ht] at hJX
  clear hk1 hz1 ht hvm
  generalize H1 = H at hJX hJM hPo hS ⊢
  refine lv_pop hx hb dL_law_1024 rfl ?_
  refine lv_aload_n hx hb dL_law_1025 rfl (lv_at hl 2 rfl) ?_
  refine lv_aload_n hx hb dL_law_1026 rfl (lv_at hl 0 rfl) ?_
  refine lv_iload hx hb dL_law_1027 (lv_at hl 4 rfl) ?_
  refine lv_iconst (v := 1) hx hb dL_law_1029 (by decide) ?_
  refine lv_iadd hx hb dL_law_1030 ?_
  refine lv_topi (fun y3 ey3 => ?_)
  obtain rfl : y3 = nI (7 * k + 1) := ey3.trans (nI_add (7 * k) 1)
  refine va_sld hx hb hX hbl hbA hS (vp_in_nI (n := 7 * k + 1) (by omega) (by omega)) dL_law_1031 ?_
  obtain ⟨fsr, hPr⟩ := mi_recv hJM
  refine va_calli (va_runV (As := [.int (xs (nI (7 * k + 1)).toNatClampNeg)]) (rest := []) ⟨hx, hb, hml, hown, hts⟩ (k_X9_points l dC dI _ kI kB kQ ma MA Sm (xs (nI (7 * k + 1)).toNatClampNeg)) (cwV 1 hts gL_X9_points rfl rfl rfl (by decide +kernel) ⟨Nat.le_of_ble_eq_true rfl, Nat.le_of_ble_eq_true rfl⟩) ⟨xB_bl, va_recv hK hPr (ci := 9) (q0 := 0) rfl rfl, xB_in hJM (k3_of hK)⟩ rfl rfl hl.1 rfl (lv_room (Nat.le_of_ble_eq_true rfl)) dL_law_1032 ⟨by show _ ≤ 601024; omega, by show _ ≤ 7293034; omega⟩) hS (fun q _ h => lx_A dis.2.1 hA hS q h) (lx_A dis.2.1 hA hS) (fun r4 u t H1 locs ht hvm hw hB hz1 hk1 hS => ?_)
  have hJX := xi_keep hJX (fun q h1 h2 => hk1 q h1 (lx_no (fun q h g => dis.2.2.2.1 q g h) h1 h2))
  have hPo := lx_o hPo dis.2.2.2.2.2 hk1
  have hwm : mM_points Sm (xs (nI (7 * k + 1)).toNatClampNeg) r4 u := hw
  have hJM : MInv (dC, dI) kI kB ma MA u t.heap := hB
  generalize u = um at hwm hJM
  have hsr1 := sr_points hsr hfx hfm hwx hwm
  rw [ht] at hJM
  clear hk1 hz1 ht hvm
  generalize H1 = H at hJX hJM hPo hS ⊢
  refine lv_pop hx hb dL_law_1035 rfl ?_
  refine lv_goto (tgt := 1697) hx hb dL_law_1036 (by decide) ?_
  refine W.widen (k := cells + 1) (n := slots + 6) (by omega) (by omega) ?_
  exact hT _ _ _ ⟨ux, um, hsr1, hJX, hJM, fq, hPo⟩ hS (lv_sub hl [0, 1, 2, 3, 4] rfl)
set_option maxHeartbeats 4000000 in
set_option maxRecDepth 100000 in
theorem law_case_23 {p : Program} {e : Env} {s : State} {m : MethodId} {below : List Frame} {meth : Method} {c : Code} (l : Launch) (hlt : l.stackTraces = false) {b L : Nat} {xs : Nat → Int32} (C0 : lw_At p s m meth c b L xs) {A : Nat → Prop} (hA : ∀ q : Nat, s.heap.size ≤ q → A q) (hAs : ∀ q : Nat, A q → s.heap.size ≤ q) (hY : sy_E A s s.heap) {dC : Nat → ClassId} {dI : Nat → Nat → Nat} {kI kB kQ kL : ClassId} (hK : va_K (dC, dI) vwCl (k3 kI kB kQ ++ [(kL, .long)]) s) {xa ma qo : Nat} {XA MA : Nat → Prop} (dis : lw_dis XA MA qo A) (hL : L ≤ 3584) (k : Nat) (hk : 7 * k + 7 ≤ L) {H : Heap} {locs : List Loc} {ls : Array Slot} (hJ : LInv (dC, dI) kI kB kQ kL xa ma qo XA MA H) (hS : va_S A s.heap H locs) (hl : lv_has ls 7 [(0, .ref b), (1, .ref xa), (2, .ref ma), (3, .ref qo), (4, .int (nI (7 * k)))]) {cells slots : Nat} (hc : cells ≤ 600000) (hs : slots ≤ 7200000) (hT : ∀ (H : Heap) (locs : List Loc) (ls : Array Slot), LInv (dC, dI) kI kB kQ kL xa ma qo XA MA H → va_S A s.heap H locs → lv_has ls 7 [(0, .ref b), (1, .ref xa), (2, .ref ma), (3, .ref qo), (4, .int (nI (7 * k)))] → W p l e room_1 s m #[Value.ref b] below meth c H locs (cells + 1) (slots + 6) (lw_Z below #[Value.ref b] s) (F0 m 1697 ls [])) : W p l e room_1 s m #[Value.ref b] below meth c H locs cells slots (lw_Z below #[Value.ref b] s) (F0 m 1039 ls []) := by
  obtain ⟨hx, hb, hr, hml, hown0, hts0, hX, hbl, hlocks, hgv⟩ := id C0
  have hown : s.vm.findClass RL = some m.cls := hown0
  have hts : ∀ w ∈ vsL, w.before #[Value.ref b] s = true := fun w h => hts0 w (vsL_in w h)
  have hbA : ¬ A b := fun h => absurd (hAs b h) (Nat.not_le.mpr hbl)
  obtain ⟨Sx, Sm, hsr, hJX, hJM, fq, hPo⟩ := hJ
  have hfx := xi_fact hJX
  have hfm := mi_fact hJM
  refine lv_aload_n hx hb dL_law_1039 rfl (lv_at hl 1 rfl) ?_
  obtain ⟨fsr, hPr⟩ := xi_recv hJX
  refine va_calli (va_runV (As := []) (rest := []) ⟨hx, hb, hml, hown, hts⟩ (k_X8_rings l dC dI _ kI kB kQ xa XA Sx ) (cwV 0 hts gL_X8_rings rfl rfl rfl (by decide +kernel) ⟨Nat.le_of_ble_eq_true rfl, Nat.le_of_ble_eq_true rfl⟩) ⟨xB_bl, va_recv hK hPr (ci := 8) (q0 := 0) rfl rfl, xB_in hJX (k3_of hK)⟩ rfl rfl hl.1 rfl (lv_room (Nat.le_of_ble_eq_true rfl)) dL_law_1040 ⟨by show _ ≤ 601024; omega, by show _ ≤ 7293034; omega⟩) hS (fun q _ h => lx_A dis.1 hA hS q h) (lx_A dis.1 hA hS) (fun r1 u t H1 locs ht hvm hw hB hz1 hk1 hS => ?_)
  have hJM := mi_keep hJM (fun q h1 h2 => hk1 q h1 (lx_no dis.2.2.2.1 h1 h2))
  have hPo := lx_o hPo dis.2.2.2.2.1 hk1
  have hwx : xM_rings Sx  r1 u := hw
  have hJX : XInv (dC, dI) kI kB kQ xa XA u t.heap := hB
  generalize u = ux at hwx hJX
  rw [ht] at hJX
  clear hk1 hz1 ht hvm
  generalize H1 = H at hJX hJM hPo hS ⊢
  refine lv_pop hx hb dL_law_1043 rfl ?_
  refine lv_aload_n hx hb dL_law_1044 rfl (lv_at hl 2 rfl) ?_
  obtain ⟨fsr, hPr⟩ := mi_recv hJM
  refine va_calli (va_runV (As := []) (rest := []) ⟨hx, hb, hml, hown, hts⟩ (k_X9_rings l dC dI _ kI kB kQ ma MA Sm ) (cwV 0 hts gL_X9_rings rfl rfl rfl (by decide +kernel) ⟨Nat.le_of_ble_eq_true rfl, Nat.le_of_ble_eq_true rfl⟩) ⟨xB_bl, va_recv hK hPr (ci := 9) (q0 := 0) rfl rfl, xB_in hJM (k3_of hK)⟩ rfl rfl hl.1 rfl (lv_room (Nat.le_of_ble_eq_true rfl)) dL_law_1045 ⟨by show _ ≤ 601024; omega, by show _ ≤ 7293034; omega⟩) hS (fun q _ h => lx_A dis.2.1 hA hS q h) (lx_A dis.2.1 hA hS) (fun r2 u t H1 locs ht hvm hw hB hz1 hk1 hS => ?_)
  have hJX := xi_keep hJX (fun q h1 h2 => hk1 q h1 (lx_no (fun q h g => dis.2.2.2.1 q g h) h1 h2))
  have hPo := lx_o hPo dis.2.2.2.2.2 hk1
  have hwm : mM_rings Sm  r2 u := hw
  have hJM : MInv (dC, dI) kI kB ma MA u t.heap := hB
  generalize u = um at hwm hJM
  have hsr1 := sr_rings hsr hfx hfm hwx hwm
  rw [ht] at hJM
  clear hk1 hz1 ht hvm
  generalize H1 = H at hJX hJM hPo hS ⊢
  refine lv_pop hx hb dL_law_1048 rfl ?_
  refine lv_goto (tgt := 1697) hx hb dL_law_1049 (by decide) ?_
  refine W.widen (k := cells + 1) (n := slots + 6) (by omega) (by omega) ?_
  exact hT _ _ _ ⟨ux, um, hsr1, hJX, hJM, fq, hPo⟩ hS (lv_sub hl [0, 1, 2, 3, 4] rfl)
set_option maxHeartbeats 4000000 in
set_option maxRecDepth 100000 in
theorem law_case_24 {p : Program} {e : Env} {s : State} {m : MethodId} {below : List Frame} {meth : Method} {c : Code} (l : Launch) (hlt : l.stackTraces = false) {b L : Nat} {xs : Nat → Int32} (C0 : lw_At p s m meth c b L xs) {A : Nat → Prop} (hA : ∀ q : Nat, s.heap.size ≤ q → A q) (hAs : ∀ q : Nat, A q → s.heap.size ≤ q) (hY : sy_E A s s.heap) {dC : Nat → ClassId} {dI : Nat → Nat → Nat} {kI kB kQ kL : ClassId} (hK : va_K (dC, dI) vwCl (k3 kI kB kQ ++ [(kL, .long)]) s) {xa ma qo : Nat} {XA MA : Nat → Prop} (dis : lw_dis XA MA qo A) (hL : L ≤ 3584) (k : Nat) (hk : 7 * k + 7 ≤ L) {H : Heap} {locs : List Loc} {ls : Array Slot} (hJ : LInv (dC, dI) kI kB kQ kL xa ma qo XA MA H) (hS : va_S A s.heap H locs) (hl : lv_has ls 7 [(0, .ref b), (1, .ref xa), (2, .ref ma), (3, .ref qo), (4, .int (nI (7 * k)))]) {cells slots : Nat} (hc : cells ≤ 600000) (hs : slots ≤ 7200000) (hT : ∀ (H : Heap) (locs : List Loc) (ls : Array Slot), LInv (dC, dI) kI kB kQ kL xa ma qo XA MA H → va_S A s.heap H locs → lv_has ls 7 [(0, .ref b), (1, .ref xa), (2, .ref ma), (3, .ref qo), (4, .int (nI (7 * k)))] → W p l e room_1 s m #[Value.ref b] below meth c H locs (cells + 1) (slots + 6) (lw_Z below #[Value.ref b] s) (F0 m 1697 ls [])) : W p l e room_1 s m #[Value.ref b] below meth c H locs cells slots (lw_Z below #[Value.ref b] s) (F0 m 1052 ls []) := by
  obtain ⟨hx, hb, hr, hml, hown0, hts0, hX, hbl, hlocks, hgv⟩ := id C0
  have hown : s.vm.findClass RL = some m.cls := hown0
  have hts : ∀ w ∈ vsL, w.before #[Value.ref b] s = true := fun w h => hts0 w (vsL_in w h)
  have hbA : ¬ A b := fun h => absurd (hAs b h) (Nat.not_le.mpr hbl)
  obtain ⟨Sx, Sm, hsr, hJX, hJM, fq, hPo⟩ := hJ
  have hfx := xi_fact hJX
  have hfm := mi_fact hJM
  refine lv_aload_n hx hb dL_law_1052 rfl (lv_at hl 1 rfl) ?_
  refine lv_aload_n hx hb dL_law_1053 rfl (lv_at hl 0 rfl) ?_
  refine lv_iload hx hb dL_law_1054 (lv_at hl 4 rfl) ?_
  refine lv_iconst (v := 1) hx hb dL_law_1056 (by decide) ?_
  refine lv_iadd hx hb dL_law_1057 ?_
  refine lv_topi (fun y1 ey1 => ?_)
  obtain rfl : y1 = nI (7 * k + 1) := ey1.trans (nI_add (7 * k) 1)
  refine va_sld hx hb hX hbl hbA hS (vp_in_nI (n := 7 * k + 1) (by omega) (by omega)) dL_law_1058 ?_
  refine lv_aload_n hx hb dL_law_1059 rfl (lv_at hl 0 rfl) ?_
  refine lv_iload hx hb dL_law_1060 (lv_at hl 4 rfl) ?_
  refine lv_iconst (v := 2) hx hb dL_law_1062 (by decide) ?_
  refine lv_iadd hx hb dL_law_1063 ?_
  refine lv_topi (fun y2 ey2 => ?_)
  obtain rfl : y2 = nI (7 * k + 2) := ey2.trans (nI_add (7 * k) 2)
  refine va_sld hx hb hX hbl hbA hS (vp_in_nI (n := 7 * k + 2) (by omega) (by omega)) dL_law_1064 ?_
  refine lv_aload_n hx hb dL_law_1065 rfl (lv_at hl 0 rfl) ?_
  refine lv_iload hx hb dL_law_1066 (lv_at hl 4 rfl) ?_
  refine lv_iconst (v := 3) hx hb dL_law_1068 (by decide) ?_
  refine lv_iadd hx hb dL_law_1069 ?_
  refine lv_topi (fun y3 ey3 => ?_)
  obtain rfl : y3 = nI (7 * k + 3) := ey3.trans (nI_add (7 * k) 3)
  refine va_sld hx hb hX hbl hbA hS (vp_in_nI (n := 7 * k + 3) (by omega) (by omega)) dL_law_1070 ?_
  refine lv_aload_n hx hb dL_law_1071 rfl (lv_at hl 0 rfl) ?_
  refine lv_iload hx hb dL_law_1072 (lv_at hl 4 rfl) ?_
  refine lv_iconst (v := 4) hx hb dL_law_1074 (by decide) ?_
  refine lv_iadd hx hb dL_law_1075 ?_
  refine lv_topi (fun y4 ey4 => ?_)
  obtain rfl : y4 = nI (7 * k + 4) := ey4.trans (nI_add (7 * k) 4)
  refine va_sld hx hb hX hbl hbA hS (vp_in_nI (n := 7 * k + 4) (by omega) (by omega)) dL_law_1076 ?_
  refine lv_aload_n hx hb dL_law_1077 rfl (lv_at hl 0 rfl) ?_
  refine lv_iload hx hb dL_law_1078 (lv_at hl 4 rfl) ?_
  refine lv_iconst (v := 5) hx hb dL_law_1080 (by decide) ?_
  refine lv_iadd hx hb dL_law_1081 ?_
  refine lv_topi (fun y5 ey5 => ?_)
  obtain rfl : y5 = nI (7 * k + 5) := ey5.trans (nI_add (7 * k) 5)
  refine va_sld hx hb hX hbl hbA hS (vp_in_nI (n := 7 * k + 5) (by omega) (by omega)) dL_law_1082 ?_
  obtain ⟨fsr, hPr⟩ := xi_recv hJX
  refine va_calli (va_runV (As := [.int (xs (nI (7 * k + 1)).toNatClampNeg), .int (xs (nI (7 * k + 2)).toNatClampNeg), .int (xs (nI (7 * k + 3)).toNatClampNeg), .int (xs (nI (7 * k + 4)).toNatClampNeg), .int (xs (nI (7 * k + 5)).toNatClampNeg)]) (rest := []) ⟨hx, hb, hml, hown, hts⟩ (k_X8_from l dC dI _ kI kB kQ xa XA Sx (xs (nI (7 * k + 1)).toNatClampNeg) (xs (nI (7 * k + 2)).toNatClampNeg) (xs (nI (7 * k + 3)).toNatClampNeg) (xs (nI (7 * k + 4)).toNatClampNeg) (xs (nI (7 * k + 5)).toNatClampNeg)) (cwV 5 hts gL_X8_from rfl rfl rfl (by decide +kernel) ⟨Nat.le_of_ble_eq_true rfl, Nat.le_of_ble_eq_true rfl⟩) ⟨xB_bl, va_recv hK hPr (ci := 8) (q0 := 0) rfl rfl, xB_in hJX (k3_of hK)⟩ rfl rfl hl.1 rfl (lv_room (Nat.le_of_ble_eq_true rfl)) dL_law_1083 ⟨by show _ ≤ 601024; omega, by show _ ≤ 7293034; omega⟩) hS (fun q _ h => lx_A dis.1 hA hS q h) (lx_A dis.1 hA hS) (fun r6 u t H1 locs ht hvm hw hB hz1 hk1 hS => ?_)
  have hJM := mi_keep hJM (fun q h1 h2 => hk1 q h1 (lx_no dis.2.2.2.1 h1 h2))
  have hPo := lx_o hPo dis.2.2.2.2.1 hk1
  have hwx : xM_from Sx (xs (nI (7 * k + 1)).toNatClampNeg) (xs (nI (7 * k + 2)).toNatClampNeg) (xs (nI (7 * k + 3)).toNatClampNeg) (xs (nI (7 * k + 4)).toNatClampNeg) (xs (nI (7 * k + 5)).toNatClampNeg) r6 u := hw
  have hJX : XInv (dC, dI) kI kB kQ xa XA u t.heap := hB
  generalize u = ux at hwx hJX
  rw [ht] at hJX
  clear hk1 hz1 ht hvm
  generalize H1 = H at hJX hJM hPo hS ⊢
  refine lv_pop hx hb dL_law_1086 rfl ?_
  refine lv_aload_n hx hb dL_law_1087 rfl (lv_at hl 2 rfl) ?_
  refine lv_aload_n hx hb dL_law_1088 rfl (lv_at hl 0 rfl) ?_
  refine lv_iload hx hb dL_law_1089 (lv_at hl 4 rfl) ?_
  refine lv_iconst (v := 1) hx hb dL_law_1091 (by decide) ?_
  refine lv_iadd hx hb dL_law_1092 ?_
  refine lv_topi (fun y7 ey7 => ?_)
  obtain rfl : y7 = nI (7 * k + 1) := ey7.trans (nI_add (7 * k) 1)
  refine va_sld hx hb hX hbl hbA hS (vp_in_nI (n := 7 * k + 1) (by omega) (by omega)) dL_law_1093 ?_
  refine lv_aload_n hx hb dL_law_1094 rfl (lv_at hl 0 rfl) ?_
  refine lv_iload hx hb dL_law_1095 (lv_at hl 4 rfl) ?_
  refine lv_iconst (v := 2) hx hb dL_law_1097 (by decide) ?_
  refine lv_iadd hx hb dL_law_1098 ?_
  refine lv_topi (fun y8 ey8 => ?_)
  obtain rfl : y8 = nI (7 * k + 2) := ey8.trans (nI_add (7 * k) 2)
  refine va_sld hx hb hX hbl hbA hS (vp_in_nI (n := 7 * k + 2) (by omega) (by omega)) dL_law_1099 ?_
  refine lv_aload_n hx hb dL_law_1100 rfl (lv_at hl 0 rfl) ?_
  refine lv_iload hx hb dL_law_1101 (lv_at hl 4 rfl) ?_
  refine lv_iconst (v := 3) hx hb dL_law_1103 (by decide) ?_
  refine lv_iadd hx hb dL_law_1104 ?_
  refine lv_topi (fun y9 ey9 => ?_)
  obtain rfl : y9 = nI (7 * k + 3) := ey9.trans (nI_add (7 * k) 3)
  refine va_sld hx hb hX hbl hbA hS (vp_in_nI (n := 7 * k + 3) (by omega) (by omega)) dL_law_1105 ?_
  refine lv_aload_n hx hb dL_law_1106 rfl (lv_at hl 0 rfl) ?_
  refine lv_iload hx hb dL_law_1107 (lv_at hl 4 rfl) ?_
  refine lv_iconst (v := 4) hx hb dL_law_1109 (by decide) ?_
  refine lv_iadd hx hb dL_law_1110 ?_
  refine lv_topi (fun y10 ey10 => ?_)
  obtain rfl : y10 = nI (7 * k + 4) := ey10.trans (nI_add (7 * k) 4)
  refine va_sld hx hb hX hbl hbA hS (vp_in_nI (n := 7 * k + 4) (by omega) (by omega)) dL_law_1111 ?_
  refine lv_aload_n hx hb dL_law_1112 rfl (lv_at hl 0 rfl) ?_
  refine lv_iload hx hb dL_law_1113 (lv_at hl 4 rfl) ?_
  refine lv_iconst (v := 5) hx hb dL_law_1115 (by decide) ?_
  refine lv_iadd hx hb dL_law_1116 ?_
  refine lv_topi (fun y11 ey11 => ?_)
  obtain rfl : y11 = nI (7 * k + 5) := ey11.trans (nI_add (7 * k) 5)
  refine va_sld hx hb hX hbl hbA hS (vp_in_nI (n := 7 * k + 5) (by omega) (by omega)) dL_law_1117 ?_
  obtain ⟨fsr, hPr⟩ := mi_recv hJM
  refine va_calli (va_runV (As := [.int (xs (nI (7 * k + 1)).toNatClampNeg), .int (xs (nI (7 * k + 2)).toNatClampNeg), .int (xs (nI (7 * k + 3)).toNatClampNeg), .int (xs (nI (7 * k + 4)).toNatClampNeg), .int (xs (nI (7 * k + 5)).toNatClampNeg)]) (rest := []) ⟨hx, hb, hml, hown, hts⟩ (k_X9_from l dC dI _ kI kB kQ ma MA Sm (xs (nI (7 * k + 1)).toNatClampNeg) (xs (nI (7 * k + 2)).toNatClampNeg) (xs (nI (7 * k + 3)).toNatClampNeg) (xs (nI (7 * k + 4)).toNatClampNeg) (xs (nI (7 * k + 5)).toNatClampNeg)) (cwV 5 hts gL_X9_from rfl rfl rfl (by decide +kernel) ⟨Nat.le_of_ble_eq_true rfl, Nat.le_of_ble_eq_true rfl⟩) ⟨xB_bl, va_recv hK hPr (ci := 9) (q0 := 0) rfl rfl, xB_in hJM (k3_of hK)⟩ rfl rfl hl.1 rfl (lv_room (Nat.le_of_ble_eq_true rfl)) dL_law_1118 ⟨by show _ ≤ 601024; omega, by show _ ≤ 7293034; omega⟩) hS (fun q _ h => lx_A dis.2.1 hA hS q h) (lx_A dis.2.1 hA hS) (fun r12 u t H1 locs ht hvm hw hB hz1 hk1 hS => ?_)
  have hJX := xi_keep hJX (fun q h1 h2 => hk1 q h1 (lx_no (fun q h g => dis.2.2.2.1 q g h) h1 h2))
  have hPo := lx_o hPo dis.2.2.2.2.2 hk1
  have hwm : mM_from Sm (xs (nI (7 * k + 1)).toNatClampNeg) (xs (nI (7 * k + 2)).toNatClampNeg) (xs (nI (7 * k + 3)).toNatClampNeg) (xs (nI (7 * k + 4)).toNatClampNeg) (xs (nI (7 * k + 5)).toNatClampNeg) r12 u := hw
  have hJM : MInv (dC, dI) kI kB ma MA u t.heap := hB
  generalize u = um at hwm hJM
  have hsr1 := sr_from hsr hfx hfm hwx hwm
  rw [ht] at hJM
  clear hk1 hz1 ht hvm
  generalize H1 = H at hJX hJM hPo hS ⊢
  refine lv_pop hx hb dL_law_1121 rfl ?_
  refine lv_goto (tgt := 1697) hx hb dL_law_1122 (by decide) ?_
  refine W.widen (k := cells + 1) (n := slots + 6) (by omega) (by omega) ?_
  exact hT _ _ _ ⟨ux, um, hsr1, hJX, hJM, fq, hPo⟩ hS (lv_sub hl [0, 1, 2, 3, 4] rfl)
set_option maxHeartbeats 4000000 in
set_option maxRecDepth 100000 in
theorem law_case_25 {p : Program} {e : Env} {s : State} {m : MethodId} {below : List Frame} {meth : Method} {c : Code} (l : Launch) (hlt : l.stackTraces = false) {b L : Nat} {xs : Nat → Int32} (C0 : lw_At p s m meth c b L xs) {A : Nat → Prop} (hA : ∀ q : Nat, s.heap.size ≤ q → A q) (hAs : ∀ q : Nat, A q → s.heap.size ≤ q) (hY : sy_E A s s.heap) {dC : Nat → ClassId} {dI : Nat → Nat → Nat} {kI kB kQ kL : ClassId} (hK : va_K (dC, dI) vwCl (k3 kI kB kQ ++ [(kL, .long)]) s) {xa ma qo : Nat} {XA MA : Nat → Prop} (dis : lw_dis XA MA qo A) (hL : L ≤ 3584) (k : Nat) (hk : 7 * k + 7 ≤ L) {H : Heap} {locs : List Loc} {ls : Array Slot} (hJ : LInv (dC, dI) kI kB kQ kL xa ma qo XA MA H) (hS : va_S A s.heap H locs) (hl : lv_has ls 7 [(0, .ref b), (1, .ref xa), (2, .ref ma), (3, .ref qo), (4, .int (nI (7 * k)))]) {cells slots : Nat} (hc : cells ≤ 600000) (hs : slots ≤ 7200000) (hT : ∀ (H : Heap) (locs : List Loc) (ls : Array Slot), LInv (dC, dI) kI kB kQ kL xa ma qo XA MA H → va_S A s.heap H locs → lv_has ls 7 [(0, .ref b), (1, .ref xa), (2, .ref ma), (3, .ref qo), (4, .int (nI (7 * k)))] → W p l e room_1 s m #[Value.ref b] below meth c H locs (cells + 1) (slots + 6) (lw_Z below #[Value.ref b] s) (F0 m 1697 ls [])) : W p l e room_1 s m #[Value.ref b] below meth c H locs cells slots (lw_Z below #[Value.ref b] s) (F0 m 1125 ls []) := by
  obtain ⟨hx, hb, hr, hml, hown0, hts0, hX, hbl, hlocks, hgv⟩ := id C0
  have hown : s.vm.findClass RL = some m.cls := hown0
  have hts : ∀ w ∈ vsL, w.before #[Value.ref b] s = true := fun w h => hts0 w (vsL_in w h)
  have hbA : ¬ A b := fun h => absurd (hAs b h) (Nat.not_le.mpr hbl)
  obtain ⟨Sx, Sm, hsr, hJX, hJM, fq, hPo⟩ := hJ
  have hfx := xi_fact hJX
  have hfm := mi_fact hJM
  refine lv_aload_n hx hb dL_law_1125 rfl (lv_at hl 1 rfl) ?_
  refine lv_aload_n hx hb dL_law_1126 rfl (lv_at hl 0 rfl) ?_
  refine lv_iload hx hb dL_law_1127 (lv_at hl 4 rfl) ?_
  refine lv_iconst (v := 1) hx hb dL_law_1129 (by decide) ?_
  refine lv_iadd hx hb dL_law_1130 ?_
  refine lv_topi (fun y1 ey1 => ?_)
  obtain rfl : y1 = nI (7 * k + 1) := ey1.trans (nI_add (7 * k) 1)
  refine va_sld hx hb hX hbl hbA hS (vp_in_nI (n := 7 * k + 1) (by omega) (by omega)) dL_law_1131 ?_
  refine lv_aload_n hx hb dL_law_1132 rfl (lv_at hl 0 rfl) ?_
  refine lv_iload hx hb dL_law_1133 (lv_at hl 4 rfl) ?_
  refine lv_iconst (v := 2) hx hb dL_law_1135 (by decide) ?_
  refine lv_iadd hx hb dL_law_1136 ?_
  refine lv_topi (fun y2 ey2 => ?_)
  obtain rfl : y2 = nI (7 * k + 2) := ey2.trans (nI_add (7 * k) 2)
  refine va_sld hx hb hX hbl hbA hS (vp_in_nI (n := 7 * k + 2) (by omega) (by omega)) dL_law_1137 ?_
  obtain ⟨fsr, hPr⟩ := xi_recv hJX
  refine va_calli (va_runV (As := [.int (xs (nI (7 * k + 1)).toNatClampNeg), .int (xs (nI (7 * k + 2)).toNatClampNeg)]) (rest := []) ⟨hx, hb, hml, hown, hts⟩ (k_X8_avoids l dC dI _ kI kB kQ xa XA Sx (xs (nI (7 * k + 1)).toNatClampNeg) (xs (nI (7 * k + 2)).toNatClampNeg)) (cwV 2 hts gL_X8_avoids rfl rfl rfl (by decide +kernel) ⟨Nat.le_of_ble_eq_true rfl, Nat.le_of_ble_eq_true rfl⟩) ⟨xB_bl, va_recv hK hPr (ci := 8) (q0 := 0) rfl rfl, xB_in hJX (k3_of hK)⟩ rfl rfl hl.1 rfl (lv_room (Nat.le_of_ble_eq_true rfl)) dL_law_1138 ⟨by show _ ≤ 601024; omega, by show _ ≤ 7293034; omega⟩) hS (fun q _ h => lx_A dis.1 hA hS q h) (lx_A dis.1 hA hS) (fun r3 u t H1 locs ht hvm hw hB hz1 hk1 hS => ?_)
  have hJM := mi_keep hJM (fun q h1 h2 => hk1 q h1 (lx_no dis.2.2.2.1 h1 h2))
  have hPo := lx_o hPo dis.2.2.2.2.1 hk1
  have hwx : xM_avoids Sx (xs (nI (7 * k + 1)).toNatClampNeg) (xs (nI (7 * k + 2)).toNatClampNeg) r3 u := hw
  have hJX : XInv (dC, dI) kI kB kQ xa XA u t.heap := hB
  generalize u = ux at hwx hJX
  rw [ht] at hJX
  clear hk1 hz1 ht hvm
  generalize H1 = H at hJX hJM hPo hS ⊢
  refine lv_pop hx hb dL_law_1141 rfl ?_
  refine lv_aload_n hx hb dL_law_1142 rfl (lv_at hl 2 rfl) ?_
  refine lv_aload_n hx hb dL_law_1143 rfl (lv_at hl 0 rfl) ?_
  refine lv_iload hx hb dL_law_1144 (lv_at hl 4 rfl) ?_
  refine lv_iconst (v := 1) hx hb dL_law_1146 (by decide) ?_
  refine lv_iadd hx hb dL_law_1147 ?_
  refine lv_topi (fun y4 ey4 => ?_)
  obtain rfl : y4 = nI (7 * k + 1) := ey4.trans (nI_add (7 * k) 1)
  refine va_sld hx hb hX hbl hbA hS (vp_in_nI (n := 7 * k + 1) (by omega) (by omega)) dL_law_1148 ?_
  refine lv_aload_n hx hb dL_law_1149 rfl (lv_at hl 0 rfl) ?_
  refine lv_iload hx hb dL_law_1150 (lv_at hl 4 rfl) ?_
  refine lv_iconst (v := 2) hx hb dL_law_1152 (by decide) ?_
  refine lv_iadd hx hb dL_law_1153 ?_
  refine lv_topi (fun y5 ey5 => ?_)
  obtain rfl : y5 = nI (7 * k + 2) := ey5.trans (nI_add (7 * k) 2)
  refine va_sld hx hb hX hbl hbA hS (vp_in_nI (n := 7 * k + 2) (by omega) (by omega)) dL_law_1154 ?_
  obtain ⟨fsr, hPr⟩ := mi_recv hJM
  refine va_calli (va_runV (As := [.int (xs (nI (7 * k + 1)).toNatClampNeg), .int (xs (nI (7 * k + 2)).toNatClampNeg)]) (rest := []) ⟨hx, hb, hml, hown, hts⟩ (k_X9_avoids l dC dI _ kI kB kQ ma MA Sm (xs (nI (7 * k + 1)).toNatClampNeg) (xs (nI (7 * k + 2)).toNatClampNeg)) (cwV 2 hts gL_X9_avoids rfl rfl rfl (by decide +kernel) ⟨Nat.le_of_ble_eq_true rfl, Nat.le_of_ble_eq_true rfl⟩) ⟨xB_bl, va_recv hK hPr (ci := 9) (q0 := 0) rfl rfl, xB_in hJM (k3_of hK)⟩ rfl rfl hl.1 rfl (lv_room (Nat.le_of_ble_eq_true rfl)) dL_law_1155 ⟨by show _ ≤ 601024; omega, by show _ ≤ 7293034; omega⟩) hS (fun q _ h => lx_A dis.2.1 hA hS q h) (lx_A dis.2.1 hA hS) (fun r6 u t H1 locs ht hvm hw hB hz1 hk1 hS => ?_)
  have hJX := xi_keep hJX (fun q h1 h2 => hk1 q h1 (lx_no (fun q h g => dis.2.2.2.1 q g h) h1 h2))
  have hPo := lx_o hPo dis.2.2.2.2.2 hk1
  have hwm : mM_avoids Sm (xs (nI (7 * k + 1)).toNatClampNeg) (xs (nI (7 * k + 2)).toNatClampNeg) r6 u := hw
  have hJM : MInv (dC, dI) kI kB ma MA u t.heap := hB
  generalize u = um at hwm hJM
  have hsr1 := sr_avoids hsr hfx hfm hwx hwm
  rw [ht] at hJM
  clear hk1 hz1 ht hvm
  generalize H1 = H at hJX hJM hPo hS ⊢
  refine lv_pop hx hb dL_law_1158 rfl ?_
  refine lv_goto (tgt := 1697) hx hb dL_law_1159 (by decide) ?_
  refine W.widen (k := cells + 1) (n := slots + 6) (by omega) (by omega) ?_
  exact hT _ _ _ ⟨ux, um, hsr1, hJX, hJM, fq, hPo⟩ hS (lv_sub hl [0, 1, 2, 3, 4] rfl)
set_option maxHeartbeats 4000000 in
set_option maxRecDepth 100000 in
theorem law_case_26 {p : Program} {e : Env} {s : State} {m : MethodId} {below : List Frame} {meth : Method} {c : Code} (l : Launch) (hlt : l.stackTraces = false) {b L : Nat} {xs : Nat → Int32} (C0 : lw_At p s m meth c b L xs) {A : Nat → Prop} (hA : ∀ q : Nat, s.heap.size ≤ q → A q) (hAs : ∀ q : Nat, A q → s.heap.size ≤ q) (hY : sy_E A s s.heap) {dC : Nat → ClassId} {dI : Nat → Nat → Nat} {kI kB kQ kL : ClassId} (hK : va_K (dC, dI) vwCl (k3 kI kB kQ ++ [(kL, .long)]) s) {xa ma qo : Nat} {XA MA : Nat → Prop} (dis : lw_dis XA MA qo A) (hL : L ≤ 3584) (k : Nat) (hk : 7 * k + 7 ≤ L) {H : Heap} {locs : List Loc} {ls : Array Slot} (hJ : LInv (dC, dI) kI kB kQ kL xa ma qo XA MA H) (hS : va_S A s.heap H locs) (hl : lv_has ls 7 [(0, .ref b), (1, .ref xa), (2, .ref ma), (3, .ref qo), (4, .int (nI (7 * k)))]) {cells slots : Nat} (hc : cells ≤ 600000) (hs : slots ≤ 7200000) (hT : ∀ (H : Heap) (locs : List Loc) (ls : Array Slot), LInv (dC, dI) kI kB kQ kL xa ma qo XA MA H → va_S A s.heap H locs → lv_has ls 7 [(0, .ref b), (1, .ref xa), (2, .ref ma), (3, .ref qo), (4, .int (nI (7 * k)))] → W p l e room_1 s m #[Value.ref b] below meth c H locs (cells + 1) (slots + 6) (lw_Z below #[Value.ref b] s) (F0 m 1697 ls [])) : W p l e room_1 s m #[Value.ref b] below meth c H locs cells slots (lw_Z below #[Value.ref b] s) (F0 m 1162 ls []) := by
  obtain ⟨hx, hb, hr, hml, hown0, hts0, hX, hbl, hlocks, hgv⟩ := id C0
  have hown : s.vm.findClass RL = some m.cls := hown0
  have hts : ∀ w ∈ vsL, w.before #[Value.ref b] s = true := fun w h => hts0 w (vsL_in w h)
  have hbA : ¬ A b := fun h => absurd (hAs b h) (Nat.not_le.mpr hbl)
  obtain ⟨Sx, Sm, hsr, hJX, hJM, fq, hPo⟩ := hJ
  have hfx := xi_fact hJX
  have hfm := mi_fact hJM
  refine lv_aload_n hx hb dL_law_1162 rfl (lv_at hl 1 rfl) ?_
  refine lv_aload_n hx hb dL_law_1163 rfl (lv_at hl 0 rfl) ?_
  refine lv_iload hx hb dL_law_1164 (lv_at hl 4 rfl) ?_
  refine lv_iconst (v := 1) hx hb dL_law_1166 (by decide) ?_
  refine lv_iadd hx hb dL_law_1167 ?_
  refine lv_topi (fun y1 ey1 => ?_)
  obtain rfl : y1 = nI (7 * k + 1) := ey1.trans (nI_add (7 * k) 1)
  refine va_sld hx hb hX hbl hbA hS (vp_in_nI (n := 7 * k + 1) (by omega) (by omega)) dL_law_1168 ?_
  refine lv_aload_n hx hb dL_law_1169 rfl (lv_at hl 0 rfl) ?_
  refine lv_iload hx hb dL_law_1170 (lv_at hl 4 rfl) ?_
  refine lv_iconst (v := 2) hx hb dL_law_1172 (by decide) ?_
  refine lv_iadd hx hb dL_law_1173 ?_
  refine lv_topi (fun y2 ey2 => ?_)
  obtain rfl : y2 = nI (7 * k + 2) := ey2.trans (nI_add (7 * k) 2)
  refine va_sld hx hb hX hbl hbA hS (vp_in_nI (n := 7 * k + 2) (by omega) (by omega)) dL_law_1174 ?_
  obtain ⟨fsr, hPr⟩ := xi_recv hJX
  refine va_calli (va_runV (As := [.int (xs (nI (7 * k + 1)).toNatClampNeg), .int (xs (nI (7 * k + 2)).toNatClampNeg)]) (rest := []) ⟨hx, hb, hml, hown, hts⟩ (k_X8_run l dC dI _ kI kB kQ xa XA Sx (xs (nI (7 * k + 1)).toNatClampNeg) (xs (nI (7 * k + 2)).toNatClampNeg)) (cwV 2 hts gL_X8_run rfl rfl rfl (by decide +kernel) ⟨Nat.le_of_ble_eq_true rfl, Nat.le_of_ble_eq_true rfl⟩) ⟨xB_bl, va_recv hK hPr (ci := 8) (q0 := 0) rfl rfl, xB_in hJX (k3_of hK)⟩ rfl rfl hl.1 rfl (lv_room (Nat.le_of_ble_eq_true rfl)) dL_law_1175 ⟨by show _ ≤ 601024; omega, by show _ ≤ 7293034; omega⟩) hS (fun q _ h => lx_A dis.1 hA hS q h) (lx_A dis.1 hA hS) (fun r3 u t H1 locs ht hvm hw hB hz1 hk1 hS => ?_)
  have hJM := mi_keep hJM (fun q h1 h2 => hk1 q h1 (lx_no dis.2.2.2.1 h1 h2))
  have hPo := lx_o hPo dis.2.2.2.2.1 hk1
  have hwx : xM_run Sx (xs (nI (7 * k + 1)).toNatClampNeg) (xs (nI (7 * k + 2)).toNatClampNeg) r3 u := hw
  have hJX : XInv (dC, dI) kI kB kQ xa XA u t.heap := hB
  generalize u = ux at hwx hJX
  rw [ht] at hJX
  clear hk1 hz1 ht hvm
  generalize H1 = H at hJX hJM hPo hS ⊢
  refine lv_pop hx hb dL_law_1178 rfl ?_
  refine lv_aload_n hx hb dL_law_1179 rfl (lv_at hl 2 rfl) ?_
  refine lv_aload_n hx hb dL_law_1180 rfl (lv_at hl 0 rfl) ?_
  refine lv_iload hx hb dL_law_1181 (lv_at hl 4 rfl) ?_
  refine lv_iconst (v := 1) hx hb dL_law_1183 (by decide) ?_
  refine lv_iadd hx hb dL_law_1184 ?_
  refine lv_topi (fun y4 ey4 => ?_)
  obtain rfl : y4 = nI (7 * k + 1) := ey4.trans (nI_add (7 * k) 1)
  refine va_sld hx hb hX hbl hbA hS (vp_in_nI (n := 7 * k + 1) (by omega) (by omega)) dL_law_1185 ?_
  refine lv_aload_n hx hb dL_law_1186 rfl (lv_at hl 0 rfl) ?_
  refine lv_iload hx hb dL_law_1187 (lv_at hl 4 rfl) ?_
  refine lv_iconst (v := 2) hx hb dL_law_1189 (by decide) ?_
  refine lv_iadd hx hb dL_law_1190 ?_
  refine lv_topi (fun y5 ey5 => ?_)
  obtain rfl : y5 = nI (7 * k + 2) := ey5.trans (nI_add (7 * k) 2)
  refine va_sld hx hb hX hbl hbA hS (vp_in_nI (n := 7 * k + 2) (by omega) (by omega)) dL_law_1191 ?_
  obtain ⟨fsr, hPr⟩ := mi_recv hJM
  refine va_calli (va_runV (As := [.int (xs (nI (7 * k + 1)).toNatClampNeg), .int (xs (nI (7 * k + 2)).toNatClampNeg)]) (rest := []) ⟨hx, hb, hml, hown, hts⟩ (k_X9_run l dC dI _ kI kB kQ ma MA Sm (xs (nI (7 * k + 1)).toNatClampNeg) (xs (nI (7 * k + 2)).toNatClampNeg)) (cwV 2 hts gL_X9_run rfl rfl rfl (by decide +kernel) ⟨Nat.le_of_ble_eq_true rfl, Nat.le_of_ble_eq_true rfl⟩) ⟨xB_bl, va_recv hK hPr (ci := 9) (q0 := 0) rfl rfl, xB_in hJM (k3_of hK)⟩ rfl rfl hl.1 rfl (lv_room (Nat.le_of_ble_eq_true rfl)) dL_law_1192 ⟨by show _ ≤ 601024; omega, by show _ ≤ 7293034; omega⟩) hS (fun q _ h => lx_A dis.2.1 hA hS q h) (lx_A dis.2.1 hA hS) (fun r6 u t H1 locs ht hvm hw hB hz1 hk1 hS => ?_)
  have hJX := xi_keep hJX (fun q h1 h2 => hk1 q h1 (lx_no (fun q h g => dis.2.2.2.1 q g h) h1 h2))
  have hPo := lx_o hPo dis.2.2.2.2.2 hk1
  have hwm : mM_run Sm (xs (nI (7 * k + 1)).toNatClampNeg) (xs (nI (7 * k + 2)).toNatClampNeg) r6 u := hw
  have hJM : MInv (dC, dI) kI kB ma MA u t.heap := hB
  generalize u = um at hwm hJM
  have hsr1 := sr_run hsr hfx hfm hwx hwm
  rw [ht] at hJM
  clear hk1 hz1 ht hvm
  generalize H1 = H at hJX hJM hPo hS ⊢
  refine lv_pop hx hb dL_law_1195 rfl ?_
  refine lv_goto (tgt := 1697) hx hb dL_law_1196 (by decide) ?_
  refine W.widen (k := cells + 1) (n := slots + 6) (by omega) (by omega) ?_
  exact hT _ _ _ ⟨ux, um, hsr1, hJX, hJM, fq, hPo⟩ hS (lv_sub hl [0, 1, 2, 3, 4] rfl)
set_option maxHeartbeats 4000000 in
set_option maxRecDepth 100000 in
theorem law_case_27 {p : Program} {e : Env} {s : State} {m : MethodId} {below : List Frame} {meth : Method} {c : Code} (l : Launch) (hlt : l.stackTraces = false) {b L : Nat} {xs : Nat → Int32} (C0 : lw_At p s m meth c b L xs) {A : Nat → Prop} (hA : ∀ q : Nat, s.heap.size ≤ q → A q) (hAs : ∀ q : Nat, A q → s.heap.size ≤ q) (hY : sy_E A s s.heap) {dC : Nat → ClassId} {dI : Nat → Nat → Nat} {kI kB kQ kL : ClassId} (hK : va_K (dC, dI) vwCl (k3 kI kB kQ ++ [(kL, .long)]) s) {xa ma qo : Nat} {XA MA : Nat → Prop} (dis : lw_dis XA MA qo A) (hL : L ≤ 3584) (k : Nat) (hk : 7 * k + 7 ≤ L) {H : Heap} {locs : List Loc} {ls : Array Slot} (hJ : LInv (dC, dI) kI kB kQ kL xa ma qo XA MA H) (hS : va_S A s.heap H locs) (hl : lv_has ls 7 [(0, .ref b), (1, .ref xa), (2, .ref ma), (3, .ref qo), (4, .int (nI (7 * k)))]) {cells slots : Nat} (hc : cells ≤ 600000) (hs : slots ≤ 7200000) (hT : ∀ (H : Heap) (locs : List Loc) (ls : Array Slot), LInv (dC, dI) kI kB kQ kL xa ma qo XA MA H → va_S A s.heap H locs → lv_has ls 7 [(0, .ref b), (1, .ref xa), (2, .ref ma), (3, .ref qo), (4, .int (nI (7 * k)))] → W p l e room_1 s m #[Value.ref b] below meth c H locs (cells + 1) (slots + 6) (lw_Z below #[Value.ref b] s) (F0 m 1697 ls [])) : W p l e room_1 s m #[Value.ref b] below meth c H locs cells slots (lw_Z below #[Value.ref b] s) (F0 m 1199 ls []) := by
  obtain ⟨hx, hb, hr, hml, hown0, hts0, hX, hbl, hlocks, hgv⟩ := id C0
  have hown : s.vm.findClass RL = some m.cls := hown0
  have hts : ∀ w ∈ vsL, w.before #[Value.ref b] s = true := fun w h => hts0 w (vsL_in w h)
  have hbA : ¬ A b := fun h => absurd (hAs b h) (Nat.not_le.mpr hbl)
  obtain ⟨Sx, Sm, hsr, hJX, hJM, fq, hPo⟩ := hJ
  have hfx := xi_fact hJX
  have hfm := mi_fact hJM
  refine lv_aload_n hx hb dL_law_1199 rfl (lv_at hl 1 rfl) ?_
  refine lv_aload_n hx hb dL_law_1200 rfl (lv_at hl 0 rfl) ?_
  refine lv_iload hx hb dL_law_1201 (lv_at hl 4 rfl) ?_
  refine lv_iconst (v := 1) hx hb dL_law_1203 (by decide) ?_
  refine lv_iadd hx hb dL_law_1204 ?_
  refine lv_topi (fun y1 ey1 => ?_)
  obtain rfl : y1 = nI (7 * k + 1) := ey1.trans (nI_add (7 * k) 1)
  refine va_sld hx hb hX hbl hbA hS (vp_in_nI (n := 7 * k + 1) (by omega) (by omega)) dL_law_1205 ?_
  refine lv_aload_n hx hb dL_law_1206 rfl (lv_at hl 0 rfl) ?_
  refine lv_iload hx hb dL_law_1207 (lv_at hl 4 rfl) ?_
  refine lv_iconst (v := 2) hx hb dL_law_1209 (by decide) ?_
  refine lv_iadd hx hb dL_law_1210 ?_
  refine lv_topi (fun y2 ey2 => ?_)
  obtain rfl : y2 = nI (7 * k + 2) := ey2.trans (nI_add (7 * k) 2)
  refine va_sld hx hb hX hbl hbA hS (vp_in_nI (n := 7 * k + 2) (by omega) (by omega)) dL_law_1211 ?_
  obtain ⟨fsr, hPr⟩ := xi_recv hJX
  refine va_calli (va_runV (As := [.int (xs (nI (7 * k + 1)).toNatClampNeg), .int (xs (nI (7 * k + 2)).toNatClampNeg)]) (rest := []) ⟨hx, hb, hml, hown, hts⟩ (k_X8_when l dC dI _ kI kB kQ xa XA Sx (xs (nI (7 * k + 1)).toNatClampNeg) (xs (nI (7 * k + 2)).toNatClampNeg)) (cwV 2 hts gL_X8_when rfl rfl rfl (by decide +kernel) ⟨Nat.le_of_ble_eq_true rfl, Nat.le_of_ble_eq_true rfl⟩) ⟨xB_bl, va_recv hK hPr (ci := 8) (q0 := 0) rfl rfl, xB_in hJX (k3_of hK)⟩ rfl rfl hl.1 rfl (lv_room (Nat.le_of_ble_eq_true rfl)) dL_law_1212 ⟨by show _ ≤ 601024; omega, by show _ ≤ 7293034; omega⟩) hS (fun q _ h => lx_A dis.1 hA hS q h) (lx_A dis.1 hA hS) (fun r3 u t H1 locs ht hvm hw hB hz1 hk1 hS => ?_)
  have hJM := mi_keep hJM (fun q h1 h2 => hk1 q h1 (lx_no dis.2.2.2.1 h1 h2))
  have hPo := lx_o hPo dis.2.2.2.2.1 hk1
  have hwx : xM_when Sx (xs (nI (7 * k + 1)).toNatClampNeg) (xs (nI (7 * k + 2)).toNatClampNeg) r3 u := hw
  have hJX : XInv (dC, dI) kI kB kQ xa XA u t.heap := hB
  generalize u = ux at hwx hJX
  rw [ht] at hJX
  clear hk1 hz1 ht hvm
  generalize H1 = H at hJX hJM hPo hS ⊢
  refine lv_pop hx hb dL_law_1215 rfl ?_
  refine lv_aload_n hx hb dL_law_1216 rfl (lv_at hl 2 rfl) ?_
  refine lv_aload_n hx hb dL_law_1217 rfl (lv_at hl 0 rfl) ?_
  refine lv_iload hx hb dL_law_1218 (lv_at hl 4 rfl) ?_
  refine lv_iconst (v := 1) hx hb dL_law_1220 (by decide) ?_
  refine lv_iadd hx hb dL_law_1221 ?_
  refine lv_topi (fun y4 ey4 => ?_)
  obtain rfl : y4 = nI (7 * k + 1) := ey4.trans (nI_add (7 * k) 1)
  refine va_sld hx hb hX hbl hbA hS (vp_in_nI (n := 7 * k + 1) (by omega) (by omega)) dL_law_1222 ?_
  refine lv_aload_n hx hb dL_law_1223 rfl (lv_at hl 0 rfl) ?_
  refine lv_iload hx hb dL_law_1224 (lv_at hl 4 rfl) ?_
  refine lv_iconst (v := 2) hx hb dL_law_1226 (by decide) ?_
  refine lv_iadd hx hb dL_law_1227 ?_
  refine lv_topi (fun y5 ey5 => ?_)
  obtain rfl : y5 = nI (7 * k + 2) := ey5.trans (nI_add (7 * k) 2)
  refine va_sld hx hb hX hbl hbA hS (vp_in_nI (n := 7 * k + 2) (by omega) (by omega)) dL_law_1228 ?_
  obtain ⟨fsr, hPr⟩ := mi_recv hJM
  refine va_calli (va_runV (As := [.int (xs (nI (7 * k + 1)).toNatClampNeg), .int (xs (nI (7 * k + 2)).toNatClampNeg)]) (rest := []) ⟨hx, hb, hml, hown, hts⟩ (k_X9_when l dC dI _ kI kB kQ ma MA Sm (xs (nI (7 * k + 1)).toNatClampNeg) (xs (nI (7 * k + 2)).toNatClampNeg)) (cwV 2 hts gL_X9_when rfl rfl rfl (by decide +kernel) ⟨Nat.le_of_ble_eq_true rfl, Nat.le_of_ble_eq_true rfl⟩) ⟨xB_bl, va_recv hK hPr (ci := 9) (q0 := 0) rfl rfl, xB_in hJM (k3_of hK)⟩ rfl rfl hl.1 rfl (lv_room (Nat.le_of_ble_eq_true rfl)) dL_law_1229 ⟨by show _ ≤ 601024; omega, by show _ ≤ 7293034; omega⟩) hS (fun q _ h => lx_A dis.2.1 hA hS q h) (lx_A dis.2.1 hA hS) (fun r6 u t H1 locs ht hvm hw hB hz1 hk1 hS => ?_)
  have hJX := xi_keep hJX (fun q h1 h2 => hk1 q h1 (lx_no (fun q h g => dis.2.2.2.1 q g h) h1 h2))
  have hPo := lx_o hPo dis.2.2.2.2.2 hk1
  have hwm : mM_when Sm (xs (nI (7 * k + 1)).toNatClampNeg) (xs (nI (7 * k + 2)).toNatClampNeg) r6 u := hw
  have hJM : MInv (dC, dI) kI kB ma MA u t.heap := hB
  generalize u = um at hwm hJM
  have hsr1 := sr_when hsr hfx hfm hwx hwm
  rw [ht] at hJM
  clear hk1 hz1 ht hvm
  generalize H1 = H at hJX hJM hPo hS ⊢
  refine lv_pop hx hb dL_law_1232 rfl ?_
  refine lv_goto (tgt := 1697) hx hb dL_law_1233 (by decide) ?_
  refine W.widen (k := cells + 1) (n := slots + 6) (by omega) (by omega) ?_
  exact hT _ _ _ ⟨ux, um, hsr1, hJX, hJM, fq, hPo⟩ hS (lv_sub hl [0, 1, 2, 3, 4] rfl)
set_option maxHeartbeats 4000000 in
set_option maxRecDepth 100000 in
theorem law_case_28 {p : Program} {e : Env} {s : State} {m : MethodId} {below : List Frame} {meth : Method} {c : Code} (l : Launch) (hlt : l.stackTraces = false) {b L : Nat} {xs : Nat → Int32} (C0 : lw_At p s m meth c b L xs) {A : Nat → Prop} (hA : ∀ q : Nat, s.heap.size ≤ q → A q) (hAs : ∀ q : Nat, A q → s.heap.size ≤ q) (hY : sy_E A s s.heap) {dC : Nat → ClassId} {dI : Nat → Nat → Nat} {kI kB kQ kL : ClassId} (hK : va_K (dC, dI) vwCl (k3 kI kB kQ ++ [(kL, .long)]) s) {xa ma qo : Nat} {XA MA : Nat → Prop} (dis : lw_dis XA MA qo A) (hL : L ≤ 3584) (k : Nat) (hk : 7 * k + 7 ≤ L) {H : Heap} {locs : List Loc} {ls : Array Slot} (hJ : LInv (dC, dI) kI kB kQ kL xa ma qo XA MA H) (hS : va_S A s.heap H locs) (hl : lv_has ls 7 [(0, .ref b), (1, .ref xa), (2, .ref ma), (3, .ref qo), (4, .int (nI (7 * k)))]) {cells slots : Nat} (hc : cells ≤ 600000) (hs : slots ≤ 7200000) (hT : ∀ (H : Heap) (locs : List Loc) (ls : Array Slot), LInv (dC, dI) kI kB kQ kL xa ma qo XA MA H → va_S A s.heap H locs → lv_has ls 7 [(0, .ref b), (1, .ref xa), (2, .ref ma), (3, .ref qo), (4, .int (nI (7 * k)))] → W p l e room_1 s m #[Value.ref b] below meth c H locs (cells + 1) (slots + 6) (lw_Z below #[Value.ref b] s) (F0 m 1697 ls [])) : W p l e room_1 s m #[Value.ref b] below meth c H locs cells slots (lw_Z below #[Value.ref b] s) (F0 m 1236 ls []) := by
  obtain ⟨hx, hb, hr, hml, hown0, hts0, hX, hbl, hlocks, hgv⟩ := id C0
  have hown : s.vm.findClass RL = some m.cls := hown0
  have hts : ∀ w ∈ vsL, w.before #[Value.ref b] s = true := fun w h => hts0 w (vsL_in w h)
  have hbA : ¬ A b := fun h => absurd (hAs b h) (Nat.not_le.mpr hbl)
  obtain ⟨Sx, Sm, hsr, hJX, hJM, fq, hPo⟩ := hJ
  have hfx := xi_fact hJX
  have hfm := mi_fact hJM
  refine lv_aload_n hx hb dL_law_1236 rfl (lv_at hl 1 rfl) ?_
  refine lv_aload_n hx hb dL_law_1237 rfl (lv_at hl 0 rfl) ?_
  refine lv_iload hx hb dL_law_1238 (lv_at hl 4 rfl) ?_
  refine lv_iconst (v := 1) hx hb dL_law_1240 (by decide) ?_
  refine lv_iadd hx hb dL_law_1241 ?_
  refine lv_topi (fun y1 ey1 => ?_)
  obtain rfl : y1 = nI (7 * k + 1) := ey1.trans (nI_add (7 * k) 1)
  refine va_sld hx hb hX hbl hbA hS (vp_in_nI (n := 7 * k + 1) (by omega) (by omega)) dL_law_1242 ?_
  refine lv_aload_n hx hb dL_law_1243 rfl (lv_at hl 0 rfl) ?_
  refine lv_iload hx hb dL_law_1244 (lv_at hl 4 rfl) ?_
  refine lv_iconst (v := 2) hx hb dL_law_1246 (by decide) ?_
  refine lv_iadd hx hb dL_law_1247 ?_
  refine lv_topi (fun y2 ey2 => ?_)
  obtain rfl : y2 = nI (7 * k + 2) := ey2.trans (nI_add (7 * k) 2)
  refine va_sld hx hb hX hbl hbA hS (vp_in_nI (n := 7 * k + 2) (by omega) (by omega)) dL_law_1248 ?_
  refine lv_aload_n hx hb dL_law_1249 rfl (lv_at hl 0 rfl) ?_
  refine lv_iload hx hb dL_law_1250 (lv_at hl 4 rfl) ?_
  refine lv_iconst (v := 3) hx hb dL_law_1252 (by decide) ?_
  refine lv_iadd hx hb dL_law_1253 ?_
  refine lv_topi (fun y3 ey3 => ?_)
  obtain rfl : y3 = nI (7 * k + 3) := ey3.trans (nI_add (7 * k) 3)
  refine va_sld hx hb hX hbl hbA hS (vp_in_nI (n := 7 * k + 3) (by omega) (by omega)) dL_law_1254 ?_
  obtain ⟨fsr, hPr⟩ := xi_recv hJX
  refine va_calli (va_runV (As := [.int (xs (nI (7 * k + 1)).toNatClampNeg), .int (xs (nI (7 * k + 2)).toNatClampNeg), .int (xs (nI (7 * k + 3)).toNatClampNeg)]) (rest := []) ⟨hx, hb, hml, hown, hts⟩ (k_X8_then l dC dI _ kI kB kQ xa XA Sx (xs (nI (7 * k + 1)).toNatClampNeg) (xs (nI (7 * k + 2)).toNatClampNeg) (xs (nI (7 * k + 3)).toNatClampNeg)) (cwV 3 hts gL_X8_then rfl rfl rfl (by decide +kernel) ⟨Nat.le_of_ble_eq_true rfl, Nat.le_of_ble_eq_true rfl⟩) ⟨xB_bl, va_recv hK hPr (ci := 8) (q0 := 0) rfl rfl, xB_in hJX (k3_of hK)⟩ rfl rfl hl.1 rfl (lv_room (Nat.le_of_ble_eq_true rfl)) dL_law_1255 ⟨by show _ ≤ 601024; omega, by show _ ≤ 7293034; omega⟩) hS (fun q _ h => lx_A dis.1 hA hS q h) (lx_A dis.1 hA hS) (fun r4 u t H1 locs ht hvm hw hB hz1 hk1 hS => ?_)
  have hJM := mi_keep hJM (fun q h1 h2 => hk1 q h1 (lx_no dis.2.2.2.1 h1 h2))
  have hPo := lx_o hPo dis.2.2.2.2.1 hk1
  have hwx : xM_then Sx (xs (nI (7 * k + 1)).toNatClampNeg) (xs (nI (7 * k + 2)).toNatClampNeg) (xs (nI (7 * k + 3)).toNatClampNeg) r4 u := hw
  have hJX : XInv (dC, dI) kI kB kQ xa XA u t.heap := hB
  generalize u = ux at hwx hJX
  rw [ht] at hJX
  clear hk1 hz1 ht hvm
  generalize H1 = H at hJX hJM hPo hS ⊢
  refine lv_pop hx hb dL_law_1258 rfl ?_
  refine lv_aload_n hx hb dL_law_1259 rfl (lv_at hl 2 rfl) ?_
  refine lv_aload_n hx hb dL_law_1260 rfl (lv_at hl 0 rfl) ?_
  refine lv_iload hx hb dL_law_1261 (lv_at hl 4 rfl) ?_
  refine lv_iconst (v := 1) hx hb dL_law_1263 (by decide) ?_
  refine lv_iadd hx hb dL_law_1264 ?_
  refine lv_topi (fun y5 ey5 => ?_)
  obtain rfl : y5 = nI (7 * k + 1) := ey5.trans (nI_add (7 * k) 1)
  refine va_sld hx hb hX hbl hbA hS (vp_in_nI (n := 7 * k + 1) (by omega) (by omega)) dL_law_1265 ?_
  refine lv_aload_n hx hb dL_law_1266 rfl (lv_at hl 0 rfl) ?_
  refine lv_iload hx hb dL_law_1267 (lv_at hl 4 rfl) ?_
  refine lv_iconst (v := 2) hx hb dL_law_1269 (by decide) ?_
  refine lv_iadd hx hb dL_law_1270 ?_
  refine lv_topi (fun y6 ey6 => ?_)
  obtain rfl : y6 = nI (7 * k + 2) := ey6.trans (nI_add (7 * k) 2)
  refine va_sld hx hb hX hbl hbA hS (vp_in_nI (n := 7 * k + 2) (by omega) (by omega)) dL_law_1271 ?_
  refine lv_aload_n hx hb dL_law_1272 rfl (lv_at hl 0 rfl) ?_
  refine lv_iload hx hb dL_law_1273 (lv_at hl 4 rfl) ?_
  refine lv_iconst (v := 3) hx hb dL_law_1275 (by decide) ?_
  refine lv_iadd hx hb dL_law_1276 ?_
  refine lv_topi (fun y7 ey7 => ?_)
  obtain rfl : y7 = nI (7 * k + 3) := ey7.trans (nI_add (7 * k) 3)
  refine va_sld hx hb hX hbl hbA hS (vp_in_nI (n := 7 * k + 3) (by omega) (by omega)) dL_law_1277 ?_
  obtain ⟨fsr, hPr⟩ := mi_recv hJM
  refine va_calli (va_runV (As := [.int (xs (nI (7 * k + 1)).toNatClampNeg), .int (xs (nI (7 * k + 2)).toNatClampNeg), .int (xs (nI (7 * k + 3)).toNatClampNeg)]) (rest := []) ⟨hx, hb, hml, hown, hts⟩ (k_X9_then l dC dI _ kI kB kQ ma MA Sm (xs (nI (7 * k + 1)).toNatClampNeg) (xs (nI (7 * k + 2)).toNatClampNeg) (xs (nI (7 * k + 3)).toNatClampNeg)) (cwV 3 hts gL_X9_then rfl rfl rfl (by decide +kernel) ⟨Nat.le_of_ble_eq_true rfl, Nat.le_of_ble_eq_true rfl⟩) ⟨xB_bl, va_recv hK hPr (ci := 9) (q0 := 0) rfl rfl, xB_in hJM (k3_of hK)⟩ rfl rfl hl.1 rfl (lv_room (Nat.le_of_ble_eq_true rfl)) dL_law_1278 ⟨by show _ ≤ 601024; omega, by show _ ≤ 7293034; omega⟩) hS (fun q _ h => lx_A dis.2.1 hA hS q h) (lx_A dis.2.1 hA hS) (fun r8 u t H1 locs ht hvm hw hB hz1 hk1 hS => ?_)
  have hJX := xi_keep hJX (fun q h1 h2 => hk1 q h1 (lx_no (fun q h g => dis.2.2.2.1 q g h) h1 h2))
  have hPo := lx_o hPo dis.2.2.2.2.2 hk1
  have hwm : mM_then Sm (xs (nI (7 * k + 1)).toNatClampNeg) (xs (nI (7 * k + 2)).toNatClampNeg) (xs (nI (7 * k + 3)).toNatClampNeg) r8 u := hw
  have hJM : MInv (dC, dI) kI kB ma MA u t.heap := hB
  generalize u = um at hwm hJM
  have hsr1 := sr_then hsr hfx hfm hwx hwm
  rw [ht] at hJM
  clear hk1 hz1 ht hvm
  generalize H1 = H at hJX hJM hPo hS ⊢
  refine lv_pop hx hb dL_law_1281 rfl ?_
  refine lv_goto (tgt := 1697) hx hb dL_law_1282 (by decide) ?_
  refine W.widen (k := cells + 1) (n := slots + 6) (by omega) (by omega) ?_
  exact hT _ _ _ ⟨ux, um, hsr1, hJX, hJM, fq, hPo⟩ hS (lv_sub hl [0, 1, 2, 3, 4] rfl)
set_option maxHeartbeats 4000000 in
set_option maxRecDepth 100000 in
theorem law_case_29 {p : Program} {e : Env} {s : State} {m : MethodId} {below : List Frame} {meth : Method} {c : Code} (l : Launch) (hlt : l.stackTraces = false) {b L : Nat} {xs : Nat → Int32} (C0 : lw_At p s m meth c b L xs) {A : Nat → Prop} (hA : ∀ q : Nat, s.heap.size ≤ q → A q) (hAs : ∀ q : Nat, A q → s.heap.size ≤ q) (hY : sy_E A s s.heap) {dC : Nat → ClassId} {dI : Nat → Nat → Nat} {kI kB kQ kL : ClassId} (hK : va_K (dC, dI) vwCl (k3 kI kB kQ ++ [(kL, .long)]) s) {xa ma qo : Nat} {XA MA : Nat → Prop} (dis : lw_dis XA MA qo A) (hL : L ≤ 3584) (k : Nat) (hk : 7 * k + 7 ≤ L) {H : Heap} {locs : List Loc} {ls : Array Slot} (hJ : LInv (dC, dI) kI kB kQ kL xa ma qo XA MA H) (hS : va_S A s.heap H locs) (hl : lv_has ls 7 [(0, .ref b), (1, .ref xa), (2, .ref ma), (3, .ref qo), (4, .int (nI (7 * k)))]) {cells slots : Nat} (hc : cells ≤ 600000) (hs : slots ≤ 7200000) (hT : ∀ (H : Heap) (locs : List Loc) (ls : Array Slot), LInv (dC, dI) kI kB kQ kL xa ma qo XA MA H → va_S A s.heap H locs → lv_has ls 7 [(0, .ref b), (1, .ref xa), (2, .ref ma), (3, .ref qo), (4, .int (nI (7 * k)))] → W p l e room_1 s m #[Value.ref b] below meth c H locs (cells + 1) (slots + 6) (lw_Z below #[Value.ref b] s) (F0 m 1697 ls [])) : W p l e room_1 s m #[Value.ref b] below meth c H locs cells slots (lw_Z below #[Value.ref b] s) (F0 m 1285 ls []) := by
  obtain ⟨hx, hb, hr, hml, hown0, hts0, hX, hbl, hlocks, hgv⟩ := id C0
  have hown : s.vm.findClass RL = some m.cls := hown0
  have hts : ∀ w ∈ vsL, w.before #[Value.ref b] s = true := fun w h => hts0 w (vsL_in w h)
  have hbA : ¬ A b := fun h => absurd (hAs b h) (Nat.not_le.mpr hbl)
  obtain ⟨Sx, Sm, hsr, hJX, hJM, fq, hPo⟩ := hJ
  have hfx := xi_fact hJX
  have hfm := mi_fact hJM
  refine lv_aload_n hx hb dL_law_1285 rfl (lv_at hl 1 rfl) ?_
  refine lv_aload_n hx hb dL_law_1286 rfl (lv_at hl 0 rfl) ?_
  refine lv_iload hx hb dL_law_1287 (lv_at hl 4 rfl) ?_
  refine lv_iconst (v := 1) hx hb dL_law_1289 (by decide) ?_
  refine lv_iadd hx hb dL_law_1290 ?_
  refine lv_topi (fun y1 ey1 => ?_)
  obtain rfl : y1 = nI (7 * k + 1) := ey1.trans (nI_add (7 * k) 1)
  refine va_sld hx hb hX hbl hbA hS (vp_in_nI (n := 7 * k + 1) (by omega) (by omega)) dL_law_1291 ?_
  refine lv_aload_n hx hb dL_law_1292 rfl (lv_at hl 0 rfl) ?_
  refine lv_iload hx hb dL_law_1293 (lv_at hl 4 rfl) ?_
  refine lv_iconst (v := 2) hx hb dL_law_1295 (by decide) ?_
  refine lv_iadd hx hb dL_law_1296 ?_
  refine lv_topi (fun y2 ey2 => ?_)
  obtain rfl : y2 = nI (7 * k + 2) := ey2.trans (nI_add (7 * k) 2)
  refine va_sld hx hb hX hbl hbA hS (vp_in_nI (n := 7 * k + 2) (by omega) (by omega)) dL_law_1297 ?_
  obtain ⟨fsr, hPr⟩ := xi_recv hJX
  refine va_calli (va_runV (As := [.int (xs (nI (7 * k + 1)).toNatClampNeg), .int (xs (nI (7 * k + 2)).toNatClampNeg)]) (rest := []) ⟨hx, hb, hml, hown, hts⟩ (k_X8_spans l dC dI _ kI kB kQ xa XA Sx (xs (nI (7 * k + 1)).toNatClampNeg) (xs (nI (7 * k + 2)).toNatClampNeg)) (cwV 2 hts gL_X8_spans rfl rfl rfl (by decide +kernel) ⟨Nat.le_of_ble_eq_true rfl, Nat.le_of_ble_eq_true rfl⟩) ⟨xB_bl, va_recv hK hPr (ci := 8) (q0 := 0) rfl rfl, xB_in hJX (k3_of hK)⟩ rfl rfl hl.1 rfl (lv_room (Nat.le_of_ble_eq_true rfl)) dL_law_1298 ⟨by show _ ≤ 601024; omega, by show _ ≤ 7293034; omega⟩) hS (fun q _ h => lx_A dis.1 hA hS q h) (lx_A dis.1 hA hS) (fun r3 u t H1 locs ht hvm hw hB hz1 hk1 hS => ?_)
  have hJM := mi_keep hJM (fun q h1 h2 => hk1 q h1 (lx_no dis.2.2.2.1 h1 h2))
  have hPo := lx_o hPo dis.2.2.2.2.1 hk1
  have hwx : xM_spans Sx (xs (nI (7 * k + 1)).toNatClampNeg) (xs (nI (7 * k + 2)).toNatClampNeg) r3 u := hw
  have hJX : XInv (dC, dI) kI kB kQ xa XA u t.heap := hB
  generalize u = ux at hwx hJX
  rw [ht] at hJX
  clear hk1 hz1 ht hvm
  generalize H1 = H at hJX hJM hPo hS ⊢
  refine lv_pop hx hb dL_law_1301 rfl ?_
  refine lv_aload_n hx hb dL_law_1302 rfl (lv_at hl 2 rfl) ?_
  refine lv_aload_n hx hb dL_law_1303 rfl (lv_at hl 0 rfl) ?_
  refine lv_iload hx hb dL_law_1304 (lv_at hl 4 rfl) ?_
  refine lv_iconst (v := 1) hx hb dL_law_1306 (by decide) ?_
  refine lv_iadd hx hb dL_law_1307 ?_
  refine lv_topi (fun y4 ey4 => ?_)
  obtain rfl : y4 = nI (7 * k + 1) := ey4.trans (nI_add (7 * k) 1)
  refine va_sld hx hb hX hbl hbA hS (vp_in_nI (n := 7 * k + 1) (by omega) (by omega)) dL_law_1308 ?_
  refine lv_aload_n hx hb dL_law_1309 rfl (lv_at hl 0 rfl) ?_
  refine lv_iload hx hb dL_law_1310 (lv_at hl 4 rfl) ?_
  refine lv_iconst (v := 2) hx hb dL_law_1312 (by decide) ?_
  refine lv_iadd hx hb dL_law_1313 ?_
  refine lv_topi (fun y5 ey5 => ?_)
  obtain rfl : y5 = nI (7 * k + 2) := ey5.trans (nI_add (7 * k) 2)
  refine va_sld hx hb hX hbl hbA hS (vp_in_nI (n := 7 * k + 2) (by omega) (by omega)) dL_law_1314 ?_
  obtain ⟨fsr, hPr⟩ := mi_recv hJM
  refine va_calli (va_runV (As := [.int (xs (nI (7 * k + 1)).toNatClampNeg), .int (xs (nI (7 * k + 2)).toNatClampNeg)]) (rest := []) ⟨hx, hb, hml, hown, hts⟩ (k_X9_spans l dC dI _ kI kB kQ ma MA Sm (xs (nI (7 * k + 1)).toNatClampNeg) (xs (nI (7 * k + 2)).toNatClampNeg)) (cwV 2 hts gL_X9_spans rfl rfl rfl (by decide +kernel) ⟨Nat.le_of_ble_eq_true rfl, Nat.le_of_ble_eq_true rfl⟩) ⟨xB_bl, va_recv hK hPr (ci := 9) (q0 := 0) rfl rfl, xB_in hJM (k3_of hK)⟩ rfl rfl hl.1 rfl (lv_room (Nat.le_of_ble_eq_true rfl)) dL_law_1315 ⟨by show _ ≤ 601024; omega, by show _ ≤ 7293034; omega⟩) hS (fun q _ h => lx_A dis.2.1 hA hS q h) (lx_A dis.2.1 hA hS) (fun r6 u t H1 locs ht hvm hw hB hz1 hk1 hS => ?_)
  have hJX := xi_keep hJX (fun q h1 h2 => hk1 q h1 (lx_no (fun q h g => dis.2.2.2.1 q g h) h1 h2))
  have hPo := lx_o hPo dis.2.2.2.2.2 hk1
  have hwm : mM_spans Sm (xs (nI (7 * k + 1)).toNatClampNeg) (xs (nI (7 * k + 2)).toNatClampNeg) r6 u := hw
  have hJM : MInv (dC, dI) kI kB ma MA u t.heap := hB
  generalize u = um at hwm hJM
  have hsr1 := sr_spans hsr hfx hfm hwx hwm
  rw [ht] at hJM
  clear hk1 hz1 ht hvm
  generalize H1 = H at hJX hJM hPo hS ⊢
  refine lv_pop hx hb dL_law_1318 rfl ?_
  refine lv_goto (tgt := 1697) hx hb dL_law_1319 (by decide) ?_
  refine W.widen (k := cells + 1) (n := slots + 6) (by omega) (by omega) ?_
  exact hT _ _ _ ⟨ux, um, hsr1, hJX, hJM, fq, hPo⟩ hS (lv_sub hl [0, 1, 2, 3, 4] rfl)
