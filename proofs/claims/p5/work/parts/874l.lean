set_option maxHeartbeats 4000000 in
set_option maxRecDepth 100000 in
theorem law_loop {p : Program} {e : Env} {s : State} {m : MethodId} {below : List Frame} {meth : Method} {c : Code} (l : Launch) (hlt : l.stackTraces = false) {b L : Nat} {xs : Nat → Int32} (C0 : lw_At p s m meth c b L xs) {A : Nat → Prop} (hA : ∀ q : Nat, s.heap.size ≤ q → A q) (hAs : ∀ q : Nat, A q → s.heap.size ≤ q) (hY : sy_E A s s.heap) {dC : Nat → ClassId} {dI : Nat → Nat → Nat} {kI kB kQ kL : ClassId} (hK : va_K (dC, dI) vwCl (k3 kI kB kQ ++ [(kL, .long)]) s) {xa ma qo : Nat} {XA MA : Nat → Prop} (dis : lw_dis XA MA qo A) (hL : L ≤ 3584) : ∀ (n k : Nat), L < 7 * (k + n) + 7 → 7 * k ≤ L + 7 → ∀ (H : Heap) (locs : List Loc) (ls : Array Slot), LInv (dC, dI) kI kB kQ kL xa ma qo XA MA H → va_S A s.heap H locs → lv_has ls 7 [(0, .ref b), (1, .ref xa), (2, .ref ma), (3, .ref qo), (4, .int (nI (7 * k)))] → W p l e room_1 s m #[Value.ref b] below meth c H locs (1717 + k) (133609 + 6 * k) (lw_Z below #[Value.ref b] s) (F0 m 23 ls []) := by
  obtain ⟨hx, hb, hr, hml, hown0, hts0, hX, hbl, hlocks, hgv⟩ := id C0
  have hbA : ¬ A b := fun h => absurd (hAs b h) (Nat.not_le.mpr hbl)
  intro n
  induction n with
  | zero =>
    intro k hn hk H locs ls hJ hS hl
    refine lv_iload hx hb dL_law_23 (lv_at hl 4 rfl) ?_
    refine lv_aload_n hx hb dL_law_25 rfl (lv_at hl 0 rfl) ?_
    refine va_slen hx hb hX hbl hbA hS dL_law_26 ?_
    refine lv_bipush (v := 7) hx hb dL_law_27 (by decide) ?_
    refine lv_isub hx hb dL_law_29 ?_
    refine lv_icmp_gt (tgt := 1703) hx hb dL_law_30 (by decide) (fun _ => ?_) (fun z => ?_)
    · exact law_exit l C0 hA hAs hS (by omega) (by omega)
    · have := law_test (k := k) hL (by omega) z
      omega
  | succ n ih =>
    intro k hn hk H locs ls hJ hS hl
    refine lv_iload hx hb dL_law_23 (lv_at hl 4 rfl) ?_
    refine lv_aload_n hx hb dL_law_25 rfl (lv_at hl 0 rfl) ?_
    refine va_slen hx hb hX hbl hbA hS dL_law_26 ?_
    refine lv_bipush (v := 7) hx hb dL_law_27 (by decide) ?_
    refine lv_isub hx hb dL_law_29 ?_
    refine lv_icmp_gt (tgt := 1703) hx hb dL_law_30 (by decide) (fun _ => ?_) (fun z => ?_)
    · exact law_exit l C0 hA hAs hS (by omega) (by omega)
    have hk2 := law_test (k := k) hL (by omega) z
    have hT : ∀ (H : Heap) (locs : List Loc) (ls : Array Slot), LInv (dC, dI) kI kB kQ kL xa ma qo XA MA H → va_S A s.heap H locs → lv_has ls 7 [(0, .ref b), (1, .ref xa), (2, .ref ma), (3, .ref qo), (4, .int (nI (7 * k)))] → W p l e room_1 s m #[Value.ref b] below meth c H locs (1717 + k + 1) (133609 + 6 * k + 6) (lw_Z below #[Value.ref b] s) (F0 m 1697 ls []) := by
      intro H locs ls hJ hS hl
      refine lv_iinc (v := nI (7 * (k + 1))) (lv' := [(4, .int (nI (7 * (k + 1)))), (0, .ref b), (1, .ref xa), (2, .ref ma), (3, .ref qo)]) hx hb dL_law_1697 hl (k := 4) rfl (nI_add (7 * k) 7) (by decide) rfl (fun ls hl => ?_)
      refine lv_goto (tgt := 23) hx hb dL_law_1700 (by decide) ?_
      refine W.widen (k := 1717 + (k + 1)) (n := 133609 + 6 * (k + 1)) (by omega) (by omega) ?_
      exact ih (k + 1) (by omega) (by omega) _ _ _ hJ hS (lv_sub hl [1, 2, 3, 4, 0] rfl)
    refine lv_aload_n hx hb dL_law_33 rfl (lv_at hl 0 rfl) ?_
    refine lv_iload hx hb dL_law_34 (lv_at hl 4 rfl) ?_
    refine va_sld hx hb hX hbl hbA hS (vp_in_nI (n := 7 * k) (by omega) (by omega)) dL_law_36 ?_
    refine lv_bipush (v := 63) hx hb dL_law_37 (by decide) ?_
    refine lv_iand hx hb dL_law_39 ?_
    obtain ⟨v, hv, ev⟩ := law_and (xs (nI (7 * k)).toNatClampNeg)
    refine lv_topi (fun y ey => ?_)
    obtain rfl : y = nI v := ey.trans ev
    by_cases h0 : v = 0
    · subst h0
      refine lv_tableIn (tgt := 216) (off := 176) hx hb dL_law_40 (by decide) (by decide) rfl (by decide) ?_
      exact law_case_0 l hlt C0 hA hAs hY hK dis hL k hk2 hJ hS hl (by omega) (by omega) hT
    by_cases h1 : v = 1
    · subst h1
      refine lv_tableIn (tgt := 289) (off := 249) hx hb dL_law_40 (by decide) (by decide) rfl (by decide) ?_
      exact law_case_1 l hlt C0 hA hAs hY hK dis hL k hk2 hJ hS hl (by omega) (by omega) hT
    by_cases h2 : v = 2
    · subst h2
      refine lv_tableIn (tgt := 314) (off := 274) hx hb dL_law_40 (by decide) (by decide) rfl (by decide) ?_
      exact law_case_2 l hlt C0 hA hAs hY hK dis hL k hk2 hJ hS hl (by omega) (by omega) hT
    by_cases h3 : v = 3
    · subst h3
      refine lv_tableIn (tgt := 327) (off := 287) hx hb dL_law_40 (by decide) (by decide) rfl (by decide) ?_
      exact law_case_3 l hlt C0 hA hAs hY hK dis hL k hk2 hJ hS hl (by omega) (by omega) hT
    by_cases h4 : v = 4
    · subst h4
      refine lv_tableIn (tgt := 352) (off := 312) hx hb dL_law_40 (by decide) (by decide) rfl (by decide) ?_
      exact law_case_4 l hlt C0 hA hAs hY hK dis hL k hk2 hJ hS hl (by omega) (by omega) hT
    by_cases h5 : v = 5
    · subst h5
      refine lv_tableIn (tgt := 377) (off := 337) hx hb dL_law_40 (by decide) (by decide) rfl (by decide) ?_
      exact law_case_5 l hlt C0 hA hAs hY hK dis hL k hk2 hJ hS hl (by omega) (by omega) hT
    by_cases h6 : v = 6
    · subst h6
      refine lv_tableIn (tgt := 414) (off := 374) hx hb dL_law_40 (by decide) (by decide) rfl (by decide) ?_
      exact law_case_6 l hlt C0 hA hAs hY hK dis hL k hk2 hJ hS hl (by omega) (by omega) hT
    by_cases h7 : v = 7
    · subst h7
      refine lv_tableIn (tgt := 451) (off := 411) hx hb dL_law_40 (by decide) (by decide) rfl (by decide) ?_
      exact law_case_7 l hlt C0 hA hAs hY hK dis hL k hk2 hJ hS hl (by omega) (by omega) hT
    by_cases h8 : v = 8
    · subst h8
      refine lv_tableIn (tgt := 500) (off := 460) hx hb dL_law_40 (by decide) (by decide) rfl (by decide) ?_
      exact law_case_8 l hlt C0 hA hAs hY hK dis hL k hk2 hJ hS hl (by omega) (by omega) hT
    by_cases h9 : v = 9
    · subst h9
      refine lv_tableIn (tgt := 537) (off := 497) hx hb dL_law_40 (by decide) (by decide) rfl (by decide) ?_
      exact law_case_9 l hlt C0 hA hAs hY hK dis hL k hk2 hJ hS hl (by omega) (by omega) hT
    by_cases h10 : v = 10
    · subst h10
      refine lv_tableIn (tgt := 586) (off := 546) hx hb dL_law_40 (by decide) (by decide) rfl (by decide) ?_
      exact law_case_10 l hlt C0 hA hAs hY hK dis hL k hk2 hJ hS hl (by omega) (by omega) hT
    by_cases h11 : v = 11
    · subst h11
      refine lv_tableIn (tgt := 639) (off := 599) hx hb dL_law_40 (by decide) (by decide) rfl (by decide) ?_
      exact law_case_11 l hlt C0 hA hAs hY hK dis hL k hk2 hJ hS hl (by omega) (by omega) hT
    by_cases h12 : v = 12
    · subst h12
      refine lv_tableIn (tgt := 652) (off := 612) hx hb dL_law_40 (by decide) (by decide) rfl (by decide) ?_
      exact law_case_12 l hlt C0 hA hAs hY hK dis hL k hk2 hJ hS hl (by omega) (by omega) hT
    by_cases h13 : v = 13
    · subst h13
      refine lv_tableIn (tgt := 705) (off := 665) hx hb dL_law_40 (by decide) (by decide) rfl (by decide) ?_
      exact law_case_13 l hlt C0 hA hAs hY hK dis hL k hk2 hJ hS hl (by omega) (by omega) hT
    by_cases h14 : v = 14
    · subst h14
      refine lv_tableIn (tgt := 742) (off := 702) hx hb dL_law_40 (by decide) (by decide) rfl (by decide) ?_
      exact law_case_14 l hlt C0 hA hAs hY hK dis hL k hk2 hJ hS hl (by omega) (by omega) hT
    by_cases h15 : v = 15
    · subst h15
      refine lv_tableIn (tgt := 803) (off := 763) hx hb dL_law_40 (by decide) (by decide) rfl (by decide) ?_
      exact law_case_15 l hlt C0 hA hAs hY hK dis hL k hk2 hJ hS hl (by omega) (by omega) hT
    by_cases h16 : v = 16
    · subst h16
      refine lv_tableIn (tgt := 840) (off := 800) hx hb dL_law_40 (by decide) (by decide) rfl (by decide) ?_
      exact law_case_16 l hlt C0 hA hAs hY hK dis hL k hk2 hJ hS hl (by omega) (by omega) hT
    by_cases h17 : v = 17
    · subst h17
      refine lv_tableIn (tgt := 901) (off := 861) hx hb dL_law_40 (by decide) (by decide) rfl (by decide) ?_
      exact law_case_17 l hlt C0 hA hAs hY hK dis hL k hk2 hJ hS hl (by omega) (by omega) hT
    by_cases h18 : v = 18
    · subst h18
      refine lv_tableIn (tgt := 926) (off := 886) hx hb dL_law_40 (by decide) (by decide) rfl (by decide) ?_
      exact law_case_18 l hlt C0 hA hAs hY hK dis hL k hk2 hJ hS hl (by omega) (by omega) hT
    by_cases h19 : v = 19
    · subst h19
      refine lv_tableIn (tgt := 939) (off := 899) hx hb dL_law_40 (by decide) (by decide) rfl (by decide) ?_
      exact law_case_19 l hlt C0 hA hAs hY hK dis hL k hk2 hJ hS hl (by omega) (by omega) hT
    by_cases h20 : v = 20
    · subst h20
      refine lv_tableIn (tgt := 952) (off := 912) hx hb dL_law_40 (by decide) (by decide) rfl (by decide) ?_
      exact law_case_20 l hlt C0 hA hAs hY hK dis hL k hk2 hJ hS hl (by omega) (by omega) hT
    by_cases h21 : v = 21
    · subst h21
      refine lv_tableIn (tgt := 989) (off := 949) hx hb dL_law_40 (by decide) (by decide) rfl (by decide) ?_
      exact law_case_21 l hlt C0 hA hAs hY hK dis hL k hk2 hJ hS hl (by omega) (by omega) hT
    by_cases h22 : v = 22
    · subst h22
      refine lv_tableIn (tgt := 1014) (off := 974) hx hb dL_law_40 (by decide) (by decide) rfl (by decide) ?_
      exact law_case_22 l hlt C0 hA hAs hY hK dis hL k hk2 hJ hS hl (by omega) (by omega) hT
    by_cases h23 : v = 23
    · subst h23
      refine lv_tableIn (tgt := 1039) (off := 999) hx hb dL_law_40 (by decide) (by decide) rfl (by decide) ?_
      exact law_case_23 l hlt C0 hA hAs hY hK dis hL k hk2 hJ hS hl (by omega) (by omega) hT
    by_cases h24 : v = 24
    · subst h24
      refine lv_tableIn (tgt := 1052) (off := 1012) hx hb dL_law_40 (by decide) (by decide) rfl (by decide) ?_
      exact law_case_24 l hlt C0 hA hAs hY hK dis hL k hk2 hJ hS hl (by omega) (by omega) hT
    by_cases h25 : v = 25
    · subst h25
      refine lv_tableIn (tgt := 1125) (off := 1085) hx hb dL_law_40 (by decide) (by decide) rfl (by decide) ?_
      exact law_case_25 l hlt C0 hA hAs hY hK dis hL k hk2 hJ hS hl (by omega) (by omega) hT
    by_cases h26 : v = 26
    · subst h26
      refine lv_tableIn (tgt := 1162) (off := 1122) hx hb dL_law_40 (by decide) (by decide) rfl (by decide) ?_
      exact law_case_26 l hlt C0 hA hAs hY hK dis hL k hk2 hJ hS hl (by omega) (by omega) hT
    by_cases h27 : v = 27
    · subst h27
      refine lv_tableIn (tgt := 1199) (off := 1159) hx hb dL_law_40 (by decide) (by decide) rfl (by decide) ?_
      exact law_case_27 l hlt C0 hA hAs hY hK dis hL k hk2 hJ hS hl (by omega) (by omega) hT
    by_cases h28 : v = 28
    · subst h28
      refine lv_tableIn (tgt := 1236) (off := 1196) hx hb dL_law_40 (by decide) (by decide) rfl (by decide) ?_
      exact law_case_28 l hlt C0 hA hAs hY hK dis hL k hk2 hJ hS hl (by omega) (by omega) hT
    by_cases h29 : v = 29
    · subst h29
      refine lv_tableIn (tgt := 1285) (off := 1245) hx hb dL_law_40 (by decide) (by decide) rfl (by decide) ?_
      exact law_case_29 l hlt C0 hA hAs hY hK dis hL k hk2 hJ hS hl (by omega) (by omega) hT
    by_cases h30 : v = 30
    · subst h30
      refine lv_tableIn (tgt := 1322) (off := 1282) hx hb dL_law_40 (by decide) (by decide) rfl (by decide) ?_
      exact law_case_30 l hlt C0 hA hAs hY hK dis hL k hk2 hJ hS hl (by omega) (by omega) hT
    by_cases h31 : v = 31
    · subst h31
      refine lv_tableIn (tgt := 1409) (off := 1369) hx hb dL_law_40 (by decide) (by decide) rfl (by decide) ?_
      exact law_case_31 l hlt C0 hA hAs hY hK dis hL k hk2 hJ hS hl (by omega) (by omega) hT
    by_cases h32 : v = 32
    · subst h32
      refine lv_tableIn (tgt := 1458) (off := 1418) hx hb dL_law_40 (by decide) (by decide) rfl (by decide) ?_
      exact law_case_32 l hlt C0 hA hAs hY hK dis hL k hk2 hJ hS hl (by omega) (by omega) hT
    by_cases h33 : v = 33
    · subst h33
      refine lv_tableIn (tgt := 1495) (off := 1455) hx hb dL_law_40 (by decide) (by decide) rfl (by decide) ?_
      exact law_case_33 l hlt C0 hA hAs hY hK dis hL k hk2 hJ hS hl (by omega) (by omega) hT
    by_cases h34 : v = 34
    · subst h34
      refine lv_tableIn (tgt := 1556) (off := 1516) hx hb dL_law_40 (by decide) (by decide) rfl (by decide) ?_
      exact law_case_34 l hlt C0 hA hAs hY hK dis hL k hk2 hJ hS hl (by omega) (by omega) hT
    by_cases h35 : v = 35
    · subst h35
      refine lv_tableIn (tgt := 1569) (off := 1529) hx hb dL_law_40 (by decide) (by decide) rfl (by decide) ?_
      exact law_case_35 l hlt C0 hA hAs hY hK dis hL k hk2 hJ hS hl (by omega) (by omega) hT
    by_cases h36 : v = 36
    · subst h36
      refine lv_tableIn (tgt := 1594) (off := 1554) hx hb dL_law_40 (by decide) (by decide) rfl (by decide) ?_
      exact law_case_36 l hlt C0 hA hAs hY hK dis hL k hk2 hJ hS hl (by omega) (by omega) hT
    by_cases h37 : v = 37
    · subst h37
      refine lv_tableIn (tgt := 1619) (off := 1579) hx hb dL_law_40 (by decide) (by decide) rfl (by decide) ?_
      exact law_case_37 l hlt C0 hA hAs hY hK dis hL k hk2 hJ hS hl (by omega) (by omega) hT
    by_cases h38 : v = 38
    · subst h38
      refine lv_tableIn (tgt := 1644) (off := 1604) hx hb dL_law_40 (by decide) (by decide) rfl (by decide) ?_
      exact law_case_38 l hlt C0 hA hAs hY hK dis hL k hk2 hJ hS hl (by omega) (by omega) hT
    by_cases h39 : v = 39
    · subst h39
      refine lv_tableIn (tgt := 1672) (off := 1632) hx hb dL_law_40 (by decide) (by decide) rfl (by decide) ?_
      exact law_case_39 l hlt C0 hA hAs hY hK dis hL k hk2 hJ hS hl (by omega) (by omega) hT
    refine lv_tableOut (tgt := 1697) hx hb dL_law_40 (Or.inr (by rw [nI_toInt (by omega)]; omega)) (by decide) ?_
    refine W.widen (k := 1717 + k + 1) (n := 133609 + 6 * k + 6) (by omega) (by omega) ?_
    exact hT _ _ _ hJ hS hl
