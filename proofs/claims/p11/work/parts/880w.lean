set_option maxHeartbeats 4000000 in
set_option maxRecDepth 100000 in
theorem whole_start {p : Program} {e : Env} {s : State} {m : MethodId} {below : List Frame} {meth : Method} {c : Code} (l : Launch) (hflags : l.flags = flags0) {b L : Nat} {xs : Nat → Int32} (hL : L ≤ 3584) (C0 : lw_At p s m meth c b L xs) : W p l e room_1 s m #[Value.ref b] below meth c s.heap [] 0 0 (lw_Z below #[Value.ref b] s) (entryFrame m ([Value.ref b] : List Value).toArray 7) := by
  obtain ⟨hx, hb, hr, hml, hown0, hts0, hX, hbl, hlocks, hgv⟩ := id C0
  have hown : s.vm.findClass RL = some m.cls := hown0
  have hts : ∀ w ∈ vsL, w.before #[Value.ref b] s = true := fun w h => hts0 w (vsL_in w h)
  have hlt : l.stackTraces = false := by unfold Launch.stackTraces; rw [hflags]; decide +kernel
  obtain ⟨A, hAe⟩ : ∃ A : Nat → Prop, A = (fun q : Nat => s.heap.size ≤ q) := ⟨_, rfl⟩
  have hA : ∀ q : Nat, s.heap.size ≤ q → A q := fun q h => by rw [hAe]; exact h
  have hAs : ∀ q : Nat, A q → s.heap.size ≤ q := fun q h => by rw [hAe] at h; exact h
  have hAn : ∀ a : Nat, a < s.heap.size → ¬ A a := fun a h g => absurd (hAs a g) (Nat.not_le.mpr h)
  have hbA : ¬ A b := hAn b hbl
  obtain ⟨adK, adV, fz, hE⟩ := law_E (e := e) (below := below) C0 hAn
  have hY := law_Y (e := e) (below := below) C0 hAn
  obtain ⟨dC, dI, hK⟩ := law_known (e := e) (below := below) C0
  have hiX8 : ∀ w ∈ wsX80, w ∈ vsL := fun _ h => vp_CM (cm_X8 h)
  have hiX9 : ∀ w ∈ wsX90, w ∈ vsL := fun _ h => vp_VM (vmi_L h)
  have hS : va_S A s.heap s.heap [] := va_S.rf
  have hP : va_P (dC, dI) vwCl [] s.heap := pu_P0
  have hD : va_D A [] := pu_D0
  have hl := lv_entry ([.ref b]) (n := 7) (Nat.le_of_ble_eq_true rfl)
  rw [lg_entry_eq]
  generalize (lg_sl ([.ref b]) ++ List.replicate (7 - (lg_sl ([.ref b])).length) Slot.unset).toArray = ls at hl ⊢
  have hl : lv_has ls 7 [(0, .ref b)] := hl
  refine va_new (ci := 8) (fs := [.null, .int 0, .null, .null, .null, .null, .null, .int 0, .null, .null, .int 0, .null, .null, .null, .null, .null]) (C := RX8) (T := TX8) (N := 16) hx hb hts hiX8 tyX8 tyX8_ok hown (hts (.classLink RL 8 RX8) (vp_vsI4 (List.mem_of_getElem? (i := 6) rfl))) (hts (.instantiable RX8 16) (vp_vsI4 (List.mem_of_getElem? (i := 8) rfl))) (hts (.initialized RX8) (vp_vsI0 (List.mem_of_getElem? (i := 7) rfl))) hK hP hD hS hA rfl (pu_fs (by decide)) (Nat.le_of_ble_eq_true rfl) (Nat.le_of_ble_eq_true rfl) dL_law_0 (fun q_1 H hP hD hS => ?_)
  have hP : va_P (dC, dI) vwCl [(q_1, .inr (8, [.null, .int 0, .null, .null, .null, .null, .null, .int 0, .null, .null, .int 0, .null, .null, .null, .null, .null]))] H := hP
  have hD : va_D A [(q_1, .inr (8, [.null, .int 0, .null, .null, .null, .null, .null, .int 0, .null, .null, .int 0, .null, .null, .null, .null, .null]))] := hD
  refine W.widen (k := 1) (n := 16) (by omega) (by omega) ?_
  refine lv_dup hx hb dL_law_3 rfl ?_
  have hFc := va_free (wc := [(q_1, .inr (8, [.null, .int 0, .null, .null, .null, .null, .null, .int 0, .null, .null, .int 0, .null, .null, .null, .null, .null]))]) hD hS hA [0] rfl
  refine va_callv (va_runI (As := []) (rest := [.ref q_1]) ⟨hx, hb, hml, hown, hts⟩ (c_X8_init l dC dI _ adK adV fz q_1) (cwI 0 hts gL_X8_init rfl rfl rfl (hts (.initialized RX8) (vp_vsI0 (List.mem_of_getElem? (i := 7) rfl))) (hts (.methodLink RL 15 yX8_init) (vp_vsI0 (List.mem_of_getElem? (i := 0) rfl))) (hts (.instanceMethod yX8_init) (vp_vsI0 (List.mem_of_getElem? (i := 1) rfl))) rfl (by decide +kernel) ⟨Nat.le_of_ble_eq_true rfl, Nat.le_of_ble_eq_true rfl⟩) ⟨pu_blx, pu_inx hP (hK.sub [] rfl) hD hE hS hFc⟩ rfl rfl hl.1 rfl (lv_room (Nat.le_of_ble_eq_true rfl)) dL_law_4 ⟨Nat.le_of_ble_eq_true rfl, Nat.le_of_ble_eq_true rfl⟩) hS (fun q _ h => hFc q h) hFc (fun u t H1 locs ht hvm hw hB hz1 hk1 hS => ?_)
  obtain ⟨RX, TX, hP1, hK1, hD1, hXN⟩ := xi_pack hB
  rw [ht] at hP1
  have hK1 := va_K.moved hvm.symm hK1
  obtain ⟨hP, hD⟩ := jn_last (X := []) (T := []) (wc := [(q_1, .inr (8, [.null, .int 0, .null, .null, .null, .null, .null, .int 0, .null, .null, .int 0, .null, .null, .null, .null, .null]))]) (w1 := RX) (by rw [List.append_nil]; exact hP) (by rw [List.append_nil]; exact hD) hk1 hFc hP1 hD1
  rw [List.append_nil] at hP hD
  have hP : va_P (dC, dI) vwCl RX H1 := hP
  have hD : va_D A RX := hD
  clear hk1 hz1 ht hvm hP1 hD1 hFc
  generalize H1 = H at hP hS ⊢
  refine W.widen (k := 1673) (n := 30488) (by first | omega | exact Nat.le_of_ble_eq_true rfl) (by first | omega | exact Nat.le_of_ble_eq_true rfl) ?_
  refine lv_astore_n (lv' := [(1, .ref q_1), (0, .ref b)]) hx hb dL_law_7 rfl hl (by decide) rfl (fun ls hl => ?_)
  refine va_new (ci := 9) (fs := [.int 0, .null, .null, .null, .null, .null, .null, .null, .null, .null, .null, .null, .null, .null, .null, .null, .int 0, .null, .int 0, .int 0, .int 0, .int 0, .int 0, .int 0, .int 0, .int 0, .int 0, .int 0, .int 0, .int 0, .int 0, .null, .null, .int 0, .null, .null, .null, .null, .null, .null, .null, .null, .null, .null, .null, .int 0, .int 0, .null, .null, .null, .null, .null, .int 0, .int 0, .null, .null, .null, .null, .null, .null, .null, .int 0, .int 0, .int 0, .null, .int 0, .int 0]) (C := RX9) (T := TX9) (N := 67) hx hb hts hiX9 tyX9 tyX9_ok hown (hts (.classLink RL 16 RX9) (vp_vsI4 (List.mem_of_getElem? (i := 7) rfl))) (hts (.instantiable RX9 67) (vp_vsI4 (List.mem_of_getElem? (i := 9) rfl))) (hts (.initialized RX9) (vp_vsI0 (List.mem_of_getElem? (i := 11) rfl))) hK1 hP hD hS hA rfl (pu_fs (by decide)) (Nat.le_of_ble_eq_true rfl) (Nat.le_of_ble_eq_true rfl) dL_law_8 (fun q_2 H hP hD hS => ?_)
  refine W.widen (k := 1674) (n := 30555) (by omega) (by omega) ?_
  refine lv_dup hx hb dL_law_11 rfl ?_
  have hPn : va_P (dC, dI) vwCl [(q_2, .inr (9, [.int 0, .null, .null, .null, .null, .null, .null, .null, .null, .null, .null, .null, .null, .null, .null, .null, .int 0, .null, .int 0, .int 0, .int 0, .int 0, .int 0, .int 0, .int 0, .int 0, .int 0, .int 0, .int 0, .int 0, .int 0, .null, .null, .int 0, .null, .null, .null, .null, .null, .null, .null, .null, .null, .null, .null, .int 0, .int 0, .null, .null, .null, .null, .null, .int 0, .int 0, .null, .null, .null, .null, .null, .null, .null, .int 0, .int 0, .int 0, .null, .int 0, .int 0]))] H := wm_P (fun q hq => List.mem_append_right _ hq) hP
  have hDn : va_D A [(q_2, .inr (9, [.int 0, .null, .null, .null, .null, .null, .null, .null, .null, .null, .null, .null, .null, .null, .null, .null, .int 0, .null, .int 0, .int 0, .int 0, .int 0, .int 0, .int 0, .int 0, .int 0, .int 0, .int 0, .int 0, .int 0, .int 0, .null, .null, .int 0, .null, .null, .null, .null, .null, .null, .null, .null, .null, .null, .null, .int 0, .int 0, .null, .null, .null, .null, .null, .int 0, .int 0, .null, .null, .null, .null, .null, .null, .null, .int 0, .int 0, .int 0, .null, .int 0, .int 0]))] := zp_left (wp_D List.perm_append_comm hD)
  have hFc := va_free (wc := [(q_2, .inr (9, [.int 0, .null, .null, .null, .null, .null, .null, .null, .null, .null, .null, .null, .null, .null, .null, .null, .int 0, .null, .int 0, .int 0, .int 0, .int 0, .int 0, .int 0, .int 0, .int 0, .int 0, .int 0, .int 0, .int 0, .int 0, .null, .null, .int 0, .null, .null, .null, .null, .null, .null, .null, .null, .null, .null, .null, .int 0, .int 0, .null, .null, .null, .null, .null, .int 0, .int 0, .null, .null, .null, .null, .null, .null, .null, .int 0, .int 0, .int 0, .null, .int 0, .int 0]))]) hDn hS hA [0] rfl
  refine va_callv (va_runI (As := []) (rest := [.ref q_2]) ⟨hx, hb, hml, hown, hts⟩ (c_X9_init l dC dI _ q_2) (cwI 0 hts gL_X9_init rfl rfl rfl (hts (.initialized RX9) (vp_vsI0 (List.mem_of_getElem? (i := 11) rfl))) (hts (.methodLink RL 18 yX9_init) (vp_vsI0 (List.mem_of_getElem? (i := 2) rfl))) (hts (.instanceMethod yX9_init) (vp_vsI0 (List.mem_of_getElem? (i := 3) rfl))) rfl (by decide +kernel) ⟨Nat.le_of_ble_eq_true rfl, Nat.le_of_ble_eq_true rfl⟩) ⟨pu_bl, pu_in hPn (hK.sub [] rfl) hDn⟩ rfl rfl hl.1 rfl (lv_room (Nat.le_of_ble_eq_true rfl)) dL_law_12 ⟨Nat.le_of_ble_eq_true rfl, Nat.le_of_ble_eq_true rfl⟩) hS (fun q _ h => hFc q h) hFc (fun u t H1 locs ht hvm hw hB hz1 hk1 hS => ?_)
  obtain ⟨RM, TM, hP2, hK2, hD2, hMN⟩ := mi_pack hB
  rw [ht] at hP2
  have hK2 := va_K.moved hvm.symm hK2
  obtain ⟨hP, hD⟩ := jn_last (X := RX) (T := []) (wc := [(q_2, .inr (9, [.int 0, .null, .null, .null, .null, .null, .null, .null, .null, .null, .null, .null, .null, .null, .null, .null, .int 0, .null, .int 0, .int 0, .int 0, .int 0, .int 0, .int 0, .int 0, .int 0, .int 0, .int 0, .int 0, .int 0, .int 0, .null, .null, .int 0, .null, .null, .null, .null, .null, .null, .null, .null, .null, .null, .null, .int 0, .int 0, .null, .null, .null, .null, .null, .int 0, .int 0, .null, .null, .null, .null, .null, .null, .null, .int 0, .int 0, .int 0, .null, .int 0, .int 0]))]) (w1 := RM) (by rw [List.append_nil]; exact hP) (by rw [List.append_nil]; exact hD) hk1 hFc hP2 hD2
  rw [List.append_nil] at hP hD
  clear hk1 hz1 ht hvm hP2 hD2 hFc hPn hDn
  generalize H1 = H at hP hS ⊢
  refine W.widen (k := 1716) (n := 133608) (by first | omega | exact Nat.le_of_ble_eq_true rfl) (by first | omega | exact Nat.le_of_ble_eq_true rfl) ?_
  refine lv_astore_n (lv' := [(2, .ref q_2), (1, .ref q_1), (0, .ref b)]) hx hb dL_law_15 rfl hl (by decide) rfl (fun ls hl => ?_)
  refine lv_iconst (v := 1) hx hb dL_law_16 (by decide) ?_
  refine va_newa (atype := .long) (ty := .long) (N' := 1) (a0 := (1, .inr (.inl (fun _ => 0)))) hx hb (hts (.arrayClass .long) (vp_vsI4 (List.mem_of_getElem? (i := 10) rfl))) rfl hK hP hD hS hA (fun _ => rfl) (by decide) (by decide) (Nat.le_of_ble_eq_true rfl) (Nat.le_of_ble_eq_true rfl) (Nat.le_of_ble_eq_true rfl) dL_law_17 (fun qo kL H hKl hP hD hS => ?_)
  refine W.widen (k := 1717) (n := 133609) (by omega) (by omega) ?_
  refine lv_astore_n (lv' := [(3, .ref qo), (2, .ref q_2), (1, .ref q_1), (0, .ref b)]) hx hb dL_law_19 rfl hl (by decide) rfl (fun ls hl => ?_)
  refine lv_iconst (v := 0) hx hb dL_law_20 (by decide) ?_
  refine lv_istore (lv' := [(4, .int 0), (3, .ref qo), (2, .ref q_2), (1, .ref q_1), (0, .ref b)]) hx hb dL_law_21 hl (by decide) rfl (fun ls hl => ?_)
  have hPx : va_P (dC, dI) vwCl RX H := wm_P (fun q hq => List.mem_append_left _ (List.mem_append_left _ hq)) hP
  have hPm : va_P (dC, dI) vwCl RM H := wm_P (fun q hq => List.mem_append_left _ (List.mem_append_right _ hq)) hP
  have hPo : va_P (dC, dI) vwCl [(qo, .inl (kL, 1, .inr (.inl (fun _ => 0))))] H := wm_P (fun q hq => List.mem_append_right _ hq) hP
  have hDx : va_D A RX := zp_left (zp_left hD)
  have hDm : va_D A RM := zp_left (wp_D List.perm_append_comm (zp_left hD))
  have nd := vD_nd hD
  rw [List.map_append, List.map_append, List.nodup_append, List.nodup_append] at nd
  obtain ⟨⟨-, -, nd1⟩, -, nd2⟩ := nd
  have hqo : qo ∈ ([(qo, .inl (kL, 1, .inr (.inl (fun _ => 0))))] : va_W).map Prod.fst := List.mem_cons_self
  obtain ⟨kI, kB, kQ, hK3, hJX⟩ := hXN hPx hDx hK1
  have hJM := hMN hK3 hPm hDm hK2
  have dis : lw_dis (fun q => q ∈ RX.map Prod.fst) (fun q => q ∈ RM.map Prod.fst) qo A := ⟨fun q h => by
    obtain ⟨z, hz, rfl⟩ := List.mem_map.mp h
    obtain ⟨i, hi⟩ := List.getElem?_of_mem hz
    exact hDx.2 i z hi, fun q h => by
    obtain ⟨z, hz, rfl⟩ := List.mem_map.mp h
    obtain ⟨i, hi⟩ := List.getElem?_of_mem hz
    exact hDm.2 i z hi, (zp_left (wp_D List.perm_append_comm hD)).2 0 _ rfl, fun q h g => nd1 q h q g rfl, fun h => nd2 qo (List.mem_append_left _ h) qo hqo rfl, fun h => nd2 qo (List.mem_append_right _ h) qo hqo rfl⟩
  have hKa : va_K (dC, dI) vwCl (k3 kI kB kQ ++ [(kL, .long)]) s := hK3.app (wm_K (fun q hq => List.mem_append_right _ hq) hKl)
  exact law_loop l hlt C0 hA hAs hY hKa dis hL 600 0 (by omega) (by omega) _ _ _ ⟨_, _, sr_0, hJX, hJM, _, hPo⟩ hS (lv_sub hl [4, 3, 2, 1, 0] rfl)
set_option maxHeartbeats 4000000 in
theorem lw_walk (l : Launch) (hflags : l.flags = flags0) (b : Addr) (xs : List Int32) : MetFree l x (headSpec (Jvm.Cond.code x code maxLocals ret :: tables_1) room_1) (lw_P b xs) (fun _ _ _ _ _ => True) lw_Q := by
  refine MetFree.of_bodyS (code := code) (maxLocals := maxLocals) (ret := ret) (by decide) ?_ ?_
  · intro args s m h hn
    obtain ⟨meth, c, h1, h2, h3, h4, h5, h6, -, -⟩ := Cond.code_spec hn (atoms_spec (ws := Jvm.Cond.code x code maxLocals ret :: tables_1) h _ List.mem_cons_self)
    exact ⟨meth, c, h1, h2, h3, h4, h5, h6⟩
  · intro p e s m args below meth c s₁ B hml0 hP _
    obtain ⟨rfl, hx, hbd, hgv⟩ := hP
    obtain ⟨scr, harrAt, hlist, hof, hsmall⟩ := hx
    obtain ⟨hcb, hkn, -, -⟩ := State.arrayAt?_spec harrAt
    have hown : s.vm.findClass R_law = some m.cls := findClass_of_methodNamed B.named
    have hts0 : ∀ c ∈ (Jvm.Cond.code x code maxLocals ret :: tables_1), c.before #[Value.ref b] s = true := atoms_spec (ws := Jvm.Cond.code x code maxLocals ret :: tables_1) B.pre
    have hts : ∀ w ∈ lw_tbl, w.before #[Value.ref b] s = true := k2_hts_sels lw_privs (fun w hw => hts0 w (List.mem_cons_of_mem _ hw)) lw_privs_ok
    have hml : c.maxLocals = 7 := B.maxLocals_eq (hts0 _ List.mem_cons_self)
    have X₀ : Stand p l e room_1 s m #[Value.ref b] below meth c s₁ [] 0 0 := Stand.of_body B
    have hh0 : s₁.heap = s.heap := by rw [B.state]; rfl
    have hsz : scr.slots.size = xs.length := by rw [← Array.length_toList, hlist, List.length_map]
    have hval : ∀ j : Nat, j < xs.length → scr.slots[j]? = some (.int (xs.getD j 0)) := fun j hj => by
      rw [← Array.getElem?_toList, hlist]
      simp [hj]
    have hbl : b < s.heap.size := (Array.getElem?_eq_some_iff.mp hcb).1
    have hX : va_X b xs.length (fun j => xs.getD j 0) s s.heap := ⟨scr, hcb, hof, hkn, hsz, hval⟩
    have K : W p l e room_1 s m #[Value.ref b] below meth c s₁.heap [] 0 0 (lw_Z below #[Value.ref b] s) (entryFrame m ([Value.ref b] : List Value).toArray 7) := by
      rw [hh0]
      exact whole_start l hflags hbd ⟨B.exec, B.bytes, B.returns, hml, hown, hts, hX, hbl, B.notSynchronized, hgv⟩
    obtain ⟨t, a1, o, b1, b2, b3⟩ := K s₁ rfl X₀
    exact ⟨t, o, a1, b1, b2, b3⟩
theorem lw_pre_spec {args : Array Value} {s : State} (h : (Jvm.Cond.and given_1 narrow_1).before args s = true) (hr : rest_1_c.before args s = true) : ∃ (b : Addr) (xs : List Int32), lw_P b xs args s := by
  have hs := flat_of_before _ h
  have hq := flat_of_before _ hr
  have hc : (Cond.count 1).before args s = true := hs _ (by decide +kernel)
  have harr : (Cond.arrayOf (.arg 0) .int).before args s = true := hs _ (by decide +kernel)
  have hle : (Cond.le (.length (.arg 0)) (.int 3584)).before args s = true := hs _ (by decide +kernel)
  have hlen : (Cond.isInt (.length (.arg 0))).before args s = true := hq _ (by decide +kernel)
  have hall : (Cond.all (.arg 0) (.isInt (.elem (.arg 0) (.index 0)))).before args s = true := hq _ (by decide +kernel)
  obtain ⟨b, xs, hb, hx⟩ := State.ints_of_pre rfl harr hlen hall
  have hsm : xs.length < 2 ^ 31 := hx.choose_spec.2.2.2
  have hev : (Term.length (.arg 0)).eval args s none [] s = some (.int xs.length.toInt32) := hx.length_eval hb
  have hv := Cond.le_ints hev (show (Term.int 3584).eval args s none [] s = some (.int 3584) from rfl)
  have hd : xs.length.toInt32 ≤ 3584 := by
    simpa [Cond.before, Cond.holds, hv] using hle
  have hN : xs.length ≤ 3584 := (Int32.ofNat_le_ofNat hsm (by decide)).mp (show Int32.ofNat xs.length ≤ Int32.ofNat 3584 from hd)
  exact ⟨b, xs, Cond.one_arg hc (show args[0]? = some (.ref b) from hb), hx, hN, h⟩
theorem lw_comes (l : Launch) (hflags : l.flags = flags0) : Comes l x (Jvm.Cond.code x code maxLocals ret :: tables_1) room_1 (fun tb e args s => Calls_1 tb e args s ∧ rest_1 tb e args s ∧ Pre_1 tb e args s)
    (fun _ _ args s o t => lw_Q args s o t) := by
  intro p e ha hc hk s m args below hf hfit hheap happ hpre
  obtain ⟨b, xs, hP⟩ := lw_pre_spec hpre.2.2 hpre.2.1
  obtain ⟨k, o, h1, h2, h3, hQ⟩ := lw_walk l hflags b xs p e ha hc hk s m args below hf ((Spec.applies_iff_loose hf).mp happ).1 hP trivial
  exact ⟨k, o, h1, h2, h3, hQ⟩
theorem lw_frame {s t : State} {o : Outcome} {args : Array Value} (h : Framed s o t [] 601024 7293034) :
    Framed s o t (fieldLocs frame_1_writes args s ++ arrayLocs frame_1_arrays args s ++ staticLocs frame_1_statics s) 601024 7293034 := h
theorem lw_limb (L : Cond) (hL : ∀ (args : Array Value) (s t : State), L.after args s (.returned (some (.int 1))) t = true) :
    ArmFor flags0 classFile x code maxLocals ret World_1 tables_1 room_1 Calls_1 rest_1 Pre_1
      (fun tb e a s o t => postC L tb e a s o t ∧ Framed s o t (fieldLocs frame_1_writes a s ++ arrayLocs frame_1_arrays a s ++ staticLocs frame_1_statics s) 601024 7293034) := by
  intro l hflags _ _ p e ha hc hk s m args below hf hfit hheap happ hpre
  obtain ⟨k, o, h1, h2, h3, rfl, hF⟩ := lw_comes l hflags p e ha hc hk s m args below hf hfit hheap happ hpre
  exact ⟨k, _, h1, h2, h3, hL args s _, lw_frame hF⟩
theorem i_vc : Claimed_1_1 ∧ Claimed_1_2 := ⟨lw_limb limb_1_1 (fun args s t => by simp [limb_1_1, Cond.after, Cond.holds, Cond.value]), lw_limb limb_1_2 (fun args s t => Cond.after_iff.mpr (by
  first | (rw [show limb_1_2 = Cond.eq .result (.int 1) from rfl, Cond.eq_ints (x := 1) (y := 1) rfl rfl]; simp; done) | (simp [limb_1_2, Cond.value, Term.eval]; done)))⟩
