theorem law_short : ∀ L : Nat, L < 7 → (Int32.ofNat L - 7 < (0 : Int32)) := by decide +kernel
set_option maxHeartbeats 4000000 in
set_option maxRecDepth 100000 in
theorem whole_start {p : Program} {e : Env} {s : State} {m : MethodId} {below : List Frame} {meth : Method} {c : Code} (l : Launch) (hflags : l.flags = flags0) {b L : Nat} {xs : Nat → Int32} (hL : L ≤ 7) (C0 : lw_At p s m meth c b L xs) : W p l e room_1 s m #[Value.ref b] below meth c s.heap [] 0 0 (lw_Z below #[Value.ref b] s) (entryFrame m ([Value.ref b] : List Value).toArray 7) := by
  obtain ⟨hx, hb, hr, hml, hown0, hts0, hX, hbl, hlocks, hgv⟩ := id C0
  have hown : s.vm.findClass RL = some m.cls := hown0
  have hts : ∀ w ∈ vsL, w.before #[Value.ref b] s = true := fun w h => hts0 w (vsL_in w h)
  have hlt : l.stackTraces = false := by unfold Launch.stackTraces; rw [hflags]; decide +kernel
  obtain ⟨A, hAe⟩ : ∃ A : Nat → Prop, A = (fun q : Nat => s.heap.size ≤ q) := ⟨_, rfl⟩
  have hA : ∀ q : Nat, s.heap.size ≤ q → A q := fun q h => by rw [hAe]; exact h
  have hAs : ∀ q : Nat, A q → s.heap.size ≤ q := fun q h => by rw [hAe] at h; exact h
  have hAn : ∀ a : Nat, a < s.heap.size → ¬ A a := fun a h g => absurd (hAs a g) (Nat.not_le.mpr h)
  have hbA : ¬ A b := hAn b hbl
  obtain ⟨adK, adV, fz, hE⟩ := law_E (e := e) (below := below) C0 hAn
  have hY := law_Y (e := e) (below := below) C0 hAn
  obtain ⟨dC, dI, hK⟩ := law_known (e := e) (below := below) C0
  have hiX8 : ∀ w ∈ wsX80, w ∈ vsL := fun _ h => (List.mem_append_right _ (List.mem_append_right _ (List.mem_append_right _ (List.mem_append_right _ (List.mem_append_right _ (List.mem_append_right _ (List.mem_append_right _ (List.mem_append_right _ (List.mem_append_right _ (List.mem_append_right _ (List.mem_append_right _ (List.mem_append_right _ (List.mem_append_right _ (List.mem_append_right _ (List.mem_append_right _ (List.mem_append_right _ (List.mem_append_right _ (List.mem_append_right _ (List.mem_append_right _ (List.mem_append_right _ (List.mem_append_right _ (List.mem_append_right _ (List.mem_append_right _ (List.mem_append_right _ (List.mem_append_right _ (List.mem_append_right _ (List.mem_append_left _ h)))))))))))))))))))))))))))
  have hiX9 : ∀ w ∈ wsX90, w ∈ vsL := fun _ h => (List.mem_append_right _ (List.mem_append_right _ (List.mem_append_right _ (List.mem_append_right _ (List.mem_append_right _ (List.mem_append_right _ (List.mem_append_right _ (List.mem_append_right _ (List.mem_append_right _ (List.mem_append_right _ (List.mem_append_right _ (List.mem_append_right _ (List.mem_append_right _ (List.mem_append_right _ (List.mem_append_right _ (List.mem_append_right _ (List.mem_append_right _ (List.mem_append_right _ (List.mem_append_right _ (List.mem_append_right _ (List.mem_append_right _ (List.mem_append_right _ (List.mem_append_right _ (List.mem_append_right _ (List.mem_append_right _ (List.mem_append_right _ (List.mem_append_right _ (List.mem_append_left _ h))))))))))))))))))))))))))))
  have hS : va_S A s.heap s.heap [] := va_S.rf
  have hP : va_P (dC, dI) vwCl [] s.heap := pu_P0
  have hD : va_D A [] := pu_D0
  have hl := lv_entry ([.ref b]) (n := 7) (Nat.le_of_ble_eq_true rfl)
  rw [lg_entry_eq]
  generalize (lg_sl ([.ref b]) ++ List.replicate (7 - (lg_sl ([.ref b])).length) Slot.unset).toArray = ls at hl ⊢
  have hl : lv_has ls 7 [(0, .ref b)] := hl
  refine va_new (ci := 8) (fs := [.null, .int 0, .null, .null, .null, .null, .null, .int 0, .null, .null, .int 0, .null, .null, .null, .null, .null]) (C := RX8) (T := TX8) (N := 16) hx hb hts hiX8 tyX8 tyX8_ok hown (hts (.classLink RL 8 RX8) (List.mem_of_getElem? (i := 704) rfl)) (hts (.instantiable RX8 16) (List.mem_of_getElem? (i := 707) rfl)) (hts (.initialized RX8) (List.mem_of_getElem? (i := 209) rfl)) hK hP hD hS hA rfl (pu_fs (by decide)) (Nat.le_of_ble_eq_true rfl) (Nat.le_of_ble_eq_true rfl) dL_law_0 (fun q_1 H hP hD hS => ?_)
  have hP : va_P (dC, dI) vwCl [(q_1, .inr (8, [.null, .int 0, .null, .null, .null, .null, .null, .int 0, .null, .null, .int 0, .null, .null, .null, .null, .null]))] H := hP
  have hD : va_D A [(q_1, .inr (8, [.null, .int 0, .null, .null, .null, .null, .null, .int 0, .null, .null, .int 0, .null, .null, .null, .null, .null]))] := hD
  refine W.widen (k := 1) (n := 16) (by omega) (by omega) ?_
  refine lv_dup hx hb dL_law_3 rfl ?_
  have hFc := va_free (wc := [(q_1, .inr (8, [.null, .int 0, .null, .null, .null, .null, .null, .int 0, .null, .null, .int 0, .null, .null, .null, .null, .null]))]) hD hS hA [0] rfl
  refine va_callv (va_runI (As := []) (rest := [.ref q_1]) ⟨hx, hb, hml, hown, hts⟩ (c_X8_init l dC dI _ adK adV fz q_1) (cwI 0 hts g_L_X8_init rfl rfl rfl (hts (.initialized RX8) (List.mem_of_getElem? (i := 209) rfl)) (hts (.methodLink RL 15 yX8_init) (List.mem_of_getElem? (i := 700) rfl)) (hts (.instanceMethod yX8_init) (List.mem_of_getElem? (i := 701) rfl)) rfl (by decide +kernel) ⟨Nat.le_of_ble_eq_true rfl, Nat.le_of_ble_eq_true rfl⟩) ⟨pu_blx, pu_inx hP hK hD hE hS hFc⟩ rfl rfl hl.1 rfl (lv_room (Nat.le_of_ble_eq_true rfl)) dL_law_4 ⟨Nat.le_of_ble_eq_true rfl, Nat.le_of_ble_eq_true rfl⟩) hS (fun q _ h => hFc q h) hFc (fun u t H1 locs ht hvm hw hB hz1 hk1 hS => ?_)
  obtain ⟨a_3, k_4, ⟨hP1, hK1, hD1⟩, ha⟩ := hB
  subst ha
  rw [ht] at hP1
  have hK1 := va_K.moved hvm.symm hK1
  obtain ⟨hP, hD⟩ := va_join (wr := []) (w1 := [((a_3 0), .inr (8, [.ref (a_3 6), .int 0, .ref (a_3 4), .ref (a_3 1), .ref (a_3 5), .ref (a_3 2), .ref (a_3 10), .int 0, .ref (a_3 11), .ref (a_3 12), .int 0, .ref (a_3 13), .ref (a_3 14), .ref (a_3 3), .ref (a_3 15), .ref (a_3 16)])), ((a_3 1), .inr (0, [.int 0, .int 0, .int 0, .int (-1), .ref (a_3 20), .ref (a_3 21), .ref (a_3 22), .ref (a_3 23), .ref (a_3 7), .ref (a_3 24), .ref (a_3 25), .ref (a_3 26), .ref (a_3 27), .ref (a_3 28), .ref (a_3 29), .ref (a_3 30), .ref (a_3 31)])), ((a_3 2), .inr (2, [.int 0, .ref (a_3 60), .ref (a_3 61)])), ((a_3 3), .inr (3, [.int 0, .int 0, .int 0, .ref (a_3 62), .ref (a_3 63)])), ((a_3 4), .inr (4, [.int 0, .int (-1), .null, .int 0, .int 0, .int 0, .int 0, .int 0, .null, .ref (a_3 64), .ref (a_3 65), .ref (a_3 66)])), ((a_3 5), .inr (0, [.int 0, .int 0, .int 0, .int (-1), .ref (a_3 8), .ref (a_3 41), .ref (a_3 42), .ref (a_3 43), .ref (a_3 9), .ref (a_3 44), .ref (a_3 45), .ref (a_3 46), .ref (a_3 47), .ref (a_3 48), .ref (a_3 49), .ref (a_3 50), .ref (a_3 51)])), ((a_3 6), .inl ((k_4 0), 900, .inl (fun _ => 0))), ((a_3 7), .inl ((k_4 1), 22, .inl (fun _ => 0))), ((a_3 8), .inl ((k_4 2), 8, .inl (fun _ => 0))), ((a_3 9), .inl ((k_4 3), 22, .inl (fun _ => 0)))]) hP hD [0] [] rfl rfl (by decide) (by decide) hk1 hFc hP1 hD1
  have hK := hK.app hK1
  clear hk1 hz1 ht hvm
  generalize H1 = H at hP hS ⊢
  have hP : va_P (dC, dI) vwCl [((a_3 0), .inr (8, [.ref (a_3 6), .int 0, .ref (a_3 4), .ref (a_3 1), .ref (a_3 5), .ref (a_3 2), .ref (a_3 10), .int 0, .ref (a_3 11), .ref (a_3 12), .int 0, .ref (a_3 13), .ref (a_3 14), .ref (a_3 3), .ref (a_3 15), .ref (a_3 16)])), ((a_3 1), .inr (0, [.int 0, .int 0, .int 0, .int (-1), .ref (a_3 20), .ref (a_3 21), .ref (a_3 22), .ref (a_3 23), .ref (a_3 7), .ref (a_3 24), .ref (a_3 25), .ref (a_3 26), .ref (a_3 27), .ref (a_3 28), .ref (a_3 29), .ref (a_3 30), .ref (a_3 31)])), ((a_3 2), .inr (2, [.int 0, .ref (a_3 60), .ref (a_3 61)])), ((a_3 3), .inr (3, [.int 0, .int 0, .int 0, .ref (a_3 62), .ref (a_3 63)])), ((a_3 4), .inr (4, [.int 0, .int (-1), .null, .int 0, .int 0, .int 0, .int 0, .int 0, .null, .ref (a_3 64), .ref (a_3 65), .ref (a_3 66)])), ((a_3 5), .inr (0, [.int 0, .int 0, .int 0, .int (-1), .ref (a_3 8), .ref (a_3 41), .ref (a_3 42), .ref (a_3 43), .ref (a_3 9), .ref (a_3 44), .ref (a_3 45), .ref (a_3 46), .ref (a_3 47), .ref (a_3 48), .ref (a_3 49), .ref (a_3 50), .ref (a_3 51)])), ((a_3 6), .inl ((k_4 0), 900, .inl (fun _ => 0))), ((a_3 7), .inl ((k_4 1), 22, .inl (fun _ => 0))), ((a_3 8), .inl ((k_4 2), 8, .inl (fun _ => 0))), ((a_3 9), .inl ((k_4 3), 22, .inl (fun _ => 0)))] H := hP
  have hD : va_D A [((a_3 0), .inr (8, [.ref (a_3 6), .int 0, .ref (a_3 4), .ref (a_3 1), .ref (a_3 5), .ref (a_3 2), .ref (a_3 10), .int 0, .ref (a_3 11), .ref (a_3 12), .int 0, .ref (a_3 13), .ref (a_3 14), .ref (a_3 3), .ref (a_3 15), .ref (a_3 16)])), ((a_3 1), .inr (0, [.int 0, .int 0, .int 0, .int (-1), .ref (a_3 20), .ref (a_3 21), .ref (a_3 22), .ref (a_3 23), .ref (a_3 7), .ref (a_3 24), .ref (a_3 25), .ref (a_3 26), .ref (a_3 27), .ref (a_3 28), .ref (a_3 29), .ref (a_3 30), .ref (a_3 31)])), ((a_3 2), .inr (2, [.int 0, .ref (a_3 60), .ref (a_3 61)])), ((a_3 3), .inr (3, [.int 0, .int 0, .int 0, .ref (a_3 62), .ref (a_3 63)])), ((a_3 4), .inr (4, [.int 0, .int (-1), .null, .int 0, .int 0, .int 0, .int 0, .int 0, .null, .ref (a_3 64), .ref (a_3 65), .ref (a_3 66)])), ((a_3 5), .inr (0, [.int 0, .int 0, .int 0, .int (-1), .ref (a_3 8), .ref (a_3 41), .ref (a_3 42), .ref (a_3 43), .ref (a_3 9), .ref (a_3 44), .ref (a_3 45), .ref (a_3 46), .ref (a_3 47), .ref (a_3 48), .ref (a_3 49), .ref (a_3 50), .ref (a_3 51)])), ((a_3 6), .inl ((k_4 0), 900, .inl (fun _ => 0))), ((a_3 7), .inl ((k_4 1), 22, .inl (fun _ => 0))), ((a_3 8), .inl ((k_4 2), 8, .inl (fun _ => 0))), ((a_3 9), .inl ((k_4 3), 22, .inl (fun _ => 0)))] := hD
  have hK : va_K (dC, dI) vwCl [(k_4 0, .int), (k_4 1, .int), (k_4 2, .boolean), (k_4 3, .int)] s := hK
  refine W.widen (k := 1673) (n := 30488) (by first | omega | exact Nat.le_of_ble_eq_true rfl) (by first | omega | exact Nat.le_of_ble_eq_true rfl) ?_
  refine lv_astore_n (lv' := [(1, .ref (a_3 0)), (0, .ref b)]) hx hb dL_law_7 rfl hl (by decide) rfl (fun ls hl => ?_)
  refine va_new (ci := 9) (fs := [.int 0, .null, .null, .null, .null, .null, .null, .null, .null, .null, .null, .null, .null, .null, .null, .null, .int 0, .null, .int 0, .int 0, .int 0, .int 0, .int 0, .int 0, .int 0, .int 0, .int 0, .int 0, .int 0, .int 0, .int 0, .null, .null, .int 0, .null, .null, .null, .null, .null, .null, .null, .null, .null, .null, .null, .int 0, .int 0, .null, .null, .null, .null, .null, .int 0, .int 0, .null, .null, .null, .null, .null, .null, .null, .int 0, .int 0, .int 0, .null, .int 0, .int 0]) (C := RX9) (T := TX9) (N := 67) hx hb hts hiX9 tyX9 tyX9_ok hown (hts (.classLink RL 16 RX9) (List.mem_of_getElem? (i := 705) rfl)) (hts (.instantiable RX9 67) (List.mem_of_getElem? (i := 708) rfl)) (hts (.initialized RX9) (List.mem_of_getElem? (i := 219) rfl)) hK hP hD hS hA rfl (pu_fs (by decide)) (Nat.le_of_ble_eq_true rfl) (Nat.le_of_ble_eq_true rfl) dL_law_8 (fun q_5 H hP hD hS => ?_)
  have hP : va_P (dC, dI) vwCl [((a_3 0), .inr (8, [.ref (a_3 6), .int 0, .ref (a_3 4), .ref (a_3 1), .ref (a_3 5), .ref (a_3 2), .ref (a_3 10), .int 0, .ref (a_3 11), .ref (a_3 12), .int 0, .ref (a_3 13), .ref (a_3 14), .ref (a_3 3), .ref (a_3 15), .ref (a_3 16)])), ((a_3 1), .inr (0, [.int 0, .int 0, .int 0, .int (-1), .ref (a_3 20), .ref (a_3 21), .ref (a_3 22), .ref (a_3 23), .ref (a_3 7), .ref (a_3 24), .ref (a_3 25), .ref (a_3 26), .ref (a_3 27), .ref (a_3 28), .ref (a_3 29), .ref (a_3 30), .ref (a_3 31)])), ((a_3 2), .inr (2, [.int 0, .ref (a_3 60), .ref (a_3 61)])), ((a_3 3), .inr (3, [.int 0, .int 0, .int 0, .ref (a_3 62), .ref (a_3 63)])), ((a_3 4), .inr (4, [.int 0, .int (-1), .null, .int 0, .int 0, .int 0, .int 0, .int 0, .null, .ref (a_3 64), .ref (a_3 65), .ref (a_3 66)])), ((a_3 5), .inr (0, [.int 0, .int 0, .int 0, .int (-1), .ref (a_3 8), .ref (a_3 41), .ref (a_3 42), .ref (a_3 43), .ref (a_3 9), .ref (a_3 44), .ref (a_3 45), .ref (a_3 46), .ref (a_3 47), .ref (a_3 48), .ref (a_3 49), .ref (a_3 50), .ref (a_3 51)])), ((a_3 6), .inl ((k_4 0), 900, .inl (fun _ => 0))), ((a_3 7), .inl ((k_4 1), 22, .inl (fun _ => 0))), ((a_3 8), .inl ((k_4 2), 8, .inl (fun _ => 0))), ((a_3 9), .inl ((k_4 3), 22, .inl (fun _ => 0))), (q_5, .inr (9, [.int 0, .null, .null, .null, .null, .null, .null, .null, .null, .null, .null, .null, .null, .null, .null, .null, .int 0, .null, .int 0, .int 0, .int 0, .int 0, .int 0, .int 0, .int 0, .int 0, .int 0, .int 0, .int 0, .int 0, .int 0, .null, .null, .int 0, .null, .null, .null, .null, .null, .null, .null, .null, .null, .null, .null, .int 0, .int 0, .null, .null, .null, .null, .null, .int 0, .int 0, .null, .null, .null, .null, .null, .null, .null, .int 0, .int 0, .int 0, .null, .int 0, .int 0]))] H := hP
  have hD : va_D A [((a_3 0), .inr (8, [.ref (a_3 6), .int 0, .ref (a_3 4), .ref (a_3 1), .ref (a_3 5), .ref (a_3 2), .ref (a_3 10), .int 0, .ref (a_3 11), .ref (a_3 12), .int 0, .ref (a_3 13), .ref (a_3 14), .ref (a_3 3), .ref (a_3 15), .ref (a_3 16)])), ((a_3 1), .inr (0, [.int 0, .int 0, .int 0, .int (-1), .ref (a_3 20), .ref (a_3 21), .ref (a_3 22), .ref (a_3 23), .ref (a_3 7), .ref (a_3 24), .ref (a_3 25), .ref (a_3 26), .ref (a_3 27), .ref (a_3 28), .ref (a_3 29), .ref (a_3 30), .ref (a_3 31)])), ((a_3 2), .inr (2, [.int 0, .ref (a_3 60), .ref (a_3 61)])), ((a_3 3), .inr (3, [.int 0, .int 0, .int 0, .ref (a_3 62), .ref (a_3 63)])), ((a_3 4), .inr (4, [.int 0, .int (-1), .null, .int 0, .int 0, .int 0, .int 0, .int 0, .null, .ref (a_3 64), .ref (a_3 65), .ref (a_3 66)])), ((a_3 5), .inr (0, [.int 0, .int 0, .int 0, .int (-1), .ref (a_3 8), .ref (a_3 41), .ref (a_3 42), .ref (a_3 43), .ref (a_3 9), .ref (a_3 44), .ref (a_3 45), .ref (a_3 46), .ref (a_3 47), .ref (a_3 48), .ref (a_3 49), .ref (a_3 50), .ref (a_3 51)])), ((a_3 6), .inl ((k_4 0), 900, .inl (fun _ => 0))), ((a_3 7), .inl ((k_4 1), 22, .inl (fun _ => 0))), ((a_3 8), .inl ((k_4 2), 8, .inl (fun _ => 0))), ((a_3 9), .inl ((k_4 3), 22, .inl (fun _ => 0))), (q_5, .inr (9, [.int 0, .null, .null, .null, .null, .null, .null, .null, .null, .null, .null, .null, .null, .null, .null, .null, .int 0, .null, .int 0, .int 0, .int 0, .int 0, .int 0, .int 0, .int 0, .int 0, .int 0, .int 0, .int 0, .int 0, .int 0, .null, .null, .int 0, .null, .null, .null, .null, .null, .null, .null, .null, .null, .null, .null, .int 0, .int 0, .null, .null, .null, .null, .null, .int 0, .int 0, .null, .null, .null, .null, .null, .null, .null, .int 0, .int 0, .int 0, .null, .int 0, .int 0]))] := hD
  refine W.widen (k := 1674) (n := 30555) (by omega) (by omega) ?_
  refine lv_dup hx hb dL_law_11 rfl ?_
  have hFc := va_free (wc := [(q_5, .inr (9, [.int 0, .null, .null, .null, .null, .null, .null, .null, .null, .null, .null, .null, .null, .null, .null, .null, .int 0, .null, .int 0, .int 0, .int 0, .int 0, .int 0, .int 0, .int 0, .int 0, .int 0, .int 0, .int 0, .int 0, .int 0, .null, .null, .int 0, .null, .null, .null, .null, .null, .null, .null, .null, .null, .null, .null, .int 0, .int 0, .null, .null, .null, .null, .null, .int 0, .int 0, .null, .null, .null, .null, .null, .null, .null, .int 0, .int 0, .int 0, .null, .int 0, .int 0]))]) hD hS hA [10] rfl
  refine va_callv (va_runI (As := []) (rest := [.ref q_5]) ⟨hx, hb, hml, hown, hts⟩ (c_X9_init l dC dI _ q_5) (cwI 0 hts g_L_X9_init rfl rfl rfl (hts (.initialized RX9) (List.mem_of_getElem? (i := 219) rfl)) (hts (.methodLink RL 18 yX9_init) (List.mem_of_getElem? (i := 702) rfl)) (hts (.instanceMethod yX9_init) (List.mem_of_getElem? (i := 703) rfl)) rfl (by decide +kernel) ⟨Nat.le_of_ble_eq_true rfl, Nat.le_of_ble_eq_true rfl⟩) ⟨pu_bl, pu_in (hP.sub [10] rfl) (hK.sub [] rfl) (hD.sub [10] (by decide) rfl)⟩ rfl rfl hl.1 rfl (lv_room (Nat.le_of_ble_eq_true rfl)) dL_law_12 ⟨Nat.le_of_ble_eq_true rfl, Nat.le_of_ble_eq_true rfl⟩) hS (fun q _ h => hFc q h) hFc (fun u t H1 locs ht hvm hw hB hz1 hk1 hS => ?_)
  obtain ⟨b_7, j_8, ⟨hP1, hK1, hD1⟩, ha⟩ := hB
  subst ha
  rw [ht] at hP1
  have hK1 := va_K.moved hvm.symm hK1
  obtain ⟨hP, hD⟩ := va_join (wr := [((a_3 0), .inr (8, [.ref (a_3 6), .int 0, .ref (a_3 4), .ref (a_3 1), .ref (a_3 5), .ref (a_3 2), .ref (a_3 10), .int 0, .ref (a_3 11), .ref (a_3 12), .int 0, .ref (a_3 13), .ref (a_3 14), .ref (a_3 3), .ref (a_3 15), .ref (a_3 16)])), ((a_3 1), .inr (0, [.int 0, .int 0, .int 0, .int (-1), .ref (a_3 20), .ref (a_3 21), .ref (a_3 22), .ref (a_3 23), .ref (a_3 7), .ref (a_3 24), .ref (a_3 25), .ref (a_3 26), .ref (a_3 27), .ref (a_3 28), .ref (a_3 29), .ref (a_3 30), .ref (a_3 31)])), ((a_3 2), .inr (2, [.int 0, .ref (a_3 60), .ref (a_3 61)])), ((a_3 3), .inr (3, [.int 0, .int 0, .int 0, .ref (a_3 62), .ref (a_3 63)])), ((a_3 4), .inr (4, [.int 0, .int (-1), .null, .int 0, .int 0, .int 0, .int 0, .int 0, .null, .ref (a_3 64), .ref (a_3 65), .ref (a_3 66)])), ((a_3 5), .inr (0, [.int 0, .int 0, .int 0, .int (-1), .ref (a_3 8), .ref (a_3 41), .ref (a_3 42), .ref (a_3 43), .ref (a_3 9), .ref (a_3 44), .ref (a_3 45), .ref (a_3 46), .ref (a_3 47), .ref (a_3 48), .ref (a_3 49), .ref (a_3 50), .ref (a_3 51)])), ((a_3 6), .inl ((k_4 0), 900, .inl (fun _ => 0))), ((a_3 7), .inl ((k_4 1), 22, .inl (fun _ => 0))), ((a_3 8), .inl ((k_4 2), 8, .inl (fun _ => 0))), ((a_3 9), .inl ((k_4 3), 22, .inl (fun _ => 0)))]) (w1 := [((b_7 0), .inr (9, [.int 0, .ref (b_7 10), .ref (b_7 11), .ref (b_7 12), .ref (b_7 13), .ref (b_7 14), .ref (b_7 15), .ref (b_7 16), .ref (b_7 17), .ref (b_7 18), .ref (b_7 19), .ref (b_7 20), .ref (b_7 1), .ref (b_7 2), .ref (b_7 3), .ref (b_7 4), .int 0, .ref (b_7 5), .int 0, .int 0, .int 0, .int 0, .int 0, .int 0, .int 0, .int (-1), .int 0, .int 0, .int 0, .int 0, .int 0, .ref (b_7 21), .ref (b_7 22), .int 0, .ref (b_7 23), .ref (b_7 24), .ref (b_7 25), .ref (b_7 26), .ref (b_7 27), .ref (b_7 28), .ref (b_7 29), .ref (b_7 30), .ref (b_7 31), .ref (b_7 32), .ref (b_7 33), .int 0, .int 0, .ref (b_7 34), .ref (b_7 35), .ref (b_7 36), .ref (b_7 37), .ref (b_7 38), .int 0, .int 0, .ref (b_7 39), .ref (b_7 40), .ref (b_7 41), .ref (b_7 42), .ref (b_7 43), .ref (b_7 44), .ref (b_7 45), .int 0, .int 0, .int 0, .ref (b_7 46), .int 0, .int 0])), ((b_7 1), .inl ((j_8 1), 2, .inl (fun _ => 0))), ((b_7 2), .inl ((j_8 2), 2, .inl (fun _ => 0))), ((b_7 3), .inl ((j_8 3), 2, .inl (fun _ => 0))), ((b_7 4), .inl ((j_8 4), 2, .inl begF)), ((b_7 5), .inl ((j_8 5), 900, .inl (fun _ => 0)))]) hP hD [10] [0, 1, 2, 3, 4, 5, 6, 7, 8, 9] rfl rfl (by decide) (by decide) hk1 hFc hP1 hD1
  have hK := hK.app hK1
  clear hk1 hz1 ht hvm
  generalize H1 = H at hP hS ⊢
  have hP : va_P (dC, dI) vwCl [((a_3 0), .inr (8, [.ref (a_3 6), .int 0, .ref (a_3 4), .ref (a_3 1), .ref (a_3 5), .ref (a_3 2), .ref (a_3 10), .int 0, .ref (a_3 11), .ref (a_3 12), .int 0, .ref (a_3 13), .ref (a_3 14), .ref (a_3 3), .ref (a_3 15), .ref (a_3 16)])), ((a_3 1), .inr (0, [.int 0, .int 0, .int 0, .int (-1), .ref (a_3 20), .ref (a_3 21), .ref (a_3 22), .ref (a_3 23), .ref (a_3 7), .ref (a_3 24), .ref (a_3 25), .ref (a_3 26), .ref (a_3 27), .ref (a_3 28), .ref (a_3 29), .ref (a_3 30), .ref (a_3 31)])), ((a_3 2), .inr (2, [.int 0, .ref (a_3 60), .ref (a_3 61)])), ((a_3 3), .inr (3, [.int 0, .int 0, .int 0, .ref (a_3 62), .ref (a_3 63)])), ((a_3 4), .inr (4, [.int 0, .int (-1), .null, .int 0, .int 0, .int 0, .int 0, .int 0, .null, .ref (a_3 64), .ref (a_3 65), .ref (a_3 66)])), ((a_3 5), .inr (0, [.int 0, .int 0, .int 0, .int (-1), .ref (a_3 8), .ref (a_3 41), .ref (a_3 42), .ref (a_3 43), .ref (a_3 9), .ref (a_3 44), .ref (a_3 45), .ref (a_3 46), .ref (a_3 47), .ref (a_3 48), .ref (a_3 49), .ref (a_3 50), .ref (a_3 51)])), ((a_3 6), .inl ((k_4 0), 900, .inl (fun _ => 0))), ((a_3 7), .inl ((k_4 1), 22, .inl (fun _ => 0))), ((a_3 8), .inl ((k_4 2), 8, .inl (fun _ => 0))), ((a_3 9), .inl ((k_4 3), 22, .inl (fun _ => 0))), ((b_7 0), .inr (9, [.int 0, .ref (b_7 10), .ref (b_7 11), .ref (b_7 12), .ref (b_7 13), .ref (b_7 14), .ref (b_7 15), .ref (b_7 16), .ref (b_7 17), .ref (b_7 18), .ref (b_7 19), .ref (b_7 20), .ref (b_7 1), .ref (b_7 2), .ref (b_7 3), .ref (b_7 4), .int 0, .ref (b_7 5), .int 0, .int 0, .int 0, .int 0, .int 0, .int 0, .int 0, .int (-1), .int 0, .int 0, .int 0, .int 0, .int 0, .ref (b_7 21), .ref (b_7 22), .int 0, .ref (b_7 23), .ref (b_7 24), .ref (b_7 25), .ref (b_7 26), .ref (b_7 27), .ref (b_7 28), .ref (b_7 29), .ref (b_7 30), .ref (b_7 31), .ref (b_7 32), .ref (b_7 33), .int 0, .int 0, .ref (b_7 34), .ref (b_7 35), .ref (b_7 36), .ref (b_7 37), .ref (b_7 38), .int 0, .int 0, .ref (b_7 39), .ref (b_7 40), .ref (b_7 41), .ref (b_7 42), .ref (b_7 43), .ref (b_7 44), .ref (b_7 45), .int 0, .int 0, .int 0, .ref (b_7 46), .int 0, .int 0])), ((b_7 1), .inl ((j_8 1), 2, .inl (fun _ => 0))), ((b_7 2), .inl ((j_8 2), 2, .inl (fun _ => 0))), ((b_7 3), .inl ((j_8 3), 2, .inl (fun _ => 0))), ((b_7 4), .inl ((j_8 4), 2, .inl begF)), ((b_7 5), .inl ((j_8 5), 900, .inl (fun _ => 0)))] H := hP
  have hD : va_D A [((a_3 0), .inr (8, [.ref (a_3 6), .int 0, .ref (a_3 4), .ref (a_3 1), .ref (a_3 5), .ref (a_3 2), .ref (a_3 10), .int 0, .ref (a_3 11), .ref (a_3 12), .int 0, .ref (a_3 13), .ref (a_3 14), .ref (a_3 3), .ref (a_3 15), .ref (a_3 16)])), ((a_3 1), .inr (0, [.int 0, .int 0, .int 0, .int (-1), .ref (a_3 20), .ref (a_3 21), .ref (a_3 22), .ref (a_3 23), .ref (a_3 7), .ref (a_3 24), .ref (a_3 25), .ref (a_3 26), .ref (a_3 27), .ref (a_3 28), .ref (a_3 29), .ref (a_3 30), .ref (a_3 31)])), ((a_3 2), .inr (2, [.int 0, .ref (a_3 60), .ref (a_3 61)])), ((a_3 3), .inr (3, [.int 0, .int 0, .int 0, .ref (a_3 62), .ref (a_3 63)])), ((a_3 4), .inr (4, [.int 0, .int (-1), .null, .int 0, .int 0, .int 0, .int 0, .int 0, .null, .ref (a_3 64), .ref (a_3 65), .ref (a_3 66)])), ((a_3 5), .inr (0, [.int 0, .int 0, .int 0, .int (-1), .ref (a_3 8), .ref (a_3 41), .ref (a_3 42), .ref (a_3 43), .ref (a_3 9), .ref (a_3 44), .ref (a_3 45), .ref (a_3 46), .ref (a_3 47), .ref (a_3 48), .ref (a_3 49), .ref (a_3 50), .ref (a_3 51)])), ((a_3 6), .inl ((k_4 0), 900, .inl (fun _ => 0))), ((a_3 7), .inl ((k_4 1), 22, .inl (fun _ => 0))), ((a_3 8), .inl ((k_4 2), 8, .inl (fun _ => 0))), ((a_3 9), .inl ((k_4 3), 22, .inl (fun _ => 0))), ((b_7 0), .inr (9, [.int 0, .ref (b_7 10), .ref (b_7 11), .ref (b_7 12), .ref (b_7 13), .ref (b_7 14), .ref (b_7 15), .ref (b_7 16), .ref (b_7 17), .ref (b_7 18), .ref (b_7 19), .ref (b_7 20), .ref (b_7 1), .ref (b_7 2), .ref (b_7 3), .ref (b_7 4), .int 0, .ref (b_7 5), .int 0, .int 0, .int 0, .int 0, .int 0, .int 0, .int 0, .int (-1), .int 0, .int 0, .int 0, .int 0, .int 0, .ref (b_7 21), .ref (b_7 22), .int 0, .ref (b_7 23), .ref (b_7 24), .ref (b_7 25), .ref (b_7 26), .ref (b_7 27), .ref (b_7 28), .ref (b_7 29), .ref (b_7 30), .ref (b_7 31), .ref (b_7 32), .ref (b_7 33), .int 0, .int 0, .ref (b_7 34), .ref (b_7 35), .ref (b_7 36), .ref (b_7 37), .ref (b_7 38), .int 0, .int 0, .ref (b_7 39), .ref (b_7 40), .ref (b_7 41), .ref (b_7 42), .ref (b_7 43), .ref (b_7 44), .ref (b_7 45), .int 0, .int 0, .int 0, .ref (b_7 46), .int 0, .int 0])), ((b_7 1), .inl ((j_8 1), 2, .inl (fun _ => 0))), ((b_7 2), .inl ((j_8 2), 2, .inl (fun _ => 0))), ((b_7 3), .inl ((j_8 3), 2, .inl (fun _ => 0))), ((b_7 4), .inl ((j_8 4), 2, .inl begF)), ((b_7 5), .inl ((j_8 5), 900, .inl (fun _ => 0)))] := hD
  have hK : va_K (dC, dI) vwCl [(k_4 0, .int), (k_4 1, .int), (k_4 2, .boolean), (k_4 3, .int), (j_8 1, .int), (j_8 2, .int), (j_8 3, .int), (j_8 4, .int), (j_8 5, .int)] s := hK
  refine W.widen (k := 1716) (n := 133608) (by first | omega | exact Nat.le_of_ble_eq_true rfl) (by first | omega | exact Nat.le_of_ble_eq_true rfl) ?_
  refine lv_astore_n (lv' := [(2, .ref (b_7 0)), (1, .ref (a_3 0)), (0, .ref b)]) hx hb dL_law_15 rfl hl (by decide) rfl (fun ls hl => ?_)
  refine lv_iconst (v := 1) hx hb dL_law_16 (by decide) ?_
  refine va_newa (atype := .long) (ty := .long) (N' := 1) (a0 := (1, .inr (.inl (fun _ => 0)))) hx hb (hts (.arrayClass .long) (List.mem_of_getElem? (i := 706) rfl)) rfl hK hP hD hS hA (fun _ => rfl) (by decide) (by decide) (Nat.le_of_ble_eq_true rfl) (Nat.le_of_ble_eq_true rfl) (Nat.le_of_ble_eq_true rfl) dL_law_17 (fun q_9 k_10 H hK hP hD hS => ?_)
  have hP : va_P (dC, dI) vwCl [((a_3 0), .inr (8, [.ref (a_3 6), .int 0, .ref (a_3 4), .ref (a_3 1), .ref (a_3 5), .ref (a_3 2), .ref (a_3 10), .int 0, .ref (a_3 11), .ref (a_3 12), .int 0, .ref (a_3 13), .ref (a_3 14), .ref (a_3 3), .ref (a_3 15), .ref (a_3 16)])), ((a_3 1), .inr (0, [.int 0, .int 0, .int 0, .int (-1), .ref (a_3 20), .ref (a_3 21), .ref (a_3 22), .ref (a_3 23), .ref (a_3 7), .ref (a_3 24), .ref (a_3 25), .ref (a_3 26), .ref (a_3 27), .ref (a_3 28), .ref (a_3 29), .ref (a_3 30), .ref (a_3 31)])), ((a_3 2), .inr (2, [.int 0, .ref (a_3 60), .ref (a_3 61)])), ((a_3 3), .inr (3, [.int 0, .int 0, .int 0, .ref (a_3 62), .ref (a_3 63)])), ((a_3 4), .inr (4, [.int 0, .int (-1), .null, .int 0, .int 0, .int 0, .int 0, .int 0, .null, .ref (a_3 64), .ref (a_3 65), .ref (a_3 66)])), ((a_3 5), .inr (0, [.int 0, .int 0, .int 0, .int (-1), .ref (a_3 8), .ref (a_3 41), .ref (a_3 42), .ref (a_3 43), .ref (a_3 9), .ref (a_3 44), .ref (a_3 45), .ref (a_3 46), .ref (a_3 47), .ref (a_3 48), .ref (a_3 49), .ref (a_3 50), .ref (a_3 51)])), ((a_3 6), .inl ((k_4 0), 900, .inl (fun _ => 0))), ((a_3 7), .inl ((k_4 1), 22, .inl (fun _ => 0))), ((a_3 8), .inl ((k_4 2), 8, .inl (fun _ => 0))), ((a_3 9), .inl ((k_4 3), 22, .inl (fun _ => 0))), ((b_7 0), .inr (9, [.int 0, .ref (b_7 10), .ref (b_7 11), .ref (b_7 12), .ref (b_7 13), .ref (b_7 14), .ref (b_7 15), .ref (b_7 16), .ref (b_7 17), .ref (b_7 18), .ref (b_7 19), .ref (b_7 20), .ref (b_7 1), .ref (b_7 2), .ref (b_7 3), .ref (b_7 4), .int 0, .ref (b_7 5), .int 0, .int 0, .int 0, .int 0, .int 0, .int 0, .int 0, .int (-1), .int 0, .int 0, .int 0, .int 0, .int 0, .ref (b_7 21), .ref (b_7 22), .int 0, .ref (b_7 23), .ref (b_7 24), .ref (b_7 25), .ref (b_7 26), .ref (b_7 27), .ref (b_7 28), .ref (b_7 29), .ref (b_7 30), .ref (b_7 31), .ref (b_7 32), .ref (b_7 33), .int 0, .int 0, .ref (b_7 34), .ref (b_7 35), .ref (b_7 36), .ref (b_7 37), .ref (b_7 38), .int 0, .int 0, .ref (b_7 39), .ref (b_7 40), .ref (b_7 41), .ref (b_7 42), .ref (b_7 43), .ref (b_7 44), .ref (b_7 45), .int 0, .int 0, .int 0, .ref (b_7 46), .int 0, .int 0])), ((b_7 1), .inl ((j_8 1), 2, .inl (fun _ => 0))), ((b_7 2), .inl ((j_8 2), 2, .inl (fun _ => 0))), ((b_7 3), .inl ((j_8 3), 2, .inl (fun _ => 0))), ((b_7 4), .inl ((j_8 4), 2, .inl begF)), ((b_7 5), .inl ((j_8 5), 900, .inl (fun _ => 0)))] H := hP.sub [0, 1, 2, 3, 4, 5, 6, 7, 8, 9, 10, 11, 12, 13, 14, 15] rfl
  have hD : va_D A [((a_3 0), .inr (8, [.ref (a_3 6), .int 0, .ref (a_3 4), .ref (a_3 1), .ref (a_3 5), .ref (a_3 2), .ref (a_3 10), .int 0, .ref (a_3 11), .ref (a_3 12), .int 0, .ref (a_3 13), .ref (a_3 14), .ref (a_3 3), .ref (a_3 15), .ref (a_3 16)])), ((a_3 1), .inr (0, [.int 0, .int 0, .int 0, .int (-1), .ref (a_3 20), .ref (a_3 21), .ref (a_3 22), .ref (a_3 23), .ref (a_3 7), .ref (a_3 24), .ref (a_3 25), .ref (a_3 26), .ref (a_3 27), .ref (a_3 28), .ref (a_3 29), .ref (a_3 30), .ref (a_3 31)])), ((a_3 2), .inr (2, [.int 0, .ref (a_3 60), .ref (a_3 61)])), ((a_3 3), .inr (3, [.int 0, .int 0, .int 0, .ref (a_3 62), .ref (a_3 63)])), ((a_3 4), .inr (4, [.int 0, .int (-1), .null, .int 0, .int 0, .int 0, .int 0, .int 0, .null, .ref (a_3 64), .ref (a_3 65), .ref (a_3 66)])), ((a_3 5), .inr (0, [.int 0, .int 0, .int 0, .int (-1), .ref (a_3 8), .ref (a_3 41), .ref (a_3 42), .ref (a_3 43), .ref (a_3 9), .ref (a_3 44), .ref (a_3 45), .ref (a_3 46), .ref (a_3 47), .ref (a_3 48), .ref (a_3 49), .ref (a_3 50), .ref (a_3 51)])), ((a_3 6), .inl ((k_4 0), 900, .inl (fun _ => 0))), ((a_3 7), .inl ((k_4 1), 22, .inl (fun _ => 0))), ((a_3 8), .inl ((k_4 2), 8, .inl (fun _ => 0))), ((a_3 9), .inl ((k_4 3), 22, .inl (fun _ => 0))), ((b_7 0), .inr (9, [.int 0, .ref (b_7 10), .ref (b_7 11), .ref (b_7 12), .ref (b_7 13), .ref (b_7 14), .ref (b_7 15), .ref (b_7 16), .ref (b_7 17), .ref (b_7 18), .ref (b_7 19), .ref (b_7 20), .ref (b_7 1), .ref (b_7 2), .ref (b_7 3), .ref (b_7 4), .int 0, .ref (b_7 5), .int 0, .int 0, .int 0, .int 0, .int 0, .int 0, .int 0, .int (-1), .int 0, .int 0, .int 0, .int 0, .int 0, .ref (b_7 21), .ref (b_7 22), .int 0, .ref (b_7 23), .ref (b_7 24), .ref (b_7 25), .ref (b_7 26), .ref (b_7 27), .ref (b_7 28), .ref (b_7 29), .ref (b_7 30), .ref (b_7 31), .ref (b_7 32), .ref (b_7 33), .int 0, .int 0, .ref (b_7 34), .ref (b_7 35), .ref (b_7 36), .ref (b_7 37), .ref (b_7 38), .int 0, .int 0, .ref (b_7 39), .ref (b_7 40), .ref (b_7 41), .ref (b_7 42), .ref (b_7 43), .ref (b_7 44), .ref (b_7 45), .int 0, .int 0, .int 0, .ref (b_7 46), .int 0, .int 0])), ((b_7 1), .inl ((j_8 1), 2, .inl (fun _ => 0))), ((b_7 2), .inl ((j_8 2), 2, .inl (fun _ => 0))), ((b_7 3), .inl ((j_8 3), 2, .inl (fun _ => 0))), ((b_7 4), .inl ((j_8 4), 2, .inl begF)), ((b_7 5), .inl ((j_8 5), 900, .inl (fun _ => 0)))] := hD.sub [0, 1, 2, 3, 4, 5, 6, 7, 8, 9, 10, 11, 12, 13, 14, 15] (by decide) rfl
  have hK : va_K (dC, dI) vwCl [(k_4 0, .int), (k_4 1, .int), (k_4 2, .boolean), (k_4 3, .int), (j_8 1, .int), (j_8 2, .int), (j_8 3, .int), (j_8 4, .int), (j_8 5, .int)] s := hK.sub [0, 1, 2, 3, 4, 5, 6, 7, 8] rfl
  refine W.widen (k := 1717) (n := 133609) (by omega) (by omega) ?_
  refine lv_astore_n (lv' := [(3, .ref q_9), (2, .ref (b_7 0)), (1, .ref (a_3 0)), (0, .ref b)]) hx hb dL_law_19 rfl hl (by decide) rfl (fun ls hl => ?_)
  refine lv_iconst (v := 0) hx hb dL_law_20 (by decide) ?_
  refine lv_istore (lv' := [(4, .int 0), (3, .ref q_9), (2, .ref (b_7 0)), (1, .ref (a_3 0)), (0, .ref b)]) hx hb dL_law_21 hl (by decide) rfl (fun ls hl => ?_)
  refine lv_iload hx hb dL_law_23 (lv_at hl 0 rfl) ?_
  refine lv_aload_n hx hb dL_law_25 rfl (lv_at hl 4 rfl) ?_
  refine va_slen hx hb hX hbl hbA hS dL_law_26 ?_
  refine lv_bipush (v := 7) hx hb dL_law_27 (by decide) ?_
  refine lv_isub hx hb dL_law_29 ?_
  rcases Nat.lt_or_ge L 7 with h7 | h7
  · refine lv_icmp_gt (tgt := 1731) hx hb dL_law_30 (by decide) (fun _ => ?_) (fun z => absurd (law_short L h7) z)
    exact law_exit l C0 hA hAs hS (Nat.le_of_ble_eq_true rfl) (Nat.le_of_ble_eq_true rfl)
  obtain rfl : L = 7 := by omega
  refine lv_icmp_gt (tgt := 1731) hx hb dL_law_30 (by decide) (fun z => absurd z (by decide)) (fun _ => ?_)
  refine lv_aload_n hx hb dL_law_33 rfl (lv_at hl 4 rfl) ?_
  refine lv_iload hx hb dL_law_34 (lv_at hl 0 rfl) ?_
  refine va_sld hx hb hX hbl hbA hS (show ¬ (_ ∨ _) by decide) dL_law_36 ?_
  refine lv_bipush (v := 63) hx hb dL_law_37 (by decide) ?_
  refine lv_iand hx hb dL_law_39 ?_
  refine lv_topi (fun y ey => ?_)
  obtain ⟨n, hn, en⟩ := pk_andE (xs (0 : Int32).toNatClampNeg) (m := 63) 6 (by decide)
  rw [en] at ey
  by_cases h0 : n = 0
  · subst h0
    subst ey
    refine lv_tableIn (tgt := 216) (off := 176) hx hb dL_law_40 (by decide) (by decide) rfl (by decide) ?_
    exact law_case_0 l hlt C0 hA hAs hY a_3 b_7 k_4 j_8 q_9 _ _ hK hP hD hS ls (lv_sub hl [4, 3, 2, 1, 0] rfl)
  by_cases h1 : n = 1
  · subst h1
    subst ey
    refine lv_tableIn (tgt := 289) (off := 249) hx hb dL_law_40 (by decide) (by decide) rfl (by decide) ?_
    exact law_case_1 l hlt C0 hA hAs hY a_3 b_7 k_4 j_8 q_9 _ _ hK hP hD hS ls (lv_sub hl [4, 3, 2, 1, 0] rfl)
  by_cases h2 : n = 2
  · subst h2
    subst ey
    refine lv_tableIn (tgt := 314) (off := 274) hx hb dL_law_40 (by decide) (by decide) rfl (by decide) ?_
    exact law_case_2 l hlt C0 hA hAs hY a_3 b_7 k_4 j_8 q_9 _ _ hK hP hD hS ls (lv_sub hl [4, 3, 2, 1, 0] rfl)
  by_cases h3 : n = 3
  · subst h3
    subst ey
    refine lv_tableIn (tgt := 327) (off := 287) hx hb dL_law_40 (by decide) (by decide) rfl (by decide) ?_
    exact law_case_3 l hlt C0 hA hAs hY a_3 b_7 k_4 j_8 q_9 _ _ hK hP hD hS ls (lv_sub hl [4, 3, 2, 1, 0] rfl)
  by_cases h4 : n = 4
  · subst h4
    subst ey
    refine lv_tableIn (tgt := 352) (off := 312) hx hb dL_law_40 (by decide) (by decide) rfl (by decide) ?_
    exact law_case_4 l hlt C0 hA hAs hY a_3 b_7 k_4 j_8 q_9 _ _ hK hP hD hS ls (lv_sub hl [4, 3, 2, 1, 0] rfl)
  by_cases h5 : n = 5
  · subst h5
    subst ey
    refine lv_tableIn (tgt := 377) (off := 337) hx hb dL_law_40 (by decide) (by decide) rfl (by decide) ?_
    exact law_case_5 l hlt C0 hA hAs hY a_3 b_7 k_4 j_8 q_9 _ _ hK hP hD hS ls (lv_sub hl [4, 3, 2, 1, 0] rfl)
  by_cases h6 : n = 6
  · subst h6
    subst ey
    refine lv_tableIn (tgt := 414) (off := 374) hx hb dL_law_40 (by decide) (by decide) rfl (by decide) ?_
    exact law_case_6 l hlt C0 hA hAs hY a_3 b_7 k_4 j_8 q_9 _ _ hK hP hD hS ls (lv_sub hl [4, 3, 2, 1, 0] rfl)
  by_cases h7 : n = 7
  · subst h7
    subst ey
    refine lv_tableIn (tgt := 451) (off := 411) hx hb dL_law_40 (by decide) (by decide) rfl (by decide) ?_
    exact law_case_7 l hlt C0 hA hAs hY a_3 b_7 k_4 j_8 q_9 _ _ hK hP hD hS ls (lv_sub hl [4, 3, 2, 1, 0] rfl)
  by_cases h8 : n = 8
  · subst h8
    subst ey
    refine lv_tableIn (tgt := 500) (off := 460) hx hb dL_law_40 (by decide) (by decide) rfl (by decide) ?_
    exact law_case_8 l hlt C0 hA hAs hY a_3 b_7 k_4 j_8 q_9 _ _ hK hP hD hS ls (lv_sub hl [4, 3, 2, 1, 0] rfl)
  by_cases h9 : n = 9
  · subst h9
    subst ey
    refine lv_tableIn (tgt := 537) (off := 497) hx hb dL_law_40 (by decide) (by decide) rfl (by decide) ?_
    exact law_case_9 l hlt C0 hA hAs hY a_3 b_7 k_4 j_8 q_9 _ _ hK hP hD hS ls (lv_sub hl [4, 3, 2, 1, 0] rfl)
  by_cases h10 : n = 10
  · subst h10
    subst ey
    refine lv_tableIn (tgt := 586) (off := 546) hx hb dL_law_40 (by decide) (by decide) rfl (by decide) ?_
    exact law_case_10 l hlt C0 hA hAs hY a_3 b_7 k_4 j_8 q_9 _ _ hK hP hD hS ls (lv_sub hl [4, 3, 2, 1, 0] rfl)
  by_cases h11 : n = 11
  · subst h11
    subst ey
    refine lv_tableIn (tgt := 639) (off := 599) hx hb dL_law_40 (by decide) (by decide) rfl (by decide) ?_
    exact law_case_11 l hlt C0 hA hAs hY a_3 b_7 k_4 j_8 q_9 _ _ hK hP hD hS ls (lv_sub hl [4, 3, 2, 1, 0] rfl)
  by_cases h12 : n = 12
  · subst h12
    subst ey
    refine lv_tableIn (tgt := 652) (off := 612) hx hb dL_law_40 (by decide) (by decide) rfl (by decide) ?_
    exact law_case_12 l hlt C0 hA hAs hY a_3 b_7 k_4 j_8 q_9 _ _ hK hP hD hS ls (lv_sub hl [4, 3, 2, 1, 0] rfl)
  by_cases h13 : n = 13
  · subst h13
    subst ey
    refine lv_tableIn (tgt := 705) (off := 665) hx hb dL_law_40 (by decide) (by decide) rfl (by decide) ?_
    exact law_case_13 l hlt C0 hA hAs hY a_3 b_7 k_4 j_8 q_9 _ _ hK hP hD hS ls (lv_sub hl [4, 3, 2, 1, 0] rfl)
  by_cases h14 : n = 14
  · subst h14
    subst ey
    refine lv_tableIn (tgt := 742) (off := 702) hx hb dL_law_40 (by decide) (by decide) rfl (by decide) ?_
    exact law_case_14 l hlt C0 hA hAs hY a_3 b_7 k_4 j_8 q_9 _ _ hK hP hD hS ls (lv_sub hl [4, 3, 2, 1, 0] rfl)
  by_cases h15 : n = 15
  · subst h15
    subst ey
    refine lv_tableIn (tgt := 803) (off := 763) hx hb dL_law_40 (by decide) (by decide) rfl (by decide) ?_
    exact law_case_15 l hlt C0 hA hAs hY a_3 b_7 k_4 j_8 q_9 _ _ hK hP hD hS ls (lv_sub hl [4, 3, 2, 1, 0] rfl)
  by_cases h16 : n = 16
  · subst h16
    subst ey
    refine lv_tableIn (tgt := 840) (off := 800) hx hb dL_law_40 (by decide) (by decide) rfl (by decide) ?_
    exact law_case_16 l hlt C0 hA hAs hY a_3 b_7 k_4 j_8 q_9 _ _ hK hP hD hS ls (lv_sub hl [4, 3, 2, 1, 0] rfl)
  by_cases h17 : n = 17
  · subst h17
    subst ey
    refine lv_tableIn (tgt := 901) (off := 861) hx hb dL_law_40 (by decide) (by decide) rfl (by decide) ?_
    exact law_case_17 l hlt C0 hA hAs hY a_3 b_7 k_4 j_8 q_9 _ _ hK hP hD hS ls (lv_sub hl [4, 3, 2, 1, 0] rfl)
  by_cases h18 : n = 18
  · subst h18
    subst ey
    refine lv_tableIn (tgt := 926) (off := 886) hx hb dL_law_40 (by decide) (by decide) rfl (by decide) ?_
    exact law_case_18 l hlt C0 hA hAs hY a_3 b_7 k_4 j_8 q_9 _ _ hK hP hD hS ls (lv_sub hl [4, 3, 2, 1, 0] rfl)
  by_cases h19 : n = 19
  · subst h19
    subst ey
    refine lv_tableIn (tgt := 939) (off := 899) hx hb dL_law_40 (by decide) (by decide) rfl (by decide) ?_
    exact law_case_19 l hlt C0 hA hAs hY a_3 b_7 k_4 j_8 q_9 _ _ hK hP hD hS ls (lv_sub hl [4, 3, 2, 1, 0] rfl)
  by_cases h20 : n = 20
  · subst h20
    subst ey
    refine lv_tableIn (tgt := 952) (off := 912) hx hb dL_law_40 (by decide) (by decide) rfl (by decide) ?_
    exact law_case_20 l hlt C0 hA hAs hY a_3 b_7 k_4 j_8 q_9 _ _ hK hP hD hS ls (lv_sub hl [4, 3, 2, 1, 0] rfl)
  by_cases h21 : n = 21
  · subst h21
    subst ey
    refine lv_tableIn (tgt := 989) (off := 949) hx hb dL_law_40 (by decide) (by decide) rfl (by decide) ?_
    exact law_case_21 l hlt C0 hA hAs hY a_3 b_7 k_4 j_8 q_9 _ _ hK hP hD hS ls (lv_sub hl [4, 3, 2, 1, 0] rfl)
  by_cases h22 : n = 22
  · subst h22
    subst ey
    refine lv_tableIn (tgt := 1014) (off := 974) hx hb dL_law_40 (by decide) (by decide) rfl (by decide) ?_
    exact law_case_22 l hlt C0 hA hAs hY a_3 b_7 k_4 j_8 q_9 _ _ hK hP hD hS ls (lv_sub hl [4, 3, 2, 1, 0] rfl)
  by_cases h23 : n = 23
  · subst h23
    subst ey
    refine lv_tableIn (tgt := 1039) (off := 999) hx hb dL_law_40 (by decide) (by decide) rfl (by decide) ?_
    exact law_case_23 l hlt C0 hA hAs hY a_3 b_7 k_4 j_8 q_9 _ _ hK hP hD hS ls (lv_sub hl [4, 3, 2, 1, 0] rfl)
  by_cases h24 : n = 24
  · subst h24
    subst ey
    refine lv_tableIn (tgt := 1052) (off := 1012) hx hb dL_law_40 (by decide) (by decide) rfl (by decide) ?_
    exact law_case_24 l hlt C0 hA hAs hY a_3 b_7 k_4 j_8 q_9 _ _ hK hP hD hS ls (lv_sub hl [4, 3, 2, 1, 0] rfl)
  by_cases h25 : n = 25
  · subst h25
    subst ey
    refine lv_tableIn (tgt := 1125) (off := 1085) hx hb dL_law_40 (by decide) (by decide) rfl (by decide) ?_
    exact law_case_25 l hlt C0 hA hAs hY a_3 b_7 k_4 j_8 q_9 _ _ hK hP hD hS ls (lv_sub hl [4, 3, 2, 1, 0] rfl)
  by_cases h26 : n = 26
  · subst h26
    subst ey
    refine lv_tableIn (tgt := 1162) (off := 1122) hx hb dL_law_40 (by decide) (by decide) rfl (by decide) ?_
    exact law_case_26 l hlt C0 hA hAs hY a_3 b_7 k_4 j_8 q_9 _ _ hK hP hD hS ls (lv_sub hl [4, 3, 2, 1, 0] rfl)
  by_cases h27 : n = 27
  · subst h27
    subst ey
    refine lv_tableIn (tgt := 1199) (off := 1159) hx hb dL_law_40 (by decide) (by decide) rfl (by decide) ?_
    exact law_case_27 l hlt C0 hA hAs hY a_3 b_7 k_4 j_8 q_9 _ _ hK hP hD hS ls (lv_sub hl [4, 3, 2, 1, 0] rfl)
  by_cases h28 : n = 28
  · subst h28
    subst ey
    refine lv_tableIn (tgt := 1236) (off := 1196) hx hb dL_law_40 (by decide) (by decide) rfl (by decide) ?_
    exact law_case_28 l hlt C0 hA hAs hY a_3 b_7 k_4 j_8 q_9 _ _ hK hP hD hS ls (lv_sub hl [4, 3, 2, 1, 0] rfl)
  by_cases h29 : n = 29
  · subst h29
    subst ey
    refine lv_tableIn (tgt := 1285) (off := 1245) hx hb dL_law_40 (by decide) (by decide) rfl (by decide) ?_
    exact law_case_29 l hlt C0 hA hAs hY a_3 b_7 k_4 j_8 q_9 _ _ hK hP hD hS ls (lv_sub hl [4, 3, 2, 1, 0] rfl)
  by_cases h30 : n = 30
  · subst h30
    subst ey
    refine lv_tableIn (tgt := 1322) (off := 1282) hx hb dL_law_40 (by decide) (by decide) rfl (by decide) ?_
    exact law_case_30 l hlt C0 hA hAs hY a_3 b_7 k_4 j_8 q_9 _ _ hK hP hD hS ls (lv_sub hl [4, 3, 2, 1, 0] rfl)
  by_cases h31 : n = 31
  · subst h31
    subst ey
    refine lv_tableIn (tgt := 1409) (off := 1369) hx hb dL_law_40 (by decide) (by decide) rfl (by decide) ?_
    exact law_case_31 l hlt C0 hA hAs hY a_3 b_7 k_4 j_8 q_9 _ _ hK hP hD hS ls (lv_sub hl [4, 3, 2, 1, 0] rfl)
  by_cases h32 : n = 32
  · subst h32
    subst ey
    refine lv_tableIn (tgt := 1458) (off := 1418) hx hb dL_law_40 (by decide) (by decide) rfl (by decide) ?_
    exact law_case_32 l hlt C0 hA hAs hY a_3 b_7 k_4 j_8 q_9 _ _ hK hP hD hS ls (lv_sub hl [4, 3, 2, 1, 0] rfl)
  by_cases h33 : n = 33
  · subst h33
    subst ey
    refine lv_tableIn (tgt := 1495) (off := 1455) hx hb dL_law_40 (by decide) (by decide) rfl (by decide) ?_
    exact law_case_33 l hlt C0 hA hAs hY a_3 b_7 k_4 j_8 q_9 _ _ hK hP hD hS ls (lv_sub hl [4, 3, 2, 1, 0] rfl)
  by_cases h34 : n = 34
  · subst h34
    subst ey
    refine lv_tableIn (tgt := 1556) (off := 1516) hx hb dL_law_40 (by decide) (by decide) rfl (by decide) ?_
    exact law_case_34 l hlt C0 hA hAs hY a_3 b_7 k_4 j_8 q_9 _ _ hK hP hD hS ls (lv_sub hl [4, 3, 2, 1, 0] rfl)
  by_cases h35 : n = 35
  · subst h35
    subst ey
    refine lv_tableIn (tgt := 1569) (off := 1529) hx hb dL_law_40 (by decide) (by decide) rfl (by decide) ?_
    exact law_case_35 l hlt C0 hA hAs hY a_3 b_7 k_4 j_8 q_9 _ _ hK hP hD hS ls (lv_sub hl [4, 3, 2, 1, 0] rfl)
  by_cases h36 : n = 36
  · subst h36
    subst ey
    refine lv_tableIn (tgt := 1594) (off := 1554) hx hb dL_law_40 (by decide) (by decide) rfl (by decide) ?_
    exact law_case_36 l hlt C0 hA hAs hY a_3 b_7 k_4 j_8 q_9 _ _ hK hP hD hS ls (lv_sub hl [4, 3, 2, 1, 0] rfl)
  by_cases h37 : n = 37
  · subst h37
    subst ey
    refine lv_tableIn (tgt := 1619) (off := 1579) hx hb dL_law_40 (by decide) (by decide) rfl (by decide) ?_
    exact law_case_37 l hlt C0 hA hAs hY a_3 b_7 k_4 j_8 q_9 _ _ hK hP hD hS ls (lv_sub hl [4, 3, 2, 1, 0] rfl)
  by_cases h38 : n = 38
  · subst h38
    subst ey
    refine lv_tableIn (tgt := 1644) (off := 1604) hx hb dL_law_40 (by decide) (by decide) rfl (by decide) ?_
    exact law_case_38 l hlt C0 hA hAs hY a_3 b_7 k_4 j_8 q_9 _ _ hK hP hD hS ls (lv_sub hl [4, 3, 2, 1, 0] rfl)
  by_cases h39 : n = 39
  · subst h39
    subst ey
    refine lv_tableIn (tgt := 1700) (off := 1660) hx hb dL_law_40 (by decide) (by decide) rfl (by decide) ?_
    exact law_case_39 l hlt C0 hA hAs hY a_3 b_7 k_4 j_8 q_9 _ _ hK hP hD hS ls (lv_sub hl [4, 3, 2, 1, 0] rfl)
  subst ey
  refine lv_tableOut (tgt := 1725) hx hb dL_law_40 (Or.inr (by rw [nI_toInt (by omega)]; omega)) (by decide) ?_
  exact law_tail l C0 hA hAs hS (lv_sub hl [4, 0] rfl) (Nat.le_of_ble_eq_true rfl) (Nat.le_of_ble_eq_true rfl)
set_option maxHeartbeats 4000000 in
theorem lw_walk (l : Launch) (hflags : l.flags = flags0) (b : Addr) (xs : List Int32) : MetFree l x (headSpec (Jvm.Cond.code x code maxLocals ret :: tables_1) room_1) (lw_P b xs) (fun _ _ _ _ _ => True) lw_Q := by
  refine MetFree.of_bodyS (code := code) (maxLocals := maxLocals) (ret := ret) (by decide) ?_ ?_
  · intro args s m h hn
    obtain ⟨meth, c, h1, h2, h3, h4, h5, h6, -, -⟩ := Cond.code_spec hn (atoms_spec (ws := Jvm.Cond.code x code maxLocals ret :: tables_1) h _ List.mem_cons_self)
    exact ⟨meth, c, h1, h2, h3, h4, h5, h6⟩
  · intro p e s m args below meth c s₁ B hml0 hP _
    obtain ⟨rfl, hx, hbd, hgv⟩ := hP
    obtain ⟨scr, harrAt, hlist, hof, hsmall⟩ := hx
    obtain ⟨hcb, hkn, -, -⟩ := State.arrayAt?_spec harrAt
    have hown : s.vm.findClass R_law = some m.cls := findClass_of_methodNamed B.named
    have hts0 : ∀ c ∈ (Jvm.Cond.code x code maxLocals ret :: tables_1), c.before #[Value.ref b] s = true := atoms_spec (ws := Jvm.Cond.code x code maxLocals ret :: tables_1) B.pre
    have hts : ∀ w ∈ lw_tbl, w.before #[Value.ref b] s = true := k2_hts_sels lw_privs (fun w hw => hts0 w (List.mem_cons_of_mem _ hw)) lw_privs_ok
    have hml : c.maxLocals = 7 := B.maxLocals_eq (hts0 _ List.mem_cons_self)
    have X₀ : Stand p l e room_1 s m #[Value.ref b] below meth c s₁ [] 0 0 := Stand.of_body B
    have hh0 : s₁.heap = s.heap := by rw [B.state]; rfl
    have hsz : scr.slots.size = xs.length := by rw [← Array.length_toList, hlist, List.length_map]
    have hval : ∀ j : Nat, j < xs.length → scr.slots[j]? = some (.int (xs.getD j 0)) := fun j hj => by
      rw [← Array.getElem?_toList, hlist]
      simp [hj]
    have hbl : b < s.heap.size := (Array.getElem?_eq_some_iff.mp hcb).1
    have hX : va_X b xs.length (fun j => xs.getD j 0) s s.heap := ⟨scr, hcb, hof, hkn, hsz, hval⟩
    have K : W p l e room_1 s m #[Value.ref b] below meth c s₁.heap [] 0 0 (lw_Z below #[Value.ref b] s) (entryFrame m ([Value.ref b] : List Value).toArray 7) := by
      rw [hh0]
      exact whole_start l hflags hbd ⟨B.exec, B.bytes, B.returns, hml, hown, hts, hX, hbl, B.notSynchronized, hgv⟩
    obtain ⟨t, a1, o, b1, b2, b3⟩ := K s₁ rfl X₀
    exact ⟨t, o, a1, b1, b2, b3⟩
theorem lw_pre_spec {args : Array Value} {s : State} (h : (Jvm.Cond.and given_1 narrow_1).before args s = true) (hr : rest_1_c.before args s = true) : ∃ (b : Addr) (xs : List Int32), lw_P b xs args s := by
  have hs := flat_of_before _ h
  have hq := flat_of_before _ hr
  have hc : (Cond.count 1).before args s = true := hs _ (by decide +kernel)
  have harr : (Cond.arrayOf (.arg 0) .int).before args s = true := hs _ (by decide +kernel)
  have hle : (Cond.le (.length (.arg 0)) (.int 7)).before args s = true := hs _ (by decide +kernel)
  have hlen : (Cond.isInt (.length (.arg 0))).before args s = true := hq _ (by decide +kernel)
  have hall : (Cond.all (.arg 0) (.isInt (.elem (.arg 0) (.index 0)))).before args s = true := hq _ (by decide +kernel)
  obtain ⟨b, xs, hb, hx⟩ := State.ints_of_pre rfl harr hlen hall
  have hsm : xs.length < 2 ^ 31 := hx.choose_spec.2.2.2
  have hev : (Term.length (.arg 0)).eval args s none [] s = some (.int xs.length.toInt32) := hx.length_eval hb
  have hv := Cond.le_ints hev (show (Term.int 7).eval args s none [] s = some (.int 7) from rfl)
  have hd : xs.length.toInt32 ≤ 7 := by
    simpa [Cond.before, Cond.holds, hv] using hle
  have hN : xs.length ≤ 7 := (Int32.ofNat_le_ofNat hsm (by decide)).mp (show Int32.ofNat xs.length ≤ Int32.ofNat 7 from hd)
  exact ⟨b, xs, Cond.one_arg hc (show args[0]? = some (.ref b) from hb), hx, hN, h⟩
theorem lw_comes (l : Launch) (hflags : l.flags = flags0) : Comes l x (Jvm.Cond.code x code maxLocals ret :: tables_1) room_1 (fun tb e args s => Calls_1 tb e args s ∧ rest_1 tb e args s ∧ Pre_1 tb e args s)
    (fun _ _ args s o t => lw_Q args s o t) := by
  intro p e ha hc hk s m args below hf hfit hheap happ hpre
  obtain ⟨b, xs, hP⟩ := lw_pre_spec hpre.2.2 hpre.2.1
  obtain ⟨k, o, h1, h2, h3, hQ⟩ := lw_walk l hflags b xs p e ha hc hk s m args below hf ((Spec.applies_iff_loose hf).mp happ).1 hP trivial
  exact ⟨k, o, h1, h2, h3, hQ⟩
theorem lw_frame {s t : State} {o : Outcome} {args : Array Value} (h : Framed s o t [] 600002 7302232) :
    Framed s o t (fieldLocs frame_1_writes args s ++ arrayLocs frame_1_arrays args s ++ staticLocs frame_1_statics s) 600002 7302232 := h
theorem lw_limb (L : Cond) (hL : ∀ (args : Array Value) (s t : State), L.after args s (.returned (some (.int 1))) t = true) :
    ArmFor flags0 classFile x code maxLocals ret World_1 tables_1 room_1 Calls_1 rest_1 Pre_1
      (fun tb e a s o t => postC L tb e a s o t ∧ Framed s o t (fieldLocs frame_1_writes a s ++ arrayLocs frame_1_arrays a s ++ staticLocs frame_1_statics s) 600002 7302232) := by
  intro l hflags _ _ p e ha hc hk s m args below hf hfit hheap happ hpre
  obtain ⟨k, o, h1, h2, h3, rfl, hF⟩ := lw_comes l hflags p e ha hc hk s m args below hf hfit hheap happ hpre
  exact ⟨k, _, h1, h2, h3, hL args s _, lw_frame hF⟩
theorem i_vc : Claimed_1_1 ∧ Claimed_1_2 := ⟨lw_limb limb_1_1 (fun args s t => by simp [limb_1_1, Cond.after, Cond.holds, Cond.value]), lw_limb limb_1_2 (fun args s t => Cond.after_iff.mpr (by
  first | (rw [show limb_1_2 = Cond.eq .result (.int 1) from rfl, Cond.eq_ints (x := 1) (y := 1) rfl rfl]; simp; done) | (simp [limb_1_2, Cond.value, Term.eval]; done)))⟩

