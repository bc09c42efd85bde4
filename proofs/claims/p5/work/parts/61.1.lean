def updZ (f : Nat → Nat → Int32) (k : Nat) (g : Nat → Int32) : Nat → Nat → Int32 := fun j => if j = k then g else f j
theorem zp_putx {A : Nat → Prop} {D : va_G} {X wr : va_W} {n c N k n' : Nat} {az ac : Nat → Nat} {kz : Nat → ClassId} {qs : Nat → Nat} {fz : Nat → Nat → Int32} {f' : Nat → Int32} {H H1 : Heap} (hP : va_P D vwCl (X ++ zp n c N az ac kz qs fz) H) (hD : va_D A (X ++ zp n c N az ac kz qs fz)) (hk : k < N) (hr : ∀ q ∈ wr, q ∈ X ++ zp n c N az ac kz qs fz)
    (hkf : ∀ q : Nat, q < H.size → ¬ va_A (wr ++ [(az k, .inr (7, [.ref (ac k), .int (nI (min (qs k) n))])), (ac k, .inl (kz k, c, .inl (fz k)))]) H.size q → H1[q]? = H[q]?) (hn : n' ≤ n) (hP1 : va_P D vwCl (wr ++ [(az k, .inr (7, [.ref (ac k), .int (nI n')])), (ac k, .inl (kz k, c, .inl f'))]) H1) :
    va_P D vwCl (X ++ zp n c N az ac kz (updN qs k n') (updZ fz k f')) H1 ∧ va_D A (X ++ zp n c N az ac kz (updN qs k n') (updZ fz k f')) := by
  refine ⟨?_, vD_fst hD zp_fst⟩
  show va_P D vwCl (X ++ zp n c N az ac kz (fun j => if j = k then n' else qs j) (fun j => if j = k then f' else fz j)) H1
  have old : ∀ (i : Nat) (q : Nat × va_E), (X ++ zp n c N az ac kz qs fz)[i]? = some q → i ≠ X.length + k → i ≠ X.length + (N + k) → va_at D vwCl q H1 := by
    intro i q hq h1 h2
    by_cases g : q ∈ wr
    · obtain ⟨j, hj⟩ := List.getElem?_of_mem (List.mem_append_left [(az k, Sum.inr (7, [Value.ref (ac k), Value.int (nI n')])), (ac k, Sum.inl (kz k, c, Sum.inl f'))] g)
      exact hP1 j q hj
    · refine (hP i q hq).kept (hkf q.1 (hP i q hq).lt (fun ha => ?_))
      rcases ha with ⟨j, e, hj⟩ | ha
      · rcases List.mem_append.mp (List.mem_of_getElem? hj) with h | h
        · obtain ⟨i2, h3⟩ := List.getElem?_of_mem (hr _ h)
          have h4 := hD.1 i i2 q _ hq h3 rfl
          subst h4
          rw [hq] at h3
          exact g (by rw [Option.some.inj h3]; exact h)
        · rcases List.mem_cons.mp h with h | h
          · exact h1 (hD.1 i _ q _ hq (zp_o hk) (by have := congrArg Prod.fst h; exact this))
          · rcases List.mem_cons.mp h with h | h
            · exact h2 (hD.1 i _ q _ hq (zp_a hk) (by have := congrArg Prod.fst h; exact this))
            · exact absurd h List.not_mem_nil
      · exact absurd (hP i q hq).lt (by omega)
  have hnew : ∀ q ∈ [((az k, .inr (7, [.ref (ac k), .int (nI n')])) : Nat × va_E), (ac k, .inl (kz k, c, .inl f'))], va_at D vwCl q H1 := by
    intro q hq
    obtain ⟨j, hj⟩ := List.getElem?_of_mem (List.mem_append_right wr hq)
    exact hP1 j q hj
  intro i q hq
  by_cases h0 : i < X.length
  · rw [List.getElem?_append_left h0] at hq
    exact old i q (by rw [List.getElem?_append_left h0]; exact hq) (by omega) (by omega)
  · rw [List.getElem?_append_right (by omega), zp_get] at hq
    by_cases h1 : i - X.length < N
    · rw [if_pos h1] at hq
      by_cases h2 : i - X.length = k
      · rw [h2] at hq
        cases hq
        have := hnew _ List.mem_cons_self
        unfold zpo
        rw [show (fun j => if j = k then n' else qs j) k = n' from if_pos rfl, Nat.min_eq_left hn]
        exact this
      · have hq' : (X ++ zp n c N az ac kz qs fz)[i]? = some q := by
          rw [List.getElem?_append_right (by omega), zp_get, if_pos h1]
          rw [← hq]
          unfold zpo
          rw [show (fun j => if j = k then n' else qs j) (i - X.length) = qs (i - X.length) from if_neg h2]
        exact old i q hq' (by omega) (by omega)
    · rw [if_neg h1] at hq
      by_cases h3 : i - X.length < 2 * N
      · rw [if_pos h3] at hq
        by_cases h2 : i - X.length - N = k
        · rw [h2] at hq
          cases hq
          have := hnew _ (List.mem_cons_of_mem _ List.mem_cons_self)
          unfold zpa
          rw [show (fun j => if j = k then f' else fz j) k = f' from if_pos rfl]
          exact this
        · have hq' : (X ++ zp n c N az ac kz qs fz)[i]? = some q := by
            rw [List.getElem?_append_right (by omega), zp_get, if_neg h1, if_pos h3]
            rw [← hq]
            unfold zpa
            rw [show (fun j => if j = k then f' else fz j) (i - X.length - N) = fz (i - X.length - N) from if_neg h2]
          exact old i q hq' (by omega) (by omega)
      · rw [if_neg h3] at hq; cases hq
theorem zq_putx {A : Nat → Prop} {D : va_G} {X X' wx w1 : va_W} {n c N k n' : Nat} {az ac : Nat → Nat} {kz : Nat → ClassId} {qs : Nat → Nat} {fz : Nat → Nat → Int32} {f' : Nat → Int32} {H H1 : Heap} (hP : va_P D vwCl (X ++ zp n c N az ac kz qs fz) H) (hD : va_D A (X ++ zp n c N az ac kz qs fz)) (hk : k < N) (is : List Nat) (hC : is.map (fun i => X[i]?) = wx.map some)
    (hkf : ∀ q : Nat, q < H.size → ¬ va_A (wx ++ [(az k, .inr (7, [.ref (ac k), .int (nI (min (qs k) n))])), (ac k, .inl (kz k, c, .inl (fz k)))]) H.size q → H1[q]? = H[q]?) (hn : n' ≤ n) (hP1 : va_P D vwCl (w1 ++ [(az k, .inr (7, [.ref (ac k), .int (nI n')])), (ac k, .inl (kz k, c, .inl f'))]) H1) (hf : w1.map (fun e => some e.1) = wx.map (fun e => some e.1)) (hs : putL X is w1 = X') :
    va_P D vwCl (X' ++ zp n c N az ac kz (updN qs k n') (updZ fz k f')) H1 ∧ va_D A (X' ++ zp n c N az ac kz (updN qs k n') (updZ fz k f')) := by
  subst hs
  have hlen : is.length = w1.length := by
    have h1 := congrArg List.length hC
    have h2 := congrArg List.length hf
    rw [List.length_map, List.length_map] at h1 h2
    omega
  have hF : is.map (fun i => (X[i]?).map Prod.fst) = w1.map (fun e => some e.1) := by
    rw [hf]
    have := congrArg (List.map (Option.map Prod.fst)) hC
    rw [List.map_map, List.map_map] at this
    exact this
  have hX : X.map Prod.fst = (putL X is w1).map Prod.fst := by
    apply List.ext_getElem?
    intro k
    rw [List.getElem?_map, List.getElem?_map, putL_fst is w1 X hF k]
  have hXl : (putL X is w1).length = X.length := by
    have := congrArg List.length hX
    rw [List.length_map, List.length_map] at this
    exact this.symm
  refine ⟨?_, vD_fst hD (by rw [List.map_append, List.map_append, hX, zp_f])⟩
  show va_P D vwCl (putL X is w1 ++ zp n c N az ac kz (fun j => if j = k then n' else qs j) (fun j => if j = k then f' else fz j)) H1
  have old : ∀ (i : Nat) (q : Nat × va_E), (X ++ zp n c N az ac kz qs fz)[i]? = some q → i ∉ is → i ≠ X.length + k → i ≠ X.length + (N + k) → va_at D vwCl q H1 := by
    intro i q hq h0 h1 h2
    refine (hP i q hq).kept (hkf q.1 (hP i q hq).lt (fun ha => ?_))
    rcases ha with ⟨j, e, hj⟩ | ha
    · rcases List.mem_append.mp (List.mem_of_getElem? hj) with h | h
      · obtain ⟨j2, hj2⟩ := List.getElem?_of_mem h
        obtain ⟨i2, h3, h4⟩ := va_in_of is hC hj2
        have hl := (List.getElem?_eq_some_iff.mp h4).1
        have := hD.1 i i2 q (q.1, e) hq (by rw [List.getElem?_append_left hl]; exact h4) rfl
        exact h0 (by rw [this]; exact List.mem_of_getElem? h3)
      · rcases List.mem_cons.mp h with h | h
        · exact h1 (hD.1 i _ q _ hq (zp_o hk) (by have := congrArg Prod.fst h; exact this))
        · rcases List.mem_cons.mp h with h | h
          · exact h2 (hD.1 i _ q _ hq (zp_a hk) (by have := congrArg Prod.fst h; exact this))
          · exact absurd h List.not_mem_nil
    · exact absurd (hP i q hq).lt (by omega)
  have isl : ∀ i ∈ is, i < X.length := by
    intro i hi
    obtain ⟨j, hj⟩ := List.getElem?_of_mem hi
    have h1 := congrArg (fun l : List (Option (Nat × va_E)) => l[j]?) hC
    simp only [List.getElem?_map, hj] at h1
    cases hw : wx[j]? with
    | none => rw [hw] at h1; cases h1
    | some x => rw [hw] at h1; exact (List.getElem?_eq_some_iff.mp (Option.some.inj h1)).1
  have hnew : ∀ q ∈ [((az k, .inr (7, [.ref (ac k), .int (nI n')])) : Nat × va_E), (ac k, .inl (kz k, c, .inl f'))], va_at D vwCl q H1 := by
    intro q hq
    obtain ⟨j, hj⟩ := List.getElem?_of_mem (List.mem_append_right w1 hq)
    exact hP1 j q hj
  intro i q hq
  by_cases h0 : i < X.length
  · rw [List.getElem?_append_left (by omega)] at hq
    by_cases g : i ∈ is
    · obtain ⟨j, hj⟩ := List.getElem?_of_mem (List.mem_append_left [(az k, Sum.inr (7, [Value.ref (ac k), Value.int (nI n')])), (ac k, Sum.inl (kz k, c, Sum.inl f'))] (putL_in is w1 X i q hlen g hq))
      exact hP1 j q hj
    · rw [putL_out is w1 X i g] at hq
      exact old i q (by rw [List.getElem?_append_left h0]; exact hq) g (by omega) (by omega)
  · have g : i ∉ is := fun h => h0 (isl i h)
    rw [List.getElem?_append_right (by omega), hXl, zp_get] at hq
    by_cases h1 : i - X.length < N
    · rw [if_pos h1] at hq
      by_cases h2 : i - X.length = k
      · rw [h2] at hq
        cases hq
        have := hnew _ List.mem_cons_self
        unfold zpo
        rw [show (fun j => if j = k then n' else qs j) k = n' from if_pos rfl, Nat.min_eq_left hn]
        exact this
      · have hq' : (X ++ zp n c N az ac kz qs fz)[i]? = some q := by
          rw [List.getElem?_append_right (by omega), zp_get, if_pos h1]
          rw [← hq]
          unfold zpo
          rw [show (fun j => if j = k then n' else qs j) (i - X.length) = qs (i - X.length) from if_neg h2]
        exact old i q hq' g (by omega) (by omega)
    · rw [if_neg h1] at hq
      by_cases h3 : i - X.length < 2 * N
      · rw [if_pos h3] at hq
        by_cases h2 : i - X.length - N = k
        · rw [h2] at hq
          cases hq
          have := hnew _ (List.mem_cons_of_mem _ List.mem_cons_self)
          unfold zpa
          rw [show (fun j => if j = k then f' else fz j) k = f' from if_pos rfl]
          exact this
        · have hq' : (X ++ zp n c N az ac kz qs fz)[i]? = some q := by
            rw [List.getElem?_append_right (by omega), zp_get, if_neg h1, if_pos h3]
            rw [← hq]
            unfold zpa
            rw [show (fun j => if j = k then f' else fz j) (i - X.length - N) = fz (i - X.length - N) from if_neg h2]
          exact old i q hq' g (by omega) (by omega)
      · rw [if_neg h3] at hq; cases hq
theorem zp_qsame {n c N k : Nat} {az ac : Nat → Nat} {kz : Nat → ClassId} {qs : Nat → Nat} {fz : Nat → Nat → Int32} : zp n c N az ac kz (updN qs k (min (qs k) n)) fz = zp n c N az ac kz qs fz := by
  have e : zpo n az ac (updN qs k (min (qs k) n)) = zpo n az ac qs := by
    funext j
    unfold zpo updN
    by_cases h : j = k
    · subst h; rw [if_pos rfl, Nat.min_eq_left (Nat.min_le_right _ _)]
    · rw [if_neg h]
  unfold zp
  rw [e]
theorem zp_fsame {n c N k : Nat} {az ac : Nat → Nat} {kz : Nat → ClassId} {qs : Nat → Nat} {fz : Nat → Nat → Int32} : zp n c N az ac kz qs (updZ fz k (fz k)) = zp n c N az ac kz qs fz := by
  have e : updZ fz k (fz k) = fz := by
    funext j
    unfold updZ
    by_cases h : j = k
    · subst h; rw [if_pos rfl]
    · rw [if_neg h]
  rw [e]
/-- some explicit cells change, a zone is read beside them -/
theorem zr_put {A : Nat → Prop} {D : va_G} {X X' wx w1 : va_W} {n c N k : Nat} {az ac : Nat → Nat} {kz : Nat → ClassId} {qs : Nat → Nat} {fz : Nat → Nat → Int32} {H H1 : Heap} (hP : va_P D vwCl (X ++ zp n c N az ac kz qs fz) H) (hD : va_D A (X ++ zp n c N az ac kz qs fz)) (hk : k < N) (is : List Nat) (hC : is.map (fun i => X[i]?) = wx.map some)
    (hkf : ∀ q : Nat, q < H.size → ¬ va_A (wx ++ [(az k, .inr (7, [.ref (ac k), .int (nI (min (qs k) n))])), (ac k, .inl (kz k, c, .inl (fz k)))]) H.size q → H1[q]? = H[q]?) (hP1 : va_P D vwCl (w1 ++ [(az k, .inr (7, [.ref (ac k), .int (nI (min (qs k) n))])), (ac k, .inl (kz k, c, .inl (fz k)))]) H1) (hf : w1.map (fun e => some e.1) = wx.map (fun e => some e.1)) (hs : putL X is w1 = X') :
    va_P D vwCl (X' ++ zp n c N az ac kz qs fz) H1 ∧ va_D A (X' ++ zp n c N az ac kz qs fz) := by
  have h := zq_putx hP hD hk is hC hkf (Nat.min_le_right _ _) hP1 hf hs
  rw [zp_qsame, zp_fsame] at h
  exact h
