/-- where each cell of the new list comes from: the callee's cells first, then our own at its own place -/
def chk (m : Nat) (is js : List Nat) : Bool := (List.range js.length).all (fun k => match js[k]? with
  | some j => decide (j < m) || (j == m + k && !(is.contains k))
  | none => true)
theorem chk_at {m k j : Nat} {is js : List Nat} (h : chk m is js = true) (hj : js[k]? = some j) : j < m ∨ (j = m + k ∧ k ∉ is) := by
  have hk : k < js.length := (List.getElem?_eq_some_iff.mp hj).1
  have h1 := List.all_eq_true.mp h k (List.mem_range.mpr hk)
  rw [hj] at h1
  have h2 : (decide (j < m) || (j == m + k && !(is.contains k))) = true := h1
  rw [Bool.or_eq_true, decide_eq_true_eq, Bool.and_eq_true, beq_iff_eq, Bool.not_eq_true'] at h2
  rcases h2 with h2 | ⟨h2, h3⟩
  · exact Or.inl h2
  · refine Or.inr ⟨h2, fun h4 => ?_⟩
    rw [List.contains_iff_mem.mpr h4] at h3
    cases h3
theorem pj {A : Nat → Prop} {D : va_G} {X X' wc w1 P P' R : va_W} {H H1 : Heap} (hP : va_P D vwCl (X ++ (P ++ R)) H) (hD : va_D A (X ++ (P ++ R))) (is js : List Nat) (m : Nat) (hC : is.map (fun i => X[i]?) = wc.map some) (hk : ∀ q : Nat, q < H.size → ¬ va_A (wc ++ P) H.size q → H1[q]? = H[q]?) (hP1 : va_P D vwCl (w1 ++ P') H1) (hfx : X.map Prod.fst = X'.map Prod.fst) (hpf : P.map Prod.fst = P'.map Prod.fst) (hm : w1.length = m) (hJ : js.map (fun j => (w1 ++ X)[j]?) = X'.map some) (hok : chk m is js = true) : va_P D vwCl (X' ++ (P' ++ R)) H1 ∧ va_D A (X' ++ (P' ++ R)) := by
  have hlen : X'.length = X.length := by
    have := congrArg List.length hfx
    rw [List.length_map, List.length_map] at this
    exact this.symm
  have hplen : P'.length = P.length := by
    have := congrArg List.length hpf
    rw [List.length_map, List.length_map] at this
    exact this.symm
  -- a cell of ours that the callee had not is as it was
  have kept : ∀ (k : Nat) (q : Nat × va_E), (X ++ (P ++ R))[k]? = some q → k ∉ is → (k < X.length ∨ X.length + P.length ≤ k) → va_at D vwCl q H1 := by
    intro k q hq g hk2
    refine (hP k q hq).kept (hk q.1 (hP k q hq).lt (fun ha => ?_))
    rcases ha with ⟨j, c, hj⟩ | ha
    · rcases List.mem_append.mp (List.mem_of_getElem? hj) with h | h
      · obtain ⟨j2, hj2⟩ := List.getElem?_of_mem h
        obtain ⟨i, h1, h2⟩ := va_in_of is hC hj2
        have hl := (List.getElem?_eq_some_iff.mp h2).1
        have := hD.1 k i q (q.1, c) hq (by rw [List.getElem?_append_left hl]; exact h2) rfl
        exact g (by rw [this]; exact List.mem_of_getElem? h1)
      · obtain ⟨j2, hj2⟩ := List.getElem?_of_mem h
        have hl := (List.getElem?_eq_some_iff.mp hj2).1
        have := hD.1 k (X.length + j2) q (q.1, c) hq (by rw [List.getElem?_append_right (by omega), Nat.add_sub_cancel_left, List.getElem?_append_left hl]; exact hj2) rfl
        omega
    · exact absurd (hP k q hq).lt (by omega)
  have isl : ∀ i ∈ is, i < X.length := by
    intro i hi
    obtain ⟨j, hj⟩ := List.getElem?_of_mem hi
    have h1 := congrArg (fun l : List (Option (Nat × va_E)) => l[j]?) hC
    simp only [List.getElem?_map, hj] at h1
    cases hw : wc[j]? with
    | none => rw [hw] at h1; cases h1
    | some x => rw [hw] at h1; exact (List.getElem?_eq_some_iff.mp (Option.some.inj h1)).1
  refine ⟨fun k q hq => ?_, vD_fst hD (by rw [List.map_append, List.map_append, List.map_append, List.map_append, hfx, hpf])⟩
  by_cases h0 : k < X.length
  · rw [List.getElem?_append_left (by omega)] at hq
    have h1 : (js.map (fun j => (w1 ++ X)[j]?))[k]? = some (some q) := by rw [hJ, List.getElem?_map, hq]; rfl
    rw [List.getElem?_map] at h1
    cases hj : js[k]? with
    | none => rw [hj] at h1; cases h1
    | some j =>
      rw [hj] at h1
      have h2 : (w1 ++ X)[j]? = some q := Option.some.inj h1
      rcases chk_at hok hj with h3 | ⟨h3, h4⟩
      · rw [List.getElem?_append_left (by omega)] at h2
        obtain ⟨i, hi⟩ := List.getElem?_of_mem (List.mem_append_left P' (List.mem_of_getElem? h2))
        exact hP1 i q hi
      · rw [List.getElem?_append_right (by omega), show j - w1.length = k by omega] at h2
        exact kept k q (by rw [List.getElem?_append_left h0]; exact h2) h4 (Or.inl h0)
  · rw [List.getElem?_append_right (by omega)] at hq
    rcases Nat.lt_or_ge (k - X'.length) P'.length with h1 | h1
    · rw [List.getElem?_append_left h1] at hq
      obtain ⟨i, hi⟩ := List.getElem?_of_mem (List.mem_append_right w1 (List.mem_of_getElem? hq))
      exact hP1 i q hi
    · rw [List.getElem?_append_right h1] at hq
      refine kept k q ?_ (fun h => h0 (isl k h)) (Or.inr (by omega))
      rw [List.getElem?_append_right (by omega), List.getElem?_append_right (by omega), ← hplen, ← hlen]
      exact hq
theorem pj_c {A : Nat → Prop} {D : va_G} {X X' wc w1 P P' : va_W} {H H1 : Heap} (hP : va_P D vwCl (X ++ P) H) (hD : va_D A (X ++ P)) (is js : List Nat) (m : Nat) (hC : is.map (fun i => X[i]?) = wc.map some) (hk : ∀ q : Nat, q < H.size → ¬ va_A (wc ++ P) H.size q → H1[q]? = H[q]?) (hP1 : va_P D vwCl (w1 ++ P') H1) (hfx : X.map Prod.fst = X'.map Prod.fst) (hpf : P.map Prod.fst = P'.map Prod.fst) (hm : w1.length = m) (hJ : js.map (fun j => (w1 ++ X)[j]?) = X'.map some) (hok : chk m is js = true) : va_P D vwCl (X' ++ P') H1 ∧ va_D A (X' ++ P') := by
  have h := pj (R := []) (by rw [List.append_nil]; exact hP) (by rw [List.append_nil]; exact hD) is js m hC hk hP1 hfx hpf hm hJ hok
  rw [List.append_nil] at h
  exact h
theorem pj_b {A : Nat → Prop} {D : va_G} {X X' wc w1 R : va_W} {H H1 : Heap} (hP : va_P D vwCl (X ++ R) H) (hD : va_D A (X ++ R)) (is js : List Nat) (m : Nat) (hC : is.map (fun i => X[i]?) = wc.map some) (hk : ∀ q : Nat, q < H.size → ¬ va_A wc H.size q → H1[q]? = H[q]?) (hP1 : va_P D vwCl w1 H1) (hfx : X.map Prod.fst = X'.map Prod.fst) (hm : w1.length = m) (hJ : js.map (fun j => (w1 ++ X)[j]?) = X'.map some) (hok : chk m is js = true) : va_P D vwCl (X' ++ R) H1 ∧ va_D A (X' ++ R) :=
  pj (P := []) (P' := []) hP hD is js m hC (by rw [List.append_nil]; exact hk) (by rw [List.append_nil]; exact hP1) hfx rfl hm hJ hok
theorem pj_a {A : Nat → Prop} {D : va_G} {X X' wc w1 : va_W} {H H1 : Heap} (hP : va_P D vwCl X H) (hD : va_D A X) (is js : List Nat) (m : Nat) (hC : is.map (fun i => X[i]?) = wc.map some) (hk : ∀ q : Nat, q < H.size → ¬ va_A wc H.size q → H1[q]? = H[q]?) (hP1 : va_P D vwCl w1 H1) (hfx : X.map Prod.fst = X'.map Prod.fst) (hm : w1.length = m) (hJ : js.map (fun j => (w1 ++ X)[j]?) = X'.map some) (hok : chk m is js = true) : va_P D vwCl X' H1 ∧ va_D A X' := by
  have h := pj_b (R := []) (by rw [List.append_nil]; exact hP) (by rw [List.append_nil]; exact hD) is js m hC hk hP1 hfx hm hJ hok
  rw [List.append_nil] at h
  exact h
