/-- the zones of a graph: their objects, then their rows -/
def zpo (n : Nat) (az ac : Nat → Nat) (qs : Nat → Nat) (k : Nat) : Nat × va_E := (az k, .inr (7, [.ref (ac k), .int (nI (min (qs k) n))]))
def zpa (c : Nat) (ac : Nat → Nat) (kz : Nat → ClassId) (fz : Nat → Nat → Int32) (k : Nat) : Nat × va_E := (ac k, .inl (kz k, c, .inl (fz k)))
def zp (n c N : Nat) (az ac : Nat → Nat) (kz : Nat → ClassId) (qs : Nat → Nat) (fz : Nat → Nat → Int32) : va_W := (List.range N).map (zpo n az ac qs) ++ (List.range N).map (zpa c ac kz fz)
def zt (N : Nat) (kz : Nat → ClassId) : List (ClassId × FieldType) := (List.range N).map (fun k => (kz k, .int))
def zs (o n : Nat) (az : Nat → Nat) : Nat → Option Nat := fun k => if k < n then some (az (o + k)) else none
theorem zs_get {o n k : Nat} {az : Nat → Nat} (hk : k < n) (hb : k < 2 ^ 31) : va_rf (zs o n az (nI k).toNatClampNeg) = .ref (az (o + k)) := by
  rw [nI_clamp hb]
  unfold zs
  rw [if_pos hk]
  rfl
theorem zp_get {n c N : Nat} {az ac : Nat → Nat} {kz : Nat → ClassId} {qs : Nat → Nat} {fz : Nat → Nat → Int32} (i : Nat) : (zp n c N az ac kz qs fz)[i]? = if i < N then some (zpo n az ac qs i) else if i < 2 * N then some (zpa c ac kz fz (i - N)) else none := by
  unfold zp
  by_cases h : i < N
  · rw [if_pos h, List.getElem?_append_left (by rw [List.length_map, List.length_range]; exact h), List.getElem?_map, List.getElem?_range h]
    rfl
  · rw [if_neg h, List.getElem?_append_right (by rw [List.length_map, List.length_range]; omega), List.length_map, List.length_range, List.getElem?_map]
    by_cases g : i < 2 * N
    · rw [if_pos g, List.getElem?_range (by omega)]
      rfl
    · rw [if_neg g, List.getElem?_eq_none_iff.mpr (by rw [List.length_range]; omega)]
      rfl
theorem zp_o {X : va_W} {n c N k : Nat} {az ac : Nat → Nat} {kz : Nat → ClassId} {qs : Nat → Nat} {fz : Nat → Nat → Int32} (hk : k < N) : (X ++ zp n c N az ac kz qs fz)[X.length + k]? = some (zpo n az ac qs k) := by
  rw [List.getElem?_append_right (by omega), Nat.add_sub_cancel_left, zp_get, if_pos hk]
theorem zp_a {X : va_W} {n c N k : Nat} {az ac : Nat → Nat} {kz : Nat → ClassId} {qs : Nat → Nat} {fz : Nat → Nat → Int32} (hk : k < N) : (X ++ zp n c N az ac kz qs fz)[X.length + (N + k)]? = some (zpa c ac kz fz k) := by
  rw [List.getElem?_append_right (by omega), Nat.add_sub_cancel_left, zp_get, if_neg (by omega), if_pos (by omega), Nat.add_sub_cancel_left]
theorem zp_cut {D : va_G} {X : va_W} {n c N k : Nat} {az ac : Nat → Nat} {kz : Nat → ClassId} {qs : Nat → Nat} {fz : Nat → Nat → Int32} {H : Heap} (hP : va_P D vwCl (X ++ zp n c N az ac kz qs fz) H) (hk : k < N) : va_P D vwCl [(az k, .inr (7, [.ref (ac k), .int (nI (min (qs k) n))])), (ac k, .inl (kz k, c, .inl (fz k)))] H := by
  intro i q hi
  match i, hi with
  | 0, hi => cases hi; exact hP _ _ (zp_o hk)
  | 1, hi => cases hi; exact hP _ _ (zp_a hk)
  | i + 2, hi => cases hi
theorem zp_left {A : Nat → Prop} {X Y : va_W} (h : va_D A (X ++ Y)) : va_D A X := ⟨fun i j p q hp hq e => h.1 i j p q (by rw [List.getElem?_append_left (List.getElem?_eq_some_iff.mp hp).1]; exact hp) (by rw [List.getElem?_append_left (List.getElem?_eq_some_iff.mp hq).1]; exact hq) e, fun k q hq => h.2 k q (by rw [List.getElem?_append_left (List.getElem?_eq_some_iff.mp hq).1]; exact hq)⟩
theorem zp_apart {A : Nat → Prop} {X : va_W} {n c N k : Nat} {az ac : Nat → Nat} {kz : Nat → ClassId} {qs : Nat → Nat} {fz : Nat → Nat → Int32} (hD : va_D A (X ++ zp n c N az ac kz qs fz)) (hk : k < N) : az k ≠ ac k := fun e => by
  have := hD.1 _ _ _ _ (zp_o hk) (zp_a hk) e
  omega
theorem zp_cutD {A : Nat → Prop} {X wx : va_W} {n c N k : Nat} {az ac : Nat → Nat} {kz : Nat → ClassId} {qs : Nat → Nat} {fz : Nat → Nat → Int32} (hD : va_D A (X ++ zp n c N az ac kz qs fz)) (hk : k < N) (is : List Nat) (hn : va_nd is = true) (hs : is.map (fun i => X[i]?) = wx.map some) : va_D A (wx ++ [(az k, .inr (7, [.ref (ac k), .int (nI (min (qs k) n))])), (ac k, .inl (kz k, c, .inl (fz k)))]) := by
  have h1 : va_D A wx := (zp_left hD).sub is hn hs
  have h2 : va_D A [((az k, .inr (7, [.ref (ac k), .int (nI (min (qs k) n))])) : Nat × va_E), (ac k, .inl (kz k, c, .inl (fz k)))] := by
    refine ⟨fun i j p q hp hq e => ?_, fun i q hq => ?_⟩
    · match i, j, hp, hq with
      | 0, 0, _, _ => rfl
      | 1, 1, _, _ => rfl
      | 0, 1, hp, hq => cases hp; cases hq; exact absurd e (zp_apart hD hk)
      | 1, 0, hp, hq => cases hp; cases hq; exact absurd e.symm (zp_apart hD hk)
      | 0, j + 2, _, hq => cases hq
      | 1, j + 2, _, hq => cases hq
      | i + 2, _, hp, _ => cases hp
    · match i, hq with
      | 0, hq => cases hq; exact hD.2 _ _ (zp_o hk)
      | 1, hq => cases hq; exact hD.2 _ _ (zp_a hk)
      | i + 2, hq => cases hq
  refine h1.app h2 (fun i j p q hp hq e => ?_)
  obtain ⟨i0, -, hi0⟩ := va_in_of is hs hp
  have hl := (List.getElem?_eq_some_iff.mp hi0).1
  have hX : (X ++ zp n c N az ac kz qs fz)[i0]? = some p := by rw [List.getElem?_append_left hl]; exact hi0
  match j, hq with
  | 0, hq => cases hq; have := hD.1 _ _ _ _ hX (zp_o hk) e; omega
  | 1, hq => cases hq; have := hD.1 _ _ _ _ hX (zp_a hk) e; omega
  | j + 2, hq => cases hq
theorem zp_fst {X : va_W} {n c N : Nat} {az ac : Nat → Nat} {kz : Nat → ClassId} {qs qs' : Nat → Nat} {fz fz' : Nat → Nat → Int32} : (X ++ zp n c N az ac kz qs fz).map Prod.fst = (X ++ zp n c N az ac kz qs' fz').map Prod.fst := by
  unfold zp
  rw [List.map_append, List.map_append, List.map_append, List.map_append, List.map_map, List.map_map, List.map_map, List.map_map]
  rfl
theorem vD_fst {A : Nat → Prop} {ws ws' : va_W} (h : va_D A ws) (e : ws.map Prod.fst = ws'.map Prod.fst) : va_D A ws' := by
  have key : ∀ (k : Nat) (q : Nat × va_E), ws'[k]? = some q → ∃ q0 : Nat × va_E, ws[k]? = some q0 ∧ q0.1 = q.1 := by
    intro k q hq
    have h1 := congrArg (fun l : List Nat => l[k]?) e
    simp only [List.getElem?_map, hq] at h1
    cases hw : ws[k]? with
    | none => rw [hw] at h1; cases h1
    | some x => rw [hw] at h1; exact ⟨x, rfl, Option.some.inj h1⟩
  refine ⟨fun i j p q hp hq e => ?_, fun k q hq => ?_⟩
  · obtain ⟨p0, h1, h2⟩ := key i p hp
    obtain ⟨q0, h3, h4⟩ := key j q hq
    exact h.1 i j p0 q0 h1 h3 (by rw [h2, h4, e])
  · obtain ⟨q0, h1, h2⟩ := key k q hq
    rw [← h2]; exact h.2 k q0 h1
/-- one zone has changed, what else was given is as it was -/
theorem zp_put {A : Nat → Prop} {D : va_G} {X wr : va_W} {n c N k n' : Nat} {az ac : Nat → Nat} {kz : Nat → ClassId} {qs : Nat → Nat} {fz : Nat → Nat → Int32} {f' : Nat → Int32} {H H1 : Heap} (hP : va_P D vwCl (X ++ zp n c N az ac kz qs fz) H) (hD : va_D A (X ++ zp n c N az ac kz qs fz)) (hk : k < N) (hr : ∀ q ∈ wr, q ∈ X ++ zp n c N az ac kz qs fz)
    (hkf : ∀ q : Nat, q < H.size → ¬ va_A (wr ++ [(az k, .inr (7, [.ref (ac k), .int (nI (min (qs k) n))])), (ac k, .inl (kz k, c, .inl (fz k)))]) H.size q → H1[q]? = H[q]?) (hn : n' ≤ n) (hP1 : va_P D vwCl (wr ++ [(az k, .inr (7, [.ref (ac k), .int (nI n')])), (ac k, .inl (kz k, c, .inl f'))]) H1) :
    ∃ (qs' : Nat → Nat) (fz' : Nat → Nat → Int32), va_P D vwCl (X ++ zp n c N az ac kz qs' fz') H1 ∧ va_D A (X ++ zp n c N az ac kz qs' fz') := by
  refine ⟨fun j => if j = k then n' else qs j, fun j => if j = k then f' else fz j, ?_, vD_fst hD zp_fst⟩
  have old : ∀ (i : Nat) (q : Nat × va_E), (X ++ zp n c N az ac kz qs fz)[i]? = some q → i ≠ X.length + k → i ≠ X.length + (N + k) → va_at D vwCl q H1 := by
    intro i q hq h1 h2
    by_cases g : q ∈ wr
    · obtain ⟨j, hj⟩ := List.getElem?_of_mem (List.mem_append_left [(az k, Sum.inr (7, [Value.ref (ac k), Value.int (nI n')])), (ac k, Sum.inl (kz k, c, Sum.inl f'))] g)
      exact hP1 j q hj
    · refine (hP i q hq).kept (hkf q.1 (hP i q hq).lt (fun ha => ?_))
      rcases ha with ⟨j, e, hj⟩ | ha
      · rcases List.mem_append.mp (List.mem_of_getElem? hj) with h | h
        · obtain ⟨i2, h3⟩ := List.getElem?_of_mem (hr _ h)
          have h4 := hD.1 i i2 q _ hq h3 rfl
          subst h4
          rw [hq] at h3
          exact g (by rw [Option.some.inj h3]; exact h)
        · rcases List.mem_cons.mp h with h | h
          · exact h1 (hD.1 i _ q _ hq (zp_o hk) (by have := congrArg Prod.fst h; exact this))
          · rcases List.mem_cons.mp h with h | h
            · exact h2 (hD.1 i _ q _ hq (zp_a hk) (by have := congrArg Prod.fst h; exact this))
            · exact absurd h List.not_mem_nil
      · exact absurd (hP i q hq).lt (by omega)
  have hnew : ∀ q ∈ [((az k, .inr (7, [.ref (ac k), .int (nI n')])) : Nat × va_E), (ac k, .inl (kz k, c, .inl f'))], va_at D vwCl q H1 := by
    intro q hq
    obtain ⟨j, hj⟩ := List.getElem?_of_mem (List.mem_append_right wr hq)
    exact hP1 j q hj
  intro i q hq
  by_cases h0 : i < X.length
  · rw [List.getElem?_append_left h0] at hq
    exact old i q (by rw [List.getElem?_append_left h0]; exact hq) (by omega) (by omega)
  · rw [List.getElem?_append_right (by omega), zp_get] at hq
    by_cases h1 : i - X.length < N
    · rw [if_pos h1] at hq
      by_cases h2 : i - X.length = k
      · rw [h2] at hq
        cases hq
        have := hnew _ List.mem_cons_self
        unfold zpo
        rw [show (fun j => if j = k then n' else qs j) k = n' from if_pos rfl, Nat.min_eq_left hn]
        exact this
      · have hq' : (X ++ zp n c N az ac kz qs fz)[i]? = some q := by
          rw [List.getElem?_append_right (by omega), zp_get, if_pos h1]
          rw [← hq]
          unfold zpo
          rw [show (fun j => if j = k then n' else qs j) (i - X.length) = qs (i - X.length) from if_neg h2]
        exact old i q hq' (by omega) (by omega)
    · rw [if_neg h1] at hq
      by_cases h3 : i - X.length < 2 * N
      · rw [if_pos h3] at hq
        by_cases h2 : i - X.length - N = k
        · rw [h2] at hq
          cases hq
          have := hnew _ (List.mem_cons_of_mem _ List.mem_cons_self)
          unfold zpa
          rw [show (fun j => if j = k then f' else fz j) k = f' from if_pos rfl]
          exact this
        · have hq' : (X ++ zp n c N az ac kz qs fz)[i]? = some q := by
            rw [List.getElem?_append_right (by omega), zp_get, if_neg h1, if_pos h3]
            rw [← hq]
            unfold zpa
            rw [show (fun j => if j = k then f' else fz j) (i - X.length - N) = fz (i - X.length - N) from if_neg h2]
          exact old i q hq' (by omega) (by omega)
      · rw [if_neg h3] at hq; cases hq
theorem zp_K {D : va_G} {T T' : List (ClassId × FieldType)} {N k : Nat} {kz : Nat → ClassId} {U : State} (hK : va_K D vwCl (T ++ zt N kz) U) (hk : k < N) (is : List Nat) (hs : is.map (fun i => T[i]?) = T'.map some) : va_K D vwCl (T' ++ [(kz k, .int)]) U := by
  refine ⟨hK.1, fun i q hq => ?_⟩
  rcases List.mem_append.mp (List.mem_of_getElem? hq) with h | h
  · obtain ⟨j, hj⟩ := List.getElem?_of_mem h
    have h1 : (is.map (fun i => T[i]?))[j]? = some (some q) := by rw [hs, List.getElem?_map, hj]; rfl
    rw [List.getElem?_map] at h1
    cases hi : is[j]? with
    | none => rw [hi] at h1; cases h1
    | some i0 =>
      rw [hi] at h1
      have h2 : T[i0]? = some q := Option.some.inj h1
      exact hK.2 i0 q (by rw [List.getElem?_append_left (List.getElem?_eq_some_iff.mp h2).1]; exact h2)
  · rcases List.mem_cons.mp h with h | h
    · rw [h]
      exact hK.2 (T.length + k) _ (by rw [List.getElem?_append_right (by omega), Nat.add_sub_cancel_left]; unfold zt; rw [List.getElem?_map, List.getElem?_range hk]; rfl)
    · exact absurd h List.not_mem_nil
theorem pu_subm {X wx : va_W} (is : List Nat) (hs : is.map (fun i => X[i]?) = wx.map some) : ∀ q ∈ wx, q ∈ X := fun q h => by
  obtain ⟨j, hj⟩ := List.getElem?_of_mem h
  obtain ⟨i, -, hi⟩ := va_in_of is hs hj
  exact List.mem_of_getElem? hi
theorem zp_two {X : va_W} {n c N j : Nat} {az ac : Nat → Nat} {kz : Nat → ClassId} {qs : Nat → Nat} {fz : Nat → Nat → Int32} (hj : j < N) : ∀ q ∈ [((az j, .inr (7, [.ref (ac j), .int (nI (min (qs j) n))])) : Nat × va_E), (ac j, .inl (kz j, c, .inl (fz j)))], q ∈ X ++ zp n c N az ac kz qs fz := fun q h => by
  rcases List.mem_cons.mp h with h | h
  · rw [h]; exact List.mem_of_getElem? (zp_o hj)
  · rcases List.mem_cons.mp h with h | h
    · rw [h]; exact List.mem_of_getElem? (zp_a hj)
    · exact absurd h List.not_mem_nil
theorem zp_cutD2 {A : Nat → Prop} {X : va_W} {n c N j k : Nat} {az ac : Nat → Nat} {kz : Nat → ClassId} {qs : Nat → Nat} {fz : Nat → Nat → Int32} (hD : va_D A (X ++ zp n c N az ac kz qs fz)) (hj : j < N) (hk : k < N) (hjk : j ≠ k) : va_D A ([(az j, .inr (7, [.ref (ac j), .int (nI (min (qs j) n))])), (ac j, .inl (kz j, c, .inl (fz j)))] ++ [(az k, .inr (7, [.ref (ac k), .int (nI (min (qs k) n))])), (ac k, .inl (kz k, c, .inl (fz k)))]) := by
  have h1 : va_D A [((az j, .inr (7, [.ref (ac j), .int (nI (min (qs j) n))])) : Nat × va_E), (ac j, .inl (kz j, c, .inl (fz j)))] := zp_cutD (wx := []) hD hj [] rfl rfl
  have h2 : va_D A [((az k, .inr (7, [.ref (ac k), .int (nI (min (qs k) n))])) : Nat × va_E), (ac k, .inl (kz k, c, .inl (fz k)))] := zp_cutD (wx := []) hD hk [] rfl rfl
  refine h1.app h2 (fun i i' p q hp hq e => ?_)
  match i, i', hp, hq with
  | 0, 0, hp, hq => cases hp; cases hq; have := hD.1 _ _ _ _ (zp_o hj) (zp_o hk) e; omega
  | 0, 1, hp, hq => cases hp; cases hq; have := hD.1 _ _ _ _ (zp_o hj) (zp_a hk) e; omega
  | 1, 0, hp, hq => cases hp; cases hq; have := hD.1 _ _ _ _ (zp_a hj) (zp_o hk) e; omega
  | 1, 1, hp, hq => cases hp; cases hq; have := hD.1 _ _ _ _ (zp_a hj) (zp_a hk) e; omega
  | i + 2, _, hp, _ => cases hp
  | 0, i' + 2, _, hq => cases hq
  | 1, i' + 2, _, hq => cases hq
theorem zp_K2 {D : va_G} {T : List (ClassId × FieldType)} {N j k : Nat} {kz : Nat → ClassId} {U : State} (hK : va_K D vwCl (T ++ zt N kz) U) (hj : j < N) (hk : k < N) : va_K D vwCl [(kz j, .int), (kz k, .int)] U := by
  have h1 : va_K D vwCl ([] ++ [(kz j, .int)]) U := zp_K (T' := []) hK hj [] rfl
  have h2 : va_K D vwCl ([] ++ [(kz k, .int)]) U := zp_K (T' := []) hK hk [] rfl
  exact h1.app h2
theorem zk_part {D : va_G} {T T' Z : List (ClassId × FieldType)} {U : State} (hK : va_K D vwCl (T ++ Z) U) (is : List Nat) (hs : is.map (fun i => T[i]?) = T'.map some) : va_K D vwCl (T' ++ Z) U := by
  refine ⟨hK.1, fun i q hq => ?_⟩
  rcases List.mem_append.mp (List.mem_of_getElem? hq) with h | h
  · obtain ⟨j, hj⟩ := List.getElem?_of_mem h
    have h1 : (is.map (fun i => T[i]?))[j]? = some (some q) := by rw [hs, List.getElem?_map, hj]; rfl
    rw [List.getElem?_map] at h1
    cases hi : is[j]? with
    | none => rw [hi] at h1; cases h1
    | some i0 =>
      rw [hi] at h1
      have h2 : T[i0]? = some q := Option.some.inj h1
      exact hK.2 i0 q (by rw [List.getElem?_append_left (List.getElem?_eq_some_iff.mp h2).1]; exact h2)
  · obtain ⟨j, hj⟩ := List.getElem?_of_mem h
    exact hK.2 (T.length + j) q (by rw [List.getElem?_append_right (by omega), Nat.add_sub_cancel_left]; exact hj)
/-- some cells and a whole tail of cells get new contents -/
theorem pl_put {A : Nat → Prop} {D : va_G} {X X' wc w1 pl pl' : va_W} {H H1 : Heap} (hP : va_P D vwCl (X ++ pl) H) (hD : va_D A (X ++ pl)) (is : List Nat) (hC : is.map (fun i => X[i]?) = wc.map some) (hk : ∀ q : Nat, q < H.size → ¬ va_A (wc ++ pl) H.size q → H1[q]? = H[q]?) (hP1 : va_P D vwCl (w1 ++ pl') H1) (hf : w1.map (fun e => some e.1) = wc.map (fun e => some e.1)) (hpf : pl.map Prod.fst = pl'.map Prod.fst) (hs : putL X is w1 = X') : va_P D vwCl (X' ++ pl') H1 ∧ va_D A (X' ++ pl') := by
  subst hs
  have hlen : is.length = w1.length := by
    have h1 := congrArg List.length hC
    have h2 := congrArg List.length hf
    rw [List.length_map, List.length_map] at h1 h2
    omega
  have hF : is.map (fun i => (X[i]?).map Prod.fst) = w1.map (fun e => some e.1) := by
    rw [hf]
    have := congrArg (List.map (Option.map Prod.fst)) hC
    rw [List.map_map, List.map_map] at this
    exact this
  have hX : X.map Prod.fst = (putL X is w1).map Prod.fst := by
    apply List.ext_getElem?
    intro k
    rw [List.getElem?_map, List.getElem?_map, putL_fst is w1 X hF k]
  have hXl : (putL X is w1).length = X.length := by
    have := congrArg List.length hX
    rw [List.length_map, List.length_map] at this
    exact this.symm
  refine ⟨fun k q hq => ?_, vD_fst hD (by rw [List.map_append, List.map_append, hX, hpf])⟩
  by_cases h0 : k < X.length
  · rw [List.getElem?_append_left (by omega)] at hq
    by_cases g : k ∈ is
    · obtain ⟨i, hi⟩ := List.getElem?_of_mem (List.mem_append_left pl' (putL_in is w1 X k q hlen g hq))
      exact hP1 i q hi
    · rw [putL_out is w1 X k g] at hq
      have hq' : (X ++ pl)[k]? = some q := by rw [List.getElem?_append_left h0]; exact hq
      refine (hP k q hq').kept (hk q.1 (hP k q hq').lt (fun ha => ?_))
      rcases ha with ⟨j, c, hj⟩ | ha
      · rcases List.mem_append.mp (List.mem_of_getElem? hj) with h | h
        · obtain ⟨j2, hj2⟩ := List.getElem?_of_mem h
          obtain ⟨i, h1, h2⟩ := va_in_of is hC hj2
          have hl := (List.getElem?_eq_some_iff.mp h2).1
          have := hD.1 k i q (q.1, c) hq' (by rw [List.getElem?_append_left hl]; exact h2) rfl
          exact g (by rw [this]; exact List.mem_of_getElem? h1)
        · obtain ⟨j2, hj2⟩ := List.getElem?_of_mem h
          have := hD.1 k (X.length + j2) q (q.1, c) hq' (by rw [List.getElem?_append_right (by omega), Nat.add_sub_cancel_left]; exact hj2) rfl
          omega
      · exact absurd (hP k q hq').lt (by omega)
  · rw [List.getElem?_append_right (by omega)] at hq
    obtain ⟨i, hi⟩ := List.getElem?_of_mem (List.mem_append_right w1 (List.mem_of_getElem? hq))
    exact hP1 i q hi
theorem zp_f {n c N : Nat} {az ac : Nat → Nat} {kz : Nat → ClassId} {qs qs' : Nat → Nat} {fz fz' : Nat → Nat → Int32} : (zp n c N az ac kz qs fz).map Prod.fst = (zp n c N az ac kz qs' fz').map Prod.fst := zp_fst (X := [])
