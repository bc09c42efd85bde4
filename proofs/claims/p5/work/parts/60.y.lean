/-- some explicit cells and one zone change -/
theorem zq_put {A : Nat → Prop} {D : va_G} {X X' wx w1 : va_W} {n c N k n' : Nat} {az ac : Nat → Nat} {kz : Nat → ClassId} {qs : Nat → Nat} {fz : Nat → Nat → Int32} {f' : Nat → Int32} {H H1 : Heap} (hP : va_P D vwCl (X ++ zp n c N az ac kz qs fz) H) (hD : va_D A (X ++ zp n c N az ac kz qs fz)) (hk : k < N) (is : List Nat) (hC : is.map (fun i => X[i]?) = wx.map some)
    (hkf : ∀ q : Nat, q < H.size → ¬ va_A (wx ++ [(az k, .inr (7, [.ref (ac k), .int (nI (min (qs k) n))])), (ac k, .inl (kz k, c, .inl (fz k)))]) H.size q → H1[q]? = H[q]?) (hn : n' ≤ n) (hP1 : va_P D vwCl (w1 ++ [(az k, .inr (7, [.ref (ac k), .int (nI n')])), (ac k, .inl (kz k, c, .inl f'))]) H1) (hf : w1.map (fun e => some e.1) = wx.map (fun e => some e.1)) (hs : putL X is w1 = X') :
    ∃ (qs' : Nat → Nat) (fz' : Nat → Nat → Int32), va_P D vwCl (X' ++ zp n c N az ac kz qs' fz') H1 ∧ va_D A (X' ++ zp n c N az ac kz qs' fz') := by
  subst hs
  have hlen : is.length = w1.length := by
    have h1 := congrArg List.length hC
    have h2 := congrArg List.length hf
    rw [List.length_map, List.length_map] at h1 h2
    omega
  have hF : is.map (fun i => (X[i]?).map Prod.fst) = w1.map (fun e => some e.1) := by
    rw [hf]
    have := congrArg (List.map (Option.map Prod.fst)) hC
    rw [List.map_map, List.map_map] at this
    exact this
  have hX : X.map Prod.fst = (putL X is w1).map Prod.fst := by
    apply List.ext_getElem?
    intro k
    rw [List.getElem?_map, List.getElem?_map, putL_fst is w1 X hF k]
  have hXl : (putL X is w1).length = X.length := by
    have := congrArg List.length hX
    rw [List.length_map, List.length_map] at this
    exact this.symm
  refine ⟨fun j => if j = k then n' else qs j, fun j => if j = k then f' else fz j, ?_, vD_fst hD (by rw [List.map_append, List.map_append, hX, zp_f])⟩
  have old : ∀ (i : Nat) (q : Nat × va_E), (X ++ zp n c N az ac kz qs fz)[i]? = some q → i ∉ is → i ≠ X.length + k → i ≠ X.length + (N + k) → va_at D vwCl q H1 := by
    intro i q hq h0 h1 h2
    refine (hP i q hq).kept (hkf q.1 (hP i q hq).lt (fun ha => ?_))
    rcases ha with ⟨j, e, hj⟩ | ha
    · rcases List.mem_append.mp (List.mem_of_getElem? hj) with h | h
      · obtain ⟨j2, hj2⟩ := List.getElem?_of_mem h
        obtain ⟨i2, h3, h4⟩ := va_in_of is hC hj2
        have hl := (List.getElem?_eq_some_iff.mp h4).1
        have := hD.1 i i2 q (q.1, e) hq (by rw [List.getElem?_append_left hl]; exact h4) rfl
        exact h0 (by rw [this]; exact List.mem_of_getElem? h3)
      · rcases List.mem_cons.mp h with h | h
        · exact h1 (hD.1 i _ q _ hq (zp_o hk) (by have := congrArg Prod.fst h; exact this))
        · rcases List.mem_cons.mp h with h | h
          · exact h2 (hD.1 i _ q _ hq (zp_a hk) (by have := congrArg Prod.fst h; exact this))
          · exact absurd h List.not_mem_nil
    · exact absurd (hP i q hq).lt (by omega)
  have isl : ∀ i ∈ is, i < X.length := by
    intro i hi
    obtain ⟨j, hj⟩ := List.getElem?_of_mem hi
    have h1 := congrArg (fun l : List (Option (Nat × va_E)) => l[j]?) hC
    simp only [List.getElem?_map, hj] at h1
    cases hw : wx[j]? with
    | none => rw [hw] at h1; cases h1
    | some x => rw [hw] at h1; exact (List.getElem?_eq_some_iff.mp (Option.some.inj h1)).1
  have hnew : ∀ q ∈ [((az k, .inr (7, [.ref (ac k), .int (nI n')])) : Nat × va_E), (ac k, .inl (kz k, c, .inl f'))], va_at D vwCl q H1 := by
    intro q hq
    obtain ⟨j, hj⟩ := List.getElem?_of_mem (List.mem_append_right w1 hq)
    exact hP1 j q hj
  intro i q hq
  by_cases h0 : i < X.length
  · rw [List.getElem?_append_left (by omega)] at hq
    by_cases g : i ∈ is
    · obtain ⟨j, hj⟩ := List.getElem?_of_mem (List.mem_append_left [(az k, Sum.inr (7, [Value.ref (ac k), Value.int (nI n')])), (ac k, Sum.inl (kz k, c, Sum.inl f'))] (putL_in is w1 X i q hlen g hq))
      exact hP1 j q hj
    · rw [putL_out is w1 X i g] at hq
      exact old i q (by rw [List.getElem?_append_left h0]; exact hq) g (by omega) (by omega)
  · have g : i ∉ is := fun h => h0 (isl i h)
    rw [List.getElem?_append_right (by omega), hXl, zp_get] at hq
    by_cases h1 : i - X.length < N
    · rw [if_pos h1] at hq
      by_cases h2 : i - X.length = k
      · rw [h2] at hq
        cases hq
        have := hnew _ List.mem_cons_self
        unfold zpo
        rw [show (fun j => if j = k then n' else qs j) k = n' from if_pos rfl, Nat.min_eq_left hn]
        exact this
      · have hq' : (X ++ zp n c N az ac kz qs fz)[i]? = some q := by
          rw [List.getElem?_append_right (by omega), zp_get, if_pos h1]
          rw [← hq]
          unfold zpo
          rw [show (fun j => if j = k then n' else qs j) (i - X.length) = qs (i - X.length) from if_neg h2]
        exact old i q hq' g (by omega) (by omega)
    · rw [if_neg h1] at hq
      by_cases h3 : i - X.length < 2 * N
      · rw [if_pos h3] at hq
        by_cases h2 : i - X.length - N = k
        · rw [h2] at hq
          cases hq
          have := hnew _ (List.mem_cons_of_mem _ List.mem_cons_self)
          unfold zpa
          rw [show (fun j => if j = k then f' else fz j) k = f' from if_pos rfl]
          exact this
        · have hq' : (X ++ zp n c N az ac kz qs fz)[i]? = some q := by
            rw [List.getElem?_append_right (by omega), zp_get, if_neg h1, if_pos h3]
            rw [← hq]
            unfold zpa
            rw [show (fun j => if j = k then f' else fz j) (i - X.length - N) = fz (i - X.length - N) from if_neg h2]
          exact old i q hq' g (by omega) (by omega)
      · rw [if_neg h3] at hq; cases hq
/-- the zones that cover -/
def cv_ok (n : Nat) (f : Nat → Option Nat) (az : Nat → Nat) : Prop := ∀ i : Nat, i < n → ∃ k : Nat, k ≤ 269 ∧ f i = some (az k)
theorem cv_0 {f : Nat → Option Nat} {az : Nat → Nat} : cv_ok 0 f az := fun i h => absurd h (Nat.not_lt_zero i)
theorem cv_get {n i : Nat} {f : Nat → Option Nat} {az : Nat → Nat} (h : cv_ok n f az) (hi : i < n) (hb : i < 2 ^ 31) : ∃ k : Nat, k ≤ 269 ∧ va_rf (f (nI i).toNatClampNeg) = .ref (az k) := by
  obtain ⟨k, h1, h2⟩ := h i hi
  exact ⟨k, h1, by rw [nI_clamp hb, h2]; rfl⟩
theorem cv_new {n k : Nat} {f : Nat → Option Nat} {az : Nat → Nat} (h : cv_ok n f az) (hk : k ≤ 269) (hb : n < 2 ^ 31) : cv_ok (n + 1) (va_up f (nI n).toNatClampNeg (some (az k))) az := by
  intro i hi
  rw [nI_clamp hb]
  by_cases e : i = n
  · subst e; exact ⟨k, hk, va_up_self _ _ _⟩
  · rw [va_up_ne _ _ e]; exact h i (by omega)
