/-- a value named, then what is made of it -/
def slet {α β : Type} (a : α) (f : α → β) : β := f a
theorem slet_eq {α β : Type} {a u : α} {f : α → β} (h : u = a) : slet a f = f u := by rw [h]; rfl
theorem slet_ex {α β : Type} {R : β} {a : α} {f : α → β} (h : R = slet a f) : ∃ J : α, J = a ∧ R = f J := ⟨a, rfl, h⟩
/-- a loop by its step: on, or out with an answer; n turns at most -/
def itn {α β : Type} (f : α → α ⊕ β) : Nat → α → Option β
  | 0, _ => none
  | n + 1, t => match f t with
    | .inl t' => itn f n t'
    | .inr b => some b
theorem itn_l {α β : Type} {f : α → α ⊕ β} {n : Nat} {t t' : α} (h : f t = .inl t') : itn f (n + 1) t = itn f n t' := by rw [itn, h]
theorem itn_r {α β : Type} {f : α → α ⊕ β} {n : Nat} {t : α} {b : β} (h : f t = .inr b) : itn f (n + 1) t = some b := by rw [itn, h]
theorem itn_det {α β : Type} {f : α → α ⊕ β} : ∀ (n m : Nat) {t : α} {b b' : β}, itn f n t = some b → itn f m t = some b' → b = b' := by
  intro n
  induction n with
  | zero => intro m t b b' h; exact absurd h (by rw [itn]; exact fun z => nomatch z)
  | succ n ih =>
    intro m t b b' h g
    cases m with
    | zero => exact absurd g (by rw [itn]; exact fun z => nomatch z)
    | succ m =>
      cases e : f t with
      | inl t' => rw [itn_l e] at h g; exact ih m h g
      | inr c => rw [itn_r e] at h g; exact Option.some.inj (h.symm.trans g)
noncomputable def itrv {α β : Type} (d : β) (f : α → α ⊕ β) (t : α) : β := Classical.epsilon (h := ⟨d⟩) (fun b => ∃ n, itn f n t = some b)
theorem itrv_of {α β : Type} {d : β} {f : α → α ⊕ β} {n : Nat} {t : α} {b : β} (h : itn f n t = some b) : itrv d f t = b := by
  obtain ⟨m, hm⟩ := Classical.epsilon_spec_aux ⟨d⟩ (fun b => ∃ n, itn f n t = some b) ⟨b, n, h⟩
  exact itn_det m n hm h
theorem itrv_inr {α β : Type} {d : β} {f : α → α ⊕ β} {t : α} {b : β} (h : f t = .inr b) : itrv d f t = b := itrv_of (n := 1) (itn_r h)
theorem itrv_inl {α β : Type} {d : β} {f : α → α ⊕ β} {t t' : α} (h : f t = .inl t') : itrv d f t = itrv d f t' := by
  unfold itrv
  congr 1
  funext b
  apply propext
  constructor
  · rintro ⟨n, hn⟩
    cases n with
    | zero => exact absurd hn (by rw [itn]; exact fun z => nomatch z)
    | succ n => exact ⟨n, by rw [itn_l h] at hn; exact hn⟩
  · rintro ⟨n, hn⟩
    exact ⟨n + 1, by rw [itn_l h]; exact hn⟩
theorem itr_ex {α β : Type} {d : β} {R : β} {f : α → α ⊕ β} {t : α} (h : R = itrv d f t) : ∃ (F : α → α ⊕ β) (D : β), F = f ∧ R = itrv D F t := ⟨f, d, rfl, h⟩
theorem itr_step {α β : Type} {d : β} {R : β} {F f : α → α ⊕ β} {t : α} (hF : F = f) (h : R = itrv d F t) : ∃ S : α ⊕ β, S = f t ∧ (∀ t' : α, S = .inl t' → R = itrv d F t') ∧ (∀ b : β, S = .inr b → R = b) := by
  subst hF
  exact ⟨_, rfl, fun t' e => h.trans (itrv_inl e), fun b e => h.trans (itrv_inr e)⟩
def updN (q : Nat → Nat) (k v : Nat) : Nat → Nat := fun j => if j = k then v else q j
theorem bN_getx (h : Nat) (q : Nat → Nat) {n : Nat} (hn : n < 2 ^ 31) : ∃ v : Nat, v ≤ h ∧ bN h q (nI n).toNatClampNeg = nI v ∧ v = min (q n) h := ⟨min (q n) h, Nat.min_le_right _ _, by rw [nI_clamp hn]; rfl, rfl⟩
theorem bN_upx (h : Nat) (q : Nat → Nat) {n v : Nat} (hn : n < 2 ^ 31) (hv : v ≤ h) : ∃ q' : Nat → Nat, upd (bN h q) (nI n).toNatClampNeg (nI v) = bN h q' ∧ bN h q' (nI n).toNatClampNeg = nI v ∧ (∀ j : Nat, j ≠ (nI n).toNatClampNeg → bN h q' j = bN h q j) ∧ q' = updN q n v := by
  rw [nI_clamp hn]
  refine ⟨updN q n v, ?_, ?_, ?_, rfl⟩
  · funext j
    unfold upd bN updN
    by_cases e : j = n
    · rw [if_pos e, if_pos e, Nat.min_eq_left hv]
    · rw [if_neg e, if_neg e]
  · unfold bN updN
    rw [if_pos rfl, Nat.min_eq_left hv]
  · intro j e
    unfold bN updN
    rw [if_neg e]
theorem up_x (f : Nat → Int32) {n : Nat} (v : Int32) (hn : n < 2 ^ 31) : ∃ f' : Nat → Int32, upd f (nI n).toNatClampNeg v = f' ∧ f' = upd f n v := ⟨upd f n v, by rw [nI_clamp hn], rfl⟩
theorem nI_cl {n : Nat} (hn : n < 2 ^ 31) : n = (nI n).toNatClampNeg := (nI_clamp hn).symm
theorem b2_getx {a b i : Nat} (hi : i ≤ 1) : ∃ v : Nat, ((i = 0 ∧ v = a) ∨ (i = 1 ∧ v = b)) ∧ b2 a b (nI i).toNatClampNeg = nI v ∧ v = (if i = 0 then a else b) := by
  obtain ⟨v, h, e⟩ := b2_get (a := a) (b := b) hi
  refine ⟨v, h, e, ?_⟩
  rcases h with ⟨rfl, rfl⟩ | ⟨rfl, rfl⟩ <;> rfl
theorem b2m_getx {a b i : Nat} (hi : i ≤ 1) : ∃ v : Nat, ((i = 0 ∧ v = a) ∨ (i = 1 ∧ v = b)) ∧ b2m a b (nI i).toNatClampNeg = mI v ∧ v = (if i = 0 then a else b) := by
  obtain ⟨v, h, e⟩ := b2m_get (a := a) (b := b) hi
  refine ⟨v, h, e, ?_⟩
  rcases h with ⟨rfl, rfl⟩ | ⟨rfl, rfl⟩ <;> rfl
theorem bH_getx (q : Nat → Nat) {i : Nat} (hi : i < 2 ^ 31) : ∃ v : Nat, (v ≤ 4 ∧ (i % 80 < 56 ∨ v ≤ 1)) ∧ bH q (nI i).toNatClampNeg = nI v ∧ v = min (q i) (if i % 80 < 56 then 4 else 1) := by
  rw [nI_clamp hi]
  refine ⟨min (q i) (if i % 80 < 56 then 4 else 1), ?_, rfl, rfl⟩
  by_cases h : i % 80 < 56
  · rw [if_pos h]; exact ⟨Nat.min_le_right _ _, Or.inl h⟩
  · rw [if_neg h]; exact ⟨Nat.le_trans (Nat.min_le_right _ _) (by decide), Or.inr (Nat.min_le_right _ _)⟩
theorem bH_upx (q : Nat → Nat) {i v : Nat} (hi : i < 2 ^ 31) (hv : v ≤ 4 ∧ (i % 80 < 56 ∨ v ≤ 1)) : ∃ q' : Nat → Nat, upd (bH q) (nI i).toNatClampNeg (nI v) = bH q' ∧ bH q' (nI i).toNatClampNeg = nI v ∧ q' = updN q i v := by
  rw [nI_clamp hi]
  have hm : min v (if i % 80 < 56 then 4 else 1) = v := by
    by_cases h : i % 80 < 56
    · rw [if_pos h]; exact Nat.min_eq_left hv.1
    · rw [if_neg h]; exact Nat.min_eq_left (hv.2.resolve_left h)
  refine ⟨updN q i v, ?_, ?_, rfl⟩
  · funext j
    unfold upd bH updN
    by_cases e : j = i
    · rw [if_pos e, if_pos e, e, hm]
    · rw [if_neg e, if_neg e]
  · unfold bH updN
    rw [if_pos rfl, hm]
theorem bM_upx (h : Nat) (q : Nat → Nat) {n v : Nat} (hn : n < 2 ^ 31) (hv : v ≤ h) : ∃ q' : Nat → Nat, upd (bM h q) (nI n).toNatClampNeg (nI v) = bM h q' ∧ q' = updN q n (v + 1) := by
  rw [nI_clamp hn]
  refine ⟨updN q n (v + 1), ?_, rfl⟩
  funext j
  unfold upd bM updN
  by_cases e : j = n
  · rw [if_pos e, if_pos e, if_neg (by omega), Nat.add_sub_cancel, Nat.min_eq_left hv]
  · rw [if_neg e, if_neg e]
def updZ (f : Nat → Nat → Int32) (k : Nat) (g : Nat → Int32) : Nat → Nat → Int32 := fun j => if j = k then g else f j
theorem zp_putx {A : Nat → Prop} {D : va_G} {X wr : va_W} {n c N k n' : Nat} {az ac : Nat → Nat} {kz : Nat → ClassId} {qs : Nat → Nat} {fz : Nat → Nat → Int32} {f' : Nat → Int32} {H H1 : Heap} (hP : va_P D vwCl (X ++ zp n c N az ac kz qs fz) H) (hD : va_D A (X ++ zp n c N az ac kz qs fz)) (hk : k < N) (hr : ∀ q ∈ wr, q ∈ X ++ zp n c N az ac kz qs fz)
    (hkf : ∀ q : Nat, q < H.size → ¬ va_A (wr ++ [(az k, .inr (7, [.ref (ac k), .int (nI (min (qs k) n))])), (ac k, .inl (kz k, c, .inl (fz k)))]) H.size q → H1[q]? = H[q]?) (hn : n' ≤ n) (hP1 : va_P D vwCl (wr ++ [(az k, .inr (7, [.ref (ac k), .int (nI n')])), (ac k, .inl (kz k, c, .inl f'))]) H1) :
    va_P D vwCl (X ++ zp n c N az ac kz (updN qs k n') (updZ fz k f')) H1 ∧ va_D A (X ++ zp n c N az ac kz (updN qs k n') (updZ fz k f')) := by
  refine ⟨?_, vD_fst hD zp_fst⟩
  show va_P D vwCl (X ++ zp n c N az ac kz (fun j => if j = k then n' else qs j) (fun j => if j = k then f' else fz j)) H1
  have old : ∀ (i : Nat) (q : Nat × va_E), (X ++ zp n c N az ac kz qs fz)[i]? = some q → i ≠ X.length + k → i ≠ X.length + (N + k) → va_at D vwCl q H1 := by
    intro i q hq h1 h2
    by_cases g : q ∈ wr
    · obtain ⟨j, hj⟩ := List.getElem?_of_mem (List.mem_append_left [(az k, Sum.inr (7, [Value.ref (ac k), Value.int (nI n')])), (ac k, Sum.inl (kz k, c, Sum.inl f'))] g)
      exact hP1 j q hj
    · refine (hP i q hq).kept (hkf q.1 (hP i q hq).lt (fun ha => ?_))
      rcases ha with ⟨j, e, hj⟩ | ha
      · rcases List.mem_append.mp (List.mem_of_getElem? hj) with h | h
        · obtain ⟨i2, h3⟩ := List.getElem?_of_mem (hr _ h)
          have h4 := hD.1 i i2 q _ hq h3 rfl
          subst h4
          rw [hq] at h3
          exact g (by rw [Option.some.inj h3]; exact h)
        · rcases List.mem_cons.mp h with h | h
          · exact h1 (hD.1 i _ q _ hq (zp_o hk) (by have := congrArg Prod.fst h; exact this))
          · rcases List.mem_cons.mp h with h | h
            · exact h2 (hD.1 i _ q _ hq (zp_a hk) (by have := congrArg Prod.fst h; exact this))
            · exact absurd h List.not_mem_nil
      · exact absurd (hP i q hq).lt (by omega)
  have hnew : ∀ q ∈ [((az k, .inr (7, [.ref (ac k), .int (nI n')])) : Nat × va_E), (ac k, .inl (kz k, c, .inl f'))], va_at D vwCl q H1 := by
    intro q hq
    obtain ⟨j, hj⟩ := List.getElem?_of_mem (List.mem_append_right wr hq)
    exact hP1 j q hj
  intro i q hq
  by_cases h0 : i < X.length
  · rw [List.getElem?_append_left h0] at hq
    exact old i q (by rw [List.getElem?_append_left h0]; exact hq) (by omega) (by omega)
  · rw [List.getElem?_append_right (by omega), zp_get] at hq
    by_cases h1 : i - X.length < N
    · rw [if_pos h1] at hq
      by_cases h2 : i - X.length = k
      · rw [h2] at hq
        cases hq
        have := hnew _ List.mem_cons_self
        unfold zpo
        rw [show (fun j => if j = k then n' else qs j) k = n' from if_pos rfl, Nat.min_eq_left hn]
        exact this
      · have hq' : (X ++ zp n c N az ac kz qs fz)[i]? = some q := by
          rw [List.getElem?_append_right (by omega), zp_get, if_pos h1]
          rw [← hq]
          unfold zpo
          rw [show (fun j => if j = k then n' else qs j) (i - X.length) = qs (i - X.length) from if_neg h2]
        exact old i q hq' (by omega) (by omega)
    · rw [if_neg h1] at hq
      by_cases h3 : i - X.length < 2 * N
      · rw [if_pos h3] at hq
        by_cases h2 : i - X.length - N = k
        · rw [h2] at hq
          cases hq
          have := hnew _ (List.mem_cons_of_mem _ List.mem_cons_self)
          unfold zpa
          rw [show (fun j => if j = k then f' else fz j) k = f' from if_pos rfl]
          exact this
        · have hq' : (X ++ zp n c N az ac kz qs fz)[i]? = some q := by
            rw [List.getElem?_append_right (by omega), zp_get, if_neg h1, if_pos h3]
            rw [← hq]
            unfold zpa
            rw [show (fun j => if j = k then f' else fz j) (i - X.length - N) = fz (i - X.length - N) from if_neg h2]
          exact old i q hq' (by omega) (by omega)
      · rw [if_neg h3] at hq; cases hq
theorem zq_putx {A : Nat → Prop} {D : va_G} {X X' wx w1 : va_W} {n c N k n' : Nat} {az ac : Nat → Nat} {kz : Nat → ClassId} {qs : Nat → Nat} {fz : Nat → Nat → Int32} {f' : Nat → Int32} {H H1 : Heap} (hP : va_P D vwCl (X ++ zp n c N az ac kz qs fz) H) (hD : va_D A (X ++ zp n c N az ac kz qs fz)) (hk : k < N) (is : List Nat) (hC : is.map (fun i => X[i]?) = wx.map some)
    (hkf : ∀ q : Nat, q < H.size → ¬ va_A (wx ++ [(az k, .inr (7, [.ref (ac k), .int (nI (min (qs k) n))])), (ac k, .inl (kz k, c, .inl (fz k)))]) H.size q → H1[q]? = H[q]?) (hn : n' ≤ n) (hP1 : va_P D vwCl (w1 ++ [(az k, .inr (7, [.ref (ac k), .int (nI n')])), (ac k, .inl (kz k, c, .inl f'))]) H1) (hf : w1.map (fun e => some e.1) = wx.map (fun e => some e.1)) (hs : putL X is w1 = X') :
    va_P D vwCl (X' ++ zp n c N az ac kz (updN qs k n') (updZ fz k f')) H1 ∧ va_D A (X' ++ zp n c N az ac kz (updN qs k n') (updZ fz k f')) := by
  subst hs
  have hlen : is.length = w1.length := by
    have h1 := congrArg List.length hC
    have h2 := congrArg List.length hf
    rw [List.length_map, List.length_map] at h1 h2
    omega
  have hF : is.map (fun i => (X[i]?).map Prod.fst) = w1.map (fun e => some e.1) := by
    rw [hf]
    have := congrArg (List.map (Option.map Prod.fst)) hC
    rw [List.map_map, List.map_map] at this
    exact this
  have hX : X.map Prod.fst = (putL X is w1).map Prod.fst := by
    apply List.ext_getElem?
    intro k
    rw [List.getElem?_map, List.getElem?_map, putL_fst is w1 X hF k]
  have hXl : (putL X is w1).length = X.length := by
    have := congrArg List.length hX
    rw [List.length_map, List.length_map] at this
    exact this.symm
  refine ⟨?_, vD_fst hD (by rw [List.map_append, List.map_append, hX, zp_f])⟩
  show va_P D vwCl (putL X is w1 ++ zp n c N az ac kz (fun j => if j = k then n' else qs j) (fun j => if j = k then f' else fz j)) H1
  have old : ∀ (i : Nat) (q : Nat × va_E), (X ++ zp n c N az ac kz qs fz)[i]? = some q → i ∉ is → i ≠ X.length + k → i ≠ X.length + (N + k) → va_at D vwCl q H1 := by
    intro i q hq h0 h1 h2
    refine (hP i q hq).kept (hkf q.1 (hP i q hq).lt (fun ha => ?_))
    rcases ha with ⟨j, e, hj⟩ | ha
    · rcases List.mem_append.mp (List.mem_of_getElem? hj) with h | h
      · obtain ⟨j2, hj2⟩ := List.getElem?_of_mem h
        obtain ⟨i2, h3, h4⟩ := va_in_of is hC hj2
        have hl := (List.getElem?_eq_some_iff.mp h4).1
        have := hD.1 i i2 q (q.1, e) hq (by rw [List.getElem?_append_left hl]; exact h4) rfl
        exact h0 (by rw [this]; exact List.mem_of_getElem? h3)
      · rcases List.mem_cons.mp h with h | h
        · exact h1 (hD.1 i _ q _ hq (zp_o hk) (by have := congrArg Prod.fst h; exact this))
        · rcases List.mem_cons.mp h with h | h
          · exact h2 (hD.1 i _ q _ hq (zp_a hk) (by have := congrArg Prod.fst h; exact this))
          · exact absurd h List.not_mem_nil
    · exact absurd (hP i q hq).lt (by omega)
  have isl : ∀ i ∈ is, i < X.length := by
    intro i hi
    obtain ⟨j, hj⟩ := List.getElem?_of_mem hi
    have h1 := congrArg (fun l : List (Option (Nat × va_E)) => l[j]?) hC
    simp only [List.getElem?_map, hj] at h1
    cases hw : wx[j]? with
    | none => rw [hw] at h1; cases h1
    | some x => rw [hw] at h1; exact (List.getElem?_eq_some_iff.mp (Option.some.inj h1)).1
  have hnew : ∀ q ∈ [((az k, .inr (7, [.ref (ac k), .int (nI n')])) : Nat × va_E), (ac k, .inl (kz k, c, .inl f'))], va_at D vwCl q H1 := by
    intro q hq
    obtain ⟨j, hj⟩ := List.getElem?_of_mem (List.mem_append_right w1 hq)
    exact hP1 j q hj
  intro i q hq
  by_cases h0 : i < X.length
  · rw [List.getElem?_append_left (by omega)] at hq
    by_cases g : i ∈ is
    · obtain ⟨j, hj⟩ := List.getElem?_of_mem (List.mem_append_left [(az k, Sum.inr (7, [Value.ref (ac k), Value.int (nI n')])), (ac k, Sum.inl (kz k, c, Sum.inl f'))] (putL_in is w1 X i q hlen g hq))
      exact hP1 j q hj
    · rw [putL_out is w1 X i g] at hq
      exact old i q (by rw [List.getElem?_append_left h0]; exact hq) g (by omega) (by omega)
  · have g : i ∉ is := fun h => h0 (isl i h)
    rw [List.getElem?_append_right (by omega), hXl, zp_get] at hq
    by_cases h1 : i - X.length < N
    · rw [if_pos h1] at hq
      by_cases h2 : i - X.length = k
      · rw [h2] at hq
        cases hq
        have := hnew _ List.mem_cons_self
        unfold zpo
        rw [show (fun j => if j = k then n' else qs j) k = n' from if_pos rfl, Nat.min_eq_left hn]
        exact this
      · have hq' : (X ++ zp n c N az ac kz qs fz)[i]? = some q := by
          rw [List.getElem?_append_right (by omega), zp_get, if_pos h1]
          rw [← hq]
          unfold zpo
          rw [show (fun j => if j = k then n' else qs j) (i - X.length) = qs (i - X.length) from if_neg h2]
        exact old i q hq' g (by omega) (by omega)
    · rw [if_neg h1] at hq
      by_cases h3 : i - X.length < 2 * N
      · rw [if_pos h3] at hq
        by_cases h2 : i - X.length - N = k
        · rw [h2] at hq
          cases hq
          have := hnew _ (List.mem_cons_of_mem _ List.mem_cons_self)
          unfold zpa
          rw [show (fun j => if j = k then f' else fz j) k = f' from if_pos rfl]
          exact this
        · have hq' : (X ++ zp n c N az ac kz qs fz)[i]? = some q := by
            rw [List.getElem?_append_right (by omega), zp_get, if_neg h1, if_pos h3]
            rw [← hq]
            unfold zpa
            rw [show (fun j => if j = k then f' else fz j) (i - X.length - N) = fz (i - X.length - N) from if_neg h2]
          exact old i q hq' g (by omega) (by omega)
      · rw [if_neg h3] at hq; cases hq
theorem zp_qsame {n c N k : Nat} {az ac : Nat → Nat} {kz : Nat → ClassId} {qs : Nat → Nat} {fz : Nat → Nat → Int32} : zp n c N az ac kz (updN qs k (min (qs k) n)) fz = zp n c N az ac kz qs fz := by
  have e : zpo n az ac (updN qs k (min (qs k) n)) = zpo n az ac qs := by
    funext j
    unfold zpo updN
    by_cases h : j = k
    · subst h; rw [if_pos rfl, Nat.min_eq_left (Nat.min_le_right _ _)]
    · rw [if_neg h]
  unfold zp
  rw [e]
theorem zp_fsame {n c N k : Nat} {az ac : Nat → Nat} {kz : Nat → ClassId} {qs : Nat → Nat} {fz : Nat → Nat → Int32} : zp n c N az ac kz qs (updZ fz k (fz k)) = zp n c N az ac kz qs fz := by
  have e : updZ fz k (fz k) = fz := by
    funext j
    unfold updZ
    by_cases h : j = k
    · subst h; rw [if_pos rfl]
    · rw [if_neg h]
  rw [e]
/-- some explicit cells change, a zone is read beside them -/
theorem zr_put {A : Nat → Prop} {D : va_G} {X X' wx w1 : va_W} {n c N k : Nat} {az ac : Nat → Nat} {kz : Nat → ClassId} {qs : Nat → Nat} {fz : Nat → Nat → Int32} {H H1 : Heap} (hP : va_P D vwCl (X ++ zp n c N az ac kz qs fz) H) (hD : va_D A (X ++ zp n c N az ac kz qs fz)) (hk : k < N) (is : List Nat) (hC : is.map (fun i => X[i]?) = wx.map some)
    (hkf : ∀ q : Nat, q < H.size → ¬ va_A (wx ++ [(az k, .inr (7, [.ref (ac k), .int (nI (min (qs k) n))])), (ac k, .inl (kz k, c, .inl (fz k)))]) H.size q → H1[q]? = H[q]?) (hP1 : va_P D vwCl (w1 ++ [(az k, .inr (7, [.ref (ac k), .int (nI (min (qs k) n))])), (ac k, .inl (kz k, c, .inl (fz k)))]) H1) (hf : w1.map (fun e => some e.1) = wx.map (fun e => some e.1)) (hs : putL X is w1 = X') :
    va_P D vwCl (X' ++ zp n c N az ac kz qs fz) H1 ∧ va_D A (X' ++ zp n c N az ac kz qs fz) := by
  have h := zq_putx hP hD hk is hC hkf (Nat.min_le_right _ _) hP1 hf hs
  rw [zp_qsame, zp_fsame] at h
  exact h
theorem in_q {q b : Nat} (h : q < b) (hb : b < 2 ^ 30) : (0 : Int32) ≤ nI q ∧ nI q < nI b := ⟨nI_pos' (by omega), nI_lt h (by omega)⟩
/-- of two numbers the one of a bank -/
def bkN (b m0 m1 : Nat) : Nat := if b = 0 then m0 else m1
theorem bkN_lt {b m0 m1 : Nat} (h : m0 < 2 ^ 30 ∧ m1 < 2 ^ 30) : bkN b m0 m1 < 2 ^ 30 := by
  unfold bkN
  by_cases e : b = 0
  · rw [if_pos e]; exact h.1
  · rw [if_neg e]; exact h.2
theorem in_c {p : Int32} {q hi b m0 m1 : Nat} (h : q ≤ hi ∧ q < bkN b m0 m1) (hm : m0 < 2 ^ 30 ∧ m1 < 2 ^ 30) (e : p = nI q) : (0 : Int32) ≤ p ∧ p < nI (bkN b m0 m1) := by
  rw [e]; exact in_q h.2 (bkN_lt hm)
theorem in_m1 {p : Int32} {n : Nat} (hn : n < 2 ^ 30) (h : p < nI n) : p ≤ nI n - 1 := by
  rw [fa_le, pu_m1 hn]
  have h1 := Int32.lt_iff_toInt_lt.mp h
  rw [nI_toInt (by omega)] at h1
  omega
theorem in_lt {n q b m0 m1 : Nat} (hx : n = if b = 0 then m0 else m1) (h : q < n) : q < bkN b m0 m1 := by
  rw [hx] at h; exact h
theorem in_neg {p : Int32} {n b m0 m1 : Nat} (hx : n = if b = 0 then m0 else m1) (hn : n < 2 ^ 30) (h : ¬ ((0 : Int32) ≤ p ∧ p ≤ nI n - 1)) : ¬ ((0 : Int32) ≤ p ∧ p < nI (bkN b m0 m1)) := by
  intro z
  have e : bkN b m0 m1 = n := hx.symm
  rw [e] at z
  exact h ⟨z.1, in_m1 hn z.2⟩
theorem of_107 {p : Int32} (h : (100 : Int32) ≤ p ∧ p ≤ 107) : ∃ n : Nat, n ≤ 7 ∧ p = nI (100 + n) := by
  obtain ⟨j, hj, rfl⟩ := nI_of (le_0 (Int32.le_trans (by decide) h.1))
  have h1 : 100 ≤ j := (nI_leI (a := 100) (b := j) (by omega) hj).mp h.1
  have h2 : j ≤ 107 := (nI_leI (a := j) (b := 107) hj (by omega)).mp h.2
  exact ⟨j - 100, by omega, by rw [show 100 + (j - 100) = j by omega]⟩
theorem to_107 {p : Int32} {n : Nat} (hn : n ≤ 7) (e : p = nI (100 + n)) : (100 : Int32) ≤ p ∧ p ≤ 107 := by
  rw [e]
  exact ⟨nI_le (a := 100) (b := 100 + n) (by omega) (by omega), nI_le (a := 100 + n) (b := 107) (by omega) (by omega)⟩
theorem cl_100 {n : Nat} (hn : n < 2 ^ 30) : n = (nI (100 + n) - 100 : Int32).toNatClampNeg := by
  have e : (nI (100 + n) - 100 : Int32) = nI (100 + n - 100) := pk_sub (a := 100 + n) (b := 100) (by omega)
  rw [e, Nat.add_sub_cancel_left]
  exact nI_cl (by omega)
theorem cl_of {f : Nat → Int32} {n v : Nat} (h : f (nI n : Int32).toNatClampNeg = nI v) (hn : n < 2 ^ 31) (hv : v < 2 ^ 31) : v = (f n : Int32).toNatClampNeg := by
  rw [nI_clamp hn] at h
  rw [h]
  exact nI_cl hv
theorem hi_subq {q : Nat} (h : q < 8) : q = ((-1 : Int32) - (-1 - nI q : Int32)).toNatClampNeg := by
  rw [hi_sub q h]; exact nI_cl (by omega)
/-- a step of a state's run -/
abbrev isStp (hs gc : Nat) (f : Nat → Int32) (p0 p1 : Int32) : Prop := hs = 1 ∧ (0 : Int32) ≤ p0 ∧ p0 < nI gc ∧ (0 : Int32) ≤ p1 ∧ p1 < f p0.toNatClampNeg
theorem stp_y {hs gc q j d : Nat} {f : Nat → Int32} (h1 : hs = 1) (hq : q < gc) (hg : gc < 2 ^ 30) (hf : f q = nI d) (hj : j < d) (hd : d < 2 ^ 30) : isStp hs gc f (nI q) (nI j) :=
  ⟨h1, (in_q hq hg).1, (in_q hq hg).2, nI_pos' (by omega), by rw [nI_clamp (by omega), hf]; exact nI_lt hj (by omega)⟩
theorem stp_n0 {hs gc : Nat} {f : Nat → Int32} {p0 p1 : Int32} (h : ¬ (hs = 1 ∧ (0 : Int32) ≤ p0 ∧ p0 < nI gc)) : ¬ isStp hs gc f p0 p1 := fun z => h ⟨z.1, z.2.1, z.2.2.1⟩
theorem stp_n1 {hs gc q d : Nat} {f : Nat → Int32} {p1 : Int32} (hq : q < 2 ^ 31) (hf : f q = nI d) (hd : d < 2 ^ 30) (h : ¬ ((0 : Int32) ≤ p1 ∧ p1 ≤ nI d - 1)) : ¬ isStp hs gc f (nI q) p1 := fun z => by
  have z2 := z.2.2.2.2
  rw [nI_clamp hq, hf] at z2
  exact h ⟨z.2.2.2.1, in_m1 hd z2⟩
theorem stp_n2 {hs gc : Nat} {f : Nat → Int32} {p0 p1 : Int32} (h : p1 < 0) : ¬ isStp hs gc f p0 p1 := fun z => absurd z.2.2.2.1 (Int32.not_le.mpr h)
theorem stp_n3 {hs gc q d : Nat} {f : Nat → Int32} {p1 : Int32} (hq : q < 2 ^ 31) (hf : f q = nI d) (h : nI d ≤ p1) : ¬ isStp hs gc f (nI q) p1 := fun z => by
  have z2 := z.2.2.2.2
  rw [nI_clamp hq, hf] at z2
  exact absurd z2 (Int32.not_lt.mpr h)
theorem gz_firstx {n : Nat} {fF fB fD : Nat → Int32} {a b : Int32} (h : gz_ok n fF fB fD) (hb : n < 2 ^ 31) : gz_ok (n + 1) (upd fF n a) (upd fB n b) (upd fD n 0) := by
  have e := gz_first (a := a) (b := b) h hb
  rw [nI_clamp hb] at e
  exact e
theorem gz_newx {n p e : Nat} {fF fB fD : Nat → Int32} (h : gz_ok n fF fB fD) (hp : p < n) (he : e ≤ 13) (hb : n < 2 ^ 31) : gz_ok (n + 1) (upd fF n (nI p)) (upd fB n (nI e)) (upd fD n (fD p + 1)) := by
  have g := gz_new (y := fD p) (y2 := fD p + 1) h hp he hb (by rw [nI_clamp (by omega)]) rfl
  rw [nI_clamp hb] at g
  exact g
theorem gz_recx {n p e : Nat} {fF fB fD : Nat → Int32} (h : gz_ok n fF fB fD) (hp : p < n) (he : e ≤ 13) (hb : n < 2 ^ 31) : gz_ok (n + 1) (upd fF n (nI p)) (upd fB n (nI e)) (upd (upd fD n 0) n (upd fD n 0 p + 1)) := by
  have e1 : upd fD n 0 p = fD p := pk_un (by omega)
  have e2 : upd (upd fD n 0) n (fD p + 1) = upd fD n (fD p + 1) := by
    funext j
    unfold upd
    by_cases g : j = n
    · rw [if_pos g, if_pos g]
    · rw [if_neg g, if_neg g, if_neg g]
  rw [e1, e2]
  exact gz_newx h hp he hb
/-- of what an act was: told, kept -/
def actV (h w : Nat) : Nat := if w ≤ h then w else 1000 + min (w - h - 1) 7
def actK (h v : Nat) : Nat := if v ≤ h then v else h + 1 + (v - 1000)
theorem actVK {h v : Nat} (hv : v ≤ h ∨ (1000 ≤ v ∧ v ≤ 1007)) : actV h (actK h v) = v := by
  unfold actV actK
  by_cases e : v ≤ h
  · rw [if_pos e, if_pos e]
  · rw [if_neg e, if_neg (by omega)]; omega
theorem bA_getx (h : Nat) (q : Nat → Nat) {n : Nat} (hn : n < 2 ^ 31) : ∃ v : Nat, (v ≤ h ∨ (1000 ≤ v ∧ v ≤ 1007)) ∧ bA h q (nI n).toNatClampNeg = nI v ∧ v = actV h (q n) := by
  rw [nI_clamp hn]
  refine ⟨actV h (q n), ?_, rfl, rfl⟩
  unfold actV
  by_cases e : q n ≤ h
  · rw [if_pos e]; exact Or.inl e
  · rw [if_neg e]; exact Or.inr ⟨by omega, by omega⟩
theorem bA_upx (h : Nat) (q : Nat → Nat) {n v : Nat} (hn : n < 2 ^ 31) (hv : v ≤ h ∨ (1000 ≤ v ∧ v ≤ 1007)) : ∃ q' : Nat → Nat, upd (bA h q) (nI n).toNatClampNeg (nI v) = bA h q' ∧ bA h q' (nI n).toNatClampNeg = nI v ∧ q' = updN q n (actK h v) := by
  rw [nI_clamp hn]
  have key : ∀ j : Nat, bA h (updN q n (actK h v)) j = upd (bA h q) n (nI v) j := by
    intro j
    show nI (actV h (updN q n (actK h v) j)) = upd (fun i => nI (actV h (q i))) n (nI v) j
    unfold upd updN
    by_cases e : j = n
    · rw [if_pos e, if_pos e, actVK hv]
    · rw [if_neg e, if_neg e]
  refine ⟨updN q n (actK h v), (funext key).symm, ?_, rfl⟩
  rw [key n]
  unfold upd
  rw [if_pos rfl]
theorem hi_newe {n : Nat} {f g : Nat → Int32} {v : Int32} (e : upd f (nI n).toNatClampNeg v = g) (h : hi_ok n f) (hv : hi_1 v) (hn : n ≤ 100) : hi_ok (n + 1) g := by
  rw [← e]; exact hi_new h hv hn
theorem hi_upe {n k : Nat} {f g : Nat → Int32} {v : Int32} (e : upd f k v = g) (h : hi_ok n f) (hv : hi_1 v) : hi_ok n g := by
  rw [← e]; exact hi_up h hv
theorem hi_mvx {n i k : Nat} {f g : Nat → Int32} {y : Int32} (e : upd f k y = g) (hy : y = f i) (h : hi_ok n f) (hi : i < n) (_ : n ≤ 100) : hi_ok n g := by
  rw [← e, hy]; exact hi_up h (h i hi)
