/-- where the pieces on the heap of pieces come from -/
def pf_ok (n k : Nat) (f : Nat → Int32) : Prop := ∀ i : Nat, i < n → ∃ a : Nat, f i = nI a ∧ a ≤ k ∧ i ≤ 20 * a
def pf_ext (n n' : Nat) (f f' : Nat → Int32) (k : Nat) : Prop := n ≤ n' ∧ (∀ i : Nat, i < n → f' i = f i) ∧ ∀ i : Nat, n ≤ i → i < n' → f' i = nI (k + 1)
theorem pf_refl {n k : Nat} {f : Nat → Int32} : pf_ext n n f f k := ⟨Nat.le_refl n, fun _ _ => rfl, fun i h g => absurd h (by omega)⟩
theorem pf_step {n n' k : Nat} {f f' : Nat → Int32} (h : pf_ext n n' f f' k) (hb : n' < 2 ^ 31) : pf_ext n (n' + 1) f (upd f' (nI n').toNatClampNeg (nI (k + 1))) k := by
  obtain ⟨h1, h2, h3⟩ := h
  rw [nI_clamp hb]
  refine ⟨by omega, fun i hi => by rw [pk_un (by omega)]; exact h2 i hi, fun i hi hj => ?_⟩
  by_cases e : i = n'
  · subst e; exact pk_us
  · rw [pk_un e]; exact h3 i hi (by omega)
theorem pf_one {k : Nat} {f : Nat → Int32} : pf_ok 1 k (upd f (nI 0).toNatClampNeg (nI 0)) := by
  intro i hi
  obtain rfl : i = 0 := by omega
  rw [nI_clamp (by decide)]
  exact ⟨0, pk_us, by omega, by omega⟩
theorem pf_app {n n' c k : Nat} {f f' : Nat → Int32} (h : pf_ok n c f) (g : pf_ext (n - 1) n' f f' k) (h1 : 1 ≤ n) (h2 : n' ≤ n - 1 + 20) (h3 : k < c) (h4 : n - 1 ≤ 20 * k) : pf_ok n' c f' := by
  obtain ⟨g1, g2, g3⟩ := g
  intro i hi
  rcases Nat.lt_or_ge i (n - 1) with q | q
  · rw [g2 i q]; exact h i (by omega)
  · exact ⟨k + 1, g3 i q hi, by omega, by omega⟩
def wt (c : Nat) (f : Nat → Int32) : Nat → Nat
  | 0 => 0
  | n + 1 => wt c f n + 21 ^ (c - (f n).toNatClampNeg)
theorem wt_same {c : Nat} {f f' : Nat → Int32} : ∀ n : Nat, (∀ i : Nat, i < n → f' i = f i) → wt c f' n = wt c f n
  | 0, _ => rfl
  | n + 1, h => by
    show wt c f' n + _ = wt c f n + _
    rw [wt_same n (fun i hi => h i (by omega)), h n (by omega)]
theorem wt_more {c k n : Nat} {f : Nat → Int32} (hk : k < 2 ^ 30) : ∀ j : Nat, (∀ i : Nat, n ≤ i → i < n + j → f i = nI (k + 1)) → wt c f (n + j) = wt c f n + j * 21 ^ (c - (k + 1))
  | 0, _ => by rw [Nat.zero_mul]; rfl
  | j + 1, h => by
    show wt c f (n + j) + 21 ^ (c - (f (n + j)).toNatClampNeg) = _
    rw [wt_more hk j (fun i h1 h2 => h i h1 (by omega)), h (n + j) (by omega) (by omega), nI_clamp (by omega), Nat.succ_mul]
    omega
theorem wt_falls {c n n' k : Nat} {f f' : Nat → Int32} (g : pf_ext (n - 1) n' f f' k) (hf : f (n - 1) = nI k) (h1 : 1 ≤ n) (h2 : n' ≤ n - 1 + 20) (h3 : k < c) (hc : c ≤ 1000) : wt c f' n' < wt c f n := by
  obtain ⟨g1, g2, g3⟩ := g
  obtain ⟨n, rfl⟩ : ∃ m, n = m + 1 := ⟨n - 1, by omega⟩
  rw [Nat.add_sub_cancel] at g1 g2 g3 hf h2
  obtain ⟨j, rfl⟩ : ∃ j, n' = n + j := ⟨n' - n, by omega⟩
  rw [wt_more (by omega) j (fun i h1 h2 => g3 i h1 h2), wt_same n g2]
  show _ < wt c f n + 21 ^ (c - (f n).toNatClampNeg)
  rw [hf, nI_clamp (by omega)]
  obtain ⟨d, hd⟩ : ∃ d, c - k = d + 1 := ⟨c - k - 1, by omega⟩
  rw [hd, show c - (k + 1) = d by omega, Nat.pow_succ]
  have hp : 0 < 21 ^ d := Nat.pow_pos (by decide)
  have hj : j * 21 ^ d ≤ 20 * 21 ^ d := Nat.mul_le_mul_right _ (by omega)
  omega
theorem pf_get {n c i : Nat} {f : Nat → Int32} (h : pf_ok n c f) (hi : i < n) (hb : i < 2 ^ 31) : ∃ a : Nat, f (nI i).toNatClampNeg = nI a ∧ a ≤ c ∧ i ≤ 20 * a ∧ f i = nI a := by
  obtain ⟨a, h1, h2, h3⟩ := h i hi
  exact ⟨a, by rw [nI_clamp hb]; exact h1, h2, h3, h1⟩
theorem gz_get {n i : Nat} {fF fB fD : Nat → Int32} (h : gz_ok n fF fB fD) (hi : i < n) (hb : n < 2 ^ 30) : ∃ d : Nat, d ≤ i ∧ fD (nI i).toNatClampNeg = nI d ∧ fD i = nI d := by
  obtain ⟨d, h1, h2, -⟩ := h i hi
  exact ⟨d, h1, by rw [nI_clamp (by omega)]; exact h2, h2⟩
theorem gz_up {n i j : Nat} {fF fB fD : Nat → Int32} (h : gz_ok n fF fB fD) (hi : i < n) (hb : n < 2 ^ 30) (hd : fD i = nI (j + 1)) (hj : j < 2 ^ 30) : ∃ p e : Nat, p < n ∧ e ≤ 13 ∧ fF (nI i).toNatClampNeg = nI p ∧ fB (nI i).toNatClampNeg = nI e ∧ fD p = nI j := by
  obtain ⟨d, h1, h2, h3⟩ := h i hi
  have hdj : d = j + 1 := (nI_eq (by omega) (by omega)).mp (h2.symm.trans hd)
  rcases h3 with h3 | ⟨p, e, d', g1, g2, g3, g4, g5, g6⟩
  · omega
  · rw [nI_clamp (by omega)]
    exact ⟨p, e, by omega, g2, g3, g4, by rw [g5, show d' = j by omega]⟩
theorem pu_decm (n : Nat) : nI n + (-1) = nI n - 1 := by
  rw [Int32.sub_eq_add_neg]
theorem how_p {x t i : Nat} (_hx : x ≤ 1) (ht : t ≤ 7) (hi : i ≤ 2) : ¬ (80 * x + (56 + 3 * t) + i) % 80 < 56 := by
  have e : 80 * x + (56 + 3 * t) + i = (56 + 3 * t + i) + 80 * x := by omega
  rw [e, Nat.add_mul_mod_self_left, Nat.mod_eq_of_lt (by omega)]
  omega
