theorem mn_21 {a b : Int32} (h : b ≤ 21) : (if a < b then a else b) ≤ 21 := by
  split
  · rename_i q
    rw [fa_le] at h ⊢
    rw [fa_lt] at q
    omega
  · exact h
theorem mx_0 {a b : Int32} (h : 0 ≤ b) : 0 ≤ (if b < a then a else b) := by
  split
  · rename_i q
    rw [fa_le] at h ⊢
    rw [fa_lt] at q
    omega
  · exact h
theorem mx_lt {m : Int32} {k : Nat} (h : m ≤ 21) (hk : 22 ≤ k) (hk2 : k < 2 ^ 31) : m < nI k := by
  rw [fa_le] at h
  rw [fa_lt, nI_toInt hk2]
  have y : (21 : Int32).toInt = 21 := by decide
  omega
theorem le_0 {x : Int32} (h : 0 ≤ x) : ¬ x < 0 := by
  rw [fa_le] at h
  rw [fa_lt]
  omega
/-- what an act keeps: the slot of a condition, or a place below 0 -/
def hi_1 (x : Int32) : Prop := (∃ q : Nat, q < 88 ∧ x = nI q) ∨ (∃ q : Nat, q < 8 ∧ x = -1 - nI q)
def hi_ok (n : Nat) (f : Nat → Int32) : Prop := ∀ j : Nat, j < n → hi_1 (f j)
theorem hi_up {n k : Nat} {f : Nat → Int32} {v : Int32} (h : hi_ok n f) (hv : hi_1 v) : hi_ok n (upd f k v) := by
  intro j hj
  by_cases e : j = k
  · subst e; rw [pk_us]; exact hv
  · rw [pk_un e]; exact h j hj
theorem hi_cl {n i : Nat} {f : Nat → Int32} (h : hi_ok n f) (hi : i < n) (hn : n ≤ 100) : hi_1 (f (nI i).toNatClampNeg) := by
  rw [nI_clamp (by omega)]
  exact h i hi
theorem hi_new {n : Nat} {f : Nat → Int32} {v : Int32} (h : hi_ok n f) (hv : hi_1 v) (hn : n ≤ 100) : hi_ok (n + 1) (upd f (nI n).toNatClampNeg v) := by
  intro j hj
  rw [nI_clamp (by omega)]
  by_cases e : j = n
  · subst e; rw [pk_us]; exact hv
  · rw [pk_un e]; exact h j (by omega)
theorem hi_neg : ∀ q : Nat, q < 8 → ¬ (0 : Int32) ≤ -1 - nI q := by decide +kernel
theorem hi_sub : ∀ q : Nat, q < 8 → (-1 : Int32) - (-1 - nI q) = nI q := by decide +kernel
