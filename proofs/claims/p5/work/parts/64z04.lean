theorem updN_s {q : Nat → Nat} {k v : Nat} : updN q k v k = v := by unfold updN; rw [if_pos rfl]
theorem updN_n {q : Nat → Nat} {k v j : Nat} (h : j ≠ k) : updN q k v j = q j := by unfold updN; rw [if_neg h]
theorem upd_s {f : Nat → Int32} {k : Nat} {v : Int32} : upd f k v k = v := by unfold upd; rw [if_pos rfl]
theorem upd_n {f : Nat → Int32} {k j : Nat} {v : Int32} (h : j ≠ k) : upd f k v j = f j := by unfold upd; rw [if_neg h]
/-- conditions: the class's from b on and the reference's from b' on are the same -/
def CI (b b' cnt : Nat) (q9 : Nat → Nat) (f10 f11 : Nat → Int32) (r9 r10 : Nat → Nat) (r11 : Nat → Int32) : Prop := ∀ j, j < cnt → q9 (b + j) = r9 (b' + j) ∧ q9 (b + j) ≤ 2 ∧ f10 (b + j) = nI (r10 (b' + j)) ∧ r10 (b' + j) ≤ 4 ∧ f11 (b + j) = r11 (b' + j)
/-- the same outside n places from b on -/
def UN {α : Type} (b n : Nat) (f g : Nat → α) : Prop := ∀ s, (s < b ∨ b + n ≤ s) → f s = g s
theorem UN.rf {α : Type} {b n : Nat} {f : Nat → α} : UN b n f f := fun _ _ => rfl
theorem UN.up {b n : Nat} {f g : Nat → Nat} (h : UN b n f g) {k v : Nat} (hk : b ≤ k ∧ k < b + n) : UN b n (updN f k v) g := fun s hs => by rw [updN_n (by omega)]; exact h s hs
theorem UN.up' {b n : Nat} {f g : Nat → Int32} (h : UN b n f g) {k : Nat} {v : Int32} (hk : b ≤ k ∧ k < b + n) : UN b n (upd f k v) g := fun s hs => by rw [upd_n (by omega)]; exact h s hs
theorem CI.z {b b' : Nat} {q9 : Nat → Nat} {f10 f11 : Nat → Int32} {r9 r10 : Nat → Nat} {r11 : Nat → Int32} : CI b b' 0 q9 f10 f11 r9 r10 r11 := fun j h => absurd h (Nat.not_lt_zero j)
theorem CI.step {b b' cnt : Nat} {q9 : Nat → Nat} {f10 f11 : Nat → Int32} {r9 r10 : Nat → Nat} {r11 : Nat → Int32} (h : CI b b' cnt q9 f10 f11 r9 r10 r11) {c hh : Nat} {v : Int32} (hc : c ≤ 2) (h4 : hh ≤ 4) : CI b b' (cnt + 1) (updN q9 (b + cnt) c) (upd f10 (b + cnt) (nI hh)) (upd f11 (b + cnt) v) (updN r9 (b' + cnt) c) (updN r10 (b' + cnt) hh) (upd r11 (b' + cnt) v) := by
  intro j hj
  by_cases e : j = cnt
  · subst e
    rw [updN_s, updN_s, upd_s, updN_s, upd_s, upd_s]
    exact ⟨rfl, hc, rfl, h4, rfl⟩
  · have e1 : b + j ≠ b + cnt := by omega
    have e2 : b' + j ≠ b' + cnt := by omega
    rw [updN_n e1, updN_n e2, upd_n e1, updN_n e2, upd_n e1, upd_n e2]
    exact h j (by omega)
