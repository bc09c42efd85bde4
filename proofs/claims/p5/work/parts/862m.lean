theorem b2_z : (fun _ => 0 : Nat → Int32) = b2 0 0 := by
  funext i
  unfold b2
  split
  · rfl
  · split <;> rfl
theorem bH_z : (fun _ => 0 : Nat → Int32) = bH (fun _ => 0) := by
  funext i
  unfold bH
  rw [Nat.zero_min]
  rfl
theorem bA_z {h : Nat} : (fun _ => 0 : Nat → Int32) = bA h (fun _ => 0) := by
  funext i
  unfold bA
  rw [if_pos (Nat.zero_le _)]
  rfl
theorem b2m_z : upd (upd (fun _ => 0) (0 : Int32).toNatClampNeg (-1)) (1 : Int32).toNatClampNeg (-1) = b2m 0 0 := by
  have h : (fun _ => 0 : Nat → Int32) = fun i => if i = 0 then 0 else if i = 1 then 0 else 0 := by
    funext i
    split
    · rfl
    · split <;> rfl
  funext i
  have e0 : (0 : Int32).toNatClampNeg = 0 := by decide
  have e1 : (1 : Int32).toNatClampNeg = 1 := by decide
  rw [e0, e1]
  unfold upd b2m mI
  by_cases h1 : i = 1
  · rw [if_pos h1, if_neg (by omega), if_pos h1, if_pos rfl]
  · rw [if_neg h1]
    by_cases h0 : i = 0
    · rw [if_pos h0, if_pos h0, if_pos rfl]
    · rw [if_neg h0, if_neg h0, if_neg h1]
