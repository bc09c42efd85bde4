theorem by_ne (y : Int32) : (y &&& (255 : Int32)) ≠ -1 := by
  intro h
  have h2 := congrArg (fun z : Int32 => z.toBitVec.getLsbD 31) h
  simp only [Int32.toBitVec_and, BitVec.getLsbD_and] at h2
  have e1 : (255 : Int32).toBitVec.getLsbD 31 = false := by decide
  have e2 : (-1 : Int32).toBitVec.getLsbD 31 = true := by decide
  rw [e1, e2, Bool.and_false] at h2
  exact absurd h2 (by decide)
theorem up_ne {f : Nat → Int32} (hf : ∀ i, f i ≠ -1) (k : Nat) (y : Int32) : ∀ i, upd f k (y &&& (255 : Int32)) i ≠ -1 := fun i => by
  by_cases e : i = k
  · subst e; rw [upd_s]; exact by_ne y
  · rw [upd_n e]; exact hf i
theorem put_ne {f : Nat → Int32} (hf : ∀ i, f i ≠ -1) (tp : Nat) (p : Int32) : ∀ i, sp_E_8_putBytes tp f p i ≠ -1 := up_ne (up_ne (up_ne (up_ne hf _ _) _ _) _ _) _ _
theorem put_four (tp : Nat) (f : Nat → Int32) (p : Int32) : sp_EM_four tp f p = sp_E_8_putBytes tp f p := rfl
theorem feed_ne {f : Nat → Int32} (hf : ∀ i, f i ≠ -1) (tp : Nat) (p0 p1 p2 p3 p4 : Int32) : ∀ i, (sp_E_8_feed tp f p0 p1 p2 p3 p4).1 i ≠ -1 := by
  unfold sp_E_8_feed slet
  by_cases h : tp + 20 ≤ 900
  · rw [if_pos h]; exact put_ne (put_ne (put_ne (put_ne (put_ne hf _ _) _ _) _ _) _ _) _ _
  · rw [if_neg h]; exact hf
/-- both tapes take the same bytes -/
theorem feed_same (tp : Nat) (f : Nat → Int32) (p0 p1 p2 p3 p4 : Int32) : (sp_EM_feed tp f p0 p1 p2 p3 p4).1 = (sp_E_8_feed tp f p0 p1 p2 p3 p4).1 := by
  unfold sp_EM_feed sp_E_8_feed slet
  by_cases h : tp + 20 ≤ 900
  · rw [if_pos h, if_pos h]; rfl
  · rw [if_neg h, if_neg h]
