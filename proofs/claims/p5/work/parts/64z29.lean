theorem reads_c (vl : Int32) (f fw fcn fpn f4 : Nat → Int32) (q5 q6 : Nat → Nat) (f7 : Nat → Int32) (q8 q9 : Nat → Nat) (f10 f11 f12 f13 f14 f15 f16 : Nat → Int32) (len : Nat) : sp_E_4_reads_c vl f fw fcn fpn f4 q5 q6 f7 q8 q9 f10 f11 f12 f13 f14 f15 f16 len = sp_E_4_reads vl f fw fcn fpn f4 q5 q6 f7 q8 q9 f10 f11 f12 f13 f14 f15 f16 len := rfl
theorem fault_same (a b p : Int32) : (sp_EM_fault a b p).1 = sp_E_8_fault a b p := by
  unfold sp_EM_fault sp_E_8_fault
  by_cases h : p = 0
  · rw [if_pos h]; simp [h]
  · rw [if_neg h]
    by_cases g : p = 1
    · rw [if_pos g]; simp [g]
    · rw [if_neg g]; simp [h, g]
