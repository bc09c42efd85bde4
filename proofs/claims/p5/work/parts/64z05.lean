/-- bit j of a number -/
def bt (B : Int32) (j : Nat) : Bool := B.toBitVec.getLsbD j
theorem bt_iff {B : Int32} {j : Nat} (hj : j < 3) : ((B >>> ((nI j : Int32) &&& 31)) &&& (1 : Int32)) = 1 ↔ bt B j = true := by
  have key : ∀ x : BitVec 32, (x &&& 1#32 = 1#32) ↔ x.getLsbD 0 = true := by
    intro x
    rw [BitVec.and_one_eq_setWidth_ofBool_getLsbD]
    cases x.getLsbD 0 <;> decide
  have e : ((B >>> ((nI j : Int32) &&& 31)) &&& (1 : Int32)) = 1 ↔ (B >>> ((nI j : Int32) &&& 31)).toBitVec &&& 1#32 = 1#32 := by
    rw [← Int32.toBitVec_inj]
    rfl
  rw [e, key]
  have h3 : j = 0 ∨ j = 1 ∨ j = 2 := by omega
  unfold bt
  rcases h3 with rfl | rfl | rfl
  · have : (B >>> ((nI 0 : Int32) &&& 31)).toBitVec = B.toBitVec.sshiftRight 0 := rfl
    rw [this, BitVec.getLsbD_sshiftRight]; simp
  · have : (B >>> ((nI 1 : Int32) &&& 31)).toBitVec = B.toBitVec.sshiftRight 1 := rfl
    rw [this, BitVec.getLsbD_sshiftRight]; simp
  · have : (B >>> ((nI 2 : Int32) &&& 31)).toBitVec = B.toBitVec.sshiftRight 2 := rfl
    rw [this, BitVec.getLsbD_sshiftRight]; simp
theorem bt_or {B : Int32} {n j : Nat} (hn : n < 3) (hj : j < 3) : bt (B ||| ((1 : Int32) <<< ((nI n : Int32) &&& 31))) j = (bt B j || decide (j = n)) := by
  have h3 : n = 0 ∨ n = 1 ∨ n = 2 := by omega
  have g3 : j = 0 ∨ j = 1 ∨ j = 2 := by omega
  unfold bt
  rw [Int32.toBitVec_or, BitVec.getLsbD_or]
  congr 1
  rcases h3 with rfl | rfl | rfl <;> rcases g3 with rfl | rfl | rfl <;> decide
/-- how many of the first three bits are set -/
def bc (B : Int32) : Nat := (if bt B 0 then 1 else 0) + (if bt B 1 then 1 else 0) + (if bt B 2 then 1 else 0)
theorem bc_0 : bc 0 = 0 := by decide
theorem bc_up {B : Int32} {n : Nat} (hn : n < 3) (h : bt B n = false) : bc (B ||| ((1 : Int32) <<< ((nI n : Int32) &&& 31))) = bc B + 1 := by
  unfold bc
  rw [bt_or hn (by decide), bt_or hn (by decide), bt_or hn (by decide)]
  have h3 : n = 0 ∨ n = 1 ∨ n = 2 := by omega
  rcases h3 with rfl | rfl | rfl
  · simp [h]; omega
  · simp [h]; omega
  · simp [h]
theorem bc_le {B : Int32} {n : Nat} (hn : n < 3) (h : bt B n = false) : bc B ≤ 2 := by
  unfold bc
  have h3 : n = 0 ∨ n = 1 ∨ n = 2 := by omega
  rcases h3 with rfl | rfl | rfl
  · simp [h]; split <;> split <;> omega
  · simp [h]; split <;> split <;> omega
  · simp [h]; split <;> split <;> omega
theorem bc_3 {B : Int32} : bc B ≤ 3 := by
  unfold bc; split <;> split <;> split <;> omega
