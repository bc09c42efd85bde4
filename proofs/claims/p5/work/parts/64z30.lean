/-- the row of words as Reader() leaves it -/
abbrev fwC : Nat → Int32 := upd (upd (upd (upd (upd (upd (upd (upd (fun _ => 0) (0 : Int32).toNatClampNeg 3554411) (1 : Int32).toNatClampNeg 17171557) (2 : Int32).toNatClampNeg 723752404) (3 : Int32).toNatClampNeg 22499628) (4 : Int32).toNatClampNeg 20579924) (5 : Int32).toNatClampNeg 168165) (6 : Int32).toNatClampNeg 762030) (7 : Int32).toNatClampNeg 19057844
theorem fwC_ok : ∀ i, i < 8 → fwC i = WW i := by decide
theorem z_ne : ∀ i : Nat, (fun _ : Nat => (0 : Int32)) i ≠ -1 := fun _ => (by decide : (0 : Int32) ≠ -1)
