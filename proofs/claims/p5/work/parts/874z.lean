abbrev cI (a : Nat) (k : ClassId) (n : Nat) (f : Nat → Int32) : Nat × va_E := (a, .inl (k, n, .inl f))
abbrev cQ (a : Nat) (k : ClassId) (n : Nat) (f : Nat → Option Nat) : Nat × va_E := (a, .inl (k, n, .inr (.inr (.inr (.inr f)))))
abbrev cO (a ci : Nat) (fs : List Value) : Nat × va_E := (a, .inr (ci, fs))
abbrev z0f : Nat → Int32 := fun _ => 0
abbrev n0f : Nat → Option Nat := fun _ => none
abbrev kT3 (kI kB kQ : ClassId) : List (ClassId × FieldType) := k3 kI kB kQ
