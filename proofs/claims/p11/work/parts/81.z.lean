theorem ws_P {D : va_G} {a b c : va_W} {H : Heap} (h : va_P D vwCl ((a ++ b) ++ c) H) : va_P D vwCl (a ++ (b ++ c)) H := by
  rw [List.append_assoc] at h
  exact h
theorem ws_D {A : Nat → Prop} {a b c : va_W} (h : va_D A ((a ++ b) ++ c)) : va_D A (a ++ (b ++ c)) := by
  rw [List.append_assoc] at h
  exact h
theorem ws_K {D : va_G} {a b c : List (ClassId × FieldType)} {U : State} (h : va_K D vwCl ((a ++ b) ++ c) U) : va_K D vwCl (a ++ (b ++ c)) U := by
  rw [List.append_assoc] at h
  exact h
theorem ws_Pn {D : va_G} {a b c : va_W} {H : Heap} (h : va_P D vwCl ((a ++ b) ++ c) H) : va_P D vwCl (a ++ (c ++ b)) H := ws_P (va_P.swap h)
theorem ws_Dn {A : Nat → Prop} {a b c : va_W} (h : va_D A ((a ++ b) ++ c)) : va_D A (a ++ (c ++ b)) := ws_D (va_D.swap h)
theorem ws_Kn {D : va_G} {a b c : List (ClassId × FieldType)} {U : State} (h : va_K D vwCl ((a ++ b) ++ c) U) : va_K D vwCl (a ++ (c ++ b)) U := ws_K (wk_swap h)
