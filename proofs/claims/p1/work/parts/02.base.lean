abbrev vwCl : List vw_C := [(RX0, TX0, 17), (RX1, TX1, 18), (RX2, TX2, 3), (RX3, TX3, 5), (RX4, TX4, 12), (RX5, TX5, 8), (RX6, TX6, 10), (RX7, TX7, 2), (RX8, TX8, 16), (RX9, TX9, 67)]
theorem fa_lt (a b : Int32) : a < b ↔ a.toInt < b.toInt := Int32.lt_iff_toInt_lt
theorem fa_le (a b : Int32) : a ≤ b ↔ a.toInt ≤ b.toInt := Int32.le_iff_toInt_le
theorem fa_eq (a b : Int32) : a = b ↔ a.toInt = b.toInt := ⟨fun h => by rw [h], fun h => Int32.toInt_inj.mp h⟩
/-- how a method begins: its world in the heap -/
def pu_B (D : va_G) (ws : va_W) (tys : List (ClassId × FieldType)) (sz : Nat) : State → Prop := fun U => U.heap.size = sz ∧ va_P D vwCl ws U.heap ∧ va_K D vwCl tys U ∧ va_D (fun _ => True) ws
/-- how it ends -/
def pu_E (D : va_G) (ws : va_W) (tys : List (ClassId × FieldType)) (A : Nat → Prop) (t : State) : Prop := va_P D vwCl ws t.heap ∧ va_K D vwCl tys t ∧ va_D A ws
theorem pu_bl {D : va_G} {ws : va_W} {tys : List (ClassId × FieldType)} {sz : Nat} {av : List Value} : FrameBlind (va_Pc av (pu_B D ws tys sz)) := by
  intro a U g mk q
  obtain ⟨q0, q1, qP, qK, qD⟩ := q
  exact ⟨q0, q1, qP, va_K.moved (u := U) (U := U.calling g mk a) (Vm.Alike.refl U.vm) qK, qD⟩
theorem pu_in {D : va_G} {ws : va_W} {tys : List (ClassId × FieldType)} {s : State} {H : Heap} {A : Nat → Prop} {av : List Value} (hP : va_P D vwCl ws H) (hK : va_K D vwCl tys s) (hD : va_D A ws) : ∀ U : State, U.heap = H → s.WarmedH U.vm → va_Pc av (pu_B D ws tys H.size) av.toArray U := fun U hU hW => ⟨rfl, by rw [hU], by rw [hU]; exact hP, va_K.moved hW.alike hK, hD.weaken (fun _ _ _ _ => trivial)⟩
theorem pu_keep {D : va_G} {ws : va_W} {H H1 : Heap} (hP : va_P D vwCl ws H) (hk : ∀ q : Nat, q < H.size → ¬ va_A [] H.size q → H1[q]? = H[q]?) : va_P D vwCl ws H1 := hP.kept (fun k q hq => hk q.1 (hP k q hq).lt (fun h => by
  rcases h with ⟨k, e, h⟩ | h
  · simp at h
  · exact absurd (hP k q hq).lt (by omega)))
theorem pu_fr {A : Nat → Prop} {H0 H : Heap} {locs : List Loc} (hS : va_S A H0 H locs) (hA : ∀ q, H0.size ≤ q → A q) : ∀ q, va_A [] H.size q → A q := fun q h => by
  rcases h with ⟨k, e, h⟩ | h
  · simp at h
  · exact hA q (Nat.le_trans hS.1 h)
theorem pu_P0 {D : va_G} {H : Heap} : va_P D vwCl [] H := fun k q h => by simp at h
theorem pu_D0 {A : Nat → Prop} : va_D A [] := ⟨fun i j p q h => by simp at h, fun k q h => by simp at h⟩
theorem pu_fs {N : Nat} {ty : Nat → FieldType} {fs : List Value} (h : (List.range N).all (fun j => decide (defaultValue (ty j) = vp_V fs j)) = true) : ∀ j, j < N → defaultValue (ty j) = vp_V fs j := fun j hj => of_decide_eq_true (List.all_eq_true.mp h j (List.mem_range.mpr hj))
theorem pu_z0 {p : Int32} (h : ¬ p < 0) (g : ¬ 0 < p) : p = 0 := by
  rw [fa_eq]; rw [fa_lt] at h g
  have y : (0 : Int32).toInt = 0 := by decide
  omega
abbrev wX (a : Nat → Nat) (k : Nat → ClassId) : va_W := [((a 0), .inr (8, [.ref (a 6), .int 0, .ref (a 4), .ref (a 1), .ref (a 5), .ref (a 2), .ref (a 10), .int 0, .ref (a 11), .ref (a 12), .int 0, .ref (a 13), .ref (a 14), .ref (a 3), .ref (a 15), .ref (a 16)])), ((a 1), .inr (0, [.int 0, .int 0, .int 0, .int (-1), .ref (a 20), .ref (a 21), .ref (a 22), .ref (a 23), .ref (a 7), .ref (a 24), .ref (a 25), .ref (a 26), .ref (a 27), .ref (a 28), .ref (a 29), .ref (a 30), .ref (a 31)])), ((a 2), .inr (2, [.int 0, .ref (a 60), .ref (a 61)])), ((a 3), .inr (3, [.int 0, .int 0, .int 0, .ref (a 62), .ref (a 63)])), ((a 4), .inr (4, [.int 0, .int (-1), .null, .int 0, .int 0, .int 0, .int 0, .int 0, .null, .ref (a 64), .ref (a 65), .ref (a 66)])), ((a 5), .inr (0, [.int 0, .int 0, .int 0, .int (-1), .ref (a 8), .ref (a 41), .ref (a 42), .ref (a 43), .ref (a 9), .ref (a 44), .ref (a 45), .ref (a 46), .ref (a 47), .ref (a 48), .ref (a 49), .ref (a 50), .ref (a 51)])), ((a 6), .inl ((k 0), 900, .inl (fun _ => 0))), ((a 7), .inl ((k 1), 22, .inl (fun _ => 0))), ((a 8), .inl ((k 2), 8, .inl (fun _ => 0))), ((a 9), .inl ((k 3), 22, .inl (fun _ => 0)))]
abbrev tX (k : Nat → ClassId) : List (ClassId × FieldType) := [(k 0, .int), (k 1, .int), (k 2, .boolean), (k 3, .int)]
abbrev begF : Nat → Int32 := upd (upd (fun _ => 0) (0 : Int32).toNatClampNeg (-1)) (1 : Int32).toNatClampNeg (-1)
abbrev wM (b : Nat → Nat) (j : Nat → ClassId) : va_W := [((b 0), .inr (9, [.int 0, .ref (b 10), .ref (b 11), .ref (b 12), .ref (b 13), .ref (b 14), .ref (b 15), .ref (b 16), .ref (b 17), .ref (b 18), .ref (b 19), .ref (b 20), .ref (b 1), .ref (b 2), .ref (b 3), .ref (b 4), .int 0, .ref (b 5), .int 0, .int 0, .int 0, .int 0, .int 0, .int 0, .int 0, .int (-1), .int 0, .int 0, .int 0, .int 0, .int 0, .ref (b 21), .ref (b 22), .int 0, .ref (b 23), .ref (b 24), .ref (b 25), .ref (b 26), .ref (b 27), .ref (b 28), .ref (b 29), .ref (b 30), .ref (b 31), .ref (b 32), .ref (b 33), .int 0, .int 0, .ref (b 34), .ref (b 35), .ref (b 36), .ref (b 37), .ref (b 38), .int 0, .int 0, .ref (b 39), .ref (b 40), .ref (b 41), .ref (b 42), .ref (b 43), .ref (b 44), .ref (b 45), .int 0, .int 0, .int 0, .ref (b 46), .int 0, .int 0])), ((b 1), .inl ((j 1), 2, .inl (fun _ => 0))), ((b 2), .inl ((j 2), 2, .inl (fun _ => 0))), ((b 3), .inl ((j 3), 2, .inl (fun _ => 0))), ((b 4), .inl ((j 4), 2, .inl begF)), ((b 5), .inl ((j 5), 900, .inl (fun _ => 0)))]
abbrev tM (j : Nat → ClassId) : List (ClassId × FieldType) := [(j 1, .int), (j 2, .int), (j 3, .int), (j 4, .int), (j 5, .int)]
def abF (p : Int32) : Int32 := if p = 0 then 0 else if p = 1 then 0 else if p = 2 then 0 else if p = 4 then 0 else if p = 8 then 0 else if p = 9 then 0 else -1
def flF (p : Int32) : Int32 := if p = 0 then 0 else -1
theorem flF_0 {p : Int32} (h : p = 0) : flF p = 0 := if_pos h
theorem flF_n {p : Int32} (h : ¬ p = 0) : flF p = -1 := if_neg h
theorem flF_lt {p : Int32} (h : p < 0) : (-1 : Int32) = flF p := (flF_n (fun e => by subst e; exact absurd h (by decide))).symm
theorem flF_gt {p : Int32} (h : 0 < p) : (-1 : Int32) = flF p := (flF_n (fun e => by subst e; exact absurd h (by decide))).symm
theorem flF_eq {p : Int32} (h : ¬ p < 0) (g : ¬ 0 < p) : p = flF p := by
  have e : p = 0 := by
    rw [fa_eq]; rw [fa_lt] at h g
    have y : (0 : Int32).toInt = 0 := by decide
    omega
  rw [flF_0 e]; exact e
theorem flF_le {p : Int32} (h : ¬ p < 0) (g : p ≤ 0) : p = flF p := flF_eq h (fun z => by
  rw [fa_lt] at z; rw [fa_le] at g
  omega)
theorem flF_nle {p : Int32} (h : ¬ p ≤ 0) : (-1 : Int32) = flF p := flF_gt (by
  rw [fa_lt]; rw [fa_le] at h
  omega)
