abbrev vwCl : List vw_C := [(RX0, TX0, 17), (RX1, TX1, 18), (RX2, TX2, 3), (RX3, TX3, 5), (RX4, TX4, 12), (RX5, TX5, 8), (RX6, TX6, 10), (RX7, TX7, 2), (RX8, TX8, 16), (RX9, TX9, 67)]
theorem fa_lt (a b : Int32) : a < b ↔ a.toInt < b.toInt := Int32.lt_iff_toInt_lt
theorem fa_le (a b : Int32) : a ≤ b ↔ a.toInt ≤ b.toInt := Int32.le_iff_toInt_le
theorem fa_eq (a b : Int32) : a = b ↔ a.toInt = b.toInt := ⟨fun h => by rw [h], fun h => Int32.toInt_inj.mp h⟩
/-- how a method begins: its world in the heap -/
def pu_B (D : va_G) (ws : va_W) (tys : List (ClassId × FieldType)) (sz : Nat) : State → Prop := fun U => U.heap.size = sz ∧ va_P D vwCl ws U.heap ∧ va_K D vwCl tys U ∧ va_D (fun _ => True) ws
/-- how it ends -/
def pu_E (D : va_G) (ws : va_W) (tys : List (ClassId × FieldType)) (A : Nat → Prop) (t : State) : Prop := va_P D vwCl ws t.heap ∧ va_K D vwCl tys t ∧ va_D A ws
theorem pu_bl {D : va_G} {ws : va_W} {tys : List (ClassId × FieldType)} {sz : Nat} {av : List Value} : FrameBlind (va_Pc av (pu_B D ws tys sz)) := by
  intro a U g mk q
  obtain ⟨q0, q1, qP, qK, qD⟩ := q
  exact ⟨q0, q1, qP, va_K.moved (u := U) (U := U.calling g mk a) (Vm.Alike.refl U.vm) qK, qD⟩
theorem pu_in {D : va_G} {ws : va_W} {tys : List (ClassId × FieldType)} {s : State} {H : Heap} {A : Nat → Prop} {av : List Value} (hP : va_P D vwCl ws H) (hK : va_K D vwCl tys s) (hD : va_D A ws) : ∀ U : State, U.heap = H → s.WarmedH U.vm → va_Pc av (pu_B D ws tys H.size) av.toArray U := fun U hU hW => ⟨rfl, by rw [hU], by rw [hU]; exact hP, va_K.moved hW.alike hK, hD.weaken (fun _ _ _ _ => trivial)⟩
theorem pu_keep {D : va_G} {ws : va_W} {H H1 : Heap} (hP : va_P D vwCl ws H) (hk : ∀ q : Nat, q < H.size → ¬ va_A [] H.size q → H1[q]? = H[q]?) : va_P D vwCl ws H1 := hP.kept (fun k q hq => hk q.1 (hP k q hq).lt (fun h => by
  rcases h with ⟨k, e, h⟩ | h
  · simp at h
  · exact absurd (hP k q hq).lt (by omega)))
theorem pu_fr {A : Nat → Prop} {H0 H : Heap} {locs : List Loc} (hS : va_S A H0 H locs) (hA : ∀ q, H0.size ≤ q → A q) : ∀ q, va_A [] H.size q → A q := fun q h => by
  rcases h with ⟨k, e, h⟩ | h
  · simp at h
  · exact hA q (Nat.le_trans hS.1 h)
theorem pu_P0 {D : va_G} {H : Heap} : va_P D vwCl [] H := fun k q h => by simp at h
theorem pu_D0 {A : Nat → Prop} : va_D A [] := ⟨fun i j p q h => by simp at h, fun k q h => by simp at h⟩
theorem pu_fs {N : Nat} {ty : Nat → FieldType} {fs : List Value} (h : (List.range N).all (fun j => decide (defaultValue (ty j) = vp_V fs j)) = true) : ∀ j, j < N → defaultValue (ty j) = vp_V fs j := fun j hj => of_decide_eq_true (List.all_eq_true.mp h j (List.mem_range.mpr hj))
theorem pu_z0 {p : Int32} (h : ¬ p < 0) (g : ¬ 0 < p) : p = 0 := by
  rw [fa_eq]; rw [fa_lt] at h g
  have y : (0 : Int32).toInt = 0 := by decide
  omega
/-- a counted loop: an invariant at its head, cells and slots by the turns done -/
theorem pu_loop {p : Program} {l : Launch} {e : Env} {R : Room} {s : State} {m : MethodId} {args : Array Value} {below : List Frame} {meth : Method} {c : Code} {Q : State → Prop} (N : Nat) (I : Nat → Heap → List Loc → Array Slot → Prop) (cells slots : Nat → Nat) (pc : Nat) (st : List Value)
    (hexit : ∀ (H : Heap) (locs : List Loc) (ls : Array Slot), I N H locs ls → W p l e R s m args below meth c H locs (cells N) (slots N) Q (F0 m pc ls st))
    (hstep : ∀ i : Nat, i < N → (∀ (H : Heap) (locs : List Loc) (ls : Array Slot), I (i + 1) H locs ls → W p l e R s m args below meth c H locs (cells (i + 1)) (slots (i + 1)) Q (F0 m pc ls st)) → ∀ (H : Heap) (locs : List Loc) (ls : Array Slot), I i H locs ls → W p l e R s m args below meth c H locs (cells i) (slots i) Q (F0 m pc ls st))
    (H : Heap) (locs : List Loc) (ls : Array Slot) (h0 : I 0 H locs ls) : W p l e R s m args below meth c H locs (cells 0) (slots 0) Q (F0 m pc ls st) := by
  have key : ∀ n i : Nat, i + n = N → ∀ (H : Heap) (locs : List Loc) (ls : Array Slot), I i H locs ls → W p l e R s m args below meth c H locs (cells i) (slots i) Q (F0 m pc ls st) := by
    intro n
    induction n with
    | zero =>
      intro i hi H locs ls h
      have e : i = N := by omega
      subst e
      exact hexit H locs ls h
    | succ n ih => intro i hi H locs ls h; exact hstep i (by omega) (fun H locs ls h => ih (i + 1) (by omega) H locs ls h) H locs ls h
  exact key N 0 (by omega) H locs ls h0
theorem ix_lt {i j n N : Nat} (hi : i < n) (hj : j < n) (h : n * n ≤ N) : i * n + j < N := by
  have h1 : i * n + n ≤ n * n := by
    have := Nat.mul_le_mul_right n (show i + 1 ≤ n from hi)
    rw [Nat.add_mul, Nat.one_mul] at this
    exact this
  omega
theorem ix_lt0 {i n N : Nat} (hi : i < n) (h : n * n ≤ N) : i * n < N := by
  have := ix_lt hi (show 0 < n by omega) h
  omega
theorem ix_ltq {i n N : Nat} (hi : i < n * n) (h : n * n ≤ N) : i < N := Nat.lt_of_lt_of_le hi h
theorem zn_5 {n N : Nat} (h : n * n ≤ N) (hN : N ≤ 25) : n ≤ 5 := by
  rcases Nat.lt_or_ge n 6 with q | q
  · omega
  · have := Nat.mul_le_mul q q
    omega
theorem zn_q {n N : Nat} (h : n * n ≤ N) (hN : N ≤ 25) : n * n ≤ 25 := Nat.le_trans h hN
theorem zn_m {i n N : Nat} (hi : i < n) (h : n * n ≤ N) (hN : N ≤ 25) : i * n ≤ 25 := Nat.le_of_lt (Nat.lt_of_lt_of_le (ix_lt0 hi h) hN)
theorem ix_lt1 {i n N : Nat} (hi : i < n) (h : n * n ≤ N) : i < N := Nat.lt_of_lt_of_le hi (Nat.le_trans (Nat.le_mul_of_pos_left n (by omega)) h)
/-- how many conditions a host has, and of which clocks -/
def ao_c (nc : Nat) (f8 f9 : Nat → Int32) : Prop := ∀ h : Nat, h < 22 → ∃ q : Nat, q ≤ 4 ∧ f8 h = nI q ∧ ∀ k : Nat, k < q → ∃ c : Nat, c < nc ∧ f9 (h * 4 + k) = nI c
/-- the first ne numbers of a row are below np -/
def ao_e (np ne : Nat) (f : Nat → Int32) : Prop := ∀ i : Nat, i < ne → ∃ q : Nat, q < np ∧ f i = nI q
theorem up_all {f : Nat → Int32} {i : Nat} {v : Int32} (hi : i < 2 ^ 31) (h : ∀ j : Nat, j < i → f j = v) : ∀ j : Nat, j < i + 1 → upd f (nI i).toNatClampNeg v j = v := by
  intro j hj
  rw [nI_clamp hi]
  by_cases e : j = i
  · subst e; exact pk_us
  · rw [pk_un e]; exact h j (by omega)
