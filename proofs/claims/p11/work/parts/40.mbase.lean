/-- the reference whole: its object, its rows -/
abbrev mo_w (ad : Nat → Nat) (ck : Nat → ClassId) (i0 i16 i18 i19 i20 i21 i22 i23 i24 i25 i26 i27 i28 i29 i30 i33 i45 i46 i52 i53 i61 i62 i63 i65 i66 : Int32) (f1 f2 f3 f4 f5 f6 f7 f8 f9 f10 f11 f12 f13 f14 f15 f17 f31 f32 f34 f35 f36 f37 f38 f39 f40 f41 f42 f43 f44 f47 f48 f49 f50 f51 f54 f55 f56 f57 f58 f59 f60 f64 : Nat → Int32) : va_W := [(ad 0, .inr (9, [.int i0, .ref (ad 1), .ref (ad 2), .ref (ad 3), .ref (ad 4), .ref (ad 5), .ref (ad 6), .ref (ad 7), .ref (ad 8), .ref (ad 9), .ref (ad 10), .ref (ad 11), .ref (ad 12), .ref (ad 13), .ref (ad 14), .ref (ad 15), .int i16, .ref (ad 17), .int i18, .int i19, .int i20, .int i21, .int i22, .int i23, .int i24, .int i25, .int i26, .int i27, .int i28, .int i29, .int i30, .ref (ad 31), .ref (ad 32), .int i33, .ref (ad 34), .ref (ad 35), .ref (ad 36), .ref (ad 37), .ref (ad 38), .ref (ad 39), .ref (ad 40), .ref (ad 41), .ref (ad 42), .ref (ad 43), .ref (ad 44), .int i45, .int i46, .ref (ad 47), .ref (ad 48), .ref (ad 49), .ref (ad 50), .ref (ad 51), .int i52, .int i53, .ref (ad 54), .ref (ad 55), .ref (ad 56), .ref (ad 57), .ref (ad 58), .ref (ad 59), .ref (ad 60), .int i61, .int i62, .int i63, .ref (ad 64), .int i65, .int i66])), (ad 1, .inl (ck 1, 6, .inl f1)), (ad 2, .inl (ck 2, 16, .inl f2)), (ad 3, .inl (ck 3, 16, .inl f3)), (ad 4, .inl (ck 4, 16, .inl f4)), (ad 5, .inl (ck 5, 28, .inl f5)), (ad 6, .inl (ck 6, 28, .inl f6)), (ad 7, .inl (ck 7, 28, .inl f7)), (ad 8, .inl (ck 8, 28, .inl f8)), (ad 9, .inl (ck 9, 160, .inl f9)), (ad 10, .inl (ck 10, 160, .inl f10)), (ad 11, .inl (ck 11, 160, .inl f11)), (ad 12, .inl (ck 12, 2, .inl f12)), (ad 13, .inl (ck 13, 2, .inl f13)), (ad 14, .inl (ck 14, 2, .inl f14)), (ad 15, .inl (ck 15, 2, .inl f15)), (ad 17, .inl (ck 17, 900, .inl f17)), (ad 31, .inl (ck 31, 20, .inl f31)), (ad 32, .inl (ck 32, 20, .inl f32)), (ad 34, .inl (ck 34, 13000, .inl f34)), (ad 35, .inl (ck 35, 25, .inl f35)), (ad 36, .inl (ck 36, 25, .inl f36)), (ad 37, .inl (ck 37, 25, .inl f37)), (ad 38, .inl (ck 38, 520, .inl f38)), (ad 39, .inl (ck 39, 520, .inl f39)), (ad 40, .inl (ck 40, 520, .inl f40)), (ad 41, .inl (ck 41, 520, .inl f41)), (ad 42, .inl (ck 42, 2, .inl f42)), (ad 43, .inl (ck 43, 2, .inl f43)), (ad 44, .inl (ck 44, 2, .inl f44)), (ad 47, .inl (ck 47, 5, .inl f47)), (ad 48, .inl (ck 48, 5, .inl f48)), (ad 49, .inl (ck 49, 60000, .inl f49)), (ad 50, .inl (ck 50, 2400, .inl f50)), (ad 51, .inl (ck 51, 3000, .inl f51)), (ad 54, .inl (ck 54, 120, .inl f54)), (ad 55, .inl (ck 55, 2000, .inl f55)), (ad 56, .inl (ck 56, 2000, .inl f56)), (ad 57, .inl (ck 57, 2000, .inl f57)), (ad 58, .inl (ck 58, 3, .inl f58)), (ad 59, .inl (ck 59, 121, .inl f59)), (ad 60, .inl (ck 60, 14641, .inl f60)), (ad 64, .inl (ck 64, 3, .inl f64))]
abbrev mo_t (ck : Nat → ClassId) : List (ClassId × FieldType) := [(ck 1, .int), (ck 2, .int), (ck 3, .int), (ck 4, .int), (ck 5, .int), (ck 6, .int), (ck 7, .int), (ck 8, .int), (ck 9, .int), (ck 10, .int), (ck 11, .int), (ck 12, .int), (ck 13, .int), (ck 14, .int), (ck 15, .int), (ck 17, .int), (ck 31, .int), (ck 32, .int), (ck 34, .int), (ck 35, .int), (ck 36, .int), (ck 37, .int), (ck 38, .int), (ck 39, .int), (ck 40, .int), (ck 41, .int), (ck 42, .int), (ck 43, .int), (ck 44, .boolean), (ck 47, .int), (ck 48, .int), (ck 49, .int), (ck 50, .int), (ck 51, .int), (ck 54, .int), (ck 55, .int), (ck 56, .int), (ck 57, .int), (ck 58, .int), (ck 59, .int), (ck 60, .int), (ck 64, .int)]
/-- a row whose numbers are 0 .. h -/
def bN (h : Nat) (q : Nat → Nat) : Nat → Int32 := fun i => nI (min (q i) h)
theorem bN_get (h : Nat) (q : Nat → Nat) (i : Nat) : ∃ v : Nat, v ≤ h ∧ bN h q i = nI v := ⟨min (q i) h, Nat.min_le_right _ _, rfl⟩
theorem bN_up (h : Nat) (q : Nat → Nat) (k : Nat) {v : Nat} (hv : v ≤ h) : ∃ q' : Nat → Nat, upd (bN h q) k (nI v) = bN h q' ∧ bN h q' k = nI v := ⟨fun j => if j = k then v else q j, by
  funext j
  unfold upd bN
  by_cases e : j = k
  · rw [if_pos e]; show nI v = nI (min (if j = k then v else q j) h); rw [if_pos e, Nat.min_eq_left hv]
  · rw [if_neg e]; show nI (min (q j) h) = nI (min (if j = k then v else q j) h); rw [if_neg e], by
  show nI (min (if k = k then v else q k) h) = nI v
  rw [if_pos rfl, Nat.min_eq_left hv]⟩
/-- what an act was of: a condition, or 1000 and a place -/
def bA (h : Nat) (q : Nat → Nat) : Nat → Int32 := fun i => nI (if q i ≤ h then q i else 1000 + min (q i - h - 1) 7)
theorem bA_get (h : Nat) (q : Nat → Nat) (i : Nat) : ∃ v : Nat, (v ≤ h ∨ (1000 ≤ v ∧ v ≤ 1007)) ∧ bA h q i = nI v := by
  unfold bA
  by_cases e : q i ≤ h
  · exact ⟨q i, Or.inl e, by rw [if_pos e]⟩
  · exact ⟨1000 + min (q i - h - 1) 7, Or.inr ⟨by omega, by omega⟩, by rw [if_neg e]⟩
theorem bA_key (h v : Nat) (hv : v ≤ h ∨ (1000 ≤ v ∧ v ≤ 1007)) : ∃ w : Nat, (if w ≤ h then w else 1000 + min (w - h - 1) 7) = v := by
  by_cases e : v ≤ h
  · exact ⟨v, if_pos e⟩
  · refine ⟨h + 1 + (v - 1000), ?_⟩
    rw [if_neg (by omega)]
    omega
theorem bA_up (h : Nat) (q : Nat → Nat) (k : Nat) {v : Nat} (hv : v ≤ h ∨ (1000 ≤ v ∧ v ≤ 1007)) : ∃ q' : Nat → Nat, upd (bA h q) k (nI v) = bA h q' ∧ bA h q' k = nI v := by
  obtain ⟨w, hw⟩ := bA_key h v hv
  refine ⟨fun j => if j = k then w else q j, ?_, ?_⟩
  · funext j
    unfold upd bA
    by_cases e : j = k
    · rw [if_pos e]; show nI v = nI (if (if j = k then w else q j) ≤ h then (if j = k then w else q j) else 1000 + min ((if j = k then w else q j) - h - 1) 7); rw [if_pos e, hw]
    · rw [if_neg e]; show _ = nI (if (if j = k then w else q j) ≤ h then (if j = k then w else q j) else 1000 + min ((if j = k then w else q j) - h - 1) 7); rw [if_neg e]
  · show nI (if (if k = k then w else q k) ≤ h then (if k = k then w else q k) else 1000 + min ((if k = k then w else q k) - h - 1) 7) = nI v
    rw [if_pos rfl, hw]
/-- a row whose numbers are -1, 0 .. h -/
def bM (h : Nat) (q : Nat → Nat) : Nat → Int32 := fun i => if q i = 0 then -1 else nI (min (q i - 1) h)
theorem bM_get (h : Nat) (q : Nat → Nat) (i : Nat) : bM h q i = -1 ∨ ∃ v : Nat, v ≤ h ∧ bM h q i = nI v := by
  unfold bM
  by_cases e : q i = 0
  · exact Or.inl (if_pos e)
  · exact Or.inr ⟨_, Nat.min_le_right _ _, if_neg e⟩
theorem bM_up (h : Nat) (q : Nat → Nat) (k : Nat) {v : Nat} (hv : v ≤ h) : ∃ q' : Nat → Nat, upd (bM h q) k (nI v) = bM h q' := ⟨fun j => if j = k then v + 1 else q j, by
  funext j
  unfold upd bM
  by_cases e : j = k
  · rw [if_pos e]; show nI v = if (if j = k then v + 1 else q j) = 0 then -1 else nI (min ((if j = k then v + 1 else q j) - 1) h); rw [if_pos e, if_neg (by omega), Nat.add_sub_cancel, Nat.min_eq_left hv]
  · rw [if_neg e]; show _ = if (if j = k then v + 1 else q j) = 0 then -1 else nI (min ((if j = k then v + 1 else q j) - 1) h); rw [if_neg e]⟩
theorem bM_up0 (h : Nat) (q : Nat → Nat) (k : Nat) : ∃ q' : Nat → Nat, upd (bM h q) k (-1) = bM h q' := ⟨fun j => if j = k then 0 else q j, by
  funext j
  unfold upd bM
  by_cases e : j = k
  · rw [if_pos e]; show _ = if (if j = k then 0 else q j) = 0 then -1 else nI (min ((if j = k then 0 else q j) - 1) h); rw [if_pos e, if_pos rfl]
  · rw [if_neg e]; show _ = if (if j = k then 0 else q j) = 0 then -1 else nI (min ((if j = k then 0 else q j) - 1) h); rw [if_neg e]⟩
/-- a row of two known numbers -/
def b2 (a b : Nat) : Nat → Int32 := fun i => if i = 0 then nI a else if i = 1 then nI b else 0
theorem b2_0 {a b : Nat} : b2 a b (0 : Int32).toNatClampNeg = nI a := rfl
theorem b2_1 {a b : Nat} : b2 a b (1 : Int32).toNatClampNeg = nI b := rfl
theorem b2_up0 {a b : Nat} {v : Nat} : upd (b2 a b) (0 : Int32).toNatClampNeg (nI v) = b2 v b := by
  funext j
  show (if j = 0 then nI v else (if j = 0 then nI a else if j = 1 then nI b else 0)) = if j = 0 then nI v else if j = 1 then nI b else 0
  by_cases e : j = 0
  · rw [if_pos e, if_pos e]
  · rw [if_neg e, if_neg e, if_neg e]
theorem b2_up1 {a b : Nat} {v : Nat} : upd (b2 a b) (1 : Int32).toNatClampNeg (nI v) = b2 a v := by
  funext j
  show (if j = 1 then nI v else (if j = 0 then nI a else if j = 1 then nI b else 0)) = if j = 0 then nI a else if j = 1 then nI v else 0
  by_cases e : j = 1
  · subst e; rfl
  · rw [if_neg e, if_neg e, if_neg e]
theorem b2_get {a b i : Nat} (hi : i ≤ 1) : ∃ v : Nat, ((i = 0 ∧ v = a) ∨ (i = 1 ∧ v = b)) ∧ b2 a b (nI i).toNatClampNeg = nI v := by
  rw [nI_clamp (by omega)]
  rcases Nat.lt_or_ge i 1 with h | h
  · exact ⟨a, Or.inl ⟨by omega, rfl⟩, by rw [show i = 0 by omega]; rfl⟩
  · exact ⟨b, Or.inr ⟨by omega, rfl⟩, by rw [show i = 1 by omega]; rfl⟩
/-- -1 for 0, else one less -/
def mI (n : Nat) : Int32 := if n = 0 then -1 else nI (n - 1)
theorem mI_get (n : Nat) : (n = 0 ∧ mI n = -1) ∨ ∃ v : Nat, n = v + 1 ∧ mI n = nI v := by
  unfold mI
  by_cases e : n = 0
  · exact Or.inl ⟨e, if_pos e⟩
  · exact Or.inr ⟨n - 1, by omega, if_neg e⟩
theorem mI_up (v : Nat) : nI v = mI (v + 1) := by
  unfold mI
  rw [if_neg (by omega), Nat.add_sub_cancel]
def b2m (a b : Nat) : Nat → Int32 := fun i => if i = 0 then mI a else if i = 1 then mI b else 0
theorem b2m_0 {a b : Nat} : b2m a b (0 : Int32).toNatClampNeg = mI a := rfl
theorem b2m_1 {a b : Nat} : b2m a b (1 : Int32).toNatClampNeg = mI b := rfl
theorem b2m_get {a b i : Nat} (hi : i ≤ 1) : ∃ v : Nat, ((i = 0 ∧ v = a) ∨ (i = 1 ∧ v = b)) ∧ b2m a b (nI i).toNatClampNeg = mI v := by
  rw [nI_clamp (by omega)]
  rcases Nat.lt_or_ge i 1 with h | h
  · exact ⟨a, Or.inl ⟨by omega, rfl⟩, by rw [show i = 0 by omega]; rfl⟩
  · exact ⟨b, Or.inr ⟨by omega, rfl⟩, by rw [show i = 1 by omega]; rfl⟩
theorem b2m_s0 {a b n : Nat} : upd (b2m a b) (0 : Int32).toNatClampNeg (mI n) = b2m n b := by
  funext j
  show (if j = 0 then mI n else (if j = 0 then mI a else if j = 1 then mI b else 0)) = if j = 0 then mI n else if j = 1 then mI b else 0
  by_cases e : j = 0
  · rw [if_pos e, if_pos e]
  · rw [if_neg e, if_neg e, if_neg e]
theorem b2m_s1 {a b n : Nat} : upd (b2m a b) (1 : Int32).toNatClampNeg (mI n) = b2m a n := by
  funext j
  show (if j = 1 then mI n else (if j = 0 then mI a else if j = 1 then mI b else 0)) = if j = 0 then mI a else if j = 1 then mI n else 0
  by_cases e : j = 1
  · subst e; rfl
  · rw [if_neg e, if_neg e, if_neg e]
theorem b2m_n0 {a b : Nat} : upd (b2m a b) (0 : Int32).toNatClampNeg (-1) = b2m 0 b := b2m_s0 (n := 0)
theorem b2m_n1 {a b : Nat} : upd (b2m a b) (1 : Int32).toNatClampNeg (-1) = b2m a 0 := b2m_s1 (n := 0)
theorem b2m_up0 {a b v : Nat} : upd (b2m a b) (0 : Int32).toNatClampNeg (nI v) = b2m (v + 1) b := by rw [mI_up]; exact b2m_s0
theorem b2m_up1 {a b v : Nat} : upd (b2m a b) (1 : Int32).toNatClampNeg (nI v) = b2m a (v + 1) := by rw [mI_up]; exact b2m_s1
theorem pu_bn {r : Int32} (h : r = 0 ∨ r = 1) : ∃ v : Nat, v ≤ 1 ∧ r = nI v := by
  rcases h with rfl | rfl
  · exact ⟨0, by omega, rfl⟩
  · exact ⟨1, by omega, rfl⟩
/-- how far a text is read -/
def mu (b t : Nat) : Nat := 2 * (900 - b) + (1 - (1 - t))
theorem mu_lt {b t b' t' : Nat} (h : b < b') (hb : b' ≤ 900) : mu b' t' < mu b t := by unfold mu; omega
theorem mu_le {b t b' : Nat} (h : b ≤ b') : mu b' 0 ≤ mu b t := by unfold mu; omega
theorem mu_e {b t b' : Nat} (h : b ≤ b') (ht : t ≠ 0) : mu b' 0 < mu b t := by unfold mu; omega
theorem pu_nz {r : Int32} (h : r = 0 ∨ r = 1) : narrow .boolean (.int r) = .int r := by
  rcases h with rfl | rfl <;> rfl
theorem pu_nneg {n : Nat} {k : Int32} (h : n < 2 ^ 31) (hk : k < 0) : ¬ nI n = k := fun e => nI_pos h (by rw [e]; exact hk)
theorem pu_dec {n : Nat} (h : 1 ≤ n) : nI n + (-1) = nI (n - 1) := by
  obtain ⟨k, rfl⟩ : ∃ k, n = k + 1 := ⟨n - 1, by omega⟩
  rw [nI_succ, Int32.add_assoc]
  show nI k + (1 + -1 : Int32) = nI k
  rw [show (1 + -1 : Int32) = 0 from rfl, Int32.add_zero]
theorem pu_free {A : Nat → Prop} {ws : va_W} {H0 H : Heap} {locs : List Loc} (hD : va_D A ws) (hS : va_S A H0 H locs) (hA : ∀ q : Nat, H0.size ≤ q → A q) : ∀ q : Nat, va_A ws H.size q → A q := fun q h => by
  rcases h with ⟨k, e, h⟩ | h
  · exact hD.2 k (q, e) h
  · exact hA q (Nat.le_trans hS.1 h)
theorem pu_all {A0 A : Nat → Prop} {w1 : va_W} (hF : ∀ q : Nat, A0 q → A q) (h : va_D A0 w1) : va_D A w1 := h.weaken (fun _ q _ ha => hF q.1 ha)
/-- where roads meet -/
theorem pu_join {p : Program} {l : Launch} {e : Env} {R : Room} {s : State} {m : MethodId} {args : Array Value} {below : List Frame} {meth : Method} {c : Code} {Q : State → Prop} {H0 : Heap} {locs0 : List Loc} {cells slots : Nat} {g : JFrame} (I : Heap → List Loc → Array Slot → List Value → Prop) (pc : Nat)
    (hJ : ∀ (H : Heap) (locs : List Loc) (ls : Array Slot) (st : List Value), I H locs ls st → W p l e R s m args below meth c H locs cells slots Q (F0 m pc ls st))
    (hgo : (∀ (H : Heap) (locs : List Loc) (ls : Array Slot) (st : List Value), I H locs ls st → W p l e R s m args below meth c H locs cells slots Q (F0 m pc ls st)) → W p l e R s m args below meth c H0 locs0 cells slots Q g) : W p l e R s m args below meth c H0 locs0 cells slots Q g := hgo hJ
/-- a loop by a measure that falls -/
theorem pu_while {p : Program} {l : Launch} {e : Env} {R : Room} {s : State} {m : MethodId} {args : Array Value} {below : List Frame} {meth : Method} {c : Code} {Q : State → Prop} {cells slots : Nat} (I : Nat → Heap → List Loc → Array Slot → Prop) (pc : Nat)
    (hstep : ∀ n : Nat, (∀ k : Nat, k < n → ∀ (H : Heap) (locs : List Loc) (ls : Array Slot), I k H locs ls → W p l e R s m args below meth c H locs cells slots Q (F0 m pc ls [])) → ∀ (H : Heap) (locs : List Loc) (ls : Array Slot), I n H locs ls → W p l e R s m args below meth c H locs cells slots Q (F0 m pc ls []))
    (n : Nat) (H : Heap) (locs : List Loc) (ls : Array Slot) (h : I n H locs ls) : W p l e R s m args below meth c H locs cells slots Q (F0 m pc ls []) := by
  have key : ∀ b n : Nat, n < b → ∀ (H : Heap) (locs : List Loc) (ls : Array Slot), I n H locs ls → W p l e R s m args below meth c H locs cells slots Q (F0 m pc ls []) := by
    intro b
    induction b with
    | zero => intro n hn; omega
    | succ b ih => intro n hn H locs ls h; exact hstep n (fun k hk => ih k (by omega)) H locs ls h
  exact key (n + 1) n (Nat.lt_succ_self n) H locs ls h
theorem pu_in0 {v : Int32} {n : Nat} (hn : n < 2 ^ 31) (h1 : 0 ≤ v) (h2 : v ≤ nI n) : ∃ q : Nat, q ≤ n ∧ v = nI q := nI_of2 (nI_toInt hn) (le_0 h1) h2
theorem pu_m1 {n : Nat} (hn : n < 2 ^ 30) : (nI n - 1).toInt = (n : Int) - 1 := pk_sub_toInt (a := n) (b := 1) hn (by decide)
theorem pu_in1 {v : Int32} {n : Nat} (hn : n < 2 ^ 30) (h1 : 0 ≤ v) (h2 : v ≤ nI n - 1) : ∃ q : Nat, q < n ∧ v = nI q := by
  obtain ⟨j, hj, rfl⟩ := nI_of (le_0 h1)
  rw [fa_le, pu_m1 hn, nI_toInt hj] at h2
  exact ⟨j, by omega, rfl⟩
theorem pu_in2 {v n : Nat} (hv : v < 2 ^ 30) (hn : n < 2 ^ 30) (h2 : nI v ≤ nI n - 1) : v < n := by
  rw [fa_le, pu_m1 hn, nI_toInt (by omega)] at h2
  omega
theorem pu_inm {v : Int32} {n : Nat} (hn : n < 2 ^ 30) (h1 : -1 ≤ v) (h2 : v ≤ nI n - 1) : v = -1 ∨ ∃ q : Nat, q < n ∧ v = nI q := by
  by_cases h : 0 ≤ v
  · exact Or.inr (pu_in1 hn h h2)
  · refine Or.inl ?_
    rw [fa_le] at h h1
    rw [fa_eq]
    have y0 : (0 : Int32).toInt = 0 := by decide
    have y1 : (-1 : Int32).toInt = -1 := by decide
    omega
theorem pu_b1 {n : Nat} (h : n ≤ 1) : nI n = 0 ∨ nI n = 1 := by
  rcases Nat.lt_or_ge n 1 with q | q
  · exact Or.inl (by rw [show n = 0 by omega]; rfl)
  · exact Or.inr (by rw [show n = 1 by omega]; rfl)
/-- a letter, a digit, another byte -/
def cl (x : Int32) : Nat := if 97 ≤ x ∧ x ≤ 122 then 1 else if 48 ≤ x ∧ x ≤ 57 then 2 else 0
theorem cl_1 {x : Int32} (h : ¬ x < 97) (g : ¬ 122 < x) : cl x = 1 := if_pos ⟨Int32.not_lt.mp h, Int32.not_lt.mp g⟩
theorem cl_2 {x : Int32} (h : ¬ x < 48) (g : ¬ 57 < x) : cl x = 2 := by
  unfold cl
  rw [if_neg, if_pos ⟨Int32.not_lt.mp h, Int32.not_lt.mp g⟩]
  rintro ⟨q, -⟩
  rw [fa_lt] at g
  rw [fa_le] at q
  have y1 : (97 : Int32).toInt = 97 := by decide
  have y2 : (57 : Int32).toInt = 57 := by decide
  omega
theorem cl_n1 {x : Int32} (h : x < 97 ∨ 122 < x) : cl x ≠ 1 := by
  unfold cl
  rw [if_neg]
  · split <;> decide
  · rintro ⟨p, q⟩
    rcases h with h | h
    · exact absurd h (Int32.not_lt.mpr p)
    · exact absurd h (Int32.not_lt.mpr q)
theorem cl_n2 {x : Int32} (h : x < 48 ∨ 57 < x) : cl x ≠ 2 := by
  unfold cl
  split
  · decide
  · rw [if_neg]
    · decide
    · rintro ⟨p, q⟩
      rcases h with h | h
      · exact absurd h (Int32.not_lt.mpr p)
      · exact absurd h (Int32.not_lt.mpr q)
theorem pu_01 {n : Nat} (h : n ≤ 1) : n = 0 ∨ n = 1 := by omega
theorem pu_p100 {p : Int32} {n : Nat} (h : nI n = p - 100) : p = nI (100 + n) := by
  have e : p = (p - 100) + 100 := (Int32.sub_add_cancel p 100).symm
  rw [e, ← h, Nat.add_comm]
  exact nI_add n 100
theorem pu_neglt {n : Nat} {k : Int32} (h : n < 2 ^ 31) (hk : k < 0) : k < nI n := by
  rw [fa_lt] at hk ⊢
  rw [nI_toInt h]
  have y0 : (0 : Int32).toInt = 0 := by decide
  omega
theorem pu_negle {n : Nat} {k : Int32} (h : n < 2 ^ 31) (hk : k < 0) : k ≤ nI n := by
  rw [fa_lt] at hk
  rw [fa_le, nI_toInt h]
  have y0 : (0 : Int32).toInt = 0 := by decide
  omega
theorem pu_negnl {n : Nat} {k : Int32} (h : n < 2 ^ 31) (hk : k < 0) : ¬ nI n < k := Int32.not_lt.mpr (pu_negle h hk)
theorem pu_negnn {n : Nat} {k : Int32} (h : n < 2 ^ 31) (hk : k < 0) : ¬ nI n ≤ k := Int32.not_le.mpr (pu_neglt h hk)
/-- how a condition holds: of a place only below, or at most -/
def bH (q : Nat → Nat) : Nat → Int32 := fun i => nI (min (q i) (if i % 80 < 56 then 4 else 1))
theorem bH_get (q : Nat → Nat) {i : Nat} (hi : i < 2 ^ 31) : ∃ v : Nat, (v ≤ 4 ∧ (i % 80 < 56 ∨ v ≤ 1)) ∧ bH q (nI i).toNatClampNeg = nI v := by
  rw [nI_clamp hi]
  refine ⟨_, ⟨?_, ?_⟩, rfl⟩
  · split <;> omega
  · by_cases e : i % 80 < 56
    · exact Or.inl e
    · rw [if_neg e]; exact Or.inr (Nat.min_le_right _ _)
theorem bH_up (q : Nat → Nat) {i v : Nat} (hi : i < 2 ^ 31) (hv : v ≤ 4 ∧ (i % 80 < 56 ∨ v ≤ 1)) : ∃ q' : Nat → Nat, upd (bH q) (nI i).toNatClampNeg (nI v) = bH q' ∧ bH q' (nI i).toNatClampNeg = nI v := by
  rw [nI_clamp hi]
  have hm : min v (if i % 80 < 56 then 4 else 1) = v := by
    rcases hv with ⟨h, g | g⟩
    · rw [if_pos g]; omega
    · split <;> omega
  refine ⟨fun j => if j = i then v else q j, ?_, ?_⟩
  · funext j
    unfold upd bH
    by_cases e : j = i
    · rw [if_pos e]; show nI v = nI (min (if j = i then v else q j) (if j % 80 < 56 then 4 else 1)); rw [if_pos e, e, hm]
    · rw [if_neg e]; show nI (min (q j) (if j % 80 < 56 then 4 else 1)) = nI (min (if j = i then v else q j) (if j % 80 < 56 then 4 else 1)); rw [if_neg e]
  · show nI (min (if i = i then v else q i) (if i % 80 < 56 then 4 else 1)) = nI v
    rw [if_pos rfl, hm]
theorem sp_ix {a b k : Nat} (ha : a ≤ 120) (hb : b ≤ 120) (hk : k ≤ 120) : a * b + k < 14641 := by
  have := Nat.mul_le_mul ha hb
  omega
theorem sp_ix0 {a b : Nat} (ha : a ≤ 120) (hb : b ≤ 120) : a * b < 14641 := by
  have := Nat.mul_le_mul ha hb
  omega
/-- the states of the first graph: how deep, from which, by which edge -/
def gz_ok (n : Nat) (fF fB fD : Nat → Int32) : Prop := ∀ i : Nat, i < n → ∃ d : Nat, d ≤ i ∧ fD i = nI d ∧ (d = 0 ∨ ∃ p e d' : Nat, p < i ∧ e ≤ 13 ∧ fF i = nI p ∧ fB i = nI e ∧ fD p = nI d' ∧ d = d' + 1)
theorem gz_0 {fF fB fD : Nat → Int32} : gz_ok 0 fF fB fD := fun i h => absurd h (Nat.not_lt_zero i)
theorem gz_far {n k : Nat} {fF fB fD : Nat → Int32} {a b d : Int32} (h : gz_ok n fF fB fD) (hk : n ≤ k) : gz_ok n (upd fF k a) (upd fB k b) (upd fD k d) := by
  intro i hi
  obtain ⟨d0, h1, h2, h3⟩ := h i hi
  refine ⟨d0, h1, by rw [pk_un (by omega)]; exact h2, ?_⟩
  rcases h3 with h3 | ⟨p, e, d', g1, g2, g3, g4, g5, g6⟩
  · exact Or.inl h3
  · exact Or.inr ⟨p, e, d', g1, g2, by rw [pk_un (by omega)]; exact g3, by rw [pk_un (by omega)]; exact g4, by rw [pk_un (by omega)]; exact g5, g6⟩
theorem gz_farN {n k : Nat} {fF fB fD : Nat → Int32} {a b d : Int32} (h : gz_ok n fF fB fD) (hk : n ≤ k) (hb : k < 2 ^ 31) : gz_ok n (upd fF (nI k).toNatClampNeg a) (upd fB (nI k).toNatClampNeg b) (upd fD (nI k).toNatClampNeg d) := by
  rw [nI_clamp hb]; exact gz_far h hk
theorem gz_first {n : Nat} {fF fB fD : Nat → Int32} {a b : Int32} (h : gz_ok n fF fB fD) (hb : n < 2 ^ 31) : gz_ok (n + 1) (upd fF (nI n).toNatClampNeg a) (upd fB (nI n).toNatClampNeg b) (upd fD (nI n).toNatClampNeg 0) := by
  rw [nI_clamp hb]
  intro i hi
  rcases Nat.lt_or_ge i n with q | q
  · exact gz_far h (Nat.le_refl n) i q
  · obtain rfl : i = n := by omega
    exact ⟨0, Nat.zero_le _, pk_us, Or.inl rfl⟩
theorem gz_new {n p e : Nat} {fF fB fD : Nat → Int32} {y y2 : Int32} (h : gz_ok n fF fB fD) (hp : p < n) (he : e ≤ 13) (hb : n < 2 ^ 31) (hy : y = fD (nI p).toNatClampNeg) (hy2 : y2 = y + 1) : gz_ok (n + 1) (upd fF (nI n).toNatClampNeg (nI p)) (upd fB (nI n).toNatClampNeg (nI e)) (upd fD (nI n).toNatClampNeg y2) := by
  rw [nI_clamp (by omega)] at hy
  rw [nI_clamp hb]
  intro i hi
  rcases Nat.lt_or_ge i n with q | q
  · exact gz_far h (Nat.le_refl n) i q
  · obtain rfl : i = n := by omega
    obtain ⟨d, h1, h2, -⟩ := h p hp
    refine ⟨d + 1, by omega, ?_, Or.inr ⟨p, e, d, hp, he, pk_us, pk_us, ?_, rfl⟩⟩
    · rw [pk_us, hy2, hy, h2, nI_1]
    · rw [pk_un (by omega)]; exact h2
theorem pu_k0 : nI 0 - 1 = -1 := by decide
theorem pu_pm (n : Nat) : nI n + (-1) + 1 = nI n := by
  rw [Int32.add_assoc, show (-1 + 1 : Int32) = 0 from rfl, Int32.add_zero]
