theorem in_q {q b : Nat} (h : q < b) (hb : b < 2 ^ 30) : (0 : Int32) ≤ nI q ∧ nI q < nI b := ⟨nI_pos' (by omega), nI_lt h (by omega)⟩
/-- of two numbers the one of a bank -/
def bkN (b m0 m1 : Nat) : Nat := if b = 0 then m0 else m1
theorem bkN_lt {b m0 m1 : Nat} (h : m0 < 2 ^ 30 ∧ m1 < 2 ^ 30) : bkN b m0 m1 < 2 ^ 30 := by
  unfold bkN
  by_cases e : b = 0
  · rw [if_pos e]; exact h.1
  · rw [if_neg e]; exact h.2
theorem in_c {p : Int32} {q hi b m0 m1 : Nat} (h : q ≤ hi ∧ q < bkN b m0 m1) (hm : m0 < 2 ^ 30 ∧ m1 < 2 ^ 30) (e : p = nI q) : (0 : Int32) ≤ p ∧ p < nI (bkN b m0 m1) := by
  rw [e]; exact in_q h.2 (bkN_lt hm)
theorem in_m1 {p : Int32} {n : Nat} (hn : n < 2 ^ 30) (h : p < nI n) : p ≤ nI n - 1 := by
  rw [fa_le, pu_m1 hn]
  have h1 := Int32.lt_iff_toInt_lt.mp h
  rw [nI_toInt (by omega)] at h1
  omega
theorem in_lt {n q b m0 m1 : Nat} (hx : n = if b = 0 then m0 else m1) (h : q < n) : q < bkN b m0 m1 := by
  rw [hx] at h; exact h
theorem in_neg {p : Int32} {n b m0 m1 : Nat} (hx : n = if b = 0 then m0 else m1) (hn : n < 2 ^ 30) (h : ¬ ((0 : Int32) ≤ p ∧ p ≤ nI n - 1)) : ¬ ((0 : Int32) ≤ p ∧ p < nI (bkN b m0 m1)) := by
  intro z
  have e : bkN b m0 m1 = n := hx.symm
  rw [e] at z
  exact h ⟨z.1, in_m1 hn z.2⟩
theorem of_107 {p : Int32} (h : (100 : Int32) ≤ p ∧ p ≤ 107) : ∃ n : Nat, n ≤ 7 ∧ p = nI (100 + n) := by
  obtain ⟨j, hj, rfl⟩ := nI_of (le_0 (Int32.le_trans (by decide) h.1))
  have h1 : 100 ≤ j := (nI_leI (a := 100) (b := j) (by omega) hj).mp h.1
  have h2 : j ≤ 107 := (nI_leI (a := j) (b := 107) hj (by omega)).mp h.2
  exact ⟨j - 100, by omega, by rw [show 100 + (j - 100) = j by omega]⟩
theorem to_107 {p : Int32} {n : Nat} (hn : n ≤ 7) (e : p = nI (100 + n)) : (100 : Int32) ≤ p ∧ p ≤ 107 := by
  rw [e]
  exact ⟨nI_le (a := 100) (b := 100 + n) (by omega) (by omega), nI_le (a := 100 + n) (b := 107) (by omega) (by omega)⟩
theorem cl_100 {n : Nat} (hn : n < 2 ^ 30) : n = (nI (100 + n) - 100 : Int32).toNatClampNeg := by
  have e : (nI (100 + n) - 100 : Int32) = nI (100 + n - 100) := pk_sub (a := 100 + n) (b := 100) (by omega)
  rw [e, Nat.add_sub_cancel_left]
  exact nI_cl (by omega)
theorem cl_of {f : Nat → Int32} {n v : Nat} (h : f (nI n : Int32).toNatClampNeg = nI v) (hn : n < 2 ^ 31) (hv : v < 2 ^ 31) : v = (f n : Int32).toNatClampNeg := by
  rw [nI_clamp hn] at h
  rw [h]
  exact nI_cl hv
theorem hi_subq {q : Nat} (h : q < 8) : q = ((-1 : Int32) - (-1 - nI q : Int32)).toNatClampNeg := by
  rw [hi_sub q h]; exact nI_cl (by omega)
/-- a step of a state's run -/
abbrev isStp (hs gc : Nat) (f : Nat → Int32) (p0 p1 : Int32) : Prop := hs = 1 ∧ (0 : Int32) ≤ p0 ∧ p0 < nI gc ∧ (0 : Int32) ≤ p1 ∧ p1 < f p0.toNatClampNeg
theorem stp_y {hs gc q j d : Nat} {f : Nat → Int32} (h1 : hs = 1) (hq : q < gc) (hg : gc < 2 ^ 30) (hf : f q = nI d) (hj : j < d) (hd : d < 2 ^ 30) : isStp hs gc f (nI q) (nI j) :=
  ⟨h1, (in_q hq hg).1, (in_q hq hg).2, nI_pos' (by omega), by rw [nI_clamp (by omega), hf]; exact nI_lt hj (by omega)⟩
theorem stp_n0 {hs gc : Nat} {f : Nat → Int32} {p0 p1 : Int32} (h : ¬ (hs = 1 ∧ (0 : Int32) ≤ p0 ∧ p0 < nI gc)) : ¬ isStp hs gc f p0 p1 := fun z => h ⟨z.1, z.2.1, z.2.2.1⟩
theorem stp_n1 {hs gc q d : Nat} {f : Nat → Int32} {p1 : Int32} (hq : q < 2 ^ 31) (hf : f q = nI d) (hd : d < 2 ^ 30) (h : ¬ ((0 : Int32) ≤ p1 ∧ p1 ≤ nI d - 1)) : ¬ isStp hs gc f (nI q) p1 := fun z => by
  have z2 := z.2.2.2.2
  rw [nI_clamp hq, hf] at z2
  exact h ⟨z.2.2.2.1, in_m1 hd z2⟩
theorem stp_n2 {hs gc : Nat} {f : Nat → Int32} {p0 p1 : Int32} (h : p1 < 0) : ¬ isStp hs gc f p0 p1 := fun z => absurd z.2.2.2.1 (Int32.not_le.mpr h)
theorem stp_n3 {hs gc q d : Nat} {f : Nat → Int32} {p1 : Int32} (hq : q < 2 ^ 31) (hf : f q = nI d) (h : nI d ≤ p1) : ¬ isStp hs gc f (nI q) p1 := fun z => by
  have z2 := z.2.2.2.2
  rw [nI_clamp hq, hf] at z2
  exact absurd z2 (Int32.not_lt.mpr h)
theorem gz_firstx {n : Nat} {fF fB fD : Nat → Int32} {a b : Int32} (h : gz_ok n fF fB fD) (hb : n < 2 ^ 31) : gz_ok (n + 1) (upd fF n a) (upd fB n b) (upd fD n 0) := by
  have e := gz_first (a := a) (b := b) h hb
  rw [nI_clamp hb] at e
  exact e
theorem gz_newx {n p e : Nat} {fF fB fD : Nat → Int32} (h : gz_ok n fF fB fD) (hp : p < n) (he : e ≤ 13) (hb : n < 2 ^ 31) : gz_ok (n + 1) (upd fF n (nI p)) (upd fB n (nI e)) (upd fD n (fD p + 1)) := by
  have g := gz_new (y := fD p) (y2 := fD p + 1) h hp he hb (by rw [nI_clamp (by omega)]) rfl
  rw [nI_clamp hb] at g
  exact g
theorem gz_recx {n p e : Nat} {fF fB fD : Nat → Int32} (h : gz_ok n fF fB fD) (hp : p < n) (he : e ≤ 13) (hb : n < 2 ^ 31) : gz_ok (n + 1) (upd fF n (nI p)) (upd fB n (nI e)) (upd (upd fD n 0) n (upd fD n 0 p + 1)) := by
  have e1 : upd fD n 0 p = fD p := pk_un (by omega)
  have e2 : upd (upd fD n 0) n (fD p + 1) = upd fD n (fD p + 1) := by
    funext j
    unfold upd
    by_cases g : j = n
    · rw [if_pos g, if_pos g]
    · rw [if_neg g, if_neg g, if_neg g]
  rw [e1, e2]
  exact gz_newx h hp he hb
/-- of what an act was: told, kept -/
def actV (h w : Nat) : Nat := if w ≤ h then w else 1000 + min (w - h - 1) 7
def actK (h v : Nat) : Nat := if v ≤ h then v else h + 1 + (v - 1000)
theorem actVK {h v : Nat} (hv : v ≤ h ∨ (1000 ≤ v ∧ v ≤ 1007)) : actV h (actK h v) = v := by
  unfold actV actK
  by_cases e : v ≤ h
  · rw [if_pos e, if_pos e]
  · rw [if_neg e, if_neg (by omega)]; omega
theorem bA_getx (h : Nat) (q : Nat → Nat) {n : Nat} (hn : n < 2 ^ 31) : ∃ v : Nat, (v ≤ h ∨ (1000 ≤ v ∧ v ≤ 1007)) ∧ bA h q (nI n).toNatClampNeg = nI v ∧ v = actV h (q n) := by
  rw [nI_clamp hn]
  refine ⟨actV h (q n), ?_, rfl, rfl⟩
  unfold actV
  by_cases e : q n ≤ h
  · rw [if_pos e]; exact Or.inl e
  · rw [if_neg e]; exact Or.inr ⟨by omega, by omega⟩
theorem bA_upx (h : Nat) (q : Nat → Nat) {n v : Nat} (hn : n < 2 ^ 31) (hv : v ≤ h ∨ (1000 ≤ v ∧ v ≤ 1007)) : ∃ q' : Nat → Nat, upd (bA h q) (nI n).toNatClampNeg (nI v) = bA h q' ∧ bA h q' (nI n).toNatClampNeg = nI v ∧ q' = updN q n (actK h v) := by
  rw [nI_clamp hn]
  have key : ∀ j : Nat, bA h (updN q n (actK h v)) j = upd (bA h q) n (nI v) j := by
    intro j
    show nI (actV h (updN q n (actK h v) j)) = upd (fun i => nI (actV h (q i))) n (nI v) j
    unfold upd updN
    by_cases e : j = n
    · rw [if_pos e, if_pos e, actVK hv]
    · rw [if_neg e, if_neg e]
  refine ⟨updN q n (actK h v), (funext key).symm, ?_, rfl⟩
  rw [key n]
  unfold upd
  rw [if_pos rfl]
theorem hi_newe {n : Nat} {f g : Nat → Int32} {v : Int32} (e : upd f (nI n).toNatClampNeg v = g) (h : hi_ok n f) (hv : hi_1 v) (hn : n ≤ 100) : hi_ok (n + 1) g := by
  rw [← e]; exact hi_new h hv hn
theorem hi_upe {n k : Nat} {f g : Nat → Int32} {v : Int32} (e : upd f k v = g) (h : hi_ok n f) (hv : hi_1 v) : hi_ok n g := by
  rw [← e]; exact hi_up h hv
theorem hi_mvx {n i k : Nat} {f g : Nat → Int32} {y : Int32} (e : upd f k y = g) (hy : y = f i) (h : hi_ok n f) (hi : i < n) (_ : n ≤ 100) : hi_ok n g := by
  rw [← e, hy]; exact hi_up h (h i hi)
