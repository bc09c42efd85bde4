/-- -1, or a number up to h -/
abbrev pm1 (h : Nat) (x : Int32) : Prop := x = -1 ∨ ∃ q : Nat, q ≤ h ∧ x = nI q
/-- some cells of a world get new contents -/
def putL (ws : va_W) : List Nat → va_W → va_W
  | [], _ => ws
  | _ :: _, [] => ws
  | i :: is, e :: es => putL (ws.set i e) is es
theorem putL_nil (ws es : va_W) : putL ws [] es = ws := by cases es <;> rfl
theorem putL_out : ∀ (is : List Nat) (es ws : va_W) (k : Nat), k ∉ is → (putL ws is es)[k]? = ws[k]?
  | [], es, ws, k, _ => by rw [putL_nil]
  | _ :: _, [], _, _, _ => rfl
  | i :: is, e :: es, ws, k, h => by
    show (putL (ws.set i e) is es)[k]? = ws[k]?
    rw [putL_out is es (ws.set i e) k (fun g => h (List.mem_cons_of_mem _ g)), List.getElem?_set_ne (fun g => h (by rw [← g]; exact List.mem_cons_self))]
theorem putL_in : ∀ (is : List Nat) (es ws : va_W) (k : Nat) (q : Nat × va_E), is.length = es.length → k ∈ is → (putL ws is es)[k]? = some q → q ∈ es
  | [], _, _, _, _, _, h, _ => absurd h List.not_mem_nil
  | _ :: _, [], _, _, _, hl, _, _ => by cases hl
  | i :: is, e :: es, ws, k, q, hl, h, hq => by
    have hq : (putL (ws.set i e) is es)[k]? = some q := hq
    by_cases g : k ∈ is
    · exact List.mem_cons_of_mem _ (putL_in is es (ws.set i e) k q (Nat.succ.inj hl) g hq)
    · have hk : k = i := by
        rcases List.mem_cons.mp h with h | h
        · exact h
        · exact absurd h g
      subst hk
      rw [putL_out is es (ws.set k e) k g, List.getElem?_set_self'] at hq
      cases hw : ws[k]? with
      | none => rw [hw] at hq; cases hq
      | some x => rw [hw] at hq; cases hq; exact List.mem_cons_self
theorem putL_fst : ∀ (is : List Nat) (es ws : va_W), is.map (fun i => (ws[i]?).map Prod.fst) = es.map (fun e => some e.1) → ∀ k : Nat, ((putL ws is es)[k]?).map Prod.fst = (ws[k]?).map Prod.fst
  | [], es, ws, _, k => by rw [putL_nil]
  | _ :: _, [], _, _, _ => rfl
  | i :: is, e :: es, ws, h, k => by
    have h1 : (ws[i]?).map Prod.fst = some e.1 := (List.cons.inj h).1
    have hs : ∀ j : Nat, ((ws.set i e)[j]?).map Prod.fst = (ws[j]?).map Prod.fst := by
      intro j
      by_cases hij : i = j
      · subst hij
        rw [h1, List.getElem?_set_self']
        cases hw : ws[i]? with
        | none => rw [hw] at h1; cases h1
        | some x => rfl
      · rw [List.getElem?_set_ne hij]
    have h2 := (List.cons.inj h).2
    rw [show (putL ws (i :: is) (e :: es)) = putL (ws.set i e) is es from rfl, putL_fst is es (ws.set i e) (by rw [← h2]; exact List.map_congr_left (fun j _ => hs j)) k, hs k]
theorem pu_put {A : Nat → Prop} {D : va_G} {ws ws' wc w1 : va_W} {H H1 : Heap} (hP : va_P D vwCl ws H) (hD : va_D A ws) (is : List Nat) (hC : is.map (fun i => ws[i]?) = wc.map some) (hk : ∀ q : Nat, q < H.size → ¬ va_A wc H.size q → H1[q]? = H[q]?) (hP1 : va_P D vwCl w1 H1) (hf : w1.map (fun e => some e.1) = wc.map (fun e => some e.1)) (hs : putL ws is w1 = ws') : va_P D vwCl ws' H1 ∧ va_D A ws' := by
  subst hs
  have hlen : is.length = w1.length := by
    have h1 := congrArg List.length hC
    have h2 := congrArg List.length hf
    rw [List.length_map, List.length_map] at h1 h2
    omega
  have hF : is.map (fun i => (ws[i]?).map Prod.fst) = w1.map (fun e => some e.1) := by
    rw [hf]
    have := congrArg (List.map (Option.map Prod.fst)) hC
    rw [List.map_map, List.map_map] at this
    exact this
  have hfst := putL_fst is w1 ws hF
  have dup : ∀ (k : Nat) (q : Nat × va_E), (putL ws is w1)[k]? = some q → ∃ q0 : Nat × va_E, ws[k]? = some q0 ∧ q0.1 = q.1 := by
    intro k q hq
    have h := hfst k
    rw [hq] at h
    cases hw : ws[k]? with
    | none => rw [hw] at h; cases h
    | some x => rw [hw] at h; exact ⟨x, rfl, (Option.some.inj h).symm⟩
  refine ⟨fun k q hq => ?_, fun i j p q hp hq e => ?_, fun k q hq => ?_⟩
  · by_cases g : k ∈ is
    · obtain ⟨i, hi⟩ := List.getElem?_of_mem (putL_in is w1 ws k q hlen g hq)
      exact hP1 i q hi
    · rw [putL_out is w1 ws k g] at hq
      refine (hP k q hq).kept (hk q.1 (hP k q hq).lt (fun ha => ?_))
      rcases ha with ⟨j, c, hj⟩ | ha
      · obtain ⟨i, h1, h2⟩ := va_in_of is hC hj
        exact g (by rw [hD.1 k i q _ hq h2 rfl]; exact List.mem_of_getElem? h1)
      · exact absurd (hP k q hq).lt (by omega)
  · obtain ⟨p0, h1, h2⟩ := dup i p hp
    obtain ⟨q0, h3, h4⟩ := dup j q hq
    exact hD.1 i j p0 q0 h1 h3 (by rw [h2, h4, e])
  · obtain ⟨q0, h1, h2⟩ := dup k q hq
    rw [← h2]
    exact hD.2 k q0 h1
theorem bN_up2 (h : Nat) (q : Nat → Nat) (k : Nat) {v : Nat} (hv : v ≤ h) : ∃ q' : Nat → Nat, upd (bN h q) k (nI v) = bN h q' ∧ bN h q' k = nI v ∧ ∀ j : Nat, j ≠ k → bN h q' j = bN h q j := ⟨fun j => if j = k then v else q j, by
  funext j
  unfold upd bN
  by_cases e : j = k
  · rw [if_pos e]; show nI v = nI (min (if j = k then v else q j) h); rw [if_pos e, Nat.min_eq_left hv]
  · rw [if_neg e]; show nI (min (q j) h) = nI (min (if j = k then v else q j) h); rw [if_neg e], by
  show nI (min (if k = k then v else q k) h) = nI v
  rw [if_pos rfl, Nat.min_eq_left hv], fun j e => by
  show nI (min (if j = k then v else q j) h) = nI (min (q j) h)
  rw [if_neg e]⟩
/-- counts of hosts that are not told yet -/
def cz (np ne : Nat) (q : Nat → Nat) : Prop := (∀ p : Nat, np ≤ p → p < 8 → bN 4 q (14 + p) = nI 0) ∧ ∀ e : Nat, ne ≤ e → e < 14 → bN 4 q e = nI 0
/-- one host alone has changed -/
def co (a : Nat) (q q' : Nat → Nat) : Prop := ∀ j : Nat, j ≠ a → bN 4 q' j = bN 4 q j
theorem co_refl {a : Nat} {q : Nat → Nat} : co a q q := fun _ _ => rfl
theorem co_step {a k : Nat} {q q1 q2 : Nat → Nat} (h : co a q q1) (hk : (nI a).toNatClampNeg = k) (ha : a < 2 ^ 31) (g : ∀ j : Nat, j ≠ k → bN 4 q2 j = bN 4 q1 j) : co a q q2 := fun j hj => by
  rw [nI_clamp ha] at hk
  rw [g j (by omega), h j hj]
theorem co_trans {a : Nat} {q q1 q2 : Nat → Nat} (h : co a q q1) (g : co a q1 q2) : co a q q2 := fun j hj => (g j hj).trans (h j hj)
theorem cz_p {np ne : Nat} {q : Nat → Nat} (h : cz np ne q) (hp : np < 8) : bN 4 q (nI (14 + np)).toNatClampNeg = nI 0 := by
  rw [nI_clamp (by omega)]; exact h.1 np (Nat.le_refl np) hp
theorem cz_e {np ne : Nat} {q : Nat → Nat} (h : cz np ne q) (he : ne < 14) : bN 4 q (nI ne).toNatClampNeg = nI 0 := by
  rw [nI_clamp (by omega)]; exact h.2 ne (Nat.le_refl ne) he
theorem cz_np {np ne : Nat} {q q' : Nat → Nat} (h : cz np ne q) (g : co (14 + np) q q') : cz (np + 1) ne q' := ⟨fun p h1 h2 => by rw [g (14 + p) (by omega)]; exact h.1 p (by omega) h2, fun e h1 h2 => by rw [g e (by omega)]; exact h.2 e h1 h2⟩
theorem cz_ne {np ne : Nat} {q q' : Nat → Nat} (h : cz np ne q) (hn : ne < 14) (g : co ne q q') : cz np (ne + 1) q' := ⟨fun p h1 h2 => by rw [g (14 + p) (by omega)]; exact h.1 p h1 h2, fun e h1 h2 => by rw [g e (by omega)]; exact h.2 e (by omega) h2⟩
theorem cz_up {np ne : Nat} {q : Nat → Nat} (h : cz np ne q) : cz (np + 1) ne q := ⟨fun p h1 h2 => h.1 p (by omega) h2, h.2⟩
theorem cz_ue {np ne : Nat} {q : Nat → Nat} (h : cz np ne q) : cz np (ne + 1) q := ⟨h.1, fun e h1 h2 => h.2 e (by omega) h2⟩
def zc (n : Nat) (q : Nat → Nat) : Prop := ∀ j : Nat, j < n → bN 4 q j = nI 0
theorem zc_0 {q : Nat → Nat} : zc 0 q := fun j h => absurd h (Nat.not_lt_zero j)
theorem zc_step {n : Nat} {q q' : Nat → Nat} (h : zc n q) (hn : n < 2 ^ 31) (k : bN 4 q' (nI n).toNatClampNeg = nI 0) (o : ∀ j : Nat, j ≠ (nI n).toNatClampNeg → bN 4 q' j = bN 4 q j) : zc (n + 1) q' := fun j hj => by
  rw [nI_clamp hn] at k o
  by_cases e : j = n
  · subst e; exact k
  · rw [o j e]; exact h j (by omega)
theorem zc_cz {n : Nat} {q : Nat → Nat} (h : zc n q) (hn : 22 ≤ n) : cz 0 0 q := ⟨fun p _ h2 => h (14 + p) (by omega), fun e _ h2 => h e (by omega)⟩
theorem mx_n0 {n : Nat} (h : n < 2 ^ 31) : (if (0 : Int32) < nI n then nI n else 0) = nI n := by
  split
  · rfl
  · rename_i q
    rw [fa_lt, nI_toInt h] at q
    have y0 : (0 : Int32).toInt = 0 := by decide
    obtain rfl : n = 0 := by omega
    rfl
theorem mx_n1 {n : Nat} (h : n < 2 ^ 31) : (if nI n < (0 : Int32) then 0 else nI n) = nI n := if_neg (nI_pos h)
theorem zx16 {i n j : Nat} (hi : i ≤ 3) (hn : n ≤ 4) (hj : j ≤ 3) : i * n + j < 16 := by
  have := Nat.mul_le_mul hi hn
  omega
theorem zy16 {i n : Nat} (hi : i ≤ 3) (hn : n ≤ 4) : i * n < 16 := by
  have := Nat.mul_le_mul hi hn
  omega
theorem zx25 {i n j : Nat} (hi : i ≤ 4) (hn : n ≤ 5) (hj : j ≤ 4) : i * n + j < 25 := by
  have := Nat.mul_le_mul hi hn
  omega
theorem zy25 {i n : Nat} (hi : i ≤ 4) (hn : n ≤ 5) : i * n < 25 := by
  have := Nat.mul_le_mul hi hn
  omega
theorem zz4 {n : Nat} (hn : n ≤ 4) : n * n ≤ 16 := Nat.mul_le_mul hn hn
theorem zz5 {n : Nat} (hn : n ≤ 5) : n * n ≤ 25 := Nat.mul_le_mul hn hn
theorem gz_rec {n p e : Nat} {fF fB fD : Nat → Int32} {y y2 : Int32} (h : gz_ok n fF fB fD) (hp : p < n) (he : e ≤ 13) (hb : n < 2 ^ 31) (hy : y = upd fD (nI n).toNatClampNeg 0 (nI p).toNatClampNeg) (hy2 : y2 = y + 1) : gz_ok (n + 1) (upd fF (nI n).toNatClampNeg (nI p)) (upd fB (nI n).toNatClampNeg (nI e)) (upd (upd fD (nI n).toNatClampNeg 0) (nI n).toNatClampNeg y2) := by
  have e1 : upd (upd fD (nI n).toNatClampNeg 0) (nI n).toNatClampNeg y2 = upd fD (nI n).toNatClampNeg y2 := by
    funext j
    unfold upd
    by_cases g : j = (nI n).toNatClampNeg
    · rw [if_pos g, if_pos g]
    · rw [if_neg g, if_neg g, if_neg g]
  rw [e1]
  refine gz_new h hp he hb ?_ hy2
  rw [hy, pk_un]
  rw [nI_clamp hb, nI_clamp (by omega)]
  omega
theorem hi_eq {n m : Nat} {f : Nat → Int32} (h : hi_ok n f) (e : n = m) : hi_ok m f := by subst e; exact h
theorem hi_le {n m : Nat} {f : Nat → Int32} (h : hi_ok n f) (e : m ≤ n) : hi_ok m f := fun j hj => h j (by omega)
theorem hi_mv {n i k : Nat} {f : Nat → Int32} {y : Int32} (h : hi_ok n f) (hi : i < n) (hn : n ≤ 100) (hy : y = f (nI i).toNatClampNeg) : hi_ok n (upd f k y) := hi_up h (by rw [hy]; exact hi_cl h hi hn)
theorem hi_get {n i : Nat} {f : Nat → Int32} (h : hi_ok n f) (hi : i < n) (hn : n ≤ 100) : (∃ q : Nat, q < 88 ∧ f (nI i).toNatClampNeg = nI q) ∨ (∃ q : Nat, q < 8 ∧ f (nI i).toNatClampNeg = -1 - nI q) := by
  rw [nI_clamp (by omega)]; exact h i hi
theorem pu_ult {x : Int32} {b : Nat} (hb : b < 2 ^ 30) (h0 : ¬ x < 0) (h : x < nI b) : ∃ q : Nat, q < b ∧ x = nI q := by
  obtain ⟨j, hj, rfl⟩ := nI_of h0
  exact ⟨j, (nI_ltI hj (by omega)).mp h, rfl⟩
theorem pu_ule {x : Int32} {b : Nat} (hb : b < 2 ^ 30) (h0 : ¬ x < 0) (h : x ≤ nI b) : ∃ q : Nat, q ≤ b ∧ x = nI q := by
  obtain ⟨j, hj, rfl⟩ := nI_of h0
  exact ⟨j, (nI_leI hj (by omega)).mp h, rfl⟩
theorem pu_ulm {x : Int32} {b : Nat} (hb : b < 2 ^ 30) (h0 : -1 ≤ x) (h : x < nI b) : x = -1 ∨ ∃ q : Nat, q < b ∧ x = nI q := by
  by_cases g : x < 0
  · refine Or.inl ?_
    rw [fa_lt] at g
    rw [fa_le] at h0
    rw [fa_eq]
    have y0 : (0 : Int32).toInt = 0 := by decide
    have y1 : (-1 : Int32).toInt = -1 := by decide
    omega
  · exact Or.inr (pu_ult hb g h)
abbrev au__w (au : Nat) (nc : Int32) (np : Int32) (ne : Int32) (st0 : Int32) (q4 : Nat) (q5 : Nat) (q6 : Nat) (q7 : Nat) (q8 : Nat) (q9 : Nat) (q10 : Nat) (q11 : Nat) (q12 : Nat) (q13 : Nat) (q14 : Nat) (q15 : Nat) (q16 : Nat) (k_f4 : ClassId) (f4 : Nat → Int32) (k_f5 : ClassId) (f5 : Nat → Int32) (k_f6 : ClassId) (f6 : Nat → Int32) (k_f7 : ClassId) (f7 : Nat → Int32) (k_f8 : ClassId) (f8 : Nat → Int32) (k_f9 : ClassId) (f9 : Nat → Int32) (k_f10 : ClassId) (f10 : Nat → Int32) (k_f11 : ClassId) (f11 : Nat → Int32) (k_f12 : ClassId) (f12 : Nat → Int32) (k_f13 : ClassId) (f13 : Nat → Int32) (k_f14 : ClassId) (f14 : Nat → Int32) (k_f15 : ClassId) (f15 : Nat → Int32) (k_f16 : ClassId) (f16 : Nat → Int32) : va_W := [(au, .inr (0, [.int nc, .int np, .int ne, .int st0, .ref q4, .ref q5, .ref q6, .ref q7, .ref q8, .ref q9, .ref q10, .ref q11, .ref q12, .ref q13, .ref q14, .ref q15, .ref q16])), (q4, .inl (k_f4, 8, .inl f4)), (q5, .inl (k_f5, 14, .inl f5)), (q6, .inl (k_f6, 14, .inl f6)), (q7, .inl (k_f7, 14, .inl f7)), (q8, .inl (k_f8, 22, .inl f8)), (q9, .inl (k_f9, 88, .inl f9)), (q10, .inl (k_f10, 88, .inl f10)), (q11, .inl (k_f11, 88, .inl f11)), (q12, .inl (k_f12, 88, .inl f12)), (q13, .inl (k_f13, 88, .inl f13)), (q14, .inl (k_f14, 4, .inl f14)), (q15, .inl (k_f15, 4, .inl f15)), (q16, .inl (k_f16, 4, .inl f16))]
abbrev au__t (k_f4 k_f5 k_f6 k_f7 k_f8 k_f9 k_f10 k_f11 k_f12 k_f13 k_f14 k_f15 k_f16 : ClassId) : List (ClassId × FieldType) := [(k_f4, .boolean), (k_f5, .int), (k_f6, .int), (k_f7, .int), (k_f8, .int), (k_f9, .int), (k_f10, .int), (k_f11, .int), (k_f12, .int), (k_f13, .int), (k_f14, .int), (k_f15, .int), (k_f16, .int)]
abbrev rd__w (rd : Nat) (fa : Int32) (fat : Int32) (tp : Nat) (len : Int32) (pos : Int32) (kd : Int32) (vl : Int32) (tka : Int32) (au : Nat) (rw : Nat) (rc : Nat) (rp : Nat) (k_ft : ClassId) (ft : Nat → Int32) (k_fw : ClassId) (fw : Nat → Int32) (k_fcn : ClassId) (fcn : Nat → Int32) (k_fpn : ClassId) (fpn : Nat → Int32) : va_W := [(rd, .inr (4, [.int fa, .int fat, .ref tp, .int len, .int pos, .int kd, .int vl, .int tka, .ref au, .ref rw, .ref rc, .ref rp])), (tp, .inl (k_ft, 900, .inl ft)), (rw, .inl (k_fw, 8, .inl fw)), (rc, .inl (k_fcn, 3, .inl fcn)), (rp, .inl (k_fpn, 8, .inl fpn))]
abbrev rd__t (k_ft k_fw k_fcn k_fpn : ClassId) : List (ClassId × FieldType) := [(k_ft, .int), (k_fw, .int), (k_fcn, .int), (k_fpn, .int)]
abbrev ra__w (rd : Nat) (fa : Int32) (fat : Int32) (tp : Nat) (len : Int32) (pos : Int32) (kd : Int32) (vl : Int32) (tka : Int32) (au : Nat) (rw : Nat) (rc : Nat) (rp : Nat) (k_ft : ClassId) (ft : Nat → Int32) (k_fw : ClassId) (fw : Nat → Int32) (k_fcn : ClassId) (fcn : Nat → Int32) (k_fpn : ClassId) (fpn : Nat → Int32) (nc : Int32) (np : Int32) (ne : Int32) (st0 : Int32) (q4 : Nat) (q5 : Nat) (q6 : Nat) (q7 : Nat) (q8 : Nat) (q9 : Nat) (q10 : Nat) (q11 : Nat) (q12 : Nat) (q13 : Nat) (q14 : Nat) (q15 : Nat) (q16 : Nat) (k_f4 : ClassId) (f4 : Nat → Int32) (k_f5 : ClassId) (f5 : Nat → Int32) (k_f6 : ClassId) (f6 : Nat → Int32) (k_f7 : ClassId) (f7 : Nat → Int32) (k_f8 : ClassId) (f8 : Nat → Int32) (k_f9 : ClassId) (f9 : Nat → Int32) (k_f10 : ClassId) (f10 : Nat → Int32) (k_f11 : ClassId) (f11 : Nat → Int32) (k_f12 : ClassId) (f12 : Nat → Int32) (k_f13 : ClassId) (f13 : Nat → Int32) (k_f14 : ClassId) (f14 : Nat → Int32) (k_f15 : ClassId) (f15 : Nat → Int32) (k_f16 : ClassId) (f16 : Nat → Int32) : va_W := [(rd, .inr (4, [.int fa, .int fat, .ref tp, .int len, .int pos, .int kd, .int vl, .int tka, .ref au, .ref rw, .ref rc, .ref rp])), (tp, .inl (k_ft, 900, .inl ft)), (rw, .inl (k_fw, 8, .inl fw)), (rc, .inl (k_fcn, 3, .inl fcn)), (rp, .inl (k_fpn, 8, .inl fpn)), (au, .inr (0, [.int nc, .int np, .int ne, .int st0, .ref q4, .ref q5, .ref q6, .ref q7, .ref q8, .ref q9, .ref q10, .ref q11, .ref q12, .ref q13, .ref q14, .ref q15, .ref q16])), (q4, .inl (k_f4, 8, .inl f4)), (q5, .inl (k_f5, 14, .inl f5)), (q6, .inl (k_f6, 14, .inl f6)), (q7, .inl (k_f7, 14, .inl f7)), (q8, .inl (k_f8, 22, .inl f8)), (q9, .inl (k_f9, 88, .inl f9)), (q10, .inl (k_f10, 88, .inl f10)), (q11, .inl (k_f11, 88, .inl f11)), (q12, .inl (k_f12, 88, .inl f12)), (q13, .inl (k_f13, 88, .inl f13)), (q14, .inl (k_f14, 4, .inl f14)), (q15, .inl (k_f15, 4, .inl f15)), (q16, .inl (k_f16, 4, .inl f16))]
abbrev ra__t (k_ft k_fw k_fcn k_fpn k_f4 k_f5 k_f6 k_f7 k_f8 k_f9 k_f10 k_f11 k_f12 k_f13 k_f14 k_f15 k_f16 : ClassId) : List (ClassId × FieldType) := [(k_ft, .int), (k_fw, .int), (k_fcn, .int), (k_fpn, .int), (k_f4, .boolean), (k_f5, .int), (k_f6, .int), (k_f7, .int), (k_f8, .int), (k_f9, .int), (k_f10, .int), (k_f11, .int), (k_f12, .int), (k_f13, .int), (k_f14, .int), (k_f15, .int), (k_f16, .int)]
abbrev rb__w (rd : Nat) (fa : Int32) (fat : Int32) (tx0 : Value) (len : Int32) (pos : Int32) (kd : Int32) (vl : Int32) (tka : Int32) (in0 : Value) (rw : Nat) (rc : Nat) (rp : Nat) (tp : Nat) (k_ft : ClassId) (ft : Nat → Int32) (k_fw : ClassId) (fw : Nat → Int32) (k_fcn : ClassId) (fcn : Nat → Int32) (k_fpn : ClassId) (fpn : Nat → Int32) (au : Nat) (nc : Int32) (np : Int32) (ne : Int32) (st0 : Int32) (q4 : Nat) (q5 : Nat) (q6 : Nat) (q7 : Nat) (q8 : Nat) (q9 : Nat) (q10 : Nat) (q11 : Nat) (q12 : Nat) (q13 : Nat) (q14 : Nat) (q15 : Nat) (q16 : Nat) (k_f4 : ClassId) (f4 : Nat → Int32) (k_f5 : ClassId) (f5 : Nat → Int32) (k_f6 : ClassId) (f6 : Nat → Int32) (k_f7 : ClassId) (f7 : Nat → Int32) (k_f8 : ClassId) (f8 : Nat → Int32) (k_f9 : ClassId) (f9 : Nat → Int32) (k_f10 : ClassId) (f10 : Nat → Int32) (k_f11 : ClassId) (f11 : Nat → Int32) (k_f12 : ClassId) (f12 : Nat → Int32) (k_f13 : ClassId) (f13 : Nat → Int32) (k_f14 : ClassId) (f14 : Nat → Int32) (k_f15 : ClassId) (f15 : Nat → Int32) (k_f16 : ClassId) (f16 : Nat → Int32) : va_W := [(rd, .inr (4, [.int fa, .int fat, tx0, .int len, .int pos, .int kd, .int vl, .int tka, in0, .ref rw, .ref rc, .ref rp])), (tp, .inl (k_ft, 900, .inl ft)), (rw, .inl (k_fw, 8, .inl fw)), (rc, .inl (k_fcn, 3, .inl fcn)), (rp, .inl (k_fpn, 8, .inl fpn)), (au, .inr (0, [.int nc, .int np, .int ne, .int st0, .ref q4, .ref q5, .ref q6, .ref q7, .ref q8, .ref q9, .ref q10, .ref q11, .ref q12, .ref q13, .ref q14, .ref q15, .ref q16])), (q4, .inl (k_f4, 8, .inl f4)), (q5, .inl (k_f5, 14, .inl f5)), (q6, .inl (k_f6, 14, .inl f6)), (q7, .inl (k_f7, 14, .inl f7)), (q8, .inl (k_f8, 22, .inl f8)), (q9, .inl (k_f9, 88, .inl f9)), (q10, .inl (k_f10, 88, .inl f10)), (q11, .inl (k_f11, 88, .inl f11)), (q12, .inl (k_f12, 88, .inl f12)), (q13, .inl (k_f13, 88, .inl f13)), (q14, .inl (k_f14, 4, .inl f14)), (q15, .inl (k_f15, 4, .inl f15)), (q16, .inl (k_f16, 4, .inl f16))]
abbrev rb__t (k_ft k_fw k_fcn k_fpn k_f4 k_f5 k_f6 k_f7 k_f8 k_f9 k_f10 k_f11 k_f12 k_f13 k_f14 k_f15 k_f16 : ClassId) : List (ClassId × FieldType) := [(k_ft, .int), (k_fw, .int), (k_fcn, .int), (k_fpn, .int), (k_f4, .boolean), (k_f5, .int), (k_f6, .int), (k_f7, .int), (k_f8, .int), (k_f9, .int), (k_f10, .int), (k_f11, .int), (k_f12, .int), (k_f13, .int), (k_f14, .int), (k_f15, .int), (k_f16, .int)]
abbrev hi__w (hy : Nat) (hk : Int32) (co : Nat) (ol : Nat) (k_fo : ClassId) (fo : Nat → Int32) (k_fl : ClassId) (fl : Nat → Int32) (au : Nat) (nc : Int32) (np : Int32) (ne : Int32) (st0 : Int32) (q4 : Nat) (q5 : Nat) (q6 : Nat) (q7 : Nat) (q8 : Nat) (q9 : Nat) (q10 : Nat) (q11 : Nat) (q12 : Nat) (q13 : Nat) (q14 : Nat) (q15 : Nat) (q16 : Nat) (k_f4 : ClassId) (f4 : Nat → Int32) (k_f5 : ClassId) (f5 : Nat → Int32) (k_f6 : ClassId) (f6 : Nat → Int32) (k_f7 : ClassId) (f7 : Nat → Int32) (k_f8 : ClassId) (f8 : Nat → Int32) (k_f9 : ClassId) (f9 : Nat → Int32) (k_f10 : ClassId) (f10 : Nat → Int32) (k_f11 : ClassId) (f11 : Nat → Int32) (k_f12 : ClassId) (f12 : Nat → Int32) (k_f13 : ClassId) (f13 : Nat → Int32) (k_f14 : ClassId) (f14 : Nat → Int32) (k_f15 : ClassId) (f15 : Nat → Int32) (k_f16 : ClassId) (f16 : Nat → Int32) : va_W := [(hy, .inr (2, [.int hk, .ref co, .ref ol])), (co, .inl (k_fo, 20, .inl fo)), (ol, .inl (k_fl, 20, .inl fl)), (au, .inr (0, [.int nc, .int np, .int ne, .int st0, .ref q4, .ref q5, .ref q6, .ref q7, .ref q8, .ref q9, .ref q10, .ref q11, .ref q12, .ref q13, .ref q14, .ref q15, .ref q16])), (q4, .inl (k_f4, 8, .inl f4)), (q5, .inl (k_f5, 14, .inl f5)), (q6, .inl (k_f6, 14, .inl f6)), (q7, .inl (k_f7, 14, .inl f7)), (q8, .inl (k_f8, 22, .inl f8)), (q9, .inl (k_f9, 88, .inl f9)), (q10, .inl (k_f10, 88, .inl f10)), (q11, .inl (k_f11, 88, .inl f11)), (q12, .inl (k_f12, 88, .inl f12)), (q13, .inl (k_f13, 88, .inl f13)), (q14, .inl (k_f14, 4, .inl f14)), (q15, .inl (k_f15, 4, .inl f15)), (q16, .inl (k_f16, 4, .inl f16))]
abbrev hi__t (k_fo k_fl k_f4 k_f5 k_f6 k_f7 k_f8 k_f9 k_f10 k_f11 k_f12 k_f13 k_f14 k_f15 k_f16 : ClassId) : List (ClassId × FieldType) := [(k_fo, .int), (k_fl, .int), (k_f4, .boolean), (k_f5, .int), (k_f6, .int), (k_f7, .int), (k_f8, .int), (k_f9, .int), (k_f10, .int), (k_f11, .int), (k_f12, .int), (k_f13, .int), (k_f14, .int), (k_f15, .int), (k_f16, .int)]
abbrev hz__w (hy : Nat) (hk : Int32) (co : Nat) (ol : Nat) (k_fo : ClassId) (fo : Nat → Int32) (k_fl : ClassId) (fl : Nat → Int32) : va_W := [(hy, .inr (2, [.int hk, .ref co, .ref ol])), (co, .inl (k_fo, 20, .inl fo)), (ol, .inl (k_fl, 20, .inl fl))]
abbrev hz__t (k_fo k_fl : ClassId) : List (ClassId × FieldType) := [(k_fo, .int), (k_fl, .int)]
abbrev pa__w (py : Nat) (on : Int32) (si : Int32) (ti : Int32) (tm : Nat) (bh : Nat) (k_ftm : ClassId) (ftm : Nat → Int32) (k_fbh : ClassId) (fbh : Nat → Int32) (au : Nat) (nc : Int32) (np : Int32) (ne : Int32) (st0 : Int32) (q4 : Nat) (q5 : Nat) (q6 : Nat) (q7 : Nat) (q8 : Nat) (q9 : Nat) (q10 : Nat) (q11 : Nat) (q12 : Nat) (q13 : Nat) (q14 : Nat) (q15 : Nat) (q16 : Nat) (k_f4 : ClassId) (f4 : Nat → Int32) (k_f5 : ClassId) (f5 : Nat → Int32) (k_f6 : ClassId) (f6 : Nat → Int32) (k_f7 : ClassId) (f7 : Nat → Int32) (k_f8 : ClassId) (f8 : Nat → Int32) (k_f9 : ClassId) (f9 : Nat → Int32) (k_f10 : ClassId) (f10 : Nat → Int32) (k_f11 : ClassId) (f11 : Nat → Int32) (k_f12 : ClassId) (f12 : Nat → Int32) (k_f13 : ClassId) (f13 : Nat → Int32) (k_f14 : ClassId) (f14 : Nat → Int32) (k_f15 : ClassId) (f15 : Nat → Int32) (k_f16 : ClassId) (f16 : Nat → Int32) : va_W := [(py, .inr (3, [.int on, .int si, .int ti, .ref tm, .ref bh])), (tm, .inl (k_ftm, 3, .inl ftm)), (bh, .inl (k_fbh, 3, .inl fbh)), (au, .inr (0, [.int nc, .int np, .int ne, .int st0, .ref q4, .ref q5, .ref q6, .ref q7, .ref q8, .ref q9, .ref q10, .ref q11, .ref q12, .ref q13, .ref q14, .ref q15, .ref q16])), (q4, .inl (k_f4, 8, .inl f4)), (q5, .inl (k_f5, 14, .inl f5)), (q6, .inl (k_f6, 14, .inl f6)), (q7, .inl (k_f7, 14, .inl f7)), (q8, .inl (k_f8, 22, .inl f8)), (q9, .inl (k_f9, 88, .inl f9)), (q10, .inl (k_f10, 88, .inl f10)), (q11, .inl (k_f11, 88, .inl f11)), (q12, .inl (k_f12, 88, .inl f12)), (q13, .inl (k_f13, 88, .inl f13)), (q14, .inl (k_f14, 4, .inl f14)), (q15, .inl (k_f15, 4, .inl f15)), (q16, .inl (k_f16, 4, .inl f16))]
abbrev pa__t (k_ftm k_fbh k_f4 k_f5 k_f6 k_f7 k_f8 k_f9 k_f10 k_f11 k_f12 k_f13 k_f14 k_f15 k_f16 : ClassId) : List (ClassId × FieldType) := [(k_ftm, .int), (k_fbh, .int), (k_f4, .boolean), (k_f5, .int), (k_f6, .int), (k_f7, .int), (k_f8, .int), (k_f9, .int), (k_f10, .int), (k_f11, .int), (k_f12, .int), (k_f13, .int), (k_f14, .int), (k_f15, .int), (k_f16, .int)]
abbrev py__w (py : Nat) (on : Int32) (si : Int32) (ti : Int32) (tm : Nat) (bh : Nat) (k_ftm : ClassId) (ftm : Nat → Int32) (k_fbh : ClassId) (fbh : Nat → Int32) : va_W := [(py, .inr (3, [.int on, .int si, .int ti, .ref tm, .ref bh])), (tm, .inl (k_ftm, 3, .inl ftm)), (bh, .inl (k_fbh, 3, .inl fbh))]
abbrev py__t (k_ftm k_fbh : ClassId) : List (ClassId × FieldType) := [(k_ftm, .int), (k_fbh, .int)]
abbrev at__w (au : Nat) (nc : Int32) (np : Int32) (ne : Int32) (st0 : Int32) (q4 : Nat) (q5 : Nat) (q6 : Nat) (q7 : Nat) (q8 : Nat) (q9 : Nat) (q10 : Nat) (q11 : Nat) (q12 : Nat) (q13 : Nat) (q14 : Nat) (q15 : Nat) (q16 : Nat) (k_f4 : ClassId) (f4 : Nat → Int32) (k_f5 : ClassId) (f5 : Nat → Int32) (k_f6 : ClassId) (f6 : Nat → Int32) (k_f7 : ClassId) (f7 : Nat → Int32) (k_f8 : ClassId) (f8 : Nat → Int32) (k_f9 : ClassId) (f9 : Nat → Int32) (k_f10 : ClassId) (f10 : Nat → Int32) (k_f11 : ClassId) (f11 : Nat → Int32) (k_f12 : ClassId) (f12 : Nat → Int32) (k_f13 : ClassId) (f13 : Nat → Int32) (k_f14 : ClassId) (f14 : Nat → Int32) (k_f15 : ClassId) (f15 : Nat → Int32) (k_f16 : ClassId) (f16 : Nat → Int32) (tt : Nat) (k_ftt : ClassId) (ftt : Nat → Int32) : va_W := [(au, .inr (0, [.int nc, .int np, .int ne, .int st0, .ref q4, .ref q5, .ref q6, .ref q7, .ref q8, .ref q9, .ref q10, .ref q11, .ref q12, .ref q13, .ref q14, .ref q15, .ref q16])), (q4, .inl (k_f4, 8, .inl f4)), (q5, .inl (k_f5, 14, .inl f5)), (q6, .inl (k_f6, 14, .inl f6)), (q7, .inl (k_f7, 14, .inl f7)), (q8, .inl (k_f8, 22, .inl f8)), (q9, .inl (k_f9, 88, .inl f9)), (q10, .inl (k_f10, 88, .inl f10)), (q11, .inl (k_f11, 88, .inl f11)), (q12, .inl (k_f12, 88, .inl f12)), (q13, .inl (k_f13, 88, .inl f13)), (q14, .inl (k_f14, 4, .inl f14)), (q15, .inl (k_f15, 4, .inl f15)), (q16, .inl (k_f16, 4, .inl f16)), (tt, .inl (k_ftt, 3, .inl ftt))]
abbrev at__t (k_f4 k_f5 k_f6 k_f7 k_f8 k_f9 k_f10 k_f11 k_f12 k_f13 k_f14 k_f15 k_f16 k_ftt : ClassId) : List (ClassId × FieldType) := [(k_f4, .boolean), (k_f5, .int), (k_f6, .int), (k_f7, .int), (k_f8, .int), (k_f9, .int), (k_f10, .int), (k_f11, .int), (k_f12, .int), (k_f13, .int), (k_f14, .int), (k_f15, .int), (k_f16, .int), (k_ftt, .int)]
abbrev z16__w (z : Nat) (zc : Nat) (zn : Int32) (k_fz : ClassId) (fz : Nat → Int32) : va_W := [(z, .inr (7, [.ref zc, .int zn])), (zc, .inl (k_fz, 16, .inl fz))]
abbrev z16__t (k_fz : ClassId) : List (ClassId × FieldType) := [(k_fz, .int)]
abbrev z25__w (z : Nat) (zc : Nat) (zn : Int32) (k_fz : ClassId) (fz : Nat → Int32) : va_W := [(z, .inr (7, [.ref zc, .int zn])), (zc, .inl (k_fz, 25, .inl fz))]
abbrev z25__t (k_fz : ClassId) : List (ClassId × FieldType) := [(k_fz, .int)]
abbrev zz16__w (zo : Nat) (zd : Nat) (zm : Int32) (k_fo : ClassId) (fo : Nat → Int32) (z : Nat) (zc : Nat) (zn : Int32) (k_fz : ClassId) (fz : Nat → Int32) : va_W := [(zo, .inr (7, [.ref zd, .int zm])), (zd, .inl (k_fo, 16, .inl fo)), (z, .inr (7, [.ref zc, .int zn])), (zc, .inl (k_fz, 16, .inl fz))]
abbrev zz16__t (k_fo k_fz : ClassId) : List (ClassId × FieldType) := [(k_fo, .int), (k_fz, .int)]
abbrev zz25__w (zo : Nat) (zd : Nat) (zm : Int32) (k_fo : ClassId) (fo : Nat → Int32) (z : Nat) (zc : Nat) (zn : Int32) (k_fz : ClassId) (fz : Nat → Int32) : va_W := [(zo, .inr (7, [.ref zd, .int zm])), (zd, .inl (k_fo, 25, .inl fo)), (z, .inr (7, [.ref zc, .int zn])), (zc, .inl (k_fz, 25, .inl fz))]
abbrev zz25__t (k_fo k_fz : ClassId) : List (ClassId × FieldType) := [(k_fo, .int), (k_fz, .int)]
abbrev zu16__w (vz : Nat) (k_fv : ClassId) (fv : Nat → Int32) (z : Nat) (zc : Nat) (zn : Int32) (k_fz : ClassId) (fz : Nat → Int32) : va_W := [(vz, .inl (k_fv, 5, .inl fv)), (z, .inr (7, [.ref zc, .int zn])), (zc, .inl (k_fz, 16, .inl fz))]
abbrev zu16__t (k_fv k_fz : ClassId) : List (ClassId × FieldType) := [(k_fv, .int), (k_fz, .int)]
abbrev zu25__w (vz : Nat) (k_fv : ClassId) (fv : Nat → Int32) (z : Nat) (zc : Nat) (zn : Int32) (k_fz : ClassId) (fz : Nat → Int32) : va_W := [(vz, .inl (k_fv, 5, .inl fv)), (z, .inr (7, [.ref zc, .int zn])), (zc, .inl (k_fz, 25, .inl fz))]
abbrev zu25__t (k_fv k_fz : ClassId) : List (ClassId × FieldType) := [(k_fv, .int), (k_fz, .int)]
abbrev zs16__w (vz : Nat) (k_fv : ClassId) (fv : Nat → Int32) (z : Nat) (zc : Nat) (zn : Int32) (k_fz : ClassId) (fz : Nat → Int32) : va_W := [(vz, .inl (k_fv, 4, .inl fv)), (z, .inr (7, [.ref zc, .int zn])), (zc, .inl (k_fz, 16, .inl fz))]
abbrev zs16__t (k_fv k_fz : ClassId) : List (ClassId × FieldType) := [(k_fv, .int), (k_fz, .int)]
abbrev zf16__w (ah : Nat) (k_fh : ClassId) (fh : Nat → Int32) (al : Nat) (k_fl : ClassId) (fl : Nat → Int32) (z : Nat) (zc : Nat) (zn : Int32) (k_fz : ClassId) (fz : Nat → Int32) : va_W := [(ah, .inl (k_fh, 5, .inl fh)), (al, .inl (k_fl, 5, .inl fl)), (z, .inr (7, [.ref zc, .int zn])), (zc, .inl (k_fz, 16, .inl fz))]
abbrev zf16__t (k_fh k_fl k_fz : ClassId) : List (ClassId × FieldType) := [(k_fh, .int), (k_fl, .int), (k_fz, .int)]
abbrev zf25__w (ah : Nat) (k_fh : ClassId) (fh : Nat → Int32) (al : Nat) (k_fl : ClassId) (fl : Nat → Int32) (z : Nat) (zc : Nat) (zn : Int32) (k_fz : ClassId) (fz : Nat → Int32) : va_W := [(ah, .inl (k_fh, 5, .inl fh)), (al, .inl (k_fl, 5, .inl fl)), (z, .inr (7, [.ref zc, .int zn])), (zc, .inl (k_fz, 25, .inl fz))]
abbrev zf25__t (k_fh k_fl k_fz : ClassId) : List (ClassId × FieldType) := [(k_fh, .int), (k_fl, .int), (k_fz, .int)]
abbrev az16__w (au : Nat) (nc : Int32) (np : Int32) (ne : Int32) (st0 : Int32) (q4 : Nat) (q5 : Nat) (q6 : Nat) (q7 : Nat) (q8 : Nat) (q9 : Nat) (q10 : Nat) (q11 : Nat) (q12 : Nat) (q13 : Nat) (q14 : Nat) (q15 : Nat) (q16 : Nat) (k_f4 : ClassId) (f4 : Nat → Int32) (k_f5 : ClassId) (f5 : Nat → Int32) (k_f6 : ClassId) (f6 : Nat → Int32) (k_f7 : ClassId) (f7 : Nat → Int32) (k_f8 : ClassId) (f8 : Nat → Int32) (k_f9 : ClassId) (f9 : Nat → Int32) (k_f10 : ClassId) (f10 : Nat → Int32) (k_f11 : ClassId) (f11 : Nat → Int32) (k_f12 : ClassId) (f12 : Nat → Int32) (k_f13 : ClassId) (f13 : Nat → Int32) (k_f14 : ClassId) (f14 : Nat → Int32) (k_f15 : ClassId) (f15 : Nat → Int32) (k_f16 : ClassId) (f16 : Nat → Int32) (z : Nat) (zc : Nat) (zn : Int32) (k_fz : ClassId) (fz : Nat → Int32) : va_W := [(au, .inr (0, [.int nc, .int np, .int ne, .int st0, .ref q4, .ref q5, .ref q6, .ref q7, .ref q8, .ref q9, .ref q10, .ref q11, .ref q12, .ref q13, .ref q14, .ref q15, .ref q16])), (q4, .inl (k_f4, 8, .inl f4)), (q5, .inl (k_f5, 14, .inl f5)), (q6, .inl (k_f6, 14, .inl f6)), (q7, .inl (k_f7, 14, .inl f7)), (q8, .inl (k_f8, 22, .inl f8)), (q9, .inl (k_f9, 88, .inl f9)), (q10, .inl (k_f10, 88, .inl f10)), (q11, .inl (k_f11, 88, .inl f11)), (q12, .inl (k_f12, 88, .inl f12)), (q13, .inl (k_f13, 88, .inl f13)), (q14, .inl (k_f14, 4, .inl f14)), (q15, .inl (k_f15, 4, .inl f15)), (q16, .inl (k_f16, 4, .inl f16)), (z, .inr (7, [.ref zc, .int zn])), (zc, .inl (k_fz, 16, .inl fz))]
abbrev az16__t (k_f4 k_f5 k_f6 k_f7 k_f8 k_f9 k_f10 k_f11 k_f12 k_f13 k_f14 k_f15 k_f16 k_fz : ClassId) : List (ClassId × FieldType) := [(k_f4, .boolean), (k_f5, .int), (k_f6, .int), (k_f7, .int), (k_f8, .int), (k_f9, .int), (k_f10, .int), (k_f11, .int), (k_f12, .int), (k_f13, .int), (k_f14, .int), (k_f15, .int), (k_f16, .int), (k_fz, .int)]
abbrev az25__w (au : Nat) (nc : Int32) (np : Int32) (ne : Int32) (st0 : Int32) (q4 : Nat) (q5 : Nat) (q6 : Nat) (q7 : Nat) (q8 : Nat) (q9 : Nat) (q10 : Nat) (q11 : Nat) (q12 : Nat) (q13 : Nat) (q14 : Nat) (q15 : Nat) (q16 : Nat) (k_f4 : ClassId) (f4 : Nat → Int32) (k_f5 : ClassId) (f5 : Nat → Int32) (k_f6 : ClassId) (f6 : Nat → Int32) (k_f7 : ClassId) (f7 : Nat → Int32) (k_f8 : ClassId) (f8 : Nat → Int32) (k_f9 : ClassId) (f9 : Nat → Int32) (k_f10 : ClassId) (f10 : Nat → Int32) (k_f11 : ClassId) (f11 : Nat → Int32) (k_f12 : ClassId) (f12 : Nat → Int32) (k_f13 : ClassId) (f13 : Nat → Int32) (k_f14 : ClassId) (f14 : Nat → Int32) (k_f15 : ClassId) (f15 : Nat → Int32) (k_f16 : ClassId) (f16 : Nat → Int32) (z : Nat) (zc : Nat) (zn : Int32) (k_fz : ClassId) (fz : Nat → Int32) : va_W := [(au, .inr (0, [.int nc, .int np, .int ne, .int st0, .ref q4, .ref q5, .ref q6, .ref q7, .ref q8, .ref q9, .ref q10, .ref q11, .ref q12, .ref q13, .ref q14, .ref q15, .ref q16])), (q4, .inl (k_f4, 8, .inl f4)), (q5, .inl (k_f5, 14, .inl f5)), (q6, .inl (k_f6, 14, .inl f6)), (q7, .inl (k_f7, 14, .inl f7)), (q8, .inl (k_f8, 22, .inl f8)), (q9, .inl (k_f9, 88, .inl f9)), (q10, .inl (k_f10, 88, .inl f10)), (q11, .inl (k_f11, 88, .inl f11)), (q12, .inl (k_f12, 88, .inl f12)), (q13, .inl (k_f13, 88, .inl f13)), (q14, .inl (k_f14, 4, .inl f14)), (q15, .inl (k_f15, 4, .inl f15)), (q16, .inl (k_f16, 4, .inl f16)), (z, .inr (7, [.ref zc, .int zn])), (zc, .inl (k_fz, 25, .inl fz))]
abbrev az25__t (k_f4 k_f5 k_f6 k_f7 k_f8 k_f9 k_f10 k_f11 k_f12 k_f13 k_f14 k_f15 k_f16 k_fz : ClassId) : List (ClassId × FieldType) := [(k_f4, .boolean), (k_f5, .int), (k_f6, .int), (k_f7, .int), (k_f8, .int), (k_f9, .int), (k_f10, .int), (k_f11, .int), (k_f12, .int), (k_f13, .int), (k_f14, .int), (k_f15, .int), (k_f16, .int), (k_fz, .int)]
abbrev ti__w (ti : Nat) (r0 : Nat) (ln : Int32) (r2 : Nat) (r3 : Nat) (r4 : Nat) (r5 : Nat) (nr : Int32) (r7 : Nat) (r8 : Nat) (tz : Nat) (k_j0 : ClassId) (j0 : Nat → Int32) (k_j2 : ClassId) (j2 : Nat → Int32) (k_j3 : ClassId) (j3 : Nat → Int32) (k_j4 : ClassId) (j4 : Nat → Int32) (k_j5 : ClassId) (j5 : Nat → Int32) (k_j7 : ClassId) (j7 : Nat → Int32) (k_j8 : ClassId) (j8 : Nat → Int32) : va_W := [(ti, .inr (6, [.ref r0, .int ln, .ref r2, .ref r3, .ref r4, .ref r5, .int nr, .ref r7, .ref r8, .ref tz])), (r0, .inl (k_j0, 120, .inl j0)), (r2, .inl (k_j2, 121, .inl j2)), (r3, .inl (k_j3, 1920, .inl j3)), (r4, .inl (k_j4, 1920, .inl j4)), (r5, .inl (k_j5, 1920, .inl j5)), (r7, .inl (k_j7, 3, .inl j7)), (r8, .inl (k_j8, 5, .inl j8))]
abbrev ti__t (k_j0 k_j2 k_j3 k_j4 k_j5 k_j7 k_j8 : ClassId) : List (ClassId × FieldType) := [(k_j0, .int), (k_j2, .int), (k_j3, .int), (k_j4, .int), (k_j5, .int), (k_j7, .int), (k_j8, .int)]
abbrev ta__w (ti : Nat) (r0 : Nat) (ln : Int32) (r2 : Nat) (r3 : Nat) (r4 : Nat) (r5 : Nat) (nr : Int32) (r7 : Nat) (r8 : Nat) (tz : Nat) (k_j0 : ClassId) (j0 : Nat → Int32) (k_j2 : ClassId) (j2 : Nat → Int32) (k_j3 : ClassId) (j3 : Nat → Int32) (k_j4 : ClassId) (j4 : Nat → Int32) (k_j5 : ClassId) (j5 : Nat → Int32) (k_j7 : ClassId) (j7 : Nat → Int32) (k_j8 : ClassId) (j8 : Nat → Int32) (au : Nat) (nc : Int32) (np : Int32) (ne : Int32) (st0 : Int32) (q4 : Nat) (q5 : Nat) (q6 : Nat) (q7 : Nat) (q8 : Nat) (q9 : Nat) (q10 : Nat) (q11 : Nat) (q12 : Nat) (q13 : Nat) (q14 : Nat) (q15 : Nat) (q16 : Nat) (k_f4 : ClassId) (f4 : Nat → Int32) (k_f5 : ClassId) (f5 : Nat → Int32) (k_f6 : ClassId) (f6 : Nat → Int32) (k_f7 : ClassId) (f7 : Nat → Int32) (k_f8 : ClassId) (f8 : Nat → Int32) (k_f9 : ClassId) (f9 : Nat → Int32) (k_f10 : ClassId) (f10 : Nat → Int32) (k_f11 : ClassId) (f11 : Nat → Int32) (k_f12 : ClassId) (f12 : Nat → Int32) (k_f13 : ClassId) (f13 : Nat → Int32) (k_f14 : ClassId) (f14 : Nat → Int32) (k_f15 : ClassId) (f15 : Nat → Int32) (k_f16 : ClassId) (f16 : Nat → Int32) : va_W := [(ti, .inr (6, [.ref r0, .int ln, .ref r2, .ref r3, .ref r4, .ref r5, .int nr, .ref r7, .ref r8, .ref tz])), (r0, .inl (k_j0, 120, .inl j0)), (r2, .inl (k_j2, 121, .inl j2)), (r3, .inl (k_j3, 1920, .inl j3)), (r4, .inl (k_j4, 1920, .inl j4)), (r5, .inl (k_j5, 1920, .inl j5)), (r7, .inl (k_j7, 3, .inl j7)), (r8, .inl (k_j8, 5, .inl j8)), (au, .inr (0, [.int nc, .int np, .int ne, .int st0, .ref q4, .ref q5, .ref q6, .ref q7, .ref q8, .ref q9, .ref q10, .ref q11, .ref q12, .ref q13, .ref q14, .ref q15, .ref q16])), (q4, .inl (k_f4, 8, .inl f4)), (q5, .inl (k_f5, 14, .inl f5)), (q6, .inl (k_f6, 14, .inl f6)), (q7, .inl (k_f7, 14, .inl f7)), (q8, .inl (k_f8, 22, .inl f8)), (q9, .inl (k_f9, 88, .inl f9)), (q10, .inl (k_f10, 88, .inl f10)), (q11, .inl (k_f11, 88, .inl f11)), (q12, .inl (k_f12, 88, .inl f12)), (q13, .inl (k_f13, 88, .inl f13)), (q14, .inl (k_f14, 4, .inl f14)), (q15, .inl (k_f15, 4, .inl f15)), (q16, .inl (k_f16, 4, .inl f16))]
abbrev ta__t (k_j0 k_j2 k_j3 k_j4 k_j5 k_j7 k_j8 k_f4 k_f5 k_f6 k_f7 k_f8 k_f9 k_f10 k_f11 k_f12 k_f13 k_f14 k_f15 k_f16 : ClassId) : List (ClassId × FieldType) := [(k_j0, .int), (k_j2, .int), (k_j3, .int), (k_j4, .int), (k_j5, .int), (k_j7, .int), (k_j8, .int), (k_f4, .boolean), (k_f5, .int), (k_f6, .int), (k_f7, .int), (k_f8, .int), (k_f9, .int), (k_f10, .int), (k_f11, .int), (k_f12, .int), (k_f13, .int), (k_f14, .int), (k_f15, .int), (k_f16, .int)]
abbrev tz__w (ti : Nat) (r0 : Nat) (ln : Int32) (r2 : Nat) (r3 : Nat) (r4 : Nat) (r5 : Nat) (nr : Int32) (r7 : Nat) (r8 : Nat) (tz : Nat) (k_j0 : ClassId) (j0 : Nat → Int32) (k_j2 : ClassId) (j2 : Nat → Int32) (k_j3 : ClassId) (j3 : Nat → Int32) (k_j4 : ClassId) (j4 : Nat → Int32) (k_j5 : ClassId) (j5 : Nat → Int32) (k_j7 : ClassId) (j7 : Nat → Int32) (k_j8 : ClassId) (j8 : Nat → Int32) (au : Nat) (nc : Int32) (np : Int32) (ne : Int32) (st0 : Int32) (q4 : Nat) (q5 : Nat) (q6 : Nat) (q7 : Nat) (q8 : Nat) (q9 : Nat) (q10 : Nat) (q11 : Nat) (q12 : Nat) (q13 : Nat) (q14 : Nat) (q15 : Nat) (q16 : Nat) (k_f4 : ClassId) (f4 : Nat → Int32) (k_f5 : ClassId) (f5 : Nat → Int32) (k_f6 : ClassId) (f6 : Nat → Int32) (k_f7 : ClassId) (f7 : Nat → Int32) (k_f8 : ClassId) (f8 : Nat → Int32) (k_f9 : ClassId) (f9 : Nat → Int32) (k_f10 : ClassId) (f10 : Nat → Int32) (k_f11 : ClassId) (f11 : Nat → Int32) (k_f12 : ClassId) (f12 : Nat → Int32) (k_f13 : ClassId) (f13 : Nat → Int32) (k_f14 : ClassId) (f14 : Nat → Int32) (k_f15 : ClassId) (f15 : Nat → Int32) (k_f16 : ClassId) (f16 : Nat → Int32) (tzc : Nat) (tzn : Int32) (k_ftz : ClassId) (ftz : Nat → Int32) : va_W := [(ti, .inr (6, [.ref r0, .int ln, .ref r2, .ref r3, .ref r4, .ref r5, .int nr, .ref r7, .ref r8, .ref tz])), (r0, .inl (k_j0, 120, .inl j0)), (r2, .inl (k_j2, 121, .inl j2)), (r3, .inl (k_j3, 1920, .inl j3)), (r4, .inl (k_j4, 1920, .inl j4)), (r5, .inl (k_j5, 1920, .inl j5)), (r7, .inl (k_j7, 3, .inl j7)), (r8, .inl (k_j8, 5, .inl j8)), (au, .inr (0, [.int nc, .int np, .int ne, .int st0, .ref q4, .ref q5, .ref q6, .ref q7, .ref q8, .ref q9, .ref q10, .ref q11, .ref q12, .ref q13, .ref q14, .ref q15, .ref q16])), (q4, .inl (k_f4, 8, .inl f4)), (q5, .inl (k_f5, 14, .inl f5)), (q6, .inl (k_f6, 14, .inl f6)), (q7, .inl (k_f7, 14, .inl f7)), (q8, .inl (k_f8, 22, .inl f8)), (q9, .inl (k_f9, 88, .inl f9)), (q10, .inl (k_f10, 88, .inl f10)), (q11, .inl (k_f11, 88, .inl f11)), (q12, .inl (k_f12, 88, .inl f12)), (q13, .inl (k_f13, 88, .inl f13)), (q14, .inl (k_f14, 4, .inl f14)), (q15, .inl (k_f15, 4, .inl f15)), (q16, .inl (k_f16, 4, .inl f16)), (tz, .inr (7, [.ref tzc, .int tzn])), (tzc, .inl (k_ftz, 25, .inl ftz))]
abbrev tz__t (k_j0 k_j2 k_j3 k_j4 k_j5 k_j7 k_j8 k_f4 k_f5 k_f6 k_f7 k_f8 k_f9 k_f10 k_f11 k_f12 k_f13 k_f14 k_f15 k_f16 k_ftz : ClassId) : List (ClassId × FieldType) := [(k_j0, .int), (k_j2, .int), (k_j3, .int), (k_j4, .int), (k_j5, .int), (k_j7, .int), (k_j8, .int), (k_f4, .boolean), (k_f5, .int), (k_f6, .int), (k_f7, .int), (k_f8, .int), (k_f9, .int), (k_f10, .int), (k_f11, .int), (k_f12, .int), (k_f13, .int), (k_f14, .int), (k_f15, .int), (k_f16, .int), (k_ftz, .int)]
abbrev tg__w (ti : Nat) (r0 : Nat) (ln : Int32) (r2 : Nat) (r3 : Nat) (r4 : Nat) (r5 : Nat) (nr : Int32) (r7 : Nat) (r8 : Nat) (tz : Nat) (k_j0 : ClassId) (j0 : Nat → Int32) (k_j2 : ClassId) (j2 : Nat → Int32) (k_j3 : ClassId) (j3 : Nat → Int32) (k_j4 : ClassId) (j4 : Nat → Int32) (k_j5 : ClassId) (j5 : Nat → Int32) (k_j7 : ClassId) (j7 : Nat → Int32) (k_j8 : ClassId) (j8 : Nat → Int32) (g : Nat) (gz : Nat) (g1 : Nat) (g2 : Nat) (g3 : Nat) (g4 : Nat) (g5 : Nat) (gc : Int32) (gfull : Int32) (gx : Int32) (gway : Int32) (gav : Int32) (ggoal : Int32) (gfound : Int32) (gmost : Int32) (gl : Int32) (gsz : Int32) (g16 : Nat) (g17 : Nat) (k_fs2 : ClassId) (fs2 : Nat → Int32) (k_fs3 : ClassId) (fs3 : Nat → Int32) (k_fs4 : ClassId) (fs4 : Nat → Int32) : va_W := [(ti, .inr (6, [.ref r0, .int ln, .ref r2, .ref r3, .ref r4, .ref r5, .int nr, .ref r7, .ref r8, .ref tz])), (r0, .inl (k_j0, 120, .inl j0)), (r2, .inl (k_j2, 121, .inl j2)), (r3, .inl (k_j3, 1920, .inl j3)), (r4, .inl (k_j4, 1920, .inl j4)), (r5, .inl (k_j5, 1920, .inl j5)), (r7, .inl (k_j7, 3, .inl j7)), (r8, .inl (k_j8, 5, .inl j8)), (g, .inr (1, [.ref gz, .ref g1, .ref g2, .ref g3, .ref g4, .ref g5, .int gc, .int gfull, .int gx, .int gway, .int gav, .int ggoal, .int gfound, .int gmost, .int gl, .int gsz, .ref g16, .ref g17])), (g2, .inl (k_fs2, 120, .inl fs2)), (g3, .inl (k_fs3, 120, .inl fs3)), (g4, .inl (k_fs4, 120, .inl fs4))]
abbrev tg__t (k_j0 k_j2 k_j3 k_j4 k_j5 k_j7 k_j8 k_fs2 k_fs3 k_fs4 : ClassId) : List (ClassId × FieldType) := [(k_j0, .int), (k_j2, .int), (k_j3, .int), (k_j4, .int), (k_j5, .int), (k_j7, .int), (k_j8, .int), (k_fs2, .int), (k_fs3, .int), (k_fs4, .int)]
abbrev gs0__w (g : Nat) (gz : Nat) (g1 : Nat) (g2 : Nat) (g3 : Nat) (g4 : Nat) (g5 : Nat) (gc : Int32) (gfull : Int32) (gx : Int32) (gway : Int32) (gav : Int32) (ggoal : Int32) (gfound : Int32) (gmost : Int32) (gl : Int32) (gsz : Int32) (g16 : Nat) (g17 : Nat) (k_fgz : ClassId) (fgz : Nat → Option Nat) (k_fs1 : ClassId) (fs1 : Nat → Int32) (k_fs2 : ClassId) (fs2 : Nat → Int32) (k_fs3 : ClassId) (fs3 : Nat → Int32) (k_fs4 : ClassId) (fs4 : Nat → Int32) (k_fs5 : ClassId) (fs5 : Nat → Int32) (k_fhi : ClassId) (fhi : Nat → Int32) (k_flo : ClassId) (flo : Nat → Int32) : va_W := [(g, .inr (1, [.ref gz, .ref g1, .ref g2, .ref g3, .ref g4, .ref g5, .int gc, .int gfull, .int gx, .int gway, .int gav, .int ggoal, .int gfound, .int gmost, .int gl, .int gsz, .ref g16, .ref g17])), (gz, .inl (k_fgz, 121, .inr (.inr (.inr (.inr fgz))))), (g1, .inl (k_fs1, 120, .inl fs1)), (g2, .inl (k_fs2, 120, .inl fs2)), (g3, .inl (k_fs3, 120, .inl fs3)), (g4, .inl (k_fs4, 120, .inl fs4)), (g5, .inl (k_fs5, 120, .inl fs5)), (g16, .inl (k_fhi, 5, .inl fhi)), (g17, .inl (k_flo, 5, .inl flo))]
abbrev gs0__t (k_fgz k_fs1 k_fs2 k_fs3 k_fs4 k_fs5 k_fhi k_flo : ClassId) : List (ClassId × FieldType) := [(k_fgz, .object RX7), (k_fs1, .int), (k_fs2, .int), (k_fs3, .int), (k_fs4, .int), (k_fs5, .int), (k_fhi, .int), (k_flo, .int)]
abbrev gs1__w (g : Nat) (gz : Nat) (g1 : Nat) (g2 : Nat) (g3 : Nat) (g4 : Nat) (g5 : Nat) (gc : Int32) (gfull : Int32) (gx : Int32) (gway : Int32) (gav : Int32) (ggoal : Int32) (gfound : Int32) (gmost : Int32) (gl : Int32) (gsz : Int32) (g16 : Nat) (g17 : Nat) (k_fgz : ClassId) (fgz : Nat → Option Nat) (k_fs1 : ClassId) (fs1 : Nat → Int32) (k_fs2 : ClassId) (fs2 : Nat → Int32) (k_fs3 : ClassId) (fs3 : Nat → Int32) (k_fs4 : ClassId) (fs4 : Nat → Int32) (k_fs5 : ClassId) (fs5 : Nat → Int32) (k_fhi : ClassId) (fhi : Nat → Int32) (k_flo : ClassId) (flo : Nat → Int32) (au : Nat) (nc : Int32) (np : Int32) (ne : Int32) (st0 : Int32) (q4 : Nat) (q5 : Nat) (q6 : Nat) (q7 : Nat) (q8 : Nat) (q9 : Nat) (q10 : Nat) (q11 : Nat) (q12 : Nat) (q13 : Nat) (q14 : Nat) (q15 : Nat) (q16 : Nat) (k_f4 : ClassId) (f4 : Nat → Int32) (k_f5 : ClassId) (f5 : Nat → Int32) (k_f6 : ClassId) (f6 : Nat → Int32) (k_f7 : ClassId) (f7 : Nat → Int32) (k_f8 : ClassId) (f8 : Nat → Int32) (k_f9 : ClassId) (f9 : Nat → Int32) (k_f10 : ClassId) (f10 : Nat → Int32) (k_f11 : ClassId) (f11 : Nat → Int32) (k_f12 : ClassId) (f12 : Nat → Int32) (k_f13 : ClassId) (f13 : Nat → Int32) (k_f14 : ClassId) (f14 : Nat → Int32) (k_f15 : ClassId) (f15 : Nat → Int32) (k_f16 : ClassId) (f16 : Nat → Int32) : va_W := [(g, .inr (1, [.ref gz, .ref g1, .ref g2, .ref g3, .ref g4, .ref g5, .int gc, .int gfull, .int gx, .int gway, .int gav, .int ggoal, .int gfound, .int gmost, .int gl, .int gsz, .ref g16, .ref g17])), (gz, .inl (k_fgz, 121, .inr (.inr (.inr (.inr fgz))))), (g1, .inl (k_fs1, 120, .inl fs1)), (g2, .inl (k_fs2, 120, .inl fs2)), (g3, .inl (k_fs3, 120, .inl fs3)), (g4, .inl (k_fs4, 120, .inl fs4)), (g5, .inl (k_fs5, 120, .inl fs5)), (g16, .inl (k_fhi, 5, .inl fhi)), (g17, .inl (k_flo, 5, .inl flo)), (au, .inr (0, [.int nc, .int np, .int ne, .int st0, .ref q4, .ref q5, .ref q6, .ref q7, .ref q8, .ref q9, .ref q10, .ref q11, .ref q12, .ref q13, .ref q14, .ref q15, .ref q16])), (q4, .inl (k_f4, 8, .inl f4)), (q5, .inl (k_f5, 14, .inl f5)), (q6, .inl (k_f6, 14, .inl f6)), (q7, .inl (k_f7, 14, .inl f7)), (q8, .inl (k_f8, 22, .inl f8)), (q9, .inl (k_f9, 88, .inl f9)), (q10, .inl (k_f10, 88, .inl f10)), (q11, .inl (k_f11, 88, .inl f11)), (q12, .inl (k_f12, 88, .inl f12)), (q13, .inl (k_f13, 88, .inl f13)), (q14, .inl (k_f14, 4, .inl f14)), (q15, .inl (k_f15, 4, .inl f15)), (q16, .inl (k_f16, 4, .inl f16))]
abbrev gs1__t (k_fgz k_fs1 k_fs2 k_fs3 k_fs4 k_fs5 k_fhi k_flo k_f4 k_f5 k_f6 k_f7 k_f8 k_f9 k_f10 k_f11 k_f12 k_f13 k_f14 k_f15 k_f16 : ClassId) : List (ClassId × FieldType) := [(k_fgz, .object RX7), (k_fs1, .int), (k_fs2, .int), (k_fs3, .int), (k_fs4, .int), (k_fs5, .int), (k_fhi, .int), (k_flo, .int), (k_f4, .boolean), (k_f5, .int), (k_f6, .int), (k_f7, .int), (k_f8, .int), (k_f9, .int), (k_f10, .int), (k_f11, .int), (k_f12, .int), (k_f13, .int), (k_f14, .int), (k_f15, .int), (k_f16, .int)]
abbrev gs2__w (g : Nat) (gz : Nat) (g1 : Nat) (g2 : Nat) (g3 : Nat) (g4 : Nat) (g5 : Nat) (gc : Int32) (gfull : Int32) (gx : Int32) (gway : Int32) (gav : Int32) (ggoal : Int32) (gfound : Int32) (gmost : Int32) (gl : Int32) (gsz : Int32) (g16 : Nat) (g17 : Nat) (k_fgz : ClassId) (fgz : Nat → Option Nat) (k_fs1 : ClassId) (fs1 : Nat → Int32) (k_fs2 : ClassId) (fs2 : Nat → Int32) (k_fs3 : ClassId) (fs3 : Nat → Int32) (k_fs4 : ClassId) (fs4 : Nat → Int32) (k_fs5 : ClassId) (fs5 : Nat → Int32) (k_fhi : ClassId) (fhi : Nat → Int32) (k_flo : ClassId) (flo : Nat → Int32) (au : Nat) (nc : Int32) (np : Int32) (ne : Int32) (st0 : Int32) (q4 : Nat) (q5 : Nat) (q6 : Nat) (q7 : Nat) (q8 : Nat) (q9 : Nat) (q10 : Nat) (q11 : Nat) (q12 : Nat) (q13 : Nat) (q14 : Nat) (q15 : Nat) (q16 : Nat) (k_f4 : ClassId) (f4 : Nat → Int32) (k_f5 : ClassId) (f5 : Nat → Int32) (k_f6 : ClassId) (f6 : Nat → Int32) (k_f7 : ClassId) (f7 : Nat → Int32) (k_f8 : ClassId) (f8 : Nat → Int32) (k_f9 : ClassId) (f9 : Nat → Int32) (k_f10 : ClassId) (f10 : Nat → Int32) (k_f11 : ClassId) (f11 : Nat → Int32) (k_f12 : ClassId) (f12 : Nat → Int32) (k_f13 : ClassId) (f13 : Nat → Int32) (k_f14 : ClassId) (f14 : Nat → Int32) (k_f15 : ClassId) (f15 : Nat → Int32) (k_f16 : ClassId) (f16 : Nat → Int32) (bu : Nat) (k_fbu : ClassId) (fbu : Nat → Int32) : va_W := [(g, .inr (1, [.ref gz, .ref g1, .ref g2, .ref g3, .ref g4, .ref g5, .int gc, .int gfull, .int gx, .int gway, .int gav, .int ggoal, .int gfound, .int gmost, .int gl, .int gsz, .ref g16, .ref g17])), (gz, .inl (k_fgz, 121, .inr (.inr (.inr (.inr fgz))))), (g1, .inl (k_fs1, 120, .inl fs1)), (g2, .inl (k_fs2, 120, .inl fs2)), (g3, .inl (k_fs3, 120, .inl fs3)), (g4, .inl (k_fs4, 120, .inl fs4)), (g5, .inl (k_fs5, 120, .inl fs5)), (g16, .inl (k_fhi, 5, .inl fhi)), (g17, .inl (k_flo, 5, .inl flo)), (au, .inr (0, [.int nc, .int np, .int ne, .int st0, .ref q4, .ref q5, .ref q6, .ref q7, .ref q8, .ref q9, .ref q10, .ref q11, .ref q12, .ref q13, .ref q14, .ref q15, .ref q16])), (q4, .inl (k_f4, 8, .inl f4)), (q5, .inl (k_f5, 14, .inl f5)), (q6, .inl (k_f6, 14, .inl f6)), (q7, .inl (k_f7, 14, .inl f7)), (q8, .inl (k_f8, 22, .inl f8)), (q9, .inl (k_f9, 88, .inl f9)), (q10, .inl (k_f10, 88, .inl f10)), (q11, .inl (k_f11, 88, .inl f11)), (q12, .inl (k_f12, 88, .inl f12)), (q13, .inl (k_f13, 88, .inl f13)), (q14, .inl (k_f14, 4, .inl f14)), (q15, .inl (k_f15, 4, .inl f15)), (q16, .inl (k_f16, 4, .inl f16)), (bu, .inl (k_fbu, 5, .inl fbu))]
abbrev gs2__t (k_fgz k_fs1 k_fs2 k_fs3 k_fs4 k_fs5 k_fhi k_flo k_f4 k_f5 k_f6 k_f7 k_f8 k_f9 k_f10 k_f11 k_f12 k_f13 k_f14 k_f15 k_f16 k_fbu : ClassId) : List (ClassId × FieldType) := [(k_fgz, .object RX7), (k_fs1, .int), (k_fs2, .int), (k_fs3, .int), (k_fs4, .int), (k_fs5, .int), (k_fhi, .int), (k_flo, .int), (k_f4, .boolean), (k_f5, .int), (k_f6, .int), (k_f7, .int), (k_f8, .int), (k_f9, .int), (k_f10, .int), (k_f11, .int), (k_f12, .int), (k_f13, .int), (k_f14, .int), (k_f15, .int), (k_f16, .int), (k_fbu, .int)]
abbrev gt0__w (g : Nat) (gz : Nat) (g1 : Nat) (g2 : Nat) (g3 : Nat) (g4 : Nat) (g5 : Nat) (gc : Int32) (gfull : Int32) (gx : Int32) (gway : Int32) (gav : Int32) (ggoal : Int32) (gfound : Int32) (gmost : Int32) (gl : Int32) (gsz : Int32) (g16 : Nat) (g17 : Nat) (k_fgz : ClassId) (fgz : Nat → Option Nat) (k_fs1 : ClassId) (fs1 : Nat → Int32) (k_fs2 : ClassId) (fs2 : Nat → Int32) (k_fs3 : ClassId) (fs3 : Nat → Int32) (k_fs4 : ClassId) (fs4 : Nat → Int32) (k_fs5 : ClassId) (fs5 : Nat → Int32) (k_fhi : ClassId) (fhi : Nat → Int32) (k_flo : ClassId) (flo : Nat → Int32) : va_W := [(g, .inr (1, [.ref gz, .ref g1, .ref g2, .ref g3, .ref g4, .ref g5, .int gc, .int gfull, .int gx, .int gway, .int gav, .int ggoal, .int gfound, .int gmost, .int gl, .int gsz, .ref g16, .ref g17])), (gz, .inl (k_fgz, 401, .inr (.inr (.inr (.inr fgz))))), (g1, .inl (k_fs1, 400, .inl fs1)), (g2, .inl (k_fs2, 400, .inl fs2)), (g3, .inl (k_fs3, 400, .inl fs3)), (g4, .inl (k_fs4, 400, .inl fs4)), (g5, .inl (k_fs5, 400, .inl fs5)), (g16, .inl (k_fhi, 5, .inl fhi)), (g17, .inl (k_flo, 5, .inl flo))]
abbrev gt0__t (k_fgz k_fs1 k_fs2 k_fs3 k_fs4 k_fs5 k_fhi k_flo : ClassId) : List (ClassId × FieldType) := [(k_fgz, .object RX7), (k_fs1, .int), (k_fs2, .int), (k_fs3, .int), (k_fs4, .int), (k_fs5, .int), (k_fhi, .int), (k_flo, .int)]
abbrev gt1__w (g : Nat) (gz : Nat) (g1 : Nat) (g2 : Nat) (g3 : Nat) (g4 : Nat) (g5 : Nat) (gc : Int32) (gfull : Int32) (gx : Int32) (gway : Int32) (gav : Int32) (ggoal : Int32) (gfound : Int32) (gmost : Int32) (gl : Int32) (gsz : Int32) (g16 : Nat) (g17 : Nat) (k_fgz : ClassId) (fgz : Nat → Option Nat) (k_fs1 : ClassId) (fs1 : Nat → Int32) (k_fs2 : ClassId) (fs2 : Nat → Int32) (k_fs3 : ClassId) (fs3 : Nat → Int32) (k_fs4 : ClassId) (fs4 : Nat → Int32) (k_fs5 : ClassId) (fs5 : Nat → Int32) (k_fhi : ClassId) (fhi : Nat → Int32) (k_flo : ClassId) (flo : Nat → Int32) (au : Nat) (nc : Int32) (np : Int32) (ne : Int32) (st0 : Int32) (q4 : Nat) (q5 : Nat) (q6 : Nat) (q7 : Nat) (q8 : Nat) (q9 : Nat) (q10 : Nat) (q11 : Nat) (q12 : Nat) (q13 : Nat) (q14 : Nat) (q15 : Nat) (q16 : Nat) (k_f4 : ClassId) (f4 : Nat → Int32) (k_f5 : ClassId) (f5 : Nat → Int32) (k_f6 : ClassId) (f6 : Nat → Int32) (k_f7 : ClassId) (f7 : Nat → Int32) (k_f8 : ClassId) (f8 : Nat → Int32) (k_f9 : ClassId) (f9 : Nat → Int32) (k_f10 : ClassId) (f10 : Nat → Int32) (k_f11 : ClassId) (f11 : Nat → Int32) (k_f12 : ClassId) (f12 : Nat → Int32) (k_f13 : ClassId) (f13 : Nat → Int32) (k_f14 : ClassId) (f14 : Nat → Int32) (k_f15 : ClassId) (f15 : Nat → Int32) (k_f16 : ClassId) (f16 : Nat → Int32) : va_W := [(g, .inr (1, [.ref gz, .ref g1, .ref g2, .ref g3, .ref g4, .ref g5, .int gc, .int gfull, .int gx, .int gway, .int gav, .int ggoal, .int gfound, .int gmost, .int gl, .int gsz, .ref g16, .ref g17])), (gz, .inl (k_fgz, 401, .inr (.inr (.inr (.inr fgz))))), (g1, .inl (k_fs1, 400, .inl fs1)), (g2, .inl (k_fs2, 400, .inl fs2)), (g3, .inl (k_fs3, 400, .inl fs3)), (g4, .inl (k_fs4, 400, .inl fs4)), (g5, .inl (k_fs5, 400, .inl fs5)), (g16, .inl (k_fhi, 5, .inl fhi)), (g17, .inl (k_flo, 5, .inl flo)), (au, .inr (0, [.int nc, .int np, .int ne, .int st0, .ref q4, .ref q5, .ref q6, .ref q7, .ref q8, .ref q9, .ref q10, .ref q11, .ref q12, .ref q13, .ref q14, .ref q15, .ref q16])), (q4, .inl (k_f4, 8, .inl f4)), (q5, .inl (k_f5, 14, .inl f5)), (q6, .inl (k_f6, 14, .inl f6)), (q7, .inl (k_f7, 14, .inl f7)), (q8, .inl (k_f8, 22, .inl f8)), (q9, .inl (k_f9, 88, .inl f9)), (q10, .inl (k_f10, 88, .inl f10)), (q11, .inl (k_f11, 88, .inl f11)), (q12, .inl (k_f12, 88, .inl f12)), (q13, .inl (k_f13, 88, .inl f13)), (q14, .inl (k_f14, 4, .inl f14)), (q15, .inl (k_f15, 4, .inl f15)), (q16, .inl (k_f16, 4, .inl f16))]
abbrev gt1__t (k_fgz k_fs1 k_fs2 k_fs3 k_fs4 k_fs5 k_fhi k_flo k_f4 k_f5 k_f6 k_f7 k_f8 k_f9 k_f10 k_f11 k_f12 k_f13 k_f14 k_f15 k_f16 : ClassId) : List (ClassId × FieldType) := [(k_fgz, .object RX7), (k_fs1, .int), (k_fs2, .int), (k_fs3, .int), (k_fs4, .int), (k_fs5, .int), (k_fhi, .int), (k_flo, .int), (k_f4, .boolean), (k_f5, .int), (k_f6, .int), (k_f7, .int), (k_f8, .int), (k_f9, .int), (k_f10, .int), (k_f11, .int), (k_f12, .int), (k_f13, .int), (k_f14, .int), (k_f15, .int), (k_f16, .int)]
abbrev gt2__w (g : Nat) (gz : Nat) (g1 : Nat) (g2 : Nat) (g3 : Nat) (g4 : Nat) (g5 : Nat) (gc : Int32) (gfull : Int32) (gx : Int32) (gway : Int32) (gav : Int32) (ggoal : Int32) (gfound : Int32) (gmost : Int32) (gl : Int32) (gsz : Int32) (g16 : Nat) (g17 : Nat) (k_fgz : ClassId) (fgz : Nat → Option Nat) (k_fs1 : ClassId) (fs1 : Nat → Int32) (k_fs2 : ClassId) (fs2 : Nat → Int32) (k_fs3 : ClassId) (fs3 : Nat → Int32) (k_fs4 : ClassId) (fs4 : Nat → Int32) (k_fs5 : ClassId) (fs5 : Nat → Int32) (k_fhi : ClassId) (fhi : Nat → Int32) (k_flo : ClassId) (flo : Nat → Int32) (au : Nat) (nc : Int32) (np : Int32) (ne : Int32) (st0 : Int32) (q4 : Nat) (q5 : Nat) (q6 : Nat) (q7 : Nat) (q8 : Nat) (q9 : Nat) (q10 : Nat) (q11 : Nat) (q12 : Nat) (q13 : Nat) (q14 : Nat) (q15 : Nat) (q16 : Nat) (k_f4 : ClassId) (f4 : Nat → Int32) (k_f5 : ClassId) (f5 : Nat → Int32) (k_f6 : ClassId) (f6 : Nat → Int32) (k_f7 : ClassId) (f7 : Nat → Int32) (k_f8 : ClassId) (f8 : Nat → Int32) (k_f9 : ClassId) (f9 : Nat → Int32) (k_f10 : ClassId) (f10 : Nat → Int32) (k_f11 : ClassId) (f11 : Nat → Int32) (k_f12 : ClassId) (f12 : Nat → Int32) (k_f13 : ClassId) (f13 : Nat → Int32) (k_f14 : ClassId) (f14 : Nat → Int32) (k_f15 : ClassId) (f15 : Nat → Int32) (k_f16 : ClassId) (f16 : Nat → Int32) (bu : Nat) (k_fbu : ClassId) (fbu : Nat → Int32) : va_W := [(g, .inr (1, [.ref gz, .ref g1, .ref g2, .ref g3, .ref g4, .ref g5, .int gc, .int gfull, .int gx, .int gway, .int gav, .int ggoal, .int gfound, .int gmost, .int gl, .int gsz, .ref g16, .ref g17])), (gz, .inl (k_fgz, 401, .inr (.inr (.inr (.inr fgz))))), (g1, .inl (k_fs1, 400, .inl fs1)), (g2, .inl (k_fs2, 400, .inl fs2)), (g3, .inl (k_fs3, 400, .inl fs3)), (g4, .inl (k_fs4, 400, .inl fs4)), (g5, .inl (k_fs5, 400, .inl fs5)), (g16, .inl (k_fhi, 5, .inl fhi)), (g17, .inl (k_flo, 5, .inl flo)), (au, .inr (0, [.int nc, .int np, .int ne, .int st0, .ref q4, .ref q5, .ref q6, .ref q7, .ref q8, .ref q9, .ref q10, .ref q11, .ref q12, .ref q13, .ref q14, .ref q15, .ref q16])), (q4, .inl (k_f4, 8, .inl f4)), (q5, .inl (k_f5, 14, .inl f5)), (q6, .inl (k_f6, 14, .inl f6)), (q7, .inl (k_f7, 14, .inl f7)), (q8, .inl (k_f8, 22, .inl f8)), (q9, .inl (k_f9, 88, .inl f9)), (q10, .inl (k_f10, 88, .inl f10)), (q11, .inl (k_f11, 88, .inl f11)), (q12, .inl (k_f12, 88, .inl f12)), (q13, .inl (k_f13, 88, .inl f13)), (q14, .inl (k_f14, 4, .inl f14)), (q15, .inl (k_f15, 4, .inl f15)), (q16, .inl (k_f16, 4, .inl f16)), (bu, .inl (k_fbu, 5, .inl fbu))]
abbrev gt2__t (k_fgz k_fs1 k_fs2 k_fs3 k_fs4 k_fs5 k_fhi k_flo k_f4 k_f5 k_f6 k_f7 k_f8 k_f9 k_f10 k_f11 k_f12 k_f13 k_f14 k_f15 k_f16 k_fbu : ClassId) : List (ClassId × FieldType) := [(k_fgz, .object RX7), (k_fs1, .int), (k_fs2, .int), (k_fs3, .int), (k_fs4, .int), (k_fs5, .int), (k_fhi, .int), (k_flo, .int), (k_f4, .boolean), (k_f5, .int), (k_f6, .int), (k_f7, .int), (k_f8, .int), (k_f9, .int), (k_f10, .int), (k_f11, .int), (k_f12, .int), (k_f13, .int), (k_f14, .int), (k_f15, .int), (k_f16, .int), (k_fbu, .int)]
abbrev xo__w (xa : Nat) (xtape : Nat) (tp : Int32) (rd : Nat) (au : Nat) (xdr : Nat) (hy : Nat) (g : Nat) (hs : Int32) (tg : Nat) (sg : Nat) (ss : Int32) (rm : Nat) (ti : Nat) (py : Nat) (bu : Nat) (sm : Nat) (nc : Int32) (np : Int32) (ne : Int32) (st0 : Int32) (q4 : Nat) (q5 : Nat) (q6 : Nat) (q7 : Nat) (q8 : Nat) (q9 : Nat) (q10 : Nat) (q11 : Nat) (q12 : Nat) (q13 : Nat) (q14 : Nat) (q15 : Nat) (q16 : Nat) : va_W := [(xa, .inr (8, [.ref xtape, .int tp, .ref rd, .ref au, .ref xdr, .ref hy, .ref g, .int hs, .ref tg, .ref sg, .int ss, .ref rm, .ref ti, .ref py, .ref bu, .ref sm])), (au, .inr (0, [.int nc, .int np, .int ne, .int st0, .ref q4, .ref q5, .ref q6, .ref q7, .ref q8, .ref q9, .ref q10, .ref q11, .ref q12, .ref q13, .ref q14, .ref q15, .ref q16]))]
abbrev xo__t : List (ClassId × FieldType) := []
abbrev xt__w (xa : Nat) (xtape : Nat) (tp : Int32) (rd : Nat) (au : Nat) (xdr : Nat) (hy : Nat) (g : Nat) (hs : Int32) (tg : Nat) (sg : Nat) (ss : Int32) (rm : Nat) (ti : Nat) (py : Nat) (bu : Nat) (sm : Nat) (k_ft : ClassId) (ft : Nat → Int32) : va_W := [(xa, .inr (8, [.ref xtape, .int tp, .ref rd, .ref au, .ref xdr, .ref hy, .ref g, .int hs, .ref tg, .ref sg, .int ss, .ref rm, .ref ti, .ref py, .ref bu, .ref sm])), (xtape, .inl (k_ft, 900, .inl ft))]
abbrev xt__t (k_ft : ClassId) : List (ClassId × FieldType) := [(k_ft, .int)]
abbrev xa__w (xa : Nat) (xtape : Nat) (tp : Int32) (rd : Nat) (au : Nat) (xdr : Nat) (hy : Nat) (g : Nat) (hs : Int32) (tg : Nat) (sg : Nat) (ss : Int32) (rm : Nat) (ti : Nat) (py : Nat) (bu : Nat) (sm : Nat) (nc : Int32) (np : Int32) (ne : Int32) (st0 : Int32) (q4 : Nat) (q5 : Nat) (q6 : Nat) (q7 : Nat) (q8 : Nat) (q9 : Nat) (q10 : Nat) (q11 : Nat) (q12 : Nat) (q13 : Nat) (q14 : Nat) (q15 : Nat) (q16 : Nat) (k_f4 : ClassId) (f4 : Nat → Int32) (k_f5 : ClassId) (f5 : Nat → Int32) (k_f6 : ClassId) (f6 : Nat → Int32) (k_f7 : ClassId) (f7 : Nat → Int32) (k_f8 : ClassId) (f8 : Nat → Int32) (k_f9 : ClassId) (f9 : Nat → Int32) (k_f10 : ClassId) (f10 : Nat → Int32) (k_f11 : ClassId) (f11 : Nat → Int32) (k_f12 : ClassId) (f12 : Nat → Int32) (k_f13 : ClassId) (f13 : Nat → Int32) (k_f14 : ClassId) (f14 : Nat → Int32) (k_f15 : ClassId) (f15 : Nat → Int32) (k_f16 : ClassId) (f16 : Nat → Int32) : va_W := [(xa, .inr (8, [.ref xtape, .int tp, .ref rd, .ref au, .ref xdr, .ref hy, .ref g, .int hs, .ref tg, .ref sg, .int ss, .ref rm, .ref ti, .ref py, .ref bu, .ref sm])), (au, .inr (0, [.int nc, .int np, .int ne, .int st0, .ref q4, .ref q5, .ref q6, .ref q7, .ref q8, .ref q9, .ref q10, .ref q11, .ref q12, .ref q13, .ref q14, .ref q15, .ref q16])), (q4, .inl (k_f4, 8, .inl f4)), (q5, .inl (k_f5, 14, .inl f5)), (q6, .inl (k_f6, 14, .inl f6)), (q7, .inl (k_f7, 14, .inl f7)), (q8, .inl (k_f8, 22, .inl f8)), (q9, .inl (k_f9, 88, .inl f9)), (q10, .inl (k_f10, 88, .inl f10)), (q11, .inl (k_f11, 88, .inl f11)), (q12, .inl (k_f12, 88, .inl f12)), (q13, .inl (k_f13, 88, .inl f13)), (q14, .inl (k_f14, 4, .inl f14)), (q15, .inl (k_f15, 4, .inl f15)), (q16, .inl (k_f16, 4, .inl f16))]
abbrev xa__t (k_f4 k_f5 k_f6 k_f7 k_f8 k_f9 k_f10 k_f11 k_f12 k_f13 k_f14 k_f15 k_f16 : ClassId) : List (ClassId × FieldType) := [(k_f4, .boolean), (k_f5, .int), (k_f6, .int), (k_f7, .int), (k_f8, .int), (k_f9, .int), (k_f10, .int), (k_f11, .int), (k_f12, .int), (k_f13, .int), (k_f14, .int), (k_f15, .int), (k_f16, .int)]
abbrev xp__w (xa : Nat) (xtape : Nat) (tp : Int32) (rd : Nat) (au : Nat) (xdr : Nat) (hy : Nat) (g : Nat) (hs : Int32) (tg : Nat) (sg : Nat) (ss : Int32) (rm : Nat) (ti : Nat) (py : Nat) (bu : Nat) (sm : Nat) (on : Int32) (si : Int32) (ti0 : Int32) (tm : Nat) (bh : Nat) : va_W := [(xa, .inr (8, [.ref xtape, .int tp, .ref rd, .ref au, .ref xdr, .ref hy, .ref g, .int hs, .ref tg, .ref sg, .int ss, .ref rm, .ref ti, .ref py, .ref bu, .ref sm])), (py, .inr (3, [.int on, .int si, .int ti0, .ref tm, .ref bh]))]
abbrev xp__t : List (ClassId × FieldType) := []
abbrev xh__w (xa : Nat) (xtape : Nat) (tp : Int32) (rd : Nat) (au : Nat) (xdr : Nat) (hy : Nat) (g : Nat) (hs : Int32) (tg : Nat) (sg : Nat) (ss : Int32) (rm : Nat) (ti : Nat) (py : Nat) (bu : Nat) (sm : Nat) (nc : Int32) (np : Int32) (ne : Int32) (st0 : Int32) (q4 : Nat) (q5 : Nat) (q6 : Nat) (q7 : Nat) (q8 : Nat) (q9 : Nat) (q10 : Nat) (q11 : Nat) (q12 : Nat) (q13 : Nat) (q14 : Nat) (q15 : Nat) (q16 : Nat) (k_f4 : ClassId) (f4 : Nat → Int32) (k_f5 : ClassId) (f5 : Nat → Int32) (k_f6 : ClassId) (f6 : Nat → Int32) (k_f7 : ClassId) (f7 : Nat → Int32) (k_f8 : ClassId) (f8 : Nat → Int32) (k_f9 : ClassId) (f9 : Nat → Int32) (k_f10 : ClassId) (f10 : Nat → Int32) (k_f11 : ClassId) (f11 : Nat → Int32) (k_f12 : ClassId) (f12 : Nat → Int32) (k_f13 : ClassId) (f13 : Nat → Int32) (k_f14 : ClassId) (f14 : Nat → Int32) (k_f15 : ClassId) (f15 : Nat → Int32) (k_f16 : ClassId) (f16 : Nat → Int32) (hk : Int32) (co : Nat) (ol : Nat) (k_fo : ClassId) (fo : Nat → Int32) (k_fl : ClassId) (fl : Nat → Int32) (on : Int32) (si : Int32) (ti0 : Int32) (tm : Nat) (bh : Nat) : va_W := [(xa, .inr (8, [.ref xtape, .int tp, .ref rd, .ref au, .ref xdr, .ref hy, .ref g, .int hs, .ref tg, .ref sg, .int ss, .ref rm, .ref ti, .ref py, .ref bu, .ref sm])), (au, .inr (0, [.int nc, .int np, .int ne, .int st0, .ref q4, .ref q5, .ref q6, .ref q7, .ref q8, .ref q9, .ref q10, .ref q11, .ref q12, .ref q13, .ref q14, .ref q15, .ref q16])), (q4, .inl (k_f4, 8, .inl f4)), (q5, .inl (k_f5, 14, .inl f5)), (q6, .inl (k_f6, 14, .inl f6)), (q7, .inl (k_f7, 14, .inl f7)), (q8, .inl (k_f8, 22, .inl f8)), (q9, .inl (k_f9, 88, .inl f9)), (q10, .inl (k_f10, 88, .inl f10)), (q11, .inl (k_f11, 88, .inl f11)), (q12, .inl (k_f12, 88, .inl f12)), (q13, .inl (k_f13, 88, .inl f13)), (q14, .inl (k_f14, 4, .inl f14)), (q15, .inl (k_f15, 4, .inl f15)), (q16, .inl (k_f16, 4, .inl f16)), (hy, .inr (2, [.int hk, .ref co, .ref ol])), (co, .inl (k_fo, 20, .inl fo)), (ol, .inl (k_fl, 20, .inl fl)), (py, .inr (3, [.int on, .int si, .int ti0, .ref tm, .ref bh]))]
abbrev xh__t (k_f4 k_f5 k_f6 k_f7 k_f8 k_f9 k_f10 k_f11 k_f12 k_f13 k_f14 k_f15 k_f16 k_fo k_fl : ClassId) : List (ClassId × FieldType) := [(k_f4, .boolean), (k_f5, .int), (k_f6, .int), (k_f7, .int), (k_f8, .int), (k_f9, .int), (k_f10, .int), (k_f11, .int), (k_f12, .int), (k_f13, .int), (k_f14, .int), (k_f15, .int), (k_f16, .int), (k_fo, .int), (k_fl, .int)]
abbrev xr__w (xa : Nat) (xtape : Nat) (tp : Int32) (rd : Nat) (au : Nat) (xdr : Nat) (hy : Nat) (g : Nat) (hs : Int32) (tg : Nat) (sg : Nat) (ss : Int32) (rm : Nat) (ti : Nat) (py : Nat) (bu : Nat) (sm : Nat) (fa : Int32) (fat : Int32) (tx0 : Value) (len : Int32) (pos : Int32) (kd : Int32) (vl : Int32) (tka : Int32) (in0 : Value) (rw : Nat) (rc : Nat) (rp : Nat) : va_W := [(xa, .inr (8, [.ref xtape, .int tp, .ref rd, .ref au, .ref xdr, .ref hy, .ref g, .int hs, .ref tg, .ref sg, .int ss, .ref rm, .ref ti, .ref py, .ref bu, .ref sm])), (rd, .inr (4, [.int fa, .int fat, tx0, .int len, .int pos, .int kd, .int vl, .int tka, in0, .ref rw, .ref rc, .ref rp]))]
abbrev xr__t : List (ClassId × FieldType) := []
abbrev xy__w (xa : Nat) (xtape : Nat) (tp : Int32) (rd : Nat) (au : Nat) (xdr : Nat) (hy : Nat) (g : Nat) (hs : Int32) (tg : Nat) (sg : Nat) (ss : Int32) (rm : Nat) (ti : Nat) (py : Nat) (bu : Nat) (sm : Nat) (nc : Int32) (np : Int32) (ne : Int32) (st0 : Int32) (q4 : Nat) (q5 : Nat) (q6 : Nat) (q7 : Nat) (q8 : Nat) (q9 : Nat) (q10 : Nat) (q11 : Nat) (q12 : Nat) (q13 : Nat) (q14 : Nat) (q15 : Nat) (q16 : Nat) (k_f4 : ClassId) (f4 : Nat → Int32) (k_f5 : ClassId) (f5 : Nat → Int32) (k_f6 : ClassId) (f6 : Nat → Int32) (k_f7 : ClassId) (f7 : Nat → Int32) (k_f8 : ClassId) (f8 : Nat → Int32) (k_f9 : ClassId) (f9 : Nat → Int32) (k_f10 : ClassId) (f10 : Nat → Int32) (k_f11 : ClassId) (f11 : Nat → Int32) (k_f12 : ClassId) (f12 : Nat → Int32) (k_f13 : ClassId) (f13 : Nat → Int32) (k_f14 : ClassId) (f14 : Nat → Int32) (k_f15 : ClassId) (f15 : Nat → Int32) (k_f16 : ClassId) (f16 : Nat → Int32) (on : Int32) (si : Int32) (ti0 : Int32) (tm : Nat) (bh : Nat) (k_ftm : ClassId) (ftm : Nat → Int32) (k_fbh : ClassId) (fbh : Nat → Int32) : va_W := [(xa, .inr (8, [.ref xtape, .int tp, .ref rd, .ref au, .ref xdr, .ref hy, .ref g, .int hs, .ref tg, .ref sg, .int ss, .ref rm, .ref ti, .ref py, .ref bu, .ref sm])), (au, .inr (0, [.int nc, .int np, .int ne, .int st0, .ref q4, .ref q5, .ref q6, .ref q7, .ref q8, .ref q9, .ref q10, .ref q11, .ref q12, .ref q13, .ref q14, .ref q15, .ref q16])), (q4, .inl (k_f4, 8, .inl f4)), (q5, .inl (k_f5, 14, .inl f5)), (q6, .inl (k_f6, 14, .inl f6)), (q7, .inl (k_f7, 14, .inl f7)), (q8, .inl (k_f8, 22, .inl f8)), (q9, .inl (k_f9, 88, .inl f9)), (q10, .inl (k_f10, 88, .inl f10)), (q11, .inl (k_f11, 88, .inl f11)), (q12, .inl (k_f12, 88, .inl f12)), (q13, .inl (k_f13, 88, .inl f13)), (q14, .inl (k_f14, 4, .inl f14)), (q15, .inl (k_f15, 4, .inl f15)), (q16, .inl (k_f16, 4, .inl f16)), (py, .inr (3, [.int on, .int si, .int ti0, .ref tm, .ref bh])), (tm, .inl (k_ftm, 3, .inl ftm)), (bh, .inl (k_fbh, 3, .inl fbh))]
abbrev xy__t (k_f4 k_f5 k_f6 k_f7 k_f8 k_f9 k_f10 k_f11 k_f12 k_f13 k_f14 k_f15 k_f16 k_ftm k_fbh : ClassId) : List (ClassId × FieldType) := [(k_f4, .boolean), (k_f5, .int), (k_f6, .int), (k_f7, .int), (k_f8, .int), (k_f9, .int), (k_f10, .int), (k_f11, .int), (k_f12, .int), (k_f13, .int), (k_f14, .int), (k_f15, .int), (k_f16, .int), (k_ftm, .int), (k_fbh, .int)]
abbrev xg0__w (xa : Nat) (xtape : Nat) (tp : Int32) (rd : Nat) (au : Nat) (xdr : Nat) (hy : Nat) (g : Nat) (hs : Int32) (tg : Nat) (sg : Nat) (ss : Int32) (rm : Nat) (ti : Nat) (py : Nat) (bu : Nat) (sm : Nat) (gz : Nat) (g1 : Nat) (g2 : Nat) (g3 : Nat) (g4 : Nat) (g5 : Nat) (gc : Int32) (gfull : Int32) (gx : Int32) (gway : Int32) (gav : Int32) (ggoal : Int32) (gfound : Int32) (gmost : Int32) (gl : Int32) (gsz : Int32) (g16 : Nat) (g17 : Nat) : va_W := [(xa, .inr (8, [.ref xtape, .int tp, .ref rd, .ref au, .ref xdr, .ref hy, .ref g, .int hs, .ref tg, .ref sg, .int ss, .ref rm, .ref ti, .ref py, .ref bu, .ref sm])), (g, .inr (1, [.ref gz, .ref g1, .ref g2, .ref g3, .ref g4, .ref g5, .int gc, .int gfull, .int gx, .int gway, .int gav, .int ggoal, .int gfound, .int gmost, .int gl, .int gsz, .ref g16, .ref g17]))]
abbrev xg0__t : List (ClassId × FieldType) := []
abbrev xb16__w (xa : Nat) (xtape : Nat) (tp : Int32) (rd : Nat) (au : Nat) (xdr : Nat) (hy : Nat) (g : Nat) (hs : Int32) (tg : Nat) (sg : Nat) (ss : Int32) (rm : Nat) (ti : Nat) (py : Nat) (bu : Nat) (sm : Nat) (nc : Int32) (np : Int32) (ne : Int32) (st0 : Int32) (q4 : Nat) (q5 : Nat) (q6 : Nat) (q7 : Nat) (q8 : Nat) (q9 : Nat) (q10 : Nat) (q11 : Nat) (q12 : Nat) (q13 : Nat) (q14 : Nat) (q15 : Nat) (q16 : Nat) (k_f4 : ClassId) (f4 : Nat → Int32) (k_f5 : ClassId) (f5 : Nat → Int32) (k_f6 : ClassId) (f6 : Nat → Int32) (k_f7 : ClassId) (f7 : Nat → Int32) (k_f8 : ClassId) (f8 : Nat → Int32) (k_f9 : ClassId) (f9 : Nat → Int32) (k_f10 : ClassId) (f10 : Nat → Int32) (k_f11 : ClassId) (f11 : Nat → Int32) (k_f12 : ClassId) (f12 : Nat → Int32) (k_f13 : ClassId) (f13 : Nat → Int32) (k_f14 : ClassId) (f14 : Nat → Int32) (k_f15 : ClassId) (f15 : Nat → Int32) (k_f16 : ClassId) (f16 : Nat → Int32) (gx : Nat) (gxz : Nat) (gx1 : Nat) (gx2 : Nat) (gx3 : Nat) (gx4 : Nat) (gx5 : Nat) (gxc : Int32) (gxfull : Int32) (gxx : Int32) (gxway : Int32) (gxav : Int32) (gxgoal : Int32) (gxfound : Int32) (gxmost : Int32) (gxl : Int32) (gxsz : Int32) (gx16 : Nat) (gx17 : Nat) (k_fgxz : ClassId) (fgxz : Nat → Option Nat) (k_s1gx : ClassId) (s1gx : Nat → Int32) (k_s2gx : ClassId) (s2gx : Nat → Int32) (k_s3gx : ClassId) (s3gx : Nat → Int32) (k_s4gx : ClassId) (s4gx : Nat → Int32) (k_s5gx : ClassId) (s5gx : Nat → Int32) (k_higx : ClassId) (higx : Nat → Int32) (k_logx : ClassId) (logx : Nat → Int32) (k_fbu : ClassId) (fbu : Nat → Int32) : va_W := [(xa, .inr (8, [.ref xtape, .int tp, .ref rd, .ref au, .ref xdr, .ref hy, .ref g, .int hs, .ref tg, .ref sg, .int ss, .ref rm, .ref ti, .ref py, .ref bu, .ref sm])), (au, .inr (0, [.int nc, .int np, .int ne, .int st0, .ref q4, .ref q5, .ref q6, .ref q7, .ref q8, .ref q9, .ref q10, .ref q11, .ref q12, .ref q13, .ref q14, .ref q15, .ref q16])), (q4, .inl (k_f4, 8, .inl f4)), (q5, .inl (k_f5, 14, .inl f5)), (q6, .inl (k_f6, 14, .inl f6)), (q7, .inl (k_f7, 14, .inl f7)), (q8, .inl (k_f8, 22, .inl f8)), (q9, .inl (k_f9, 88, .inl f9)), (q10, .inl (k_f10, 88, .inl f10)), (q11, .inl (k_f11, 88, .inl f11)), (q12, .inl (k_f12, 88, .inl f12)), (q13, .inl (k_f13, 88, .inl f13)), (q14, .inl (k_f14, 4, .inl f14)), (q15, .inl (k_f15, 4, .inl f15)), (q16, .inl (k_f16, 4, .inl f16)), (gx, .inr (1, [.ref gxz, .ref gx1, .ref gx2, .ref gx3, .ref gx4, .ref gx5, .int gxc, .int gxfull, .int gxx, .int gxway, .int gxav, .int gxgoal, .int gxfound, .int gxmost, .int gxl, .int gxsz, .ref gx16, .ref gx17])), (gxz, .inl (k_fgxz, 121, .inr (.inr (.inr (.inr fgxz))))), (gx1, .inl (k_s1gx, 120, .inl s1gx)), (gx2, .inl (k_s2gx, 120, .inl s2gx)), (gx3, .inl (k_s3gx, 120, .inl s3gx)), (gx4, .inl (k_s4gx, 120, .inl s4gx)), (gx5, .inl (k_s5gx, 120, .inl s5gx)), (gx16, .inl (k_higx, 5, .inl higx)), (gx17, .inl (k_logx, 5, .inl logx)), (bu, .inl (k_fbu, 5, .inl fbu))]
abbrev xb16__t (k_f4 k_f5 k_f6 k_f7 k_f8 k_f9 k_f10 k_f11 k_f12 k_f13 k_f14 k_f15 k_f16 k_fgxz k_s1gx k_s2gx k_s3gx k_s4gx k_s5gx k_higx k_logx k_fbu : ClassId) : List (ClassId × FieldType) := [(k_f4, .boolean), (k_f5, .int), (k_f6, .int), (k_f7, .int), (k_f8, .int), (k_f9, .int), (k_f10, .int), (k_f11, .int), (k_f12, .int), (k_f13, .int), (k_f14, .int), (k_f15, .int), (k_f16, .int), (k_fgxz, .object RX7), (k_s1gx, .int), (k_s2gx, .int), (k_s3gx, .int), (k_s4gx, .int), (k_s5gx, .int), (k_higx, .int), (k_logx, .int), (k_fbu, .int)]
abbrev xb25__w (xa : Nat) (xtape : Nat) (tp : Int32) (rd : Nat) (au : Nat) (xdr : Nat) (hy : Nat) (g : Nat) (hs : Int32) (tg : Nat) (sg : Nat) (ss : Int32) (rm : Nat) (ti : Nat) (py : Nat) (bu : Nat) (sm : Nat) (nc : Int32) (np : Int32) (ne : Int32) (st0 : Int32) (q4 : Nat) (q5 : Nat) (q6 : Nat) (q7 : Nat) (q8 : Nat) (q9 : Nat) (q10 : Nat) (q11 : Nat) (q12 : Nat) (q13 : Nat) (q14 : Nat) (q15 : Nat) (q16 : Nat) (k_f4 : ClassId) (f4 : Nat → Int32) (k_f5 : ClassId) (f5 : Nat → Int32) (k_f6 : ClassId) (f6 : Nat → Int32) (k_f7 : ClassId) (f7 : Nat → Int32) (k_f8 : ClassId) (f8 : Nat → Int32) (k_f9 : ClassId) (f9 : Nat → Int32) (k_f10 : ClassId) (f10 : Nat → Int32) (k_f11 : ClassId) (f11 : Nat → Int32) (k_f12 : ClassId) (f12 : Nat → Int32) (k_f13 : ClassId) (f13 : Nat → Int32) (k_f14 : ClassId) (f14 : Nat → Int32) (k_f15 : ClassId) (f15 : Nat → Int32) (k_f16 : ClassId) (f16 : Nat → Int32) (gx : Nat) (gxz : Nat) (gx1 : Nat) (gx2 : Nat) (gx3 : Nat) (gx4 : Nat) (gx5 : Nat) (gxc : Int32) (gxfull : Int32) (gxx : Int32) (gxway : Int32) (gxav : Int32) (gxgoal : Int32) (gxfound : Int32) (gxmost : Int32) (gxl : Int32) (gxsz : Int32) (gx16 : Nat) (gx17 : Nat) (k_fgxz : ClassId) (fgxz : Nat → Option Nat) (k_s1gx : ClassId) (s1gx : Nat → Int32) (k_s2gx : ClassId) (s2gx : Nat → Int32) (k_s3gx : ClassId) (s3gx : Nat → Int32) (k_s4gx : ClassId) (s4gx : Nat → Int32) (k_s5gx : ClassId) (s5gx : Nat → Int32) (k_higx : ClassId) (higx : Nat → Int32) (k_logx : ClassId) (logx : Nat → Int32) (k_fbu : ClassId) (fbu : Nat → Int32) : va_W := [(xa, .inr (8, [.ref xtape, .int tp, .ref rd, .ref au, .ref xdr, .ref hy, .ref g, .int hs, .ref tg, .ref sg, .int ss, .ref rm, .ref ti, .ref py, .ref bu, .ref sm])), (au, .inr (0, [.int nc, .int np, .int ne, .int st0, .ref q4, .ref q5, .ref q6, .ref q7, .ref q8, .ref q9, .ref q10, .ref q11, .ref q12, .ref q13, .ref q14, .ref q15, .ref q16])), (q4, .inl (k_f4, 8, .inl f4)), (q5, .inl (k_f5, 14, .inl f5)), (q6, .inl (k_f6, 14, .inl f6)), (q7, .inl (k_f7, 14, .inl f7)), (q8, .inl (k_f8, 22, .inl f8)), (q9, .inl (k_f9, 88, .inl f9)), (q10, .inl (k_f10, 88, .inl f10)), (q11, .inl (k_f11, 88, .inl f11)), (q12, .inl (k_f12, 88, .inl f12)), (q13, .inl (k_f13, 88, .inl f13)), (q14, .inl (k_f14, 4, .inl f14)), (q15, .inl (k_f15, 4, .inl f15)), (q16, .inl (k_f16, 4, .inl f16)), (gx, .inr (1, [.ref gxz, .ref gx1, .ref gx2, .ref gx3, .ref gx4, .ref gx5, .int gxc, .int gxfull, .int gxx, .int gxway, .int gxav, .int gxgoal, .int gxfound, .int gxmost, .int gxl, .int gxsz, .ref gx16, .ref gx17])), (gxz, .inl (k_fgxz, 401, .inr (.inr (.inr (.inr fgxz))))), (gx1, .inl (k_s1gx, 400, .inl s1gx)), (gx2, .inl (k_s2gx, 400, .inl s2gx)), (gx3, .inl (k_s3gx, 400, .inl s3gx)), (gx4, .inl (k_s4gx, 400, .inl s4gx)), (gx5, .inl (k_s5gx, 400, .inl s5gx)), (gx16, .inl (k_higx, 5, .inl higx)), (gx17, .inl (k_logx, 5, .inl logx)), (bu, .inl (k_fbu, 5, .inl fbu))]
abbrev xb25__t (k_f4 k_f5 k_f6 k_f7 k_f8 k_f9 k_f10 k_f11 k_f12 k_f13 k_f14 k_f15 k_f16 k_fgxz k_s1gx k_s2gx k_s3gx k_s4gx k_s5gx k_higx k_logx k_fbu : ClassId) : List (ClassId × FieldType) := [(k_f4, .boolean), (k_f5, .int), (k_f6, .int), (k_f7, .int), (k_f8, .int), (k_f9, .int), (k_f10, .int), (k_f11, .int), (k_f12, .int), (k_f13, .int), (k_f14, .int), (k_f15, .int), (k_f16, .int), (k_fgxz, .object RX7), (k_s1gx, .int), (k_s2gx, .int), (k_s3gx, .int), (k_s4gx, .int), (k_s5gx, .int), (k_higx, .int), (k_logx, .int), (k_fbu, .int)]
abbrev xg__w (xa : Nat) (xtape : Nat) (tp : Int32) (rd : Nat) (au : Nat) (xdr : Nat) (hy : Nat) (g : Nat) (hs : Int32) (tg : Nat) (sg : Nat) (ss : Int32) (rm : Nat) (ti : Nat) (py : Nat) (bu : Nat) (sm : Nat) (nc : Int32) (np : Int32) (ne : Int32) (st0 : Int32) (q4 : Nat) (q5 : Nat) (q6 : Nat) (q7 : Nat) (q8 : Nat) (q9 : Nat) (q10 : Nat) (q11 : Nat) (q12 : Nat) (q13 : Nat) (q14 : Nat) (q15 : Nat) (q16 : Nat) (k_f4 : ClassId) (f4 : Nat → Int32) (k_f5 : ClassId) (f5 : Nat → Int32) (k_f6 : ClassId) (f6 : Nat → Int32) (k_f7 : ClassId) (f7 : Nat → Int32) (k_f8 : ClassId) (f8 : Nat → Int32) (k_f9 : ClassId) (f9 : Nat → Int32) (k_f10 : ClassId) (f10 : Nat → Int32) (k_f11 : ClassId) (f11 : Nat → Int32) (k_f12 : ClassId) (f12 : Nat → Int32) (k_f13 : ClassId) (f13 : Nat → Int32) (k_f14 : ClassId) (f14 : Nat → Int32) (k_f15 : ClassId) (f15 : Nat → Int32) (k_f16 : ClassId) (f16 : Nat → Int32) (gz : Nat) (g1 : Nat) (g2 : Nat) (g3 : Nat) (g4 : Nat) (g5 : Nat) (gc : Int32) (gfull : Int32) (gx : Int32) (gway : Int32) (gav : Int32) (ggoal : Int32) (gfound : Int32) (gmost : Int32) (gl : Int32) (gsz : Int32) (g16 : Nat) (g17 : Nat) (k_fgz : ClassId) (fgz : Nat → Option Nat) (k_s1g : ClassId) (s1g : Nat → Int32) (k_s2g : ClassId) (s2g : Nat → Int32) (k_s3g : ClassId) (s3g : Nat → Int32) (k_s4g : ClassId) (s4g : Nat → Int32) (k_s5g : ClassId) (s5g : Nat → Int32) (k_hig : ClassId) (hig : Nat → Int32) (k_log : ClassId) (log : Nat → Int32) (k_fbu : ClassId) (fbu : Nat → Int32) : va_W := [(xa, .inr (8, [.ref xtape, .int tp, .ref rd, .ref au, .ref xdr, .ref hy, .ref g, .int hs, .ref tg, .ref sg, .int ss, .ref rm, .ref ti, .ref py, .ref bu, .ref sm])), (au, .inr (0, [.int nc, .int np, .int ne, .int st0, .ref q4, .ref q5, .ref q6, .ref q7, .ref q8, .ref q9, .ref q10, .ref q11, .ref q12, .ref q13, .ref q14, .ref q15, .ref q16])), (q4, .inl (k_f4, 8, .inl f4)), (q5, .inl (k_f5, 14, .inl f5)), (q6, .inl (k_f6, 14, .inl f6)), (q7, .inl (k_f7, 14, .inl f7)), (q8, .inl (k_f8, 22, .inl f8)), (q9, .inl (k_f9, 88, .inl f9)), (q10, .inl (k_f10, 88, .inl f10)), (q11, .inl (k_f11, 88, .inl f11)), (q12, .inl (k_f12, 88, .inl f12)), (q13, .inl (k_f13, 88, .inl f13)), (q14, .inl (k_f14, 4, .inl f14)), (q15, .inl (k_f15, 4, .inl f15)), (q16, .inl (k_f16, 4, .inl f16)), (g, .inr (1, [.ref gz, .ref g1, .ref g2, .ref g3, .ref g4, .ref g5, .int gc, .int gfull, .int gx, .int gway, .int gav, .int ggoal, .int gfound, .int gmost, .int gl, .int gsz, .ref g16, .ref g17])), (gz, .inl (k_fgz, 121, .inr (.inr (.inr (.inr fgz))))), (g1, .inl (k_s1g, 120, .inl s1g)), (g2, .inl (k_s2g, 120, .inl s2g)), (g3, .inl (k_s3g, 120, .inl s3g)), (g4, .inl (k_s4g, 120, .inl s4g)), (g5, .inl (k_s5g, 120, .inl s5g)), (g16, .inl (k_hig, 5, .inl hig)), (g17, .inl (k_log, 5, .inl log)), (bu, .inl (k_fbu, 5, .inl fbu))]
abbrev xg__t (k_f4 k_f5 k_f6 k_f7 k_f8 k_f9 k_f10 k_f11 k_f12 k_f13 k_f14 k_f15 k_f16 k_fgz k_s1g k_s2g k_s3g k_s4g k_s5g k_hig k_log k_fbu : ClassId) : List (ClassId × FieldType) := [(k_f4, .boolean), (k_f5, .int), (k_f6, .int), (k_f7, .int), (k_f8, .int), (k_f9, .int), (k_f10, .int), (k_f11, .int), (k_f12, .int), (k_f13, .int), (k_f14, .int), (k_f15, .int), (k_f16, .int), (k_fgz, .object RX7), (k_s1g, .int), (k_s2g, .int), (k_s3g, .int), (k_s4g, .int), (k_s5g, .int), (k_hig, .int), (k_log, .int), (k_fbu, .int)]
abbrev xtr__w (xa : Nat) (xtape : Nat) (tp : Int32) (rd : Nat) (au : Nat) (xdr : Nat) (hy : Nat) (g : Nat) (hs : Int32) (tg : Nat) (sg : Nat) (ss : Int32) (rm : Nat) (ti : Nat) (py : Nat) (bu : Nat) (sm : Nat) (nc : Int32) (np : Int32) (ne : Int32) (st0 : Int32) (q4 : Nat) (q5 : Nat) (q6 : Nat) (q7 : Nat) (q8 : Nat) (q9 : Nat) (q10 : Nat) (q11 : Nat) (q12 : Nat) (q13 : Nat) (q14 : Nat) (q15 : Nat) (q16 : Nat) (k_f4 : ClassId) (f4 : Nat → Int32) (k_f5 : ClassId) (f5 : Nat → Int32) (k_f6 : ClassId) (f6 : Nat → Int32) (k_f7 : ClassId) (f7 : Nat → Int32) (k_f8 : ClassId) (f8 : Nat → Int32) (k_f9 : ClassId) (f9 : Nat → Int32) (k_f10 : ClassId) (f10 : Nat → Int32) (k_f11 : ClassId) (f11 : Nat → Int32) (k_f12 : ClassId) (f12 : Nat → Int32) (k_f13 : ClassId) (f13 : Nat → Int32) (k_f14 : ClassId) (f14 : Nat → Int32) (k_f15 : ClassId) (f15 : Nat → Int32) (k_f16 : ClassId) (f16 : Nat → Int32) (tz : Nat) (t1 : Nat) (t2 : Nat) (t3 : Nat) (t4 : Nat) (t5 : Nat) (tc : Int32) (tfull : Int32) (tx : Int32) (tway : Int32) (tav : Int32) (tgoal : Int32) (tfound : Int32) (tmost : Int32) (tl : Int32) (tsz : Int32) (t16 : Nat) (t17 : Nat) (k_ftz : ClassId) (ftz : Nat → Option Nat) (k_s1t : ClassId) (s1t : Nat → Int32) (k_s2t : ClassId) (s2t : Nat → Int32) (k_s3t : ClassId) (s3t : Nat → Int32) (k_s4t : ClassId) (s4t : Nat → Int32) (k_s5t : ClassId) (s5t : Nat → Int32) (k_hit : ClassId) (hit : Nat → Int32) (k_lot : ClassId) (lot : Nat → Int32) (k_fbu : ClassId) (fbu : Nat → Int32) : va_W := [(xa, .inr (8, [.ref xtape, .int tp, .ref rd, .ref au, .ref xdr, .ref hy, .ref g, .int hs, .ref tg, .ref sg, .int ss, .ref rm, .ref ti, .ref py, .ref bu, .ref sm])), (au, .inr (0, [.int nc, .int np, .int ne, .int st0, .ref q4, .ref q5, .ref q6, .ref q7, .ref q8, .ref q9, .ref q10, .ref q11, .ref q12, .ref q13, .ref q14, .ref q15, .ref q16])), (q4, .inl (k_f4, 8, .inl f4)), (q5, .inl (k_f5, 14, .inl f5)), (q6, .inl (k_f6, 14, .inl f6)), (q7, .inl (k_f7, 14, .inl f7)), (q8, .inl (k_f8, 22, .inl f8)), (q9, .inl (k_f9, 88, .inl f9)), (q10, .inl (k_f10, 88, .inl f10)), (q11, .inl (k_f11, 88, .inl f11)), (q12, .inl (k_f12, 88, .inl f12)), (q13, .inl (k_f13, 88, .inl f13)), (q14, .inl (k_f14, 4, .inl f14)), (q15, .inl (k_f15, 4, .inl f15)), (q16, .inl (k_f16, 4, .inl f16)), (tg, .inr (1, [.ref tz, .ref t1, .ref t2, .ref t3, .ref t4, .ref t5, .int tc, .int tfull, .int tx, .int tway, .int tav, .int tgoal, .int tfound, .int tmost, .int tl, .int tsz, .ref t16, .ref t17])), (tz, .inl (k_ftz, 121, .inr (.inr (.inr (.inr ftz))))), (t1, .inl (k_s1t, 120, .inl s1t)), (t2, .inl (k_s2t, 120, .inl s2t)), (t3, .inl (k_s3t, 120, .inl s3t)), (t4, .inl (k_s4t, 120, .inl s4t)), (t5, .inl (k_s5t, 120, .inl s5t)), (t16, .inl (k_hit, 5, .inl hit)), (t17, .inl (k_lot, 5, .inl lot)), (bu, .inl (k_fbu, 5, .inl fbu))]
abbrev xtr__t (k_f4 k_f5 k_f6 k_f7 k_f8 k_f9 k_f10 k_f11 k_f12 k_f13 k_f14 k_f15 k_f16 k_ftz k_s1t k_s2t k_s3t k_s4t k_s5t k_hit k_lot k_fbu : ClassId) : List (ClassId × FieldType) := [(k_f4, .boolean), (k_f5, .int), (k_f6, .int), (k_f7, .int), (k_f8, .int), (k_f9, .int), (k_f10, .int), (k_f11, .int), (k_f12, .int), (k_f13, .int), (k_f14, .int), (k_f15, .int), (k_f16, .int), (k_ftz, .object RX7), (k_s1t, .int), (k_s2t, .int), (k_s3t, .int), (k_s4t, .int), (k_s5t, .int), (k_hit, .int), (k_lot, .int), (k_fbu, .int)]
abbrev xso__w (xa : Nat) (xtape : Nat) (tp : Int32) (rd : Nat) (au : Nat) (xdr : Nat) (hy : Nat) (g : Nat) (hs : Int32) (tg : Nat) (sg : Nat) (ss : Int32) (rm : Nat) (ti : Nat) (py : Nat) (bu : Nat) (sm : Nat) (nc : Int32) (np : Int32) (ne : Int32) (st0 : Int32) (q4 : Nat) (q5 : Nat) (q6 : Nat) (q7 : Nat) (q8 : Nat) (q9 : Nat) (q10 : Nat) (q11 : Nat) (q12 : Nat) (q13 : Nat) (q14 : Nat) (q15 : Nat) (q16 : Nat) (k_f4 : ClassId) (f4 : Nat → Int32) (k_f5 : ClassId) (f5 : Nat → Int32) (k_f6 : ClassId) (f6 : Nat → Int32) (k_f7 : ClassId) (f7 : Nat → Int32) (k_f8 : ClassId) (f8 : Nat → Int32) (k_f9 : ClassId) (f9 : Nat → Int32) (k_f10 : ClassId) (f10 : Nat → Int32) (k_f11 : ClassId) (f11 : Nat → Int32) (k_f12 : ClassId) (f12 : Nat → Int32) (k_f13 : ClassId) (f13 : Nat → Int32) (k_f14 : ClassId) (f14 : Nat → Int32) (k_f15 : ClassId) (f15 : Nat → Int32) (k_f16 : ClassId) (f16 : Nat → Int32) (uz : Nat) (u1 : Nat) (u2 : Nat) (u3 : Nat) (u4 : Nat) (u5 : Nat) (uc : Int32) (ufull : Int32) (ux : Int32) (uway : Int32) (uav : Int32) (ugoal : Int32) (ufound : Int32) (umost : Int32) (ul : Int32) (usz : Int32) (u16 : Nat) (u17 : Nat) (k_fuz : ClassId) (fuz : Nat → Option Nat) (k_s1u : ClassId) (s1u : Nat → Int32) (k_s2u : ClassId) (s2u : Nat → Int32) (k_s3u : ClassId) (s3u : Nat → Int32) (k_s4u : ClassId) (s4u : Nat → Int32) (k_s5u : ClassId) (s5u : Nat → Int32) (k_hiu : ClassId) (hiu : Nat → Int32) (k_lou : ClassId) (lou : Nat → Int32) (k_fbu : ClassId) (fbu : Nat → Int32) : va_W := [(xa, .inr (8, [.ref xtape, .int tp, .ref rd, .ref au, .ref xdr, .ref hy, .ref g, .int hs, .ref tg, .ref sg, .int ss, .ref rm, .ref ti, .ref py, .ref bu, .ref sm])), (au, .inr (0, [.int nc, .int np, .int ne, .int st0, .ref q4, .ref q5, .ref q6, .ref q7, .ref q8, .ref q9, .ref q10, .ref q11, .ref q12, .ref q13, .ref q14, .ref q15, .ref q16])), (q4, .inl (k_f4, 8, .inl f4)), (q5, .inl (k_f5, 14, .inl f5)), (q6, .inl (k_f6, 14, .inl f6)), (q7, .inl (k_f7, 14, .inl f7)), (q8, .inl (k_f8, 22, .inl f8)), (q9, .inl (k_f9, 88, .inl f9)), (q10, .inl (k_f10, 88, .inl f10)), (q11, .inl (k_f11, 88, .inl f11)), (q12, .inl (k_f12, 88, .inl f12)), (q13, .inl (k_f13, 88, .inl f13)), (q14, .inl (k_f14, 4, .inl f14)), (q15, .inl (k_f15, 4, .inl f15)), (q16, .inl (k_f16, 4, .inl f16)), (sg, .inr (1, [.ref uz, .ref u1, .ref u2, .ref u3, .ref u4, .ref u5, .int uc, .int ufull, .int ux, .int uway, .int uav, .int ugoal, .int ufound, .int umost, .int ul, .int usz, .ref u16, .ref u17])), (uz, .inl (k_fuz, 401, .inr (.inr (.inr (.inr fuz))))), (u1, .inl (k_s1u, 400, .inl s1u)), (u2, .inl (k_s2u, 400, .inl s2u)), (u3, .inl (k_s3u, 400, .inl s3u)), (u4, .inl (k_s4u, 400, .inl s4u)), (u5, .inl (k_s5u, 400, .inl s5u)), (u16, .inl (k_hiu, 5, .inl hiu)), (u17, .inl (k_lou, 5, .inl lou)), (bu, .inl (k_fbu, 5, .inl fbu))]
abbrev xso__t (k_f4 k_f5 k_f6 k_f7 k_f8 k_f9 k_f10 k_f11 k_f12 k_f13 k_f14 k_f15 k_f16 k_fuz k_s1u k_s2u k_s3u k_s4u k_s5u k_hiu k_lou k_fbu : ClassId) : List (ClassId × FieldType) := [(k_f4, .boolean), (k_f5, .int), (k_f6, .int), (k_f7, .int), (k_f8, .int), (k_f9, .int), (k_f10, .int), (k_f11, .int), (k_f12, .int), (k_f13, .int), (k_f14, .int), (k_f15, .int), (k_f16, .int), (k_fuz, .object RX7), (k_s1u, .int), (k_s2u, .int), (k_s3u, .int), (k_s4u, .int), (k_s5u, .int), (k_hiu, .int), (k_lou, .int), (k_fbu, .int)]
abbrev xgp__w (xa : Nat) (xtape : Nat) (tp : Int32) (rd : Nat) (au : Nat) (xdr : Nat) (hy : Nat) (g : Nat) (hs : Int32) (tg : Nat) (sg : Nat) (ss : Int32) (rm : Nat) (ti : Nat) (py : Nat) (bu : Nat) (sm : Nat) (gz : Nat) (g1 : Nat) (g2 : Nat) (g3 : Nat) (g4 : Nat) (g5 : Nat) (gc : Int32) (gfull : Int32) (gx : Int32) (gway : Int32) (gav : Int32) (ggoal : Int32) (gfound : Int32) (gmost : Int32) (gl : Int32) (gsz : Int32) (g16 : Nat) (g17 : Nat) (k_fgz : ClassId) (fgz : Nat → Option Nat) (k_s1g : ClassId) (s1g : Nat → Int32) (k_s2g : ClassId) (s2g : Nat → Int32) (k_s3g : ClassId) (s3g : Nat → Int32) (k_s4g : ClassId) (s4g : Nat → Int32) (k_s5g : ClassId) (s5g : Nat → Int32) (k_hig : ClassId) (hig : Nat → Int32) (k_log : ClassId) (log : Nat → Int32) (k_fsm : ClassId) (fsm : Nat → Int32) : va_W := [(xa, .inr (8, [.ref xtape, .int tp, .ref rd, .ref au, .ref xdr, .ref hy, .ref g, .int hs, .ref tg, .ref sg, .int ss, .ref rm, .ref ti, .ref py, .ref bu, .ref sm])), (g, .inr (1, [.ref gz, .ref g1, .ref g2, .ref g3, .ref g4, .ref g5, .int gc, .int gfull, .int gx, .int gway, .int gav, .int ggoal, .int gfound, .int gmost, .int gl, .int gsz, .ref g16, .ref g17])), (gz, .inl (k_fgz, 121, .inr (.inr (.inr (.inr fgz))))), (g1, .inl (k_s1g, 120, .inl s1g)), (g2, .inl (k_s2g, 120, .inl s2g)), (g3, .inl (k_s3g, 120, .inl s3g)), (g4, .inl (k_s4g, 120, .inl s4g)), (g5, .inl (k_s5g, 120, .inl s5g)), (g16, .inl (k_hig, 5, .inl hig)), (g17, .inl (k_log, 5, .inl log)), (sm, .inl (k_fsm, 4, .inl fsm))]
abbrev xgp__t (k_fgz k_s1g k_s2g k_s3g k_s4g k_s5g k_hig k_log k_fsm : ClassId) : List (ClassId × FieldType) := [(k_fgz, .object RX7), (k_s1g, .int), (k_s2g, .int), (k_s3g, .int), (k_s4g, .int), (k_s5g, .int), (k_hig, .int), (k_log, .int), (k_fsm, .int)]
abbrev xgl__w (xa : Nat) (xtape : Nat) (tp : Int32) (rd : Nat) (au : Nat) (xdr : Nat) (hy : Nat) (g : Nat) (hs : Int32) (tg : Nat) (sg : Nat) (ss : Int32) (rm : Nat) (ti : Nat) (py : Nat) (bu : Nat) (sm : Nat) (gz : Nat) (g1 : Nat) (g2 : Nat) (g3 : Nat) (g4 : Nat) (g5 : Nat) (gc : Int32) (gfull : Int32) (gx : Int32) (gway : Int32) (gav : Int32) (ggoal : Int32) (gfound : Int32) (gmost : Int32) (gl : Int32) (gsz : Int32) (g16 : Nat) (g17 : Nat) (k_fs2 : ClassId) (fs2 : Nat → Int32) (k_fs3 : ClassId) (fs3 : Nat → Int32) (k_fs4 : ClassId) (fs4 : Nat → Int32) : va_W := [(xa, .inr (8, [.ref xtape, .int tp, .ref rd, .ref au, .ref xdr, .ref hy, .ref g, .int hs, .ref tg, .ref sg, .int ss, .ref rm, .ref ti, .ref py, .ref bu, .ref sm])), (g, .inr (1, [.ref gz, .ref g1, .ref g2, .ref g3, .ref g4, .ref g5, .int gc, .int gfull, .int gx, .int gway, .int gav, .int ggoal, .int gfound, .int gmost, .int gl, .int gsz, .ref g16, .ref g17])), (g2, .inl (k_fs2, 120, .inl fs2)), (g3, .inl (k_fs3, 120, .inl fs3)), (g4, .inl (k_fs4, 120, .inl fs4))]
abbrev xgl__t (k_fs2 k_fs3 k_fs4 : ClassId) : List (ClassId × FieldType) := [(k_fs2, .int), (k_fs3, .int), (k_fs4, .int)]
abbrev xti__w (xa : Nat) (xtape : Nat) (tp : Int32) (rd : Nat) (au : Nat) (xdr : Nat) (hy : Nat) (g : Nat) (hs : Int32) (tg : Nat) (sg : Nat) (ss : Int32) (rm : Nat) (ti : Nat) (py : Nat) (bu : Nat) (sm : Nat) (nc : Int32) (np : Int32) (ne : Int32) (st0 : Int32) (q4 : Nat) (q5 : Nat) (q6 : Nat) (q7 : Nat) (q8 : Nat) (q9 : Nat) (q10 : Nat) (q11 : Nat) (q12 : Nat) (q13 : Nat) (q14 : Nat) (q15 : Nat) (q16 : Nat) (k_f4 : ClassId) (f4 : Nat → Int32) (k_f5 : ClassId) (f5 : Nat → Int32) (k_f6 : ClassId) (f6 : Nat → Int32) (k_f7 : ClassId) (f7 : Nat → Int32) (k_f8 : ClassId) (f8 : Nat → Int32) (k_f9 : ClassId) (f9 : Nat → Int32) (k_f10 : ClassId) (f10 : Nat → Int32) (k_f11 : ClassId) (f11 : Nat → Int32) (k_f12 : ClassId) (f12 : Nat → Int32) (k_f13 : ClassId) (f13 : Nat → Int32) (k_f14 : ClassId) (f14 : Nat → Int32) (k_f15 : ClassId) (f15 : Nat → Int32) (k_f16 : ClassId) (f16 : Nat → Int32) (gz : Nat) (g1 : Nat) (g2 : Nat) (g3 : Nat) (g4 : Nat) (g5 : Nat) (gc : Int32) (gfull : Int32) (gx : Int32) (gway : Int32) (gav : Int32) (ggoal : Int32) (gfound : Int32) (gmost : Int32) (gl : Int32) (gsz : Int32) (g16 : Nat) (g17 : Nat) (k_fs2 : ClassId) (fs2 : Nat → Int32) (k_fs3 : ClassId) (fs3 : Nat → Int32) (k_fs4 : ClassId) (fs4 : Nat → Int32) (r0 : Nat) (ln : Int32) (r2 : Nat) (r3 : Nat) (r4 : Nat) (r5 : Nat) (nr : Int32) (r7 : Nat) (r8 : Nat) (tz : Nat) (k_j0 : ClassId) (j0 : Nat → Int32) (k_j2 : ClassId) (j2 : Nat → Int32) (k_j3 : ClassId) (j3 : Nat → Int32) (k_j4 : ClassId) (j4 : Nat → Int32) (k_j5 : ClassId) (j5 : Nat → Int32) (k_j7 : ClassId) (j7 : Nat → Int32) (k_j8 : ClassId) (j8 : Nat → Int32) : va_W := [(xa, .inr (8, [.ref xtape, .int tp, .ref rd, .ref au, .ref xdr, .ref hy, .ref g, .int hs, .ref tg, .ref sg, .int ss, .ref rm, .ref ti, .ref py, .ref bu, .ref sm])), (au, .inr (0, [.int nc, .int np, .int ne, .int st0, .ref q4, .ref q5, .ref q6, .ref q7, .ref q8, .ref q9, .ref q10, .ref q11, .ref q12, .ref q13, .ref q14, .ref q15, .ref q16])), (q4, .inl (k_f4, 8, .inl f4)), (q5, .inl (k_f5, 14, .inl f5)), (q6, .inl (k_f6, 14, .inl f6)), (q7, .inl (k_f7, 14, .inl f7)), (q8, .inl (k_f8, 22, .inl f8)), (q9, .inl (k_f9, 88, .inl f9)), (q10, .inl (k_f10, 88, .inl f10)), (q11, .inl (k_f11, 88, .inl f11)), (q12, .inl (k_f12, 88, .inl f12)), (q13, .inl (k_f13, 88, .inl f13)), (q14, .inl (k_f14, 4, .inl f14)), (q15, .inl (k_f15, 4, .inl f15)), (q16, .inl (k_f16, 4, .inl f16)), (g, .inr (1, [.ref gz, .ref g1, .ref g2, .ref g3, .ref g4, .ref g5, .int gc, .int gfull, .int gx, .int gway, .int gav, .int ggoal, .int gfound, .int gmost, .int gl, .int gsz, .ref g16, .ref g17])), (g2, .inl (k_fs2, 120, .inl fs2)), (g3, .inl (k_fs3, 120, .inl fs3)), (g4, .inl (k_fs4, 120, .inl fs4)), (ti, .inr (6, [.ref r0, .int ln, .ref r2, .ref r3, .ref r4, .ref r5, .int nr, .ref r7, .ref r8, .ref tz])), (r0, .inl (k_j0, 120, .inl j0)), (r2, .inl (k_j2, 121, .inl j2)), (r3, .inl (k_j3, 1920, .inl j3)), (r4, .inl (k_j4, 1920, .inl j4)), (r5, .inl (k_j5, 1920, .inl j5)), (r7, .inl (k_j7, 3, .inl j7)), (r8, .inl (k_j8, 5, .inl j8))]
abbrev xti__t (k_f4 k_f5 k_f6 k_f7 k_f8 k_f9 k_f10 k_f11 k_f12 k_f13 k_f14 k_f15 k_f16 k_fs2 k_fs3 k_fs4 k_j0 k_j2 k_j3 k_j4 k_j5 k_j7 k_j8 : ClassId) : List (ClassId × FieldType) := [(k_f4, .boolean), (k_f5, .int), (k_f6, .int), (k_f7, .int), (k_f8, .int), (k_f9, .int), (k_f10, .int), (k_f11, .int), (k_f12, .int), (k_f13, .int), (k_f14, .int), (k_f15, .int), (k_f16, .int), (k_fs2, .int), (k_fs3, .int), (k_fs4, .int), (k_j0, .int), (k_j2, .int), (k_j3, .int), (k_j4, .int), (k_j5, .int), (k_j7, .int), (k_j8, .int)]
abbrev xtz__w (xa : Nat) (xtape : Nat) (tp : Int32) (rd : Nat) (au : Nat) (xdr : Nat) (hy : Nat) (g : Nat) (hs : Int32) (tg : Nat) (sg : Nat) (ss : Int32) (rm : Nat) (ti : Nat) (py : Nat) (bu : Nat) (sm : Nat) (nc : Int32) (np : Int32) (ne : Int32) (st0 : Int32) (q4 : Nat) (q5 : Nat) (q6 : Nat) (q7 : Nat) (q8 : Nat) (q9 : Nat) (q10 : Nat) (q11 : Nat) (q12 : Nat) (q13 : Nat) (q14 : Nat) (q15 : Nat) (q16 : Nat) (k_f4 : ClassId) (f4 : Nat → Int32) (k_f5 : ClassId) (f5 : Nat → Int32) (k_f6 : ClassId) (f6 : Nat → Int32) (k_f7 : ClassId) (f7 : Nat → Int32) (k_f8 : ClassId) (f8 : Nat → Int32) (k_f9 : ClassId) (f9 : Nat → Int32) (k_f10 : ClassId) (f10 : Nat → Int32) (k_f11 : ClassId) (f11 : Nat → Int32) (k_f12 : ClassId) (f12 : Nat → Int32) (k_f13 : ClassId) (f13 : Nat → Int32) (k_f14 : ClassId) (f14 : Nat → Int32) (k_f15 : ClassId) (f15 : Nat → Int32) (k_f16 : ClassId) (f16 : Nat → Int32) (gz : Nat) (g1 : Nat) (g2 : Nat) (g3 : Nat) (g4 : Nat) (g5 : Nat) (gc : Int32) (gfull : Int32) (gx : Int32) (gway : Int32) (gav : Int32) (ggoal : Int32) (gfound : Int32) (gmost : Int32) (gl : Int32) (gsz : Int32) (g16 : Nat) (g17 : Nat) (k_fs2 : ClassId) (fs2 : Nat → Int32) (k_fs3 : ClassId) (fs3 : Nat → Int32) (k_fs4 : ClassId) (fs4 : Nat → Int32) (r0 : Nat) (ln : Int32) (r2 : Nat) (r3 : Nat) (r4 : Nat) (r5 : Nat) (nr : Int32) (r7 : Nat) (r8 : Nat) (tz : Nat) (k_j0 : ClassId) (j0 : Nat → Int32) (k_j2 : ClassId) (j2 : Nat → Int32) (k_j3 : ClassId) (j3 : Nat → Int32) (k_j4 : ClassId) (j4 : Nat → Int32) (k_j5 : ClassId) (j5 : Nat → Int32) (k_j7 : ClassId) (j7 : Nat → Int32) (k_j8 : ClassId) (j8 : Nat → Int32) (tzc : Nat) (tzn : Int32) (k_ftz : ClassId) (ftz : Nat → Int32) : va_W := [(xa, .inr (8, [.ref xtape, .int tp, .ref rd, .ref au, .ref xdr, .ref hy, .ref g, .int hs, .ref tg, .ref sg, .int ss, .ref rm, .ref ti, .ref py, .ref bu, .ref sm])), (au, .inr (0, [.int nc, .int np, .int ne, .int st0, .ref q4, .ref q5, .ref q6, .ref q7, .ref q8, .ref q9, .ref q10, .ref q11, .ref q12, .ref q13, .ref q14, .ref q15, .ref q16])), (q4, .inl (k_f4, 8, .inl f4)), (q5, .inl (k_f5, 14, .inl f5)), (q6, .inl (k_f6, 14, .inl f6)), (q7, .inl (k_f7, 14, .inl f7)), (q8, .inl (k_f8, 22, .inl f8)), (q9, .inl (k_f9, 88, .inl f9)), (q10, .inl (k_f10, 88, .inl f10)), (q11, .inl (k_f11, 88, .inl f11)), (q12, .inl (k_f12, 88, .inl f12)), (q13, .inl (k_f13, 88, .inl f13)), (q14, .inl (k_f14, 4, .inl f14)), (q15, .inl (k_f15, 4, .inl f15)), (q16, .inl (k_f16, 4, .inl f16)), (g, .inr (1, [.ref gz, .ref g1, .ref g2, .ref g3, .ref g4, .ref g5, .int gc, .int gfull, .int gx, .int gway, .int gav, .int ggoal, .int gfound, .int gmost, .int gl, .int gsz, .ref g16, .ref g17])), (g2, .inl (k_fs2, 120, .inl fs2)), (g3, .inl (k_fs3, 120, .inl fs3)), (g4, .inl (k_fs4, 120, .inl fs4)), (ti, .inr (6, [.ref r0, .int ln, .ref r2, .ref r3, .ref r4, .ref r5, .int nr, .ref r7, .ref r8, .ref tz])), (r0, .inl (k_j0, 120, .inl j0)), (r2, .inl (k_j2, 121, .inl j2)), (r3, .inl (k_j3, 1920, .inl j3)), (r4, .inl (k_j4, 1920, .inl j4)), (r5, .inl (k_j5, 1920, .inl j5)), (r7, .inl (k_j7, 3, .inl j7)), (r8, .inl (k_j8, 5, .inl j8)), (tz, .inr (7, [.ref tzc, .int tzn])), (tzc, .inl (k_ftz, 25, .inl ftz))]
abbrev xtz__t (k_f4 k_f5 k_f6 k_f7 k_f8 k_f9 k_f10 k_f11 k_f12 k_f13 k_f14 k_f15 k_f16 k_fs2 k_fs3 k_fs4 k_j0 k_j2 k_j3 k_j4 k_j5 k_j7 k_j8 k_ftz : ClassId) : List (ClassId × FieldType) := [(k_f4, .boolean), (k_f5, .int), (k_f6, .int), (k_f7, .int), (k_f8, .int), (k_f9, .int), (k_f10, .int), (k_f11, .int), (k_f12, .int), (k_f13, .int), (k_f14, .int), (k_f15, .int), (k_f16, .int), (k_fs2, .int), (k_fs3, .int), (k_fs4, .int), (k_j0, .int), (k_j2, .int), (k_j3, .int), (k_j4, .int), (k_j5, .int), (k_j7, .int), (k_j8, .int), (k_ftz, .int)]
abbrev xtl__w (xa : Nat) (xtape : Nat) (tp : Int32) (rd : Nat) (au : Nat) (xdr : Nat) (hy : Nat) (g : Nat) (hs : Int32) (tg : Nat) (sg : Nat) (ss : Int32) (rm : Nat) (ti : Nat) (py : Nat) (bu : Nat) (sm : Nat) (nc : Int32) (np : Int32) (ne : Int32) (st0 : Int32) (q4 : Nat) (q5 : Nat) (q6 : Nat) (q7 : Nat) (q8 : Nat) (q9 : Nat) (q10 : Nat) (q11 : Nat) (q12 : Nat) (q13 : Nat) (q14 : Nat) (q15 : Nat) (q16 : Nat) (k_f4 : ClassId) (f4 : Nat → Int32) (k_f5 : ClassId) (f5 : Nat → Int32) (k_f6 : ClassId) (f6 : Nat → Int32) (k_f7 : ClassId) (f7 : Nat → Int32) (k_f8 : ClassId) (f8 : Nat → Int32) (k_f9 : ClassId) (f9 : Nat → Int32) (k_f10 : ClassId) (f10 : Nat → Int32) (k_f11 : ClassId) (f11 : Nat → Int32) (k_f12 : ClassId) (f12 : Nat → Int32) (k_f13 : ClassId) (f13 : Nat → Int32) (k_f14 : ClassId) (f14 : Nat → Int32) (k_f15 : ClassId) (f15 : Nat → Int32) (k_f16 : ClassId) (f16 : Nat → Int32) (r0 : Nat) (ln : Int32) (r2 : Nat) (r3 : Nat) (r4 : Nat) (r5 : Nat) (nr : Int32) (r7 : Nat) (r8 : Nat) (tz : Nat) (k_j0 : ClassId) (j0 : Nat → Int32) (k_j2 : ClassId) (j2 : Nat → Int32) (k_j3 : ClassId) (j3 : Nat → Int32) (k_j4 : ClassId) (j4 : Nat → Int32) (k_j5 : ClassId) (j5 : Nat → Int32) (k_j7 : ClassId) (j7 : Nat → Int32) (k_j8 : ClassId) (j8 : Nat → Int32) (tzc : Nat) (tzn : Int32) (k_ftz : ClassId) (ftz : Nat → Int32) : va_W := [(xa, .inr (8, [.ref xtape, .int tp, .ref rd, .ref au, .ref xdr, .ref hy, .ref g, .int hs, .ref tg, .ref sg, .int ss, .ref rm, .ref ti, .ref py, .ref bu, .ref sm])), (au, .inr (0, [.int nc, .int np, .int ne, .int st0, .ref q4, .ref q5, .ref q6, .ref q7, .ref q8, .ref q9, .ref q10, .ref q11, .ref q12, .ref q13, .ref q14, .ref q15, .ref q16])), (q4, .inl (k_f4, 8, .inl f4)), (q5, .inl (k_f5, 14, .inl f5)), (q6, .inl (k_f6, 14, .inl f6)), (q7, .inl (k_f7, 14, .inl f7)), (q8, .inl (k_f8, 22, .inl f8)), (q9, .inl (k_f9, 88, .inl f9)), (q10, .inl (k_f10, 88, .inl f10)), (q11, .inl (k_f11, 88, .inl f11)), (q12, .inl (k_f12, 88, .inl f12)), (q13, .inl (k_f13, 88, .inl f13)), (q14, .inl (k_f14, 4, .inl f14)), (q15, .inl (k_f15, 4, .inl f15)), (q16, .inl (k_f16, 4, .inl f16)), (ti, .inr (6, [.ref r0, .int ln, .ref r2, .ref r3, .ref r4, .ref r5, .int nr, .ref r7, .ref r8, .ref tz])), (r0, .inl (k_j0, 120, .inl j0)), (r2, .inl (k_j2, 121, .inl j2)), (r3, .inl (k_j3, 1920, .inl j3)), (r4, .inl (k_j4, 1920, .inl j4)), (r5, .inl (k_j5, 1920, .inl j5)), (r7, .inl (k_j7, 3, .inl j7)), (r8, .inl (k_j8, 5, .inl j8)), (tz, .inr (7, [.ref tzc, .int tzn])), (tzc, .inl (k_ftz, 25, .inl ftz))]
abbrev xtl__t (k_f4 k_f5 k_f6 k_f7 k_f8 k_f9 k_f10 k_f11 k_f12 k_f13 k_f14 k_f15 k_f16 k_j0 k_j2 k_j3 k_j4 k_j5 k_j7 k_j8 k_ftz : ClassId) : List (ClassId × FieldType) := [(k_f4, .boolean), (k_f5, .int), (k_f6, .int), (k_f7, .int), (k_f8, .int), (k_f9, .int), (k_f10, .int), (k_f11, .int), (k_f12, .int), (k_f13, .int), (k_f14, .int), (k_f15, .int), (k_f16, .int), (k_j0, .int), (k_j2, .int), (k_j3, .int), (k_j4, .int), (k_j5, .int), (k_j7, .int), (k_j8, .int), (k_ftz, .int)]
abbrev xrp__w (xa : Nat) (xtape : Nat) (tp : Int32) (rd : Nat) (au : Nat) (xdr : Nat) (hy : Nat) (g : Nat) (hs : Int32) (tg : Nat) (sg : Nat) (ss : Int32) (rm : Nat) (ti : Nat) (py : Nat) (bu : Nat) (sm : Nat) (nc : Int32) (np : Int32) (ne : Int32) (st0 : Int32) (q4 : Nat) (q5 : Nat) (q6 : Nat) (q7 : Nat) (q8 : Nat) (q9 : Nat) (q10 : Nat) (q11 : Nat) (q12 : Nat) (q13 : Nat) (q14 : Nat) (q15 : Nat) (q16 : Nat) (k_f4 : ClassId) (f4 : Nat → Int32) (k_f5 : ClassId) (f5 : Nat → Int32) (k_f6 : ClassId) (f6 : Nat → Int32) (k_f7 : ClassId) (f7 : Nat → Int32) (k_f8 : ClassId) (f8 : Nat → Int32) (k_f9 : ClassId) (f9 : Nat → Int32) (k_f10 : ClassId) (f10 : Nat → Int32) (k_f11 : ClassId) (f11 : Nat → Int32) (k_f12 : ClassId) (f12 : Nat → Int32) (k_f13 : ClassId) (f13 : Nat → Int32) (k_f14 : ClassId) (f14 : Nat → Int32) (k_f15 : ClassId) (f15 : Nat → Int32) (k_f16 : ClassId) (f16 : Nat → Int32) (gz : Nat) (g1 : Nat) (g2 : Nat) (g3 : Nat) (g4 : Nat) (g5 : Nat) (gc : Int32) (gfull : Int32) (gx : Int32) (gway : Int32) (gav : Int32) (ggoal : Int32) (gfound : Int32) (gmost : Int32) (gl : Int32) (gsz : Int32) (g16 : Nat) (g17 : Nat) (k_fs2 : ClassId) (fs2 : Nat → Int32) (k_fs3 : ClassId) (fs3 : Nat → Int32) (k_fs4 : ClassId) (fs4 : Nat → Int32) (r0 : Nat) (ln : Int32) (r2 : Nat) (r3 : Nat) (r4 : Nat) (r5 : Nat) (nr : Int32) (r7 : Nat) (r8 : Nat) (tz : Nat) (k_j0 : ClassId) (j0 : Nat → Int32) (k_j2 : ClassId) (j2 : Nat → Int32) (k_j3 : ClassId) (j3 : Nat → Int32) (k_j4 : ClassId) (j4 : Nat → Int32) (k_j5 : ClassId) (j5 : Nat → Int32) (k_j7 : ClassId) (j7 : Nat → Int32) (k_j8 : ClassId) (j8 : Nat → Int32) (on : Int32) (si : Int32) (ti0 : Int32) (tm : Nat) (bh : Nat) (k_ftm : ClassId) (ftm : Nat → Int32) (k_fbh : ClassId) (fbh : Nat → Int32) : va_W := [(xa, .inr (8, [.ref xtape, .int tp, .ref rd, .ref au, .ref xdr, .ref hy, .ref g, .int hs, .ref tg, .ref sg, .int ss, .ref rm, .ref ti, .ref py, .ref bu, .ref sm])), (au, .inr (0, [.int nc, .int np, .int ne, .int st0, .ref q4, .ref q5, .ref q6, .ref q7, .ref q8, .ref q9, .ref q10, .ref q11, .ref q12, .ref q13, .ref q14, .ref q15, .ref q16])), (q4, .inl (k_f4, 8, .inl f4)), (q5, .inl (k_f5, 14, .inl f5)), (q6, .inl (k_f6, 14, .inl f6)), (q7, .inl (k_f7, 14, .inl f7)), (q8, .inl (k_f8, 22, .inl f8)), (q9, .inl (k_f9, 88, .inl f9)), (q10, .inl (k_f10, 88, .inl f10)), (q11, .inl (k_f11, 88, .inl f11)), (q12, .inl (k_f12, 88, .inl f12)), (q13, .inl (k_f13, 88, .inl f13)), (q14, .inl (k_f14, 4, .inl f14)), (q15, .inl (k_f15, 4, .inl f15)), (q16, .inl (k_f16, 4, .inl f16)), (g, .inr (1, [.ref gz, .ref g1, .ref g2, .ref g3, .ref g4, .ref g5, .int gc, .int gfull, .int gx, .int gway, .int gav, .int ggoal, .int gfound, .int gmost, .int gl, .int gsz, .ref g16, .ref g17])), (g2, .inl (k_fs2, 120, .inl fs2)), (g3, .inl (k_fs3, 120, .inl fs3)), (g4, .inl (k_fs4, 120, .inl fs4)), (ti, .inr (6, [.ref r0, .int ln, .ref r2, .ref r3, .ref r4, .ref r5, .int nr, .ref r7, .ref r8, .ref tz])), (r0, .inl (k_j0, 120, .inl j0)), (r2, .inl (k_j2, 121, .inl j2)), (r3, .inl (k_j3, 1920, .inl j3)), (r4, .inl (k_j4, 1920, .inl j4)), (r5, .inl (k_j5, 1920, .inl j5)), (r7, .inl (k_j7, 3, .inl j7)), (r8, .inl (k_j8, 5, .inl j8)), (py, .inr (3, [.int on, .int si, .int ti0, .ref tm, .ref bh])), (tm, .inl (k_ftm, 3, .inl ftm)), (bh, .inl (k_fbh, 3, .inl fbh))]
abbrev xrp__t (k_f4 k_f5 k_f6 k_f7 k_f8 k_f9 k_f10 k_f11 k_f12 k_f13 k_f14 k_f15 k_f16 k_fs2 k_fs3 k_fs4 k_j0 k_j2 k_j3 k_j4 k_j5 k_j7 k_j8 k_ftm k_fbh : ClassId) : List (ClassId × FieldType) := [(k_f4, .boolean), (k_f5, .int), (k_f6, .int), (k_f7, .int), (k_f8, .int), (k_f9, .int), (k_f10, .int), (k_f11, .int), (k_f12, .int), (k_f13, .int), (k_f14, .int), (k_f15, .int), (k_f16, .int), (k_fs2, .int), (k_fs3, .int), (k_fs4, .int), (k_j0, .int), (k_j2, .int), (k_j3, .int), (k_j4, .int), (k_j5, .int), (k_j7, .int), (k_j8, .int), (k_ftm, .int), (k_fbh, .int)]
abbrev xab__w (xa : Nat) (xtape : Nat) (tp : Int32) (rd : Nat) (au : Nat) (xdr : Nat) (hy : Nat) (g : Nat) (hs : Int32) (tg : Nat) (sg : Nat) (ss : Int32) (rm : Nat) (ti : Nat) (py : Nat) (bu : Nat) (sm : Nat) (nc : Int32) (np : Int32) (ne : Int32) (st0 : Int32) (q4 : Nat) (q5 : Nat) (q6 : Nat) (q7 : Nat) (q8 : Nat) (q9 : Nat) (q10 : Nat) (q11 : Nat) (q12 : Nat) (q13 : Nat) (q14 : Nat) (q15 : Nat) (q16 : Nat) (k_f4 : ClassId) (f4 : Nat → Int32) (k_f5 : ClassId) (f5 : Nat → Int32) (k_f6 : ClassId) (f6 : Nat → Int32) (k_f7 : ClassId) (f7 : Nat → Int32) (k_f8 : ClassId) (f8 : Nat → Int32) (k_f9 : ClassId) (f9 : Nat → Int32) (k_f10 : ClassId) (f10 : Nat → Int32) (k_f11 : ClassId) (f11 : Nat → Int32) (k_f12 : ClassId) (f12 : Nat → Int32) (k_f13 : ClassId) (f13 : Nat → Int32) (k_f14 : ClassId) (f14 : Nat → Int32) (k_f15 : ClassId) (f15 : Nat → Int32) (k_f16 : ClassId) (f16 : Nat → Int32) (gz : Nat) (g1 : Nat) (g2 : Nat) (g3 : Nat) (g4 : Nat) (g5 : Nat) (gc : Int32) (gfull : Int32) (gx : Int32) (gway : Int32) (gav : Int32) (ggoal : Int32) (gfound : Int32) (gmost : Int32) (gl : Int32) (gsz : Int32) (g16 : Nat) (g17 : Nat) (hk : Int32) (co : Nat) (ol : Nat) : va_W := [(xa, .inr (8, [.ref xtape, .int tp, .ref rd, .ref au, .ref xdr, .ref hy, .ref g, .int hs, .ref tg, .ref sg, .int ss, .ref rm, .ref ti, .ref py, .ref bu, .ref sm])), (au, .inr (0, [.int nc, .int np, .int ne, .int st0, .ref q4, .ref q5, .ref q6, .ref q7, .ref q8, .ref q9, .ref q10, .ref q11, .ref q12, .ref q13, .ref q14, .ref q15, .ref q16])), (q4, .inl (k_f4, 8, .inl f4)), (q5, .inl (k_f5, 14, .inl f5)), (q6, .inl (k_f6, 14, .inl f6)), (q7, .inl (k_f7, 14, .inl f7)), (q8, .inl (k_f8, 22, .inl f8)), (q9, .inl (k_f9, 88, .inl f9)), (q10, .inl (k_f10, 88, .inl f10)), (q11, .inl (k_f11, 88, .inl f11)), (q12, .inl (k_f12, 88, .inl f12)), (q13, .inl (k_f13, 88, .inl f13)), (q14, .inl (k_f14, 4, .inl f14)), (q15, .inl (k_f15, 4, .inl f15)), (q16, .inl (k_f16, 4, .inl f16)), (g, .inr (1, [.ref gz, .ref g1, .ref g2, .ref g3, .ref g4, .ref g5, .int gc, .int gfull, .int gx, .int gway, .int gav, .int ggoal, .int gfound, .int gmost, .int gl, .int gsz, .ref g16, .ref g17])), (hy, .inr (2, [.int hk, .ref co, .ref ol]))]
abbrev xab__t (k_f4 k_f5 k_f6 k_f7 k_f8 k_f9 k_f10 k_f11 k_f12 k_f13 k_f14 k_f15 k_f16 : ClassId) : List (ClassId × FieldType) := [(k_f4, .boolean), (k_f5, .int), (k_f6, .int), (k_f7, .int), (k_f8, .int), (k_f9, .int), (k_f10, .int), (k_f11, .int), (k_f12, .int), (k_f13, .int), (k_f14, .int), (k_f15, .int), (k_f16, .int)]
abbrev xau__w (xa : Nat) (tp : Nat) (tpd : Int32) (rd : Nat) (mau : Nat) (dau : Nat) (hy : Nat) (g : Nat) (hs : Int32) (tg : Nat) (sg : Nat) (ss : Int32) (rm : Nat) (ti : Nat) (py : Nat) (bu : Nat) (sm : Nat) (fa : Int32) (fat : Int32) (tx0 : Value) (len : Int32) (pos : Int32) (kd : Int32) (vl : Int32) (tka : Int32) (in0 : Value) (rw : Nat) (rc : Nat) (rp : Nat) (k_ft : ClassId) (ft : Nat → Int32) (k_fw : ClassId) (fw : Nat → Int32) (k_fcn : ClassId) (fcn : Nat → Int32) (k_fpn : ClassId) (fpn : Nat → Int32) (mnc : Int32) (mnp : Int32) (mne : Int32) (mst0 : Int32) (mq4 : Nat) (mq5 : Nat) (mq6 : Nat) (mq7 : Nat) (mq8 : Nat) (mq9 : Nat) (mq10 : Nat) (mq11 : Nat) (mq12 : Nat) (mq13 : Nat) (mq14 : Nat) (mq15 : Nat) (mq16 : Nat) (k_mf4 : ClassId) (mf4 : Nat → Int32) (k_mf5 : ClassId) (mf5 : Nat → Int32) (k_mf6 : ClassId) (mf6 : Nat → Int32) (k_mf7 : ClassId) (mf7 : Nat → Int32) (k_mf8 : ClassId) (mf8 : Nat → Int32) (k_mf9 : ClassId) (mf9 : Nat → Int32) (k_mf10 : ClassId) (mf10 : Nat → Int32) (k_mf11 : ClassId) (mf11 : Nat → Int32) (k_mf12 : ClassId) (mf12 : Nat → Int32) (k_mf13 : ClassId) (mf13 : Nat → Int32) (k_mf14 : ClassId) (mf14 : Nat → Int32) (k_mf15 : ClassId) (mf15 : Nat → Int32) (k_mf16 : ClassId) (mf16 : Nat → Int32) (dnc : Int32) (dnp : Int32) (dne : Int32) (dst0 : Int32) (dq4 : Nat) (dq5 : Nat) (dq6 : Nat) (dq7 : Nat) (dq8 : Nat) (dq9 : Nat) (dq10 : Nat) (dq11 : Nat) (dq12 : Nat) (dq13 : Nat) (dq14 : Nat) (dq15 : Nat) (dq16 : Nat) (k_df4 : ClassId) (df4 : Nat → Int32) (k_df5 : ClassId) (df5 : Nat → Int32) (k_df6 : ClassId) (df6 : Nat → Int32) (k_df7 : ClassId) (df7 : Nat → Int32) (k_df8 : ClassId) (df8 : Nat → Int32) (k_df9 : ClassId) (df9 : Nat → Int32) (k_df10 : ClassId) (df10 : Nat → Int32) (k_df11 : ClassId) (df11 : Nat → Int32) (k_df12 : ClassId) (df12 : Nat → Int32) (k_df13 : ClassId) (df13 : Nat → Int32) (k_df14 : ClassId) (df14 : Nat → Int32) (k_df15 : ClassId) (df15 : Nat → Int32) (k_df16 : ClassId) (df16 : Nat → Int32) (hk : Int32) (co : Nat) (ol : Nat) (on : Int32) (si : Int32) (ti0 : Int32) (tm : Nat) (bh : Nat) : va_W := [(xa, .inr (8, [.ref tp, .int tpd, .ref rd, .ref mau, .ref dau, .ref hy, .ref g, .int hs, .ref tg, .ref sg, .int ss, .ref rm, .ref ti, .ref py, .ref bu, .ref sm])), (rd, .inr (4, [.int fa, .int fat, tx0, .int len, .int pos, .int kd, .int vl, .int tka, in0, .ref rw, .ref rc, .ref rp])), (tp, .inl (k_ft, 900, .inl ft)), (rw, .inl (k_fw, 8, .inl fw)), (rc, .inl (k_fcn, 3, .inl fcn)), (rp, .inl (k_fpn, 8, .inl fpn)), (mau, .inr (0, [.int mnc, .int mnp, .int mne, .int mst0, .ref mq4, .ref mq5, .ref mq6, .ref mq7, .ref mq8, .ref mq9, .ref mq10, .ref mq11, .ref mq12, .ref mq13, .ref mq14, .ref mq15, .ref mq16])), (mq4, .inl (k_mf4, 8, .inl mf4)), (mq5, .inl (k_mf5, 14, .inl mf5)), (mq6, .inl (k_mf6, 14, .inl mf6)), (mq7, .inl (k_mf7, 14, .inl mf7)), (mq8, .inl (k_mf8, 22, .inl mf8)), (mq9, .inl (k_mf9, 88, .inl mf9)), (mq10, .inl (k_mf10, 88, .inl mf10)), (mq11, .inl (k_mf11, 88, .inl mf11)), (mq12, .inl (k_mf12, 88, .inl mf12)), (mq13, .inl (k_mf13, 88, .inl mf13)), (mq14, .inl (k_mf14, 4, .inl mf14)), (mq15, .inl (k_mf15, 4, .inl mf15)), (mq16, .inl (k_mf16, 4, .inl mf16)), (dau, .inr (0, [.int dnc, .int dnp, .int dne, .int dst0, .ref dq4, .ref dq5, .ref dq6, .ref dq7, .ref dq8, .ref dq9, .ref dq10, .ref dq11, .ref dq12, .ref dq13, .ref dq14, .ref dq15, .ref dq16])), (dq4, .inl (k_df4, 8, .inl df4)), (dq5, .inl (k_df5, 14, .inl df5)), (dq6, .inl (k_df6, 14, .inl df6)), (dq7, .inl (k_df7, 14, .inl df7)), (dq8, .inl (k_df8, 22, .inl df8)), (dq9, .inl (k_df9, 88, .inl df9)), (dq10, .inl (k_df10, 88, .inl df10)), (dq11, .inl (k_df11, 88, .inl df11)), (dq12, .inl (k_df12, 88, .inl df12)), (dq13, .inl (k_df13, 88, .inl df13)), (dq14, .inl (k_df14, 4, .inl df14)), (dq15, .inl (k_df15, 4, .inl df15)), (dq16, .inl (k_df16, 4, .inl df16)), (hy, .inr (2, [.int hk, .ref co, .ref ol])), (py, .inr (3, [.int on, .int si, .int ti0, .ref tm, .ref bh]))]
abbrev xau__t (k_ft k_fw k_fcn k_fpn k_mf4 k_mf5 k_mf6 k_mf7 k_mf8 k_mf9 k_mf10 k_mf11 k_mf12 k_mf13 k_mf14 k_mf15 k_mf16 k_df4 k_df5 k_df6 k_df7 k_df8 k_df9 k_df10 k_df11 k_df12 k_df13 k_df14 k_df15 k_df16 : ClassId) : List (ClassId × FieldType) := [(k_ft, .int), (k_fw, .int), (k_fcn, .int), (k_fpn, .int), (k_mf4, .boolean), (k_mf5, .int), (k_mf6, .int), (k_mf7, .int), (k_mf8, .int), (k_mf9, .int), (k_mf10, .int), (k_mf11, .int), (k_mf12, .int), (k_mf13, .int), (k_mf14, .int), (k_mf15, .int), (k_mf16, .int), (k_df4, .boolean), (k_df5, .int), (k_df6, .int), (k_df7, .int), (k_df8, .int), (k_df9, .int), (k_df10, .int), (k_df11, .int), (k_df12, .int), (k_df13, .int), (k_df14, .int), (k_df15, .int), (k_df16, .int)]
/-- the zones of a graph: their objects, then their rows -/
def zpo (n : Nat) (az ac : Nat → Nat) (qs : Nat → Nat) (k : Nat) : Nat × va_E := (az k, .inr (7, [.ref (ac k), .int (nI (min (qs k) n))]))
def zpa (c : Nat) (ac : Nat → Nat) (kz : Nat → ClassId) (fz : Nat → Nat → Int32) (k : Nat) : Nat × va_E := (ac k, .inl (kz k, c, .inl (fz k)))
def zp (n c N : Nat) (az ac : Nat → Nat) (kz : Nat → ClassId) (qs : Nat → Nat) (fz : Nat → Nat → Int32) : va_W := (List.range N).map (zpo n az ac qs) ++ (List.range N).map (zpa c ac kz fz)
def zt (N : Nat) (kz : Nat → ClassId) : List (ClassId × FieldType) := (List.range N).map (fun k => (kz k, .int))
def zs (o n : Nat) (az : Nat → Nat) : Nat → Option Nat := fun k => if k < n then some (az (o + k)) else none
theorem zs_get {o n k : Nat} {az : Nat → Nat} (hk : k < n) (hb : k < 2 ^ 31) : va_rf (zs o n az (nI k).toNatClampNeg) = .ref (az (o + k)) := by
  rw [nI_clamp hb]
  unfold zs
  rw [if_pos hk]
  rfl
theorem zp_get {n c N : Nat} {az ac : Nat → Nat} {kz : Nat → ClassId} {qs : Nat → Nat} {fz : Nat → Nat → Int32} (i : Nat) : (zp n c N az ac kz qs fz)[i]? = if i < N then some (zpo n az ac qs i) else if i < 2 * N then some (zpa c ac kz fz (i - N)) else none := by
  unfold zp
  by_cases h : i < N
  · rw [if_pos h, List.getElem?_append_left (by rw [List.length_map, List.length_range]; exact h), List.getElem?_map, List.getElem?_range h]
    rfl
  · rw [if_neg h, List.getElem?_append_right (by rw [List.length_map, List.length_range]; omega), List.length_map, List.length_range, List.getElem?_map]
    by_cases g : i < 2 * N
    · rw [if_pos g, List.getElem?_range (by omega)]
      rfl
    · rw [if_neg g, List.getElem?_eq_none_iff.mpr (by rw [List.length_range]; omega)]
      rfl
theorem zp_o {X : va_W} {n c N k : Nat} {az ac : Nat → Nat} {kz : Nat → ClassId} {qs : Nat → Nat} {fz : Nat → Nat → Int32} (hk : k < N) : (X ++ zp n c N az ac kz qs fz)[X.length + k]? = some (zpo n az ac qs k) := by
  rw [List.getElem?_append_right (by omega), Nat.add_sub_cancel_left, zp_get, if_pos hk]
theorem zp_a {X : va_W} {n c N k : Nat} {az ac : Nat → Nat} {kz : Nat → ClassId} {qs : Nat → Nat} {fz : Nat → Nat → Int32} (hk : k < N) : (X ++ zp n c N az ac kz qs fz)[X.length + (N + k)]? = some (zpa c ac kz fz k) := by
  rw [List.getElem?_append_right (by omega), Nat.add_sub_cancel_left, zp_get, if_neg (by omega), if_pos (by omega), Nat.add_sub_cancel_left]
theorem zp_cut {D : va_G} {X : va_W} {n c N k : Nat} {az ac : Nat → Nat} {kz : Nat → ClassId} {qs : Nat → Nat} {fz : Nat → Nat → Int32} {H : Heap} (hP : va_P D vwCl (X ++ zp n c N az ac kz qs fz) H) (hk : k < N) : va_P D vwCl [(az k, .inr (7, [.ref (ac k), .int (nI (min (qs k) n))])), (ac k, .inl (kz k, c, .inl (fz k)))] H := by
  intro i q hi
  match i, hi with
  | 0, hi => cases hi; exact hP _ _ (zp_o hk)
  | 1, hi => cases hi; exact hP _ _ (zp_a hk)
  | i + 2, hi => cases hi
theorem zp_left {A : Nat → Prop} {X Y : va_W} (h : va_D A (X ++ Y)) : va_D A X := ⟨fun i j p q hp hq e => h.1 i j p q (by rw [List.getElem?_append_left (List.getElem?_eq_some_iff.mp hp).1]; exact hp) (by rw [List.getElem?_append_left (List.getElem?_eq_some_iff.mp hq).1]; exact hq) e, fun k q hq => h.2 k q (by rw [List.getElem?_append_left (List.getElem?_eq_some_iff.mp hq).1]; exact hq)⟩
theorem zp_apart {A : Nat → Prop} {X : va_W} {n c N k : Nat} {az ac : Nat → Nat} {kz : Nat → ClassId} {qs : Nat → Nat} {fz : Nat → Nat → Int32} (hD : va_D A (X ++ zp n c N az ac kz qs fz)) (hk : k < N) : az k ≠ ac k := fun e => by
  have := hD.1 _ _ _ _ (zp_o hk) (zp_a hk) e
  omega
theorem zp_cutD {A : Nat → Prop} {X wx : va_W} {n c N k : Nat} {az ac : Nat → Nat} {kz : Nat → ClassId} {qs : Nat → Nat} {fz : Nat → Nat → Int32} (hD : va_D A (X ++ zp n c N az ac kz qs fz)) (hk : k < N) (is : List Nat) (hn : va_nd is = true) (hs : is.map (fun i => X[i]?) = wx.map some) : va_D A (wx ++ [(az k, .inr (7, [.ref (ac k), .int (nI (min (qs k) n))])), (ac k, .inl (kz k, c, .inl (fz k)))]) := by
  have h1 : va_D A wx := (zp_left hD).sub is hn hs
  have h2 : va_D A [((az k, .inr (7, [.ref (ac k), .int (nI (min (qs k) n))])) : Nat × va_E), (ac k, .inl (kz k, c, .inl (fz k)))] := by
    refine ⟨fun i j p q hp hq e => ?_, fun i q hq => ?_⟩
    · match i, j, hp, hq with
      | 0, 0, _, _ => rfl
      | 1, 1, _, _ => rfl
      | 0, 1, hp, hq => cases hp; cases hq; exact absurd e (zp_apart hD hk)
      | 1, 0, hp, hq => cases hp; cases hq; exact absurd e.symm (zp_apart hD hk)
      | 0, j + 2, _, hq => cases hq
      | 1, j + 2, _, hq => cases hq
      | i + 2, _, hp, _ => cases hp
    · match i, hq with
      | 0, hq => cases hq; exact hD.2 _ _ (zp_o hk)
      | 1, hq => cases hq; exact hD.2 _ _ (zp_a hk)
      | i + 2, hq => cases hq
  refine h1.app h2 (fun i j p q hp hq e => ?_)
  obtain ⟨i0, -, hi0⟩ := va_in_of is hs hp
  have hl := (List.getElem?_eq_some_iff.mp hi0).1
  have hX : (X ++ zp n c N az ac kz qs fz)[i0]? = some p := by rw [List.getElem?_append_left hl]; exact hi0
  match j, hq with
  | 0, hq => cases hq; have := hD.1 _ _ _ _ hX (zp_o hk) e; omega
  | 1, hq => cases hq; have := hD.1 _ _ _ _ hX (zp_a hk) e; omega
  | j + 2, hq => cases hq
theorem zp_fst {X : va_W} {n c N : Nat} {az ac : Nat → Nat} {kz : Nat → ClassId} {qs qs' : Nat → Nat} {fz fz' : Nat → Nat → Int32} : (X ++ zp n c N az ac kz qs fz).map Prod.fst = (X ++ zp n c N az ac kz qs' fz').map Prod.fst := by
  unfold zp
  rw [List.map_append, List.map_append, List.map_append, List.map_append, List.map_map, List.map_map, List.map_map, List.map_map]
  rfl
theorem vD_fst {A : Nat → Prop} {ws ws' : va_W} (h : va_D A ws) (e : ws.map Prod.fst = ws'.map Prod.fst) : va_D A ws' := by
  have key : ∀ (k : Nat) (q : Nat × va_E), ws'[k]? = some q → ∃ q0 : Nat × va_E, ws[k]? = some q0 ∧ q0.1 = q.1 := by
    intro k q hq
    have h1 := congrArg (fun l : List Nat => l[k]?) e
    simp only [List.getElem?_map, hq] at h1
    cases hw : ws[k]? with
    | none => rw [hw] at h1; cases h1
    | some x => rw [hw] at h1; exact ⟨x, rfl, Option.some.inj h1⟩
  refine ⟨fun i j p q hp hq e => ?_, fun k q hq => ?_⟩
  · obtain ⟨p0, h1, h2⟩ := key i p hp
    obtain ⟨q0, h3, h4⟩ := key j q hq
    exact h.1 i j p0 q0 h1 h3 (by rw [h2, h4, e])
  · obtain ⟨q0, h1, h2⟩ := key k q hq
    rw [← h2]; exact h.2 k q0 h1
/-- one zone has changed, what else was given is as it was -/
theorem zp_put {A : Nat → Prop} {D : va_G} {X wr : va_W} {n c N k n' : Nat} {az ac : Nat → Nat} {kz : Nat → ClassId} {qs : Nat → Nat} {fz : Nat → Nat → Int32} {f' : Nat → Int32} {H H1 : Heap} (hP : va_P D vwCl (X ++ zp n c N az ac kz qs fz) H) (hD : va_D A (X ++ zp n c N az ac kz qs fz)) (hk : k < N) (hr : ∀ q ∈ wr, q ∈ X ++ zp n c N az ac kz qs fz)
    (hkf : ∀ q : Nat, q < H.size → ¬ va_A (wr ++ [(az k, .inr (7, [.ref (ac k), .int (nI (min (qs k) n))])), (ac k, .inl (kz k, c, .inl (fz k)))]) H.size q → H1[q]? = H[q]?) (hn : n' ≤ n) (hP1 : va_P D vwCl (wr ++ [(az k, .inr (7, [.ref (ac k), .int (nI n')])), (ac k, .inl (kz k, c, .inl f'))]) H1) :
    ∃ (qs' : Nat → Nat) (fz' : Nat → Nat → Int32), va_P D vwCl (X ++ zp n c N az ac kz qs' fz') H1 ∧ va_D A (X ++ zp n c N az ac kz qs' fz') := by
  refine ⟨fun j => if j = k then n' else qs j, fun j => if j = k then f' else fz j, ?_, vD_fst hD zp_fst⟩
  have old : ∀ (i : Nat) (q : Nat × va_E), (X ++ zp n c N az ac kz qs fz)[i]? = some q → i ≠ X.length + k → i ≠ X.length + (N + k) → va_at D vwCl q H1 := by
    intro i q hq h1 h2
    by_cases g : q ∈ wr
    · obtain ⟨j, hj⟩ := List.getElem?_of_mem (List.mem_append_left [(az k, Sum.inr (7, [Value.ref (ac k), Value.int (nI n')])), (ac k, Sum.inl (kz k, c, Sum.inl f'))] g)
      exact hP1 j q hj
    · refine (hP i q hq).kept (hkf q.1 (hP i q hq).lt (fun ha => ?_))
      rcases ha with ⟨j, e, hj⟩ | ha
      · rcases List.mem_append.mp (List.mem_of_getElem? hj) with h | h
        · obtain ⟨i2, h3⟩ := List.getElem?_of_mem (hr _ h)
          have h4 := hD.1 i i2 q _ hq h3 rfl
          subst h4
          rw [hq] at h3
          exact g (by rw [Option.some.inj h3]; exact h)
        · rcases List.mem_cons.mp h with h | h
          · exact h1 (hD.1 i _ q _ hq (zp_o hk) (by have := congrArg Prod.fst h; exact this))
          · rcases List.mem_cons.mp h with h | h
            · exact h2 (hD.1 i _ q _ hq (zp_a hk) (by have := congrArg Prod.fst h; exact this))
            · exact absurd h List.not_mem_nil
      · exact absurd (hP i q hq).lt (by omega)
  have hnew : ∀ q ∈ [((az k, .inr (7, [.ref (ac k), .int (nI n')])) : Nat × va_E), (ac k, .inl (kz k, c, .inl f'))], va_at D vwCl q H1 := by
    intro q hq
    obtain ⟨j, hj⟩ := List.getElem?_of_mem (List.mem_append_right wr hq)
    exact hP1 j q hj
  intro i q hq
  by_cases h0 : i < X.length
  · rw [List.getElem?_append_left h0] at hq
    exact old i q (by rw [List.getElem?_append_left h0]; exact hq) (by omega) (by omega)
  · rw [List.getElem?_append_right (by omega), zp_get] at hq
    by_cases h1 : i - X.length < N
    · rw [if_pos h1] at hq
      by_cases h2 : i - X.length = k
      · rw [h2] at hq
        cases hq
        have := hnew _ List.mem_cons_self
        unfold zpo
        rw [show (fun j => if j = k then n' else qs j) k = n' from if_pos rfl, Nat.min_eq_left hn]
        exact this
      · have hq' : (X ++ zp n c N az ac kz qs fz)[i]? = some q := by
          rw [List.getElem?_append_right (by omega), zp_get, if_pos h1]
          rw [← hq]
          unfold zpo
          rw [show (fun j => if j = k then n' else qs j) (i - X.length) = qs (i - X.length) from if_neg h2]
        exact old i q hq' (by omega) (by omega)
    · rw [if_neg h1] at hq
      by_cases h3 : i - X.length < 2 * N
      · rw [if_pos h3] at hq
        by_cases h2 : i - X.length - N = k
        · rw [h2] at hq
          cases hq
          have := hnew _ (List.mem_cons_of_mem _ List.mem_cons_self)
          unfold zpa
          rw [show (fun j => if j = k then f' else fz j) k = f' from if_pos rfl]
          exact this
        · have hq' : (X ++ zp n c N az ac kz qs fz)[i]? = some q := by
            rw [List.getElem?_append_right (by omega), zp_get, if_neg h1, if_pos h3]
            rw [← hq]
            unfold zpa
            rw [show (fun j => if j = k then f' else fz j) (i - X.length - N) = fz (i - X.length - N) from if_neg h2]
          exact old i q hq' (by omega) (by omega)
      · rw [if_neg h3] at hq; cases hq
theorem zp_K {D : va_G} {T T' : List (ClassId × FieldType)} {N k : Nat} {kz : Nat → ClassId} {U : State} (hK : va_K D vwCl (T ++ zt N kz) U) (hk : k < N) (is : List Nat) (hs : is.map (fun i => T[i]?) = T'.map some) : va_K D vwCl (T' ++ [(kz k, .int)]) U := by
  refine ⟨hK.1, fun i q hq => ?_⟩
  rcases List.mem_append.mp (List.mem_of_getElem? hq) with h | h
  · obtain ⟨j, hj⟩ := List.getElem?_of_mem h
    have h1 : (is.map (fun i => T[i]?))[j]? = some (some q) := by rw [hs, List.getElem?_map, hj]; rfl
    rw [List.getElem?_map] at h1
    cases hi : is[j]? with
    | none => rw [hi] at h1; cases h1
    | some i0 =>
      rw [hi] at h1
      have h2 : T[i0]? = some q := Option.some.inj h1
      exact hK.2 i0 q (by rw [List.getElem?_append_left (List.getElem?_eq_some_iff.mp h2).1]; exact h2)
  · rcases List.mem_cons.mp h with h | h
    · rw [h]
      exact hK.2 (T.length + k) _ (by rw [List.getElem?_append_right (by omega), Nat.add_sub_cancel_left]; unfold zt; rw [List.getElem?_map, List.getElem?_range hk]; rfl)
    · exact absurd h List.not_mem_nil
theorem pu_subm {X wx : va_W} (is : List Nat) (hs : is.map (fun i => X[i]?) = wx.map some) : ∀ q ∈ wx, q ∈ X := fun q h => by
  obtain ⟨j, hj⟩ := List.getElem?_of_mem h
  obtain ⟨i, -, hi⟩ := va_in_of is hs hj
  exact List.mem_of_getElem? hi
theorem zp_two {X : va_W} {n c N j : Nat} {az ac : Nat → Nat} {kz : Nat → ClassId} {qs : Nat → Nat} {fz : Nat → Nat → Int32} (hj : j < N) : ∀ q ∈ [((az j, .inr (7, [.ref (ac j), .int (nI (min (qs j) n))])) : Nat × va_E), (ac j, .inl (kz j, c, .inl (fz j)))], q ∈ X ++ zp n c N az ac kz qs fz := fun q h => by
  rcases List.mem_cons.mp h with h | h
  · rw [h]; exact List.mem_of_getElem? (zp_o hj)
  · rcases List.mem_cons.mp h with h | h
    · rw [h]; exact List.mem_of_getElem? (zp_a hj)
    · exact absurd h List.not_mem_nil
theorem zp_cutD2 {A : Nat → Prop} {X : va_W} {n c N j k : Nat} {az ac : Nat → Nat} {kz : Nat → ClassId} {qs : Nat → Nat} {fz : Nat → Nat → Int32} (hD : va_D A (X ++ zp n c N az ac kz qs fz)) (hj : j < N) (hk : k < N) (hjk : j ≠ k) : va_D A ([(az j, .inr (7, [.ref (ac j), .int (nI (min (qs j) n))])), (ac j, .inl (kz j, c, .inl (fz j)))] ++ [(az k, .inr (7, [.ref (ac k), .int (nI (min (qs k) n))])), (ac k, .inl (kz k, c, .inl (fz k)))]) := by
  have h1 : va_D A [((az j, .inr (7, [.ref (ac j), .int (nI (min (qs j) n))])) : Nat × va_E), (ac j, .inl (kz j, c, .inl (fz j)))] := zp_cutD (wx := []) hD hj [] rfl rfl
  have h2 : va_D A [((az k, .inr (7, [.ref (ac k), .int (nI (min (qs k) n))])) : Nat × va_E), (ac k, .inl (kz k, c, .inl (fz k)))] := zp_cutD (wx := []) hD hk [] rfl rfl
  refine h1.app h2 (fun i i' p q hp hq e => ?_)
  match i, i', hp, hq with
  | 0, 0, hp, hq => cases hp; cases hq; have := hD.1 _ _ _ _ (zp_o hj) (zp_o hk) e; omega
  | 0, 1, hp, hq => cases hp; cases hq; have := hD.1 _ _ _ _ (zp_o hj) (zp_a hk) e; omega
  | 1, 0, hp, hq => cases hp; cases hq; have := hD.1 _ _ _ _ (zp_a hj) (zp_o hk) e; omega
  | 1, 1, hp, hq => cases hp; cases hq; have := hD.1 _ _ _ _ (zp_a hj) (zp_a hk) e; omega
  | i + 2, _, hp, _ => cases hp
  | 0, i' + 2, _, hq => cases hq
  | 1, i' + 2, _, hq => cases hq
theorem zp_K2 {D : va_G} {T : List (ClassId × FieldType)} {N j k : Nat} {kz : Nat → ClassId} {U : State} (hK : va_K D vwCl (T ++ zt N kz) U) (hj : j < N) (hk : k < N) : va_K D vwCl [(kz j, .int), (kz k, .int)] U := by
  have h1 : va_K D vwCl ([] ++ [(kz j, .int)]) U := zp_K (T' := []) hK hj [] rfl
  have h2 : va_K D vwCl ([] ++ [(kz k, .int)]) U := zp_K (T' := []) hK hk [] rfl
  exact h1.app h2
theorem zk_part {D : va_G} {T T' Z : List (ClassId × FieldType)} {U : State} (hK : va_K D vwCl (T ++ Z) U) (is : List Nat) (hs : is.map (fun i => T[i]?) = T'.map some) : va_K D vwCl (T' ++ Z) U := by
  refine ⟨hK.1, fun i q hq => ?_⟩
  rcases List.mem_append.mp (List.mem_of_getElem? hq) with h | h
  · obtain ⟨j, hj⟩ := List.getElem?_of_mem h
    have h1 : (is.map (fun i => T[i]?))[j]? = some (some q) := by rw [hs, List.getElem?_map, hj]; rfl
    rw [List.getElem?_map] at h1
    cases hi : is[j]? with
    | none => rw [hi] at h1; cases h1
    | some i0 =>
      rw [hi] at h1
      have h2 : T[i0]? = some q := Option.some.inj h1
      exact hK.2 i0 q (by rw [List.getElem?_append_left (List.getElem?_eq_some_iff.mp h2).1]; exact h2)
  · obtain ⟨j, hj⟩ := List.getElem?_of_mem h
    exact hK.2 (T.length + j) q (by rw [List.getElem?_append_right (by omega), Nat.add_sub_cancel_left]; exact hj)
/-- some cells and a whole tail of cells get new contents -/
theorem pl_put {A : Nat → Prop} {D : va_G} {X X' wc w1 pl pl' : va_W} {H H1 : Heap} (hP : va_P D vwCl (X ++ pl) H) (hD : va_D A (X ++ pl)) (is : List Nat) (hC : is.map (fun i => X[i]?) = wc.map some) (hk : ∀ q : Nat, q < H.size → ¬ va_A (wc ++ pl) H.size q → H1[q]? = H[q]?) (hP1 : va_P D vwCl (w1 ++ pl') H1) (hf : w1.map (fun e => some e.1) = wc.map (fun e => some e.1)) (hpf : pl.map Prod.fst = pl'.map Prod.fst) (hs : putL X is w1 = X') : va_P D vwCl (X' ++ pl') H1 ∧ va_D A (X' ++ pl') := by
  subst hs
  have hlen : is.length = w1.length := by
    have h1 := congrArg List.length hC
    have h2 := congrArg List.length hf
    rw [List.length_map, List.length_map] at h1 h2
    omega
  have hF : is.map (fun i => (X[i]?).map Prod.fst) = w1.map (fun e => some e.1) := by
    rw [hf]
    have := congrArg (List.map (Option.map Prod.fst)) hC
    rw [List.map_map, List.map_map] at this
    exact this
  have hX : X.map Prod.fst = (putL X is w1).map Prod.fst := by
    apply List.ext_getElem?
    intro k
    rw [List.getElem?_map, List.getElem?_map, putL_fst is w1 X hF k]
  have hXl : (putL X is w1).length = X.length := by
    have := congrArg List.length hX
    rw [List.length_map, List.length_map] at this
    exact this.symm
  refine ⟨fun k q hq => ?_, vD_fst hD (by rw [List.map_append, List.map_append, hX, hpf])⟩
  by_cases h0 : k < X.length
  · rw [List.getElem?_append_left (by omega)] at hq
    by_cases g : k ∈ is
    · obtain ⟨i, hi⟩ := List.getElem?_of_mem (List.mem_append_left pl' (putL_in is w1 X k q hlen g hq))
      exact hP1 i q hi
    · rw [putL_out is w1 X k g] at hq
      have hq' : (X ++ pl)[k]? = some q := by rw [List.getElem?_append_left h0]; exact hq
      refine (hP k q hq').kept (hk q.1 (hP k q hq').lt (fun ha => ?_))
      rcases ha with ⟨j, c, hj⟩ | ha
      · rcases List.mem_append.mp (List.mem_of_getElem? hj) with h | h
        · obtain ⟨j2, hj2⟩ := List.getElem?_of_mem h
          obtain ⟨i, h1, h2⟩ := va_in_of is hC hj2
          have hl := (List.getElem?_eq_some_iff.mp h2).1
          have := hD.1 k i q (q.1, c) hq' (by rw [List.getElem?_append_left hl]; exact h2) rfl
          exact g (by rw [this]; exact List.mem_of_getElem? h1)
        · obtain ⟨j2, hj2⟩ := List.getElem?_of_mem h
          have := hD.1 k (X.length + j2) q (q.1, c) hq' (by rw [List.getElem?_append_right (by omega), Nat.add_sub_cancel_left]; exact hj2) rfl
          omega
      · exact absurd (hP k q hq').lt (by omega)
  · rw [List.getElem?_append_right (by omega)] at hq
    obtain ⟨i, hi⟩ := List.getElem?_of_mem (List.mem_append_right w1 (List.mem_of_getElem? hq))
    exact hP1 i q hi
theorem zp_f {n c N : Nat} {az ac : Nat → Nat} {kz : Nat → ClassId} {qs qs' : Nat → Nat} {fz fz' : Nat → Nat → Int32} : (zp n c N az ac kz qs fz).map Prod.fst = (zp n c N az ac kz qs' fz').map Prod.fst := zp_fst (X := [])
/-- some explicit cells and one zone change -/
theorem zq_put {A : Nat → Prop} {D : va_G} {X X' wx w1 : va_W} {n c N k n' : Nat} {az ac : Nat → Nat} {kz : Nat → ClassId} {qs : Nat → Nat} {fz : Nat → Nat → Int32} {f' : Nat → Int32} {H H1 : Heap} (hP : va_P D vwCl (X ++ zp n c N az ac kz qs fz) H) (hD : va_D A (X ++ zp n c N az ac kz qs fz)) (hk : k < N) (is : List Nat) (hC : is.map (fun i => X[i]?) = wx.map some)
    (hkf : ∀ q : Nat, q < H.size → ¬ va_A (wx ++ [(az k, .inr (7, [.ref (ac k), .int (nI (min (qs k) n))])), (ac k, .inl (kz k, c, .inl (fz k)))]) H.size q → H1[q]? = H[q]?) (hn : n' ≤ n) (hP1 : va_P D vwCl (w1 ++ [(az k, .inr (7, [.ref (ac k), .int (nI n')])), (ac k, .inl (kz k, c, .inl f'))]) H1) (hf : w1.map (fun e => some e.1) = wx.map (fun e => some e.1)) (hs : putL X is w1 = X') :
    ∃ (qs' : Nat → Nat) (fz' : Nat → Nat → Int32), va_P D vwCl (X' ++ zp n c N az ac kz qs' fz') H1 ∧ va_D A (X' ++ zp n c N az ac kz qs' fz') := by
  subst hs
  have hlen : is.length = w1.length := by
    have h1 := congrArg List.length hC
    have h2 := congrArg List.length hf
    rw [List.length_map, List.length_map] at h1 h2
    omega
  have hF : is.map (fun i => (X[i]?).map Prod.fst) = w1.map (fun e => some e.1) := by
    rw [hf]
    have := congrArg (List.map (Option.map Prod.fst)) hC
    rw [List.map_map, List.map_map] at this
    exact this
  have hX : X.map Prod.fst = (putL X is w1).map Prod.fst := by
    apply List.ext_getElem?
    intro k
    rw [List.getElem?_map, List.getElem?_map, putL_fst is w1 X hF k]
  have hXl : (putL X is w1).length = X.length := by
    have := congrArg List.length hX
    rw [List.length_map, List.length_map] at this
    exact this.symm
  refine ⟨fun j => if j = k then n' else qs j, fun j => if j = k then f' else fz j, ?_, vD_fst hD (by rw [List.map_append, List.map_append, hX, zp_f])⟩
  have old : ∀ (i : Nat) (q : Nat × va_E), (X ++ zp n c N az ac kz qs fz)[i]? = some q → i ∉ is → i ≠ X.length + k → i ≠ X.length + (N + k) → va_at D vwCl q H1 := by
    intro i q hq h0 h1 h2
    refine (hP i q hq).kept (hkf q.1 (hP i q hq).lt (fun ha => ?_))
    rcases ha with ⟨j, e, hj⟩ | ha
    · rcases List.mem_append.mp (List.mem_of_getElem? hj) with h | h
      · obtain ⟨j2, hj2⟩ := List.getElem?_of_mem h
        obtain ⟨i2, h3, h4⟩ := va_in_of is hC hj2
        have hl := (List.getElem?_eq_some_iff.mp h4).1
        have := hD.1 i i2 q (q.1, e) hq (by rw [List.getElem?_append_left hl]; exact h4) rfl
        exact h0 (by rw [this]; exact List.mem_of_getElem? h3)
      · rcases List.mem_cons.mp h with h | h
        · exact h1 (hD.1 i _ q _ hq (zp_o hk) (by have := congrArg Prod.fst h; exact this))
        · rcases List.mem_cons.mp h with h | h
          · exact h2 (hD.1 i _ q _ hq (zp_a hk) (by have := congrArg Prod.fst h; exact this))
          · exact absurd h List.not_mem_nil
    · exact absurd (hP i q hq).lt (by omega)
  have isl : ∀ i ∈ is, i < X.length := by
    intro i hi
    obtain ⟨j, hj⟩ := List.getElem?_of_mem hi
    have h1 := congrArg (fun l : List (Option (Nat × va_E)) => l[j]?) hC
    simp only [List.getElem?_map, hj] at h1
    cases hw : wx[j]? with
    | none => rw [hw] at h1; cases h1
    | some x => rw [hw] at h1; exact (List.getElem?_eq_some_iff.mp (Option.some.inj h1)).1
  have hnew : ∀ q ∈ [((az k, .inr (7, [.ref (ac k), .int (nI n')])) : Nat × va_E), (ac k, .inl (kz k, c, .inl f'))], va_at D vwCl q H1 := by
    intro q hq
    obtain ⟨j, hj⟩ := List.getElem?_of_mem (List.mem_append_right w1 hq)
    exact hP1 j q hj
  intro i q hq
  by_cases h0 : i < X.length
  · rw [List.getElem?_append_left (by omega)] at hq
    by_cases g : i ∈ is
    · obtain ⟨j, hj⟩ := List.getElem?_of_mem (List.mem_append_left [(az k, Sum.inr (7, [Value.ref (ac k), Value.int (nI n')])), (ac k, Sum.inl (kz k, c, Sum.inl f'))] (putL_in is w1 X i q hlen g hq))
      exact hP1 j q hj
    · rw [putL_out is w1 X i g] at hq
      exact old i q (by rw [List.getElem?_append_left h0]; exact hq) g (by omega) (by omega)
  · have g : i ∉ is := fun h => h0 (isl i h)
    rw [List.getElem?_append_right (by omega), hXl, zp_get] at hq
    by_cases h1 : i - X.length < N
    · rw [if_pos h1] at hq
      by_cases h2 : i - X.length = k
      · rw [h2] at hq
        cases hq
        have := hnew _ List.mem_cons_self
        unfold zpo
        rw [show (fun j => if j = k then n' else qs j) k = n' from if_pos rfl, Nat.min_eq_left hn]
        exact this
      · have hq' : (X ++ zp n c N az ac kz qs fz)[i]? = some q := by
          rw [List.getElem?_append_right (by omega), zp_get, if_pos h1]
          rw [← hq]
          unfold zpo
          rw [show (fun j => if j = k then n' else qs j) (i - X.length) = qs (i - X.length) from if_neg h2]
        exact old i q hq' g (by omega) (by omega)
    · rw [if_neg h1] at hq
      by_cases h3 : i - X.length < 2 * N
      · rw [if_pos h3] at hq
        by_cases h2 : i - X.length - N = k
        · rw [h2] at hq
          cases hq
          have := hnew _ (List.mem_cons_of_mem _ List.mem_cons_self)
          unfold zpa
          rw [show (fun j => if j = k then f' else fz j) k = f' from if_pos rfl]
          exact this
        · have hq' : (X ++ zp n c N az ac kz qs fz)[i]? = some q := by
            rw [List.getElem?_append_right (by omega), zp_get, if_neg h1, if_pos h3]
            rw [← hq]
            unfold zpa
            rw [show (fun j => if j = k then f' else fz j) (i - X.length - N) = fz (i - X.length - N) from if_neg h2]
          exact old i q hq' g (by omega) (by omega)
      · rw [if_neg h3] at hq; cases hq
/-- the zones that cover -/
def cv_ok (n : Nat) (f : Nat → Option Nat) (az : Nat → Nat) : Prop := ∀ i : Nat, i < n → ∃ k : Nat, k ≤ 269 ∧ f i = some (az k)
theorem cv_0 {f : Nat → Option Nat} {az : Nat → Nat} : cv_ok 0 f az := fun i h => absurd h (Nat.not_lt_zero i)
theorem cv_get {n i : Nat} {f : Nat → Option Nat} {az : Nat → Nat} (h : cv_ok n f az) (hi : i < n) (hb : i < 2 ^ 31) : ∃ k : Nat, k ≤ 269 ∧ va_rf (f (nI i).toNatClampNeg) = .ref (az k) := by
  obtain ⟨k, h1, h2⟩ := h i hi
  exact ⟨k, h1, by rw [nI_clamp hb, h2]; rfl⟩
theorem cv_new {n k : Nat} {f : Nat → Option Nat} {az : Nat → Nat} (h : cv_ok n f az) (hk : k ≤ 269) (hb : n < 2 ^ 31) : cv_ok (n + 1) (va_up f (nI n).toNatClampNeg (some (az k))) az := by
  intro i hi
  rw [nI_clamp hb]
  by_cases e : i = n
  · subst e; exact ⟨k, hk, va_up_self _ _ _⟩
  · rw [va_up_ne _ _ e]; exact h i (by omega)
/-- where each cell of the new list comes from: the callee's cells first, then our own at its own place -/
def chk (m : Nat) (is js : List Nat) : Bool := (List.range js.length).all (fun k => match js[k]? with
  | some j => decide (j < m) || (j == m + k && !(is.contains k))
  | none => true)
theorem chk_at {m k j : Nat} {is js : List Nat} (h : chk m is js = true) (hj : js[k]? = some j) : j < m ∨ (j = m + k ∧ k ∉ is) := by
  have hk : k < js.length := (List.getElem?_eq_some_iff.mp hj).1
  have h1 := List.all_eq_true.mp h k (List.mem_range.mpr hk)
  rw [hj] at h1
  have h2 : (decide (j < m) || (j == m + k && !(is.contains k))) = true := h1
  rw [Bool.or_eq_true, decide_eq_true_eq, Bool.and_eq_true, beq_iff_eq, Bool.not_eq_true'] at h2
  rcases h2 with h2 | ⟨h2, h3⟩
  · exact Or.inl h2
  · refine Or.inr ⟨h2, fun h4 => ?_⟩
    rw [List.contains_iff_mem.mpr h4] at h3
    cases h3
theorem pj {A : Nat → Prop} {D : va_G} {X X' wc w1 P P' R : va_W} {H H1 : Heap} (hP : va_P D vwCl (X ++ (P ++ R)) H) (hD : va_D A (X ++ (P ++ R))) (is js : List Nat) (m : Nat) (hC : is.map (fun i => X[i]?) = wc.map some) (hk : ∀ q : Nat, q < H.size → ¬ va_A (wc ++ P) H.size q → H1[q]? = H[q]?) (hP1 : va_P D vwCl (w1 ++ P') H1) (hfx : X.map Prod.fst = X'.map Prod.fst) (hpf : P.map Prod.fst = P'.map Prod.fst) (hm : w1.length = m) (hJ : js.map (fun j => (w1 ++ X)[j]?) = X'.map some) (hok : chk m is js = true) : va_P D vwCl (X' ++ (P' ++ R)) H1 ∧ va_D A (X' ++ (P' ++ R)) := by
  have hlen : X'.length = X.length := by
    have := congrArg List.length hfx
    rw [List.length_map, List.length_map] at this
    exact this.symm
  have hplen : P'.length = P.length := by
    have := congrArg List.length hpf
    rw [List.length_map, List.length_map] at this
    exact this.symm
  -- a cell of ours that the callee had not is as it was
  have kept : ∀ (k : Nat) (q : Nat × va_E), (X ++ (P ++ R))[k]? = some q → k ∉ is → (k < X.length ∨ X.length + P.length ≤ k) → va_at D vwCl q H1 := by
    intro k q hq g hk2
    refine (hP k q hq).kept (hk q.1 (hP k q hq).lt (fun ha => ?_))
    rcases ha with ⟨j, c, hj⟩ | ha
    · rcases List.mem_append.mp (List.mem_of_getElem? hj) with h | h
      · obtain ⟨j2, hj2⟩ := List.getElem?_of_mem h
        obtain ⟨i, h1, h2⟩ := va_in_of is hC hj2
        have hl := (List.getElem?_eq_some_iff.mp h2).1
        have := hD.1 k i q (q.1, c) hq (by rw [List.getElem?_append_left hl]; exact h2) rfl
        exact g (by rw [this]; exact List.mem_of_getElem? h1)
      · obtain ⟨j2, hj2⟩ := List.getElem?_of_mem h
        have hl := (List.getElem?_eq_some_iff.mp hj2).1
        have := hD.1 k (X.length + j2) q (q.1, c) hq (by rw [List.getElem?_append_right (by omega), Nat.add_sub_cancel_left, List.getElem?_append_left hl]; exact hj2) rfl
        omega
    · exact absurd (hP k q hq).lt (by omega)
  have isl : ∀ i ∈ is, i < X.length := by
    intro i hi
    obtain ⟨j, hj⟩ := List.getElem?_of_mem hi
    have h1 := congrArg (fun l : List (Option (Nat × va_E)) => l[j]?) hC
    simp only [List.getElem?_map, hj] at h1
    cases hw : wc[j]? with
    | none => rw [hw] at h1; cases h1
    | some x => rw [hw] at h1; exact (List.getElem?_eq_some_iff.mp (Option.some.inj h1)).1
  refine ⟨fun k q hq => ?_, vD_fst hD (by rw [List.map_append, List.map_append, List.map_append, List.map_append, hfx, hpf])⟩
  by_cases h0 : k < X.length
  · rw [List.getElem?_append_left (by omega)] at hq
    have h1 : (js.map (fun j => (w1 ++ X)[j]?))[k]? = some (some q) := by rw [hJ, List.getElem?_map, hq]; rfl
    rw [List.getElem?_map] at h1
    cases hj : js[k]? with
    | none => rw [hj] at h1; cases h1
    | some j =>
      rw [hj] at h1
      have h2 : (w1 ++ X)[j]? = some q := Option.some.inj h1
      rcases chk_at hok hj with h3 | ⟨h3, h4⟩
      · rw [List.getElem?_append_left (by omega)] at h2
        obtain ⟨i, hi⟩ := List.getElem?_of_mem (List.mem_append_left P' (List.mem_of_getElem? h2))
        exact hP1 i q hi
      · rw [List.getElem?_append_right (by omega), show j - w1.length = k by omega] at h2
        exact kept k q (by rw [List.getElem?_append_left h0]; exact h2) h4 (Or.inl h0)
  · rw [List.getElem?_append_right (by omega)] at hq
    rcases Nat.lt_or_ge (k - X'.length) P'.length with h1 | h1
    · rw [List.getElem?_append_left h1] at hq
      obtain ⟨i, hi⟩ := List.getElem?_of_mem (List.mem_append_right w1 (List.mem_of_getElem? hq))
      exact hP1 i q hi
    · rw [List.getElem?_append_right h1] at hq
      refine kept k q ?_ (fun h => h0 (isl k h)) (Or.inr (by omega))
      rw [List.getElem?_append_right (by omega), List.getElem?_append_right (by omega), ← hplen, ← hlen]
      exact hq
theorem pj_c {A : Nat → Prop} {D : va_G} {X X' wc w1 P P' : va_W} {H H1 : Heap} (hP : va_P D vwCl (X ++ P) H) (hD : va_D A (X ++ P)) (is js : List Nat) (m : Nat) (hC : is.map (fun i => X[i]?) = wc.map some) (hk : ∀ q : Nat, q < H.size → ¬ va_A (wc ++ P) H.size q → H1[q]? = H[q]?) (hP1 : va_P D vwCl (w1 ++ P') H1) (hfx : X.map Prod.fst = X'.map Prod.fst) (hpf : P.map Prod.fst = P'.map Prod.fst) (hm : w1.length = m) (hJ : js.map (fun j => (w1 ++ X)[j]?) = X'.map some) (hok : chk m is js = true) : va_P D vwCl (X' ++ P') H1 ∧ va_D A (X' ++ P') := by
  have h := pj (R := []) (by rw [List.append_nil]; exact hP) (by rw [List.append_nil]; exact hD) is js m hC hk hP1 hfx hpf hm hJ hok
  rw [List.append_nil] at h
  exact h
theorem pj_b {A : Nat → Prop} {D : va_G} {X X' wc w1 R : va_W} {H H1 : Heap} (hP : va_P D vwCl (X ++ R) H) (hD : va_D A (X ++ R)) (is js : List Nat) (m : Nat) (hC : is.map (fun i => X[i]?) = wc.map some) (hk : ∀ q : Nat, q < H.size → ¬ va_A wc H.size q → H1[q]? = H[q]?) (hP1 : va_P D vwCl w1 H1) (hfx : X.map Prod.fst = X'.map Prod.fst) (hm : w1.length = m) (hJ : js.map (fun j => (w1 ++ X)[j]?) = X'.map some) (hok : chk m is js = true) : va_P D vwCl (X' ++ R) H1 ∧ va_D A (X' ++ R) :=
  pj (P := []) (P' := []) hP hD is js m hC (by rw [List.append_nil]; exact hk) (by rw [List.append_nil]; exact hP1) hfx rfl hm hJ hok
theorem pj_a {A : Nat → Prop} {D : va_G} {X X' wc w1 : va_W} {H H1 : Heap} (hP : va_P D vwCl X H) (hD : va_D A X) (is js : List Nat) (m : Nat) (hC : is.map (fun i => X[i]?) = wc.map some) (hk : ∀ q : Nat, q < H.size → ¬ va_A wc H.size q → H1[q]? = H[q]?) (hP1 : va_P D vwCl w1 H1) (hfx : X.map Prod.fst = X'.map Prod.fst) (hm : w1.length = m) (hJ : js.map (fun j => (w1 ++ X)[j]?) = X'.map some) (hok : chk m is js = true) : va_P D vwCl X' H1 ∧ va_D A X' := by
  have h := pj_b (R := []) (by rw [List.append_nil]; exact hP) (by rw [List.append_nil]; exact hD) is js m hC hk hP1 hfx hm hJ hok
  rw [List.append_nil] at h
  exact h
