/-- some cells of a world get new contents -/
def putL (ws : va_W) : List Nat → va_W → va_W
  | i :: is, e :: es => putL (ws.set i e) is es
  | _, _ => ws
theorem putL_out : ∀ (is : List Nat) (es ws : va_W) (k : Nat), k ∉ is → (putL ws is es)[k]? = ws[k]?
  | [], _, _, _, _ => rfl
  | _ :: _, [], _, _, _ => rfl
  | i :: is, e :: es, ws, k, h => by
    show (putL (ws.set i e) is es)[k]? = ws[k]?
    rw [putL_out is es (ws.set i e) k (fun g => h (List.mem_cons_of_mem _ g)), List.getElem?_set_ne (fun g => h (by rw [← g]; exact List.mem_cons_self))]
theorem putL_in : ∀ (is : List Nat) (es ws : va_W) (k : Nat) (q : Nat × va_E), is.length = es.length → k ∈ is → (putL ws is es)[k]? = some q → q ∈ es
  | [], _, _, _, _, _, h, _ => absurd h List.not_mem_nil
  | _ :: _, [], _, _, _, hl, _, _ => by cases hl
  | i :: is, e :: es, ws, k, q, hl, h, hq => by
    have hq : (putL (ws.set i e) is es)[k]? = some q := hq
    by_cases g : k ∈ is
    · exact List.mem_cons_of_mem _ (putL_in is es (ws.set i e) k q (Nat.succ.inj hl) g hq)
    · have hk : k = i := by
        rcases List.mem_cons.mp h with h | h
        · exact h
        · exact absurd h g
      subst hk
      rw [putL_out is es (ws.set k e) k g, List.getElem?_set_self'] at hq
      cases hw : ws[k]? with
      | none => rw [hw] at hq; cases hq
      | some x => rw [hw] at hq; cases hq; exact List.mem_cons_self
theorem putL_fst : ∀ (is : List Nat) (es ws : va_W), is.map (fun i => (ws[i]?).map Prod.fst) = es.map (fun e => some e.1) → ∀ k : Nat, ((putL ws is es)[k]?).map Prod.fst = (ws[k]?).map Prod.fst
  | [], _, _, _, _ => rfl
  | _ :: _, [], _, _, _ => rfl
  | i :: is, e :: es, ws, h, k => by
    have h1 : (ws[i]?).map Prod.fst = some e.1 := (List.cons.inj h).1
    have hs : ∀ j : Nat, ((ws.set i e)[j]?).map Prod.fst = (ws[j]?).map Prod.fst := by
      intro j
      by_cases hij : i = j
      · subst hij
        rw [h1, List.getElem?_set_self']
        cases hw : ws[i]? with
        | none => rw [hw] at h1; cases h1
        | some x => rfl
      · rw [List.getElem?_set_ne hij]
    have h2 := (List.cons.inj h).2
    rw [show (putL ws (i :: is) (e :: es)) = putL (ws.set i e) is es from rfl, putL_fst is es (ws.set i e) (by rw [← h2]; exact List.map_congr_left (fun j _ => hs j)) k, hs k]
theorem pu_put {A : Nat → Prop} {D : va_G} {ws ws' wc w1 : va_W} {H H1 : Heap} (hP : va_P D vwCl ws H) (hD : va_D A ws) (is : List Nat) (hC : is.map (fun i => ws[i]?) = wc.map some) (hk : ∀ q : Nat, q < H.size → ¬ va_A wc H.size q → H1[q]? = H[q]?) (hP1 : va_P D vwCl w1 H1) (hf : w1.map (fun e => some e.1) = wc.map (fun e => some e.1)) (hs : putL ws is w1 = ws') : va_P D vwCl ws' H1 ∧ va_D A ws' := by
  subst hs
  have hlen : is.length = w1.length := by
    have h1 := congrArg List.length hC
    have h2 := congrArg List.length hf
    rw [List.length_map, List.length_map] at h1 h2
    omega
  have hF : is.map (fun i => (ws[i]?).map Prod.fst) = w1.map (fun e => some e.1) := by
    rw [hf]
    have := congrArg (List.map (Option.map Prod.fst)) hC
    rw [List.map_map, List.map_map] at this
    exact this
  have hfst := putL_fst is w1 ws hF
  have dup : ∀ (k : Nat) (q : Nat × va_E), (putL ws is w1)[k]? = some q → ∃ q0 : Nat × va_E, ws[k]? = some q0 ∧ q0.1 = q.1 := by
    intro k q hq
    have h := hfst k
    rw [hq] at h
    cases hw : ws[k]? with
    | none => rw [hw] at h; cases h
    | some x => rw [hw] at h; exact ⟨x, rfl, (Option.some.inj h).symm⟩
  refine ⟨fun k q hq => ?_, fun i j p q hp hq e => ?_, fun k q hq => ?_⟩
  · by_cases g : k ∈ is
    · obtain ⟨i, hi⟩ := List.getElem?_of_mem (putL_in is w1 ws k q hlen g hq)
      exact hP1 i q hi
    · rw [putL_out is w1 ws k g] at hq
      refine (hP k q hq).kept (hk q.1 (hP k q hq).lt (fun ha => ?_))
      rcases ha with ⟨j, c, hj⟩ | ha
      · obtain ⟨i, h1, h2⟩ := va_in_of is hC hj
        exact g (by rw [hD.1 k i q _ hq h2 rfl]; exact List.mem_of_getElem? h1)
      · exact absurd (hP k q hq).lt (by omega)
  · obtain ⟨p0, h1, h2⟩ := dup i p hp
    obtain ⟨q0, h3, h4⟩ := dup j q hq
    exact hD.1 i j p0 q0 h1 h3 (by rw [h2, h4, e])
  · obtain ⟨q0, h1, h2⟩ := dup k q hq
    rw [← h2]
    exact hD.2 k q0 h1
theorem bN_up2 (h : Nat) (q : Nat → Nat) (k : Nat) {v : Nat} (hv : v ≤ h) : ∃ q' : Nat → Nat, upd (bN h q) k (nI v) = bN h q' ∧ bN h q' k = nI v ∧ ∀ j : Nat, j ≠ k → bN h q' j = bN h q j := ⟨fun j => if j = k then v else q j, by
  funext j
  unfold upd bN
  by_cases e : j = k
  · rw [if_pos e]; show nI v = nI (min (if j = k then v else q j) h); rw [if_pos e, Nat.min_eq_left hv]
  · rw [if_neg e]; show nI (min (q j) h) = nI (min (if j = k then v else q j) h); rw [if_neg e], by
  show nI (min (if k = k then v else q k) h) = nI v
  rw [if_pos rfl, Nat.min_eq_left hv], fun j e => by
  show nI (min (if j = k then v else q j) h) = nI (min (q j) h)
  rw [if_neg e]⟩
/-- counts of hosts that are not told yet -/
def cz (np ne : Nat) (q : Nat → Nat) : Prop := (∀ p : Nat, np ≤ p → p < 8 → bN 4 q (14 + p) = nI 0) ∧ ∀ e : Nat, ne ≤ e → e < 14 → bN 4 q e = nI 0
/-- one host alone has changed -/
def co (a : Nat) (q q' : Nat → Nat) : Prop := ∀ j : Nat, j ≠ a → bN 4 q' j = bN 4 q j
theorem co_refl {a : Nat} {q : Nat → Nat} : co a q q := fun _ _ => rfl
theorem co_step {a k : Nat} {q q1 q2 : Nat → Nat} (h : co a q q1) (hk : (nI a).toNatClampNeg = k) (ha : a < 2 ^ 31) (g : ∀ j : Nat, j ≠ k → bN 4 q2 j = bN 4 q1 j) : co a q q2 := fun j hj => by
  rw [nI_clamp ha] at hk
  rw [g j (by omega), h j hj]
theorem co_trans {a : Nat} {q q1 q2 : Nat → Nat} (h : co a q q1) (g : co a q1 q2) : co a q q2 := fun j hj => (g j hj).trans (h j hj)
theorem cz_p {np ne : Nat} {q : Nat → Nat} (h : cz np ne q) (hp : np < 8) : bN 4 q (nI (14 + np)).toNatClampNeg = nI 0 := by
  rw [nI_clamp (by omega)]; exact h.1 np (Nat.le_refl np) hp
theorem cz_e {np ne : Nat} {q : Nat → Nat} (h : cz np ne q) (he : ne < 14) : bN 4 q (nI ne).toNatClampNeg = nI 0 := by
  rw [nI_clamp (by omega)]; exact h.2 ne (Nat.le_refl ne) he
theorem cz_np {np ne : Nat} {q q' : Nat → Nat} (h : cz np ne q) (g : co (14 + np) q q') : cz (np + 1) ne q' := ⟨fun p h1 h2 => by rw [g (14 + p) (by omega)]; exact h.1 p (by omega) h2, fun e h1 h2 => by rw [g e (by omega)]; exact h.2 e h1 h2⟩
theorem cz_ne {np ne : Nat} {q q' : Nat → Nat} (h : cz np ne q) (hn : ne < 14) (g : co ne q q') : cz np (ne + 1) q' := ⟨fun p h1 h2 => by rw [g (14 + p) (by omega)]; exact h.1 p h1 h2, fun e h1 h2 => by rw [g e (by omega)]; exact h.2 e (by omega) h2⟩
theorem cz_up {np ne : Nat} {q : Nat → Nat} (h : cz np ne q) : cz (np + 1) ne q := ⟨fun p h1 h2 => h.1 p (by omega) h2, h.2⟩
theorem cz_ue {np ne : Nat} {q : Nat → Nat} (h : cz np ne q) : cz np (ne + 1) q := ⟨h.1, fun e h1 h2 => h.2 e (by omega) h2⟩
def zc (n : Nat) (q : Nat → Nat) : Prop := ∀ j : Nat, j < n → bN 4 q j = nI 0
theorem zc_0 {q : Nat → Nat} : zc 0 q := fun j h => absurd h (Nat.not_lt_zero j)
theorem zc_step {n : Nat} {q q' : Nat → Nat} (h : zc n q) (hn : n < 2 ^ 31) (k : bN 4 q' (nI n).toNatClampNeg = nI 0) (o : ∀ j : Nat, j ≠ (nI n).toNatClampNeg → bN 4 q' j = bN 4 q j) : zc (n + 1) q' := fun j hj => by
  rw [nI_clamp hn] at k o
  by_cases e : j = n
  · subst e; exact k
  · rw [o j e]; exact h j (by omega)
theorem zc_cz {n : Nat} {q : Nat → Nat} (h : zc n q) (hn : 22 ≤ n) : cz 0 0 q := ⟨fun p _ h2 => h (14 + p) (by omega), fun e _ h2 => h e (by omega)⟩
theorem mx_n0 {n : Nat} (h : n < 2 ^ 31) : (if (0 : Int32) < nI n then nI n else 0) = nI n := by
  split
  · rfl
  · rename_i q
    rw [fa_lt, nI_toInt h] at q
    have y0 : (0 : Int32).toInt = 0 := by decide
    obtain rfl : n = 0 := by omega
    rfl
theorem mx_n1 {n : Nat} (h : n < 2 ^ 31) : (if nI n < (0 : Int32) then 0 else nI n) = nI n := if_neg (nI_pos h)
theorem zx16 {i n j : Nat} (hi : i ≤ 3) (hn : n ≤ 4) (hj : j ≤ 3) : i * n + j < 16 := by
  have := Nat.mul_le_mul hi hn
  omega
theorem zy16 {i n : Nat} (hi : i ≤ 3) (hn : n ≤ 4) : i * n < 16 := by
  have := Nat.mul_le_mul hi hn
  omega
theorem zx25 {i n j : Nat} (hi : i ≤ 4) (hn : n ≤ 5) (hj : j ≤ 4) : i * n + j < 25 := by
  have := Nat.mul_le_mul hi hn
  omega
theorem zy25 {i n : Nat} (hi : i ≤ 4) (hn : n ≤ 5) : i * n < 25 := by
  have := Nat.mul_le_mul hi hn
  omega
theorem zz4 {n : Nat} (hn : n ≤ 4) : n * n ≤ 16 := Nat.mul_le_mul hn hn
theorem zz5 {n : Nat} (hn : n ≤ 5) : n * n ≤ 25 := Nat.mul_le_mul hn hn
abbrev au__w (au : Nat) (nc : Int32) (np : Int32) (ne : Int32) (st0 : Int32) (q4 : Nat) (q5 : Nat) (q6 : Nat) (q7 : Nat) (q8 : Nat) (q9 : Nat) (q10 : Nat) (q11 : Nat) (q12 : Nat) (q13 : Nat) (q14 : Nat) (q15 : Nat) (q16 : Nat) (k_f4 : ClassId) (f4 : Nat → Int32) (k_f5 : ClassId) (f5 : Nat → Int32) (k_f6 : ClassId) (f6 : Nat → Int32) (k_f7 : ClassId) (f7 : Nat → Int32) (k_f8 : ClassId) (f8 : Nat → Int32) (k_f9 : ClassId) (f9 : Nat → Int32) (k_f10 : ClassId) (f10 : Nat → Int32) (k_f11 : ClassId) (f11 : Nat → Int32) (k_f12 : ClassId) (f12 : Nat → Int32) (k_f13 : ClassId) (f13 : Nat → Int32) (k_f14 : ClassId) (f14 : Nat → Int32) (k_f15 : ClassId) (f15 : Nat → Int32) (k_f16 : ClassId) (f16 : Nat → Int32) : va_W := [(au, .inr (0, [.int nc, .int np, .int ne, .int st0, .ref q4, .ref q5, .ref q6, .ref q7, .ref q8, .ref q9, .ref q10, .ref q11, .ref q12, .ref q13, .ref q14, .ref q15, .ref q16])), (q4, .inl (k_f4, 8, .inl f4)), (q5, .inl (k_f5, 14, .inl f5)), (q6, .inl (k_f6, 14, .inl f6)), (q7, .inl (k_f7, 14, .inl f7)), (q8, .inl (k_f8, 22, .inl f8)), (q9, .inl (k_f9, 88, .inl f9)), (q10, .inl (k_f10, 88, .inl f10)), (q11, .inl (k_f11, 88, .inl f11)), (q12, .inl (k_f12, 88, .inl f12)), (q13, .inl (k_f13, 88, .inl f13)), (q14, .inl (k_f14, 4, .inl f14)), (q15, .inl (k_f15, 4, .inl f15)), (q16, .inl (k_f16, 4, .inl f16))]
abbrev au__t (k_f4 k_f5 k_f6 k_f7 k_f8 k_f9 k_f10 k_f11 k_f12 k_f13 k_f14 k_f15 k_f16 : ClassId) : List (ClassId × FieldType) := [(k_f4, .boolean), (k_f5, .int), (k_f6, .int), (k_f7, .int), (k_f8, .int), (k_f9, .int), (k_f10, .int), (k_f11, .int), (k_f12, .int), (k_f13, .int), (k_f14, .int), (k_f15, .int), (k_f16, .int)]
abbrev rd__w (rd : Nat) (fa : Int32) (fat : Int32) (tp : Nat) (len : Int32) (pos : Int32) (kd : Int32) (vl : Int32) (tka : Int32) (au : Nat) (rw : Nat) (rc : Nat) (rp : Nat) (k_ft : ClassId) (ft : Nat → Int32) (k_fw : ClassId) (fw : Nat → Int32) (k_fcn : ClassId) (fcn : Nat → Int32) (k_fpn : ClassId) (fpn : Nat → Int32) : va_W := [(rd, .inr (4, [.int fa, .int fat, .ref tp, .int len, .int pos, .int kd, .int vl, .int tka, .ref au, .ref rw, .ref rc, .ref rp])), (tp, .inl (k_ft, 900, .inl ft)), (rw, .inl (k_fw, 8, .inl fw)), (rc, .inl (k_fcn, 3, .inl fcn)), (rp, .inl (k_fpn, 8, .inl fpn))]
abbrev rd__t (k_ft k_fw k_fcn k_fpn : ClassId) : List (ClassId × FieldType) := [(k_ft, .int), (k_fw, .int), (k_fcn, .int), (k_fpn, .int)]
abbrev ra__w (rd : Nat) (fa : Int32) (fat : Int32) (tp : Nat) (len : Int32) (pos : Int32) (kd : Int32) (vl : Int32) (tka : Int32) (au : Nat) (rw : Nat) (rc : Nat) (rp : Nat) (k_ft : ClassId) (ft : Nat → Int32) (k_fw : ClassId) (fw : Nat → Int32) (k_fcn : ClassId) (fcn : Nat → Int32) (k_fpn : ClassId) (fpn : Nat → Int32) (nc : Int32) (np : Int32) (ne : Int32) (st0 : Int32) (q4 : Nat) (q5 : Nat) (q6 : Nat) (q7 : Nat) (q8 : Nat) (q9 : Nat) (q10 : Nat) (q11 : Nat) (q12 : Nat) (q13 : Nat) (q14 : Nat) (q15 : Nat) (q16 : Nat) (k_f4 : ClassId) (f4 : Nat → Int32) (k_f5 : ClassId) (f5 : Nat → Int32) (k_f6 : ClassId) (f6 : Nat → Int32) (k_f7 : ClassId) (f7 : Nat → Int32) (k_f8 : ClassId) (f8 : Nat → Int32) (k_f9 : ClassId) (f9 : Nat → Int32) (k_f10 : ClassId) (f10 : Nat → Int32) (k_f11 : ClassId) (f11 : Nat → Int32) (k_f12 : ClassId) (f12 : Nat → Int32) (k_f13 : ClassId) (f13 : Nat → Int32) (k_f14 : ClassId) (f14 : Nat → Int32) (k_f15 : ClassId) (f15 : Nat → Int32) (k_f16 : ClassId) (f16 : Nat → Int32) : va_W := [(rd, .inr (4, [.int fa, .int fat, .ref tp, .int len, .int pos, .int kd, .int vl, .int tka, .ref au, .ref rw, .ref rc, .ref rp])), (tp, .inl (k_ft, 900, .inl ft)), (rw, .inl (k_fw, 8, .inl fw)), (rc, .inl (k_fcn, 3, .inl fcn)), (rp, .inl (k_fpn, 8, .inl fpn)), (au, .inr (0, [.int nc, .int np, .int ne, .int st0, .ref q4, .ref q5, .ref q6, .ref q7, .ref q8, .ref q9, .ref q10, .ref q11, .ref q12, .ref q13, .ref q14, .ref q15, .ref q16])), (q4, .inl (k_f4, 8, .inl f4)), (q5, .inl (k_f5, 14, .inl f5)), (q6, .inl (k_f6, 14, .inl f6)), (q7, .inl (k_f7, 14, .inl f7)), (q8, .inl (k_f8, 22, .inl f8)), (q9, .inl (k_f9, 88, .inl f9)), (q10, .inl (k_f10, 88, .inl f10)), (q11, .inl (k_f11, 88, .inl f11)), (q12, .inl (k_f12, 88, .inl f12)), (q13, .inl (k_f13, 88, .inl f13)), (q14, .inl (k_f14, 4, .inl f14)), (q15, .inl (k_f15, 4, .inl f15)), (q16, .inl (k_f16, 4, .inl f16))]
abbrev ra__t (k_ft k_fw k_fcn k_fpn k_f4 k_f5 k_f6 k_f7 k_f8 k_f9 k_f10 k_f11 k_f12 k_f13 k_f14 k_f15 k_f16 : ClassId) : List (ClassId × FieldType) := [(k_ft, .int), (k_fw, .int), (k_fcn, .int), (k_fpn, .int), (k_f4, .boolean), (k_f5, .int), (k_f6, .int), (k_f7, .int), (k_f8, .int), (k_f9, .int), (k_f10, .int), (k_f11, .int), (k_f12, .int), (k_f13, .int), (k_f14, .int), (k_f15, .int), (k_f16, .int)]
abbrev rb__w (rd : Nat) (fa : Int32) (fat : Int32) (tx0 : Value) (len : Int32) (pos : Int32) (kd : Int32) (vl : Int32) (tka : Int32) (in0 : Value) (rw : Nat) (rc : Nat) (rp : Nat) (tp : Nat) (k_ft : ClassId) (ft : Nat → Int32) (k_fw : ClassId) (fw : Nat → Int32) (k_fcn : ClassId) (fcn : Nat → Int32) (k_fpn : ClassId) (fpn : Nat → Int32) (au : Nat) (nc : Int32) (np : Int32) (ne : Int32) (st0 : Int32) (q4 : Nat) (q5 : Nat) (q6 : Nat) (q7 : Nat) (q8 : Nat) (q9 : Nat) (q10 : Nat) (q11 : Nat) (q12 : Nat) (q13 : Nat) (q14 : Nat) (q15 : Nat) (q16 : Nat) (k_f4 : ClassId) (f4 : Nat → Int32) (k_f5 : ClassId) (f5 : Nat → Int32) (k_f6 : ClassId) (f6 : Nat → Int32) (k_f7 : ClassId) (f7 : Nat → Int32) (k_f8 : ClassId) (f8 : Nat → Int32) (k_f9 : ClassId) (f9 : Nat → Int32) (k_f10 : ClassId) (f10 : Nat → Int32) (k_f11 : ClassId) (f11 : Nat → Int32) (k_f12 : ClassId) (f12 : Nat → Int32) (k_f13 : ClassId) (f13 : Nat → Int32) (k_f14 : ClassId) (f14 : Nat → Int32) (k_f15 : ClassId) (f15 : Nat → Int32) (k_f16 : ClassId) (f16 : Nat → Int32) : va_W := [(rd, .inr (4, [.int fa, .int fat, tx0, .int len, .int pos, .int kd, .int vl, .int tka, in0, .ref rw, .ref rc, .ref rp])), (tp, .inl (k_ft, 900, .inl ft)), (rw, .inl (k_fw, 8, .inl fw)), (rc, .inl (k_fcn, 3, .inl fcn)), (rp, .inl (k_fpn, 8, .inl fpn)), (au, .inr (0, [.int nc, .int np, .int ne, .int st0, .ref q4, .ref q5, .ref q6, .ref q7, .ref q8, .ref q9, .ref q10, .ref q11, .ref q12, .ref q13, .ref q14, .ref q15, .ref q16])), (q4, .inl (k_f4, 8, .inl f4)), (q5, .inl (k_f5, 14, .inl f5)), (q6, .inl (k_f6, 14, .inl f6)), (q7, .inl (k_f7, 14, .inl f7)), (q8, .inl (k_f8, 22, .inl f8)), (q9, .inl (k_f9, 88, .inl f9)), (q10, .inl (k_f10, 88, .inl f10)), (q11, .inl (k_f11, 88, .inl f11)), (q12, .inl (k_f12, 88, .inl f12)), (q13, .inl (k_f13, 88, .inl f13)), (q14, .inl (k_f14, 4, .inl f14)), (q15, .inl (k_f15, 4, .inl f15)), (q16, .inl (k_f16, 4, .inl f16))]
abbrev rb__t (k_ft k_fw k_fcn k_fpn k_f4 k_f5 k_f6 k_f7 k_f8 k_f9 k_f10 k_f11 k_f12 k_f13 k_f14 k_f15 k_f16 : ClassId) : List (ClassId × FieldType) := [(k_ft, .int), (k_fw, .int), (k_fcn, .int), (k_fpn, .int), (k_f4, .boolean), (k_f5, .int), (k_f6, .int), (k_f7, .int), (k_f8, .int), (k_f9, .int), (k_f10, .int), (k_f11, .int), (k_f12, .int), (k_f13, .int), (k_f14, .int), (k_f15, .int), (k_f16, .int)]
abbrev hi__w (hy : Nat) (hk : Int32) (co : Nat) (ol : Nat) (k_fo : ClassId) (fo : Nat → Int32) (k_fl : ClassId) (fl : Nat → Int32) (au : Nat) (nc : Int32) (np : Int32) (ne : Int32) (st0 : Int32) (q4 : Nat) (q5 : Nat) (q6 : Nat) (q7 : Nat) (q8 : Nat) (q9 : Nat) (q10 : Nat) (q11 : Nat) (q12 : Nat) (q13 : Nat) (q14 : Nat) (q15 : Nat) (q16 : Nat) (k_f4 : ClassId) (f4 : Nat → Int32) (k_f5 : ClassId) (f5 : Nat → Int32) (k_f6 : ClassId) (f6 : Nat → Int32) (k_f7 : ClassId) (f7 : Nat → Int32) (k_f8 : ClassId) (f8 : Nat → Int32) (k_f9 : ClassId) (f9 : Nat → Int32) (k_f10 : ClassId) (f10 : Nat → Int32) (k_f11 : ClassId) (f11 : Nat → Int32) (k_f12 : ClassId) (f12 : Nat → Int32) (k_f13 : ClassId) (f13 : Nat → Int32) (k_f14 : ClassId) (f14 : Nat → Int32) (k_f15 : ClassId) (f15 : Nat → Int32) (k_f16 : ClassId) (f16 : Nat → Int32) : va_W := [(hy, .inr (2, [.int hk, .ref co, .ref ol])), (co, .inl (k_fo, 20, .inl fo)), (ol, .inl (k_fl, 20, .inl fl)), (au, .inr (0, [.int nc, .int np, .int ne, .int st0, .ref q4, .ref q5, .ref q6, .ref q7, .ref q8, .ref q9, .ref q10, .ref q11, .ref q12, .ref q13, .ref q14, .ref q15, .ref q16])), (q4, .inl (k_f4, 8, .inl f4)), (q5, .inl (k_f5, 14, .inl f5)), (q6, .inl (k_f6, 14, .inl f6)), (q7, .inl (k_f7, 14, .inl f7)), (q8, .inl (k_f8, 22, .inl f8)), (q9, .inl (k_f9, 88, .inl f9)), (q10, .inl (k_f10, 88, .inl f10)), (q11, .inl (k_f11, 88, .inl f11)), (q12, .inl (k_f12, 88, .inl f12)), (q13, .inl (k_f13, 88, .inl f13)), (q14, .inl (k_f14, 4, .inl f14)), (q15, .inl (k_f15, 4, .inl f15)), (q16, .inl (k_f16, 4, .inl f16))]
abbrev hi__t (k_fo k_fl k_f4 k_f5 k_f6 k_f7 k_f8 k_f9 k_f10 k_f11 k_f12 k_f13 k_f14 k_f15 k_f16 : ClassId) : List (ClassId × FieldType) := [(k_fo, .int), (k_fl, .int), (k_f4, .boolean), (k_f5, .int), (k_f6, .int), (k_f7, .int), (k_f8, .int), (k_f9, .int), (k_f10, .int), (k_f11, .int), (k_f12, .int), (k_f13, .int), (k_f14, .int), (k_f15, .int), (k_f16, .int)]
abbrev hz__w (hy : Nat) (hk : Int32) (co : Nat) (ol : Nat) (k_fo : ClassId) (fo : Nat → Int32) (k_fl : ClassId) (fl : Nat → Int32) : va_W := [(hy, .inr (2, [.int hk, .ref co, .ref ol])), (co, .inl (k_fo, 20, .inl fo)), (ol, .inl (k_fl, 20, .inl fl))]
abbrev hz__t (k_fo k_fl : ClassId) : List (ClassId × FieldType) := [(k_fo, .int), (k_fl, .int)]
abbrev pa__w (py : Nat) (on : Int32) (si : Int32) (ti : Int32) (tm : Nat) (bh : Nat) (k_ftm : ClassId) (ftm : Nat → Int32) (k_fbh : ClassId) (fbh : Nat → Int32) (au : Nat) (nc : Int32) (np : Int32) (ne : Int32) (st0 : Int32) (q4 : Nat) (q5 : Nat) (q6 : Nat) (q7 : Nat) (q8 : Nat) (q9 : Nat) (q10 : Nat) (q11 : Nat) (q12 : Nat) (q13 : Nat) (q14 : Nat) (q15 : Nat) (q16 : Nat) (k_f4 : ClassId) (f4 : Nat → Int32) (k_f5 : ClassId) (f5 : Nat → Int32) (k_f6 : ClassId) (f6 : Nat → Int32) (k_f7 : ClassId) (f7 : Nat → Int32) (k_f8 : ClassId) (f8 : Nat → Int32) (k_f9 : ClassId) (f9 : Nat → Int32) (k_f10 : ClassId) (f10 : Nat → Int32) (k_f11 : ClassId) (f11 : Nat → Int32) (k_f12 : ClassId) (f12 : Nat → Int32) (k_f13 : ClassId) (f13 : Nat → Int32) (k_f14 : ClassId) (f14 : Nat → Int32) (k_f15 : ClassId) (f15 : Nat → Int32) (k_f16 : ClassId) (f16 : Nat → Int32) : va_W := [(py, .inr (3, [.int on, .int si, .int ti, .ref tm, .ref bh])), (tm, .inl (k_ftm, 3, .inl ftm)), (bh, .inl (k_fbh, 3, .inl fbh)), (au, .inr (0, [.int nc, .int np, .int ne, .int st0, .ref q4, .ref q5, .ref q6, .ref q7, .ref q8, .ref q9, .ref q10, .ref q11, .ref q12, .ref q13, .ref q14, .ref q15, .ref q16])), (q4, .inl (k_f4, 8, .inl f4)), (q5, .inl (k_f5, 14, .inl f5)), (q6, .inl (k_f6, 14, .inl f6)), (q7, .inl (k_f7, 14, .inl f7)), (q8, .inl (k_f8, 22, .inl f8)), (q9, .inl (k_f9, 88, .inl f9)), (q10, .inl (k_f10, 88, .inl f10)), (q11, .inl (k_f11, 88, .inl f11)), (q12, .inl (k_f12, 88, .inl f12)), (q13, .inl (k_f13, 88, .inl f13)), (q14, .inl (k_f14, 4, .inl f14)), (q15, .inl (k_f15, 4, .inl f15)), (q16, .inl (k_f16, 4, .inl f16))]
abbrev pa__t (k_ftm k_fbh k_f4 k_f5 k_f6 k_f7 k_f8 k_f9 k_f10 k_f11 k_f12 k_f13 k_f14 k_f15 k_f16 : ClassId) : List (ClassId × FieldType) := [(k_ftm, .int), (k_fbh, .int), (k_f4, .boolean), (k_f5, .int), (k_f6, .int), (k_f7, .int), (k_f8, .int), (k_f9, .int), (k_f10, .int), (k_f11, .int), (k_f12, .int), (k_f13, .int), (k_f14, .int), (k_f15, .int), (k_f16, .int)]
abbrev py__w (py : Nat) (on : Int32) (si : Int32) (ti : Int32) (tm : Nat) (bh : Nat) (k_ftm : ClassId) (ftm : Nat → Int32) (k_fbh : ClassId) (fbh : Nat → Int32) : va_W := [(py, .inr (3, [.int on, .int si, .int ti, .ref tm, .ref bh])), (tm, .inl (k_ftm, 3, .inl ftm)), (bh, .inl (k_fbh, 3, .inl fbh))]
abbrev py__t (k_ftm k_fbh : ClassId) : List (ClassId × FieldType) := [(k_ftm, .int), (k_fbh, .int)]
abbrev at__w (au : Nat) (nc : Int32) (np : Int32) (ne : Int32) (st0 : Int32) (q4 : Nat) (q5 : Nat) (q6 : Nat) (q7 : Nat) (q8 : Nat) (q9 : Nat) (q10 : Nat) (q11 : Nat) (q12 : Nat) (q13 : Nat) (q14 : Nat) (q15 : Nat) (q16 : Nat) (k_f4 : ClassId) (f4 : Nat → Int32) (k_f5 : ClassId) (f5 : Nat → Int32) (k_f6 : ClassId) (f6 : Nat → Int32) (k_f7 : ClassId) (f7 : Nat → Int32) (k_f8 : ClassId) (f8 : Nat → Int32) (k_f9 : ClassId) (f9 : Nat → Int32) (k_f10 : ClassId) (f10 : Nat → Int32) (k_f11 : ClassId) (f11 : Nat → Int32) (k_f12 : ClassId) (f12 : Nat → Int32) (k_f13 : ClassId) (f13 : Nat → Int32) (k_f14 : ClassId) (f14 : Nat → Int32) (k_f15 : ClassId) (f15 : Nat → Int32) (k_f16 : ClassId) (f16 : Nat → Int32) (tt : Nat) (k_ftt : ClassId) (ftt : Nat → Int32) : va_W := [(au, .inr (0, [.int nc, .int np, .int ne, .int st0, .ref q4, .ref q5, .ref q6, .ref q7, .ref q8, .ref q9, .ref q10, .ref q11, .ref q12, .ref q13, .ref q14, .ref q15, .ref q16])), (q4, .inl (k_f4, 8, .inl f4)), (q5, .inl (k_f5, 14, .inl f5)), (q6, .inl (k_f6, 14, .inl f6)), (q7, .inl (k_f7, 14, .inl f7)), (q8, .inl (k_f8, 22, .inl f8)), (q9, .inl (k_f9, 88, .inl f9)), (q10, .inl (k_f10, 88, .inl f10)), (q11, .inl (k_f11, 88, .inl f11)), (q12, .inl (k_f12, 88, .inl f12)), (q13, .inl (k_f13, 88, .inl f13)), (q14, .inl (k_f14, 4, .inl f14)), (q15, .inl (k_f15, 4, .inl f15)), (q16, .inl (k_f16, 4, .inl f16)), (tt, .inl (k_ftt, 3, .inl ftt))]
abbrev at__t (k_f4 k_f5 k_f6 k_f7 k_f8 k_f9 k_f10 k_f11 k_f12 k_f13 k_f14 k_f15 k_f16 k_ftt : ClassId) : List (ClassId × FieldType) := [(k_f4, .boolean), (k_f5, .int), (k_f6, .int), (k_f7, .int), (k_f8, .int), (k_f9, .int), (k_f10, .int), (k_f11, .int), (k_f12, .int), (k_f13, .int), (k_f14, .int), (k_f15, .int), (k_f16, .int), (k_ftt, .int)]
abbrev z16__w (z : Nat) (zc : Nat) (zn : Int32) (k_fz : ClassId) (fz : Nat → Int32) : va_W := [(z, .inr (7, [.ref zc, .int zn])), (zc, .inl (k_fz, 16, .inl fz))]
abbrev z16__t (k_fz : ClassId) : List (ClassId × FieldType) := [(k_fz, .int)]
abbrev z25__w (z : Nat) (zc : Nat) (zn : Int32) (k_fz : ClassId) (fz : Nat → Int32) : va_W := [(z, .inr (7, [.ref zc, .int zn])), (zc, .inl (k_fz, 25, .inl fz))]
abbrev z25__t (k_fz : ClassId) : List (ClassId × FieldType) := [(k_fz, .int)]
abbrev zz16__w (z : Nat) (zc : Nat) (zn : Int32) (k_fz : ClassId) (fz : Nat → Int32) (zo : Nat) (zd : Nat) (zm : Int32) (k_fo : ClassId) (fo : Nat → Int32) : va_W := [(z, .inr (7, [.ref zc, .int zn])), (zc, .inl (k_fz, 16, .inl fz)), (zo, .inr (7, [.ref zd, .int zm])), (zd, .inl (k_fo, 16, .inl fo))]
abbrev zz16__t (k_fz k_fo : ClassId) : List (ClassId × FieldType) := [(k_fz, .int), (k_fo, .int)]
abbrev zz25__w (z : Nat) (zc : Nat) (zn : Int32) (k_fz : ClassId) (fz : Nat → Int32) (zo : Nat) (zd : Nat) (zm : Int32) (k_fo : ClassId) (fo : Nat → Int32) : va_W := [(z, .inr (7, [.ref zc, .int zn])), (zc, .inl (k_fz, 25, .inl fz)), (zo, .inr (7, [.ref zd, .int zm])), (zd, .inl (k_fo, 25, .inl fo))]
abbrev zz25__t (k_fz k_fo : ClassId) : List (ClassId × FieldType) := [(k_fz, .int), (k_fo, .int)]
abbrev zu16__w (z : Nat) (zc : Nat) (zn : Int32) (k_fz : ClassId) (fz : Nat → Int32) (vz : Nat) (k_fv : ClassId) (fv : Nat → Int32) : va_W := [(z, .inr (7, [.ref zc, .int zn])), (zc, .inl (k_fz, 16, .inl fz)), (vz, .inl (k_fv, 5, .inl fv))]
abbrev zu16__t (k_fz k_fv : ClassId) : List (ClassId × FieldType) := [(k_fz, .int), (k_fv, .int)]
abbrev zu25__w (z : Nat) (zc : Nat) (zn : Int32) (k_fz : ClassId) (fz : Nat → Int32) (vz : Nat) (k_fv : ClassId) (fv : Nat → Int32) : va_W := [(z, .inr (7, [.ref zc, .int zn])), (zc, .inl (k_fz, 25, .inl fz)), (vz, .inl (k_fv, 5, .inl fv))]
abbrev zu25__t (k_fz k_fv : ClassId) : List (ClassId × FieldType) := [(k_fz, .int), (k_fv, .int)]
abbrev zs16__w (z : Nat) (zc : Nat) (zn : Int32) (k_fz : ClassId) (fz : Nat → Int32) (vz : Nat) (k_fv : ClassId) (fv : Nat → Int32) : va_W := [(z, .inr (7, [.ref zc, .int zn])), (zc, .inl (k_fz, 16, .inl fz)), (vz, .inl (k_fv, 4, .inl fv))]
abbrev zs16__t (k_fz k_fv : ClassId) : List (ClassId × FieldType) := [(k_fz, .int), (k_fv, .int)]
abbrev zf16__w (z : Nat) (zc : Nat) (zn : Int32) (k_fz : ClassId) (fz : Nat → Int32) (ah : Nat) (k_fh : ClassId) (fh : Nat → Int32) (al : Nat) (k_fl : ClassId) (fl : Nat → Int32) : va_W := [(z, .inr (7, [.ref zc, .int zn])), (zc, .inl (k_fz, 16, .inl fz)), (ah, .inl (k_fh, 5, .inl fh)), (al, .inl (k_fl, 5, .inl fl))]
abbrev zf16__t (k_fz k_fh k_fl : ClassId) : List (ClassId × FieldType) := [(k_fz, .int), (k_fh, .int), (k_fl, .int)]
abbrev zf25__w (z : Nat) (zc : Nat) (zn : Int32) (k_fz : ClassId) (fz : Nat → Int32) (ah : Nat) (k_fh : ClassId) (fh : Nat → Int32) (al : Nat) (k_fl : ClassId) (fl : Nat → Int32) : va_W := [(z, .inr (7, [.ref zc, .int zn])), (zc, .inl (k_fz, 25, .inl fz)), (ah, .inl (k_fh, 5, .inl fh)), (al, .inl (k_fl, 5, .inl fl))]
abbrev zf25__t (k_fz k_fh k_fl : ClassId) : List (ClassId × FieldType) := [(k_fz, .int), (k_fh, .int), (k_fl, .int)]
abbrev az16__w (au : Nat) (nc : Int32) (np : Int32) (ne : Int32) (st0 : Int32) (q4 : Nat) (q5 : Nat) (q6 : Nat) (q7 : Nat) (q8 : Nat) (q9 : Nat) (q10 : Nat) (q11 : Nat) (q12 : Nat) (q13 : Nat) (q14 : Nat) (q15 : Nat) (q16 : Nat) (k_f4 : ClassId) (f4 : Nat → Int32) (k_f5 : ClassId) (f5 : Nat → Int32) (k_f6 : ClassId) (f6 : Nat → Int32) (k_f7 : ClassId) (f7 : Nat → Int32) (k_f8 : ClassId) (f8 : Nat → Int32) (k_f9 : ClassId) (f9 : Nat → Int32) (k_f10 : ClassId) (f10 : Nat → Int32) (k_f11 : ClassId) (f11 : Nat → Int32) (k_f12 : ClassId) (f12 : Nat → Int32) (k_f13 : ClassId) (f13 : Nat → Int32) (k_f14 : ClassId) (f14 : Nat → Int32) (k_f15 : ClassId) (f15 : Nat → Int32) (k_f16 : ClassId) (f16 : Nat → Int32) (z : Nat) (zc : Nat) (zn : Int32) (k_fz : ClassId) (fz : Nat → Int32) : va_W := [(au, .inr (0, [.int nc, .int np, .int ne, .int st0, .ref q4, .ref q5, .ref q6, .ref q7, .ref q8, .ref q9, .ref q10, .ref q11, .ref q12, .ref q13, .ref q14, .ref q15, .ref q16])), (q4, .inl (k_f4, 8, .inl f4)), (q5, .inl (k_f5, 14, .inl f5)), (q6, .inl (k_f6, 14, .inl f6)), (q7, .inl (k_f7, 14, .inl f7)), (q8, .inl (k_f8, 22, .inl f8)), (q9, .inl (k_f9, 88, .inl f9)), (q10, .inl (k_f10, 88, .inl f10)), (q11, .inl (k_f11, 88, .inl f11)), (q12, .inl (k_f12, 88, .inl f12)), (q13, .inl (k_f13, 88, .inl f13)), (q14, .inl (k_f14, 4, .inl f14)), (q15, .inl (k_f15, 4, .inl f15)), (q16, .inl (k_f16, 4, .inl f16)), (z, .inr (7, [.ref zc, .int zn])), (zc, .inl (k_fz, 16, .inl fz))]
abbrev az16__t (k_f4 k_f5 k_f6 k_f7 k_f8 k_f9 k_f10 k_f11 k_f12 k_f13 k_f14 k_f15 k_f16 k_fz : ClassId) : List (ClassId × FieldType) := [(k_f4, .boolean), (k_f5, .int), (k_f6, .int), (k_f7, .int), (k_f8, .int), (k_f9, .int), (k_f10, .int), (k_f11, .int), (k_f12, .int), (k_f13, .int), (k_f14, .int), (k_f15, .int), (k_f16, .int), (k_fz, .int)]
abbrev az25__w (au : Nat) (nc : Int32) (np : Int32) (ne : Int32) (st0 : Int32) (q4 : Nat) (q5 : Nat) (q6 : Nat) (q7 : Nat) (q8 : Nat) (q9 : Nat) (q10 : Nat) (q11 : Nat) (q12 : Nat) (q13 : Nat) (q14 : Nat) (q15 : Nat) (q16 : Nat) (k_f4 : ClassId) (f4 : Nat → Int32) (k_f5 : ClassId) (f5 : Nat → Int32) (k_f6 : ClassId) (f6 : Nat → Int32) (k_f7 : ClassId) (f7 : Nat → Int32) (k_f8 : ClassId) (f8 : Nat → Int32) (k_f9 : ClassId) (f9 : Nat → Int32) (k_f10 : ClassId) (f10 : Nat → Int32) (k_f11 : ClassId) (f11 : Nat → Int32) (k_f12 : ClassId) (f12 : Nat → Int32) (k_f13 : ClassId) (f13 : Nat → Int32) (k_f14 : ClassId) (f14 : Nat → Int32) (k_f15 : ClassId) (f15 : Nat → Int32) (k_f16 : ClassId) (f16 : Nat → Int32) (z : Nat) (zc : Nat) (zn : Int32) (k_fz : ClassId) (fz : Nat → Int32) : va_W := [(au, .inr (0, [.int nc, .int np, .int ne, .int st0, .ref q4, .ref q5, .ref q6, .ref q7, .ref q8, .ref q9, .ref q10, .ref q11, .ref q12, .ref q13, .ref q14, .ref q15, .ref q16])), (q4, .inl (k_f4, 8, .inl f4)), (q5, .inl (k_f5, 14, .inl f5)), (q6, .inl (k_f6, 14, .inl f6)), (q7, .inl (k_f7, 14, .inl f7)), (q8, .inl (k_f8, 22, .inl f8)), (q9, .inl (k_f9, 88, .inl f9)), (q10, .inl (k_f10, 88, .inl f10)), (q11, .inl (k_f11, 88, .inl f11)), (q12, .inl (k_f12, 88, .inl f12)), (q13, .inl (k_f13, 88, .inl f13)), (q14, .inl (k_f14, 4, .inl f14)), (q15, .inl (k_f15, 4, .inl f15)), (q16, .inl (k_f16, 4, .inl f16)), (z, .inr (7, [.ref zc, .int zn])), (zc, .inl (k_fz, 25, .inl fz))]
abbrev az25__t (k_f4 k_f5 k_f6 k_f7 k_f8 k_f9 k_f10 k_f11 k_f12 k_f13 k_f14 k_f15 k_f16 k_fz : ClassId) : List (ClassId × FieldType) := [(k_f4, .boolean), (k_f5, .int), (k_f6, .int), (k_f7, .int), (k_f8, .int), (k_f9, .int), (k_f10, .int), (k_f11, .int), (k_f12, .int), (k_f13, .int), (k_f14, .int), (k_f15, .int), (k_f16, .int), (k_fz, .int)]
