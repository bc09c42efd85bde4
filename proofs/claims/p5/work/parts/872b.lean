/-! THE CLAIM OUT OF ONE WALK OF THE LAW'S BODY. Your part is whole_start (and what it stands on); all else here is the same for every law, but numbers. -/
def R_law : String := "ClockReachLaw"
def lw_P (b : Addr) (xs : List Int32) (args : Array Value) (s : State) : Prop := args = #[.ref b] ∧ s.IntsAt b xs ∧ xs.length ≤ 3584 ∧ (Jvm.Cond.and given_1 narrow_1).before args s = true
def lw_Q (_ : Array Value) (s : State) (o : Outcome) (t : State) : Prop := o = .returned (some (.int 1)) ∧ Framed s o t [] 601024 7293034
def lw_Z (below : List Frame) (a : Array Value) (s : State) : State → Prop := fun t => ∃ o, t.status = .running ∧ Ended t below o ∧ lw_Q a s o t
/-- the law's own end, with 1 on the stack, nothing written that was there before, its room as the claim has it -/
theorem lw_ret {p : Program} {l : Launch} {e : Env} {s : State} {m : MethodId} {below : List Frame} {meth : Method} {c : Code} {b : Nat} (hx : p.tables.exec = Jvm.exec) (hb : c.code = code) (hr : meth.sig.returnType = ret) (hlocks : meth.locks = false) {pc : Nat} {H : Heap} {ls : Array Slot} (hdg : decode code pc = .ok (.ireturn, 1)) : W p l e room_1 s m #[Value.ref b] below meth c H [] 601024 7293034 (lw_Z below #[Value.ref b] s) (F0 m pc ls [.int 1]) := by
  intro T hT X
  obtain ⟨fs, hret, hrun, hended, hW, hframe⟩ := X.leave (v := some (.int 1)) (hlocks := hlocks) (fun h => by rw [hr] at h; cases h)
  have hmeth' : T.vm.method? m = some meth := X.method'
  refine ⟨T.setFrames fs, ?_, .returned (some (.int 1)), hrun, hended, rfl, ⟨_, rfl⟩, hW, hframe⟩
  jvm_step X.here [X.here.top, hx, hb, hdg, hmeth', hr, ret, narrow_b1]
  (try refine ⟨rfl, ?_⟩); (try refine ⟨rfl, ?_⟩)
  first | (intro acts; rw [hret _ acts rfl rfl rfl]) | rw [hret _ _ rfl rfl rfl]
  exact Steps.refl _
/-- what holds at the law's entry: the machine, the code, the tables' words (any of lw_tbl by 'hts w (by decide +kernel)'), the script of L ints xs at the cell b, what the Statement gives of the start (any of its parts by flat_of_before) -/
def lw_At (p : Program) (s : State) (m : MethodId) (meth : Method) (c : Code) (b L : Nat) (xs : Nat → Int32) : Prop :=
  p.tables.exec = Jvm.exec ∧ c.code = code ∧ meth.sig.returnType = ret ∧ c.maxLocals = 7 ∧ s.vm.findClass R_law = some m.cls ∧ (∀ w ∈ lw_tbl, w.before #[Value.ref b] s = true) ∧ va_X b L xs s s.heap ∧ b < s.heap.size ∧ meth.locks = false ∧ (Jvm.Cond.and given_1 narrow_1).before #[Value.ref b] s = true
/-- the classes of the worlds, as the tables have them -/
theorem law_known {p : Program} {e : Env} {s : State} {m : MethodId} {below : List Frame} {meth : Method} {c : Code} {b L : Nat} {xs : Nat → Int32} (C0 : lw_At p s m meth c b L xs) : ∃ (dC : Nat → ClassId) (dI : Nat → Nat → Nat), va_K (dC, dI) vwCl [] s := by
  obtain ⟨hx, hb, hr, hml, hown, hts, hX, hbl, hlocks, hgv⟩ := C0
  obtain ⟨c0, iS0, hKn0⟩ := u_known (C := RX0) (T := TX0) (N := 17) (n := 17) hts inL_X0 (hts (.instantiable RX0 17) (List.mem_append_right _ (List.mem_append_left _ (List.mem_of_getElem? (i := 135) rfl))))
  obtain ⟨c1, iS1, hKn1⟩ := u_known (C := RX1) (T := TX1) (N := 18) (n := 18) hts inL_X1 (hts (.instantiable RX1 18) (List.mem_append_right _ (List.mem_append_right _ (List.mem_append_left _ (List.mem_of_getElem? (i := 22) rfl)))))
  obtain ⟨c2, iS2, hKn2⟩ := u_known (C := RX2) (T := TX2) (N := 3) (n := 3) hts inL_X2 (hts (.instantiable RX2 3) (List.mem_append_right _ (List.mem_append_right _ (List.mem_append_left _ (List.mem_of_getElem? (i := 5) rfl)))))
  obtain ⟨c3, iS3, hKn3⟩ := u_known (C := RX3) (T := TX3) (N := 5) (n := 5) hts inL_X3 (hts (.instantiable RX3 5) (List.mem_append_right _ (List.mem_append_right _ (List.mem_append_left _ (List.mem_of_getElem? (i := 191) rfl)))))
  obtain ⟨c4, iS4, hKn4⟩ := u_known (C := RX4) (T := TX4) (N := 12) (n := 12) hts inL_X4 (hts (.instantiable RX4 12) (List.mem_append_right _ (List.mem_append_left _ (List.mem_of_getElem? (i := 29) rfl))))
  obtain ⟨c5, iS5, hKn5⟩ := u_known (C := RX5) (T := TX5) (N := 8) (n := 8) hts inL_X5 (hts (.instantiable RX5 8) (List.mem_append_right _ (List.mem_append_right _ (List.mem_append_left _ (List.mem_of_getElem? (i := 116) rfl)))))
  obtain ⟨c6, iS6, hKn6⟩ := u_known (C := RX6) (T := TX6) (N := 10) (n := 10) hts inL_X6 (hts (.instantiable RX6 10) (List.mem_append_right _ (List.mem_append_right _ (List.mem_append_left _ (List.mem_of_getElem? (i := 149) rfl)))))
  obtain ⟨c7, iS7, hKn7⟩ := u_known (C := RX7) (T := TX7) (N := 2) (n := 2) hts inL_X7 (hts (.instantiable RX7 2) (List.mem_append_right _ (List.mem_append_right _ (List.mem_append_left _ (List.mem_of_getElem? (i := 29) rfl)))))
  obtain ⟨c8, iS8, hKn8⟩ := u_known (C := RX8) (T := TX8) (N := 16) (n := 16) hts inL_X8 (hts (.instantiable RX8 16) (List.mem_append_right _ (List.mem_append_left _ (List.mem_of_getElem? (i := 21) rfl))))
  obtain ⟨c9, iS9, hKn9⟩ := u_known (C := RX9) (T := TX9) (N := 67) (n := 67) hts inL_X9 (hts (.instantiable RX9 67) (List.mem_append_right _ (List.mem_append_right _ (List.mem_append_right _ (List.mem_append_right _ (List.mem_append_right _ (List.mem_append_left _ (List.mem_of_getElem? (i := 213) rfl))))))))
  refine ⟨fun k => [c0, c1, c2, c3, c4, c5, c6, c7, c8, c9].getD k c0, fun k => [iS0, iS1, iS2, iS3, iS4, iS5, iS6, iS7, iS8, iS9].getD k iS0, ⟨?_, fun k q h => by simp at h⟩⟩
  intro k q hq
  match k, hq with
  | 0, hq => cases hq; exact hKn0
  | 1, hq => cases hq; exact hKn1
  | 2, hq => cases hq; exact hKn2
  | 3, hq => cases hq; exact hKn3
  | 4, hq => cases hq; exact hKn4
  | 5, hq => cases hq; exact hKn5
  | 6, hq => cases hq; exact hKn6
  | 7, hq => cases hq; exact hKn7
  | 8, hq => cases hq; exact hKn8
  | 9, hq => cases hq; exact hKn9
  | k + 10, hq => simp [vwCl] at hq
/-- what the tables and the start say of texts and statics -/
theorem law_E {p : Program} {e : Env} {s : State} {m : MethodId} {below : List Frame} {meth : Method} {c : Code} {b L : Nat} {xs : Nat → Int32} (C0 : lw_At p s m meth c b L xs) {A : Nat → Prop} (hA : ∀ a : Nat, a < s.heap.size → ¬ A a) : ∃ (adK adV : Nat → Nat) (fz : Option Nat), sx_E adK adV fz A s s.heap := by
  obtain ⟨hx, hb, hr, hml, hown, hts, hX, hbl, hlocks, hgv⟩ := C0
  have hs := flat_of_before _ hgv
  obtain ⟨adK, adV, hv, hev⟩ := vk_Sof (N := 8) (tm := fun i => Term.string RX4 (tx_ix.getD i (0, "")).1) (len := tx_len) (byt := tx_byt) (A := A) (args := #[Value.ref b]) (s := s) tx_lt
    (by intro i hi; rcases (show i = 0 ∨ i = 1 ∨ i = 2 ∨ i = 3 ∨ i = 4 ∨ i = 5 ∨ i = 6 ∨ i = 7 by omega) with rfl | rfl | rfl | rfl | rfl | rfl | rfl | rfl <;> exact hs _ (by decide +kernel))
    (by intro i hi; rcases (show i = 0 ∨ i = 1 ∨ i = 2 ∨ i = 3 ∨ i = 4 ∨ i = 5 ∨ i = 6 ∨ i = 7 by omega) with rfl | rfl | rfl | rfl | rfl | rfl | rfl | rfl <;> exact hs _ (by decide +kernel))
    (by intro i hi; rcases (show i = 0 ∨ i = 1 ∨ i = 2 ∨ i = 3 ∨ i = 4 ∨ i = 5 ∨ i = 6 ∨ i = 7 by omega) with rfl | rfl | rfl | rfl | rfl | rfl | rfl | rfl <;> exact hs _ (by decide +kernel))
    (by intro i hi; rcases (show i = 0 ∨ i = 1 ∨ i = 2 ∨ i = 3 ∨ i = 4 ∨ i = 5 ∨ i = 6 ∨ i = 7 by omega) with rfl | rfl | rfl | rfl | rfl | rfl | rfl | rfl <;> exact hs _ (by decide +kernel))
    (by
      intro i hi j hj
      rcases (show i = 0 ∨ i = 1 ∨ i = 2 ∨ i = 3 ∨ i = 4 ∨ i = 5 ∨ i = 6 ∨ i = 7 by omega) with rfl | rfl | rfl | rfl | rfl | rfl | rfl | rfl
      · have hj : j < 5 := hj
        rcases (show j = 0 ∨ j = 1 ∨ j = 2 ∨ j = 3 ∨ j = 4 by omega) with rfl | rfl | rfl | rfl | rfl <;> exact hs _ (by decide +kernel)
      · have hj : j < 5 := hj
        rcases (show j = 0 ∨ j = 1 ∨ j = 2 ∨ j = 3 ∨ j = 4 by omega) with rfl | rfl | rfl | rfl | rfl <;> exact hs _ (by decide +kernel)
      · have hj : j < 6 := hj
        rcases (show j = 0 ∨ j = 1 ∨ j = 2 ∨ j = 3 ∨ j = 4 ∨ j = 5 by omega) with rfl | rfl | rfl | rfl | rfl | rfl <;> exact hs _ (by decide +kernel)
      · have hj : j < 5 := hj
        rcases (show j = 0 ∨ j = 1 ∨ j = 2 ∨ j = 3 ∨ j = 4 by omega) with rfl | rfl | rfl | rfl | rfl <;> exact hs _ (by decide +kernel)
      · have hj : j < 5 := hj
        rcases (show j = 0 ∨ j = 1 ∨ j = 2 ∨ j = 3 ∨ j = 4 by omega) with rfl | rfl | rfl | rfl | rfl <;> exact hs _ (by decide +kernel)
      · have hj : j < 4 := hj
        rcases (show j = 0 ∨ j = 1 ∨ j = 2 ∨ j = 3 by omega) with rfl | rfl | rfl | rfl <;> exact hs _ (by decide +kernel)
      · have hj : j < 4 := hj
        rcases (show j = 0 ∨ j = 1 ∨ j = 2 ∨ j = 3 by omega) with rfl | rfl | rfl | rfl <;> exact hs _ (by decide +kernel)
      · have hj : j < 5 := hj
        rcases (show j = 0 ∨ j = 1 ∨ j = 2 ∨ j = 3 ∨ j = 4 by omega) with rfl | rfl | rfl | rfl | rfl <;> exact hs _ (by decide +kernel))
    (by
      intro i j hi hj hne
      rcases (show i = 0 ∨ i = 1 ∨ i = 2 ∨ i = 3 ∨ i = 4 ∨ i = 5 ∨ i = 6 ∨ i = 7 by omega) with rfl | rfl | rfl | rfl | rfl | rfl | rfl | rfl
      · rcases (show j = 0 ∨ j = 1 ∨ j = 2 ∨ j = 3 ∨ j = 4 ∨ j = 5 ∨ j = 6 ∨ j = 7 by omega) with rfl | rfl | rfl | rfl | rfl | rfl | rfl | rfl
        · exact absurd rfl hne
        · first | exact Or.inl (hs _ (by decide +kernel)) | exact Or.inr (hs _ (by decide +kernel))
        · first | exact Or.inl (hs _ (by decide +kernel)) | exact Or.inr (hs _ (by decide +kernel))
        · first | exact Or.inl (hs _ (by decide +kernel)) | exact Or.inr (hs _ (by decide +kernel))
        · first | exact Or.inl (hs _ (by decide +kernel)) | exact Or.inr (hs _ (by decide +kernel))
        · first | exact Or.inl (hs _ (by decide +kernel)) | exact Or.inr (hs _ (by decide +kernel))
        · first | exact Or.inl (hs _ (by decide +kernel)) | exact Or.inr (hs _ (by decide +kernel))
        · first | exact Or.inl (hs _ (by decide +kernel)) | exact Or.inr (hs _ (by decide +kernel))
      · rcases (show j = 0 ∨ j = 1 ∨ j = 2 ∨ j = 3 ∨ j = 4 ∨ j = 5 ∨ j = 6 ∨ j = 7 by omega) with rfl | rfl | rfl | rfl | rfl | rfl | rfl | rfl
        · first | exact Or.inl (hs _ (by decide +kernel)) | exact Or.inr (hs _ (by decide +kernel))
        · exact absurd rfl hne
        · first | exact Or.inl (hs _ (by decide +kernel)) | exact Or.inr (hs _ (by decide +kernel))
        · first | exact Or.inl (hs _ (by decide +kernel)) | exact Or.inr (hs _ (by decide +kernel))
        · first | exact Or.inl (hs _ (by decide +kernel)) | exact Or.inr (hs _ (by decide +kernel))
        · first | exact Or.inl (hs _ (by decide +kernel)) | exact Or.inr (hs _ (by decide +kernel))
        · first | exact Or.inl (hs _ (by decide +kernel)) | exact Or.inr (hs _ (by decide +kernel))
        · first | exact Or.inl (hs _ (by decide +kernel)) | exact Or.inr (hs _ (by decide +kernel))
      · rcases (show j = 0 ∨ j = 1 ∨ j = 2 ∨ j = 3 ∨ j = 4 ∨ j = 5 ∨ j = 6 ∨ j = 7 by omega) with rfl | rfl | rfl | rfl | rfl | rfl | rfl | rfl
        · first | exact Or.inl (hs _ (by decide +kernel)) | exact Or.inr (hs _ (by decide +kernel))
        · first | exact Or.inl (hs _ (by decide +kernel)) | exact Or.inr (hs _ (by decide +kernel))
        · exact absurd rfl hne
        · first | exact Or.inl (hs _ (by decide +kernel)) | exact Or.inr (hs _ (by decide +kernel))
        · first | exact Or.inl (hs _ (by decide +kernel)) | exact Or.inr (hs _ (by decide +kernel))
        · first | exact Or.inl (hs _ (by decide +kernel)) | exact Or.inr (hs _ (by decide +kernel))
        · first | exact Or.inl (hs _ (by decide +kernel)) | exact Or.inr (hs _ (by decide +kernel))
        · first | exact Or.inl (hs _ (by decide +kernel)) | exact Or.inr (hs _ (by decide +kernel))
      · rcases (show j = 0 ∨ j = 1 ∨ j = 2 ∨ j = 3 ∨ j = 4 ∨ j = 5 ∨ j = 6 ∨ j = 7 by omega) with rfl | rfl | rfl | rfl | rfl | rfl | rfl | rfl
        · first | exact Or.inl (hs _ (by decide +kernel)) | exact Or.inr (hs _ (by decide +kernel))
        · first | exact Or.inl (hs _ (by decide +kernel)) | exact Or.inr (hs _ (by decide +kernel))
        · first | exact Or.inl (hs _ (by decide +kernel)) | exact Or.inr (hs _ (by decide +kernel))
        · exact absurd rfl hne
        · first | exact Or.inl (hs _ (by decide +kernel)) | exact Or.inr (hs _ (by decide +kernel))
        · first | exact Or.inl (hs _ (by decide +kernel)) | exact Or.inr (hs _ (by decide +kernel))
        · first | exact Or.inl (hs _ (by decide +kernel)) | exact Or.inr (hs _ (by decide +kernel))
        · first | exact Or.inl (hs _ (by decide +kernel)) | exact Or.inr (hs _ (by decide +kernel))
      · rcases (show j = 0 ∨ j = 1 ∨ j = 2 ∨ j = 3 ∨ j = 4 ∨ j = 5 ∨ j = 6 ∨ j = 7 by omega) with rfl | rfl | rfl | rfl | rfl | rfl | rfl | rfl
        · first | exact Or.inl (hs _ (by decide +kernel)) | exact Or.inr (hs _ (by decide +kernel))
        · first | exact Or.inl (hs _ (by decide +kernel)) | exact Or.inr (hs _ (by decide +kernel))
        · first | exact Or.inl (hs _ (by decide +kernel)) | exact Or.inr (hs _ (by decide +kernel))
        · first | exact Or.inl (hs _ (by decide +kernel)) | exact Or.inr (hs _ (by decide +kernel))
        · exact absurd rfl hne
        · first | exact Or.inl (hs _ (by decide +kernel)) | exact Or.inr (hs _ (by decide +kernel))
        · first | exact Or.inl (hs _ (by decide +kernel)) | exact Or.inr (hs _ (by decide +kernel))
        · first | exact Or.inl (hs _ (by decide +kernel)) | exact Or.inr (hs _ (by decide +kernel))
      · rcases (show j = 0 ∨ j = 1 ∨ j = 2 ∨ j = 3 ∨ j = 4 ∨ j = 5 ∨ j = 6 ∨ j = 7 by omega) with rfl | rfl | rfl | rfl | rfl | rfl | rfl | rfl
        · first | exact Or.inl (hs _ (by decide +kernel)) | exact Or.inr (hs _ (by decide +kernel))
        · first | exact Or.inl (hs _ (by decide +kernel)) | exact Or.inr (hs _ (by decide +kernel))
        · first | exact Or.inl (hs _ (by decide +kernel)) | exact Or.inr (hs _ (by decide +kernel))
        · first | exact Or.inl (hs _ (by decide +kernel)) | exact Or.inr (hs _ (by decide +kernel))
        · first | exact Or.inl (hs _ (by decide +kernel)) | exact Or.inr (hs _ (by decide +kernel))
        · exact absurd rfl hne
        · first | exact Or.inl (hs _ (by decide +kernel)) | exact Or.inr (hs _ (by decide +kernel))
        · first | exact Or.inl (hs _ (by decide +kernel)) | exact Or.inr (hs _ (by decide +kernel))
      · rcases (show j = 0 ∨ j = 1 ∨ j = 2 ∨ j = 3 ∨ j = 4 ∨ j = 5 ∨ j = 6 ∨ j = 7 by omega) with rfl | rfl | rfl | rfl | rfl | rfl | rfl | rfl
        · first | exact Or.inl (hs _ (by decide +kernel)) | exact Or.inr (hs _ (by decide +kernel))
        · first | exact Or.inl (hs _ (by decide +kernel)) | exact Or.inr (hs _ (by decide +kernel))
        · first | exact Or.inl (hs _ (by decide +kernel)) | exact Or.inr (hs _ (by decide +kernel))
        · first | exact Or.inl (hs _ (by decide +kernel)) | exact Or.inr (hs _ (by decide +kernel))
        · first | exact Or.inl (hs _ (by decide +kernel)) | exact Or.inr (hs _ (by decide +kernel))
        · first | exact Or.inl (hs _ (by decide +kernel)) | exact Or.inr (hs _ (by decide +kernel))
        · exact absurd rfl hne
        · first | exact Or.inl (hs _ (by decide +kernel)) | exact Or.inr (hs _ (by decide +kernel))
      · rcases (show j = 0 ∨ j = 1 ∨ j = 2 ∨ j = 3 ∨ j = 4 ∨ j = 5 ∨ j = 6 ∨ j = 7 by omega) with rfl | rfl | rfl | rfl | rfl | rfl | rfl | rfl
        · first | exact Or.inl (hs _ (by decide +kernel)) | exact Or.inr (hs _ (by decide +kernel))
        · first | exact Or.inl (hs _ (by decide +kernel)) | exact Or.inr (hs _ (by decide +kernel))
        · first | exact Or.inl (hs _ (by decide +kernel)) | exact Or.inr (hs _ (by decide +kernel))
        · first | exact Or.inl (hs _ (by decide +kernel)) | exact Or.inr (hs _ (by decide +kernel))
        · first | exact Or.inl (hs _ (by decide +kernel)) | exact Or.inr (hs _ (by decide +kernel))
        · first | exact Or.inl (hs _ (by decide +kernel)) | exact Or.inr (hs _ (by decide +kernel))
        · first | exact Or.inl (hs _ (by decide +kernel)) | exact Or.inr (hs _ (by decide +kernel))
        · exact absurd rfl hne) hA
  have hR : ∀ i : Nat, i < 8 → vk_R RX4 (tx_ix.getD i (0, "")).1 (tx_ix.getD i (0, "")).2 (adK i) s := by
    intro i hi
    refine vk_R.of (A := #[Value.ref b]) ?_ (hev i hi)
    rcases (show i = 0 ∨ i = 1 ∨ i = 2 ∨ i = 3 ∨ i = 4 ∨ i = 5 ∨ i = 6 ∨ i = 7 by omega) with rfl | rfl | rfl | rfl | rfl | rfl | rfl | rfl
    · exact hts (.stringRef RX4 15 "clock") (List.mem_append_right _ (List.mem_append_left _ (List.mem_of_getElem? (i := 34) rfl)))
    · exact hts (.stringRef RX4 21 "place") (List.mem_append_right _ (List.mem_append_left _ (List.mem_of_getElem? (i := 86) rfl)))
    · exact hts (.stringRef RX4 23 "urgent") (List.mem_append_right _ (List.mem_append_left _ (List.mem_of_getElem? (i := 87) rfl)))
    · exact hts (.stringRef RX4 25 "until") (List.mem_append_right _ (List.mem_append_left _ (List.mem_of_getElem? (i := 88) rfl)))
    · exact hts (.stringRef RX4 27 "start") (List.mem_append_right _ (List.mem_append_left _ (List.mem_of_getElem? (i := 89) rfl)))
    · exact hts (.stringRef RX4 29 "edge") (List.mem_append_right _ (List.mem_append_left _ (List.mem_of_getElem? (i := 90) rfl)))
    · exact hts (.stringRef RX4 31 "when") (List.mem_append_right _ (List.mem_append_left _ (List.mem_of_getElem? (i := 91) rfl)))
    · exact hts (.stringRef RX4 33 "reset") (List.mem_append_right _ (List.mem_append_left _ (List.mem_of_getElem? (i := 92) rfl)))
  have hC : va_Z "java/lang/String" "COMPACT_STRINGS" "Z" (.int 1) A s s.heap := va_Zof (args := #[Value.ref b]) (hts (.laysStatic "java/lang/String" "COMPACT_STRINGS" "Z") (List.mem_append_right _ (List.mem_append_left _ (List.mem_of_getElem? (i := 47) rfl)))) (hts (.initialized "java/lang/String") (List.mem_append_right _ (List.mem_append_left _ (List.mem_of_getElem? (i := 3) rfl)))) (va_eqi (hs _ (by decide +kernel))) hA
  have hF : va_Zq "jdk/internal/util/Preconditions" "SIOOBE_FORMATTER" "Ljava/util/function/BiFunction;" A s s.heap := va_Zqof (args := #[Value.ref b]) (hts (.laysStatic "jdk/internal/util/Preconditions" "SIOOBE_FORMATTER" "Ljava/util/function/BiFunction;") (List.mem_append_right _ (List.mem_append_left _ (List.mem_of_getElem? (i := 63) rfl)))) (hts (.initialized "jdk/internal/util/Preconditions") (List.mem_append_right _ (List.mem_append_left _ (List.mem_of_getElem? (i := 5) rfl)))) (hs _ (by decide +kernel)) hA
  have hO : va_AO RX7 s := va_AO.of (A := #[Value.ref b]) (hts (.arrayOver (.object RX7)) (List.mem_append_right _ (List.mem_append_right _ (List.mem_append_left _ (List.mem_of_getElem? (i := 28) rfl)))))
  rcases hF with h | ⟨t, h⟩
  · exact ⟨adK, adV, none, hO, hv, hR, hC, h⟩
  · exact ⟨adK, adV, some t, hO, hv, hR, hC, h⟩
theorem law_Y {p : Program} {e : Env} {s : State} {m : MethodId} {below : List Frame} {meth : Method} {c : Code} {b L : Nat} {xs : Nat → Int32} (C0 : lw_At p s m meth c b L xs) {A : Nat → Prop} (hA : ∀ a : Nat, a < s.heap.size → ¬ A a) : sy_E A s s.heap := by
  obtain ⟨hx, hb, hr, hml, hown, hts, hX, hbl, hlocks, hgv⟩ := C0
  have hs := flat_of_before _ hgv
  exact ⟨va_Nw.of rfl (hts (.declares (Bundle.init0 "java/lang/RuntimeException")) (List.mem_append_right _ (List.mem_append_right _ (List.mem_append_right _ (List.mem_append_right _ (List.mem_append_right _ (List.mem_append_left _ (List.mem_of_getElem? (i := 154) rfl)))))))), va_Nw.of rfl (hts (.declares (Bundle.init0 "java/lang/Exception")) (List.mem_append_right _ (List.mem_append_right _ (List.mem_append_right _ (List.mem_append_right _ (List.mem_append_right _ (List.mem_append_left _ (List.mem_of_getElem? (i := 156) rfl)))))))), va_Nw.of rfl (hts (.declares (Bundle.init0 Bundle.tN)) (List.mem_append_right _ (List.mem_append_right _ (List.mem_append_right _ (List.mem_append_right _ (List.mem_append_right _ (List.mem_append_left _ (List.mem_of_getElem? (i := 158) rfl)))))))), va_Nw.of rfl (hts (.castable "java/util/NoSuchElementException" "java/util/NoSuchElementException") (List.mem_append_right _ (List.mem_append_right _ (List.mem_append_right _ (List.mem_append_right _ (List.mem_append_right _ (List.mem_append_left _ (List.mem_of_getElem? (i := 153) rfl)))))))), vx_Zqof (args := #[Value.ref b]) (hts (.laysStatic Bundle.tN "UNASSIGNED_STACK" Bundle.steD) (List.mem_append_right _ (List.mem_append_right _ (List.mem_append_right _ (List.mem_append_right _ (List.mem_append_right _ (List.mem_append_left _ (List.mem_of_getElem? (i := 178) rfl)))))))) (hts (.initialized Bundle.tN) (List.mem_append_right _ (List.mem_append_left _ (List.mem_of_getElem? (i := 16) rfl)))) (hs _ (by decide +kernel)) hA, vx_Zqof (args := #[Value.ref b]) (hts (.laysStatic Bundle.tN "SUPPRESSED_SENTINEL" Bundle.listD) (List.mem_append_right _ (List.mem_append_right _ (List.mem_append_right _ (List.mem_append_right _ (List.mem_append_right _ (List.mem_append_left _ (List.mem_of_getElem? (i := 180) rfl)))))))) (hts (.initialized Bundle.tN) (List.mem_append_right _ (List.mem_append_left _ (List.mem_of_getElem? (i := 16) rfl)))) (hs _ (by decide +kernel)) hA⟩
theorem law_exit {p : Program} {e : Env} {s : State} {m : MethodId} {below : List Frame} {meth : Method} {c : Code} (l : Launch) {b L : Nat} {xs : Nat → Int32} (C0 : lw_At p s m meth c b L xs) {A : Nat → Prop} (hA : ∀ q : Nat, s.heap.size ≤ q → A q) (hAs : ∀ q : Nat, A q → s.heap.size ≤ q) {H : Heap} {locs : List Loc} (hS : va_S A s.heap H locs) {ls : Array Slot} {cells slots : Nat} (h1 : cells ≤ 601024) (h2 : slots ≤ 7293034) : W p l e room_1 s m #[Value.ref b] below meth c H locs cells slots (lw_Z below #[Value.ref b] s) (F0 m 1703 ls []) := by
  obtain ⟨hx, hb, hr, hml, hown, hts, hX, hbl, hlocks, hgv⟩ := id C0
  refine lv_iconst (v := 1) hx hb dL_law_1703 (by decide) ?_
  refine va_forget (fun q hq => hAs _ (hS.2.2 q hq)) ?_
  refine W.widen (k := 601024) (n := 7293034) h1 h2 ?_
  exact lw_ret hx hb hr hlocks dL_law_1704
/-- the two objects and the row for answers -/
def LInv (D : va_G) (kI kB kQ kL : ClassId) (xa ma qo : Nat) (XA MA : Nat → Prop) (H : Heap) : Prop := ∃ (Sx : CX) (Sm : CMx), SR Sx Sm ∧ XInv D kI kB kQ xa XA Sx H ∧ MInv D kI kB ma MA Sm H ∧ ∃ fq : Nat → Int64, va_P D vwCl [(qo, .inl (kL, 1, .inr (.inl fq)))] H
/-- their cells are apart, and all new -/
def lw_dis (XA MA : Nat → Prop) (qo : Nat) (A : Nat → Prop) : Prop := (∀ q, XA q → A q) ∧ (∀ q, MA q → A q) ∧ A qo ∧ (∀ q, XA q → ¬ MA q) ∧ ¬ XA qo ∧ ¬ MA qo
theorem lx_A {XA A : Nat → Prop} {H0 H : Heap} {locs : List Loc} (h : ∀ q, XA q → A q) (hA : ∀ q : Nat, H0.size ≤ q → A q) (hS : va_S A H0 H locs) : ∀ q, xA XA H.size q → A q := fun q g => by
  rcases g with g | g
  · exact h q g
  · exact hA q (Nat.le_trans hS.1 g)
theorem lx_no {XA MA : Nat → Prop} {n q : Nat} (h : ∀ q, XA q → ¬ MA q) (hq : q < n) (hm : MA q) : ¬ xA XA n q := fun g => by
  rcases g with g | g
  · exact h q g hm
  · omega
theorem lx_o {D : va_G} {XA : Nat → Prop} {qo : Nat} {kL : ClassId} {fq : Nat → Int64} {H H1 : Heap} (hP : va_P D vwCl [(qo, .inl (kL, 1, .inr (.inl fq)))] H) (h : ¬ XA qo) (hk : ∀ q : Nat, q < H.size → ¬ xA XA H.size q → H1[q]? = H[q]?) : va_P D vwCl [(qo, .inl (kL, 1, .inr (.inl fq)))] H1 := hP.kept (fun k q hq => by
  match k, hq with
  | 0, hq =>
    cases hq
    have hl : qo < H.size := (hP 0 _ rfl).lt
    exact hk qo hl (fun g => by
      rcases g with g | g
      · exact h g
      · omega)
  | k + 1, hq => cases hq)
theorem k3_of {D : va_G} {kI kB kQ kL : ClassId} {U : State} (hK : va_K D vwCl (k3 kI kB kQ ++ [(kL, .long)]) U) : va_K D vwCl (k3 kI kB kQ) U := hK.sub [0, 1, 2] rfl
theorem kBL_in {D : va_G} {kI kB kQ kL : ClassId} {J : Heap → Prop} {qo : Nat} {OA A : Nat → Prop} {s : State} {H : Heap} {locs : List Loc} {av : List Value} (hJ : J H) (hK : va_K D vwCl (k3 kI kB kQ ++ [(kL, .long)]) s) (hY : sy_E A s s.heap) (hS : va_S A s.heap H locs) (hA : ∀ q : Nat, s.heap.size ≤ q → A q) (hq : A qo) {fq : Nat → Int64} (hPo : va_P D vwCl [(qo, .inl (kL, 1, .inr (.inl fq)))] H) : ∀ U : State, U.heap = H → s.WarmedH U.vm → va_Pc av (kB_L D kI kB kQ kL J qo OA A H.size) av.toArray U := by
  intro U hU hW
  obtain ⟨e1, e2, e3, e4, e5, e6⟩ := hY
  have hF : ∀ q : Nat, (q = qo ∨ H.size ≤ q) → A q := fun q h => by
    rcases h with rfl | h
    · exact hq
    · exact hA q (Nat.le_trans hS.1 h)
  refine ⟨rfl, by rw [hU], by rw [hU]; exact hJ, va_K.moved hW.alike hK, ⟨va_Nw.warmD hW e1, va_Nw.warmD hW e2, va_Nw.warmD hW e3, va_Nw.warmC hW e4, ?_, ?_⟩, fq, by rw [hU]; exact hPo⟩
  · rw [hU]; exact vx_Zq.moved hW.alike ((e5.kept hS.2.1).narrow hF)
  · rw [hU]; exact vx_Zq.moved hW.alike ((e6.kept hS.2.1).narrow hF)
theorem kBL_bl {D : va_G} {kI kB kQ kL : ClassId} {J : Heap → Prop} {qo : Nat} {OA A : Nat → Prop} {sz : Nat} {av : List Value} : FrameBlind (va_Pc av (kB_L D kI kB kQ kL J qo OA A sz)) := by
  intro a U g mk q
  obtain ⟨q0, q1, qJ, qK, ⟨e1, e2, e3, e4, e5, e6⟩, qo⟩ := q
  exact ⟨q0, q1, qJ, va_K.moved (u := U) (U := U.calling g mk a) (Vm.Alike.refl U.vm) qK, ⟨va_Nw.same (u := U) rfl rfl e1, va_Nw.same (u := U) rfl rfl e2, va_Nw.same (u := U) rfl rfl e3, va_Nw.same (u := U) rfl rfl e4, vx_Zq.moved (u := U) (U := U.calling g mk a) (Vm.Alike.refl U.vm) e5, vx_Zq.moved (u := U) (U := U.calling g mk a) (Vm.Alike.refl U.vm) e6⟩, qo⟩
theorem law_test {L k : Nat} (hL : L ≤ 3584) (hk : k ≤ 600) (h : ¬ (nI L - 7 < nI (7 * k))) : 7 * k + 7 ≤ L := by
  rcases Nat.lt_or_ge L 7 with g | g
  · have h2 : ∀ L : Nat, L < 7 → (nI L - 7 < (0 : Int32)) := by decide +kernel
    have h3 := h2 L g
    exfalso
    apply h
    rw [fa_lt] at h3 ⊢
    rw [nI_toInt (by omega)]
    have y0 : (0 : Int32).toInt = 0 := by decide
    omega
  · have e : nI L - 7 = nI (L - 7) := pk_sub (a := L) (b := 7) (by omega)
    rw [e, nI_ltI (by omega) (by omega)] at h
    omega
theorem law_and (x : Int32) : ∃ n : Nat, n < 64 ∧ x &&& 63 = nI n := by
  obtain ⟨n, hn, en⟩ := pk_andE x (m := 63) 6 (by decide)
  exact ⟨n, hn, en⟩
