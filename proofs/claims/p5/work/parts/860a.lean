/-- of the contents what matters here -/
abbrev KX := (Nat) × (Nat → Int32) × (Int32) × (Int32) × (Nat) × (Nat) × (Nat) × (Nat → Nat) × (Nat → Nat) × (Nat → Int32) × (Nat → Nat)
abbrev KMx := (Nat) × (Nat → Int32) × (Int32) × (Int32) × (Nat) × (Nat → Nat) × (Nat → Nat) × (Nat → Nat) × (Nat → Int32) × (Nat) × (Nat) × (Nat) × (Nat) × (Nat) × (Nat)
def kX : CX → KX := fun (nv, iv, vv, fv, qv, fcv, qs, fz, ps, gz) => ((nv 0), (fv 0), (iv 0), (iv 1), (nv 6), (nv 7), (nv 8), (qv 0), (qv 1), (fv 4), (qv 2))
def kM : CMx → KMx := fun (nv, iv, fv, qv) => ((nv 1), (fv 5), (iv 3), (iv 4), (nv 0), (qv 1), (qv 2), (qv 3), (fv 3), (nv 17), (nv 18), (nv 19), (nv 20), (nv 21), (nv 22))
theorem pe_ {α β : Type} {a a' : α} {b b' : β} (h1 : a = a') (h2 : b = b') : (a, b) = (a', b') := by rw [h1, h2]
theorem kx_fault {S u : CX} {p0 : Int32} {r : Int32} (h : xM_fault S p0 r u) : kX u = kX S := by
  obtain ⟨nv, iv, vv, fv, qv, fcv, qs, fz, ps, gz⟩ := S
  rcases h with ⟨-, rfl⟩
  exact pe_ rfl (pe_ rfl (pe_ rfl (pe_ rfl (pe_ rfl (pe_ rfl (pe_ rfl (pe_ rfl (pe_ rfl (pe_ rfl (rfl))))))))))
theorem kx_about {S u : CX} {p0 : Int32} {r : Int32} (h : xM_about S p0 r u) : kX u = kX S := by
  obtain ⟨nv, iv, vv, fv, qv, fcv, qs, fz, ps, gz⟩ := S
  rcases h with ⟨-, rfl⟩
  exact pe_ rfl (pe_ rfl (pe_ rfl (pe_ rfl (pe_ rfl (pe_ rfl (pe_ rfl (pe_ rfl (pe_ rfl (pe_ rfl (rfl))))))))))
theorem kx_place {S u : CX} {p0 : Int32} {p1 : Int32} {r : Int32} (h : xM_place S p0 p1 r u) : kX u = kX S := by
  obtain ⟨nv, iv, vv, fv, qv, fcv, qs, fz, ps, gz⟩ := S
  rcases h with ⟨-, rfl⟩
  exact pe_ rfl (pe_ rfl (pe_ rfl (pe_ rfl (pe_ rfl (pe_ rfl (pe_ rfl (pe_ rfl (pe_ rfl (pe_ rfl (rfl))))))))))
theorem kx_edge {S u : CX} {p0 : Int32} {p1 : Int32} {r : Int32} (h : xM_edge S p0 p1 r u) : kX u = kX S := by
  obtain ⟨nv, iv, vv, fv, qv, fcv, qs, fz, ps, gz⟩ := S
  rcases h with ⟨-, rfl⟩
  exact pe_ rfl (pe_ rfl (pe_ rfl (pe_ rfl (pe_ rfl (pe_ rfl (pe_ rfl (pe_ rfl (pe_ rfl (pe_ rfl (rfl))))))))))
theorem kx_condition {S u : CX} {p0 : Int32} {p1 : Int32} {p2 : Int32} {r : Int32} (h : xM_condition S p0 p1 p2 r u) : kX u = kX S := by
  obtain ⟨nv, iv, vv, fv, qv, fcv, qs, fz, ps, gz⟩ := S
  rcases h with ⟨-, rfl⟩
  exact pe_ rfl (pe_ rfl (pe_ rfl (pe_ rfl (pe_ rfl (pe_ rfl (pe_ rfl (pe_ rfl (pe_ rfl (pe_ rfl (rfl))))))))))
theorem kx_limit {S u : CX} {p0 : Int32} {p1 : Int32} {r : Int32} (h : xM_limit S p0 p1 r u) : kX u = kX S := by
  obtain ⟨nv, iv, vv, fv, qv, fcv, qs, fz, ps, gz⟩ := S
  rcases h with ⟨-, rfl⟩
  exact pe_ rfl (pe_ rfl (pe_ rfl (pe_ rfl (pe_ rfl (pe_ rfl (pe_ rfl (pe_ rfl (pe_ rfl (pe_ rfl (rfl))))))))))
theorem kx_rings {S u : CX} {r : Int32} (h : xM_rings S r u) : kX u = kX S := by
  obtain ⟨nv, iv, vv, fv, qv, fcv, qs, fz, ps, gz⟩ := S
  rcases h with ⟨-, rfl⟩
  exact pe_ rfl (pe_ rfl (pe_ rfl (pe_ rfl (pe_ rfl (pe_ rfl (pe_ rfl (pe_ rfl (pe_ rfl (pe_ rfl (rfl))))))))))
theorem kx_number {S u : CX} {p0 : Int32} {p1 : Int32} {p2 : Int32} {r : Int32} (h : xM_number S p0 p1 p2 r u) : kX u = kX S := by
  obtain ⟨nv, iv, vv, fv, qv, fcv, qs, fz, ps, gz⟩ := S
  rcases h with ⟨⟨e1, e2, e3⟩, _, _, _, _, _, _, _, _, _, _, -, rfl⟩ | ⟨sn, -, e4, _, _, _, _, _, _, _, _, _, _, _, _, -, rfl⟩
  · exact pe_ rfl (pe_ rfl (pe_ rfl (pe_ rfl (pe_ rfl (pe_ e1.symm (pe_ rfl (pe_ rfl (pe_ rfl (pe_ rfl (rfl))))))))))
  · exact pe_ rfl (pe_ rfl (pe_ rfl (pe_ rfl (pe_ rfl (pe_ rfl (pe_ rfl (pe_ rfl (pe_ rfl (pe_ rfl (rfl))))))))))
theorem kx_urgent {S u : CX} {p0 : Int32} {a1 : Nat} {r : Int32} (h : xM_urgent S p0 a1 r u) : kX u = kX S := by
  obtain ⟨nv, iv, vv, fv, qv, fcv, qs, fz, ps, gz⟩ := S
  rcases h with ⟨⟨e1, e2, e3⟩, -, rfl⟩ | ⟨sn, -, e4, _, _, _, _, _, _, _, -, rfl⟩
  · exact pe_ rfl (pe_ rfl (pe_ rfl (pe_ rfl (pe_ rfl (pe_ e1.symm (pe_ rfl (pe_ rfl (pe_ rfl (pe_ rfl (rfl))))))))))
  · exact pe_ rfl (pe_ rfl (pe_ rfl (pe_ rfl (pe_ rfl (pe_ rfl (pe_ rfl (pe_ rfl (pe_ rfl (pe_ rfl (rfl))))))))))
theorem kx_undo {S u : CX} {r : Int32} (h : xM_undo S r u) : kX u = kX S := by
  obtain ⟨nv, iv, vv, fv, qv, fcv, qs, fz, ps, gz⟩ := S
  rcases h with ⟨⟨e1, e2, e3⟩, _, _, _, _, _, _, _, _, _, -, rfl⟩ | ⟨sn, -, e4, _, _, _, _, _, _, _, _, _, _, _, -, rfl⟩
  · exact pe_ rfl (pe_ rfl (pe_ rfl (pe_ rfl (pe_ rfl (pe_ e1.symm (pe_ rfl (pe_ rfl (pe_ rfl (pe_ rfl (rfl))))))))))
  · exact pe_ rfl (pe_ rfl (pe_ rfl (pe_ rfl (pe_ rfl (pe_ rfl (pe_ rfl (pe_ rfl (pe_ rfl (pe_ rfl (rfl))))))))))
theorem kx_begin {S u : CX} {r : Int32} (h : xM_begin S r u) : kX u = kX S := by
  obtain ⟨nv, iv, vv, fv, qv, fcv, qs, fz, ps, gz⟩ := S
  rcases h with ⟨⟨e1, e2, e3⟩, _, -, rfl⟩ | ⟨sn, -, e4, _, _, _, _, -, rfl⟩
  · exact pe_ rfl (pe_ rfl (pe_ rfl (pe_ rfl (pe_ rfl (pe_ e1.symm (pe_ rfl (pe_ rfl (pe_ rfl (pe_ rfl (rfl))))))))))
  · exact pe_ rfl (pe_ rfl (pe_ rfl (pe_ rfl (pe_ rfl (pe_ rfl (pe_ rfl (pe_ rfl (pe_ rfl (pe_ rfl (rfl))))))))))
theorem kx_waits {S u : CX} {p0 : Int32} {r : Int32} (h : xM_waits S p0 r u) : kX u = kX S := by
  obtain ⟨nv, iv, vv, fv, qv, fcv, qs, fz, ps, gz⟩ := S
  rcases h with ⟨_, _, -, rfl⟩
  exact pe_ rfl (pe_ rfl (pe_ rfl (pe_ rfl (pe_ rfl (pe_ rfl (pe_ rfl (pe_ rfl (pe_ rfl (pe_ rfl (rfl))))))))))
theorem kx_takes {S u : CX} {p0 : Int32} {r : Int32} (h : xM_takes S p0 r u) : kX u = kX S := by
  obtain ⟨nv, iv, vv, fv, qv, fcv, qs, fz, ps, gz⟩ := S
  rcases h with ⟨_, _, _, -, rfl⟩
  exact pe_ rfl (pe_ rfl (pe_ rfl (pe_ rfl (pe_ rfl (pe_ rfl (pe_ rfl (pe_ rfl (pe_ rfl (pe_ rfl (rfl))))))))))
theorem kx_now {S u : CX} {p0 : Int32} {r : Int32} (h : xM_now S p0 r u) : kX u = kX S := by
  obtain ⟨nv, iv, vv, fv, qv, fcv, qs, fz, ps, gz⟩ := S
  rcases h with ⟨_, -, rfl⟩
  exact pe_ rfl (pe_ rfl (pe_ rfl (pe_ rfl (pe_ rfl (pe_ rfl (pe_ rfl (pe_ rfl (pe_ rfl (pe_ rfl (rfl))))))))))
theorem kx_graph {S u : CX} {p0 : Int32} {a1 : Nat} {r : Int32} (h : xM_graph S p0 a1 r u) : kX u = kX S := by
  obtain ⟨nv, iv, vv, fv, qv, fcv, qs, fz, ps, gz⟩ := S
  rcases h with ⟨⟨e1, e2, e3⟩, -, rfl⟩ | ⟨sn, -, e4, _, _, _, _, _, _, _, _, _, _, _, _, _, _, _, _, _, _, _, _, -, rfl⟩
  · exact pe_ rfl (pe_ rfl (pe_ rfl (pe_ rfl (pe_ rfl (pe_ e1.symm (pe_ rfl (pe_ rfl (pe_ rfl (pe_ rfl (rfl))))))))))
  · exact pe_ rfl (pe_ rfl (pe_ rfl (pe_ rfl (pe_ rfl (pe_ rfl (pe_ rfl (pe_ rfl (pe_ rfl (pe_ rfl (rfl))))))))))
theorem kx_first {S u : CX} {p0 : Int32} {r : Int32} (h : xM_first S p0 r u) : kX u = kX S := by
  obtain ⟨nv, iv, vv, fv, qv, fcv, qs, fz, ps, gz⟩ := S
  rcases h with ⟨-, rfl⟩
  exact pe_ rfl (pe_ rfl (pe_ rfl (pe_ rfl (pe_ rfl (pe_ rfl (pe_ rfl (pe_ rfl (pe_ rfl (pe_ rfl (rfl))))))))))
theorem kx_reached {S u : CX} {r : Int32} (h : xM_reached S r u) : kX u = kX S := by
  obtain ⟨nv, iv, vv, fv, qv, fcv, qs, fz, ps, gz⟩ := S
  rcases h with ⟨-, rfl⟩
  exact pe_ rfl (pe_ rfl (pe_ rfl (pe_ rfl (pe_ rfl (pe_ rfl (pe_ rfl (pe_ rfl (pe_ rfl (pe_ rfl (rfl))))))))))
theorem kx_taken {S u : CX} {r : Int32} (h : xM_taken S r u) : kX u = kX S := by
  obtain ⟨nv, iv, vv, fv, qv, fcv, qs, fz, ps, gz⟩ := S
  rcases h with ⟨-, rfl⟩
  exact pe_ rfl (pe_ rfl (pe_ rfl (pe_ rfl (pe_ rfl (pe_ rfl (pe_ rfl (pe_ rfl (pe_ rfl (pe_ rfl (rfl))))))))))
theorem kx_avoids {S u : CX} {p0 : Int32} {p1 : Int32} {r : Int32} (h : xM_avoids S p0 p1 r u) : kX u = kX S := by
  obtain ⟨nv, iv, vv, fv, qv, fcv, qs, fz, ps, gz⟩ := S
  rcases h with ⟨⟨e1, e2, e3⟩, -, rfl⟩ | ⟨sn, -, e4, _, _, _, _, _, _, _, _, _, _, _, _, _, _, _, _, _, _, _, -, rfl⟩
  · exact pe_ rfl (pe_ rfl (pe_ rfl (pe_ rfl (pe_ rfl (pe_ e1.symm (pe_ rfl (pe_ rfl (pe_ rfl (pe_ rfl (rfl))))))))))
  · exact pe_ rfl (pe_ rfl (pe_ rfl (pe_ rfl (pe_ rfl (pe_ rfl (pe_ rfl (pe_ rfl (pe_ rfl (pe_ rfl (rfl))))))))))
theorem kx_from {S u : CX} {p0 : Int32} {p1 : Int32} {p2 : Int32} {p3 : Int32} {p4 : Int32} {r : Int32} (h : xM_from S p0 p1 p2 p3 p4 r u) : kX u = kX S := by
  obtain ⟨nv, iv, vv, fv, qv, fcv, qs, fz, ps, gz⟩ := S
  rcases h with ⟨⟨e1, e2, e3⟩, -, rfl⟩ | ⟨sn, -, e4, _, _, _, _, _, _, _, _, _, _, _, _, _, _, _, _, _, _, _, -, rfl⟩
  · exact pe_ rfl (pe_ rfl (pe_ rfl (pe_ rfl (pe_ rfl (pe_ e1.symm (pe_ rfl (pe_ rfl (pe_ rfl (pe_ rfl (rfl))))))))))
  · exact pe_ rfl (pe_ rfl (pe_ rfl (pe_ rfl (pe_ rfl (pe_ rfl (pe_ rfl (pe_ rfl (pe_ rfl (pe_ rfl (rfl))))))))))
theorem kx_soonest {S u : CX} {p0 : Int32} {p1 : Int32} {r : Int32} (h : xM_soonest S p0 p1 r u) : kX u = kX S := by
  obtain ⟨nv, iv, vv, fv, qv, fcv, qs, fz, ps, gz⟩ := S
  rcases h with ⟨⟨e1, e2, e3⟩, -, rfl⟩ | ⟨sn, -, e4, _, _, _, _, _, _, _, _, _, _, _, _, _, _, _, _, _, _, _, _, -, rfl⟩
  · exact pe_ rfl (pe_ rfl (pe_ rfl (pe_ rfl (pe_ rfl (pe_ e1.symm (pe_ rfl (pe_ rfl (pe_ rfl (pe_ rfl (rfl))))))))))
  · exact pe_ rfl (pe_ rfl (pe_ rfl (pe_ rfl (pe_ rfl (pe_ rfl (pe_ rfl (pe_ rfl (pe_ rfl (pe_ rfl (rfl))))))))))
theorem kx_lets {S u : CX} {p0 : Int32} {p1 : Int32} {p2 : Int32} {p3 : Int32} {r : Int32} (h : xM_lets S p0 p1 p2 p3 r u) : kX u = kX S := by
  obtain ⟨nv, iv, vv, fv, qv, fcv, qs, fz, ps, gz⟩ := S
  rcases h with ⟨⟨e1, e2, e3⟩, -, rfl⟩ | ⟨sn, -, e4, _, _, _, _, _, _, _, _, _, _, _, _, _, _, _, _, _, _, _, _, _, _, _, _, _, -, rfl⟩
  · exact pe_ rfl (pe_ rfl (pe_ rfl (pe_ rfl (pe_ rfl (pe_ e1.symm (pe_ rfl (pe_ rfl (pe_ rfl (pe_ rfl (rfl))))))))))
  · exact pe_ rfl (pe_ rfl (pe_ rfl (pe_ rfl (pe_ rfl (pe_ rfl (pe_ rfl (pe_ rfl (pe_ rfl (pe_ rfl (rfl))))))))))
theorem kx_run {S u : CX} {p0 : Int32} {p1 : Int32} {r : Int32} (h : xM_run S p0 p1 r u) : kX u = kX S := by
  obtain ⟨nv, iv, vv, fv, qv, fcv, qs, fz, ps, gz⟩ := S
  rcases h with ⟨⟨e1, e2, e3⟩, -, rfl⟩ | ⟨sn, -, e4, _, _, -, rfl⟩
  · exact pe_ rfl (pe_ rfl (pe_ rfl (pe_ rfl (pe_ rfl (pe_ e1.symm (pe_ rfl (pe_ rfl (pe_ rfl (pe_ rfl (rfl))))))))))
  · exact pe_ rfl (pe_ rfl (pe_ rfl (pe_ rfl (pe_ rfl (pe_ rfl (pe_ rfl (pe_ rfl (pe_ rfl (pe_ rfl (rfl))))))))))
theorem kx_when {S u : CX} {p0 : Int32} {p1 : Int32} {r : Int32} (h : xM_when S p0 p1 r u) : kX u = kX S := by
  obtain ⟨nv, iv, vv, fv, qv, fcv, qs, fz, ps, gz⟩ := S
  rcases h with ⟨⟨e1, e2, e3⟩, -, rfl⟩ | ⟨sn, -, e4, _, _, _, _, _, _, _, _, -, rfl⟩
  · exact pe_ rfl (pe_ rfl (pe_ rfl (pe_ rfl (pe_ rfl (pe_ e1.symm (pe_ rfl (pe_ rfl (pe_ rfl (pe_ rfl (rfl))))))))))
  · exact pe_ rfl (pe_ rfl (pe_ rfl (pe_ rfl (pe_ rfl (pe_ rfl (pe_ rfl (pe_ rfl (pe_ rfl (pe_ rfl (rfl))))))))))
theorem kx_then {S u : CX} {p0 : Int32} {p1 : Int32} {p2 : Int32} {r : Int32} (h : xM_then S p0 p1 p2 r u) : kX u = kX S := by
  obtain ⟨nv, iv, vv, fv, qv, fcv, qs, fz, ps, gz⟩ := S
  rcases h with ⟨⟨e1, e2, e3⟩, -, rfl⟩ | ⟨sn, -, e4, _, _, _, _, _, _, _, _, -, rfl⟩
  · exact pe_ rfl (pe_ rfl (pe_ rfl (pe_ rfl (pe_ rfl (pe_ e1.symm (pe_ rfl (pe_ rfl (pe_ rfl (pe_ rfl (rfl))))))))))
  · exact pe_ rfl (pe_ rfl (pe_ rfl (pe_ rfl (pe_ rfl (pe_ rfl (pe_ rfl (pe_ rfl (pe_ rfl (pe_ rfl (rfl))))))))))
theorem kx_latest {S u : CX} {p0 : Int32} {p1 : Int32} {p2 : Int32} {r : Int32} (h : xM_latest S p0 p1 p2 r u) : kX u = kX S := by
  obtain ⟨nv, iv, vv, fv, qv, fcv, qs, fz, ps, gz⟩ := S
  rcases h with ⟨⟨e1, e2, e3⟩, -, rfl⟩ | ⟨sn, -, e4, _, _, _, _, _, _, _, _, -, rfl⟩
  · exact pe_ rfl (pe_ rfl (pe_ rfl (pe_ rfl (pe_ rfl (pe_ e1.symm (pe_ rfl (pe_ rfl (pe_ rfl (pe_ rfl (rfl))))))))))
  · exact pe_ rfl (pe_ rfl (pe_ rfl (pe_ rfl (pe_ rfl (pe_ rfl (pe_ rfl (pe_ rfl (pe_ rfl (pe_ rfl (rfl))))))))))
theorem kx_spans {S u : CX} {p0 : Int32} {p1 : Int32} {r : Int32} (h : xM_spans S p0 p1 r u) : kX u = kX S := by
  obtain ⟨nv, iv, vv, fv, qv, fcv, qs, fz, ps, gz⟩ := S
  rcases h with ⟨⟨e1, e2, e3⟩, -, rfl⟩ | ⟨sn, -, e4, _, _, _, _, -, rfl⟩
  · exact pe_ rfl (pe_ rfl (pe_ rfl (pe_ rfl (pe_ rfl (pe_ e1.symm (pe_ rfl (pe_ rfl (pe_ rfl (pe_ rfl (rfl))))))))))
  · exact pe_ rfl (pe_ rfl (pe_ rfl (pe_ rfl (pe_ rfl (pe_ rfl (pe_ rfl (pe_ rfl (pe_ rfl (pe_ rfl (rfl))))))))))
theorem kx_tells {S u : CX} {p0 : Int32} {p1 : Int32} {p2 : Int32} {p3 : Int32} {p4 : Int32} {p5 : Int32} {r : Int32} (h : xM_tells S p0 p1 p2 p3 p4 p5 r u) : kX u = kX S := by
  obtain ⟨nv, iv, vv, fv, qv, fcv, qs, fz, ps, gz⟩ := S
  rcases h with ⟨⟨e1, e2, e3⟩, -, rfl⟩ | ⟨sn, -, e4, _, _, _, _, -, rfl⟩
  · exact pe_ rfl (pe_ rfl (pe_ rfl (pe_ rfl (pe_ rfl (pe_ e1.symm (pe_ rfl (pe_ rfl (pe_ rfl (pe_ rfl (rfl))))))))))
  · exact pe_ rfl (pe_ rfl (pe_ rfl (pe_ rfl (pe_ rfl (pe_ rfl (pe_ rfl (pe_ rfl (pe_ rfl (pe_ rfl (rfl))))))))))
theorem kx_replays {S u : CX} {p0 : Int32} {r : Int32} (h : xM_replays S p0 r u) : kX u = kX S := by
  obtain ⟨nv, iv, vv, fv, qv, fcv, qs, fz, ps, gz⟩ := S
  rcases h with ⟨⟨e1, e2, e3⟩, _, -, rfl⟩ | ⟨sn, -, e4, _, _, _, _, _, _, _, _, _, _, _, _, _, -, rfl⟩
  · exact pe_ rfl (pe_ rfl (pe_ rfl (pe_ rfl (pe_ rfl (pe_ e1.symm (pe_ rfl (pe_ rfl (pe_ rfl (pe_ rfl (rfl))))))))))
  · exact pe_ rfl (pe_ rfl (pe_ rfl (pe_ rfl (pe_ rfl (pe_ rfl (pe_ rfl (pe_ rfl (pe_ rfl (pe_ rfl (rfl))))))))))
theorem kx_within {S u : CX} {p0 : Int32} {p1 : Int32} {r : Int32} (h : xM_within S p0 p1 r u) : kX u = kX S := by
  obtain ⟨nv, iv, vv, fv, qv, fcv, qs, fz, ps, gz⟩ := S
  rcases h with ⟨-, rfl⟩
  exact pe_ rfl (pe_ rfl (pe_ rfl (pe_ rfl (pe_ rfl (pe_ rfl (pe_ rfl (pe_ rfl (pe_ rfl (pe_ rfl (rfl))))))))))
theorem kx_bound {S u : CX} {p0 : Int32} {p1 : Int32} {p2 : Int32} {p3 : Int32} {r : Int32} (h : xM_bound S p0 p1 p2 p3 r u) : kX u = kX S := by
  obtain ⟨nv, iv, vv, fv, qv, fcv, qs, fz, ps, gz⟩ := S
  rcases h with ⟨-, rfl⟩
  exact pe_ rfl (pe_ rfl (pe_ rfl (pe_ rfl (pe_ rfl (pe_ rfl (pe_ rfl (pe_ rfl (pe_ rfl (pe_ rfl (rfl))))))))))
theorem kx_has {S u : CX} {p0 : Int32} {p1 : Int32} {p2 : Int32} {p3 : Int32} {r : Int32} (h : xM_has S p0 p1 p2 p3 r u) : kX u = kX S := by
  obtain ⟨nv, iv, vv, fv, qv, fcv, qs, fz, ps, gz⟩ := S
  rcases h with ⟨_, -, rfl⟩
  exact pe_ rfl (pe_ rfl (pe_ rfl (pe_ rfl (pe_ rfl (pe_ rfl (pe_ rfl (pe_ rfl (pe_ rfl (pe_ rfl (rfl))))))))))
theorem kx_state {S u : CX} {p0 : Int32} {p1 : Int32} {r : Int32} (h : xM_state S p0 p1 r u) : kX u = kX S := by
  obtain ⟨nv, iv, vv, fv, qv, fcv, qs, fz, ps, gz⟩ := S
  rcases h with ⟨_, _, _, _, _, _, _, -, rfl⟩
  exact pe_ rfl (pe_ rfl (pe_ rfl (pe_ rfl (pe_ rfl (pe_ rfl (pe_ rfl (pe_ rfl (pe_ rfl (pe_ rfl (rfl))))))))))
theorem kx_covered {S u : CX} {p0 : Int32} {r : Int32} (h : xM_covered S p0 r u) : kX u = kX S := by
  obtain ⟨nv, iv, vv, fv, qv, fcv, qs, fz, ps, gz⟩ := S
  rcases h with ⟨_, _, _, _, _, _, _, -, rfl⟩
  exact pe_ rfl (pe_ rfl (pe_ rfl (pe_ rfl (pe_ rfl (pe_ rfl (pe_ rfl (pe_ rfl (pe_ rfl (pe_ rfl (rfl))))))))))
theorem kx_overlap {S u : CX} {p0 : Int32} {p1 : Int32} {r : Int32} (h : xM_overlap S p0 p1 r u) : kX u = kX S := by
  obtain ⟨nv, iv, vv, fv, qv, fcv, qs, fz, ps, gz⟩ := S
  rcases h with ⟨_, _, -, rfl⟩
  exact pe_ rfl (pe_ rfl (pe_ rfl (pe_ rfl (pe_ rfl (pe_ rfl (pe_ rfl (pe_ rfl (pe_ rfl (pe_ rfl (rfl))))))))))
theorem kx_points {S u : CX} {p0 : Int32} {r : Int32} (h : xM_points S p0 r u) : kX u = kX S := by
  obtain ⟨nv, iv, vv, fv, qv, fcv, qs, fz, ps, gz⟩ := S
  rcases h with ⟨_, _, _, -, rfl⟩
  exact pe_ rfl (pe_ rfl (pe_ rfl (pe_ rfl (pe_ rfl (pe_ rfl (pe_ rfl (pe_ rfl (pe_ rfl (pe_ rfl (rfl))))))))))
theorem km_fault {S u : CMx} {p0 : Int32} {r : Int32} (h : mM_fault S p0 r u) : kM u = kM S := by
  obtain ⟨nv, iv, fv, qv⟩ := S
  obtain ⟨_, -, rfl⟩ := h
  rfl
theorem km_about {S u : CMx} {p0 : Int32} {r : Int32} (h : mM_about S p0 r u) : kM u = kM S := by
  obtain ⟨nv, iv, fv, qv⟩ := S
  obtain ⟨_, -, rfl⟩ := h
  rfl
theorem km_place {S u : CMx} {p0 : Int32} {p1 : Int32} {r : Int32} (h : mM_place S p0 p1 r u) : kM u = kM S := by
  obtain ⟨nv, iv, fv, qv⟩ := S
  obtain ⟨_, -, rfl⟩ := h
  rfl
theorem km_edge {S u : CMx} {p0 : Int32} {p1 : Int32} {r : Int32} (h : mM_edge S p0 p1 r u) : kM u = kM S := by
  obtain ⟨nv, iv, fv, qv⟩ := S
  obtain ⟨_, -, rfl⟩ := h
  rfl
theorem km_condition {S u : CMx} {p0 : Int32} {p1 : Int32} {p2 : Int32} {r : Int32} (h : mM_condition S p0 p1 p2 r u) : kM u = kM S := by
  obtain ⟨nv, iv, fv, qv⟩ := S
  obtain ⟨_, -, rfl⟩ := h
  rfl
theorem km_limit {S u : CMx} {p0 : Int32} {p1 : Int32} {r : Int32} (h : mM_limit S p0 p1 r u) : kM u = kM S := by
  obtain ⟨nv, iv, fv, qv⟩ := S
  obtain ⟨_, -, rfl⟩ := h
  rfl
theorem km_number {S u : CMx} {p0 : Int32} {p1 : Int32} {p2 : Int32} {r : Int32} (h : mM_number S p0 p1 p2 r u) : kM u = kM S := by
  obtain ⟨nv, iv, fv, qv⟩ := S
  obtain ⟨_, _, _, _, _, _, _, -, rfl⟩ := h
  rfl
theorem km_urgent {S u : CMx} {p0 : Int32} {a1 : Nat} {r : Int32} (h : mM_urgent S p0 a1 r u) : kM u = kM S := by
  obtain ⟨nv, iv, fv, qv⟩ := S
  obtain ⟨_, _, _, _, _, _, _, -, rfl⟩ := h
  rfl
theorem km_undo {S u : CMx} {r : Int32} (h : mM_undo S r u) : kM u = kM S := by
  obtain ⟨nv, iv, fv, qv⟩ := S
  obtain ⟨_, _, _, _, _, _, -, rfl⟩ := h
  rfl
theorem km_graph {S u : CMx} {p0 : Int32} {a1 : Nat} {r : Int32} (h : mM_graph S p0 a1 r u) : kM u = kM S := by
  obtain ⟨nv, iv, fv, qv⟩ := S
  obtain ⟨_, _, _, _, _, _, _, _, _, _, _, _, _, _, _, -, rfl⟩ := h
  rfl
theorem km_state {S u : CMx} {p0 : Int32} {p1 : Int32} {r : Int32} (h : mM_state S p0 p1 r u) : kM u = kM S := by
  obtain ⟨nv, iv, fv, qv⟩ := S
  obtain ⟨_, _, _, _, _, _, _, _, _, -, rfl⟩ := h
  rfl
theorem km_bound {S u : CMx} {p0 : Int32} {p1 : Int32} {p2 : Int32} {p3 : Int32} {r : Int32} (h : mM_bound S p0 p1 p2 p3 r u) : kM u = kM S := by
  obtain ⟨nv, iv, fv, qv⟩ := S
  obtain ⟨_, _, -, rfl⟩ := h
  rfl
theorem km_within {S u : CMx} {p0 : Int32} {p1 : Int32} {r : Int32} (h : mM_within S p0 p1 r u) : kM u = kM S := by
  obtain ⟨nv, iv, fv, qv⟩ := S
  obtain ⟨_, _, _, -, rfl⟩ := h
  rfl
theorem km_has {S u : CMx} {p0 : Int32} {p1 : Int32} {p2 : Int32} {p3 : Int32} {r : Int32} (h : mM_has S p0 p1 p2 p3 r u) : kM u = kM S := by
  obtain ⟨nv, iv, fv, qv⟩ := S
  obtain ⟨_, _, -, rfl⟩ := h
  rfl
theorem km_first {S u : CMx} {p0 : Int32} {r : Int32} (h : mM_first S p0 r u) : kM u = kM S := by
  obtain ⟨nv, iv, fv, qv⟩ := S
  obtain ⟨_, -, rfl⟩ := h
  rfl
theorem km_reached {S u : CMx} {r : Int32} (h : mM_reached S r u) : kM u = kM S := by
  obtain ⟨nv, iv, fv, qv⟩ := S
  obtain ⟨_, -, rfl⟩ := h
  rfl
theorem km_taken {S u : CMx} {r : Int32} (h : mM_taken S r u) : kM u = kM S := by
  obtain ⟨nv, iv, fv, qv⟩ := S
  obtain ⟨_, -, rfl⟩ := h
  rfl
theorem km_overlap {S u : CMx} {p0 : Int32} {p1 : Int32} {r : Int32} (h : mM_overlap S p0 p1 r u) : kM u = kM S := by
  obtain ⟨nv, iv, fv, qv⟩ := S
  obtain ⟨_, _, _, -, rfl⟩ := h
  rfl
theorem km_covered {S u : CMx} {p0 : Int32} {r : Int32} (h : mM_covered S p0 r u) : kM u = kM S := by
  obtain ⟨nv, iv, fv, qv⟩ := S
  obtain ⟨_, _, _, _, _, _, _, _, _, -, rfl⟩ := h
  rfl
theorem km_points {S u : CMx} {p0 : Int32} {r : Int32} (h : mM_points S p0 r u) : kM u = kM S := by
  obtain ⟨nv, iv, fv, qv⟩ := S
  obtain ⟨_, _, -, rfl⟩ := h
  rfl
theorem km_rings {S u : CMx} {r : Int32} (h : mM_rings S r u) : kM u = kM S := by
  obtain ⟨nv, iv, fv, qv⟩ := S
  obtain ⟨_, -, rfl⟩ := h
  rfl
theorem km_from {S u : CMx} {p0 : Int32} {p1 : Int32} {p2 : Int32} {p3 : Int32} {p4 : Int32} {r : Int32} (h : mM_from S p0 p1 p2 p3 p4 r u) : kM u = kM S := by
  obtain ⟨nv, iv, fv, qv⟩ := S
  obtain ⟨_, _, _, _, _, _, _, _, _, _, _, _, _, -, rfl⟩ := h
  rfl
theorem km_avoids {S u : CMx} {p0 : Int32} {p1 : Int32} {r : Int32} (h : mM_avoids S p0 p1 r u) : kM u = kM S := by
  obtain ⟨nv, iv, fv, qv⟩ := S
  obtain ⟨_, _, _, _, _, _, _, _, _, _, _, _, _, -, rfl⟩ := h
  rfl
theorem km_run {S u : CMx} {p0 : Int32} {p1 : Int32} {r : Int32} (h : mM_run S p0 p1 r u) : kM u = kM S := by
  obtain ⟨nv, iv, fv, qv⟩ := S
  obtain ⟨_, _, _, _, -, rfl⟩ := h
  rfl
theorem km_when {S u : CMx} {p0 : Int32} {p1 : Int32} {r : Int32} (h : mM_when S p0 p1 r u) : kM u = kM S := by
  obtain ⟨nv, iv, fv, qv⟩ := S
  obtain ⟨_, _, _, _, _, _, _, _, _, _, _, -, rfl⟩ := h
  rfl
theorem km_then {S u : CMx} {p0 : Int32} {p1 : Int32} {p2 : Int32} {r : Int32} (h : mM_then S p0 p1 p2 r u) : kM u = kM S := by
  obtain ⟨nv, iv, fv, qv⟩ := S
  obtain ⟨_, _, _, _, _, _, _, _, _, _, _, -, rfl⟩ := h
  rfl
theorem km_spans {S u : CMx} {p0 : Int32} {p1 : Int32} {r : Int32} (h : mM_spans S p0 p1 r u) : kM u = kM S := by
  obtain ⟨nv, iv, fv, qv⟩ := S
  obtain ⟨_, _, _, _, _, _, _, _, _, _, _, -, rfl⟩ := h
  rfl
theorem km_tells {S u : CMx} {p0 : Int32} {p1 : Int32} {p2 : Int32} {p3 : Int32} {p4 : Int32} {p5 : Int32} {r : Int32} (h : mM_tells S p0 p1 p2 p3 p4 p5 r u) : kM u = kM S := by
  obtain ⟨nv, iv, fv, qv⟩ := S
  obtain ⟨_, _, _, _, _, _, _, _, _, _, -, rfl⟩ := h
  rfl
theorem km_latest {S u : CMx} {p0 : Int32} {p1 : Int32} {p2 : Int32} {r : Int32} (h : mM_latest S p0 p1 p2 r u) : kM u = kM S := by
  obtain ⟨nv, iv, fv, qv⟩ := S
  obtain ⟨_, _, _, _, _, _, _, _, _, _, _, -, rfl⟩ := h
  rfl
theorem km_soonest {S u : CMx} {p0 : Int32} {p1 : Int32} {r : Int32} (h : mM_soonest S p0 p1 r u) : kM u = kM S := by
  obtain ⟨nv, iv, fv, qv⟩ := S
  obtain ⟨_, _, _, _, _, _, _, _, _, _, _, _, _, -, rfl⟩ := h
  rfl
theorem km_lets {S u : CMx} {p0 : Int32} {p1 : Int32} {p2 : Int32} {p3 : Int32} {r : Int32} (h : mM_lets S p0 p1 p2 p3 r u) : kM u = kM S := by
  obtain ⟨nv, iv, fv, qv⟩ := S
  obtain ⟨_, _, _, _, _, _, _, _, _, _, _, _, _, _, -, rfl⟩ := h
  rfl
theorem km_begin {S u : CMx} {r : Int32} (h : mM_begin S r u) : kM u = kM S := by
  obtain ⟨nv, iv, fv, qv⟩ := S
  obtain ⟨_, _, _, _, _, -, rfl⟩ := h
  rfl
theorem km_waits {S u : CMx} {p0 : Int32} {r : Int32} (h : mM_waits S p0 r u) : kM u = kM S := by
  obtain ⟨nv, iv, fv, qv⟩ := S
  obtain ⟨_, _, _, -, rfl⟩ := h
  rfl
theorem km_takes {S u : CMx} {p0 : Int32} {r : Int32} (h : mM_takes S p0 r u) : kM u = kM S := by
  obtain ⟨nv, iv, fv, qv⟩ := S
  obtain ⟨_, _, _, -, rfl⟩ := h
  rfl
theorem km_now {S u : CMx} {p0 : Int32} {r : Int32} (h : mM_now S p0 r u) : kM u = kM S := by
  obtain ⟨nv, iv, fv, qv⟩ := S
  obtain ⟨_, -, rfl⟩ := h
  rfl
theorem km_clock {S u : CMx} {p0 : Int32} {r : Int32} (h : mM_clock S p0 r u) : kM u = kM S := by
  obtain ⟨nv, iv, fv, qv⟩ := S
  obtain ⟨_, -, rfl⟩ := h
  rfl
theorem km_replays {S u : CMx} {p0 : Int32} {r : Int32} (h : mM_replays S p0 r u) : kM u = kM S := by
  obtain ⟨nv, iv, fv, qv⟩ := S
  obtain ⟨_, _, _, _, _, _, _, _, _, _, _, _, _, _, _, -, rfl⟩ := h
  rfl
