/-- of the contents what matters here -/
abbrev KX := (Nat) × (Nat → Int32) × (Int32) × (Int32) × (Nat) × (Nat) × (Nat) × (Int32) × (Nat → Int32) × (Nat → Nat) × (Nat → Nat) × (Nat → Int32) × (Nat → Nat) × (Nat → Nat) × (Nat → Int32) × (Nat → Int32) × (Nat → Int32) × (Nat → Int32) × (Nat → Int32) × (Nat → Int32) × (Nat → Int32) × (Nat) × (Nat → Int32) × (Nat → Int32)
abbrev KMx := (Nat) × (Nat → Int32) × (Int32) × (Int32) × (Nat) × (Nat) × (Nat → Int32) × (Nat → Nat) × (Nat → Nat) × (Nat → Nat) × (Nat → Nat) × (Nat → Int32) × (Nat → Nat) × (Nat → Nat) × (Nat → Int32) × (Nat) × (Nat) × (Nat) × (Nat) × (Nat) × (Nat) × (Nat) × (Nat) × (Nat → Nat) × (Nat → Int32)
def kX : CX → KX := fun (nv, iv, vv, fv, qv, fcv, qs, fz, ps, gz) => ((nv 0), (fv 0), (iv 0), (iv 1), (nv 6), (nv 7), (nv 8), (iv 4), (fv 3), (qv 0), (qv 1), (fv 4), (qv 2), (qv 3), (fv 5), (fv 6), (fv 7), (fv 8), (fv 9), (fv 10), (fv 11), (nv 12), (fv 21), (fv 22))
def kM : CMx → KMx := fun (nv, iv, fv, qv) => ((nv 1), (fv 5), (iv 3), (iv 4), (nv 0), (nv 9), (fv 2), (qv 0), (qv 1), (qv 2), (qv 3), (fv 3), (qv 4), (qv 5), (fv 4), (nv 17), (nv 18), (nv 19), (nv 20), (nv 21), (nv 22), (nv 23), (nv 24), (qv 6), (fv 6))
theorem pe_ {α β : Type} {a a' : α} {b b' : β} (h1 : a = a') (h2 : b = b') : (a, b) = (a', b') := by rw [h1, h2]
theorem kx_fault {S u : CX} {p0 : Int32} {r : Int32} (h : xM_fault S p0 r u) : kX u = kX S := by
  obtain ⟨nv, iv, vv, fv, qv, fcv, qs, fz, ps, gz⟩ := S
  rcases h with ⟨-, rfl⟩
  exact pe_ rfl (pe_ rfl (pe_ rfl (pe_ rfl (pe_ rfl (pe_ rfl (pe_ rfl (pe_ rfl (pe_ rfl (pe_ rfl (pe_ rfl (pe_ rfl (pe_ rfl (pe_ rfl (pe_ rfl (pe_ rfl (pe_ rfl (pe_ rfl (pe_ rfl (pe_ rfl (pe_ rfl (pe_ rfl (pe_ rfl (rfl)))))))))))))))))))))))
theorem kx_about {S u : CX} {p0 : Int32} {r : Int32} (h : xM_about S p0 r u) : kX u = kX S := by
  obtain ⟨nv, iv, vv, fv, qv, fcv, qs, fz, ps, gz⟩ := S
  rcases h with ⟨-, rfl⟩
  exact pe_ rfl (pe_ rfl (pe_ rfl (pe_ rfl (pe_ rfl (pe_ rfl (pe_ rfl (pe_ rfl (pe_ rfl (pe_ rfl (pe_ rfl (pe_ rfl (pe_ rfl (pe_ rfl (pe_ rfl (pe_ rfl (pe_ rfl (pe_ rfl (pe_ rfl (pe_ rfl (pe_ rfl (pe_ rfl (pe_ rfl (rfl)))))))))))))))))))))))
theorem kx_place {S u : CX} {p0 : Int32} {p1 : Int32} {r : Int32} (h : xM_place S p0 p1 r u) : kX u = kX S := by
  obtain ⟨nv, iv, vv, fv, qv, fcv, qs, fz, ps, gz⟩ := S
  rcases h with ⟨-, rfl⟩
  exact pe_ rfl (pe_ rfl (pe_ rfl (pe_ rfl (pe_ rfl (pe_ rfl (pe_ rfl (pe_ rfl (pe_ rfl (pe_ rfl (pe_ rfl (pe_ rfl (pe_ rfl (pe_ rfl (pe_ rfl (pe_ rfl (pe_ rfl (pe_ rfl (pe_ rfl (pe_ rfl (pe_ rfl (pe_ rfl (pe_ rfl (rfl)))))))))))))))))))))))
theorem kx_edge {S u : CX} {p0 : Int32} {p1 : Int32} {r : Int32} (h : xM_edge S p0 p1 r u) : kX u = kX S := by
  obtain ⟨nv, iv, vv, fv, qv, fcv, qs, fz, ps, gz⟩ := S
  rcases h with ⟨-, rfl⟩
  exact pe_ rfl (pe_ rfl (pe_ rfl (pe_ rfl (pe_ rfl (pe_ rfl (pe_ rfl (pe_ rfl (pe_ rfl (pe_ rfl (pe_ rfl (pe_ rfl (pe_ rfl (pe_ rfl (pe_ rfl (pe_ rfl (pe_ rfl (pe_ rfl (pe_ rfl (pe_ rfl (pe_ rfl (pe_ rfl (pe_ rfl (rfl)))))))))))))))))))))))
theorem kx_condition {S u : CX} {p0 : Int32} {p1 : Int32} {p2 : Int32} {r : Int32} (h : xM_condition S p0 p1 p2 r u) : kX u = kX S := by
  obtain ⟨nv, iv, vv, fv, qv, fcv, qs, fz, ps, gz⟩ := S
  rcases h with ⟨-, rfl⟩
  exact pe_ rfl (pe_ rfl (pe_ rfl (pe_ rfl (pe_ rfl (pe_ rfl (pe_ rfl (pe_ rfl (pe_ rfl (pe_ rfl (pe_ rfl (pe_ rfl (pe_ rfl (pe_ rfl (pe_ rfl (pe_ rfl (pe_ rfl (pe_ rfl (pe_ rfl (pe_ rfl (pe_ rfl (pe_ rfl (pe_ rfl (rfl)))))))))))))))))))))))
theorem kx_limit {S u : CX} {p0 : Int32} {p1 : Int32} {r : Int32} (h : xM_limit S p0 p1 r u) : kX u = kX S := by
  obtain ⟨nv, iv, vv, fv, qv, fcv, qs, fz, ps, gz⟩ := S
  rcases h with ⟨-, rfl⟩
  exact pe_ rfl (pe_ rfl (pe_ rfl (pe_ rfl (pe_ rfl (pe_ rfl (pe_ rfl (pe_ rfl (pe_ rfl (pe_ rfl (pe_ rfl (pe_ rfl (pe_ rfl (pe_ rfl (pe_ rfl (pe_ rfl (pe_ rfl (pe_ rfl (pe_ rfl (pe_ rfl (pe_ rfl (pe_ rfl (pe_ rfl (rfl)))))))))))))))))))))))
theorem kx_rings {S u : CX} {r : Int32} (h : xM_rings S r u) : kX u = kX S := by
  obtain ⟨nv, iv, vv, fv, qv, fcv, qs, fz, ps, gz⟩ := S
  rcases h with ⟨-, rfl⟩
  exact pe_ rfl (pe_ rfl (pe_ rfl (pe_ rfl (pe_ rfl (pe_ rfl (pe_ rfl (pe_ rfl (pe_ rfl (pe_ rfl (pe_ rfl (pe_ rfl (pe_ rfl (pe_ rfl (pe_ rfl (pe_ rfl (pe_ rfl (pe_ rfl (pe_ rfl (pe_ rfl (pe_ rfl (pe_ rfl (pe_ rfl (rfl)))))))))))))))))))))))
theorem kx_begin {S u : CX} {r : Int32} (h : xM_begin S r u) : kX u = kX S := by
  obtain ⟨nv, iv, vv, fv, qv, fcv, qs, fz, ps, gz⟩ := S
  rcases h with ⟨⟨e1, e2, e3⟩, _, -, rfl⟩ | ⟨sn, -, e4, _, _, _, _, -, rfl⟩
  · exact pe_ rfl (pe_ rfl (pe_ rfl (pe_ rfl (pe_ rfl (pe_ e1.symm (pe_ rfl (pe_ rfl (pe_ rfl (pe_ rfl (pe_ rfl (pe_ rfl (pe_ rfl (pe_ rfl (pe_ rfl (pe_ rfl (pe_ rfl (pe_ rfl (pe_ rfl (pe_ rfl (pe_ rfl (pe_ rfl (pe_ rfl (rfl)))))))))))))))))))))))
  · exact pe_ rfl (pe_ rfl (pe_ rfl (pe_ rfl (pe_ rfl (pe_ rfl (pe_ rfl (pe_ e4.symm (pe_ rfl (pe_ rfl (pe_ rfl (pe_ rfl (pe_ rfl (pe_ rfl (pe_ rfl (pe_ rfl (pe_ rfl (pe_ rfl (pe_ rfl (pe_ rfl (pe_ rfl (pe_ rfl (pe_ rfl (rfl)))))))))))))))))))))))
theorem kx_waits {S u : CX} {p0 : Int32} {r : Int32} (h : xM_waits S p0 r u) : kX u = kX S := by
  obtain ⟨nv, iv, vv, fv, qv, fcv, qs, fz, ps, gz⟩ := S
  rcases h with ⟨_, _, -, rfl⟩
  exact pe_ rfl (pe_ rfl (pe_ rfl (pe_ rfl (pe_ rfl (pe_ rfl (pe_ rfl (pe_ rfl (pe_ rfl (pe_ rfl (pe_ rfl (pe_ rfl (pe_ rfl (pe_ rfl (pe_ rfl (pe_ rfl (pe_ rfl (pe_ rfl (pe_ rfl (pe_ rfl (pe_ rfl (pe_ rfl (pe_ rfl (rfl)))))))))))))))))))))))
theorem kx_takes {S u : CX} {p0 : Int32} {r : Int32} (h : xM_takes S p0 r u) : kX u = kX S := by
  obtain ⟨nv, iv, vv, fv, qv, fcv, qs, fz, ps, gz⟩ := S
  rcases h with ⟨_, _, _, -, rfl⟩
  exact pe_ rfl (pe_ rfl (pe_ rfl (pe_ rfl (pe_ rfl (pe_ rfl (pe_ rfl (pe_ rfl (pe_ rfl (pe_ rfl (pe_ rfl (pe_ rfl (pe_ rfl (pe_ rfl (pe_ rfl (pe_ rfl (pe_ rfl (pe_ rfl (pe_ rfl (pe_ rfl (pe_ rfl (pe_ rfl (pe_ rfl (rfl)))))))))))))))))))))))
theorem kx_now {S u : CX} {p0 : Int32} {r : Int32} (h : xM_now S p0 r u) : kX u = kX S := by
  obtain ⟨nv, iv, vv, fv, qv, fcv, qs, fz, ps, gz⟩ := S
  rcases h with ⟨_, -, rfl⟩
  exact pe_ rfl (pe_ rfl (pe_ rfl (pe_ rfl (pe_ rfl (pe_ rfl (pe_ rfl (pe_ rfl (pe_ rfl (pe_ rfl (pe_ rfl (pe_ rfl (pe_ rfl (pe_ rfl (pe_ rfl (pe_ rfl (pe_ rfl (pe_ rfl (pe_ rfl (pe_ rfl (pe_ rfl (pe_ rfl (pe_ rfl (rfl)))))))))))))))))))))))
theorem kx_graph {S u : CX} {p0 : Int32} {a1 : Nat} {r : Int32} (h : xM_graph S p0 a1 r u) : kX u = kX S := by
  obtain ⟨nv, iv, vv, fv, qv, fcv, qs, fz, ps, gz⟩ := S
  rcases h with ⟨⟨e1, e2, e3⟩, -, rfl⟩ | ⟨sn, -, e4, _, _, _, _, _, _, _, _, _, _, _, _, _, _, _, _, _, _, _, _, -, rfl⟩
  · exact pe_ rfl (pe_ rfl (pe_ rfl (pe_ rfl (pe_ rfl (pe_ e1.symm (pe_ rfl (pe_ rfl (pe_ rfl (pe_ rfl (pe_ rfl (pe_ rfl (pe_ rfl (pe_ rfl (pe_ rfl (pe_ rfl (pe_ rfl (pe_ rfl (pe_ rfl (pe_ rfl (pe_ rfl (pe_ rfl (pe_ rfl (rfl)))))))))))))))))))))))
  · exact pe_ rfl (pe_ rfl (pe_ rfl (pe_ rfl (pe_ rfl (pe_ rfl (pe_ rfl (pe_ e4.symm (pe_ rfl (pe_ rfl (pe_ rfl (pe_ rfl (pe_ rfl (pe_ rfl (pe_ rfl (pe_ rfl (pe_ rfl (pe_ rfl (pe_ rfl (pe_ rfl (pe_ rfl (pe_ rfl (pe_ rfl (rfl)))))))))))))))))))))))
theorem kx_first {S u : CX} {p0 : Int32} {r : Int32} (h : xM_first S p0 r u) : kX u = kX S := by
  obtain ⟨nv, iv, vv, fv, qv, fcv, qs, fz, ps, gz⟩ := S
  rcases h with ⟨-, rfl⟩
  exact pe_ rfl (pe_ rfl (pe_ rfl (pe_ rfl (pe_ rfl (pe_ rfl (pe_ rfl (pe_ rfl (pe_ rfl (pe_ rfl (pe_ rfl (pe_ rfl (pe_ rfl (pe_ rfl (pe_ rfl (pe_ rfl (pe_ rfl (pe_ rfl (pe_ rfl (pe_ rfl (pe_ rfl (pe_ rfl (pe_ rfl (rfl)))))))))))))))))))))))
theorem kx_reached {S u : CX} {r : Int32} (h : xM_reached S r u) : kX u = kX S := by
  obtain ⟨nv, iv, vv, fv, qv, fcv, qs, fz, ps, gz⟩ := S
  rcases h with ⟨-, rfl⟩
  exact pe_ rfl (pe_ rfl (pe_ rfl (pe_ rfl (pe_ rfl (pe_ rfl (pe_ rfl (pe_ rfl (pe_ rfl (pe_ rfl (pe_ rfl (pe_ rfl (pe_ rfl (pe_ rfl (pe_ rfl (pe_ rfl (pe_ rfl (pe_ rfl (pe_ rfl (pe_ rfl (pe_ rfl (pe_ rfl (pe_ rfl (rfl)))))))))))))))))))))))
theorem kx_taken {S u : CX} {r : Int32} (h : xM_taken S r u) : kX u = kX S := by
  obtain ⟨nv, iv, vv, fv, qv, fcv, qs, fz, ps, gz⟩ := S
  rcases h with ⟨-, rfl⟩
  exact pe_ rfl (pe_ rfl (pe_ rfl (pe_ rfl (pe_ rfl (pe_ rfl (pe_ rfl (pe_ rfl (pe_ rfl (pe_ rfl (pe_ rfl (pe_ rfl (pe_ rfl (pe_ rfl (pe_ rfl (pe_ rfl (pe_ rfl (pe_ rfl (pe_ rfl (pe_ rfl (pe_ rfl (pe_ rfl (pe_ rfl (rfl)))))))))))))))))))))))
theorem kx_avoids {S u : CX} {p0 : Int32} {p1 : Int32} {r : Int32} (h : xM_avoids S p0 p1 r u) : kX u = kX S := by
  obtain ⟨nv, iv, vv, fv, qv, fcv, qs, fz, ps, gz⟩ := S
  rcases h with ⟨⟨e1, e2, e3⟩, -, rfl⟩ | ⟨sn, -, e4, _, _, _, _, _, _, _, _, _, _, _, _, _, _, _, _, _, _, _, -, rfl⟩
  · exact pe_ rfl (pe_ rfl (pe_ rfl (pe_ rfl (pe_ rfl (pe_ e1.symm (pe_ rfl (pe_ rfl (pe_ rfl (pe_ rfl (pe_ rfl (pe_ rfl (pe_ rfl (pe_ rfl (pe_ rfl (pe_ rfl (pe_ rfl (pe_ rfl (pe_ rfl (pe_ rfl (pe_ rfl (pe_ rfl (pe_ rfl (rfl)))))))))))))))))))))))
  · exact pe_ rfl (pe_ rfl (pe_ rfl (pe_ rfl (pe_ rfl (pe_ rfl (pe_ rfl (pe_ e4.symm (pe_ rfl (pe_ rfl (pe_ rfl (pe_ rfl (pe_ rfl (pe_ rfl (pe_ rfl (pe_ rfl (pe_ rfl (pe_ rfl (pe_ rfl (pe_ rfl (pe_ rfl (pe_ rfl (pe_ rfl (rfl)))))))))))))))))))))))
theorem kx_from {S u : CX} {p0 : Int32} {p1 : Int32} {p2 : Int32} {p3 : Int32} {p4 : Int32} {r : Int32} (h : xM_from S p0 p1 p2 p3 p4 r u) : kX u = kX S := by
  obtain ⟨nv, iv, vv, fv, qv, fcv, qs, fz, ps, gz⟩ := S
  rcases h with ⟨⟨e1, e2, e3⟩, -, rfl⟩ | ⟨sn, -, e4, _, _, _, _, _, _, _, _, _, _, _, _, _, _, _, _, _, _, _, -, rfl⟩
  · exact pe_ rfl (pe_ rfl (pe_ rfl (pe_ rfl (pe_ rfl (pe_ e1.symm (pe_ rfl (pe_ rfl (pe_ rfl (pe_ rfl (pe_ rfl (pe_ rfl (pe_ rfl (pe_ rfl (pe_ rfl (pe_ rfl (pe_ rfl (pe_ rfl (pe_ rfl (pe_ rfl (pe_ rfl (pe_ rfl (pe_ rfl (rfl)))))))))))))))))))))))
  · exact pe_ rfl (pe_ rfl (pe_ rfl (pe_ rfl (pe_ rfl (pe_ rfl (pe_ rfl (pe_ e4.symm (pe_ rfl (pe_ rfl (pe_ rfl (pe_ rfl (pe_ rfl (pe_ rfl (pe_ rfl (pe_ rfl (pe_ rfl (pe_ rfl (pe_ rfl (pe_ rfl (pe_ rfl (pe_ rfl (pe_ rfl (rfl)))))))))))))))))))))))
theorem kx_soonest {S u : CX} {p0 : Int32} {p1 : Int32} {r : Int32} (h : xM_soonest S p0 p1 r u) : kX u = kX S := by
  obtain ⟨nv, iv, vv, fv, qv, fcv, qs, fz, ps, gz⟩ := S
  rcases h with ⟨⟨e1, e2, e3⟩, -, rfl⟩ | ⟨sn, -, e4, _, _, _, _, _, _, _, _, _, _, _, _, _, _, _, _, _, _, _, _, -, rfl⟩
  · exact pe_ rfl (pe_ rfl (pe_ rfl (pe_ rfl (pe_ rfl (pe_ e1.symm (pe_ rfl (pe_ rfl (pe_ rfl (pe_ rfl (pe_ rfl (pe_ rfl (pe_ rfl (pe_ rfl (pe_ rfl (pe_ rfl (pe_ rfl (pe_ rfl (pe_ rfl (pe_ rfl (pe_ rfl (pe_ rfl (pe_ rfl (rfl)))))))))))))))))))))))
  · exact pe_ rfl (pe_ rfl (pe_ rfl (pe_ rfl (pe_ rfl (pe_ rfl (pe_ rfl (pe_ e4.symm (pe_ rfl (pe_ rfl (pe_ rfl (pe_ rfl (pe_ rfl (pe_ rfl (pe_ rfl (pe_ rfl (pe_ rfl (pe_ rfl (pe_ rfl (pe_ rfl (pe_ rfl (pe_ rfl (pe_ rfl (rfl)))))))))))))))))))))))
theorem kx_run {S u : CX} {p0 : Int32} {p1 : Int32} {r : Int32} (h : xM_run S p0 p1 r u) : kX u = kX S := by
  obtain ⟨nv, iv, vv, fv, qv, fcv, qs, fz, ps, gz⟩ := S
  rcases h with ⟨⟨e1, e2, e3⟩, -, rfl⟩ | ⟨sn, -, e4, _, _, -, rfl⟩
  · exact pe_ rfl (pe_ rfl (pe_ rfl (pe_ rfl (pe_ rfl (pe_ e1.symm (pe_ rfl (pe_ rfl (pe_ rfl (pe_ rfl (pe_ rfl (pe_ rfl (pe_ rfl (pe_ rfl (pe_ rfl (pe_ rfl (pe_ rfl (pe_ rfl (pe_ rfl (pe_ rfl (pe_ rfl (pe_ rfl (pe_ rfl (rfl)))))))))))))))))))))))
  · exact pe_ rfl (pe_ rfl (pe_ rfl (pe_ rfl (pe_ rfl (pe_ rfl (pe_ rfl (pe_ e4.symm (pe_ rfl (pe_ rfl (pe_ rfl (pe_ rfl (pe_ rfl (pe_ rfl (pe_ rfl (pe_ rfl (pe_ rfl (pe_ rfl (pe_ rfl (pe_ rfl (pe_ rfl (pe_ rfl (pe_ rfl (rfl)))))))))))))))))))))))
theorem kx_when {S u : CX} {p0 : Int32} {p1 : Int32} {r : Int32} (h : xM_when S p0 p1 r u) : kX u = kX S := by
  obtain ⟨nv, iv, vv, fv, qv, fcv, qs, fz, ps, gz⟩ := S
  rcases h with ⟨⟨e1, e2, e3⟩, -, rfl⟩ | ⟨sn, -, e4, _, _, _, _, _, _, _, _, -, rfl⟩
  · exact pe_ rfl (pe_ rfl (pe_ rfl (pe_ rfl (pe_ rfl (pe_ e1.symm (pe_ rfl (pe_ rfl (pe_ rfl (pe_ rfl (pe_ rfl (pe_ rfl (pe_ rfl (pe_ rfl (pe_ rfl (pe_ rfl (pe_ rfl (pe_ rfl (pe_ rfl (pe_ rfl (pe_ rfl (pe_ rfl (pe_ rfl (rfl)))))))))))))))))))))))
  · exact pe_ rfl (pe_ rfl (pe_ rfl (pe_ rfl (pe_ rfl (pe_ rfl (pe_ rfl (pe_ e4.symm (pe_ rfl (pe_ rfl (pe_ rfl (pe_ rfl (pe_ rfl (pe_ rfl (pe_ rfl (pe_ rfl (pe_ rfl (pe_ rfl (pe_ rfl (pe_ rfl (pe_ rfl (pe_ rfl (pe_ rfl (rfl)))))))))))))))))))))))
theorem kx_then {S u : CX} {p0 : Int32} {p1 : Int32} {p2 : Int32} {r : Int32} (h : xM_then S p0 p1 p2 r u) : kX u = kX S := by
  obtain ⟨nv, iv, vv, fv, qv, fcv, qs, fz, ps, gz⟩ := S
  rcases h with ⟨⟨e1, e2, e3⟩, -, rfl⟩ | ⟨sn, -, e4, _, _, _, _, _, _, _, _, -, rfl⟩
  · exact pe_ rfl (pe_ rfl (pe_ rfl (pe_ rfl (pe_ rfl (pe_ e1.symm (pe_ rfl (pe_ rfl (pe_ rfl (pe_ rfl (pe_ rfl (pe_ rfl (pe_ rfl (pe_ rfl (pe_ rfl (pe_ rfl (pe_ rfl (pe_ rfl (pe_ rfl (pe_ rfl (pe_ rfl (pe_ rfl (pe_ rfl (rfl)))))))))))))))))))))))
  · exact pe_ rfl (pe_ rfl (pe_ rfl (pe_ rfl (pe_ rfl (pe_ rfl (pe_ rfl (pe_ e4.symm (pe_ rfl (pe_ rfl (pe_ rfl (pe_ rfl (pe_ rfl (pe_ rfl (pe_ rfl (pe_ rfl (pe_ rfl (pe_ rfl (pe_ rfl (pe_ rfl (pe_ rfl (pe_ rfl (pe_ rfl (rfl)))))))))))))))))))))))
theorem kx_latest {S u : CX} {p0 : Int32} {p1 : Int32} {p2 : Int32} {r : Int32} (h : xM_latest S p0 p1 p2 r u) : kX u = kX S := by
  obtain ⟨nv, iv, vv, fv, qv, fcv, qs, fz, ps, gz⟩ := S
  rcases h with ⟨⟨e1, e2, e3⟩, -, rfl⟩ | ⟨sn, -, e4, _, _, _, _, _, _, _, _, -, rfl⟩
  · exact pe_ rfl (pe_ rfl (pe_ rfl (pe_ rfl (pe_ rfl (pe_ e1.symm (pe_ rfl (pe_ rfl (pe_ rfl (pe_ rfl (pe_ rfl (pe_ rfl (pe_ rfl (pe_ rfl (pe_ rfl (pe_ rfl (pe_ rfl (pe_ rfl (pe_ rfl (pe_ rfl (pe_ rfl (pe_ rfl (pe_ rfl (rfl)))))))))))))))))))))))
  · exact pe_ rfl (pe_ rfl (pe_ rfl (pe_ rfl (pe_ rfl (pe_ rfl (pe_ rfl (pe_ e4.symm (pe_ rfl (pe_ rfl (pe_ rfl (pe_ rfl (pe_ rfl (pe_ rfl (pe_ rfl (pe_ rfl (pe_ rfl (pe_ rfl (pe_ rfl (pe_ rfl (pe_ rfl (pe_ rfl (pe_ rfl (rfl)))))))))))))))))))))))
theorem kx_spans {S u : CX} {p0 : Int32} {p1 : Int32} {r : Int32} (h : xM_spans S p0 p1 r u) : kX u = kX S := by
  obtain ⟨nv, iv, vv, fv, qv, fcv, qs, fz, ps, gz⟩ := S
  rcases h with ⟨⟨e1, e2, e3⟩, -, rfl⟩ | ⟨sn, -, e4, _, _, _, _, -, rfl⟩
  · exact pe_ rfl (pe_ rfl (pe_ rfl (pe_ rfl (pe_ rfl (pe_ e1.symm (pe_ rfl (pe_ rfl (pe_ rfl (pe_ rfl (pe_ rfl (pe_ rfl (pe_ rfl (pe_ rfl (pe_ rfl (pe_ rfl (pe_ rfl (pe_ rfl (pe_ rfl (pe_ rfl (pe_ rfl (pe_ rfl (pe_ rfl (rfl)))))))))))))))))))))))
  · exact pe_ rfl (pe_ rfl (pe_ rfl (pe_ rfl (pe_ rfl (pe_ rfl (pe_ rfl (pe_ e4.symm (pe_ rfl (pe_ rfl (pe_ rfl (pe_ rfl (pe_ rfl (pe_ rfl (pe_ rfl (pe_ rfl (pe_ rfl (pe_ rfl (pe_ rfl (pe_ rfl (pe_ rfl (pe_ rfl (pe_ rfl (rfl)))))))))))))))))))))))
theorem kx_tells {S u : CX} {p0 : Int32} {p1 : Int32} {p2 : Int32} {p3 : Int32} {p4 : Int32} {p5 : Int32} {r : Int32} (h : xM_tells S p0 p1 p2 p3 p4 p5 r u) : kX u = kX S := by
  obtain ⟨nv, iv, vv, fv, qv, fcv, qs, fz, ps, gz⟩ := S
  rcases h with ⟨⟨e1, e2, e3⟩, -, rfl⟩ | ⟨sn, -, e4, _, _, _, _, -, rfl⟩
  · exact pe_ rfl (pe_ rfl (pe_ rfl (pe_ rfl (pe_ rfl (pe_ e1.symm (pe_ rfl (pe_ rfl (pe_ rfl (pe_ rfl (pe_ rfl (pe_ rfl (pe_ rfl (pe_ rfl (pe_ rfl (pe_ rfl (pe_ rfl (pe_ rfl (pe_ rfl (pe_ rfl (pe_ rfl (pe_ rfl (pe_ rfl (rfl)))))))))))))))))))))))
  · exact pe_ rfl (pe_ rfl (pe_ rfl (pe_ rfl (pe_ rfl (pe_ rfl (pe_ rfl (pe_ e4.symm (pe_ rfl (pe_ rfl (pe_ rfl (pe_ rfl (pe_ rfl (pe_ rfl (pe_ rfl (pe_ rfl (pe_ rfl (pe_ rfl (pe_ rfl (pe_ rfl (pe_ rfl (pe_ rfl (pe_ rfl (rfl)))))))))))))))))))))))
theorem kx_replays {S u : CX} {p0 : Int32} {r : Int32} (h : xM_replays S p0 r u) : kX u = kX S := by
  obtain ⟨nv, iv, vv, fv, qv, fcv, qs, fz, ps, gz⟩ := S
  rcases h with ⟨⟨e1, e2, e3⟩, _, -, rfl⟩ | ⟨sn, -, e4, _, _, _, _, _, _, _, _, _, _, _, _, _, -, rfl⟩
  · exact pe_ rfl (pe_ rfl (pe_ rfl (pe_ rfl (pe_ rfl (pe_ e1.symm (pe_ rfl (pe_ rfl (pe_ rfl (pe_ rfl (pe_ rfl (pe_ rfl (pe_ rfl (pe_ rfl (pe_ rfl (pe_ rfl (pe_ rfl (pe_ rfl (pe_ rfl (pe_ rfl (pe_ rfl (pe_ rfl (pe_ rfl (rfl)))))))))))))))))))))))
  · exact pe_ rfl (pe_ rfl (pe_ rfl (pe_ rfl (pe_ rfl (pe_ rfl (pe_ rfl (pe_ e4.symm (pe_ rfl (pe_ rfl (pe_ rfl (pe_ rfl (pe_ rfl (pe_ rfl (pe_ rfl (pe_ rfl (pe_ rfl (pe_ rfl (pe_ rfl (pe_ rfl (pe_ rfl (pe_ rfl (pe_ rfl (rfl)))))))))))))))))))))))
theorem kx_within {S u : CX} {p0 : Int32} {p1 : Int32} {r : Int32} (h : xM_within S p0 p1 r u) : kX u = kX S := by
  obtain ⟨nv, iv, vv, fv, qv, fcv, qs, fz, ps, gz⟩ := S
  rcases h with ⟨-, rfl⟩
  exact pe_ rfl (pe_ rfl (pe_ rfl (pe_ rfl (pe_ rfl (pe_ rfl (pe_ rfl (pe_ rfl (pe_ rfl (pe_ rfl (pe_ rfl (pe_ rfl (pe_ rfl (pe_ rfl (pe_ rfl (pe_ rfl (pe_ rfl (pe_ rfl (pe_ rfl (pe_ rfl (pe_ rfl (pe_ rfl (pe_ rfl (rfl)))))))))))))))))))))))
theorem kx_bound {S u : CX} {p0 : Int32} {p1 : Int32} {p2 : Int32} {p3 : Int32} {r : Int32} (h : xM_bound S p0 p1 p2 p3 r u) : kX u = kX S := by
  obtain ⟨nv, iv, vv, fv, qv, fcv, qs, fz, ps, gz⟩ := S
  rcases h with ⟨-, rfl⟩
  exact pe_ rfl (pe_ rfl (pe_ rfl (pe_ rfl (pe_ rfl (pe_ rfl (pe_ rfl (pe_ rfl (pe_ rfl (pe_ rfl (pe_ rfl (pe_ rfl (pe_ rfl (pe_ rfl (pe_ rfl (pe_ rfl (pe_ rfl (pe_ rfl (pe_ rfl (pe_ rfl (pe_ rfl (pe_ rfl (pe_ rfl (rfl)))))))))))))))))))))))
theorem kx_has {S u : CX} {p0 : Int32} {p1 : Int32} {p2 : Int32} {p3 : Int32} {r : Int32} (h : xM_has S p0 p1 p2 p3 r u) : kX u = kX S := by
  obtain ⟨nv, iv, vv, fv, qv, fcv, qs, fz, ps, gz⟩ := S
  rcases h with ⟨_, -, rfl⟩
  exact pe_ rfl (pe_ rfl (pe_ rfl (pe_ rfl (pe_ rfl (pe_ rfl (pe_ rfl (pe_ rfl (pe_ rfl (pe_ rfl (pe_ rfl (pe_ rfl (pe_ rfl (pe_ rfl (pe_ rfl (pe_ rfl (pe_ rfl (pe_ rfl (pe_ rfl (pe_ rfl (pe_ rfl (pe_ rfl (pe_ rfl (rfl)))))))))))))))))))))))
theorem kx_state {S u : CX} {p0 : Int32} {p1 : Int32} {r : Int32} (h : xM_state S p0 p1 r u) : kX u = kX S := by
  obtain ⟨nv, iv, vv, fv, qv, fcv, qs, fz, ps, gz⟩ := S
  rcases h with ⟨_, _, _, _, _, _, _, -, rfl⟩
  exact pe_ rfl (pe_ rfl (pe_ rfl (pe_ rfl (pe_ rfl (pe_ rfl (pe_ rfl (pe_ rfl (pe_ rfl (pe_ rfl (pe_ rfl (pe_ rfl (pe_ rfl (pe_ rfl (pe_ rfl (pe_ rfl (pe_ rfl (pe_ rfl (pe_ rfl (pe_ rfl (pe_ rfl (pe_ rfl (pe_ rfl (rfl)))))))))))))))))))))))
theorem kx_covered {S u : CX} {p0 : Int32} {r : Int32} (h : xM_covered S p0 r u) : kX u = kX S := by
  obtain ⟨nv, iv, vv, fv, qv, fcv, qs, fz, ps, gz⟩ := S
  rcases h with ⟨_, _, _, _, _, _, _, -, rfl⟩
  exact pe_ rfl (pe_ rfl (pe_ rfl (pe_ rfl (pe_ rfl (pe_ rfl (pe_ rfl (pe_ rfl (pe_ rfl (pe_ rfl (pe_ rfl (pe_ rfl (pe_ rfl (pe_ rfl (pe_ rfl (pe_ rfl (pe_ rfl (pe_ rfl (pe_ rfl (pe_ rfl (pe_ rfl (pe_ rfl (pe_ rfl (rfl)))))))))))))))))))))))
theorem kx_overlap {S u : CX} {p0 : Int32} {p1 : Int32} {r : Int32} (h : xM_overlap S p0 p1 r u) : kX u = kX S := by
  obtain ⟨nv, iv, vv, fv, qv, fcv, qs, fz, ps, gz⟩ := S
  rcases h with ⟨_, _, -, rfl⟩
  exact pe_ rfl (pe_ rfl (pe_ rfl (pe_ rfl (pe_ rfl (pe_ rfl (pe_ rfl (pe_ rfl (pe_ rfl (pe_ rfl (pe_ rfl (pe_ rfl (pe_ rfl (pe_ rfl (pe_ rfl (pe_ rfl (pe_ rfl (pe_ rfl (pe_ rfl (pe_ rfl (pe_ rfl (pe_ rfl (pe_ rfl (rfl)))))))))))))))))))))))
theorem kx_points {S u : CX} {p0 : Int32} {r : Int32} (h : xM_points S p0 r u) : kX u = kX S := by
  obtain ⟨nv, iv, vv, fv, qv, fcv, qs, fz, ps, gz⟩ := S
  rcases h with ⟨_, _, _, -, rfl⟩
  exact pe_ rfl (pe_ rfl (pe_ rfl (pe_ rfl (pe_ rfl (pe_ rfl (pe_ rfl (pe_ rfl (pe_ rfl (pe_ rfl (pe_ rfl (pe_ rfl (pe_ rfl (pe_ rfl (pe_ rfl (pe_ rfl (pe_ rfl (pe_ rfl (pe_ rfl (pe_ rfl (pe_ rfl (pe_ rfl (pe_ rfl (rfl)))))))))))))))))))))))
theorem km_fault {S u : CMx} {p0 : Int32} {r : Int32} (h : mM_fault S p0 r u) : kM u = kM S := by
  obtain ⟨nv, iv, fv, qv⟩ := S
  obtain ⟨_, -, rfl⟩ := h
  rfl
theorem km_about {S u : CMx} {p0 : Int32} {r : Int32} (h : mM_about S p0 r u) : kM u = kM S := by
  obtain ⟨nv, iv, fv, qv⟩ := S
  obtain ⟨_, -, rfl⟩ := h
  rfl
theorem km_place {S u : CMx} {p0 : Int32} {p1 : Int32} {r : Int32} (h : mM_place S p0 p1 r u) : kM u = kM S := by
  obtain ⟨nv, iv, fv, qv⟩ := S
  obtain ⟨_, -, rfl⟩ := h
  rfl
theorem km_edge {S u : CMx} {p0 : Int32} {p1 : Int32} {r : Int32} (h : mM_edge S p0 p1 r u) : kM u = kM S := by
  obtain ⟨nv, iv, fv, qv⟩ := S
  obtain ⟨_, -, rfl⟩ := h
  rfl
theorem km_condition {S u : CMx} {p0 : Int32} {p1 : Int32} {p2 : Int32} {r : Int32} (h : mM_condition S p0 p1 p2 r u) : kM u = kM S := by
  obtain ⟨nv, iv, fv, qv⟩ := S
  obtain ⟨_, -, rfl⟩ := h
  rfl
theorem km_limit {S u : CMx} {p0 : Int32} {p1 : Int32} {r : Int32} (h : mM_limit S p0 p1 r u) : kM u = kM S := by
  obtain ⟨nv, iv, fv, qv⟩ := S
  obtain ⟨_, -, rfl⟩ := h
  rfl
theorem km_graph {S u : CMx} {p0 : Int32} {a1 : Nat} {r : Int32} (h : mM_graph S p0 a1 r u) : kM u = kM S := by
  obtain ⟨nv, iv, fv, qv⟩ := S
  obtain ⟨_, _, _, _, _, _, _, _, _, _, _, _, _, _, _, -, rfl⟩ := h
  rfl
theorem km_state {S u : CMx} {p0 : Int32} {p1 : Int32} {r : Int32} (h : mM_state S p0 p1 r u) : kM u = kM S := by
  obtain ⟨nv, iv, fv, qv⟩ := S
  obtain ⟨_, _, _, _, _, _, _, _, _, -, rfl⟩ := h
  rfl
theorem km_bound {S u : CMx} {p0 : Int32} {p1 : Int32} {p2 : Int32} {p3 : Int32} {r : Int32} (h : mM_bound S p0 p1 p2 p3 r u) : kM u = kM S := by
  obtain ⟨nv, iv, fv, qv⟩ := S
  obtain ⟨_, _, -, rfl⟩ := h
  rfl
theorem km_within {S u : CMx} {p0 : Int32} {p1 : Int32} {r : Int32} (h : mM_within S p0 p1 r u) : kM u = kM S := by
  obtain ⟨nv, iv, fv, qv⟩ := S
  obtain ⟨_, _, _, -, rfl⟩ := h
  rfl
theorem km_has {S u : CMx} {p0 : Int32} {p1 : Int32} {p2 : Int32} {p3 : Int32} {r : Int32} (h : mM_has S p0 p1 p2 p3 r u) : kM u = kM S := by
  obtain ⟨nv, iv, fv, qv⟩ := S
  obtain ⟨_, _, -, rfl⟩ := h
  rfl
theorem km_first {S u : CMx} {p0 : Int32} {r : Int32} (h : mM_first S p0 r u) : kM u = kM S := by
  obtain ⟨nv, iv, fv, qv⟩ := S
  obtain ⟨_, -, rfl⟩ := h
  rfl
theorem km_reached {S u : CMx} {r : Int32} (h : mM_reached S r u) : kM u = kM S := by
  obtain ⟨nv, iv, fv, qv⟩ := S
  obtain ⟨_, -, rfl⟩ := h
  rfl
theorem km_taken {S u : CMx} {r : Int32} (h : mM_taken S r u) : kM u = kM S := by
  obtain ⟨nv, iv, fv, qv⟩ := S
  obtain ⟨_, -, rfl⟩ := h
  rfl
theorem km_overlap {S u : CMx} {p0 : Int32} {p1 : Int32} {r : Int32} (h : mM_overlap S p0 p1 r u) : kM u = kM S := by
  obtain ⟨nv, iv, fv, qv⟩ := S
  obtain ⟨_, _, _, -, rfl⟩ := h
  rfl
theorem km_covered {S u : CMx} {p0 : Int32} {r : Int32} (h : mM_covered S p0 r u) : kM u = kM S := by
  obtain ⟨nv, iv, fv, qv⟩ := S
  obtain ⟨_, _, _, _, _, _, _, _, _, -, rfl⟩ := h
  rfl
theorem km_points {S u : CMx} {p0 : Int32} {r : Int32} (h : mM_points S p0 r u) : kM u = kM S := by
  obtain ⟨nv, iv, fv, qv⟩ := S
  obtain ⟨_, _, -, rfl⟩ := h
  rfl
theorem km_rings {S u : CMx} {r : Int32} (h : mM_rings S r u) : kM u = kM S := by
  obtain ⟨nv, iv, fv, qv⟩ := S
  obtain ⟨_, -, rfl⟩ := h
  rfl
theorem km_from {S u : CMx} {p0 : Int32} {p1 : Int32} {p2 : Int32} {p3 : Int32} {p4 : Int32} {r : Int32} (h : mM_from S p0 p1 p2 p3 p4 r u) : kM u = kM S := by
  obtain ⟨nv, iv, fv, qv⟩ := S
  obtain ⟨_, _, _, _, _, _, _, _, _, _, _, _, _, -, rfl⟩ := h
  rfl
theorem km_avoids {S u : CMx} {p0 : Int32} {p1 : Int32} {r : Int32} (h : mM_avoids S p0 p1 r u) : kM u = kM S := by
  obtain ⟨nv, iv, fv, qv⟩ := S
  obtain ⟨_, _, _, _, _, _, _, _, _, _, _, _, _, -, rfl⟩ := h
  rfl
theorem km_run {S u : CMx} {p0 : Int32} {p1 : Int32} {r : Int32} (h : mM_run S p0 p1 r u) : kM u = kM S := by
  obtain ⟨nv, iv, fv, qv⟩ := S
  obtain ⟨_, _, _, _, -, rfl⟩ := h
  rfl
theorem km_when {S u : CMx} {p0 : Int32} {p1 : Int32} {r : Int32} (h : mM_when S p0 p1 r u) : kM u = kM S := by
  obtain ⟨nv, iv, fv, qv⟩ := S
  obtain ⟨_, _, _, _, _, _, _, _, _, _, _, -, rfl⟩ := h
  rfl
theorem km_then {S u : CMx} {p0 : Int32} {p1 : Int32} {p2 : Int32} {r : Int32} (h : mM_then S p0 p1 p2 r u) : kM u = kM S := by
  obtain ⟨nv, iv, fv, qv⟩ := S
  obtain ⟨_, _, _, _, _, _, _, _, _, _, _, -, rfl⟩ := h
  rfl
theorem km_spans {S u : CMx} {p0 : Int32} {p1 : Int32} {r : Int32} (h : mM_spans S p0 p1 r u) : kM u = kM S := by
  obtain ⟨nv, iv, fv, qv⟩ := S
  obtain ⟨_, _, _, _, _, _, _, _, _, _, _, -, rfl⟩ := h
  rfl
theorem km_tells {S u : CMx} {p0 : Int32} {p1 : Int32} {p2 : Int32} {p3 : Int32} {p4 : Int32} {p5 : Int32} {r : Int32} (h : mM_tells S p0 p1 p2 p3 p4 p5 r u) : kM u = kM S := by
  obtain ⟨nv, iv, fv, qv⟩ := S
  obtain ⟨_, _, _, _, _, _, _, _, _, _, -, rfl⟩ := h
  rfl
theorem km_latest {S u : CMx} {p0 : Int32} {p1 : Int32} {p2 : Int32} {r : Int32} (h : mM_latest S p0 p1 p2 r u) : kM u = kM S := by
  obtain ⟨nv, iv, fv, qv⟩ := S
  obtain ⟨_, _, _, _, _, _, _, _, _, _, _, -, rfl⟩ := h
  rfl
theorem km_soonest {S u : CMx} {p0 : Int32} {p1 : Int32} {r : Int32} (h : mM_soonest S p0 p1 r u) : kM u = kM S := by
  obtain ⟨nv, iv, fv, qv⟩ := S
  obtain ⟨_, _, _, _, _, _, _, _, _, _, _, _, _, -, rfl⟩ := h
  rfl
theorem km_begin {S u : CMx} {r : Int32} (h : mM_begin S r u) : kM u = kM S := by
  obtain ⟨nv, iv, fv, qv⟩ := S
  obtain ⟨_, _, _, _, _, -, rfl⟩ := h
  rfl
theorem km_waits {S u : CMx} {p0 : Int32} {r : Int32} (h : mM_waits S p0 r u) : kM u = kM S := by
  obtain ⟨nv, iv, fv, qv⟩ := S
  obtain ⟨_, _, _, -, rfl⟩ := h
  rfl
theorem km_takes {S u : CMx} {p0 : Int32} {r : Int32} (h : mM_takes S p0 r u) : kM u = kM S := by
  obtain ⟨nv, iv, fv, qv⟩ := S
  obtain ⟨_, _, _, -, rfl⟩ := h
  rfl
theorem km_now {S u : CMx} {p0 : Int32} {r : Int32} (h : mM_now S p0 r u) : kM u = kM S := by
  obtain ⟨nv, iv, fv, qv⟩ := S
  obtain ⟨_, -, rfl⟩ := h
  rfl
theorem km_clock {S u : CMx} {p0 : Int32} {r : Int32} (h : mM_clock S p0 r u) : kM u = kM S := by
  obtain ⟨nv, iv, fv, qv⟩ := S
  obtain ⟨_, -, rfl⟩ := h
  rfl
theorem km_replays {S u : CMx} {p0 : Int32} {r : Int32} (h : mM_replays S p0 r u) : kM u = kM S := by
  obtain ⟨nv, iv, fv, qv⟩ := S
  obtain ⟨_, _, _, _, _, _, _, _, _, _, _, _, _, _, _, -, rfl⟩ := h
  rfl
/-- automaton and acts of both -/
def SRm : KX → KMx → Prop := fun (tp, ft, fa, fat, nc, np, ne, st0, f4, q5, q6, f7, q8, q9, f10, f11, f12, f13, f14, f15, f16, hk, fo, fl) (x18, f17, x24, x25, b, x33, f3, r4, r5, r6, r7, f8, r9, r10, r11, m12_0, m12_1, m13_0, m13_1, m14_0, m14_1, m15_0, m15_1, q31, f32) => MB b nc np ne st0 f4 q5 q6 f7 q8 q9 f10 f11 f3 r4 r5 r6 r7 f8 r9 r10 r11 (bkN b m12_0 m12_1) (bkN b m13_0 m13_1) (bkN b m14_0 m14_1) (bkN b m15_0 m15_1) ∧ STQ np st0 (bkN b m15_0 m15_1) ∧ WFm nc np ne f4 q8 q9 f10 f11 f12 f13 ∧ MS nc np q8 q9 f10 f11 f14 f15 f16 ∧ HR b np ne q8 hk fo fl x33 q31 f32
def SRp (a : KX) (c : KMx) : Prop := a.1 = c.1 ∧ a.2.1 = c.2.1 ∧ (∀ i, a.2.1 i ≠ -1) ∧ a.2.2.1 = c.2.2.1 ∧ a.2.2.2.1 = c.2.2.2.1 ∧ SRm a c
def SR (Sx : CX) (Sm : CMx) : Prop := SRp (kX Sx) (kM Sm)
theorem sr_of {Sx ux : CX} {Sm um : CMx} (h1 : kX ux = kX Sx) (h2 : kM um = kM Sm) (h : SR Sx Sm) : SR ux um := by
  unfold SR at h ⊢
  rw [h1, h2]
  exact h
theorem srm_0 : SRm (kX x0S) (kM m0S) := ⟨⟨⟨rfl, Nat.zero_le 3, rfl, Nat.zero_le 8, rfl, Nat.zero_le 14⟩, Or.inl rfl, fun i hi => absurd hi (Nat.not_lt_zero i), fun i _ _ => ⟨rfl, rfl⟩, fun i _ _ => rfl, fun i hi => absurd hi (Nat.not_lt_zero i), fun i hi => absurd hi (Nat.not_lt_zero i), fun i hi => absurd hi (Nat.not_lt_zero i)⟩, Or.inl ⟨rfl, rfl, rfl⟩, ⟨fun h _ => ⟨Nat.zero_le 4, fun k hk => absurd hk (Nat.not_lt_zero k)⟩, fun i _ => Or.inl rfl, fun i _ _ => rfl, fun i _ _ => rfl⟩, Or.inl ⟨rfl, rfl⟩, ⟨rfl, Nat.zero_le 20, fun i hi => absurd hi (Nat.not_lt_zero i)⟩⟩
theorem sr_0 : SR x0S m0S := ⟨rfl, rfl, fun i => z_ne i, rfl, rfl, srm_0⟩
theorem feed_tp (tp : Nat) (f : Nat → Int32) (p0 p1 p2 p3 p4 : Int32) : (sp_EM_feed tp f p0 p1 p2 p3 p4).2.2 = (sp_E_8_feed tp f p0 p1 p2 p3 p4).2 := by
  unfold sp_EM_feed sp_E_8_feed slet
  by_cases h : tp + 20 ≤ 900
  · rw [if_pos h, if_pos h]
  · rw [if_neg h, if_neg h]
theorem end_same (n : Nat) (p : Int32) : (sp_EM_end n p).2 = sp_E_8_end n p := by
  unfold sp_EM_end sp_E_8_end slet
  by_cases h : p < 0
  · rw [if_neg (fun z => absurd z.1 (Int32.not_le.mpr h)), if_pos h]
  · rw [if_neg h]
    by_cases g : p ≤ nI n
    · rw [if_pos ⟨Int32.not_lt.mp h, g⟩, if_pos g]
    · rw [if_neg (fun z => g z.2), if_neg g]
theorem sr_feed {Sx ux : CX} {Sm um : CMx} {p0 p1 p2 p3 p4 r r' : Int32} (h : SR Sx Sm) (_ : xFact Sx) (_ : mFact Sm) (hx : xM_feed Sx p0 p1 p2 p3 p4 r ux) (hm : mM_feed Sm p0 p1 p2 p3 p4 r' um) : SR ux um := by
  obtain ⟨nv, iv, vv, fv, qv, fcv, qs, fz, ps, gz⟩ := Sx
  obtain ⟨nw, iw, fw, qw⟩ := Sm
  obtain ⟨zf, zt, ⟨-, e⟩, rfl⟩ := hx
  obtain ⟨yf, y0, yt, ⟨-, g⟩, rfl⟩ := hm
  obtain ⟨e1, e2, hne, e3, e4, eb⟩ := h
  have e1 : nv 0 = nw 1 := e1
  have e2 : fv 0 = fw 5 := e2
  have hne : ∀ i, fv 0 i ≠ -1 := hne
  rw [← e1, ← e2] at g
  have a1 : zf = (sp_E_8_feed (nv 0) (fv 0) p0 p1 p2 p3 p4).1 := congrArg Prod.fst e
  have a2 : zt = (sp_E_8_feed (nv 0) (fv 0) p0 p1 p2 p3 p4).2 := congrArg Prod.snd e
  have b1 : yf = (sp_EM_feed (nv 0) (fv 0) p0 p1 p2 p3 p4).1 := congrArg Prod.fst g
  have b2 : yt = (sp_EM_feed (nv 0) (fv 0) p0 p1 p2 p3 p4).2.2 := congrArg (fun t => t.2.2) g
  refine ⟨?_, ?_, ?_, e3, e4, eb⟩
  · show zt = yt
    rw [a2, b2, feed_tp]
  · show zf = yf
    rw [a1, b1, feed_same]
  · show ∀ i, zf i ≠ -1
    rw [a1]
    exact feed_ne hne _ _ _ _ _ _
theorem sr_end {Sx ux : CX} {Sm um : CMx} {p0 r r' : Int32} (h : SR Sx Sm) (_ : xFact Sx) (_ : mFact Sm) (hx : xM_end Sx p0 r ux) (hm : mM_end Sm p0 r' um) : SR ux um := by
  obtain ⟨nv, iv, vv, fv, qv, fcv, qs, fz, ps, gz⟩ := Sx
  obtain ⟨nw, iw, fw, qw⟩ := Sm
  obtain ⟨zt, ⟨-, e⟩, rfl⟩ := hx
  obtain ⟨y0, yt, ⟨-, g⟩, rfl⟩ := hm
  obtain ⟨e1, e2, hne, e3, e4, eb⟩ := h
  have e1 : nv 0 = nw 1 := e1
  rw [← e1] at g
  refine ⟨?_, e2, hne, e3, e4, eb⟩
  show zt = yt
  rw [e, ← end_same]
  exact (congrArg Prod.snd g).symm
theorem eq_feed {Sx ux : CX} {Sm um : CMx} {p0 p1 p2 p3 p4 r r' : Int32} (h : SR Sx Sm) (_ : xFact Sx) (_ : mFact Sm) (hx : xM_feed Sx p0 p1 p2 p3 p4 r ux) (hm : mM_feed Sm p0 p1 p2 p3 p4 r' um) : r = r' := by
  obtain ⟨nv, iv, vv, fv, qv, fcv, qs, fz, ps, gz⟩ := Sx
  obtain ⟨nw, iw, fw, qw⟩ := Sm
  obtain ⟨zf, zt, ⟨e, -⟩, rfl⟩ := hx
  obtain ⟨yf, y0, yt, ⟨g, -⟩, rfl⟩ := hm
  have e1 : nv 0 = nw 1 := h.1
  rw [e, g, e1]
theorem eq_end {Sx ux : CX} {Sm um : CMx} {p0 r r' : Int32} (h : SR Sx Sm) (_ : xFact Sx) (_ : mFact Sm) (hx : xM_end Sx p0 r ux) (hm : mM_end Sm p0 r' um) : r = r' := by
  obtain ⟨nv, iv, vv, fv, qv, fcv, qs, fz, ps, gz⟩ := Sx
  obtain ⟨nw, iw, fw, qw⟩ := Sm
  obtain ⟨zt, ⟨e, -⟩, rfl⟩ := hx
  obtain ⟨y0, yt, ⟨g, -⟩, rfl⟩ := hm
  have e1 : nv 0 = nw 1 := h.1
  rw [e, g, e1]
theorem x_tp {S : CX} (h : xFact S) : (kX S).1 ≤ 900 := by
  obtain ⟨nv, iv, vv, fv, qv, fcv, qs, fz, ps, gz⟩ := S
  exact h.1.1.1
theorem m_bk {S : CMx} (h : mFact S) : (kM S).2.2.2.2.1 ≤ 1 := by
  obtain ⟨nv, iv, fv, qv⟩ := S
  exact h.1.1
theorem x_au {S u : CX} {r : Int32} (h : xM_automaton S r u) : xAu (kX S).2.1 (kX S).1 r ((kX u).2.2.1, (kX u).2.2.2.1) ∧ (kX u).1 = 0 ∧ (kX u).2.1 = (kX S).2.1 := by
  obtain ⟨nv, iv, vv, fv, qv, fcv, qs, fz, ps, gz⟩ := S
  obtain ⟨vw, z0, z1, z2, z3, z4, z5, z6, z7, z8, z9, z10, z11, z12, z13, z14, z15, z16, z17, z18, z19, z20, z21, z22, z23, z24, z25, z26, z27, z28, z29, e, h⟩ := h
  rcases h with ⟨-, rfl⟩ | ⟨-, rfl⟩
  · exact ⟨⟨_, _, _, _, _, _, _, _, _, _, _, _, _, _, _, _, _, _, _, _, _, _, _, _, _, _, _, _, _, _, _, _, _, _, _, _, _, _, _, _, _, _, _, _, _, _, _, _, _, _, e, rfl⟩, rfl, rfl⟩
  · exact ⟨⟨_, _, _, _, _, _, _, _, _, _, _, _, _, _, _, _, _, _, _, _, _, _, _, _, _, _, _, _, _, _, _, _, _, _, _, _, _, _, _, _, _, _, _, _, _, _, _, _, _, _, e, rfl⟩, rfl, rfl⟩
theorem m_au {S u : CMx} {r : Int32} (f : mFact S) (h : mM_automaton S r u) : mAu (kM S).2.1 (kM S).1 r ((kM u).2.2.1, (kM u).2.2.2.1) ∧ (kM u).1 = 0 ∧ (kM u).2.1 = (kM S).2.1 := by
  have f1 := m_bk f
  obtain ⟨nv, iv, fv, qv⟩ := S
  obtain ⟨y0, y1, y2, y3, y4, y5, y6, y7, y8, y9, y10, y11, y12, y13, y14, y15, y16, y17, y18, y19, y20, y21, y22, y23, y24, y25, y26, y27, y28, y29, y30, y31, y32, y33, e, rfl⟩ := h
  exact ⟨⟨_, _, _, _, _, _, _, _, _, _, _, _, _, _, _, _, _, _, _, _, _, _, _, _, f1, _, _, _, _, _, _, _, _, _, _, _, _, _, _, _, _, _, _, _, _, _, _, _, _, _, _, _, _, _, _, _, _, _, _, e, rfl⟩, rfl, rfl⟩
theorem au_both {Sx ux : CX} {Sm um : CMx} {r r' : Int32} (h : SR Sx Sm) (fx : xFact Sx) (fm : mFact Sm) (hx : xM_automaton Sx r ux) (hm : mM_automaton Sm r' um) : r = r' ∧ ((kX ux).2.2.1, (kX ux).2.2.2.1) = ((kM um).2.2.1, (kM um).2.2.2.1) := by
  obtain ⟨e1, e2, hne, -⟩ := h
  have hx1 := (x_au hx).1
  have hm1 := (m_au fm hm).1
  rw [← e1, ← e2] at hm1
  exact au_same hne (x_tp fx) hx1 hm1
theorem srm_automaton {Sx ux : CX} {Sm um : CMx} {r r' : Int32} (h : SR Sx Sm) (fx : xFact Sx) (fm : mFact Sm) (hx : xM_automaton Sx r ux) (hm : mM_automaton Sm r' um) : SRm (kX ux) (kM um) := by
  have f1 := m_bk fm
  have tp := x_tp fx
  obtain ⟨nv, iv, vv, fv, qv, fcv, qs, fz, ps, gz⟩ := Sx
  obtain ⟨nw, iw, fw, qw⟩ := Sm
  obtain ⟨vw, z0, z1, z2, z3, z4, z5, z6, z7, z8, z9, z10, z11, z12, z13, z14, z15, z16, z17, z18, z19, z20, z21, z22, z23, z24, z25, z26, z27, z28, z29, e, hx⟩ := hx
  obtain ⟨y0, y1, y2, y3, y4, y5, y6, y7, y8, y9, y10, y11, y12, y13, y14, y15, y16, y17, y18, y19, y20, y21, y22, y23, y24, y25, y26, y27, y28, y29, y30, y31, y32, y33, g, rfl⟩ := hm
  obtain ⟨e1, e2, hne, e3, e4, em⟩ := h
  have f1 : nw 0 ≤ 1 := f1
  have tp : nv 0 ≤ 900 := tp
  have e1 : nv 0 = nw 1 := e1
  have e2 : fv 0 = fw 5 := e2
  have hne : ∀ i, fv 0 i ≠ -1 := hne
  have em : MB (nw 0) (nv 6) (nv 7) (nv 8) (iv 4) (fv 3) (qv 0) (qv 1) (fv 4) (qv 2) (qv 3) (fv 5) (fv 6) (fw 2) (qw 0) (qw 1) (qw 2) (qw 3) (fw 3) (qw 4) (qw 5) (fw 4) (bkN (nw 0) (nw 17) (nw 18)) (bkN (nw 0) (nw 19) (nw 20)) (bkN (nw 0) (nw 21) (nw 22)) (bkN (nw 0) (nw 23) (nw 24)) ∧ STQ (nv 7) (iv 4) (bkN (nw 0) (nw 23) (nw 24)) ∧ WFm (nv 6) (nv 7) (nv 8) (fv 3) (qv 2) (qv 3) (fv 5) (fv 6) (fv 7) (fv 8) ∧ MS (nv 6) (nv 7) (qv 2) (qv 3) (fv 5) (fv 6) (fv 9) (fv 10) (fv 11) ∧ HR (nw 0) (nv 7) (nv 8) (qv 2) (nv 12) (fv 21) (fv 22) (nw 9) (qw 6) (fw 6) := em
  have er := congrArg Prod.fst e
  rw [← e1, ← e2] at g
  rcases (show nw 0 = 0 ∨ nw 0 = 1 by omega) with w0 | w0
  · rw [w0] at g em
    rcases au_x0 hne tp e g with ⟨hr1, ⟨k1, -, -, -⟩, ⟨-, -, k2⟩, hb, hF, c12, c13, c14, c15⟩ | ⟨hr1, ⟨k1, -, -, -⟩, ⟨-, -, k2⟩, hb, hM, hS, hW, hMS⟩
    · rcases hx with ⟨n1, -⟩ | ⟨-, rfl⟩
      · exact absurd (er.symm.trans hr1) n1
      · obtain ⟨m1, m2, m3, m4, m5⟩ := em
        show MB y20 (nv 6) (nv 7) (nv 8) (iv 4) (fv 3) (qv 0) (qv 1) (fv 4) (qv 2) (qv 3) (fv 5) (fv 6) y4 y5 y6 y7 y8 y9 y10 y1 y2 (bkN y20 y11 y12) (bkN y20 y13 y14) (bkN y20 y15 y16) (bkN y20 y17 y18) ∧ STQ (nv 7) (iv 4) (bkN y20 y17 y18) ∧ WFm (nv 6) (nv 7) (nv 8) (fv 3) (qv 2) (qv 3) (fv 5) (fv 6) (fv 7) (fv 8) ∧ MS (nv 6) (nv 7) (qv 2) (qv 3) (fv 5) (fv 6) (fv 9) (fv 10) (fv 11) ∧ HR y20 (nv 7) (nv 8) (qv 2) z28 (fv 21) (fv 22) y33 (qw 6) (fw 6)
        rw [hb, c12, c13, c14, c15, k1, k2]
        exact ⟨m1.fr (st1 := 0) (by decide) hF, m2, m3, m4, m5⟩
    · rcases hx with ⟨-, rfl⟩ | ⟨n1, -⟩
      · show MB y20 z24 z25 z26 z27 z0 z1 z2 z3 z4 z5 z6 z7 y4 y5 y6 y7 y8 y9 y10 y1 y2 (bkN y20 y11 y12) (bkN y20 y13 y14) (bkN y20 y15 y16) (bkN y20 y17 y18) ∧ STQ z25 z27 (bkN y20 y17 y18) ∧ WFm z24 z25 z26 z0 z4 z5 z6 z7 z8 z9 ∧ MS z24 z25 z4 z5 z6 z7 z10 z11 z12 ∧ HR y20 z25 z26 z4 z28 (fv 21) (fv 22) y33 (qw 6) (fw 6)
        rw [hb, k1, k2]
        exact ⟨hM, hS, hW, Or.inr ⟨_, _, _, hMS⟩, rfl, Nat.zero_le 20, fun i hi => absurd hi (Nat.not_lt_zero i)⟩
      · exact absurd (er.trans n1) hr1
  · rw [w0] at g em
    rcases au_x1 hne tp e g with ⟨hr1, ⟨k1, -, -, -⟩, ⟨-, -, k2⟩, hb, hF, c12, c13, c14, c15⟩ | ⟨hr1, ⟨k1, -, -, -⟩, ⟨-, -, k2⟩, hb, hM, hS, hW, hMS⟩
    · rcases hx with ⟨n1, -⟩ | ⟨-, rfl⟩
      · exact absurd (er.symm.trans hr1) n1
      · obtain ⟨m1, m2, m3, m4, m5⟩ := em
        show MB y20 (nv 6) (nv 7) (nv 8) (iv 4) (fv 3) (qv 0) (qv 1) (fv 4) (qv 2) (qv 3) (fv 5) (fv 6) y4 y5 y6 y7 y8 y9 y10 y1 y2 (bkN y20 y11 y12) (bkN y20 y13 y14) (bkN y20 y15 y16) (bkN y20 y17 y18) ∧ STQ (nv 7) (iv 4) (bkN y20 y17 y18) ∧ WFm (nv 6) (nv 7) (nv 8) (fv 3) (qv 2) (qv 3) (fv 5) (fv 6) (fv 7) (fv 8) ∧ MS (nv 6) (nv 7) (qv 2) (qv 3) (fv 5) (fv 6) (fv 9) (fv 10) (fv 11) ∧ HR y20 (nv 7) (nv 8) (qv 2) z28 (fv 21) (fv 22) y33 (qw 6) (fw 6)
        rw [hb, c12, c13, c14, c15, k1, k2]
        exact ⟨m1.fr (st1 := 0) (by decide) hF, m2, m3, m4, m5⟩
    · rcases hx with ⟨-, rfl⟩ | ⟨n1, -⟩
      · show MB y20 z24 z25 z26 z27 z0 z1 z2 z3 z4 z5 z6 z7 y4 y5 y6 y7 y8 y9 y10 y1 y2 (bkN y20 y11 y12) (bkN y20 y13 y14) (bkN y20 y15 y16) (bkN y20 y17 y18) ∧ STQ z25 z27 (bkN y20 y17 y18) ∧ WFm z24 z25 z26 z0 z4 z5 z6 z7 z8 z9 ∧ MS z24 z25 z4 z5 z6 z7 z10 z11 z12 ∧ HR y20 z25 z26 z4 z28 (fv 21) (fv 22) y33 (qw 6) (fw 6)
        rw [hb, k1, k2]
        exact ⟨hM, hS, hW, Or.inr ⟨_, _, _, hMS⟩, rfl, Nat.zero_le 20, fun i hi => absurd hi (Nat.not_lt_zero i)⟩
      · exact absurd (er.trans n1) hr1
theorem sr_automaton {Sx ux : CX} {Sm um : CMx} {r r' : Int32} (h : SR Sx Sm) (fx : xFact Sx) (fm : mFact Sm) (hx : xM_automaton Sx r ux) (hm : mM_automaton Sm r' um) : SR ux um := by
  have e := (au_both h fx fm hx hm).2
  have es := srm_automaton h fx fm hx hm
  obtain ⟨-, a1, a2⟩ := x_au hx
  obtain ⟨-, b1, b2⟩ := m_au fm hm
  obtain ⟨e1, e2, hne, -⟩ := h
  exact ⟨a1.trans b1.symm, a2.trans (e2.trans b2.symm), fun i => by rw [a2]; exact hne i, congrArg Prod.fst e, congrArg Prod.snd e, es⟩
theorem eq_automaton {Sx ux : CX} {Sm um : CMx} {r r' : Int32} (h : SR Sx Sm) (fx : xFact Sx) (fm : mFact Sm) (hx : xM_automaton Sx r ux) (hm : mM_automaton Sm r' um) : r = r' := (au_both h fx fm hx hm).1
theorem eq_fault {Sx ux : CX} {Sm um : CMx} {p0 r r' : Int32} (h : SR Sx Sm) (_ : xFact Sx) (_ : mFact Sm) (hx : xM_fault Sx p0 r ux) (hm : mM_fault Sm p0 r' um) : r = r' := by
  obtain ⟨nv, iv, vv, fv, qv, fcv, qs, fz, ps, gz⟩ := Sx
  obtain ⟨nw, iw, fw, qw⟩ := Sm
  obtain ⟨e, rfl⟩ := hx
  obtain ⟨y0, g, rfl⟩ := hm
  have e3 : iv 0 = iw 3 := h.2.2.2.1
  have e4 : iv 1 = iw 4 := h.2.2.2.2.1
  have g1 : r' = (sp_EM_fault (iw 3) (iw 4) p0).1 := congrArg Prod.fst g
  rw [e, g1, fault_same, e3, e4]
theorem eq_edge {Sx ux : CX} {Sm um : CMx} {p0 p1 r r' : Int32} (h : SR Sx Sm) (fx : xFact Sx) (fm : mFact Sm) (hx : xM_edge Sx p0 p1 r ux) (hm : mM_edge Sm p0 p1 r' um) : r = r' := by
  have f1 := m_bk fm
  have tp := x_tp fx
  obtain ⟨nv, iv, vv, fv, qv, fcv, qs, fz, ps, gz⟩ := Sx
  obtain ⟨nw, iw, fw, qw⟩ := Sm
  obtain ⟨e, rfl⟩ := hx
  obtain ⟨y0, g, rfl⟩ := hm
  obtain ⟨e1, e2, hne, e3, e4, em⟩ := h
  have f1 : nw 0 ≤ 1 := f1
  have tp : nv 0 ≤ 900 := tp
  have e1 : nv 0 = nw 1 := e1
  have e2 : fv 0 = fw 5 := e2
  have hne : ∀ i, fv 0 i ≠ -1 := hne
  have em : MB (nw 0) (nv 6) (nv 7) (nv 8) (iv 4) (fv 3) (qv 0) (qv 1) (fv 4) (qv 2) (qv 3) (fv 5) (fv 6) (fw 2) (qw 0) (qw 1) (qw 2) (qw 3) (fw 3) (qw 4) (qw 5) (fw 4) (bkN (nw 0) (nw 17) (nw 18)) (bkN (nw 0) (nw 19) (nw 20)) (bkN (nw 0) (nw 21) (nw 22)) (bkN (nw 0) (nw 23) (nw 24)) ∧ STQ (nv 7) (iv 4) (bkN (nw 0) (nw 23) (nw 24)) ∧ WFm (nv 6) (nv 7) (nv 8) (fv 3) (qv 2) (qv 3) (fv 5) (fv 6) (fv 7) (fv 8) ∧ MS (nv 6) (nv 7) (qv 2) (qv 3) (fv 5) (fv 6) (fv 9) (fv 10) (fv 11) ∧ HR (nw 0) (nv 7) (nv 8) (qv 2) (nv 12) (fv 21) (fv 22) (nw 9) (qw 6) (fw 6) := em
  obtain ⟨m1, m2, m3, m4, m5⟩ := em
  have g1 : r' = (sp_EM_edge (nw 0) (qw 1) (qw 2) (qw 3) (fw 3) (nw 19) (nw 20) (nw 21) (nw 22) p0 p1).1 := congrArg Prod.fst g
  rw [e, g1]
  exact (edge_same (m1.eb (st1 := 0)) p0 p1).symm
theorem eq_place {Sx ux : CX} {Sm um : CMx} {p0 p1 r r' : Int32} (h : SR Sx Sm) (fx : xFact Sx) (fm : mFact Sm) (hx : xM_place Sx p0 p1 r ux) (hm : mM_place Sm p0 p1 r' um) : r = r' := by
  have f1 := m_bk fm
  have tp := x_tp fx
  obtain ⟨nv, iv, vv, fv, qv, fcv, qs, fz, ps, gz⟩ := Sx
  obtain ⟨nw, iw, fw, qw⟩ := Sm
  obtain ⟨e, rfl⟩ := hx
  obtain ⟨y0, g, rfl⟩ := hm
  obtain ⟨e1, e2, hne, e3, e4, em⟩ := h
  have f1 : nw 0 ≤ 1 := f1
  have tp : nv 0 ≤ 900 := tp
  have e1 : nv 0 = nw 1 := e1
  have e2 : fv 0 = fw 5 := e2
  have hne : ∀ i, fv 0 i ≠ -1 := hne
  have em : MB (nw 0) (nv 6) (nv 7) (nv 8) (iv 4) (fv 3) (qv 0) (qv 1) (fv 4) (qv 2) (qv 3) (fv 5) (fv 6) (fw 2) (qw 0) (qw 1) (qw 2) (qw 3) (fw 3) (qw 4) (qw 5) (fw 4) (bkN (nw 0) (nw 17) (nw 18)) (bkN (nw 0) (nw 19) (nw 20)) (bkN (nw 0) (nw 21) (nw 22)) (bkN (nw 0) (nw 23) (nw 24)) ∧ STQ (nv 7) (iv 4) (bkN (nw 0) (nw 23) (nw 24)) ∧ WFm (nv 6) (nv 7) (nv 8) (fv 3) (qv 2) (qv 3) (fv 5) (fv 6) (fv 7) (fv 8) ∧ MS (nv 6) (nv 7) (qv 2) (qv 3) (fv 5) (fv 6) (fv 9) (fv 10) (fv 11) ∧ HR (nw 0) (nv 7) (nv 8) (qv 2) (nv 12) (fv 21) (fv 22) (nw 9) (qw 6) (fw 6) := em
  obtain ⟨m1, m2, m3, m4, m5⟩ := em
  have g1 : r' = (sp_EM_place (nw 0) (fw 2) (qw 0) (qw 1) (qw 2) (nw 19) (nw 20) (nw 21) (nw 22) p0 p1).1 := congrArg Prod.fst g
  rw [e, g1]
  exact (place_same m1 m3.2.1 p0 p1).symm
/-- how of a place's condition -/
theorem how_1 {b nc np ne : Nat} {st0 : Int32} {f4 : Nat → Int32} {q5 q6 : Nat → Nat} {f7 : Nat → Int32} {q8 q9 : Nat → Nat} {f10 f11 f12 f13 : Nat → Int32} {f3 : Nat → Int32} {r4 r5 r6 r7 : Nat → Nat} {f8 : Nat → Int32} {r9 r10 : Nat → Nat} {r11 : Nat → Int32} {c1 c2 c3 c4 : Nat} (h : MB b nc np ne st0 f4 q5 q6 f7 q8 q9 f10 f11 f3 r4 r5 r6 r7 f8 r9 r10 r11 c1 c2 c3 c4) (w : WFm nc np ne f4 q8 q9 f10 f11 f12 f13) : ∀ i, i < np → ∀ j, j < q8 (14 + i) → r10 (80 * b + 56 + 3 * i + j) ≤ 1 := by
  intro i hi j hj
  obtain ⟨h1, -, -, -, -, h8, -, -⟩ := h
  have n8 : np ≤ 8 := h1.2.2.2.1
  obtain ⟨-, -, d3⟩ := h8 i hi
  obtain ⟨-, -, g10, g4, -⟩ := d3 j hj
  obtain ⟨⟨hw, n0, hm, -, e10, -⟩, -⟩ := (w.1 (14 + i) (by omega)).2 j hj
  have hm1 : hw ≤ 1 := by
    have : mH (14 + i) = 1 := by unfold mH; rw [if_neg (by omega)]
    omega
  have e : (nI hw : Int32) = nI (r10 (80 * b + 56 + 3 * i + j)) := e10.symm.trans g10
  have := (nI_eq (a := hw) (b := r10 (80 * b + 56 + 3 * i + j)) (by omega) (by omega)).mp e
  omega
theorem eq_condition {Sx ux : CX} {Sm um : CMx} {p0 p1 p2 r r' : Int32} (h : SR Sx Sm) (fx : xFact Sx) (fm : mFact Sm) (hx : xM_condition Sx p0 p1 p2 r ux) (hm : mM_condition Sm p0 p1 p2 r' um) : r = r' := by
  have f1 := m_bk fm
  have tp := x_tp fx
  obtain ⟨nv, iv, vv, fv, qv, fcv, qs, fz, ps, gz⟩ := Sx
  obtain ⟨nw, iw, fw, qw⟩ := Sm
  obtain ⟨e, rfl⟩ := hx
  obtain ⟨y0, g, rfl⟩ := hm
  obtain ⟨e1, e2, hne, e3, e4, em⟩ := h
  have f1 : nw 0 ≤ 1 := f1
  have tp : nv 0 ≤ 900 := tp
  have e1 : nv 0 = nw 1 := e1
  have e2 : fv 0 = fw 5 := e2
  have hne : ∀ i, fv 0 i ≠ -1 := hne
  have em : MB (nw 0) (nv 6) (nv 7) (nv 8) (iv 4) (fv 3) (qv 0) (qv 1) (fv 4) (qv 2) (qv 3) (fv 5) (fv 6) (fw 2) (qw 0) (qw 1) (qw 2) (qw 3) (fw 3) (qw 4) (qw 5) (fw 4) (bkN (nw 0) (nw 17) (nw 18)) (bkN (nw 0) (nw 19) (nw 20)) (bkN (nw 0) (nw 21) (nw 22)) (bkN (nw 0) (nw 23) (nw 24)) ∧ STQ (nv 7) (iv 4) (bkN (nw 0) (nw 23) (nw 24)) ∧ WFm (nv 6) (nv 7) (nv 8) (fv 3) (qv 2) (qv 3) (fv 5) (fv 6) (fv 7) (fv 8) ∧ MS (nv 6) (nv 7) (qv 2) (qv 3) (fv 5) (fv 6) (fv 9) (fv 10) (fv 11) ∧ HR (nw 0) (nv 7) (nv 8) (qv 2) (nv 12) (fv 21) (fv 22) (nw 9) (qw 6) (fw 6) := em
  obtain ⟨m1, m2, m3, m4, m5⟩ := em
  have g1 : r' = (sp_EM_condition (nw 0) (qw 0) (qw 3) (qw 4) (qw 5) (fw 4) (nw 19) (nw 20) (nw 21) (nw 22) p0 p1 p2).1 := congrArg Prod.fst g
  rw [e, g1]
  exact (condition_same m1 (how_1 m1 m3) f1 p0 p1 p2).symm
theorem slot_0 {b nc ne : Nat} {st0 : Int32} {f4 : Nat → Int32} {q5 q6 : Nat → Nat} {f7 : Nat → Int32} {q8 q9 : Nat → Nat} {f10 f11 : Nat → Int32} {f3 : Nat → Int32} {r4 r5 r6 r7 : Nat → Nat} {f8 : Nat → Int32} {r9 r10 : Nat → Nat} {r11 : Nat → Int32} {m12_0 m12_1 m13_0 m13_1 m14_0 m14_1 m15_0 m15_1 : Nat} (h : MB b nc 0 ne st0 f4 q5 q6 f7 q8 q9 f10 f11 f3 r4 r5 r6 r7 f8 r9 r10 r11 (bkN b m12_0 m12_1) (bkN b m13_0 m13_1) (bkN b m14_0 m14_1) (bkN b m15_0 m15_1)) (p0 p1 : Int32) : sp_E_8_slotOf 0 ne q8 p0 p1 = 0 ∧ sp_EM_isCondition b r4 r7 m13_0 m13_1 m14_0 m14_1 p0 p1 = 0 := by
  rcases slot_same h p0 p1 with s | ⟨k, j, hk, -⟩ | ⟨k, j, hk, -⟩
  · exact s
  · exact absurd (h.2.2.2.2.2.2.2 k hk).2.1 (Nat.not_lt_zero _)
  · exact absurd hk (Nat.not_lt_zero _)
theorem hk_0 {b nc ne : Nat} {st0 : Int32} {f4 : Nat → Int32} {q5 q6 : Nat → Nat} {f7 : Nat → Int32} {q8 q9 : Nat → Nat} {f10 f11 : Nat → Int32} {f3 : Nat → Int32} {r4 r5 r6 r7 : Nat → Nat} {f8 : Nat → Int32} {r9 r10 : Nat → Nat} {r11 : Nat → Int32} {c1 c2 c3 c4 hk : Nat} {fo fl : Nat → Int32} {x33 : Nat} {q31 : Nat → Nat} {f32 : Nat → Int32} (h : MB b nc 0 ne st0 f4 q5 q6 f7 q8 q9 f10 f11 f3 r4 r5 r6 r7 f8 r9 r10 r11 c1 c2 c3 c4) (hh : HR b 0 ne q8 hk fo fl x33 q31 f32) : hk = 0 := by
  rcases Nat.eq_zero_or_pos hk with z | z
  · exact z
  · obtain ⟨-, hc⟩ := hh.2.2 (hk - 1) (by omega)
    rcases hc with ⟨p, hp, -⟩ | ⟨k, j, n, hk2, -⟩ | ⟨k, j, n, hk2, -⟩
    · exact absurd hp (Nat.not_lt_zero _)
    · exact absurd (h.2.2.2.2.2.2.2 k hk2).2.1 (Nat.not_lt_zero _)
    · exact absurd hk2 (Nat.not_lt_zero _)
theorem srm_number {Sx ux : CX} {Sm um : CMx} {p0 p1 p2 r r' : Int32} (h : SR Sx Sm) (fx : xFact Sx) (fm : mFact Sm) (hx : xM_number Sx p0 p1 p2 r ux) (hm : mM_number Sm p0 p1 p2 r' um) : r = r' ∧ SRm (kX ux) (kM um) ∧ (kX ux).1 = (kX Sx).1 ∧ (kX ux).2.1 = (kX Sx).2.1 ∧ (kX ux).2.2.1 = (kX Sx).2.2.1 ∧ (kX ux).2.2.2.1 = (kX Sx).2.2.2.1 ∧ (kM um).1 = (kM Sm).1 ∧ (kM um).2.1 = (kM Sm).2.1 ∧ (kM um).2.2.1 = (kM Sm).2.2.1 ∧ (kM um).2.2.2.1 = (kM Sm).2.2.2.1 := by
  have f1 := m_bk fm
  have tp := x_tp fx
  obtain ⟨nv, iv, vv, fv, qv, fcv, qs, fz, ps, gz⟩ := Sx
  obtain ⟨nw, iw, fw, qw⟩ := Sm
  obtain ⟨w11, w31, w32, w0, w29, w30, w33, g, rfl⟩ := hm
  obtain ⟨e1, e2, hne, e3, e4, em⟩ := h
  have f1 : nw 0 ≤ 1 := f1
  have tp : nv 0 ≤ 900 := tp
  have e1 : nv 0 = nw 1 := e1
  have e2 : fv 0 = fw 5 := e2
  have hne : ∀ i, fv 0 i ≠ -1 := hne
  have em : MB (nw 0) (nv 6) (nv 7) (nv 8) (iv 4) (fv 3) (qv 0) (qv 1) (fv 4) (qv 2) (qv 3) (fv 5) (fv 6) (fw 2) (qw 0) (qw 1) (qw 2) (qw 3) (fw 3) (qw 4) (qw 5) (fw 4) (bkN (nw 0) (nw 17) (nw 18)) (bkN (nw 0) (nw 19) (nw 20)) (bkN (nw 0) (nw 21) (nw 22)) (bkN (nw 0) (nw 23) (nw 24)) ∧ STQ (nv 7) (iv 4) (bkN (nw 0) (nw 23) (nw 24)) ∧ WFm (nv 6) (nv 7) (nv 8) (fv 3) (qv 2) (qv 3) (fv 5) (fv 6) (fv 7) (fv 8) ∧ MS (nv 6) (nv 7) (qv 2) (qv 3) (fv 5) (fv 6) (fv 9) (fv 10) (fv 11) ∧ HR (nw 0) (nv 7) (nv 8) (qv 2) (nv 12) (fv 21) (fv 22) (nw 9) (qw 6) (fw 6) := em
  obtain ⟨m1, m2, m3, m4, m5⟩ := em
  rcases hx with ⟨⟨n0, n1, n2⟩, z12, z13, z14, z15, z16, zo, zl, z11, zk, zon, e, rfl⟩ | ⟨sn, hsn, est, z12, z13, z14, z15, z16, zo, zl, z11, zss, zhs, zk, zon, e, rfl⟩
  · have n0 : nv 7 = 0 := n0
    rw [n0] at m1 m2 m3 m4 m5
    obtain ⟨s1, s2⟩ := slot_0 m1 p0 p1
    simp only [sp_E_8_number_0, slet, s1, reduceIte, Prod.mk.injEq] at e
    simp only [sp_EM_number, slet, s2, if_neg (show ¬ (0 : Nat) = 1 by decide), Prod.mk.injEq] at g
    obtain ⟨e0, rfl, rfl, rfl, rfl, rfl, rfl, rfl, rfl, rfl, rfl⟩ := e
    obtain ⟨g0, rfl, rfl, rfl, rfl, rfl, rfl, rfl⟩ := g
    exact ⟨e0.trans g0.symm, ⟨m1, m2, m3, m4, m5⟩, rfl, rfl, rfl, rfl, rfl, rfl, rfl, rfl⟩
  · have est : iv 4 = nI sn := est
    obtain ⟨r9, a12, a13, a14, a15, a16, ao, al, a11, ass, ahs, ak, aon, b11, b31, b32, b29, b30, b33, hE, hM, hMB, hW, hMS, hHR, -⟩ := number_same (f14 := fv 9) (f15 := fv 10) (f16 := fv 11) m1 m3 f1 m5 (nv 1) (nv 2) (nv 33) (nw 7) (nw 8) p0 p1 p2
    rw [hE] at e
    rw [hM] at g
    simp only [Prod.mk.injEq] at e g
    obtain ⟨e0, rfl, rfl, rfl, rfl, rfl, rfl, rfl, rfl, rfl, rfl, rfl, rfl⟩ := e
    obtain ⟨g0, rfl, rfl, rfl, rfl, rfl, rfl, rfl⟩ := g
    refine ⟨e0.trans g0.symm, ?_, rfl, rfl, rfl, rfl, rfl, rfl, rfl, rfl⟩
    show MB (nw 0) (nv 6) (nv 7) (nv 8) (nI sn) (fv 3) (qv 0) (qv 1) (fv 4) (qv 2) (qv 3) (fv 5) z11 (fw 2) (qw 0) (qw 1) (qw 2) (qw 3) (fw 3) (qw 4) (qw 5) w11 (bkN (nw 0) (nw 17) (nw 18)) (bkN (nw 0) (nw 19) (nw 20)) (bkN (nw 0) (nw 21) (nw 22)) (bkN (nw 0) (nw 23) (nw 24)) ∧ STQ (nv 7) (nI sn) (bkN (nw 0) (nw 23) (nw 24)) ∧ WFm (nv 6) (nv 7) (nv 8) (fv 3) (qv 2) (qv 3) (fv 5) z11 z12 z13 ∧ MS (nv 6) (nv 7) (qv 2) (qv 3) (fv 5) z11 z14 z15 z16 ∧ HR (nw 0) (nv 7) (nv 8) (qv 2) zk zo zl w33 w31 w32
    rw [← est]
    exact ⟨hMB, m2, hW, hMS m4, hHR⟩
theorem sr_number {Sx ux : CX} {Sm um : CMx} {p0 p1 p2 r r' : Int32} (h : SR Sx Sm) (fx : xFact Sx) (fm : mFact Sm) (hx : xM_number Sx p0 p1 p2 r ux) (hm : mM_number Sm p0 p1 p2 r' um) : SR ux um := by
  obtain ⟨-, hs, a1_, a2_, a3_, a4_, b1_, b2_, b3_, b4_⟩ := srm_number h fx fm hx hm
  obtain ⟨e1, e2, hne, e3, e4, -⟩ := h
  exact ⟨a1_.trans (e1.trans b1_.symm), a2_.trans (e2.trans b2_.symm), fun i => by rw [a2_]; exact hne i, a3_.trans (e3.trans b3_.symm), a4_.trans (e4.trans b4_.symm), hs⟩
theorem eq_number {Sx ux : CX} {Sm um : CMx} {p0 p1 p2 r r' : Int32} (h : SR Sx Sm) (fx : xFact Sx) (fm : mFact Sm) (hx : xM_number Sx p0 p1 p2 r ux) (hm : mM_number Sm p0 p1 p2 r' um) : r = r' := (srm_number h fx fm hx hm).1
theorem srm_urgent {Sx ux : CX} {Sm um : CMx} {p0 r r' : Int32} {a1 : Nat} (h : SR Sx Sm) (fx : xFact Sx) (fm : mFact Sm) (ha : a1 ≤ 1) (hx : xM_urgent Sx p0 a1 r ux) (hm : mM_urgent Sm p0 a1 r' um) : r = r' ∧ SRm (kX ux) (kM um) ∧ (kX ux).1 = (kX Sx).1 ∧ (kX ux).2.1 = (kX Sx).2.1 ∧ (kX ux).2.2.1 = (kX Sx).2.2.1 ∧ (kX ux).2.2.2.1 = (kX Sx).2.2.2.1 ∧ (kM um).1 = (kM Sm).1 ∧ (kM um).2.1 = (kM Sm).2.1 ∧ (kM um).2.2.1 = (kM Sm).2.2.1 ∧ (kM um).2.2.2.1 = (kM Sm).2.2.2.1 := by
  have f1 := m_bk fm
  have tp := x_tp fx
  obtain ⟨nv, iv, vv, fv, qv, fcv, qs, fz, ps, gz⟩ := Sx
  obtain ⟨nw, iw, fw, qw⟩ := Sm
  obtain ⟨w3, w31, w32, w0, w29, w30, w33, ⟨v9, hv9, rv9, g⟩, rfl⟩ := hm
  obtain ⟨e1, e2, hne, e3, e4, em⟩ := h
  have f1 : nw 0 ≤ 1 := f1
  have tp : nv 0 ≤ 900 := tp
  have e1 : nv 0 = nw 1 := e1
  have e2 : fv 0 = fw 5 := e2
  have hne : ∀ i, fv 0 i ≠ -1 := hne
  have em : MB (nw 0) (nv 6) (nv 7) (nv 8) (iv 4) (fv 3) (qv 0) (qv 1) (fv 4) (qv 2) (qv 3) (fv 5) (fv 6) (fw 2) (qw 0) (qw 1) (qw 2) (qw 3) (fw 3) (qw 4) (qw 5) (fw 4) (bkN (nw 0) (nw 17) (nw 18)) (bkN (nw 0) (nw 19) (nw 20)) (bkN (nw 0) (nw 21) (nw 22)) (bkN (nw 0) (nw 23) (nw 24)) ∧ STQ (nv 7) (iv 4) (bkN (nw 0) (nw 23) (nw 24)) ∧ WFm (nv 6) (nv 7) (nv 8) (fv 3) (qv 2) (qv 3) (fv 5) (fv 6) (fv 7) (fv 8) ∧ MS (nv 6) (nv 7) (qv 2) (qv 3) (fv 5) (fv 6) (fv 9) (fv 10) (fv 11) ∧ HR (nw 0) (nv 7) (nv 8) (qv 2) (nv 12) (fv 21) (fv 22) (nw 9) (qw 6) (fw 6) := em
  obtain ⟨m1, m2, m3, m4, m5⟩ := em
  rcases hx with ⟨⟨n0, n1, n2⟩, ⟨v, hv, rv, e⟩, rfl⟩ | ⟨sn, hsn, est, zo, zl, z4, zss, zhs, zk, zon, ⟨v, hv, rv, e⟩, rfl⟩
  · have n0 : nv 7 = 0 := n0
    rw [n0] at m1 m2 m3 m4 m5
    have np0 : bkN (nw 0) (nw 19) (nw 20) = 0 := m1.1.2.2.1
    have hp : ¬ ((0 : Int32) ≤ p0 ∧ p0 < nI (bkN (nw 0) (nw 19) (nw 20))) := by
      rw [np0]
      exact fun z => absurd (Int32.lt_of_le_of_lt z.1 z.2) (by decide)
    simp only [sp_EM_urgent, slet, if_neg hp, Prod.mk.injEq] at g
    obtain ⟨rfl, rfl, rfl, rfl, rfl, rfl, rfl, rfl⟩ := g
    have e : v = 0 := e
    exact ⟨by rw [rv, rv9, e], ⟨m1, m2, m3, m4, m5⟩, rfl, rfl, rfl, rfl, rfl, rfl, rfl, rfl⟩
  · have est : iv 4 = nI sn := est
    obtain ⟨r9, ao, al, a4, ass, ahs, ak, aon, b3, b31, b32, b29, b30, b33, hE, hM, hMB, hW, hHR, -⟩ := urgent_same m1 m3 m5 (nv 1) (nv 2) (nv 33) (nw 7) (nw 8) p0 ha
    rw [hE] at e
    rw [hM] at g
    simp only [Prod.mk.injEq] at e g
    obtain ⟨e0, rfl, rfl, rfl, rfl, rfl, rfl, rfl⟩ := e
    obtain ⟨g0, rfl, rfl, rfl, rfl, rfl, rfl, rfl⟩ := g
    refine ⟨by rw [rv, rv9, e0, g0], ?_, rfl, rfl, rfl, rfl, rfl, rfl, rfl, rfl⟩
    show MB (nw 0) (nv 6) (nv 7) (nv 8) (nI sn) z4 (qv 0) (qv 1) (fv 4) (qv 2) (qv 3) (fv 5) (fv 6) w3 (qw 0) (qw 1) (qw 2) (qw 3) (fw 3) (qw 4) (qw 5) (fw 4) (bkN (nw 0) (nw 17) (nw 18)) (bkN (nw 0) (nw 19) (nw 20)) (bkN (nw 0) (nw 21) (nw 22)) (bkN (nw 0) (nw 23) (nw 24)) ∧ STQ (nv 7) (nI sn) (bkN (nw 0) (nw 23) (nw 24)) ∧ WFm (nv 6) (nv 7) (nv 8) z4 (qv 2) (qv 3) (fv 5) (fv 6) (fv 7) (fv 8) ∧ MS (nv 6) (nv 7) (qv 2) (qv 3) (fv 5) (fv 6) (fv 9) (fv 10) (fv 11) ∧ HR (nw 0) (nv 7) (nv 8) (qv 2) zk zo zl w33 w31 w32
    rw [← est]
    exact ⟨hMB, m2, hW, m4, hHR⟩
theorem sr_urgent {Sx ux : CX} {Sm um : CMx} {p0 r r' : Int32} {a1 : Nat} (h : SR Sx Sm) (fx : xFact Sx) (fm : mFact Sm) (hx : xM_urgent Sx p0 a1 r ux) (hm : mM_urgent Sm p0 a1 r' um) (ha : a1 ≤ 1 := by decide) : SR ux um := by
  obtain ⟨-, hs, a1_, a2_, a3_, a4_, b1_, b2_, b3_, b4_⟩ := srm_urgent h fx fm ha hx hm
  obtain ⟨e1, e2, hne, e3, e4, -⟩ := h
  exact ⟨a1_.trans (e1.trans b1_.symm), a2_.trans (e2.trans b2_.symm), fun i => by rw [a2_]; exact hne i, a3_.trans (e3.trans b3_.symm), a4_.trans (e4.trans b4_.symm), hs⟩
theorem eq_urgent {Sx ux : CX} {Sm um : CMx} {p0 r r' : Int32} {a1 : Nat} (h : SR Sx Sm) (fx : xFact Sx) (fm : mFact Sm) (hx : xM_urgent Sx p0 a1 r ux) (hm : mM_urgent Sm p0 a1 r' um) (ha : a1 ≤ 1 := by decide) : r = r' := (srm_urgent h fx fm ha hx hm).1
theorem srm_undo {Sx ux : CX} {Sm um : CMx} {r r' : Int32} (h : SR Sx Sm) (fx : xFact Sx) (fm : mFact Sm) (hx : xM_undo Sx r ux) (hm : mM_undo Sm r' um) : r = r' ∧ SRm (kX ux) (kM um) ∧ (kX ux).1 = (kX Sx).1 ∧ (kX ux).2.1 = (kX Sx).2.1 ∧ (kX ux).2.2.1 = (kX Sx).2.2.1 ∧ (kX ux).2.2.2.1 = (kX Sx).2.2.2.1 ∧ (kM um).1 = (kM Sm).1 ∧ (kM um).2.1 = (kM Sm).2.1 ∧ (kM um).2.2.1 = (kM Sm).2.2.1 ∧ (kM um).2.2.2.1 = (kM Sm).2.2.2.1 := by
  have f1 := m_bk fm
  have tp := x_tp fx
  obtain ⟨nv, iv, vv, fv, qv, fcv, qs, fz, ps, gz⟩ := Sx
  obtain ⟨nw, iw, fw, qw⟩ := Sm
  obtain ⟨w11, w3, w0, w29, w30, w33, ⟨v9, hv9, rv9, g⟩, rfl⟩ := hm
  obtain ⟨e1, e2, hne, e3, e4, em⟩ := h
  have f1 : nw 0 ≤ 1 := f1
  have tp : nv 0 ≤ 900 := tp
  have e1 : nv 0 = nw 1 := e1
  have e2 : fv 0 = fw 5 := e2
  have hne : ∀ i, fv 0 i ≠ -1 := hne
  have em : MB (nw 0) (nv 6) (nv 7) (nv 8) (iv 4) (fv 3) (qv 0) (qv 1) (fv 4) (qv 2) (qv 3) (fv 5) (fv 6) (fw 2) (qw 0) (qw 1) (qw 2) (qw 3) (fw 3) (qw 4) (qw 5) (fw 4) (bkN (nw 0) (nw 17) (nw 18)) (bkN (nw 0) (nw 19) (nw 20)) (bkN (nw 0) (nw 21) (nw 22)) (bkN (nw 0) (nw 23) (nw 24)) ∧ STQ (nv 7) (iv 4) (bkN (nw 0) (nw 23) (nw 24)) ∧ WFm (nv 6) (nv 7) (nv 8) (fv 3) (qv 2) (qv 3) (fv 5) (fv 6) (fv 7) (fv 8) ∧ MS (nv 6) (nv 7) (qv 2) (qv 3) (fv 5) (fv 6) (fv 9) (fv 10) (fv 11) ∧ HR (nw 0) (nv 7) (nv 8) (qv 2) (nv 12) (fv 21) (fv 22) (nw 9) (qw 6) (fw 6) := em
  obtain ⟨m1, m2, m3, m4, m5⟩ := em
  rcases hx with ⟨⟨n0, n1, n2⟩, z12, z13, z14, z15, z16, z4, z11, zk, zon, ⟨v, hv, rv, e⟩, rfl⟩ | ⟨sn, hsn, est, z12, z13, z14, z15, z16, z4, z11, zss, zhs, zk, zon, ⟨v, hv, rv, e⟩, rfl⟩
  · have n0 : nv 7 = 0 := n0
    rw [n0] at m1 m2 m3 m4 m5
    have k0 : nv 12 = 0 := hk_0 m1 m5
    have k9 : nw 9 = 0 := m5.1.trans k0
    simp only [sp_E_8_undo_0, sp_E_2_takesBack, slet, if_pos k0, reduceIte, Prod.mk.injEq] at e
    simp only [sp_EM_undo, slet, if_pos k9, Prod.mk.injEq] at g
    obtain ⟨e0, rfl, rfl, rfl, rfl, rfl, rfl, rfl, rfl, rfl⟩ := e
    obtain ⟨g0, rfl, rfl, rfl, rfl, rfl, rfl⟩ := g
    exact ⟨by rw [rv, rv9, e0, g0], ⟨m1, m2, m3, m4, m5⟩, rfl, rfl, rfl, rfl, rfl, rfl, rfl, rfl⟩
  · have est : iv 4 = nI sn := est
    obtain ⟨r9, a12, a13, a14, a15, a16, a4, a11, ass, ahs, ak, aon, b11, b3, b29, b30, b33, hE, hM, hMB, hW, hMS, hHR, -⟩ := undo_same (f14 := fv 9) (f15 := fv 10) (f16 := fv 11) m1 m3 f1 m5 (nv 1) (nv 2) (nv 33) (nw 7) (nw 8)
    rw [hE] at e
    rw [hM] at g
    simp only [Prod.mk.injEq] at e g
    obtain ⟨e0, rfl, rfl, rfl, rfl, rfl, rfl, rfl, rfl, rfl, rfl, rfl⟩ := e
    obtain ⟨g0, rfl, rfl, rfl, rfl, rfl, rfl⟩ := g
    refine ⟨by rw [rv, rv9, e0, g0], ?_, rfl, rfl, rfl, rfl, rfl, rfl, rfl, rfl⟩
    show MB (nw 0) (nv 6) (nv 7) (nv 8) (nI sn) z4 (qv 0) (qv 1) (fv 4) (qv 2) (qv 3) (fv 5) z11 w3 (qw 0) (qw 1) (qw 2) (qw 3) (fw 3) (qw 4) (qw 5) w11 (bkN (nw 0) (nw 17) (nw 18)) (bkN (nw 0) (nw 19) (nw 20)) (bkN (nw 0) (nw 21) (nw 22)) (bkN (nw 0) (nw 23) (nw 24)) ∧ STQ (nv 7) (nI sn) (bkN (nw 0) (nw 23) (nw 24)) ∧ WFm (nv 6) (nv 7) (nv 8) z4 (qv 2) (qv 3) (fv 5) z11 z12 z13 ∧ MS (nv 6) (nv 7) (qv 2) (qv 3) (fv 5) z11 z14 z15 z16 ∧ HR (nw 0) (nv 7) (nv 8) (qv 2) zk (fv 21) (fv 22) w33 (qw 6) (fw 6)
    rw [← est]
    exact ⟨hMB, m2, hW, hMS m4, hHR⟩
theorem sr_undo {Sx ux : CX} {Sm um : CMx} {r r' : Int32} (h : SR Sx Sm) (fx : xFact Sx) (fm : mFact Sm) (hx : xM_undo Sx  r ux) (hm : mM_undo Sm  r' um) : SR ux um := by
  obtain ⟨-, hs, a1_, a2_, a3_, a4_, b1_, b2_, b3_, b4_⟩ := srm_undo h fx fm hx hm
  obtain ⟨e1, e2, hne, e3, e4, -⟩ := h
  exact ⟨a1_.trans (e1.trans b1_.symm), a2_.trans (e2.trans b2_.symm), fun i => by rw [a2_]; exact hne i, a3_.trans (e3.trans b3_.symm), a4_.trans (e4.trans b4_.symm), hs⟩
theorem eq_undo {Sx ux : CX} {Sm um : CMx} {r r' : Int32} (h : SR Sx Sm) (fx : xFact Sx) (fm : mFact Sm) (hx : xM_undo Sx  r ux) (hm : mM_undo Sm  r' um) : r = r' := (srm_undo h fx fm hx hm).1
theorem srm_lets {Sx ux : CX} {Sm um : CMx} {p0 p1 p2 p3 r r' : Int32} (h : SR Sx Sm) (fx : xFact Sx) (fm : mFact Sm) (hx : xM_lets Sx p0 p1 p2 p3 r ux) (hm : mM_lets Sm p0 p1 p2 p3 r' um) : True ∧ SRm (kX ux) (kM um) ∧ (kX ux).1 = (kX Sx).1 ∧ (kX ux).2.1 = (kX Sx).2.1 ∧ (kX ux).2.2.1 = (kX Sx).2.2.1 ∧ (kX ux).2.2.2.1 = (kX Sx).2.2.2.1 ∧ (kM um).1 = (kM Sm).1 ∧ (kM um).2.1 = (kM Sm).2.1 ∧ (kM um).2.2.1 = (kM Sm).2.2.1 ∧ (kM um).2.2.2.1 = (kM Sm).2.2.2.1 := by
  have f1 := m_bk fm
  have tp := x_tp fx
  obtain ⟨nv, iv, vv, fv, qv, fcv, qs, fz, ps, gz⟩ := Sx
  obtain ⟨nw, iw, fw, qw⟩ := Sm
  obtain ⟨w11, d0, d1, d2, d3, d4, d5, d6, d7, d8, d9, d10, d11, d12, g, rfl⟩ := hm
  obtain ⟨e1, e2, hne, e3, e4, em⟩ := h
  have f1 : nw 0 ≤ 1 := f1
  have tp : nv 0 ≤ 900 := tp
  have e1 : nv 0 = nw 1 := e1
  have e2 : fv 0 = fw 5 := e2
  have hne : ∀ i, fv 0 i ≠ -1 := hne
  have em : MB (nw 0) (nv 6) (nv 7) (nv 8) (iv 4) (fv 3) (qv 0) (qv 1) (fv 4) (qv 2) (qv 3) (fv 5) (fv 6) (fw 2) (qw 0) (qw 1) (qw 2) (qw 3) (fw 3) (qw 4) (qw 5) (fw 4) (bkN (nw 0) (nw 17) (nw 18)) (bkN (nw 0) (nw 19) (nw 20)) (bkN (nw 0) (nw 21) (nw 22)) (bkN (nw 0) (nw 23) (nw 24)) ∧ STQ (nv 7) (iv 4) (bkN (nw 0) (nw 23) (nw 24)) ∧ WFm (nv 6) (nv 7) (nv 8) (fv 3) (qv 2) (qv 3) (fv 5) (fv 6) (fv 7) (fv 8) ∧ MS (nv 6) (nv 7) (qv 2) (qv 3) (fv 5) (fv 6) (fv 9) (fv 10) (fv 11) ∧ HR (nw 0) (nv 7) (nv 8) (qv 2) (nv 12) (fv 21) (fv 22) (nw 9) (qw 6) (fw 6) := em
  obtain ⟨m1, m2, m3, m4, m5⟩ := em
  have g11 := letsM_keep m1 f1 g.symm
  rcases hx with ⟨⟨n0, n1, n2⟩, e, rfl⟩ | ⟨sn, hsn, est, z12, z13, z14, z15, z16, c0, c1, c2, c3, c4, c5, c6, c7, z11, c8, c9, c10, c11, c12, c13, c14, c15, c16, c17, c18, e, rfl⟩
  · have n0 : nv 7 = 0 := n0
    rw [n0] at m1 m2 m3 m4 m5
    subst g11
    exact ⟨trivial, ⟨m1, m2, m3, m4, m5⟩, rfl, rfl, rfl, rfl, rfl, rfl, rfl, rfl⟩
  · have est : iv 4 = nI sn := est
    obtain ⟨rfl, rfl, rfl, hMS⟩ := letsE_keep m1 m3 e.symm
    subst g11
    refine ⟨trivial, ?_, rfl, rfl, rfl, rfl, rfl, rfl, rfl, rfl⟩
    show MB (nw 0) (nv 6) (nv 7) (nv 8) (nI sn) (fv 3) (qv 0) (qv 1) (fv 4) (qv 2) (qv 3) (fv 5) (fv 6) (fw 2) (qw 0) (qw 1) (qw 2) (qw 3) (fw 3) (qw 4) (qw 5) (fw 4) (bkN (nw 0) (nw 17) (nw 18)) (bkN (nw 0) (nw 19) (nw 20)) (bkN (nw 0) (nw 21) (nw 22)) (bkN (nw 0) (nw 23) (nw 24)) ∧ STQ (nv 7) (nI sn) (bkN (nw 0) (nw 23) (nw 24)) ∧ WFm (nv 6) (nv 7) (nv 8) (fv 3) (qv 2) (qv 3) (fv 5) (fv 6) (fv 7) (fv 8) ∧ MS (nv 6) (nv 7) (qv 2) (qv 3) (fv 5) (fv 6) z14 z15 z16 ∧ HR (nw 0) (nv 7) (nv 8) (qv 2) (nv 12) (fv 21) (fv 22) (nw 9) (qw 6) (fw 6)
    rw [← est]
    exact ⟨m1, m2, m3, hMS m4, m5⟩
theorem sr_lets {Sx ux : CX} {Sm um : CMx} {p0 p1 p2 p3 r r' : Int32} (h : SR Sx Sm) (fx : xFact Sx) (fm : mFact Sm) (hx : xM_lets Sx p0 p1 p2 p3 r ux) (hm : mM_lets Sm p0 p1 p2 p3 r' um) : SR ux um := by
  obtain ⟨-, hs, a1_, a2_, a3_, a4_, b1_, b2_, b3_, b4_⟩ := srm_lets h fx fm hx hm
  obtain ⟨e1, e2, hne, e3, e4, -⟩ := h
  exact ⟨a1_.trans (e1.trans b1_.symm), a2_.trans (e2.trans b2_.symm), fun i => by rw [a2_]; exact hne i, a3_.trans (e3.trans b3_.symm), a4_.trans (e4.trans b4_.symm), hs⟩
theorem eq_limit {Sx ux : CX} {Sm um : CMx} {p0 p1 r r' : Int32} (h : SR Sx Sm) (fx : xFact Sx) (fm : mFact Sm) (hx : xM_limit Sx p0 p1 r ux) (hm : mM_limit Sm p0 p1 r' um) : r = r' := by
  have f1 := m_bk fm
  have tp := x_tp fx
  obtain ⟨nv, iv, vv, fv, qv, fcv, qs, fz, ps, gz⟩ := Sx
  obtain ⟨nw, iw, fw, qw⟩ := Sm
  obtain ⟨e, rfl⟩ := hx
  obtain ⟨y0, g, rfl⟩ := hm
  obtain ⟨e1, e2, hne, e3, e4, em⟩ := h
  have f1 : nw 0 ≤ 1 := f1
  have tp : nv 0 ≤ 900 := tp
  have e1 : nv 0 = nw 1 := e1
  have e2 : fv 0 = fw 5 := e2
  have hne : ∀ i, fv 0 i ≠ -1 := hne
  have em : MB (nw 0) (nv 6) (nv 7) (nv 8) (iv 4) (fv 3) (qv 0) (qv 1) (fv 4) (qv 2) (qv 3) (fv 5) (fv 6) (fw 2) (qw 0) (qw 1) (qw 2) (qw 3) (fw 3) (qw 4) (qw 5) (fw 4) (bkN (nw 0) (nw 17) (nw 18)) (bkN (nw 0) (nw 19) (nw 20)) (bkN (nw 0) (nw 21) (nw 22)) (bkN (nw 0) (nw 23) (nw 24)) ∧ STQ (nv 7) (iv 4) (bkN (nw 0) (nw 23) (nw 24)) ∧ WFm (nv 6) (nv 7) (nv 8) (fv 3) (qv 2) (qv 3) (fv 5) (fv 6) (fv 7) (fv 8) ∧ MS (nv 6) (nv 7) (qv 2) (qv 3) (fv 5) (fv 6) (fv 9) (fv 10) (fv 11) ∧ HR (nw 0) (nv 7) (nv 8) (qv 2) (nv 12) (fv 21) (fv 22) (nw 9) (qw 6) (fw 6) := em
  obtain ⟨m1, m2, m3, m4, m5⟩ := em
  have g1 : r' = (sp_EM_limit (nw 0) (qw 0) (qw 3) (qw 4) (qw 5) (fw 4) (nw 17) (nw 18) (nw 19) (nw 20) (nw 21) (nw 22) p0 p1).1 := congrArg Prod.fst g
  rw [e, g1]
  exact (limit_same m1 f1 (how_1 m1 m3) m4 p0 p1).symm
theorem eq_rings {Sx ux : CX} {Sm um : CMx} {r r' : Int32} (h : SR Sx Sm) (fx : xFact Sx) (fm : mFact Sm) (hx : xM_rings Sx r ux) (hm : mM_rings Sm r' um) : r = r' := by
  have f1 := m_bk fm
  have tp := x_tp fx
  obtain ⟨nv, iv, vv, fv, qv, fcv, qs, fz, ps, gz⟩ := Sx
  obtain ⟨nw, iw, fw, qw⟩ := Sm
  obtain ⟨e, rfl⟩ := hx
  obtain ⟨y0, g, rfl⟩ := hm
  obtain ⟨e1, e2, hne, e3, e4, em⟩ := h
  have f1 : nw 0 ≤ 1 := f1
  have tp : nv 0 ≤ 900 := tp
  have e1 : nv 0 = nw 1 := e1
  have e2 : fv 0 = fw 5 := e2
  have hne : ∀ i, fv 0 i ≠ -1 := hne
  have em : MB (nw 0) (nv 6) (nv 7) (nv 8) (iv 4) (fv 3) (qv 0) (qv 1) (fv 4) (qv 2) (qv 3) (fv 5) (fv 6) (fw 2) (qw 0) (qw 1) (qw 2) (qw 3) (fw 3) (qw 4) (qw 5) (fw 4) (bkN (nw 0) (nw 17) (nw 18)) (bkN (nw 0) (nw 19) (nw 20)) (bkN (nw 0) (nw 21) (nw 22)) (bkN (nw 0) (nw 23) (nw 24)) ∧ STQ (nv 7) (iv 4) (bkN (nw 0) (nw 23) (nw 24)) ∧ WFm (nv 6) (nv 7) (nv 8) (fv 3) (qv 2) (qv 3) (fv 5) (fv 6) (fv 7) (fv 8) ∧ MS (nv 6) (nv 7) (qv 2) (qv 3) (fv 5) (fv 6) (fv 9) (fv 10) (fv 11) ∧ HR (nw 0) (nv 7) (nv 8) (qv 2) (nv 12) (fv 21) (fv 22) (nw 9) (qw 6) (fw 6) := em
  obtain ⟨m1, m2, m3, m4, m5⟩ := em
  have g1 : r' = (sp_EM_rings (nw 0) (fw 2) (qw 1) (qw 2) (nw 19) (nw 20) (nw 21) (nw 22)).1 := congrArg Prod.fst g
  rw [e, g1]
  exact (rings_same m1 m3.2.1).symm
theorem eq_begin {Sx ux : CX} {Sm um : CMx} {r r' : Int32} (h : SR Sx Sm) (fx : xFact Sx) (fm : mFact Sm) (hx : xM_begin Sx r ux) (hm : mM_begin Sm r' um) : r = r' := by
  have f1 := m_bk fm
  have tp := x_tp fx
  obtain ⟨nv, iv, vv, fv, qv, fcv, qs, fz, ps, gz⟩ := Sx
  obtain ⟨nw, iw, fw, qw⟩ := Sm
  obtain ⟨w64, w0, w30, w65, w66, g, rfl⟩ := hm
  obtain ⟨e1, e2, hne, e3, e4, em⟩ := h
  have f1 : nw 0 ≤ 1 := f1
  have tp : nv 0 ≤ 900 := tp
  have e1 : nv 0 = nw 1 := e1
  have e2 : fv 0 = fw 5 := e2
  have hne : ∀ i, fv 0 i ≠ -1 := hne
  have em : MB (nw 0) (nv 6) (nv 7) (nv 8) (iv 4) (fv 3) (qv 0) (qv 1) (fv 4) (qv 2) (qv 3) (fv 5) (fv 6) (fw 2) (qw 0) (qw 1) (qw 2) (qw 3) (fw 3) (qw 4) (qw 5) (fw 4) (bkN (nw 0) (nw 17) (nw 18)) (bkN (nw 0) (nw 19) (nw 20)) (bkN (nw 0) (nw 21) (nw 22)) (bkN (nw 0) (nw 23) (nw 24)) ∧ STQ (nv 7) (iv 4) (bkN (nw 0) (nw 23) (nw 24)) ∧ WFm (nv 6) (nv 7) (nv 8) (fv 3) (qv 2) (qv 3) (fv 5) (fv 6) (fv 7) (fv 8) ∧ MS (nv 6) (nv 7) (qv 2) (qv 3) (fv 5) (fv 6) (fv 9) (fv 10) (fv 11) ∧ HR (nw 0) (nv 7) (nv 8) (qv 2) (nv 12) (fv 21) (fv 22) (nw 9) (qw 6) (fw 6) := em
  obtain ⟨m1, m2, m3, m4, m5⟩ := em
  have np8 : nv 7 ≤ 8 := m1.1.2.2.2.1
  have e13 : (if nw 0 = 0 then nw 19 else nw 20) = nv 7 := m1.1.2.2.1
  have no : nv 7 = 0 → r' = -1 := by
    intro n0
    rw [n0] at e13
    simp only [sp_EM_begin, sp_EM_beginsPlay, slet, e13, reduceIte, Prod.mk.injEq] at g
    exact g.1
  rcases hx with ⟨⟨n0, n1, n2⟩, zon, e, rfl⟩ | ⟨sn, hsn, est, zftm, zon, zsi, zti, e, rfl⟩
  · have n0 : nv 7 = 0 := n0
    simp only [sp_E_8_begin_0, slet, Prod.mk.injEq] at e
    exact e.1.trans (no n0).symm
  · have est : iv 4 = nI sn := est
    rcases m2 with ⟨n0, -, -⟩ | ⟨s, hs, es, e15⟩
    · simp only [sp_E_8_begin, sp_E_3_startsIn, slet, if_pos n0, reduceIte, Prod.mk.injEq] at e
      exact e.1.trans (no n0).symm
    · have ss : s = sn := (nI_eq (by omega) (by omega)).mp (es.symm.trans est)
      subst ss
      obtain ⟨r9, g1, g2, u9, hE, hM, -⟩ := begin_same m1 m3 f1 hs e15 (nv 34) (nw 16) (iv 18) (iw 7) (fv 46) (fw 24)
      rw [hE] at e
      rw [hM] at g
      exact (congrArg Prod.fst e).trans (congrArg Prod.fst g).symm
theorem sr_fault {Sx ux : CX} {Sm um : CMx} {p0 : Int32} {r r' : Int32} (h : SR Sx Sm) (_ : xFact Sx) (_ : mFact Sm) (hx : xM_fault Sx p0 r ux) (hm : mM_fault Sm p0 r' um) : SR ux um := sr_of (kx_fault hx) (km_fault hm) h
theorem sr_about {Sx ux : CX} {Sm um : CMx} {p0 : Int32} {r r' : Int32} (h : SR Sx Sm) (_ : xFact Sx) (_ : mFact Sm) (hx : xM_about Sx p0 r ux) (hm : mM_about Sm p0 r' um) : SR ux um := sr_of (kx_about hx) (km_about hm) h
theorem sr_place {Sx ux : CX} {Sm um : CMx} {p0 : Int32} {p1 : Int32} {r r' : Int32} (h : SR Sx Sm) (_ : xFact Sx) (_ : mFact Sm) (hx : xM_place Sx p0 p1 r ux) (hm : mM_place Sm p0 p1 r' um) : SR ux um := sr_of (kx_place hx) (km_place hm) h
theorem sr_edge {Sx ux : CX} {Sm um : CMx} {p0 : Int32} {p1 : Int32} {r r' : Int32} (h : SR Sx Sm) (_ : xFact Sx) (_ : mFact Sm) (hx : xM_edge Sx p0 p1 r ux) (hm : mM_edge Sm p0 p1 r' um) : SR ux um := sr_of (kx_edge hx) (km_edge hm) h
theorem sr_condition {Sx ux : CX} {Sm um : CMx} {p0 : Int32} {p1 : Int32} {p2 : Int32} {r r' : Int32} (h : SR Sx Sm) (_ : xFact Sx) (_ : mFact Sm) (hx : xM_condition Sx p0 p1 p2 r ux) (hm : mM_condition Sm p0 p1 p2 r' um) : SR ux um := sr_of (kx_condition hx) (km_condition hm) h
theorem sr_limit {Sx ux : CX} {Sm um : CMx} {p0 : Int32} {p1 : Int32} {r r' : Int32} (h : SR Sx Sm) (_ : xFact Sx) (_ : mFact Sm) (hx : xM_limit Sx p0 p1 r ux) (hm : mM_limit Sm p0 p1 r' um) : SR ux um := sr_of (kx_limit hx) (km_limit hm) h
theorem sr_rings {Sx ux : CX} {Sm um : CMx} {r r' : Int32} (h : SR Sx Sm) (_ : xFact Sx) (_ : mFact Sm) (hx : xM_rings Sx r ux) (hm : mM_rings Sm r' um) : SR ux um := sr_of (kx_rings hx) (km_rings hm) h
theorem sr_begin {Sx ux : CX} {Sm um : CMx} {r r' : Int32} (h : SR Sx Sm) (_ : xFact Sx) (_ : mFact Sm) (hx : xM_begin Sx r ux) (hm : mM_begin Sm r' um) : SR ux um := sr_of (kx_begin hx) (km_begin hm) h
theorem sr_waits {Sx ux : CX} {Sm um : CMx} {p0 : Int32} {r r' : Int32} (h : SR Sx Sm) (_ : xFact Sx) (_ : mFact Sm) (hx : xM_waits Sx p0 r ux) (hm : mM_waits Sm p0 r' um) : SR ux um := sr_of (kx_waits hx) (km_waits hm) h
theorem sr_takes {Sx ux : CX} {Sm um : CMx} {p0 : Int32} {r r' : Int32} (h : SR Sx Sm) (_ : xFact Sx) (_ : mFact Sm) (hx : xM_takes Sx p0 r ux) (hm : mM_takes Sm p0 r' um) : SR ux um := sr_of (kx_takes hx) (km_takes hm) h
theorem sr_now {Sx ux : CX} {Sm um : CMx} {p0 : Int32} {r r' : Int32} (h : SR Sx Sm) (_ : xFact Sx) (_ : mFact Sm) (hx : xM_now Sx p0 r ux) (hm : mM_now Sm p0 r' um) : SR ux um := sr_of (kx_now hx) (km_now hm) h
theorem sr_graph {Sx ux : CX} {Sm um : CMx} {p0 : Int32} {a1 : Nat} {r r' : Int32} (h : SR Sx Sm) (_ : xFact Sx) (_ : mFact Sm) (hx : xM_graph Sx p0 a1 r ux) (hm : mM_graph Sm p0 a1 r' um) : SR ux um := sr_of (kx_graph hx) (km_graph hm) h
theorem sr_first {Sx ux : CX} {Sm um : CMx} {p0 : Int32} {r r' : Int32} (h : SR Sx Sm) (_ : xFact Sx) (_ : mFact Sm) (hx : xM_first Sx p0 r ux) (hm : mM_first Sm p0 r' um) : SR ux um := sr_of (kx_first hx) (km_first hm) h
theorem sr_reached {Sx ux : CX} {Sm um : CMx} {r r' : Int32} (h : SR Sx Sm) (_ : xFact Sx) (_ : mFact Sm) (hx : xM_reached Sx r ux) (hm : mM_reached Sm r' um) : SR ux um := sr_of (kx_reached hx) (km_reached hm) h
theorem sr_taken {Sx ux : CX} {Sm um : CMx} {r r' : Int32} (h : SR Sx Sm) (_ : xFact Sx) (_ : mFact Sm) (hx : xM_taken Sx r ux) (hm : mM_taken Sm r' um) : SR ux um := sr_of (kx_taken hx) (km_taken hm) h
theorem sr_avoids {Sx ux : CX} {Sm um : CMx} {p0 : Int32} {p1 : Int32} {r r' : Int32} (h : SR Sx Sm) (_ : xFact Sx) (_ : mFact Sm) (hx : xM_avoids Sx p0 p1 r ux) (hm : mM_avoids Sm p0 p1 r' um) : SR ux um := sr_of (kx_avoids hx) (km_avoids hm) h
theorem sr_from {Sx ux : CX} {Sm um : CMx} {p0 : Int32} {p1 : Int32} {p2 : Int32} {p3 : Int32} {p4 : Int32} {r r' : Int32} (h : SR Sx Sm) (_ : xFact Sx) (_ : mFact Sm) (hx : xM_from Sx p0 p1 p2 p3 p4 r ux) (hm : mM_from Sm p0 p1 p2 p3 p4 r' um) : SR ux um := sr_of (kx_from hx) (km_from hm) h
theorem sr_soonest {Sx ux : CX} {Sm um : CMx} {p0 : Int32} {p1 : Int32} {r r' : Int32} (h : SR Sx Sm) (_ : xFact Sx) (_ : mFact Sm) (hx : xM_soonest Sx p0 p1 r ux) (hm : mM_soonest Sm p0 p1 r' um) : SR ux um := sr_of (kx_soonest hx) (km_soonest hm) h
theorem sr_run {Sx ux : CX} {Sm um : CMx} {p0 : Int32} {p1 : Int32} {r r' : Int32} (h : SR Sx Sm) (_ : xFact Sx) (_ : mFact Sm) (hx : xM_run Sx p0 p1 r ux) (hm : mM_run Sm p0 p1 r' um) : SR ux um := sr_of (kx_run hx) (km_run hm) h
theorem sr_when {Sx ux : CX} {Sm um : CMx} {p0 : Int32} {p1 : Int32} {r r' : Int32} (h : SR Sx Sm) (_ : xFact Sx) (_ : mFact Sm) (hx : xM_when Sx p0 p1 r ux) (hm : mM_when Sm p0 p1 r' um) : SR ux um := sr_of (kx_when hx) (km_when hm) h
theorem sr_then {Sx ux : CX} {Sm um : CMx} {p0 : Int32} {p1 : Int32} {p2 : Int32} {r r' : Int32} (h : SR Sx Sm) (_ : xFact Sx) (_ : mFact Sm) (hx : xM_then Sx p0 p1 p2 r ux) (hm : mM_then Sm p0 p1 p2 r' um) : SR ux um := sr_of (kx_then hx) (km_then hm) h
theorem sr_latest {Sx ux : CX} {Sm um : CMx} {p0 : Int32} {p1 : Int32} {p2 : Int32} {r r' : Int32} (h : SR Sx Sm) (_ : xFact Sx) (_ : mFact Sm) (hx : xM_latest Sx p0 p1 p2 r ux) (hm : mM_latest Sm p0 p1 p2 r' um) : SR ux um := sr_of (kx_latest hx) (km_latest hm) h
theorem sr_spans {Sx ux : CX} {Sm um : CMx} {p0 : Int32} {p1 : Int32} {r r' : Int32} (h : SR Sx Sm) (_ : xFact Sx) (_ : mFact Sm) (hx : xM_spans Sx p0 p1 r ux) (hm : mM_spans Sm p0 p1 r' um) : SR ux um := sr_of (kx_spans hx) (km_spans hm) h
theorem sr_tells {Sx ux : CX} {Sm um : CMx} {p0 : Int32} {p1 : Int32} {p2 : Int32} {p3 : Int32} {p4 : Int32} {p5 : Int32} {r r' : Int32} (h : SR Sx Sm) (_ : xFact Sx) (_ : mFact Sm) (hx : xM_tells Sx p0 p1 p2 p3 p4 p5 r ux) (hm : mM_tells Sm p0 p1 p2 p3 p4 p5 r' um) : SR ux um := sr_of (kx_tells hx) (km_tells hm) h
theorem sr_replays {Sx ux : CX} {Sm um : CMx} {p0 : Int32} {r r' : Int32} (h : SR Sx Sm) (_ : xFact Sx) (_ : mFact Sm) (hx : xM_replays Sx p0 r ux) (hm : mM_replays Sm p0 r' um) : SR ux um := sr_of (kx_replays hx) (km_replays hm) h
theorem sr_within {Sx ux : CX} {Sm um : CMx} {p0 : Int32} {p1 : Int32} {r r' : Int32} (h : SR Sx Sm) (_ : xFact Sx) (_ : mFact Sm) (hx : xM_within Sx p0 p1 r ux) (hm : mM_within Sm p0 p1 r' um) : SR ux um := sr_of (kx_within hx) (km_within hm) h
theorem sr_bound {Sx ux : CX} {Sm um : CMx} {p0 : Int32} {p1 : Int32} {p2 : Int32} {p3 : Int32} {r r' : Int32} (h : SR Sx Sm) (_ : xFact Sx) (_ : mFact Sm) (hx : xM_bound Sx p0 p1 p2 p3 r ux) (hm : mM_bound Sm p0 p1 p2 p3 r' um) : SR ux um := sr_of (kx_bound hx) (km_bound hm) h
theorem sr_has {Sx ux : CX} {Sm um : CMx} {p0 : Int32} {p1 : Int32} {p2 : Int32} {p3 : Int32} {r r' : Int32} (h : SR Sx Sm) (_ : xFact Sx) (_ : mFact Sm) (hx : xM_has Sx p0 p1 p2 p3 r ux) (hm : mM_has Sm p0 p1 p2 p3 r' um) : SR ux um := sr_of (kx_has hx) (km_has hm) h
theorem sr_state {Sx ux : CX} {Sm um : CMx} {p0 : Int32} {p1 : Int32} {r r' : Int32} (h : SR Sx Sm) (_ : xFact Sx) (_ : mFact Sm) (hx : xM_state Sx p0 p1 r ux) (hm : mM_state Sm p0 p1 r' um) : SR ux um := sr_of (kx_state hx) (km_state hm) h
theorem sr_covered {Sx ux : CX} {Sm um : CMx} {p0 : Int32} {r r' : Int32} (h : SR Sx Sm) (_ : xFact Sx) (_ : mFact Sm) (hx : xM_covered Sx p0 r ux) (hm : mM_covered Sm p0 r' um) : SR ux um := sr_of (kx_covered hx) (km_covered hm) h
theorem sr_overlap {Sx ux : CX} {Sm um : CMx} {p0 : Int32} {p1 : Int32} {r r' : Int32} (h : SR Sx Sm) (_ : xFact Sx) (_ : mFact Sm) (hx : xM_overlap Sx p0 p1 r ux) (hm : mM_overlap Sm p0 p1 r' um) : SR ux um := sr_of (kx_overlap hx) (km_overlap hm) h
theorem sr_points {Sx ux : CX} {Sm um : CMx} {p0 : Int32} {r r' : Int32} (h : SR Sx Sm) (_ : xFact Sx) (_ : mFact Sm) (hx : xM_points Sx p0 r ux) (hm : mM_points Sm p0 r' um) : SR ux um := sr_of (kx_points hx) (km_points hm) h
theorem sr_clock {Sx : CX} {Sm um : CMx} {p0 r' : Int32} (h : SR Sx Sm) (_ : xFact Sx) (_ : mFact Sm) (hm : mM_clock Sm p0 r' um) : SR Sx um := sr_of rfl (km_clock hm) h
theorem kk_i {D : va_G} {tys : List (ClassId × FieldType)} {U : State} {c c' : ClassId} (hK : va_K D vwCl tys U) (h1 : (c, FieldType.int) ∈ tys) (h2 : (c', FieldType.int) ∈ tys) : c = c' := by
  obtain ⟨i, hi⟩ := List.getElem?_of_mem h1
  obtain ⟨j, hj⟩ := List.getElem?_of_mem h2
  have g1 : U.vm.findClass ("[" ++ FieldType.int.toString) = some c := (hK.2 i _ hi).2
  have g2 : U.vm.findClass ("[" ++ FieldType.int.toString) = some c' := (hK.2 j _ hj).2
  exact Option.some.inj (g1.symm.trans g2)
theorem kk_b {D : va_G} {tys : List (ClassId × FieldType)} {U : State} {c c' : ClassId} (hK : va_K D vwCl tys U) (h1 : (c, FieldType.boolean) ∈ tys) (h2 : (c', FieldType.boolean) ∈ tys) : c = c' := by
  obtain ⟨i, hi⟩ := List.getElem?_of_mem h1
  obtain ⟨j, hj⟩ := List.getElem?_of_mem h2
  have g1 : U.vm.findClass ("[" ++ FieldType.boolean.toString) = some c := (hK.2 i _ hi).2
  have g2 : U.vm.findClass ("[" ++ FieldType.boolean.toString) = some c' := (hK.2 j _ hj).2
  exact Option.some.inj (g1.symm.trans g2)
theorem kk_q {D : va_G} {tys : List (ClassId × FieldType)} {U : State} {C : String} {c c' : ClassId} (hK : va_K D vwCl tys U) (h1 : (c, FieldType.object C) ∈ tys) (h2 : (c', FieldType.object C) ∈ tys) : c = c' := by
  obtain ⟨i, hi⟩ := List.getElem?_of_mem h1
  obtain ⟨j, hj⟩ := List.getElem?_of_mem h2
  obtain ⟨-, -, -, -, -, g1⟩ := (hK.2 i _ hi).2
  obtain ⟨-, -, -, -, -, g2⟩ := (hK.2 j _ hj).2
  exact Option.some.inj (g1.symm.trans g2)
theorem zp_kc {n c N : Nat} {az ac : Nat → Nat} {kz : Nat → ClassId} {kI : ClassId} {q : Nat → Nat} {f : Nat → Nat → Int32} (h : ∀ j : Nat, j < N → kI = kz j) : zp n c N az ac kz q f = zp n c N az ac (fun _ => kI) q f := by
  unfold zp
  congr 1
  refine List.map_congr_left (fun j hj => ?_)
  unfold zpa
  rw [h j (List.mem_range.mp hj)]
theorem zt_in {N j : Nat} {kz : Nat → ClassId} (h : j < N) : (kz j, FieldType.int) ∈ zt N kz := List.mem_map.mpr ⟨j, List.mem_range.mpr h, rfl⟩
theorem m14 {x tp rd md dr hy g t u rm S ti py bu sm P0 P1 P2 P3 P4 : va_W} : ∀ q ∈ (x ++ (tp ++ (rd ++ (md ++ (dr ++ (hy ++ (g ++ (t ++ (u ++ (rm ++ (ti ++ (py ++ (bu ++ sm))))))))))))) ++ ((P1 ++ (P0 ++ (P3 ++ (P4 ++ S)))) ++ P2), q ∈ x ++ (sm ++ (bu ++ (py ++ (ti ++ (((rm ++ S) ++ (P4 ++ (P3 ++ []))) ++ ((u ++ (P2 ++ [])) ++ ((t ++ (P1 ++ [])) ++ ((g ++ (P0 ++ [])) ++ (hy ++ (dr ++ (md ++ (rd ++ (tp ++ []))))))))))))) := fun q hq => by
  simp only [List.mem_append] at hq ⊢
  rcases hq with (hq | hq | hq | hq | hq | hq | hq | hq | hq | hq | hq | hq | hq | hq) | ((hq | hq | hq | hq | hq) | hq) <;> simp only [hq, true_or, or_true]
theorem vP14 {D : va_G} {H : Heap} {x tp rd md dr hy g t u rm S ti py bu sm P0 P1 P2 P3 P4 : va_W} (h : va_P D vwCl (x ++ (sm ++ (bu ++ (py ++ (ti ++ (((rm ++ S) ++ (P4 ++ (P3 ++ []))) ++ ((u ++ (P2 ++ [])) ++ ((t ++ (P1 ++ [])) ++ ((g ++ (P0 ++ [])) ++ (hy ++ (dr ++ (md ++ (rd ++ (tp ++ [])))))))))))))) H) : va_P D vwCl ((x ++ (tp ++ (rd ++ (md ++ (dr ++ (hy ++ (g ++ (t ++ (u ++ (rm ++ (ti ++ (py ++ (bu ++ sm))))))))))))) ++ ((P1 ++ (P0 ++ (P3 ++ (P4 ++ S)))) ++ P2)) H := wm_P m14 h
theorem vD14 {A : Nat → Prop} {x tp rd md dr hy g t u rm S ti py bu sm P0 P1 P2 P3 P4 : va_W} (h : va_D A (x ++ (sm ++ (bu ++ (py ++ (ti ++ (((rm ++ S) ++ (P4 ++ (P3 ++ []))) ++ ((u ++ (P2 ++ [])) ++ ((t ++ (P1 ++ [])) ++ ((g ++ (P0 ++ [])) ++ (hy ++ (dr ++ (md ++ (rd ++ (tp ++ []))))))))))))))) : va_D A ((x ++ (tp ++ (rd ++ (md ++ (dr ++ (hy ++ (g ++ (t ++ (u ++ (rm ++ (ti ++ (py ++ (bu ++ sm))))))))))))) ++ ((P1 ++ (P0 ++ (P3 ++ (P4 ++ S)))) ++ P2)) := vD_of ((List.perm_iff_count.mpr (fun a => by
  simp only [List.map_append, List.count_append, List.map_nil, List.count_nil]
  omega)).nodup (vD_nd h)) (fun q hq => by
  obtain ⟨k, hk⟩ := List.getElem?_of_mem (m14 q hq)
  exact h.2 k q hk)
theorem zp_one {n c q q1 : Nat} {k1 : ClassId} : ([(q, .inr (7, [.ref q1, .int 0])), (q1, .inl (k1, c, .inl (fun _ => 0)))] : va_W) = zp n c 1 (fun _ => q) (fun _ => q1) (fun _ => k1) q0z f0z := by
  have h := zp_succ (n := n) (c := c) (i := 0) (q := q) (q1 := q1) (k1 := k1) (az := fun _ => q) (ac := fun _ => q1) (kz := fun _ => k1)
  have e1 : pz 0 q (fun _ => q) = fun _ => q := by funext j; unfold pz; split <;> rfl
  have e2 : pz 0 q1 (fun _ => q1) = fun _ => q1 := by funext j; unfold pz; split <;> rfl
  have e3 : pz 0 k1 (fun _ => k1) = fun _ => k1 := by funext j; unfold pz; split <;> rfl
  rw [e1, e2, e3] at h
  exact h.symm
theorem ct2_k {kI : ClassId} {a : Nat} : ct2 a (fun _ => kI) (fun _ => kI) = fun _ => kI := by
  funext j
  unfold ct2
  split <;> rfl
theorem vD_self {A : Nat → Prop} {ws : va_W} (h : va_D A ws) : va_D (fun q => q ∈ ws.map Prod.fst) ws := ⟨h.1, fun _ q hq => List.mem_map.mpr ⟨q, List.mem_of_getElem? hq, rfl⟩⟩
theorem b2_z : (fun _ => 0 : Nat → Int32) = b2 0 0 := by
  funext i
  unfold b2
  split
  · rfl
  · split <;> rfl
theorem bH_z : (fun _ => 0 : Nat → Int32) = bH (fun _ => 0) := by
  funext i
  unfold bH
  rw [Nat.zero_min]
  rfl
theorem bA_z {h : Nat} : (fun _ => 0 : Nat → Int32) = bA h (fun _ => 0) := by
  funext i
  unfold bA
  rw [if_pos (Nat.zero_le _)]
  rfl
theorem b2m_z : upd (upd (fun _ => 0) (0 : Int32).toNatClampNeg (-1)) (1 : Int32).toNatClampNeg (-1) = b2m 0 0 := by
  have h : (fun _ => 0 : Nat → Int32) = fun i => if i = 0 then 0 else if i = 1 then 0 else 0 := by
    funext i
    split
    · rfl
    · split <;> rfl
  funext i
  have e0 : (0 : Int32).toNatClampNeg = 0 := by decide
  have e1 : (1 : Int32).toNatClampNeg = 1 := by decide
  rw [e0, e1]
  unfold upd b2m mI
  by_cases h1 : i = 1
  · rw [if_pos h1, if_neg (by omega), if_pos h1, if_pos rfl]
  · rw [if_neg h1]
    by_cases h0 : i = 0
    · rw [if_pos h0, if_pos h0, if_pos rfl]
    · rw [if_neg h0, if_neg h0, if_neg h1]
theorem mi_keep {D : va_G} {kI kB : ClassId} {ma : Nat} {MA : Nat → Prop} {S : CMx} {H H1 : Heap} (h : MInv D kI kB ma MA S H) (hk : ∀ q : Nat, q < H.size → MA q → H1[q]? = H[q]?) : MInv D kI kB ma MA S H1 := by
  obtain ⟨nv, iv, fv, qv⟩ := S
  obtain ⟨⟨hr, hbg, hgr⟩, ad, rfl, hP, hD⟩ := h
  have hP2 := hP.kept (H1 := H1) (fun k q hq => hk q.1 (hP k q hq).lt (hD.2 k q hq))
  exact ⟨⟨hr, hbg, hgr⟩, ad, rfl, hP2, hD⟩
theorem mi_recv {D : va_G} {kI kB : ClassId} {ma : Nat} {MA : Nat → Prop} {S : CMx} {H : Heap} (h : MInv D kI kB ma MA S H) : ∃ fs : List Value, va_P D vwCl [(ma, .inr (9, fs))] H := by
  obtain ⟨nv, iv, fv, qv⟩ := S
  obtain ⟨⟨hr, hbg, hgr⟩, ad, rfl, hP, hD⟩ := h
  exact ⟨_, hP.sub [0] rfl⟩
